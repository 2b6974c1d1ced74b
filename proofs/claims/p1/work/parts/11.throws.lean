abbrev c_TT_numbered : ByteArray := prog_1_method_26_code
abbrev y_TT_numbered : MethodName := ⟨"TwinTuners", "numbered", "(I)LTwinTuners$Request;"⟩
def w_TT_numbered : List Cond := .code y_TT_numbered c_TT_numbered 2 (some (.object "TwinTuners$Request")) :: tb_
abbrev c_TT_recordingNumbered : ByteArray := prog_1_method_27_code
abbrev y_TT_recordingNumbered : MethodName := ⟨"TwinTuners", "recordingNumbered", "(I)LTwinTuners$Request;"⟩
def w_TT_recordingNumbered : List Cond := .code y_TT_recordingNumbered c_TT_recordingNumbered 3 (some (.object "TwinTuners$Request")) :: tb_
abbrev c_TT_cancel : ByteArray := prog_1_method_3_code
abbrev y_TT_cancel : MethodName := ⟨"TwinTuners", "cancel", "(I)V"⟩
def w_TT_cancel : List Cond := .code y_TT_cancel c_TT_cancel 3 none :: tb_
abbrev c_TT_state : ByteArray := prog_1_method_4_code
abbrev y_TT_state : MethodName := ⟨"TwinTuners", "state", "(I)I"⟩
def w_TT_state : List Cond := .code y_TT_state c_TT_state 2 (some .int) :: tb_
abbrev c_TT_planFrom : ByteArray := prog_1_method_5_code
abbrev y_TT_planFrom : MethodName := ⟨"TwinTuners", "planFrom", "(I)I"⟩
def w_TT_planFrom : List Cond := .code y_TT_planFrom c_TT_planFrom 3 (some .int) :: tb_
abbrev c_TT_planTo : ByteArray := prog_1_method_6_code
abbrev y_TT_planTo : MethodName := ⟨"TwinTuners", "planTo", "(I)I"⟩
def w_TT_planTo : List Cond := .code y_TT_planTo c_TT_planTo 3 (some .int) :: tb_
abbrev c_TT_recorded : ByteArray := prog_1_method_14_code
abbrev y_TT_recorded : MethodName := ⟨"TwinTuners", "recorded", "(I)I"⟩
def w_TT_recorded : List Cond := .code y_TT_recorded c_TT_recorded 2 (some .int) :: tb_
abbrev c_TT_shortBy : ByteArray := prog_1_method_15_code
abbrev y_TT_shortBy : MethodName := ⟨"TwinTuners", "shortBy", "(I)I"⟩
def w_TT_shortBy : List Cond := .code y_TT_shortBy c_TT_shortBy 2 (some .int) :: tb_
abbrev c_TT_erase : ByteArray := prog_1_method_18_code
abbrev y_TT_erase : MethodName := ⟨"TwinTuners", "erase", "(I)I"⟩
def w_TT_erase : List Cond := .code y_TT_erase c_TT_erase 3 (some .int) :: tb_
abbrev c_TT_word : ByteArray := prog_1_method_13_code
abbrev y_TT_word : MethodName := ⟨"TwinTuners", "word", "(II)J"⟩
def w_TT_word : List Cond := .code y_TT_word c_TT_word 3 (some .long) :: tb_
abbrev c_TT_bookmark : ByteArray := prog_1_method_20_code
abbrev y_TT_bookmark : MethodName := ⟨"TwinTuners", "bookmark", "(II)I"⟩
def w_TT_bookmark : List Cond := .code y_TT_bookmark c_TT_bookmark 4 (some .int) :: tb_
abbrev c_TT_bookmarkAt : ByteArray := prog_1_method_21_code
abbrev y_TT_bookmarkAt : MethodName := ⟨"TwinTuners", "bookmarkAt", "(II)I"⟩
def w_TT_bookmarkAt : List Cond := .code y_TT_bookmarkAt c_TT_bookmarkAt 4 (some .int) :: tb_
abbrev c_TT_protect : ByteArray := prog_1_method_16_code
abbrev y_TT_protect : MethodName := ⟨"TwinTuners", "protect", "(IZ)V"⟩
def w_TT_protect : List Cond := .code y_TT_protect c_TT_protect 3 none :: tb_
abbrev c_TT_seen : ByteArray := prog_1_method_17_code
abbrev y_TT_seen : MethodName := ⟨"TwinTuners", "seen", "(IZ)V"⟩
def w_TT_seen : List Cond := .code y_TT_seen c_TT_seen 3 none :: tb_
abbrev c_TT_air : ByteArray := prog_1_method_7_code
abbrev y_TT_air : MethodName := ⟨"TwinTuners", "air", "(II)V"⟩
def w_TT_air : List Cond := .code y_TT_air c_TT_air 3 none :: tb_
abbrev c_TT_watch : ByteArray := prog_1_method_11_code
abbrev y_TT_watch : MethodName := ⟨"TwinTuners", "watch", "(I)I"⟩
def w_TT_watch : List Cond := .code y_TT_watch c_TT_watch 3 (some .int) :: tb_
abbrev c_TT_ticks : ByteArray := prog_1_method_9_code
abbrev y_TT_ticks : MethodName := ⟨"TwinTuners", "ticks", "(I)I"⟩
def w_TT_ticks : List Cond := .code y_TT_ticks c_TT_ticks 4 (some .int) :: tb_
abbrev c_TT_cut : ByteArray := prog_1_method_22_code
abbrev y_TT_cut : MethodName := ⟨"TwinTuners", "cut", "(I)I"⟩
def w_TT_cut : List Cond := .code y_TT_cut c_TT_cut 5 (some .int) :: tb_
abbrev c_TT_request : ByteArray := prog_1_method_2_code
abbrev y_TT_request : MethodName := ⟨"TwinTuners", "request", "(IIIII)I"⟩
def w_TT_request : List Cond := .code y_TT_request c_TT_request 7 (some .int) :: tb_
set_option maxRecDepth 100000 in
theorem tb_6 : (.initialized "java/lang/Throwable" : Cond) ∈ tb_ := tb_w 6 rfl rfl
set_option maxRecDepth 100000 in
theorem tb_9 : (.initialized "java/lang/IllegalArgumentException" : Cond) ∈ tb_ := tb_w 9 rfl rfl
set_option maxRecDepth 100000 in
theorem tb_12 : (.initialized "java/lang/IndexOutOfBoundsException" : Cond) ∈ tb_ := tb_w 12 rfl rfl
set_option maxRecDepth 100000 in
theorem tb_21 : (.instanceMethod ⟨"java/lang/Object", "<init>", "()V"⟩ : Cond) ∈ tb_ := tb_w 21 rfl rfl
set_option maxRecDepth 100000 in
theorem tb_22 : (.code ⟨"java/lang/Object", "<init>", "()V"⟩ object_method_1_code 1 none : Cond) ∈ tb_ := tb_w 22 rfl rfl
set_option maxRecDepth 100000 in
theorem tb_78 : (.fieldLink "TwinTuners" 29 "TwinTuners" "disk" "LTwinTuners$Disk;" : Cond) ∈ tb_ := tb_w 78 rfl rfl
set_option maxRecDepth 100000 in
theorem tb_269 : (.code ⟨"TwinTuners", "request", "(IIIII)I"⟩ prog_1_method_2_code 7 (some .int) : Cond) ∈ tb_ := tb_w 269 rfl rfl
set_option maxRecDepth 100000 in
theorem tb_270 : (.methodLink "TwinTuners" 50 ⟨"TwinTuners", "isChannel", "(I)Z"⟩ : Cond) ∈ tb_ := tb_w 270 rfl rfl
set_option maxRecDepth 100000 in
theorem tb_271 : (.static ⟨"TwinTuners", "isChannel", "(I)Z"⟩ : Cond) ∈ tb_ := tb_w 271 rfl rfl
set_option maxRecDepth 100000 in
theorem tb_274 : (.methodLink "TwinTuners" 54 ⟨"TwinTuners", "isAhead", "(I)Z"⟩ : Cond) ∈ tb_ := tb_w 274 rfl rfl
set_option maxRecDepth 100000 in
theorem tb_276 : (.instanceMethod ⟨"TwinTuners", "isAhead", "(I)Z"⟩ : Cond) ∈ tb_ := tb_w 276 rfl rfl
set_option maxRecDepth 100000 in
theorem tb_278 : (.classLink "TwinTuners" 61 "java/lang/IllegalArgumentException" : Cond) ∈ tb_ := tb_w 278 rfl rfl
set_option maxRecDepth 100000 in
theorem tb_279 : (.instantiable "java/lang/IllegalArgumentException" 6 : Cond) ∈ tb_ := tb_w 279 rfl rfl
set_option maxRecDepth 100000 in
theorem tb_287 : (.selects "java/lang/IllegalArgumentException" ⟨"java/lang/Throwable", "fillInStackTrace", "(I)Ljava/lang/Throwable;"⟩ ⟨"java/lang/Throwable", "fillInStackTrace", "(I)Ljava/lang/Throwable;"⟩ : Cond) ∈ tb_ := tb_w 287 rfl rfl
set_option maxRecDepth 100000 in
theorem tb_288 : (.selects "java/lang/IllegalArgumentException" ⟨"java/lang/Throwable", "fillInStackTrace", "()Ljava/lang/Throwable;"⟩ ⟨"java/lang/Throwable", "fillInStackTrace", "()Ljava/lang/Throwable;"⟩ : Cond) ∈ tb_ := tb_w 288 rfl rfl
set_option maxRecDepth 100000 in
theorem tb_289 : (.lays "java/lang/IllegalArgumentException" "java/lang/Throwable" "cause" "Ljava/lang/Throwable;" : Cond) ∈ tb_ := tb_w 289 rfl rfl
set_option maxRecDepth 100000 in
theorem tb_290 : (.lays "java/lang/Throwable" "java/lang/Throwable" "cause" "Ljava/lang/Throwable;" : Cond) ∈ tb_ := tb_w 290 rfl rfl
set_option maxRecDepth 100000 in
theorem tb_291 : (.lays "java/lang/IllegalArgumentException" "java/lang/Throwable" "stackTrace" "[Ljava/lang/StackTraceElement;" : Cond) ∈ tb_ := tb_w 291 rfl rfl
set_option maxRecDepth 100000 in
theorem tb_292 : (.lays "java/lang/Throwable" "java/lang/Throwable" "stackTrace" "[Ljava/lang/StackTraceElement;" : Cond) ∈ tb_ := tb_w 292 rfl rfl
set_option maxRecDepth 100000 in
theorem tb_293 : (.lays "java/lang/IllegalArgumentException" "java/lang/Throwable" "suppressedExceptions" "Ljava/util/List;" : Cond) ∈ tb_ := tb_w 293 rfl rfl
set_option maxRecDepth 100000 in
theorem tb_294 : (.lays "java/lang/Throwable" "java/lang/Throwable" "suppressedExceptions" "Ljava/util/List;" : Cond) ∈ tb_ := tb_w 294 rfl rfl
set_option maxRecDepth 100000 in
theorem tb_295 : (.lays "java/lang/IllegalArgumentException" "java/lang/Throwable" "detailMessage" "Ljava/lang/String;" : Cond) ∈ tb_ := tb_w 295 rfl rfl
set_option maxRecDepth 100000 in
theorem tb_296 : (.lays "java/lang/Throwable" "java/lang/Throwable" "detailMessage" "Ljava/lang/String;" : Cond) ∈ tb_ := tb_w 296 rfl rfl
set_option maxRecDepth 100000 in
theorem tb_297 : (.lays "java/lang/IllegalArgumentException" "java/lang/Throwable" "backtrace" "Ljava/lang/Object;" : Cond) ∈ tb_ := tb_w 297 rfl rfl
set_option maxRecDepth 100000 in
theorem tb_298 : (.lays "java/lang/Throwable" "java/lang/Throwable" "backtrace" "Ljava/lang/Object;" : Cond) ∈ tb_ := tb_w 298 rfl rfl
set_option maxRecDepth 100000 in
theorem tb_299 : (.fieldLink "java/lang/Throwable" 198 "java/lang/Throwable" "backtrace" "Ljava/lang/Object;" : Cond) ∈ tb_ := tb_w 299 rfl rfl
set_option maxRecDepth 100000 in
theorem tb_300 : (.superclass "java/lang/Throwable" "java/lang/Object" : Cond) ∈ tb_ := tb_w 300 rfl rfl
set_option maxRecDepth 100000 in
theorem tb_301 : (.instanceMethod ⟨"java/lang/Throwable", "<init>", "()V"⟩ : Cond) ∈ tb_ := tb_w 301 rfl rfl
set_option maxRecDepth 100000 in
theorem tb_302 : (.code ⟨"java/lang/Throwable", "<init>", "()V"⟩ prog_16_method_1_code 1 none : Cond) ∈ tb_ := tb_w 302 rfl rfl
set_option maxRecDepth 100000 in
theorem tb_303 : (.methodLink "java/lang/Throwable" 1 ⟨"java/lang/Object", "<init>", "()V"⟩ : Cond) ∈ tb_ := tb_w 303 rfl rfl
set_option maxRecDepth 100000 in
theorem tb_304 : (.fieldLink "java/lang/Throwable" 13 "java/lang/Throwable" "UNASSIGNED_STACK" "[Ljava/lang/StackTraceElement;" : Cond) ∈ tb_ := tb_w 304 rfl rfl
set_option maxRecDepth 100000 in
theorem tb_306 : (.fieldLink "java/lang/Throwable" 20 "java/lang/Throwable" "SUPPRESSED_SENTINEL" "Ljava/util/List;" : Cond) ∈ tb_ := tb_w 306 rfl rfl
set_option maxRecDepth 100000 in
theorem tb_308 : (.methodLink "java/lang/Throwable" 27 ⟨"java/lang/Throwable", "fillInStackTrace", "()Ljava/lang/Throwable;"⟩ : Cond) ∈ tb_ := tb_w 308 rfl rfl
set_option maxRecDepth 100000 in
theorem tb_309 : (.instanceMethod ⟨"java/lang/Throwable", "fillInStackTrace", "()Ljava/lang/Throwable;"⟩ : Cond) ∈ tb_ := tb_w 309 rfl rfl
set_option maxRecDepth 100000 in
theorem tb_312 : (.selects "java/lang/IndexOutOfBoundsException" ⟨"java/lang/Throwable", "fillInStackTrace", "()Ljava/lang/Throwable;"⟩ ⟨"java/lang/Throwable", "fillInStackTrace", "()Ljava/lang/Throwable;"⟩ : Cond) ∈ tb_ := tb_w 312 rfl rfl
set_option maxRecDepth 100000 in
theorem tb_313 : (.codeSync ⟨"java/lang/Throwable", "fillInStackTrace", "()Ljava/lang/Throwable;"⟩ prog_16_method_18_code 1 (some (.object "java/lang/Throwable")) : Cond) ∈ tb_ := tb_w 313 rfl rfl
set_option maxRecDepth 100000 in
theorem tb_314 : (.methodLink "java/lang/Throwable" 202 ⟨"java/lang/Throwable", "fillInStackTrace", "(I)Ljava/lang/Throwable;"⟩ : Cond) ∈ tb_ := tb_w 314 rfl rfl
set_option maxRecDepth 100000 in
theorem tb_316 : (.instanceMethod ⟨"java/lang/Throwable", "fillInStackTrace", "(I)Ljava/lang/Throwable;"⟩ : Cond) ∈ tb_ := tb_w 316 rfl rfl
set_option maxRecDepth 100000 in
theorem tb_318 : (.native ⟨"java/lang/Throwable", "fillInStackTrace", "(I)Ljava/lang/Throwable;"⟩ : Cond) ∈ tb_ := tb_w 318 rfl rfl
set_option maxRecDepth 100000 in
theorem tb_320 : (.methodLink "TwinTuners" 65 ⟨"java/lang/IllegalArgumentException", "<init>", "(Ljava/lang/String;)V"⟩ : Cond) ∈ tb_ := tb_w 320 rfl rfl
set_option maxRecDepth 100000 in
theorem tb_321 : (.instanceMethod ⟨"java/lang/IllegalArgumentException", "<init>", "(Ljava/lang/String;)V"⟩ : Cond) ∈ tb_ := tb_w 321 rfl rfl
set_option maxRecDepth 100000 in
theorem tb_322 : (.code ⟨"java/lang/IllegalArgumentException", "<init>", "(Ljava/lang/String;)V"⟩ prog_9_method_2_code 2 none : Cond) ∈ tb_ := tb_w 322 rfl rfl
set_option maxRecDepth 100000 in
theorem tb_323 : (.methodLink "java/lang/IllegalArgumentException" 7 ⟨"java/lang/RuntimeException", "<init>", "(Ljava/lang/String;)V"⟩ : Cond) ∈ tb_ := tb_w 323 rfl rfl
set_option maxRecDepth 100000 in
theorem tb_324 : (.instanceMethod ⟨"java/lang/RuntimeException", "<init>", "(Ljava/lang/String;)V"⟩ : Cond) ∈ tb_ := tb_w 324 rfl rfl
set_option maxRecDepth 100000 in
theorem tb_325 : (.code ⟨"java/lang/RuntimeException", "<init>", "(Ljava/lang/String;)V"⟩ prog_14_method_2_code 2 none : Cond) ∈ tb_ := tb_w 325 rfl rfl
set_option maxRecDepth 100000 in
theorem tb_326 : (.methodLink "java/lang/RuntimeException" 7 ⟨"java/lang/Exception", "<init>", "(Ljava/lang/String;)V"⟩ : Cond) ∈ tb_ := tb_w 326 rfl rfl
set_option maxRecDepth 100000 in
theorem tb_327 : (.instanceMethod ⟨"java/lang/Exception", "<init>", "(Ljava/lang/String;)V"⟩ : Cond) ∈ tb_ := tb_w 327 rfl rfl
set_option maxRecDepth 100000 in
theorem tb_328 : (.code ⟨"java/lang/Exception", "<init>", "(Ljava/lang/String;)V"⟩ prog_8_method_2_code 2 none : Cond) ∈ tb_ := tb_w 328 rfl rfl
set_option maxRecDepth 100000 in
theorem tb_329 : (.methodLink "java/lang/Exception" 7 ⟨"java/lang/Throwable", "<init>", "(Ljava/lang/String;)V"⟩ : Cond) ∈ tb_ := tb_w 329 rfl rfl
set_option maxRecDepth 100000 in
theorem tb_330 : (.instanceMethod ⟨"java/lang/Throwable", "<init>", "(Ljava/lang/String;)V"⟩ : Cond) ∈ tb_ := tb_w 330 rfl rfl
set_option maxRecDepth 100000 in
theorem tb_331 : (.code ⟨"java/lang/Throwable", "<init>", "(Ljava/lang/String;)V"⟩ prog_16_method_2_code 2 none : Cond) ∈ tb_ := tb_w 331 rfl rfl
set_option maxRecDepth 100000 in
theorem tb_333 : (.fieldLink "java/lang/Throwable" 31 "java/lang/Throwable" "detailMessage" "Ljava/lang/String;" : Cond) ∈ tb_ := tb_w 333 rfl rfl
set_option maxRecDepth 100000 in
theorem tb_334 : (.fieldLink "java/lang/Throwable" 7 "java/lang/Throwable" "cause" "Ljava/lang/Throwable;" : Cond) ∈ tb_ := tb_w 334 rfl rfl
set_option maxRecDepth 100000 in
theorem tb_335 : (.fieldLink "java/lang/Throwable" 17 "java/lang/Throwable" "stackTrace" "[Ljava/lang/StackTraceElement;" : Cond) ∈ tb_ := tb_w 335 rfl rfl
set_option maxRecDepth 100000 in
theorem tb_336 : (.fieldLink "java/lang/Throwable" 24 "java/lang/Throwable" "suppressedExceptions" "Ljava/util/List;" : Cond) ∈ tb_ := tb_w 336 rfl rfl
set_option maxRecDepth 100000 in
theorem tb_455 : (.code ⟨"TwinTuners", "cancel", "(I)V"⟩ prog_1_method_3_code 3 none : Cond) ∈ tb_ := tb_w 455 rfl rfl
set_option maxRecDepth 100000 in
theorem tb_456 : (.methodLink "TwinTuners" 80 ⟨"TwinTuners", "numbered", "(I)LTwinTuners$Request;"⟩ : Cond) ∈ tb_ := tb_w 456 rfl rfl
set_option maxRecDepth 100000 in
theorem tb_458 : (.instanceMethod ⟨"TwinTuners", "numbered", "(I)LTwinTuners$Request;"⟩ : Cond) ∈ tb_ := tb_w 458 rfl rfl
set_option maxRecDepth 100000 in
theorem tb_459 : (.code ⟨"TwinTuners", "numbered", "(I)LTwinTuners$Request;"⟩ prog_1_method_26_code 2 (some (.object "TwinTuners$Request")) : Cond) ∈ tb_ := tb_w 459 rfl rfl
set_option maxRecDepth 100000 in
theorem tb_460 : (.classLink "TwinTuners" 116 "java/lang/IndexOutOfBoundsException" : Cond) ∈ tb_ := tb_w 460 rfl rfl
set_option maxRecDepth 100000 in
theorem tb_461 : (.instantiable "java/lang/IndexOutOfBoundsException" 6 : Cond) ∈ tb_ := tb_w 461 rfl rfl
set_option maxRecDepth 100000 in
theorem tb_463 : (.selects "java/lang/IndexOutOfBoundsException" ⟨"java/lang/Throwable", "fillInStackTrace", "(I)Ljava/lang/Throwable;"⟩ ⟨"java/lang/Throwable", "fillInStackTrace", "(I)Ljava/lang/Throwable;"⟩ : Cond) ∈ tb_ := tb_w 463 rfl rfl
set_option maxRecDepth 100000 in
theorem tb_464 : (.lays "java/lang/IndexOutOfBoundsException" "java/lang/Throwable" "cause" "Ljava/lang/Throwable;" : Cond) ∈ tb_ := tb_w 464 rfl rfl
set_option maxRecDepth 100000 in
theorem tb_465 : (.lays "java/lang/IndexOutOfBoundsException" "java/lang/Throwable" "stackTrace" "[Ljava/lang/StackTraceElement;" : Cond) ∈ tb_ := tb_w 465 rfl rfl
set_option maxRecDepth 100000 in
theorem tb_466 : (.lays "java/lang/IndexOutOfBoundsException" "java/lang/Throwable" "suppressedExceptions" "Ljava/util/List;" : Cond) ∈ tb_ := tb_w 466 rfl rfl
set_option maxRecDepth 100000 in
theorem tb_467 : (.lays "java/lang/IndexOutOfBoundsException" "java/lang/Throwable" "detailMessage" "Ljava/lang/String;" : Cond) ∈ tb_ := tb_w 467 rfl rfl
set_option maxRecDepth 100000 in
theorem tb_468 : (.lays "java/lang/IndexOutOfBoundsException" "java/lang/Throwable" "backtrace" "Ljava/lang/Object;" : Cond) ∈ tb_ := tb_w 468 rfl rfl
set_option maxRecDepth 100000 in
theorem tb_470 : (.methodLink "TwinTuners" 120 ⟨"java/lang/IndexOutOfBoundsException", "<init>", "(Ljava/lang/String;)V"⟩ : Cond) ∈ tb_ := tb_w 470 rfl rfl
set_option maxRecDepth 100000 in
theorem tb_471 : (.instanceMethod ⟨"java/lang/IndexOutOfBoundsException", "<init>", "(Ljava/lang/String;)V"⟩ : Cond) ∈ tb_ := tb_w 471 rfl rfl
set_option maxRecDepth 100000 in
theorem tb_472 : (.code ⟨"java/lang/IndexOutOfBoundsException", "<init>", "(Ljava/lang/String;)V"⟩ prog_11_method_2_code 2 none : Cond) ∈ tb_ := tb_w 472 rfl rfl
set_option maxRecDepth 100000 in
theorem tb_473 : (.methodLink "java/lang/IndexOutOfBoundsException" 7 ⟨"java/lang/RuntimeException", "<init>", "(Ljava/lang/String;)V"⟩ : Cond) ∈ tb_ := tb_w 473 rfl rfl
set_option maxRecDepth 100000 in
theorem tb_487 : (.code ⟨"TwinTuners", "state", "(I)I"⟩ prog_1_method_4_code 2 (some .int) : Cond) ∈ tb_ := tb_w 487 rfl rfl
set_option maxRecDepth 100000 in
theorem tb_494 : (.code ⟨"TwinTuners", "planFrom", "(I)I"⟩ prog_1_method_5_code 3 (some .int) : Cond) ∈ tb_ := tb_w 494 rfl rfl
set_option maxRecDepth 100000 in
theorem tb_502 : (.code ⟨"TwinTuners", "planTo", "(I)I"⟩ prog_1_method_6_code 3 (some .int) : Cond) ∈ tb_ := tb_w 502 rfl rfl
set_option maxRecDepth 100000 in
theorem tb_509 : (.code ⟨"TwinTuners", "air", "(II)V"⟩ prog_1_method_7_code 3 none : Cond) ∈ tb_ := tb_w 509 rfl rfl
set_option maxRecDepth 100000 in
theorem tb_517 : (.code ⟨"TwinTuners", "ticks", "(I)I"⟩ prog_1_method_9_code 4 (some .int) : Cond) ∈ tb_ := tb_w 517 rfl rfl
set_option maxRecDepth 100000 in
theorem tb_525 : (.code ⟨"TwinTuners", "watch", "(I)I"⟩ prog_1_method_11_code 3 (some .int) : Cond) ∈ tb_ := tb_w 525 rfl rfl
set_option maxRecDepth 100000 in
theorem tb_532 : (.code ⟨"TwinTuners", "word", "(II)J"⟩ prog_1_method_13_code 3 (some .long) : Cond) ∈ tb_ := tb_w 532 rfl rfl
set_option maxRecDepth 100000 in
theorem tb_546 : (.code ⟨"TwinTuners", "recorded", "(I)I"⟩ prog_1_method_14_code 2 (some .int) : Cond) ∈ tb_ := tb_w 546 rfl rfl
set_option maxRecDepth 100000 in
theorem tb_558 : (.code ⟨"TwinTuners", "shortBy", "(I)I"⟩ prog_1_method_15_code 2 (some .int) : Cond) ∈ tb_ := tb_w 558 rfl rfl
set_option maxRecDepth 100000 in
theorem tb_565 : (.code ⟨"TwinTuners", "protect", "(IZ)V"⟩ prog_1_method_16_code 3 none : Cond) ∈ tb_ := tb_w 565 rfl rfl
set_option maxRecDepth 100000 in
theorem tb_566 : (.methodLink "TwinTuners" 150 ⟨"TwinTuners", "recordingNumbered", "(I)LTwinTuners$Request;"⟩ : Cond) ∈ tb_ := tb_w 566 rfl rfl
set_option maxRecDepth 100000 in
theorem tb_568 : (.instanceMethod ⟨"TwinTuners", "recordingNumbered", "(I)LTwinTuners$Request;"⟩ : Cond) ∈ tb_ := tb_w 568 rfl rfl
set_option maxRecDepth 100000 in
theorem tb_569 : (.code ⟨"TwinTuners", "recordingNumbered", "(I)LTwinTuners$Request;"⟩ prog_1_method_27_code 3 (some (.object "TwinTuners$Request")) : Cond) ∈ tb_ := tb_w 569 rfl rfl
set_option maxRecDepth 100000 in
theorem tb_581 : (.code ⟨"TwinTuners", "seen", "(IZ)V"⟩ prog_1_method_17_code 3 none : Cond) ∈ tb_ := tb_w 581 rfl rfl
set_option maxRecDepth 100000 in
theorem tb_588 : (.code ⟨"TwinTuners", "erase", "(I)I"⟩ prog_1_method_18_code 3 (some .int) : Cond) ∈ tb_ := tb_w 588 rfl rfl
set_option maxRecDepth 100000 in
theorem tb_596 : (.code ⟨"TwinTuners", "bookmark", "(II)I"⟩ prog_1_method_20_code 4 (some .int) : Cond) ∈ tb_ := tb_w 596 rfl rfl
set_option maxRecDepth 100000 in
theorem tb_609 : (.code ⟨"TwinTuners", "bookmarkAt", "(II)I"⟩ prog_1_method_21_code 4 (some .int) : Cond) ∈ tb_ := tb_w 609 rfl rfl
set_option maxRecDepth 100000 in
theorem tb_616 : (.code ⟨"TwinTuners", "cut", "(I)I"⟩ prog_1_method_22_code 5 (some .int) : Cond) ∈ tb_ := tb_w 616 rfl rfl
theorem ts_17 : (.selects "TwinTuners" ⟨"TwinTuners", "isAhead", "(I)Z"⟩ ⟨"TwinTuners", "isAhead", "(I)Z"⟩ : Cond) ∈ tb_ := ts_w 17 rfl rfl
theorem ts_20 : (.selects "TwinTuners" ⟨"TwinTuners", "numbered", "(I)LTwinTuners$Request;"⟩ ⟨"TwinTuners", "numbered", "(I)LTwinTuners$Request;"⟩ : Cond) ∈ tb_ := ts_w 20 rfl rfl
theorem ts_21 : (.selects "TwinTuners" ⟨"TwinTuners", "recordingNumbered", "(I)LTwinTuners$Request;"⟩ ⟨"TwinTuners", "recordingNumbered", "(I)LTwinTuners$Request;"⟩ : Cond) ∈ tb_ := ts_w 21 rfl rfl
theorem d_TT_air_0 : decode c_TT_air 0 = .ok (.iload_n 1, 1) := by decide +kernel
theorem d_TT_air_1 : decode c_TT_air 1 = .ok (.invokestatic 50, 3) := by decide +kernel
theorem d_TT_air_4 : decode c_TT_air 4 = .ok (.ifCond .ne 13, 3) := by decide +kernel
theorem d_TT_air_7 : decode c_TT_air 7 = .ok (.new 116, 3) := by decide +kernel
theorem d_TT_air_10 : decode c_TT_air 10 = .ok (.dup, 1) := by decide +kernel
theorem d_TT_air_11 : decode c_TT_air 11 = .ok (.ldc 118, 2) := by decide +kernel
theorem d_TT_air_13 : decode c_TT_air 13 = .ok (.invokespecial 120, 3) := by decide +kernel
theorem d_TT_air_16 : decode c_TT_air 16 = .ok (.athrow, 1) := by decide +kernel
theorem d_TT_bookmark_0 : decode c_TT_bookmark 0 = .ok (.aload_n 0, 1) := by decide +kernel
theorem d_TT_bookmark_1 : decode c_TT_bookmark 1 = .ok (.iload_n 1, 1) := by decide +kernel
theorem d_TT_bookmark_2 : decode c_TT_bookmark 2 = .ok (.invokevirtual 80, 3) := by decide +kernel
theorem d_TT_bookmarkAt_0 : decode c_TT_bookmarkAt 0 = .ok (.aload_n 0, 1) := by decide +kernel
theorem d_TT_bookmarkAt_1 : decode c_TT_bookmarkAt 1 = .ok (.iload_n 1, 1) := by decide +kernel
theorem d_TT_bookmarkAt_2 : decode c_TT_bookmarkAt 2 = .ok (.invokevirtual 80, 3) := by decide +kernel
theorem d_TT_cancel_0 : decode c_TT_cancel 0 = .ok (.aload_n 0, 1) := by decide +kernel
theorem d_TT_cancel_1 : decode c_TT_cancel 1 = .ok (.iload_n 1, 1) := by decide +kernel
theorem d_TT_cancel_2 : decode c_TT_cancel 2 = .ok (.invokevirtual 80, 3) := by decide +kernel
theorem d_TT_cut_0 : decode c_TT_cut 0 = .ok (.aload_n 0, 1) := by decide +kernel
theorem d_TT_cut_1 : decode c_TT_cut 1 = .ok (.iload_n 1, 1) := by decide +kernel
theorem d_TT_cut_2 : decode c_TT_cut 2 = .ok (.invokevirtual 54, 3) := by decide +kernel
theorem d_TT_cut_5 : decode c_TT_cut 5 = .ok (.ifCond .ne 13, 3) := by decide +kernel
theorem d_TT_cut_8 : decode c_TT_cut 8 = .ok (.new 61, 3) := by decide +kernel
theorem d_TT_cut_11 : decode c_TT_cut 11 = .ok (.dup, 1) := by decide +kernel
theorem d_TT_cut_12 : decode c_TT_cut 12 = .ok (.ldc 185, 2) := by decide +kernel
theorem d_TT_cut_14 : decode c_TT_cut 14 = .ok (.invokespecial 65, 3) := by decide +kernel
theorem d_TT_cut_17 : decode c_TT_cut 17 = .ok (.athrow, 1) := by decide +kernel
theorem d_TT_erase_0 : decode c_TT_erase 0 = .ok (.aload_n 0, 1) := by decide +kernel
theorem d_TT_erase_1 : decode c_TT_erase 1 = .ok (.iload_n 1, 1) := by decide +kernel
theorem d_TT_erase_2 : decode c_TT_erase 2 = .ok (.invokevirtual 80, 3) := by decide +kernel
theorem d_TT_numbered_0 : decode c_TT_numbered 0 = .ok (.iload_n 1, 1) := by decide +kernel
theorem d_TT_numbered_1 : decode c_TT_numbered 1 = .ok (.ifCond .lt 11, 3) := by decide +kernel
theorem d_TT_numbered_4 : decode c_TT_numbered 4 = .ok (.iload_n 1, 1) := by decide +kernel
theorem d_TT_numbered_5 : decode c_TT_numbered 5 = .ok (.aload_n 0, 1) := by decide +kernel
theorem d_TT_numbered_6 : decode c_TT_numbered 6 = .ok (.getfield 40, 3) := by decide +kernel
theorem d_TT_numbered_9 : decode c_TT_numbered 9 = .ok (.if_icmp .lt 13, 3) := by decide +kernel
theorem d_TT_numbered_12 : decode c_TT_numbered 12 = .ok (.new 116, 3) := by decide +kernel
theorem d_TT_numbered_15 : decode c_TT_numbered 15 = .ok (.dup, 1) := by decide +kernel
theorem d_TT_numbered_16 : decode c_TT_numbered 16 = .ok (.ldc 202, 2) := by decide +kernel
theorem d_TT_numbered_18 : decode c_TT_numbered 18 = .ok (.invokespecial 120, 3) := by decide +kernel
theorem d_TT_numbered_21 : decode c_TT_numbered 21 = .ok (.athrow, 1) := by decide +kernel
theorem d_TT_planFrom_0 : decode c_TT_planFrom 0 = .ok (.aload_n 0, 1) := by decide +kernel
theorem d_TT_planFrom_1 : decode c_TT_planFrom 1 = .ok (.iload_n 1, 1) := by decide +kernel
theorem d_TT_planFrom_2 : decode c_TT_planFrom 2 = .ok (.invokevirtual 80, 3) := by decide +kernel
theorem d_TT_planTo_0 : decode c_TT_planTo 0 = .ok (.aload_n 0, 1) := by decide +kernel
theorem d_TT_planTo_1 : decode c_TT_planTo 1 = .ok (.iload_n 1, 1) := by decide +kernel
theorem d_TT_planTo_2 : decode c_TT_planTo 2 = .ok (.invokevirtual 80, 3) := by decide +kernel
theorem d_TT_protect_0 : decode c_TT_protect 0 = .ok (.aload_n 0, 1) := by decide +kernel
theorem d_TT_protect_1 : decode c_TT_protect 1 = .ok (.iload_n 1, 1) := by decide +kernel
theorem d_TT_protect_2 : decode c_TT_protect 2 = .ok (.invokevirtual 150, 3) := by decide +kernel
theorem d_TT_recorded_0 : decode c_TT_recorded 0 = .ok (.aload_n 0, 1) := by decide +kernel
theorem d_TT_recorded_1 : decode c_TT_recorded 1 = .ok (.getfield 29, 3) := by decide +kernel
theorem d_TT_recorded_4 : decode c_TT_recorded 4 = .ok (.aload_n 0, 1) := by decide +kernel
theorem d_TT_recorded_5 : decode c_TT_recorded 5 = .ok (.iload_n 1, 1) := by decide +kernel
theorem d_TT_recorded_6 : decode c_TT_recorded 6 = .ok (.invokevirtual 80, 3) := by decide +kernel
theorem d_TT_recordingNumbered_0 : decode c_TT_recordingNumbered 0 = .ok (.aload_n 0, 1) := by decide +kernel
theorem d_TT_recordingNumbered_1 : decode c_TT_recordingNumbered 1 = .ok (.iload_n 1, 1) := by decide +kernel
theorem d_TT_recordingNumbered_2 : decode c_TT_recordingNumbered 2 = .ok (.invokevirtual 80, 3) := by decide +kernel
theorem d_TT_request_0 : decode c_TT_request 0 = .ok (.iload_n 1, 1) := by decide +kernel
theorem d_TT_request_1 : decode c_TT_request 1 = .ok (.invokestatic 50, 3) := by decide +kernel
theorem d_TT_request_4 : decode c_TT_request 4 = .ok (.ifCond .eq 43, 3) := by decide +kernel
theorem d_TT_request_7 : decode c_TT_request 7 = .ok (.aload_n 0, 1) := by decide +kernel
theorem d_TT_request_8 : decode c_TT_request 8 = .ok (.iload_n 2, 1) := by decide +kernel
theorem d_TT_request_9 : decode c_TT_request 9 = .ok (.invokevirtual 54, 3) := by decide +kernel
theorem d_TT_request_12 : decode c_TT_request 12 = .ok (.ifCond .eq 35, 3) := by decide +kernel
theorem d_TT_request_15 : decode c_TT_request 15 = .ok (.iload_n 3, 1) := by decide +kernel
theorem d_TT_request_16 : decode c_TT_request 16 = .ok (.iconst 1, 1) := by decide +kernel
theorem d_TT_request_17 : decode c_TT_request 17 = .ok (.bipush 60, 2) := by decide +kernel
theorem d_TT_request_19 : decode c_TT_request 19 = .ok (.invokestatic 57, 3) := by decide +kernel
theorem d_TT_request_22 : decode c_TT_request 22 = .ok (.ifCond .eq 25, 3) := by decide +kernel
theorem d_TT_request_25 : decode c_TT_request 25 = .ok (.iload 4, 2) := by decide +kernel
theorem d_TT_request_27 : decode c_TT_request 27 = .ok (.iconst 1, 1) := by decide +kernel
theorem d_TT_request_28 : decode c_TT_request 28 = .ok (.bipush 9, 2) := by decide +kernel
theorem d_TT_request_30 : decode c_TT_request 30 = .ok (.invokestatic 57, 3) := by decide +kernel
theorem d_TT_request_33 : decode c_TT_request 33 = .ok (.ifCond .eq 14, 3) := by decide +kernel
theorem d_TT_request_36 : decode c_TT_request 36 = .ok (.iload 5, 2) := by decide +kernel
theorem d_TT_request_38 : decode c_TT_request 38 = .ok (.iconst 0, 1) := by decide +kernel
theorem d_TT_request_39 : decode c_TT_request 39 = .ok (.bipush 99, 2) := by decide +kernel
theorem d_TT_request_41 : decode c_TT_request 41 = .ok (.invokestatic 57, 3) := by decide +kernel
theorem d_TT_request_44 : decode c_TT_request 44 = .ok (.ifCond .ne 13, 3) := by decide +kernel
theorem d_TT_request_47 : decode c_TT_request 47 = .ok (.new 61, 3) := by decide +kernel
theorem d_TT_request_50 : decode c_TT_request 50 = .ok (.dup, 1) := by decide +kernel
theorem d_TT_request_51 : decode c_TT_request 51 = .ok (.ldc 63, 2) := by decide +kernel
theorem d_TT_request_53 : decode c_TT_request 53 = .ok (.invokespecial 65, 3) := by decide +kernel
theorem d_TT_request_56 : decode c_TT_request 56 = .ok (.athrow, 1) := by decide +kernel
theorem d_TT_seen_0 : decode c_TT_seen 0 = .ok (.aload_n 0, 1) := by decide +kernel
theorem d_TT_seen_1 : decode c_TT_seen 1 = .ok (.iload_n 1, 1) := by decide +kernel
theorem d_TT_seen_2 : decode c_TT_seen 2 = .ok (.invokevirtual 150, 3) := by decide +kernel
theorem d_TT_shortBy_0 : decode c_TT_shortBy 0 = .ok (.aload_n 0, 1) := by decide +kernel
theorem d_TT_shortBy_1 : decode c_TT_shortBy 1 = .ok (.iload_n 1, 1) := by decide +kernel
theorem d_TT_shortBy_2 : decode c_TT_shortBy 2 = .ok (.invokevirtual 80, 3) := by decide +kernel
theorem d_TT_state_0 : decode c_TT_state 0 = .ok (.aload_n 0, 1) := by decide +kernel
theorem d_TT_state_1 : decode c_TT_state 1 = .ok (.iload_n 1, 1) := by decide +kernel
theorem d_TT_state_2 : decode c_TT_state 2 = .ok (.invokevirtual 80, 3) := by decide +kernel
theorem d_TT_ticks_0 : decode c_TT_ticks 0 = .ok (.iload_n 1, 1) := by decide +kernel
theorem d_TT_ticks_1 : decode c_TT_ticks 1 = .ok (.iconst 1, 1) := by decide +kernel
theorem d_TT_ticks_2 : decode c_TT_ticks 2 = .ok (.bipush 100, 2) := by decide +kernel
theorem d_TT_ticks_4 : decode c_TT_ticks 4 = .ok (.invokestatic 57, 3) := by decide +kernel
theorem d_TT_ticks_7 : decode c_TT_ticks 7 = .ok (.ifCond .ne 13, 3) := by decide +kernel
theorem d_TT_ticks_10 : decode c_TT_ticks 10 = .ok (.new 61, 3) := by decide +kernel
theorem d_TT_ticks_13 : decode c_TT_ticks 13 = .ok (.dup, 1) := by decide +kernel
theorem d_TT_ticks_14 : decode c_TT_ticks 14 = .ok (.ldc 128, 2) := by decide +kernel
theorem d_TT_ticks_16 : decode c_TT_ticks 16 = .ok (.invokespecial 65, 3) := by decide +kernel
theorem d_TT_ticks_19 : decode c_TT_ticks 19 = .ok (.athrow, 1) := by decide +kernel
theorem d_TT_watch_0 : decode c_TT_watch 0 = .ok (.iload_n 1, 1) := by decide +kernel
theorem d_TT_watch_1 : decode c_TT_watch 1 = .ok (.iconst (-1), 1) := by decide +kernel
theorem d_TT_watch_2 : decode c_TT_watch 2 = .ok (.if_icmp .eq 20, 3) := by decide +kernel
theorem d_TT_watch_5 : decode c_TT_watch 5 = .ok (.iload_n 1, 1) := by decide +kernel
theorem d_TT_watch_6 : decode c_TT_watch 6 = .ok (.invokestatic 50, 3) := by decide +kernel
theorem d_TT_watch_9 : decode c_TT_watch 9 = .ok (.ifCond .ne 13, 3) := by decide +kernel
theorem d_TT_watch_12 : decode c_TT_watch 12 = .ok (.new 116, 3) := by decide +kernel
theorem d_TT_watch_15 : decode c_TT_watch 15 = .ok (.dup, 1) := by decide +kernel
theorem d_TT_watch_16 : decode c_TT_watch 16 = .ok (.ldc 118, 2) := by decide +kernel
theorem d_TT_watch_18 : decode c_TT_watch 18 = .ok (.invokespecial 120, 3) := by decide +kernel
theorem d_TT_watch_21 : decode c_TT_watch 21 = .ok (.athrow, 1) := by decide +kernel
theorem d_TT_word_0 : decode c_TT_word 0 = .ok (.aload_n 0, 1) := by decide +kernel
theorem d_TT_word_1 : decode c_TT_word 1 = .ok (.getfield 29, 3) := by decide +kernel
theorem d_TT_word_4 : decode c_TT_word 4 = .ok (.aload_n 0, 1) := by decide +kernel
theorem d_TT_word_5 : decode c_TT_word 5 = .ok (.iload_n 1, 1) := by decide +kernel
theorem d_TT_word_6 : decode c_TT_word 6 = .ok (.invokevirtual 80, 3) := by decide +kernel
theorem tw_table {p : Program} {l : Launch} {y : MethodName} {S : Spec} {cc bytes : ByteArray} {maxL maxL' : Nat} {ret ret' : Option FieldType} {e : Env} {s s₁ : State} {m : MethodId} {args : Array Value} {below : List Frame} {meth : Method} {c : Code} {hh : List (Nat × Nat × Nat × Nat)}
    (B : BodyLoose p l y S cc maxL ret e s m args below meth c s₁) (h : (Cond.codeWith y bytes maxL' ret' hh).before args s = true) : c.exceptionTable.toList = hh.map fun q => ⟨q.1, q.2.1, q.2.2.1, q.2.2.2⟩ := by
  obtain ⟨m9, meth9, c9, hn9, h1, h2, -, -, h6, -⟩ := Cond.codeWith_spec h
  cases Option.some.inj (hn9.symm.trans B.named)
  cases Option.some.inj (h1.symm.trans B.method)
  cases Option.some.inj (h2.symm.trans (Stand.of_body B).code)
  rw [← h6, List.map_map]
  exact (List.map_id _).symm.trans (List.map_congr_left fun q _ => rfl)
set_option maxRecDepth 100000 in
theorem at_IO {s : State} {args : Array Value} {Bd : Nat} (ht : ∀ w ∈ tb_, w.before args s = true) (hV : tw_V Bd s s.heap) : ∀ w ∈ Bundle.ownAtoms "TwinTuners" 120 "java/lang/IndexOutOfBoundsException" ["java/lang/RuntimeException", "java/lang/Exception"], w.before args s = true :=
  List.forall_mem_cons.mpr ⟨ht _ tb_6, List.forall_mem_cons.mpr ⟨ht _ tb_300, List.forall_mem_cons.mpr ⟨ht _ tb_309, List.forall_mem_cons.mpr ⟨ht _ tb_313, List.forall_mem_cons.mpr ⟨ht _ tb_316, List.forall_mem_cons.mpr ⟨ht _ tb_318, List.forall_mem_cons.mpr ⟨ht _ tb_301, List.forall_mem_cons.mpr ⟨ht _ tb_302, List.forall_mem_cons.mpr ⟨ht _ tb_21, List.forall_mem_cons.mpr ⟨ht _ tb_22, List.forall_mem_cons.mpr ⟨ht _ tb_303, List.forall_mem_cons.mpr ⟨ht _ tb_308, List.forall_mem_cons.mpr ⟨ht _ tb_314, List.forall_mem_cons.mpr ⟨ht _ tb_334, List.forall_mem_cons.mpr ⟨ht _ tb_290, List.forall_mem_cons.mpr ⟨ht _ tb_335, List.forall_mem_cons.mpr ⟨ht _ tb_292, List.forall_mem_cons.mpr ⟨ht _ tb_336, List.forall_mem_cons.mpr ⟨ht _ tb_294, List.forall_mem_cons.mpr ⟨ht _ tb_304, List.forall_mem_cons.mpr ⟨hV.2.2.2.2.2.1.lays, List.forall_mem_cons.mpr ⟨ht _ tb_306, List.forall_mem_cons.mpr ⟨hV.2.2.2.2.2.2.lays, List.forall_mem_cons.mpr ⟨ht _ tb_296, List.forall_mem_cons.mpr ⟨ht _ tb_330, List.forall_mem_cons.mpr ⟨ht _ tb_331, List.forall_mem_cons.mpr ⟨ht _ tb_333, List.forall_mem_cons.mpr ⟨ht _ tb_296, List.forall_mem_cons.mpr ⟨ht _ tb_471, List.forall_mem_cons.mpr ⟨ht _ tb_472, List.forall_mem_cons.mpr ⟨ht _ tb_473, List.forall_mem_cons.mpr ⟨ht _ tb_324, List.forall_mem_cons.mpr ⟨va_Nw.use rfl hV.1.1, List.forall_mem_cons.mpr ⟨ht _ tb_324, List.forall_mem_cons.mpr ⟨ht _ tb_325, List.forall_mem_cons.mpr ⟨ht _ tb_326, List.forall_mem_cons.mpr ⟨ht _ tb_327, List.forall_mem_cons.mpr ⟨va_Nw.use rfl hV.1.2.1, List.forall_mem_cons.mpr ⟨ht _ tb_327, List.forall_mem_cons.mpr ⟨ht _ tb_328, List.forall_mem_cons.mpr ⟨ht _ tb_329, List.forall_mem_cons.mpr ⟨ht _ tb_330, List.forall_mem_cons.mpr ⟨va_Nw.use rfl hV.1.2.2, List.forall_mem_cons.mpr ⟨ht _ tb_470, List.forall_mem_cons.mpr ⟨ht _ tb_461, List.forall_mem_cons.mpr ⟨va_Nw.use rfl hV.2.1.2, List.forall_mem_cons.mpr ⟨ht _ tb_463, List.forall_mem_cons.mpr ⟨ht _ tb_312, List.forall_mem_cons.mpr ⟨ht _ tb_464, List.forall_mem_cons.mpr ⟨ht _ tb_465, List.forall_mem_cons.mpr ⟨ht _ tb_466, List.forall_mem_cons.mpr ⟨ht _ tb_467, List.forall_mem_cons.mpr ⟨hV.2.2.2.2.2.1.ref, List.forall_mem_cons.mpr ⟨hV.2.2.2.2.2.2.ref, List.forall_mem_cons.mpr ⟨ht _ tb_299, List.forall_mem_cons.mpr ⟨ht _ tb_298, List.forall_mem_cons.mpr ⟨ht _ tb_468, List.forall_mem_nil _⟩⟩⟩⟩⟩⟩⟩⟩⟩⟩⟩⟩⟩⟩⟩⟩⟩⟩⟩⟩⟩⟩⟩⟩⟩⟩⟩⟩⟩⟩⟩⟩⟩⟩⟩⟩⟩⟩⟩⟩⟩⟩⟩⟩⟩⟩⟩⟩⟩⟩⟩⟩⟩⟩⟩⟩⟩
set_option maxRecDepth 100000 in
theorem at_IA {s : State} {args : Array Value} {Bd : Nat} (ht : ∀ w ∈ tb_, w.before args s = true) (hV : tw_V Bd s s.heap) : ∀ w ∈ Bundle.ownAtoms "TwinTuners" 65 "java/lang/IllegalArgumentException" ["java/lang/RuntimeException", "java/lang/Exception"], w.before args s = true :=
  List.forall_mem_cons.mpr ⟨ht _ tb_6, List.forall_mem_cons.mpr ⟨ht _ tb_300, List.forall_mem_cons.mpr ⟨ht _ tb_309, List.forall_mem_cons.mpr ⟨ht _ tb_313, List.forall_mem_cons.mpr ⟨ht _ tb_316, List.forall_mem_cons.mpr ⟨ht _ tb_318, List.forall_mem_cons.mpr ⟨ht _ tb_301, List.forall_mem_cons.mpr ⟨ht _ tb_302, List.forall_mem_cons.mpr ⟨ht _ tb_21, List.forall_mem_cons.mpr ⟨ht _ tb_22, List.forall_mem_cons.mpr ⟨ht _ tb_303, List.forall_mem_cons.mpr ⟨ht _ tb_308, List.forall_mem_cons.mpr ⟨ht _ tb_314, List.forall_mem_cons.mpr ⟨ht _ tb_334, List.forall_mem_cons.mpr ⟨ht _ tb_290, List.forall_mem_cons.mpr ⟨ht _ tb_335, List.forall_mem_cons.mpr ⟨ht _ tb_292, List.forall_mem_cons.mpr ⟨ht _ tb_336, List.forall_mem_cons.mpr ⟨ht _ tb_294, List.forall_mem_cons.mpr ⟨ht _ tb_304, List.forall_mem_cons.mpr ⟨hV.2.2.2.2.2.1.lays, List.forall_mem_cons.mpr ⟨ht _ tb_306, List.forall_mem_cons.mpr ⟨hV.2.2.2.2.2.2.lays, List.forall_mem_cons.mpr ⟨ht _ tb_296, List.forall_mem_cons.mpr ⟨ht _ tb_330, List.forall_mem_cons.mpr ⟨ht _ tb_331, List.forall_mem_cons.mpr ⟨ht _ tb_333, List.forall_mem_cons.mpr ⟨ht _ tb_296, List.forall_mem_cons.mpr ⟨ht _ tb_321, List.forall_mem_cons.mpr ⟨ht _ tb_322, List.forall_mem_cons.mpr ⟨ht _ tb_323, List.forall_mem_cons.mpr ⟨ht _ tb_324, List.forall_mem_cons.mpr ⟨va_Nw.use rfl hV.1.1, List.forall_mem_cons.mpr ⟨ht _ tb_324, List.forall_mem_cons.mpr ⟨ht _ tb_325, List.forall_mem_cons.mpr ⟨ht _ tb_326, List.forall_mem_cons.mpr ⟨ht _ tb_327, List.forall_mem_cons.mpr ⟨va_Nw.use rfl hV.1.2.1, List.forall_mem_cons.mpr ⟨ht _ tb_327, List.forall_mem_cons.mpr ⟨ht _ tb_328, List.forall_mem_cons.mpr ⟨ht _ tb_329, List.forall_mem_cons.mpr ⟨ht _ tb_330, List.forall_mem_cons.mpr ⟨va_Nw.use rfl hV.1.2.2, List.forall_mem_cons.mpr ⟨ht _ tb_320, List.forall_mem_cons.mpr ⟨ht _ tb_279, List.forall_mem_cons.mpr ⟨va_Nw.use rfl hV.2.1.1, List.forall_mem_cons.mpr ⟨ht _ tb_287, List.forall_mem_cons.mpr ⟨ht _ tb_288, List.forall_mem_cons.mpr ⟨ht _ tb_289, List.forall_mem_cons.mpr ⟨ht _ tb_291, List.forall_mem_cons.mpr ⟨ht _ tb_293, List.forall_mem_cons.mpr ⟨ht _ tb_295, List.forall_mem_cons.mpr ⟨hV.2.2.2.2.2.1.ref, List.forall_mem_cons.mpr ⟨hV.2.2.2.2.2.2.ref, List.forall_mem_cons.mpr ⟨ht _ tb_299, List.forall_mem_cons.mpr ⟨ht _ tb_298, List.forall_mem_cons.mpr ⟨ht _ tb_297, List.forall_mem_nil _⟩⟩⟩⟩⟩⟩⟩⟩⟩⟩⟩⟩⟩⟩⟩⟩⟩⟩⟩⟩⟩⟩⟩⟩⟩⟩⟩⟩⟩⟩⟩⟩⟩⟩⟩⟩⟩⟩⟩⟩⟩⟩⟩⟩⟩⟩⟩⟩⟩⟩⟩⟩⟩⟩⟩⟩⟩
set_option maxHeartbeats 4000000 in
set_option maxRecDepth 100000 in
theorem c_TT_numbered_th (l : Launch) (dC : Nat → ClassId) (dI : Nat → Nat → Nat) (sz Bd : Nat) (hl9 : l.stackTraces = false) (h0 rq oa pl dk rw : Nat) (x : Int32) : tw_Met l y_TT_numbered w_TT_numbered ({ frames := 6, cells := 1, slots := 6, locals := 90 }) (frP (dC, dI) [(h0, .inr (0, [.ref rq, .ref oa, .ref pl, .ref dk, .ref rw, .int 0, .int 0, .int (-1)]))] [] sz Bd [.ref h0, .int x]) "java/lang/IndexOutOfBoundsException" 1 6 := by
  refine tw_ofW (cc := c_TT_numbered) (maxL := 2) (ret := (some (.object "TwinTuners$Request"))) (by decide) rfl ?_
  intro p e s m args below meth c s₁ B hml hno hv
  obtain ⟨rfl, ⟨hsz, hBs⟩, hP, hK, hD0, hV⟩ := hv
  have hx := B.exec
  have hb := B.bytes
  have hr := B.returns
  have ht : ∀ w ∈ tb_, w.before _ s = true := fun w h => atoms_spec (ws := w_TT_numbered) B.pre w (List.mem_cons_of_mem _ h)
  have hown : s.vm.findClass R_TT = some m.cls := findClass_of_methodNamed B.named
  have hlocks := B.notSynchronized
  subst hsz
  have hD := hD0.self (sz := s.heap.size)
  have hAB : ∀ q, va_A [(h0, .inr (0, [.ref rq, .ref oa, .ref pl, .ref dk, .ref rw, .int 0, .int 0, .int (-1)]))] s.heap.size q → Bd ≤ q := fr_AB hD0 hBs
  generalize hAe : va_A [(h0, .inr (0, [.ref rq, .ref oa, .ref pl, .ref dk, .ref rw, .int 0, .int 0, .int (-1)]))] s.heap.size = A at hD hAB
  have hA : ∀ q : Nat, s.heap.size ≤ q → A q := fun q h => by rw [← hAe]; exact Or.inr h
  have hS : va_S A s.heap s.heap [] := va_S.rf
  have hAO := hV.2.2.2.1
  have hN_PL := hV.2.2.1.1
  have hN_RW := hV.2.2.1.2
  have hP : va_P (dC, dI) cls_ [(h0, .inr (0, [.ref rq, .ref oa, .ref pl, .ref dk, .ref rw, .int 0, .int 0, .int (-1)]))] s.heap := hP
  have hl := lv_entry ([.ref h0, .int x]) (n := 2) (Nat.le_of_ble_eq_true rfl)
  rw [lg_entry_eq]
  generalize (lg_sl ([.ref h0, .int x]) ++ List.replicate (2 - (lg_sl ([.ref h0, .int x])).length) Slot.unset).toArray = ls at hl ⊢
  have hl : lv_has ls 2 [(0, .ref h0), (1, .int x)] := hl
  refine lv_iload_n hx hb d_TT_numbered_0 rfl (lv_at hl 1 rfl) ?_
  refine lv_if_lt (tgt := 12) hx hb d_TT_numbered_1 (by decide) (fun h1 => ?_) (fun h1 => ?_)
  · obtain ⟨sa, hsa⟩ := hV.2.2.2.2.1.2.1
    exact tw_throwNew hx hb hl9 hown (by decide) (by decide) (ht _ tb_460) (ht _ tb_12) hsa (at_IO ht hV) hS.1 (by rw [hml]; exact hl.1) d_TT_numbered_12 d_TT_numbered_15 d_TT_numbered_16 d_TT_numbered_18 d_TT_numbered_21 (tw_noH hno _) (Nat.le_of_ble_eq_true rfl) (Nat.le_of_ble_eq_true rfl) (Nat.le_of_ble_eq_true rfl) (Nat.le_of_ble_eq_true rfl) hlocks
  · refine lv_iload_n hx hb d_TT_numbered_4 rfl (lv_at hl 1 rfl) ?_
    refine lv_aload_n hx hb d_TT_numbered_5 rfl (lv_at hl 0 rfl) ?_
    refine va_get (D := (dC, dI)) (ci := 0) (v := .int 0) (C := R_TT) (T := F_TT) (N := 8) hx hb ht in_TT hown hK hP 0 rfl rfl 5 (by decide) (ht _ tb_80) (fun _ h9 => h9) rfl d_TT_numbered_6 ?_
    refine lv_icmp_lt (tgt := 22) hx hb d_TT_numbered_9 (by decide) (fun h9 => absurd h9 (h1)) (fun _ => ?_)
    obtain ⟨sa, hsa⟩ := hV.2.2.2.2.1.2.1
    exact tw_throwNew hx hb hl9 hown (by decide) (by decide) (ht _ tb_460) (ht _ tb_12) hsa (at_IO ht hV) hS.1 (by rw [hml]; exact hl.1) d_TT_numbered_12 d_TT_numbered_15 d_TT_numbered_16 d_TT_numbered_18 d_TT_numbered_21 (tw_noH hno _) (Nat.le_of_ble_eq_true rfl) (Nat.le_of_ble_eq_true rfl) (Nat.le_of_ble_eq_true rfl) (Nat.le_of_ble_eq_true rfl) hlocks
set_option maxHeartbeats 4000000 in
set_option maxRecDepth 100000 in
theorem c_TT_recordingNumbered_th (l : Launch) (dC : Nat → ClassId) (dI : Nat → Nat → Nat) (sz Bd : Nat) (hl9 : l.stackTraces = false) (h0 rq oa pl dk rw : Nat) (x : Int32) : tw_Met l y_TT_recordingNumbered w_TT_recordingNumbered ({ frames := 7, cells := 1, slots := 6, locals := 111 }) (frP (dC, dI) [(h0, .inr (0, [.ref rq, .ref oa, .ref pl, .ref dk, .ref rw, .int 0, .int 0, .int (-1)]))] [] sz Bd [.ref h0, .int x]) "java/lang/IndexOutOfBoundsException" 1 6 := by
  refine tw_ofW (cc := c_TT_recordingNumbered) (maxL := 3) (ret := (some (.object "TwinTuners$Request"))) (by decide) rfl ?_
  intro p e s m args below meth c s₁ B hml hno hv
  obtain ⟨rfl, ⟨hsz, hBs⟩, hP, hK, hD0, hV⟩ := hv
  have hx := B.exec
  have hb := B.bytes
  have hr := B.returns
  have ht : ∀ w ∈ tb_, w.before _ s = true := fun w h => atoms_spec (ws := w_TT_recordingNumbered) B.pre w (List.mem_cons_of_mem _ h)
  have hown : s.vm.findClass R_TT = some m.cls := findClass_of_methodNamed B.named
  have hlocks := B.notSynchronized
  subst hsz
  have hD := hD0.self (sz := s.heap.size)
  have hAB : ∀ q, va_A [(h0, .inr (0, [.ref rq, .ref oa, .ref pl, .ref dk, .ref rw, .int 0, .int 0, .int (-1)]))] s.heap.size q → Bd ≤ q := fr_AB hD0 hBs
  generalize hAe : va_A [(h0, .inr (0, [.ref rq, .ref oa, .ref pl, .ref dk, .ref rw, .int 0, .int 0, .int (-1)]))] s.heap.size = A at hD hAB
  have hA : ∀ q : Nat, s.heap.size ≤ q → A q := fun q h => by rw [← hAe]; exact Or.inr h
  have hS : va_S A s.heap s.heap [] := va_S.rf
  have hAO := hV.2.2.2.1
  have hN_PL := hV.2.2.1.1
  have hN_RW := hV.2.2.1.2
  have hP : va_P (dC, dI) cls_ [(h0, .inr (0, [.ref rq, .ref oa, .ref pl, .ref dk, .ref rw, .int 0, .int 0, .int (-1)]))] s.heap := hP
  have hl := lv_entry ([.ref h0, .int x]) (n := 3) (Nat.le_of_ble_eq_true rfl)
  rw [lg_entry_eq]
  generalize (lg_sl ([.ref h0, .int x]) ++ List.replicate (3 - (lg_sl ([.ref h0, .int x])).length) Slot.unset).toArray = ls at hl ⊢
  have hl : lv_has ls 3 [(0, .ref h0), (1, .int x)] := hl
  refine lv_aload_n hx hb d_TT_recordingNumbered_0 rfl (lv_at hl 0 rfl) ?_
  refine lv_iload_n hx hb d_TT_recordingNumbered_1 rfl (lv_at hl 1 rfl) ?_
  have hPc := hP.sub (ws' := [(h0, .inr (0, [.ref rq, .ref oa, .ref pl, .ref dk, .ref rw, .int 0, .int 0, .int (-1)]))]) [0] rfl
  have hKc := hK.sub (tys' := []) [] rfl
  have hDc := hD.sub (ws' := [(h0, .inr (0, [.ref rq, .ref oa, .ref pl, .ref dk, .ref rw, .int 0, .int 0, .int (-1)]))]) [0] (by decide) rfl
  refine tw_runV (C := R_TT) (As := [.int x]) (rest := []) ⟨hx, hb, hml, hown, ht⟩ (c_TT_numbered_th l dC dI s.heap.size Bd hl9 h0 rq oa pl dk rw x) (cwV 1 ht (gV tb_456 tb_458 ts_20 tb_1 tb_459) rfl rfl rfl (by decide +kernel) ⟨Nat.le_of_ble_eq_true rfl, Nat.le_of_ble_eq_true rfl⟩) ⟨frP_blind, va_recv (q := (R_TT, F_TT, 8)) hK hP rfl (show ([(h0, .inr (0, [.ref rq, .ref oa, .ref pl, .ref dk, .ref rw, .int 0, .int 0, .int (-1)]))] : va_W)[0]? = some (h0, .inr (0, [.ref rq, .ref oa, .ref pl, .ref dk, .ref rw, .int 0, .int 0, .int (-1)])) from rfl), fr_pre hPc hKc hDc hAB hBs hS hV⟩ rfl hl.1 rfl (Nat.le_of_ble_eq_true rfl) d_TT_recordingNumbered_2 ⟨Nat.le_of_ble_eq_true rfl, Nat.le_of_ble_eq_true rfl⟩ (fun xa cellx H1 hx1 hx2 hx3 hx4 hx5 hx6 => ?_)
  exact tw_leave (tw_noH hno _) hlocks (Nat.le_trans hS.1 hx1) hx2 hx3 hx4
set_option maxHeartbeats 4000000 in
set_option maxRecDepth 100000 in
theorem c_TT_cancel_th (l : Launch) (dC : Nat → ClassId) (dI : Nat → Nat → Nat) (sz Bd : Nat) (hl9 : l.stackTraces = false) (h0 rq oa pl dk rw : Nat) (x : Int32) : tw_Met l y_TT_cancel w_TT_cancel ({ frames := 7, cells := 1, slots := 6, locals := 111 }) (frP (dC, dI) [(h0, .inr (0, [.ref rq, .ref oa, .ref pl, .ref dk, .ref rw, .int 0, .int 0, .int (-1)]))] [] sz Bd [.ref h0, .int x]) "java/lang/IndexOutOfBoundsException" 1 6 := by
  refine tw_ofW (cc := c_TT_cancel) (maxL := 3) (ret := none) (by decide) rfl ?_
  intro p e s m args below meth c s₁ B hml hno hv
  obtain ⟨rfl, ⟨hsz, hBs⟩, hP, hK, hD0, hV⟩ := hv
  have hx := B.exec
  have hb := B.bytes
  have hr := B.returns
  have ht : ∀ w ∈ tb_, w.before _ s = true := fun w h => atoms_spec (ws := w_TT_cancel) B.pre w (List.mem_cons_of_mem _ h)
  have hown : s.vm.findClass R_TT = some m.cls := findClass_of_methodNamed B.named
  have hlocks := B.notSynchronized
  subst hsz
  have hD := hD0.self (sz := s.heap.size)
  have hAB : ∀ q, va_A [(h0, .inr (0, [.ref rq, .ref oa, .ref pl, .ref dk, .ref rw, .int 0, .int 0, .int (-1)]))] s.heap.size q → Bd ≤ q := fr_AB hD0 hBs
  generalize hAe : va_A [(h0, .inr (0, [.ref rq, .ref oa, .ref pl, .ref dk, .ref rw, .int 0, .int 0, .int (-1)]))] s.heap.size = A at hD hAB
  have hA : ∀ q : Nat, s.heap.size ≤ q → A q := fun q h => by rw [← hAe]; exact Or.inr h
  have hS : va_S A s.heap s.heap [] := va_S.rf
  have hAO := hV.2.2.2.1
  have hN_PL := hV.2.2.1.1
  have hN_RW := hV.2.2.1.2
  have hP : va_P (dC, dI) cls_ [(h0, .inr (0, [.ref rq, .ref oa, .ref pl, .ref dk, .ref rw, .int 0, .int 0, .int (-1)]))] s.heap := hP
  have hl := lv_entry ([.ref h0, .int x]) (n := 3) (Nat.le_of_ble_eq_true rfl)
  rw [lg_entry_eq]
  generalize (lg_sl ([.ref h0, .int x]) ++ List.replicate (3 - (lg_sl ([.ref h0, .int x])).length) Slot.unset).toArray = ls at hl ⊢
  have hl : lv_has ls 3 [(0, .ref h0), (1, .int x)] := hl
  refine lv_aload_n hx hb d_TT_cancel_0 rfl (lv_at hl 0 rfl) ?_
  refine lv_iload_n hx hb d_TT_cancel_1 rfl (lv_at hl 1 rfl) ?_
  have hPc := hP.sub (ws' := [(h0, .inr (0, [.ref rq, .ref oa, .ref pl, .ref dk, .ref rw, .int 0, .int 0, .int (-1)]))]) [0] rfl
  have hKc := hK.sub (tys' := []) [] rfl
  have hDc := hD.sub (ws' := [(h0, .inr (0, [.ref rq, .ref oa, .ref pl, .ref dk, .ref rw, .int 0, .int 0, .int (-1)]))]) [0] (by decide) rfl
  refine tw_runV (C := R_TT) (As := [.int x]) (rest := []) ⟨hx, hb, hml, hown, ht⟩ (c_TT_numbered_th l dC dI s.heap.size Bd hl9 h0 rq oa pl dk rw x) (cwV 1 ht (gV tb_456 tb_458 ts_20 tb_1 tb_459) rfl rfl rfl (by decide +kernel) ⟨Nat.le_of_ble_eq_true rfl, Nat.le_of_ble_eq_true rfl⟩) ⟨frP_blind, va_recv (q := (R_TT, F_TT, 8)) hK hP rfl (show ([(h0, .inr (0, [.ref rq, .ref oa, .ref pl, .ref dk, .ref rw, .int 0, .int 0, .int (-1)]))] : va_W)[0]? = some (h0, .inr (0, [.ref rq, .ref oa, .ref pl, .ref dk, .ref rw, .int 0, .int 0, .int (-1)])) from rfl), fr_pre hPc hKc hDc hAB hBs hS hV⟩ rfl hl.1 rfl (Nat.le_of_ble_eq_true rfl) d_TT_cancel_2 ⟨Nat.le_of_ble_eq_true rfl, Nat.le_of_ble_eq_true rfl⟩ (fun xa cellx H1 hx1 hx2 hx3 hx4 hx5 hx6 => ?_)
  exact tw_leave (tw_noH hno _) hlocks (Nat.le_trans hS.1 hx1) hx2 hx3 hx4
set_option maxHeartbeats 4000000 in
set_option maxRecDepth 100000 in
theorem c_TT_state_th (l : Launch) (dC : Nat → ClassId) (dI : Nat → Nat → Nat) (sz Bd : Nat) (hl9 : l.stackTraces = false) (h0 rq oa pl dk rw : Nat) (x : Int32) : tw_Met l y_TT_state w_TT_state ({ frames := 7, cells := 1, slots := 6, locals := 111 }) (frP (dC, dI) [(h0, .inr (0, [.ref rq, .ref oa, .ref pl, .ref dk, .ref rw, .int 0, .int 0, .int (-1)]))] [] sz Bd [.ref h0, .int x]) "java/lang/IndexOutOfBoundsException" 1 6 := by
  refine tw_ofW (cc := c_TT_state) (maxL := 2) (ret := (some .int)) (by decide) rfl ?_
  intro p e s m args below meth c s₁ B hml hno hv
  obtain ⟨rfl, ⟨hsz, hBs⟩, hP, hK, hD0, hV⟩ := hv
  have hx := B.exec
  have hb := B.bytes
  have hr := B.returns
  have ht : ∀ w ∈ tb_, w.before _ s = true := fun w h => atoms_spec (ws := w_TT_state) B.pre w (List.mem_cons_of_mem _ h)
  have hown : s.vm.findClass R_TT = some m.cls := findClass_of_methodNamed B.named
  have hlocks := B.notSynchronized
  subst hsz
  have hD := hD0.self (sz := s.heap.size)
  have hAB : ∀ q, va_A [(h0, .inr (0, [.ref rq, .ref oa, .ref pl, .ref dk, .ref rw, .int 0, .int 0, .int (-1)]))] s.heap.size q → Bd ≤ q := fr_AB hD0 hBs
  generalize hAe : va_A [(h0, .inr (0, [.ref rq, .ref oa, .ref pl, .ref dk, .ref rw, .int 0, .int 0, .int (-1)]))] s.heap.size = A at hD hAB
  have hA : ∀ q : Nat, s.heap.size ≤ q → A q := fun q h => by rw [← hAe]; exact Or.inr h
  have hS : va_S A s.heap s.heap [] := va_S.rf
  have hAO := hV.2.2.2.1
  have hN_PL := hV.2.2.1.1
  have hN_RW := hV.2.2.1.2
  have hP : va_P (dC, dI) cls_ [(h0, .inr (0, [.ref rq, .ref oa, .ref pl, .ref dk, .ref rw, .int 0, .int 0, .int (-1)]))] s.heap := hP
  have hl := lv_entry ([.ref h0, .int x]) (n := 2) (Nat.le_of_ble_eq_true rfl)
  rw [lg_entry_eq]
  generalize (lg_sl ([.ref h0, .int x]) ++ List.replicate (2 - (lg_sl ([.ref h0, .int x])).length) Slot.unset).toArray = ls at hl ⊢
  have hl : lv_has ls 2 [(0, .ref h0), (1, .int x)] := hl
  refine lv_aload_n hx hb d_TT_state_0 rfl (lv_at hl 0 rfl) ?_
  refine lv_iload_n hx hb d_TT_state_1 rfl (lv_at hl 1 rfl) ?_
  have hPc := hP.sub (ws' := [(h0, .inr (0, [.ref rq, .ref oa, .ref pl, .ref dk, .ref rw, .int 0, .int 0, .int (-1)]))]) [0] rfl
  have hKc := hK.sub (tys' := []) [] rfl
  have hDc := hD.sub (ws' := [(h0, .inr (0, [.ref rq, .ref oa, .ref pl, .ref dk, .ref rw, .int 0, .int 0, .int (-1)]))]) [0] (by decide) rfl
  refine tw_runV (C := R_TT) (As := [.int x]) (rest := []) ⟨hx, hb, hml, hown, ht⟩ (c_TT_numbered_th l dC dI s.heap.size Bd hl9 h0 rq oa pl dk rw x) (cwV 1 ht (gV tb_456 tb_458 ts_20 tb_1 tb_459) rfl rfl rfl (by decide +kernel) ⟨Nat.le_of_ble_eq_true rfl, Nat.le_of_ble_eq_true rfl⟩) ⟨frP_blind, va_recv (q := (R_TT, F_TT, 8)) hK hP rfl (show ([(h0, .inr (0, [.ref rq, .ref oa, .ref pl, .ref dk, .ref rw, .int 0, .int 0, .int (-1)]))] : va_W)[0]? = some (h0, .inr (0, [.ref rq, .ref oa, .ref pl, .ref dk, .ref rw, .int 0, .int 0, .int (-1)])) from rfl), fr_pre hPc hKc hDc hAB hBs hS hV⟩ rfl hl.1 rfl (Nat.le_of_ble_eq_true rfl) d_TT_state_2 ⟨Nat.le_of_ble_eq_true rfl, Nat.le_of_ble_eq_true rfl⟩ (fun xa cellx H1 hx1 hx2 hx3 hx4 hx5 hx6 => ?_)
  exact tw_leave (tw_noH hno _) hlocks (Nat.le_trans hS.1 hx1) hx2 hx3 hx4
set_option maxHeartbeats 4000000 in
set_option maxRecDepth 100000 in
theorem c_TT_planFrom_th (l : Launch) (dC : Nat → ClassId) (dI : Nat → Nat → Nat) (sz Bd : Nat) (hl9 : l.stackTraces = false) (h0 rq oa pl dk rw : Nat) (x : Int32) : tw_Met l y_TT_planFrom w_TT_planFrom ({ frames := 7, cells := 1, slots := 6, locals := 111 }) (frP (dC, dI) [(h0, .inr (0, [.ref rq, .ref oa, .ref pl, .ref dk, .ref rw, .int 0, .int 0, .int (-1)]))] [] sz Bd [.ref h0, .int x]) "java/lang/IndexOutOfBoundsException" 1 6 := by
  refine tw_ofW (cc := c_TT_planFrom) (maxL := 3) (ret := (some .int)) (by decide) rfl ?_
  intro p e s m args below meth c s₁ B hml hno hv
  obtain ⟨rfl, ⟨hsz, hBs⟩, hP, hK, hD0, hV⟩ := hv
  have hx := B.exec
  have hb := B.bytes
  have hr := B.returns
  have ht : ∀ w ∈ tb_, w.before _ s = true := fun w h => atoms_spec (ws := w_TT_planFrom) B.pre w (List.mem_cons_of_mem _ h)
  have hown : s.vm.findClass R_TT = some m.cls := findClass_of_methodNamed B.named
  have hlocks := B.notSynchronized
  subst hsz
  have hD := hD0.self (sz := s.heap.size)
  have hAB : ∀ q, va_A [(h0, .inr (0, [.ref rq, .ref oa, .ref pl, .ref dk, .ref rw, .int 0, .int 0, .int (-1)]))] s.heap.size q → Bd ≤ q := fr_AB hD0 hBs
  generalize hAe : va_A [(h0, .inr (0, [.ref rq, .ref oa, .ref pl, .ref dk, .ref rw, .int 0, .int 0, .int (-1)]))] s.heap.size = A at hD hAB
  have hA : ∀ q : Nat, s.heap.size ≤ q → A q := fun q h => by rw [← hAe]; exact Or.inr h
  have hS : va_S A s.heap s.heap [] := va_S.rf
  have hAO := hV.2.2.2.1
  have hN_PL := hV.2.2.1.1
  have hN_RW := hV.2.2.1.2
  have hP : va_P (dC, dI) cls_ [(h0, .inr (0, [.ref rq, .ref oa, .ref pl, .ref dk, .ref rw, .int 0, .int 0, .int (-1)]))] s.heap := hP
  have hl := lv_entry ([.ref h0, .int x]) (n := 3) (Nat.le_of_ble_eq_true rfl)
  rw [lg_entry_eq]
  generalize (lg_sl ([.ref h0, .int x]) ++ List.replicate (3 - (lg_sl ([.ref h0, .int x])).length) Slot.unset).toArray = ls at hl ⊢
  have hl : lv_has ls 3 [(0, .ref h0), (1, .int x)] := hl
  refine lv_aload_n hx hb d_TT_planFrom_0 rfl (lv_at hl 0 rfl) ?_
  refine lv_iload_n hx hb d_TT_planFrom_1 rfl (lv_at hl 1 rfl) ?_
  have hPc := hP.sub (ws' := [(h0, .inr (0, [.ref rq, .ref oa, .ref pl, .ref dk, .ref rw, .int 0, .int 0, .int (-1)]))]) [0] rfl
  have hKc := hK.sub (tys' := []) [] rfl
  have hDc := hD.sub (ws' := [(h0, .inr (0, [.ref rq, .ref oa, .ref pl, .ref dk, .ref rw, .int 0, .int 0, .int (-1)]))]) [0] (by decide) rfl
  refine tw_runV (C := R_TT) (As := [.int x]) (rest := []) ⟨hx, hb, hml, hown, ht⟩ (c_TT_numbered_th l dC dI s.heap.size Bd hl9 h0 rq oa pl dk rw x) (cwV 1 ht (gV tb_456 tb_458 ts_20 tb_1 tb_459) rfl rfl rfl (by decide +kernel) ⟨Nat.le_of_ble_eq_true rfl, Nat.le_of_ble_eq_true rfl⟩) ⟨frP_blind, va_recv (q := (R_TT, F_TT, 8)) hK hP rfl (show ([(h0, .inr (0, [.ref rq, .ref oa, .ref pl, .ref dk, .ref rw, .int 0, .int 0, .int (-1)]))] : va_W)[0]? = some (h0, .inr (0, [.ref rq, .ref oa, .ref pl, .ref dk, .ref rw, .int 0, .int 0, .int (-1)])) from rfl), fr_pre hPc hKc hDc hAB hBs hS hV⟩ rfl hl.1 rfl (Nat.le_of_ble_eq_true rfl) d_TT_planFrom_2 ⟨Nat.le_of_ble_eq_true rfl, Nat.le_of_ble_eq_true rfl⟩ (fun xa cellx H1 hx1 hx2 hx3 hx4 hx5 hx6 => ?_)
  exact tw_leave (tw_noH hno _) hlocks (Nat.le_trans hS.1 hx1) hx2 hx3 hx4
set_option maxHeartbeats 4000000 in
set_option maxRecDepth 100000 in
theorem c_TT_planTo_th (l : Launch) (dC : Nat → ClassId) (dI : Nat → Nat → Nat) (sz Bd : Nat) (hl9 : l.stackTraces = false) (h0 rq oa pl dk rw : Nat) (x : Int32) : tw_Met l y_TT_planTo w_TT_planTo ({ frames := 7, cells := 1, slots := 6, locals := 111 }) (frP (dC, dI) [(h0, .inr (0, [.ref rq, .ref oa, .ref pl, .ref dk, .ref rw, .int 0, .int 0, .int (-1)]))] [] sz Bd [.ref h0, .int x]) "java/lang/IndexOutOfBoundsException" 1 6 := by
  refine tw_ofW (cc := c_TT_planTo) (maxL := 3) (ret := (some .int)) (by decide) rfl ?_
  intro p e s m args below meth c s₁ B hml hno hv
  obtain ⟨rfl, ⟨hsz, hBs⟩, hP, hK, hD0, hV⟩ := hv
  have hx := B.exec
  have hb := B.bytes
  have hr := B.returns
  have ht : ∀ w ∈ tb_, w.before _ s = true := fun w h => atoms_spec (ws := w_TT_planTo) B.pre w (List.mem_cons_of_mem _ h)
  have hown : s.vm.findClass R_TT = some m.cls := findClass_of_methodNamed B.named
  have hlocks := B.notSynchronized
  subst hsz
  have hD := hD0.self (sz := s.heap.size)
  have hAB : ∀ q, va_A [(h0, .inr (0, [.ref rq, .ref oa, .ref pl, .ref dk, .ref rw, .int 0, .int 0, .int (-1)]))] s.heap.size q → Bd ≤ q := fr_AB hD0 hBs
  generalize hAe : va_A [(h0, .inr (0, [.ref rq, .ref oa, .ref pl, .ref dk, .ref rw, .int 0, .int 0, .int (-1)]))] s.heap.size = A at hD hAB
  have hA : ∀ q : Nat, s.heap.size ≤ q → A q := fun q h => by rw [← hAe]; exact Or.inr h
  have hS : va_S A s.heap s.heap [] := va_S.rf
  have hAO := hV.2.2.2.1
  have hN_PL := hV.2.2.1.1
  have hN_RW := hV.2.2.1.2
  have hP : va_P (dC, dI) cls_ [(h0, .inr (0, [.ref rq, .ref oa, .ref pl, .ref dk, .ref rw, .int 0, .int 0, .int (-1)]))] s.heap := hP
  have hl := lv_entry ([.ref h0, .int x]) (n := 3) (Nat.le_of_ble_eq_true rfl)
  rw [lg_entry_eq]
  generalize (lg_sl ([.ref h0, .int x]) ++ List.replicate (3 - (lg_sl ([.ref h0, .int x])).length) Slot.unset).toArray = ls at hl ⊢
  have hl : lv_has ls 3 [(0, .ref h0), (1, .int x)] := hl
  refine lv_aload_n hx hb d_TT_planTo_0 rfl (lv_at hl 0 rfl) ?_
  refine lv_iload_n hx hb d_TT_planTo_1 rfl (lv_at hl 1 rfl) ?_
  have hPc := hP.sub (ws' := [(h0, .inr (0, [.ref rq, .ref oa, .ref pl, .ref dk, .ref rw, .int 0, .int 0, .int (-1)]))]) [0] rfl
  have hKc := hK.sub (tys' := []) [] rfl
  have hDc := hD.sub (ws' := [(h0, .inr (0, [.ref rq, .ref oa, .ref pl, .ref dk, .ref rw, .int 0, .int 0, .int (-1)]))]) [0] (by decide) rfl
  refine tw_runV (C := R_TT) (As := [.int x]) (rest := []) ⟨hx, hb, hml, hown, ht⟩ (c_TT_numbered_th l dC dI s.heap.size Bd hl9 h0 rq oa pl dk rw x) (cwV 1 ht (gV tb_456 tb_458 ts_20 tb_1 tb_459) rfl rfl rfl (by decide +kernel) ⟨Nat.le_of_ble_eq_true rfl, Nat.le_of_ble_eq_true rfl⟩) ⟨frP_blind, va_recv (q := (R_TT, F_TT, 8)) hK hP rfl (show ([(h0, .inr (0, [.ref rq, .ref oa, .ref pl, .ref dk, .ref rw, .int 0, .int 0, .int (-1)]))] : va_W)[0]? = some (h0, .inr (0, [.ref rq, .ref oa, .ref pl, .ref dk, .ref rw, .int 0, .int 0, .int (-1)])) from rfl), fr_pre hPc hKc hDc hAB hBs hS hV⟩ rfl hl.1 rfl (Nat.le_of_ble_eq_true rfl) d_TT_planTo_2 ⟨Nat.le_of_ble_eq_true rfl, Nat.le_of_ble_eq_true rfl⟩ (fun xa cellx H1 hx1 hx2 hx3 hx4 hx5 hx6 => ?_)
  exact tw_leave (tw_noH hno _) hlocks (Nat.le_trans hS.1 hx1) hx2 hx3 hx4
set_option maxHeartbeats 4000000 in
set_option maxRecDepth 100000 in
theorem c_TT_recorded_th (l : Launch) (dC : Nat → ClassId) (dI : Nat → Nat → Nat) (sz Bd : Nat) (hl9 : l.stackTraces = false) (h0 rq oa pl dk rw : Nat) (x : Int32) : tw_Met l y_TT_recorded w_TT_recorded ({ frames := 7, cells := 1, slots := 6, locals := 111 }) (frP (dC, dI) [(h0, .inr (0, [.ref rq, .ref oa, .ref pl, .ref dk, .ref rw, .int 0, .int 0, .int (-1)]))] [] sz Bd [.ref h0, .int x]) "java/lang/IndexOutOfBoundsException" 1 6 := by
  refine tw_ofW (cc := c_TT_recorded) (maxL := 2) (ret := (some .int)) (by decide) rfl ?_
  intro p e s m args below meth c s₁ B hml hno hv
  obtain ⟨rfl, ⟨hsz, hBs⟩, hP, hK, hD0, hV⟩ := hv
  have hx := B.exec
  have hb := B.bytes
  have hr := B.returns
  have ht : ∀ w ∈ tb_, w.before _ s = true := fun w h => atoms_spec (ws := w_TT_recorded) B.pre w (List.mem_cons_of_mem _ h)
  have hown : s.vm.findClass R_TT = some m.cls := findClass_of_methodNamed B.named
  have hlocks := B.notSynchronized
  subst hsz
  have hD := hD0.self (sz := s.heap.size)
  have hAB : ∀ q, va_A [(h0, .inr (0, [.ref rq, .ref oa, .ref pl, .ref dk, .ref rw, .int 0, .int 0, .int (-1)]))] s.heap.size q → Bd ≤ q := fr_AB hD0 hBs
  generalize hAe : va_A [(h0, .inr (0, [.ref rq, .ref oa, .ref pl, .ref dk, .ref rw, .int 0, .int 0, .int (-1)]))] s.heap.size = A at hD hAB
  have hA : ∀ q : Nat, s.heap.size ≤ q → A q := fun q h => by rw [← hAe]; exact Or.inr h
  have hS : va_S A s.heap s.heap [] := va_S.rf
  have hAO := hV.2.2.2.1
  have hN_PL := hV.2.2.1.1
  have hN_RW := hV.2.2.1.2
  have hP : va_P (dC, dI) cls_ [(h0, .inr (0, [.ref rq, .ref oa, .ref pl, .ref dk, .ref rw, .int 0, .int 0, .int (-1)]))] s.heap := hP
  have hl := lv_entry ([.ref h0, .int x]) (n := 2) (Nat.le_of_ble_eq_true rfl)
  rw [lg_entry_eq]
  generalize (lg_sl ([.ref h0, .int x]) ++ List.replicate (2 - (lg_sl ([.ref h0, .int x])).length) Slot.unset).toArray = ls at hl ⊢
  have hl : lv_has ls 2 [(0, .ref h0), (1, .int x)] := hl
  refine lv_aload_n hx hb d_TT_recorded_0 rfl (lv_at hl 0 rfl) ?_
  refine va_get (D := (dC, dI)) (ci := 0) (v := .ref dk) (C := R_TT) (T := F_TT) (N := 8) hx hb ht in_TT hown hK hP 0 rfl rfl 3 (by decide) (ht _ tb_78) (fun _ h9 => h9) rfl d_TT_recorded_1 ?_
  refine lv_aload_n hx hb d_TT_recorded_4 rfl (lv_at hl 0 rfl) ?_
  refine lv_iload_n hx hb d_TT_recorded_5 rfl (lv_at hl 1 rfl) ?_
  have hPc := hP.sub (ws' := [(h0, .inr (0, [.ref rq, .ref oa, .ref pl, .ref dk, .ref rw, .int 0, .int 0, .int (-1)]))]) [0] rfl
  have hKc := hK.sub (tys' := []) [] rfl
  have hDc := hD.sub (ws' := [(h0, .inr (0, [.ref rq, .ref oa, .ref pl, .ref dk, .ref rw, .int 0, .int 0, .int (-1)]))]) [0] (by decide) rfl
  refine tw_runV (C := R_TT) (As := [.int x]) (rest := [.ref dk]) ⟨hx, hb, hml, hown, ht⟩ (c_TT_numbered_th l dC dI s.heap.size Bd hl9 h0 rq oa pl dk rw x) (cwV 1 ht (gV tb_456 tb_458 ts_20 tb_1 tb_459) rfl rfl rfl (by decide +kernel) ⟨Nat.le_of_ble_eq_true rfl, Nat.le_of_ble_eq_true rfl⟩) ⟨frP_blind, va_recv (q := (R_TT, F_TT, 8)) hK hP rfl (show ([(h0, .inr (0, [.ref rq, .ref oa, .ref pl, .ref dk, .ref rw, .int 0, .int 0, .int (-1)]))] : va_W)[0]? = some (h0, .inr (0, [.ref rq, .ref oa, .ref pl, .ref dk, .ref rw, .int 0, .int 0, .int (-1)])) from rfl), fr_pre hPc hKc hDc hAB hBs hS hV⟩ rfl hl.1 rfl (Nat.le_of_ble_eq_true rfl) d_TT_recorded_6 ⟨Nat.le_of_ble_eq_true rfl, Nat.le_of_ble_eq_true rfl⟩ (fun xa cellx H1 hx1 hx2 hx3 hx4 hx5 hx6 => ?_)
  exact tw_leave (tw_noH hno _) hlocks (Nat.le_trans hS.1 hx1) hx2 hx3 hx4
set_option maxHeartbeats 4000000 in
set_option maxRecDepth 100000 in
theorem c_TT_shortBy_th (l : Launch) (dC : Nat → ClassId) (dI : Nat → Nat → Nat) (sz Bd : Nat) (hl9 : l.stackTraces = false) (h0 rq oa pl dk rw : Nat) (x : Int32) : tw_Met l y_TT_shortBy w_TT_shortBy ({ frames := 7, cells := 1, slots := 6, locals := 111 }) (frP (dC, dI) [(h0, .inr (0, [.ref rq, .ref oa, .ref pl, .ref dk, .ref rw, .int 0, .int 0, .int (-1)]))] [] sz Bd [.ref h0, .int x]) "java/lang/IndexOutOfBoundsException" 1 6 := by
  refine tw_ofW (cc := c_TT_shortBy) (maxL := 2) (ret := (some .int)) (by decide) rfl ?_
  intro p e s m args below meth c s₁ B hml hno hv
  obtain ⟨rfl, ⟨hsz, hBs⟩, hP, hK, hD0, hV⟩ := hv
  have hx := B.exec
  have hb := B.bytes
  have hr := B.returns
  have ht : ∀ w ∈ tb_, w.before _ s = true := fun w h => atoms_spec (ws := w_TT_shortBy) B.pre w (List.mem_cons_of_mem _ h)
  have hown : s.vm.findClass R_TT = some m.cls := findClass_of_methodNamed B.named
  have hlocks := B.notSynchronized
  subst hsz
  have hD := hD0.self (sz := s.heap.size)
  have hAB : ∀ q, va_A [(h0, .inr (0, [.ref rq, .ref oa, .ref pl, .ref dk, .ref rw, .int 0, .int 0, .int (-1)]))] s.heap.size q → Bd ≤ q := fr_AB hD0 hBs
  generalize hAe : va_A [(h0, .inr (0, [.ref rq, .ref oa, .ref pl, .ref dk, .ref rw, .int 0, .int 0, .int (-1)]))] s.heap.size = A at hD hAB
  have hA : ∀ q : Nat, s.heap.size ≤ q → A q := fun q h => by rw [← hAe]; exact Or.inr h
  have hS : va_S A s.heap s.heap [] := va_S.rf
  have hAO := hV.2.2.2.1
  have hN_PL := hV.2.2.1.1
  have hN_RW := hV.2.2.1.2
  have hP : va_P (dC, dI) cls_ [(h0, .inr (0, [.ref rq, .ref oa, .ref pl, .ref dk, .ref rw, .int 0, .int 0, .int (-1)]))] s.heap := hP
  have hl := lv_entry ([.ref h0, .int x]) (n := 2) (Nat.le_of_ble_eq_true rfl)
  rw [lg_entry_eq]
  generalize (lg_sl ([.ref h0, .int x]) ++ List.replicate (2 - (lg_sl ([.ref h0, .int x])).length) Slot.unset).toArray = ls at hl ⊢
  have hl : lv_has ls 2 [(0, .ref h0), (1, .int x)] := hl
  refine lv_aload_n hx hb d_TT_shortBy_0 rfl (lv_at hl 0 rfl) ?_
  refine lv_iload_n hx hb d_TT_shortBy_1 rfl (lv_at hl 1 rfl) ?_
  have hPc := hP.sub (ws' := [(h0, .inr (0, [.ref rq, .ref oa, .ref pl, .ref dk, .ref rw, .int 0, .int 0, .int (-1)]))]) [0] rfl
  have hKc := hK.sub (tys' := []) [] rfl
  have hDc := hD.sub (ws' := [(h0, .inr (0, [.ref rq, .ref oa, .ref pl, .ref dk, .ref rw, .int 0, .int 0, .int (-1)]))]) [0] (by decide) rfl
  refine tw_runV (C := R_TT) (As := [.int x]) (rest := []) ⟨hx, hb, hml, hown, ht⟩ (c_TT_numbered_th l dC dI s.heap.size Bd hl9 h0 rq oa pl dk rw x) (cwV 1 ht (gV tb_456 tb_458 ts_20 tb_1 tb_459) rfl rfl rfl (by decide +kernel) ⟨Nat.le_of_ble_eq_true rfl, Nat.le_of_ble_eq_true rfl⟩) ⟨frP_blind, va_recv (q := (R_TT, F_TT, 8)) hK hP rfl (show ([(h0, .inr (0, [.ref rq, .ref oa, .ref pl, .ref dk, .ref rw, .int 0, .int 0, .int (-1)]))] : va_W)[0]? = some (h0, .inr (0, [.ref rq, .ref oa, .ref pl, .ref dk, .ref rw, .int 0, .int 0, .int (-1)])) from rfl), fr_pre hPc hKc hDc hAB hBs hS hV⟩ rfl hl.1 rfl (Nat.le_of_ble_eq_true rfl) d_TT_shortBy_2 ⟨Nat.le_of_ble_eq_true rfl, Nat.le_of_ble_eq_true rfl⟩ (fun xa cellx H1 hx1 hx2 hx3 hx4 hx5 hx6 => ?_)
  exact tw_leave (tw_noH hno _) hlocks (Nat.le_trans hS.1 hx1) hx2 hx3 hx4
set_option maxHeartbeats 4000000 in
set_option maxRecDepth 100000 in
theorem c_TT_erase_th (l : Launch) (dC : Nat → ClassId) (dI : Nat → Nat → Nat) (sz Bd : Nat) (hl9 : l.stackTraces = false) (h0 rq oa pl dk rw : Nat) (x : Int32) : tw_Met l y_TT_erase w_TT_erase ({ frames := 7, cells := 1, slots := 6, locals := 111 }) (frP (dC, dI) [(h0, .inr (0, [.ref rq, .ref oa, .ref pl, .ref dk, .ref rw, .int 0, .int 0, .int (-1)]))] [] sz Bd [.ref h0, .int x]) "java/lang/IndexOutOfBoundsException" 1 6 := by
  refine tw_ofW (cc := c_TT_erase) (maxL := 3) (ret := (some .int)) (by decide) rfl ?_
  intro p e s m args below meth c s₁ B hml hno hv
  obtain ⟨rfl, ⟨hsz, hBs⟩, hP, hK, hD0, hV⟩ := hv
  have hx := B.exec
  have hb := B.bytes
  have hr := B.returns
  have ht : ∀ w ∈ tb_, w.before _ s = true := fun w h => atoms_spec (ws := w_TT_erase) B.pre w (List.mem_cons_of_mem _ h)
  have hown : s.vm.findClass R_TT = some m.cls := findClass_of_methodNamed B.named
  have hlocks := B.notSynchronized
  subst hsz
  have hD := hD0.self (sz := s.heap.size)
  have hAB : ∀ q, va_A [(h0, .inr (0, [.ref rq, .ref oa, .ref pl, .ref dk, .ref rw, .int 0, .int 0, .int (-1)]))] s.heap.size q → Bd ≤ q := fr_AB hD0 hBs
  generalize hAe : va_A [(h0, .inr (0, [.ref rq, .ref oa, .ref pl, .ref dk, .ref rw, .int 0, .int 0, .int (-1)]))] s.heap.size = A at hD hAB
  have hA : ∀ q : Nat, s.heap.size ≤ q → A q := fun q h => by rw [← hAe]; exact Or.inr h
  have hS : va_S A s.heap s.heap [] := va_S.rf
  have hAO := hV.2.2.2.1
  have hN_PL := hV.2.2.1.1
  have hN_RW := hV.2.2.1.2
  have hP : va_P (dC, dI) cls_ [(h0, .inr (0, [.ref rq, .ref oa, .ref pl, .ref dk, .ref rw, .int 0, .int 0, .int (-1)]))] s.heap := hP
  have hl := lv_entry ([.ref h0, .int x]) (n := 3) (Nat.le_of_ble_eq_true rfl)
  rw [lg_entry_eq]
  generalize (lg_sl ([.ref h0, .int x]) ++ List.replicate (3 - (lg_sl ([.ref h0, .int x])).length) Slot.unset).toArray = ls at hl ⊢
  have hl : lv_has ls 3 [(0, .ref h0), (1, .int x)] := hl
  refine lv_aload_n hx hb d_TT_erase_0 rfl (lv_at hl 0 rfl) ?_
  refine lv_iload_n hx hb d_TT_erase_1 rfl (lv_at hl 1 rfl) ?_
  have hPc := hP.sub (ws' := [(h0, .inr (0, [.ref rq, .ref oa, .ref pl, .ref dk, .ref rw, .int 0, .int 0, .int (-1)]))]) [0] rfl
  have hKc := hK.sub (tys' := []) [] rfl
  have hDc := hD.sub (ws' := [(h0, .inr (0, [.ref rq, .ref oa, .ref pl, .ref dk, .ref rw, .int 0, .int 0, .int (-1)]))]) [0] (by decide) rfl
  refine tw_runV (C := R_TT) (As := [.int x]) (rest := []) ⟨hx, hb, hml, hown, ht⟩ (c_TT_numbered_th l dC dI s.heap.size Bd hl9 h0 rq oa pl dk rw x) (cwV 1 ht (gV tb_456 tb_458 ts_20 tb_1 tb_459) rfl rfl rfl (by decide +kernel) ⟨Nat.le_of_ble_eq_true rfl, Nat.le_of_ble_eq_true rfl⟩) ⟨frP_blind, va_recv (q := (R_TT, F_TT, 8)) hK hP rfl (show ([(h0, .inr (0, [.ref rq, .ref oa, .ref pl, .ref dk, .ref rw, .int 0, .int 0, .int (-1)]))] : va_W)[0]? = some (h0, .inr (0, [.ref rq, .ref oa, .ref pl, .ref dk, .ref rw, .int 0, .int 0, .int (-1)])) from rfl), fr_pre hPc hKc hDc hAB hBs hS hV⟩ rfl hl.1 rfl (Nat.le_of_ble_eq_true rfl) d_TT_erase_2 ⟨Nat.le_of_ble_eq_true rfl, Nat.le_of_ble_eq_true rfl⟩ (fun xa cellx H1 hx1 hx2 hx3 hx4 hx5 hx6 => ?_)
  exact tw_leave (tw_noH hno _) hlocks (Nat.le_trans hS.1 hx1) hx2 hx3 hx4
set_option maxHeartbeats 4000000 in
set_option maxRecDepth 100000 in
theorem c_TT_word_th (l : Launch) (dC : Nat → ClassId) (dI : Nat → Nat → Nat) (sz Bd : Nat) (hl9 : l.stackTraces = false) (h0 rq oa pl dk rw : Nat) (x y : Int32) : tw_Met l y_TT_word w_TT_word ({ frames := 7, cells := 1, slots := 6, locals := 111 }) (frP (dC, dI) [(h0, .inr (0, [.ref rq, .ref oa, .ref pl, .ref dk, .ref rw, .int 0, .int 0, .int (-1)]))] [] sz Bd [.ref h0, .int x, .int y]) "java/lang/IndexOutOfBoundsException" 1 6 := by
  refine tw_ofW (cc := c_TT_word) (maxL := 3) (ret := (some .long)) (by decide) rfl ?_
  intro p e s m args below meth c s₁ B hml hno hv
  obtain ⟨rfl, ⟨hsz, hBs⟩, hP, hK, hD0, hV⟩ := hv
  have hx := B.exec
  have hb := B.bytes
  have hr := B.returns
  have ht : ∀ w ∈ tb_, w.before _ s = true := fun w h => atoms_spec (ws := w_TT_word) B.pre w (List.mem_cons_of_mem _ h)
  have hown : s.vm.findClass R_TT = some m.cls := findClass_of_methodNamed B.named
  have hlocks := B.notSynchronized
  subst hsz
  have hD := hD0.self (sz := s.heap.size)
  have hAB : ∀ q, va_A [(h0, .inr (0, [.ref rq, .ref oa, .ref pl, .ref dk, .ref rw, .int 0, .int 0, .int (-1)]))] s.heap.size q → Bd ≤ q := fr_AB hD0 hBs
  generalize hAe : va_A [(h0, .inr (0, [.ref rq, .ref oa, .ref pl, .ref dk, .ref rw, .int 0, .int 0, .int (-1)]))] s.heap.size = A at hD hAB
  have hA : ∀ q : Nat, s.heap.size ≤ q → A q := fun q h => by rw [← hAe]; exact Or.inr h
  have hS : va_S A s.heap s.heap [] := va_S.rf
  have hAO := hV.2.2.2.1
  have hN_PL := hV.2.2.1.1
  have hN_RW := hV.2.2.1.2
  have hP : va_P (dC, dI) cls_ [(h0, .inr (0, [.ref rq, .ref oa, .ref pl, .ref dk, .ref rw, .int 0, .int 0, .int (-1)]))] s.heap := hP
  have hl := lv_entry ([.ref h0, .int x, .int y]) (n := 3) (Nat.le_of_ble_eq_true rfl)
  rw [lg_entry_eq]
  generalize (lg_sl ([.ref h0, .int x, .int y]) ++ List.replicate (3 - (lg_sl ([.ref h0, .int x, .int y])).length) Slot.unset).toArray = ls at hl ⊢
  have hl : lv_has ls 3 [(0, .ref h0), (1, .int x), (2, .int y)] := hl
  refine lv_aload_n hx hb d_TT_word_0 rfl (lv_at hl 0 rfl) ?_
  refine va_get (D := (dC, dI)) (ci := 0) (v := .ref dk) (C := R_TT) (T := F_TT) (N := 8) hx hb ht in_TT hown hK hP 0 rfl rfl 3 (by decide) (ht _ tb_78) (fun _ h9 => h9) rfl d_TT_word_1 ?_
  refine lv_aload_n hx hb d_TT_word_4 rfl (lv_at hl 0 rfl) ?_
  refine lv_iload_n hx hb d_TT_word_5 rfl (lv_at hl 1 rfl) ?_
  have hPc := hP.sub (ws' := [(h0, .inr (0, [.ref rq, .ref oa, .ref pl, .ref dk, .ref rw, .int 0, .int 0, .int (-1)]))]) [0] rfl
  have hKc := hK.sub (tys' := []) [] rfl
  have hDc := hD.sub (ws' := [(h0, .inr (0, [.ref rq, .ref oa, .ref pl, .ref dk, .ref rw, .int 0, .int 0, .int (-1)]))]) [0] (by decide) rfl
  refine tw_runV (C := R_TT) (As := [.int x]) (rest := [.ref dk]) ⟨hx, hb, hml, hown, ht⟩ (c_TT_numbered_th l dC dI s.heap.size Bd hl9 h0 rq oa pl dk rw x) (cwV 1 ht (gV tb_456 tb_458 ts_20 tb_1 tb_459) rfl rfl rfl (by decide +kernel) ⟨Nat.le_of_ble_eq_true rfl, Nat.le_of_ble_eq_true rfl⟩) ⟨frP_blind, va_recv (q := (R_TT, F_TT, 8)) hK hP rfl (show ([(h0, .inr (0, [.ref rq, .ref oa, .ref pl, .ref dk, .ref rw, .int 0, .int 0, .int (-1)]))] : va_W)[0]? = some (h0, .inr (0, [.ref rq, .ref oa, .ref pl, .ref dk, .ref rw, .int 0, .int 0, .int (-1)])) from rfl), fr_pre hPc hKc hDc hAB hBs hS hV⟩ rfl hl.1 rfl (Nat.le_of_ble_eq_true rfl) d_TT_word_6 ⟨Nat.le_of_ble_eq_true rfl, Nat.le_of_ble_eq_true rfl⟩ (fun xa cellx H1 hx1 hx2 hx3 hx4 hx5 hx6 => ?_)
  exact tw_leave (tw_noH hno _) hlocks (Nat.le_trans hS.1 hx1) hx2 hx3 hx4
set_option maxHeartbeats 4000000 in
set_option maxRecDepth 100000 in
theorem c_TT_bookmark_th (l : Launch) (dC : Nat → ClassId) (dI : Nat → Nat → Nat) (sz Bd : Nat) (hl9 : l.stackTraces = false) (h0 rq oa pl dk rw : Nat) (x y : Int32) : tw_Met l y_TT_bookmark w_TT_bookmark ({ frames := 7, cells := 1, slots := 6, locals := 111 }) (frP (dC, dI) [(h0, .inr (0, [.ref rq, .ref oa, .ref pl, .ref dk, .ref rw, .int 0, .int 0, .int (-1)]))] [] sz Bd [.ref h0, .int x, .int y]) "java/lang/IndexOutOfBoundsException" 1 6 := by
  refine tw_ofW (cc := c_TT_bookmark) (maxL := 4) (ret := (some .int)) (by decide) rfl ?_
  intro p e s m args below meth c s₁ B hml hno hv
  obtain ⟨rfl, ⟨hsz, hBs⟩, hP, hK, hD0, hV⟩ := hv
  have hx := B.exec
  have hb := B.bytes
  have hr := B.returns
  have ht : ∀ w ∈ tb_, w.before _ s = true := fun w h => atoms_spec (ws := w_TT_bookmark) B.pre w (List.mem_cons_of_mem _ h)
  have hown : s.vm.findClass R_TT = some m.cls := findClass_of_methodNamed B.named
  have hlocks := B.notSynchronized
  subst hsz
  have hD := hD0.self (sz := s.heap.size)
  have hAB : ∀ q, va_A [(h0, .inr (0, [.ref rq, .ref oa, .ref pl, .ref dk, .ref rw, .int 0, .int 0, .int (-1)]))] s.heap.size q → Bd ≤ q := fr_AB hD0 hBs
  generalize hAe : va_A [(h0, .inr (0, [.ref rq, .ref oa, .ref pl, .ref dk, .ref rw, .int 0, .int 0, .int (-1)]))] s.heap.size = A at hD hAB
  have hA : ∀ q : Nat, s.heap.size ≤ q → A q := fun q h => by rw [← hAe]; exact Or.inr h
  have hS : va_S A s.heap s.heap [] := va_S.rf
  have hAO := hV.2.2.2.1
  have hN_PL := hV.2.2.1.1
  have hN_RW := hV.2.2.1.2
  have hP : va_P (dC, dI) cls_ [(h0, .inr (0, [.ref rq, .ref oa, .ref pl, .ref dk, .ref rw, .int 0, .int 0, .int (-1)]))] s.heap := hP
  have hl := lv_entry ([.ref h0, .int x, .int y]) (n := 4) (Nat.le_of_ble_eq_true rfl)
  rw [lg_entry_eq]
  generalize (lg_sl ([.ref h0, .int x, .int y]) ++ List.replicate (4 - (lg_sl ([.ref h0, .int x, .int y])).length) Slot.unset).toArray = ls at hl ⊢
  have hl : lv_has ls 4 [(0, .ref h0), (1, .int x), (2, .int y)] := hl
  refine lv_aload_n hx hb d_TT_bookmark_0 rfl (lv_at hl 0 rfl) ?_
  refine lv_iload_n hx hb d_TT_bookmark_1 rfl (lv_at hl 1 rfl) ?_
  have hPc := hP.sub (ws' := [(h0, .inr (0, [.ref rq, .ref oa, .ref pl, .ref dk, .ref rw, .int 0, .int 0, .int (-1)]))]) [0] rfl
  have hKc := hK.sub (tys' := []) [] rfl
  have hDc := hD.sub (ws' := [(h0, .inr (0, [.ref rq, .ref oa, .ref pl, .ref dk, .ref rw, .int 0, .int 0, .int (-1)]))]) [0] (by decide) rfl
  refine tw_runV (C := R_TT) (As := [.int x]) (rest := []) ⟨hx, hb, hml, hown, ht⟩ (c_TT_numbered_th l dC dI s.heap.size Bd hl9 h0 rq oa pl dk rw x) (cwV 1 ht (gV tb_456 tb_458 ts_20 tb_1 tb_459) rfl rfl rfl (by decide +kernel) ⟨Nat.le_of_ble_eq_true rfl, Nat.le_of_ble_eq_true rfl⟩) ⟨frP_blind, va_recv (q := (R_TT, F_TT, 8)) hK hP rfl (show ([(h0, .inr (0, [.ref rq, .ref oa, .ref pl, .ref dk, .ref rw, .int 0, .int 0, .int (-1)]))] : va_W)[0]? = some (h0, .inr (0, [.ref rq, .ref oa, .ref pl, .ref dk, .ref rw, .int 0, .int 0, .int (-1)])) from rfl), fr_pre hPc hKc hDc hAB hBs hS hV⟩ rfl hl.1 rfl (Nat.le_of_ble_eq_true rfl) d_TT_bookmark_2 ⟨Nat.le_of_ble_eq_true rfl, Nat.le_of_ble_eq_true rfl⟩ (fun xa cellx H1 hx1 hx2 hx3 hx4 hx5 hx6 => ?_)
  exact tw_leave (tw_noH hno _) hlocks (Nat.le_trans hS.1 hx1) hx2 hx3 hx4
set_option maxHeartbeats 4000000 in
set_option maxRecDepth 100000 in
theorem c_TT_bookmarkAt_th (l : Launch) (dC : Nat → ClassId) (dI : Nat → Nat → Nat) (sz Bd : Nat) (hl9 : l.stackTraces = false) (h0 rq oa pl dk rw : Nat) (x y : Int32) : tw_Met l y_TT_bookmarkAt w_TT_bookmarkAt ({ frames := 7, cells := 1, slots := 6, locals := 111 }) (frP (dC, dI) [(h0, .inr (0, [.ref rq, .ref oa, .ref pl, .ref dk, .ref rw, .int 0, .int 0, .int (-1)]))] [] sz Bd [.ref h0, .int x, .int y]) "java/lang/IndexOutOfBoundsException" 1 6 := by
  refine tw_ofW (cc := c_TT_bookmarkAt) (maxL := 4) (ret := (some .int)) (by decide) rfl ?_
  intro p e s m args below meth c s₁ B hml hno hv
  obtain ⟨rfl, ⟨hsz, hBs⟩, hP, hK, hD0, hV⟩ := hv
  have hx := B.exec
  have hb := B.bytes
  have hr := B.returns
  have ht : ∀ w ∈ tb_, w.before _ s = true := fun w h => atoms_spec (ws := w_TT_bookmarkAt) B.pre w (List.mem_cons_of_mem _ h)
  have hown : s.vm.findClass R_TT = some m.cls := findClass_of_methodNamed B.named
  have hlocks := B.notSynchronized
  subst hsz
  have hD := hD0.self (sz := s.heap.size)
  have hAB : ∀ q, va_A [(h0, .inr (0, [.ref rq, .ref oa, .ref pl, .ref dk, .ref rw, .int 0, .int 0, .int (-1)]))] s.heap.size q → Bd ≤ q := fr_AB hD0 hBs
  generalize hAe : va_A [(h0, .inr (0, [.ref rq, .ref oa, .ref pl, .ref dk, .ref rw, .int 0, .int 0, .int (-1)]))] s.heap.size = A at hD hAB
  have hA : ∀ q : Nat, s.heap.size ≤ q → A q := fun q h => by rw [← hAe]; exact Or.inr h
  have hS : va_S A s.heap s.heap [] := va_S.rf
  have hAO := hV.2.2.2.1
  have hN_PL := hV.2.2.1.1
  have hN_RW := hV.2.2.1.2
  have hP : va_P (dC, dI) cls_ [(h0, .inr (0, [.ref rq, .ref oa, .ref pl, .ref dk, .ref rw, .int 0, .int 0, .int (-1)]))] s.heap := hP
  have hl := lv_entry ([.ref h0, .int x, .int y]) (n := 4) (Nat.le_of_ble_eq_true rfl)
  rw [lg_entry_eq]
  generalize (lg_sl ([.ref h0, .int x, .int y]) ++ List.replicate (4 - (lg_sl ([.ref h0, .int x, .int y])).length) Slot.unset).toArray = ls at hl ⊢
  have hl : lv_has ls 4 [(0, .ref h0), (1, .int x), (2, .int y)] := hl
  refine lv_aload_n hx hb d_TT_bookmarkAt_0 rfl (lv_at hl 0 rfl) ?_
  refine lv_iload_n hx hb d_TT_bookmarkAt_1 rfl (lv_at hl 1 rfl) ?_
  have hPc := hP.sub (ws' := [(h0, .inr (0, [.ref rq, .ref oa, .ref pl, .ref dk, .ref rw, .int 0, .int 0, .int (-1)]))]) [0] rfl
  have hKc := hK.sub (tys' := []) [] rfl
  have hDc := hD.sub (ws' := [(h0, .inr (0, [.ref rq, .ref oa, .ref pl, .ref dk, .ref rw, .int 0, .int 0, .int (-1)]))]) [0] (by decide) rfl
  refine tw_runV (C := R_TT) (As := [.int x]) (rest := []) ⟨hx, hb, hml, hown, ht⟩ (c_TT_numbered_th l dC dI s.heap.size Bd hl9 h0 rq oa pl dk rw x) (cwV 1 ht (gV tb_456 tb_458 ts_20 tb_1 tb_459) rfl rfl rfl (by decide +kernel) ⟨Nat.le_of_ble_eq_true rfl, Nat.le_of_ble_eq_true rfl⟩) ⟨frP_blind, va_recv (q := (R_TT, F_TT, 8)) hK hP rfl (show ([(h0, .inr (0, [.ref rq, .ref oa, .ref pl, .ref dk, .ref rw, .int 0, .int 0, .int (-1)]))] : va_W)[0]? = some (h0, .inr (0, [.ref rq, .ref oa, .ref pl, .ref dk, .ref rw, .int 0, .int 0, .int (-1)])) from rfl), fr_pre hPc hKc hDc hAB hBs hS hV⟩ rfl hl.1 rfl (Nat.le_of_ble_eq_true rfl) d_TT_bookmarkAt_2 ⟨Nat.le_of_ble_eq_true rfl, Nat.le_of_ble_eq_true rfl⟩ (fun xa cellx H1 hx1 hx2 hx3 hx4 hx5 hx6 => ?_)
  exact tw_leave (tw_noH hno _) hlocks (Nat.le_trans hS.1 hx1) hx2 hx3 hx4
set_option maxHeartbeats 4000000 in
set_option maxRecDepth 100000 in
theorem c_TT_protect_th (l : Launch) (dC : Nat → ClassId) (dI : Nat → Nat → Nat) (sz Bd : Nat) (hl9 : l.stackTraces = false) (h0 rq oa pl dk rw : Nat) (x y : Int32) : tw_Met l y_TT_protect w_TT_protect ({ frames := 8, cells := 1, slots := 6, locals := 133 }) (frP (dC, dI) [(h0, .inr (0, [.ref rq, .ref oa, .ref pl, .ref dk, .ref rw, .int 0, .int 0, .int (-1)]))] [] sz Bd [.ref h0, .int x, .int y]) "java/lang/IndexOutOfBoundsException" 1 6 := by
  refine tw_ofW (cc := c_TT_protect) (maxL := 3) (ret := none) (by decide) rfl ?_
  intro p e s m args below meth c s₁ B hml hno hv
  obtain ⟨rfl, ⟨hsz, hBs⟩, hP, hK, hD0, hV⟩ := hv
  have hx := B.exec
  have hb := B.bytes
  have hr := B.returns
  have ht : ∀ w ∈ tb_, w.before _ s = true := fun w h => atoms_spec (ws := w_TT_protect) B.pre w (List.mem_cons_of_mem _ h)
  have hown : s.vm.findClass R_TT = some m.cls := findClass_of_methodNamed B.named
  have hlocks := B.notSynchronized
  subst hsz
  have hD := hD0.self (sz := s.heap.size)
  have hAB : ∀ q, va_A [(h0, .inr (0, [.ref rq, .ref oa, .ref pl, .ref dk, .ref rw, .int 0, .int 0, .int (-1)]))] s.heap.size q → Bd ≤ q := fr_AB hD0 hBs
  generalize hAe : va_A [(h0, .inr (0, [.ref rq, .ref oa, .ref pl, .ref dk, .ref rw, .int 0, .int 0, .int (-1)]))] s.heap.size = A at hD hAB
  have hA : ∀ q : Nat, s.heap.size ≤ q → A q := fun q h => by rw [← hAe]; exact Or.inr h
  have hS : va_S A s.heap s.heap [] := va_S.rf
  have hAO := hV.2.2.2.1
  have hN_PL := hV.2.2.1.1
  have hN_RW := hV.2.2.1.2
  have hP : va_P (dC, dI) cls_ [(h0, .inr (0, [.ref rq, .ref oa, .ref pl, .ref dk, .ref rw, .int 0, .int 0, .int (-1)]))] s.heap := hP
  have hl := lv_entry ([.ref h0, .int x, .int y]) (n := 3) (Nat.le_of_ble_eq_true rfl)
  rw [lg_entry_eq]
  generalize (lg_sl ([.ref h0, .int x, .int y]) ++ List.replicate (3 - (lg_sl ([.ref h0, .int x, .int y])).length) Slot.unset).toArray = ls at hl ⊢
  have hl : lv_has ls 3 [(0, .ref h0), (1, .int x), (2, .int y)] := hl
  refine lv_aload_n hx hb d_TT_protect_0 rfl (lv_at hl 0 rfl) ?_
  refine lv_iload_n hx hb d_TT_protect_1 rfl (lv_at hl 1 rfl) ?_
  have hPc := hP.sub (ws' := [(h0, .inr (0, [.ref rq, .ref oa, .ref pl, .ref dk, .ref rw, .int 0, .int 0, .int (-1)]))]) [0] rfl
  have hKc := hK.sub (tys' := []) [] rfl
  have hDc := hD.sub (ws' := [(h0, .inr (0, [.ref rq, .ref oa, .ref pl, .ref dk, .ref rw, .int 0, .int 0, .int (-1)]))]) [0] (by decide) rfl
  refine tw_runV (C := R_TT) (As := [.int x]) (rest := []) ⟨hx, hb, hml, hown, ht⟩ (c_TT_recordingNumbered_th l dC dI s.heap.size Bd hl9 h0 rq oa pl dk rw x) (cwV 1 ht (gV tb_566 tb_568 ts_21 tb_1 tb_569) rfl rfl rfl (by decide +kernel) ⟨Nat.le_of_ble_eq_true rfl, Nat.le_of_ble_eq_true rfl⟩) ⟨frP_blind, va_recv (q := (R_TT, F_TT, 8)) hK hP rfl (show ([(h0, .inr (0, [.ref rq, .ref oa, .ref pl, .ref dk, .ref rw, .int 0, .int 0, .int (-1)]))] : va_W)[0]? = some (h0, .inr (0, [.ref rq, .ref oa, .ref pl, .ref dk, .ref rw, .int 0, .int 0, .int (-1)])) from rfl), fr_pre hPc hKc hDc hAB hBs hS hV⟩ rfl hl.1 rfl (Nat.le_of_ble_eq_true rfl) d_TT_protect_2 ⟨Nat.le_of_ble_eq_true rfl, Nat.le_of_ble_eq_true rfl⟩ (fun xa cellx H1 hx1 hx2 hx3 hx4 hx5 hx6 => ?_)
  exact tw_leave (tw_noH hno _) hlocks (Nat.le_trans hS.1 hx1) hx2 hx3 hx4
set_option maxHeartbeats 4000000 in
set_option maxRecDepth 100000 in
theorem c_TT_seen_th (l : Launch) (dC : Nat → ClassId) (dI : Nat → Nat → Nat) (sz Bd : Nat) (hl9 : l.stackTraces = false) (h0 rq oa pl dk rw : Nat) (x y : Int32) : tw_Met l y_TT_seen w_TT_seen ({ frames := 8, cells := 1, slots := 6, locals := 133 }) (frP (dC, dI) [(h0, .inr (0, [.ref rq, .ref oa, .ref pl, .ref dk, .ref rw, .int 0, .int 0, .int (-1)]))] [] sz Bd [.ref h0, .int x, .int y]) "java/lang/IndexOutOfBoundsException" 1 6 := by
  refine tw_ofW (cc := c_TT_seen) (maxL := 3) (ret := none) (by decide) rfl ?_
  intro p e s m args below meth c s₁ B hml hno hv
  obtain ⟨rfl, ⟨hsz, hBs⟩, hP, hK, hD0, hV⟩ := hv
  have hx := B.exec
  have hb := B.bytes
  have hr := B.returns
  have ht : ∀ w ∈ tb_, w.before _ s = true := fun w h => atoms_spec (ws := w_TT_seen) B.pre w (List.mem_cons_of_mem _ h)
  have hown : s.vm.findClass R_TT = some m.cls := findClass_of_methodNamed B.named
  have hlocks := B.notSynchronized
  subst hsz
  have hD := hD0.self (sz := s.heap.size)
  have hAB : ∀ q, va_A [(h0, .inr (0, [.ref rq, .ref oa, .ref pl, .ref dk, .ref rw, .int 0, .int 0, .int (-1)]))] s.heap.size q → Bd ≤ q := fr_AB hD0 hBs
  generalize hAe : va_A [(h0, .inr (0, [.ref rq, .ref oa, .ref pl, .ref dk, .ref rw, .int 0, .int 0, .int (-1)]))] s.heap.size = A at hD hAB
  have hA : ∀ q : Nat, s.heap.size ≤ q → A q := fun q h => by rw [← hAe]; exact Or.inr h
  have hS : va_S A s.heap s.heap [] := va_S.rf
  have hAO := hV.2.2.2.1
  have hN_PL := hV.2.2.1.1
  have hN_RW := hV.2.2.1.2
  have hP : va_P (dC, dI) cls_ [(h0, .inr (0, [.ref rq, .ref oa, .ref pl, .ref dk, .ref rw, .int 0, .int 0, .int (-1)]))] s.heap := hP
  have hl := lv_entry ([.ref h0, .int x, .int y]) (n := 3) (Nat.le_of_ble_eq_true rfl)
  rw [lg_entry_eq]
  generalize (lg_sl ([.ref h0, .int x, .int y]) ++ List.replicate (3 - (lg_sl ([.ref h0, .int x, .int y])).length) Slot.unset).toArray = ls at hl ⊢
  have hl : lv_has ls 3 [(0, .ref h0), (1, .int x), (2, .int y)] := hl
  refine lv_aload_n hx hb d_TT_seen_0 rfl (lv_at hl 0 rfl) ?_
  refine lv_iload_n hx hb d_TT_seen_1 rfl (lv_at hl 1 rfl) ?_
  have hPc := hP.sub (ws' := [(h0, .inr (0, [.ref rq, .ref oa, .ref pl, .ref dk, .ref rw, .int 0, .int 0, .int (-1)]))]) [0] rfl
  have hKc := hK.sub (tys' := []) [] rfl
  have hDc := hD.sub (ws' := [(h0, .inr (0, [.ref rq, .ref oa, .ref pl, .ref dk, .ref rw, .int 0, .int 0, .int (-1)]))]) [0] (by decide) rfl
  refine tw_runV (C := R_TT) (As := [.int x]) (rest := []) ⟨hx, hb, hml, hown, ht⟩ (c_TT_recordingNumbered_th l dC dI s.heap.size Bd hl9 h0 rq oa pl dk rw x) (cwV 1 ht (gV tb_566 tb_568 ts_21 tb_1 tb_569) rfl rfl rfl (by decide +kernel) ⟨Nat.le_of_ble_eq_true rfl, Nat.le_of_ble_eq_true rfl⟩) ⟨frP_blind, va_recv (q := (R_TT, F_TT, 8)) hK hP rfl (show ([(h0, .inr (0, [.ref rq, .ref oa, .ref pl, .ref dk, .ref rw, .int 0, .int 0, .int (-1)]))] : va_W)[0]? = some (h0, .inr (0, [.ref rq, .ref oa, .ref pl, .ref dk, .ref rw, .int 0, .int 0, .int (-1)])) from rfl), fr_pre hPc hKc hDc hAB hBs hS hV⟩ rfl hl.1 rfl (Nat.le_of_ble_eq_true rfl) d_TT_seen_2 ⟨Nat.le_of_ble_eq_true rfl, Nat.le_of_ble_eq_true rfl⟩ (fun xa cellx H1 hx1 hx2 hx3 hx4 hx5 hx6 => ?_)
  exact tw_leave (tw_noH hno _) hlocks (Nat.le_trans hS.1 hx1) hx2 hx3 hx4
set_option maxHeartbeats 4000000 in
set_option maxRecDepth 100000 in
theorem c_TT_air_th (l : Launch) (dC : Nat → ClassId) (dI : Nat → Nat → Nat) (sz Bd : Nat) (hl9 : l.stackTraces = false) (h0 rq oa pl dk rw : Nat) (x y : Int32) (h : ¬ (0 ≤ x ∧ x ≤ 7)) : tw_Met l y_TT_air w_TT_air ({ frames := 6, cells := 1, slots := 6, locals := 90 }) (frP (dC, dI) [(h0, .inr (0, [.ref rq, .ref oa, .ref pl, .ref dk, .ref rw, .int 0, .int 0, .int (-1)]))] [] sz Bd [.ref h0, .int x, .int y]) "java/lang/IndexOutOfBoundsException" 1 6 := by
  refine tw_ofW (cc := c_TT_air) (maxL := 3) (ret := none) (by decide) rfl ?_
  intro p e s m args below meth c s₁ B hml hno hv
  obtain ⟨rfl, ⟨hsz, hBs⟩, hP, hK, hD0, hV⟩ := hv
  have hx := B.exec
  have hb := B.bytes
  have hr := B.returns
  have ht : ∀ w ∈ tb_, w.before _ s = true := fun w h => atoms_spec (ws := w_TT_air) B.pre w (List.mem_cons_of_mem _ h)
  have hown : s.vm.findClass R_TT = some m.cls := findClass_of_methodNamed B.named
  have hlocks := B.notSynchronized
  subst hsz
  have hD := hD0.self (sz := s.heap.size)
  have hAB : ∀ q, va_A [(h0, .inr (0, [.ref rq, .ref oa, .ref pl, .ref dk, .ref rw, .int 0, .int 0, .int (-1)]))] s.heap.size q → Bd ≤ q := fr_AB hD0 hBs
  generalize hAe : va_A [(h0, .inr (0, [.ref rq, .ref oa, .ref pl, .ref dk, .ref rw, .int 0, .int 0, .int (-1)]))] s.heap.size = A at hD hAB
  have hA : ∀ q : Nat, s.heap.size ≤ q → A q := fun q h => by rw [← hAe]; exact Or.inr h
  have hS : va_S A s.heap s.heap [] := va_S.rf
  have hAO := hV.2.2.2.1
  have hN_PL := hV.2.2.1.1
  have hN_RW := hV.2.2.1.2
  have hP : va_P (dC, dI) cls_ [(h0, .inr (0, [.ref rq, .ref oa, .ref pl, .ref dk, .ref rw, .int 0, .int 0, .int (-1)]))] s.heap := hP
  have hl := lv_entry ([.ref h0, .int x, .int y]) (n := 3) (Nat.le_of_ble_eq_true rfl)
  rw [lg_entry_eq]
  generalize (lg_sl ([.ref h0, .int x, .int y]) ++ List.replicate (3 - (lg_sl ([.ref h0, .int x, .int y])).length) Slot.unset).toArray = ls at hl ⊢
  have hl : lv_has ls 3 [(0, .ref h0), (1, .int x), (2, .int y)] := hl
  refine lv_iload_n hx hb d_TT_air_0 rfl (lv_at hl 1 rfl) ?_
  have hPc := hP.sub (ws' := []) [] rfl
  have hKc := hK.sub (tys' := []) [] rfl
  refine rd_call (va_runS (As := [.int x]) (rest := []) ⟨hx, hb, hml, hown, ht⟩ (c_TT_isChannel_no l dC dI x h) (va_cwS 1 ht (gS tb_270 tb_271 tb_1 tb_272) rfl rfl rfl (by decide +kernel) ⟨Nat.le_of_ble_eq_true rfl, Nat.le_of_ble_eq_true rfl⟩) ⟨rdP_blind, rd_pre hPc hKc⟩ rfl rfl hl.1 rfl (lv_room (Nat.le_of_ble_eq_true rfl)) d_TT_air_1 ⟨Nat.le_of_ble_eq_true rfl, Nat.le_of_ble_eq_true rfl⟩) ?_
  refine W.eq (g2 := F0 m 4 ls [.int 0]) rfl ?_
  refine lv_if_ne (tgt := 17) hx hb d_TT_air_4 (by decide) (fun h9 => absurd (by decide) h9) (fun _ => ?_)
  obtain ⟨sa, hsa⟩ := hV.2.2.2.2.1.2.2.1
  exact tw_throwNew hx hb hl9 hown (by decide) (by decide) (ht _ tb_460) (ht _ tb_12) hsa (at_IO ht hV) hS.1 (by rw [hml]; exact hl.1) d_TT_air_7 d_TT_air_10 d_TT_air_11 d_TT_air_13 d_TT_air_16 (tw_noH hno _) (Nat.le_of_ble_eq_true rfl) (Nat.le_of_ble_eq_true rfl) (Nat.le_of_ble_eq_true rfl) (Nat.le_of_ble_eq_true rfl) hlocks
set_option maxHeartbeats 4000000 in
set_option maxRecDepth 100000 in
theorem c_TT_watch_th (l : Launch) (dC : Nat → ClassId) (dI : Nat → Nat → Nat) (sz Bd : Nat) (hl9 : l.stackTraces = false) (h0 rq oa pl dk rw : Nat) (x : Int32) (hne : ¬ x = -1) (h : ¬ (0 ≤ x ∧ x ≤ 7)) : tw_Met l y_TT_watch w_TT_watch ({ frames := 6, cells := 1, slots := 6, locals := 90 }) (frP (dC, dI) [(h0, .inr (0, [.ref rq, .ref oa, .ref pl, .ref dk, .ref rw, .int 0, .int 0, .int (-1)]))] [] sz Bd [.ref h0, .int x]) "java/lang/IndexOutOfBoundsException" 1 6 := by
  refine tw_ofW (cc := c_TT_watch) (maxL := 3) (ret := (some .int)) (by decide) rfl ?_
  intro p e s m args below meth c s₁ B hml hno hv
  obtain ⟨rfl, ⟨hsz, hBs⟩, hP, hK, hD0, hV⟩ := hv
  have hx := B.exec
  have hb := B.bytes
  have hr := B.returns
  have ht : ∀ w ∈ tb_, w.before _ s = true := fun w h => atoms_spec (ws := w_TT_watch) B.pre w (List.mem_cons_of_mem _ h)
  have hown : s.vm.findClass R_TT = some m.cls := findClass_of_methodNamed B.named
  have hlocks := B.notSynchronized
  subst hsz
  have hD := hD0.self (sz := s.heap.size)
  have hAB : ∀ q, va_A [(h0, .inr (0, [.ref rq, .ref oa, .ref pl, .ref dk, .ref rw, .int 0, .int 0, .int (-1)]))] s.heap.size q → Bd ≤ q := fr_AB hD0 hBs
  generalize hAe : va_A [(h0, .inr (0, [.ref rq, .ref oa, .ref pl, .ref dk, .ref rw, .int 0, .int 0, .int (-1)]))] s.heap.size = A at hD hAB
  have hA : ∀ q : Nat, s.heap.size ≤ q → A q := fun q h => by rw [← hAe]; exact Or.inr h
  have hS : va_S A s.heap s.heap [] := va_S.rf
  have hAO := hV.2.2.2.1
  have hN_PL := hV.2.2.1.1
  have hN_RW := hV.2.2.1.2
  have hP : va_P (dC, dI) cls_ [(h0, .inr (0, [.ref rq, .ref oa, .ref pl, .ref dk, .ref rw, .int 0, .int 0, .int (-1)]))] s.heap := hP
  have hl := lv_entry ([.ref h0, .int x]) (n := 3) (Nat.le_of_ble_eq_true rfl)
  rw [lg_entry_eq]
  generalize (lg_sl ([.ref h0, .int x]) ++ List.replicate (3 - (lg_sl ([.ref h0, .int x])).length) Slot.unset).toArray = ls at hl ⊢
  have hl : lv_has ls 3 [(0, .ref h0), (1, .int x)] := hl
  refine lv_iload_n hx hb d_TT_watch_0 rfl (lv_at hl 1 rfl) ?_
  refine lv_iconst (v := -1) hx hb d_TT_watch_1 (by decide) ?_
  refine lv_icmp_eq (tgt := 22) hx hb d_TT_watch_2 (by decide) (fun h9 => absurd h9 (hne)) (fun _ => ?_)
  refine lv_iload_n hx hb d_TT_watch_5 rfl (lv_at hl 1 rfl) ?_
  have hPc := hP.sub (ws' := []) [] rfl
  have hKc := hK.sub (tys' := []) [] rfl
  refine rd_call (va_runS (As := [.int x]) (rest := []) ⟨hx, hb, hml, hown, ht⟩ (c_TT_isChannel_no l dC dI x h) (va_cwS 1 ht (gS tb_270 tb_271 tb_1 tb_272) rfl rfl rfl (by decide +kernel) ⟨Nat.le_of_ble_eq_true rfl, Nat.le_of_ble_eq_true rfl⟩) ⟨rdP_blind, rd_pre hPc hKc⟩ rfl rfl hl.1 rfl (lv_room (Nat.le_of_ble_eq_true rfl)) d_TT_watch_6 ⟨Nat.le_of_ble_eq_true rfl, Nat.le_of_ble_eq_true rfl⟩) ?_
  refine W.eq (g2 := F0 m 9 ls [.int 0]) rfl ?_
  refine lv_if_ne (tgt := 22) hx hb d_TT_watch_9 (by decide) (fun h9 => absurd (by decide) h9) (fun _ => ?_)
  obtain ⟨sa, hsa⟩ := hV.2.2.2.2.1.2.2.1
  exact tw_throwNew hx hb hl9 hown (by decide) (by decide) (ht _ tb_460) (ht _ tb_12) hsa (at_IO ht hV) hS.1 (by rw [hml]; exact hl.1) d_TT_watch_12 d_TT_watch_15 d_TT_watch_16 d_TT_watch_18 d_TT_watch_21 (tw_noH hno _) (Nat.le_of_ble_eq_true rfl) (Nat.le_of_ble_eq_true rfl) (Nat.le_of_ble_eq_true rfl) (Nat.le_of_ble_eq_true rfl) hlocks
set_option maxHeartbeats 4000000 in
set_option maxRecDepth 100000 in
theorem c_TT_ticks_th (l : Launch) (dC : Nat → ClassId) (dI : Nat → Nat → Nat) (sz Bd : Nat) (hl9 : l.stackTraces = false) (h0 rq oa pl dk rw : Nat) (x : Int32) (h : ¬ (1 ≤ x ∧ x ≤ 100)) : tw_Met l y_TT_ticks w_TT_ticks ({ frames := 6, cells := 1, slots := 6, locals := 90 }) (frP (dC, dI) [(h0, .inr (0, [.ref rq, .ref oa, .ref pl, .ref dk, .ref rw, .int 0, .int 0, .int (-1)]))] [] sz Bd [.ref h0, .int x]) "java/lang/IllegalArgumentException" 1 6 := by
  refine tw_ofW (cc := c_TT_ticks) (maxL := 4) (ret := (some .int)) (by decide) rfl ?_
  intro p e s m args below meth c s₁ B hml hno hv
  obtain ⟨rfl, ⟨hsz, hBs⟩, hP, hK, hD0, hV⟩ := hv
  have hx := B.exec
  have hb := B.bytes
  have hr := B.returns
  have ht : ∀ w ∈ tb_, w.before _ s = true := fun w h => atoms_spec (ws := w_TT_ticks) B.pre w (List.mem_cons_of_mem _ h)
  have hown : s.vm.findClass R_TT = some m.cls := findClass_of_methodNamed B.named
  have hlocks := B.notSynchronized
  subst hsz
  have hD := hD0.self (sz := s.heap.size)
  have hAB : ∀ q, va_A [(h0, .inr (0, [.ref rq, .ref oa, .ref pl, .ref dk, .ref rw, .int 0, .int 0, .int (-1)]))] s.heap.size q → Bd ≤ q := fr_AB hD0 hBs
  generalize hAe : va_A [(h0, .inr (0, [.ref rq, .ref oa, .ref pl, .ref dk, .ref rw, .int 0, .int 0, .int (-1)]))] s.heap.size = A at hD hAB
  have hA : ∀ q : Nat, s.heap.size ≤ q → A q := fun q h => by rw [← hAe]; exact Or.inr h
  have hS : va_S A s.heap s.heap [] := va_S.rf
  have hAO := hV.2.2.2.1
  have hN_PL := hV.2.2.1.1
  have hN_RW := hV.2.2.1.2
  have hP : va_P (dC, dI) cls_ [(h0, .inr (0, [.ref rq, .ref oa, .ref pl, .ref dk, .ref rw, .int 0, .int 0, .int (-1)]))] s.heap := hP
  have hl := lv_entry ([.ref h0, .int x]) (n := 4) (Nat.le_of_ble_eq_true rfl)
  rw [lg_entry_eq]
  generalize (lg_sl ([.ref h0, .int x]) ++ List.replicate (4 - (lg_sl ([.ref h0, .int x])).length) Slot.unset).toArray = ls at hl ⊢
  have hl : lv_has ls 4 [(0, .ref h0), (1, .int x)] := hl
  refine lv_iload_n hx hb d_TT_ticks_0 rfl (lv_at hl 1 rfl) ?_
  refine lv_iconst (v := 1) hx hb d_TT_ticks_1 (by decide) ?_
  refine lv_bipush (v := 100) hx hb d_TT_ticks_2 (by decide) ?_
  have hPc := hP.sub (ws' := []) [] rfl
  have hKc := hK.sub (tys' := []) [] rfl
  refine rd_call (va_runS (As := [.int x, .int 1, .int 100]) (rest := []) ⟨hx, hb, hml, hown, ht⟩ (c_TT_isWithin_no l dC dI x 1 100 h) (va_cwS 3 ht (gS tb_273 tb_226 tb_1 tb_227) rfl rfl rfl (by decide +kernel) ⟨Nat.le_of_ble_eq_true rfl, Nat.le_of_ble_eq_true rfl⟩) ⟨rdP_blind, rd_pre hPc hKc⟩ rfl rfl hl.1 rfl (lv_room (Nat.le_of_ble_eq_true rfl)) d_TT_ticks_4 ⟨Nat.le_of_ble_eq_true rfl, Nat.le_of_ble_eq_true rfl⟩) ?_
  refine W.eq (g2 := F0 m 7 ls [.int 0]) rfl ?_
  refine lv_if_ne (tgt := 20) hx hb d_TT_ticks_7 (by decide) (fun h9 => absurd (by decide) h9) (fun _ => ?_)
  obtain ⟨sa, hsa⟩ := hV.2.2.2.2.1.2.2.2.1
  exact tw_throwNew hx hb hl9 hown (by decide) (by decide) (ht _ tb_278) (ht _ tb_9) hsa (at_IA ht hV) hS.1 (by rw [hml]; exact hl.1) d_TT_ticks_10 d_TT_ticks_13 d_TT_ticks_14 d_TT_ticks_16 d_TT_ticks_19 (tw_noH hno _) (Nat.le_of_ble_eq_true rfl) (Nat.le_of_ble_eq_true rfl) (Nat.le_of_ble_eq_true rfl) (Nat.le_of_ble_eq_true rfl) hlocks
set_option maxHeartbeats 4000000 in
set_option maxRecDepth 100000 in
theorem c_TT_cut_th (l : Launch) (dC : Nat → ClassId) (dI : Nat → Nat → Nat) (sz Bd : Nat) (hl9 : l.stackTraces = false) (h0 rq oa pl dk rw : Nat) (x : Int32) (h : ¬ (0 ≤ x ∧ x ≤ 1000)) : tw_Met l y_TT_cut w_TT_cut ({ frames := 6, cells := 1, slots := 6, locals := 90 }) (frP (dC, dI) [(h0, .inr (0, [.ref rq, .ref oa, .ref pl, .ref dk, .ref rw, .int 0, .int 0, .int (-1)]))] [] sz Bd [.ref h0, .int x]) "java/lang/IllegalArgumentException" 1 6 := by
  refine tw_ofW (cc := c_TT_cut) (maxL := 5) (ret := (some .int)) (by decide) rfl ?_
  intro p e s m args below meth c s₁ B hml hno hv
  obtain ⟨rfl, ⟨hsz, hBs⟩, hP, hK, hD0, hV⟩ := hv
  have hx := B.exec
  have hb := B.bytes
  have hr := B.returns
  have ht : ∀ w ∈ tb_, w.before _ s = true := fun w h => atoms_spec (ws := w_TT_cut) B.pre w (List.mem_cons_of_mem _ h)
  have hown : s.vm.findClass R_TT = some m.cls := findClass_of_methodNamed B.named
  have hlocks := B.notSynchronized
  subst hsz
  have hD := hD0.self (sz := s.heap.size)
  have hAB : ∀ q, va_A [(h0, .inr (0, [.ref rq, .ref oa, .ref pl, .ref dk, .ref rw, .int 0, .int 0, .int (-1)]))] s.heap.size q → Bd ≤ q := fr_AB hD0 hBs
  generalize hAe : va_A [(h0, .inr (0, [.ref rq, .ref oa, .ref pl, .ref dk, .ref rw, .int 0, .int 0, .int (-1)]))] s.heap.size = A at hD hAB
  have hA : ∀ q : Nat, s.heap.size ≤ q → A q := fun q h => by rw [← hAe]; exact Or.inr h
  have hS : va_S A s.heap s.heap [] := va_S.rf
  have hAO := hV.2.2.2.1
  have hN_PL := hV.2.2.1.1
  have hN_RW := hV.2.2.1.2
  have hP : va_P (dC, dI) cls_ [(h0, .inr (0, [.ref rq, .ref oa, .ref pl, .ref dk, .ref rw, .int 0, .int 0, .int (-1)]))] s.heap := hP
  have hl := lv_entry ([.ref h0, .int x]) (n := 5) (Nat.le_of_ble_eq_true rfl)
  rw [lg_entry_eq]
  generalize (lg_sl ([.ref h0, .int x]) ++ List.replicate (5 - (lg_sl ([.ref h0, .int x])).length) Slot.unset).toArray = ls at hl ⊢
  have hl : lv_has ls 5 [(0, .ref h0), (1, .int x)] := hl
  refine lv_aload_n hx hb d_TT_cut_0 rfl (lv_at hl 0 rfl) ?_
  refine lv_iload_n hx hb d_TT_cut_1 rfl (lv_at hl 1 rfl) ?_
  have hPc := hP.sub (ws' := [(h0, .inr (0, [.ref rq, .ref oa, .ref pl, .ref dk, .ref rw, .int 0, .int 0, .int (-1)]))]) [0] rfl
  have hKc := hK.sub (tys' := []) [] rfl
  refine rd_call (va_runV (C := R_TT) (As := [.int x]) (rest := []) ⟨hx, hb, hml, hown, ht⟩ (c_TT_isAhead_no l dC dI h0 rq oa pl dk rw x h) (cwV 1 ht (gV tb_274 tb_276 ts_17 tb_1 tb_277) rfl rfl rfl (by decide +kernel) ⟨Nat.le_of_ble_eq_true rfl, Nat.le_of_ble_eq_true rfl⟩) ⟨rdP_blind, va_recv (q := (R_TT, F_TT, 8)) hK hP rfl (show ([(h0, .inr (0, [.ref rq, .ref oa, .ref pl, .ref dk, .ref rw, .int 0, .int 0, .int (-1)]))] : va_W)[0]? = some (h0, .inr (0, [.ref rq, .ref oa, .ref pl, .ref dk, .ref rw, .int 0, .int 0, .int (-1)])) from rfl), rd_pre hPc hKc⟩ rfl rfl hl.1 rfl (lv_room (Nat.le_of_ble_eq_true rfl)) d_TT_cut_2 ⟨Nat.le_of_ble_eq_true rfl, Nat.le_of_ble_eq_true rfl⟩) ?_
  refine W.eq (g2 := F0 m 5 ls [.int 0]) rfl ?_
  refine lv_if_ne (tgt := 18) hx hb d_TT_cut_5 (by decide) (fun h9 => absurd (by decide) h9) (fun _ => ?_)
  obtain ⟨sa, hsa⟩ := hV.2.2.2.2.1.2.2.2.2
  exact tw_throwNew hx hb hl9 hown (by decide) (by decide) (ht _ tb_278) (ht _ tb_9) hsa (at_IA ht hV) hS.1 (by rw [hml]; exact hl.1) d_TT_cut_8 d_TT_cut_11 d_TT_cut_12 d_TT_cut_14 d_TT_cut_17 (tw_noH hno _) (Nat.le_of_ble_eq_true rfl) (Nat.le_of_ble_eq_true rfl) (Nat.le_of_ble_eq_true rfl) (Nat.le_of_ble_eq_true rfl) hlocks
set_option maxHeartbeats 4000000 in
set_option maxRecDepth 100000 in
theorem c_TT_request_th (l : Launch) (dC : Nat → ClassId) (dI : Nat → Nat → Nat) (sz Bd : Nat) (hl9 : l.stackTraces = false) (h0 rq oa pl dk rw : Nat) (ch st ln pr pd : Int32) (h : ¬ ((0 ≤ ch ∧ ch ≤ 7) ∧ (0 ≤ st ∧ st ≤ 1000) ∧ (1 ≤ ln ∧ ln ≤ 60) ∧ (1 ≤ pr ∧ pr ≤ 9) ∧ (0 ≤ pd ∧ pd ≤ 99))) : tw_Met l y_TT_request w_TT_request ({ frames := 6, cells := 1, slots := 6, locals := 90 }) (frP (dC, dI) [(h0, .inr (0, [.ref rq, .ref oa, .ref pl, .ref dk, .ref rw, .int 0, .int 0, .int (-1)]))] [] sz Bd [.ref h0, .int ch, .int st, .int ln, .int pr, .int pd]) "java/lang/IllegalArgumentException" 1 6 := by
  refine tw_ofW (cc := c_TT_request) (maxL := 7) (ret := (some .int)) (by decide) rfl ?_
  intro p e s m args below meth c s₁ B hml hno hv
  obtain ⟨rfl, ⟨hsz, hBs⟩, hP, hK, hD0, hV⟩ := hv
  have hx := B.exec
  have hb := B.bytes
  have hr := B.returns
  have ht : ∀ w ∈ tb_, w.before _ s = true := fun w h => atoms_spec (ws := w_TT_request) B.pre w (List.mem_cons_of_mem _ h)
  have hown : s.vm.findClass R_TT = some m.cls := findClass_of_methodNamed B.named
  have hlocks := B.notSynchronized
  subst hsz
  have hD := hD0.self (sz := s.heap.size)
  have hAB : ∀ q, va_A [(h0, .inr (0, [.ref rq, .ref oa, .ref pl, .ref dk, .ref rw, .int 0, .int 0, .int (-1)]))] s.heap.size q → Bd ≤ q := fr_AB hD0 hBs
  generalize hAe : va_A [(h0, .inr (0, [.ref rq, .ref oa, .ref pl, .ref dk, .ref rw, .int 0, .int 0, .int (-1)]))] s.heap.size = A at hD hAB
  have hA : ∀ q : Nat, s.heap.size ≤ q → A q := fun q h => by rw [← hAe]; exact Or.inr h
  have hS : va_S A s.heap s.heap [] := va_S.rf
  have hAO := hV.2.2.2.1
  have hN_PL := hV.2.2.1.1
  have hN_RW := hV.2.2.1.2
  have hP : va_P (dC, dI) cls_ [(h0, .inr (0, [.ref rq, .ref oa, .ref pl, .ref dk, .ref rw, .int 0, .int 0, .int (-1)]))] s.heap := hP
  have hl := lv_entry ([.ref h0, .int ch, .int st, .int ln, .int pr, .int pd]) (n := 7) (Nat.le_of_ble_eq_true rfl)
  rw [lg_entry_eq]
  generalize (lg_sl ([.ref h0, .int ch, .int st, .int ln, .int pr, .int pd]) ++ List.replicate (7 - (lg_sl ([.ref h0, .int ch, .int st, .int ln, .int pr, .int pd])).length) Slot.unset).toArray = ls at hl ⊢
  have hl : lv_has ls 7 [(0, .ref h0), (1, .int ch), (2, .int st), (3, .int ln), (4, .int pr), (5, .int pd)] := hl
  refine lv_iload_n hx hb d_TT_request_0 rfl (lv_at hl 1 rfl) ?_
  by_cases g1 : 0 ≤ ch ∧ ch ≤ 7
  · have hPc := hP.sub (ws' := []) [] rfl
    have hKc := hK.sub (tys' := []) [] rfl
    refine rd_call (va_runS (As := [.int ch]) (rest := []) ⟨hx, hb, hml, hown, ht⟩ (c_TT_isChannel_yes l dC dI ch g1.1 g1.2) (va_cwS 1 ht (gS tb_270 tb_271 tb_1 tb_272) rfl rfl rfl (by decide +kernel) ⟨Nat.le_of_ble_eq_true rfl, Nat.le_of_ble_eq_true rfl⟩) ⟨rdP_blind, rd_pre hPc hKc⟩ rfl rfl hl.1 rfl (lv_room (Nat.le_of_ble_eq_true rfl)) d_TT_request_1 ⟨Nat.le_of_ble_eq_true rfl, Nat.le_of_ble_eq_true rfl⟩) ?_
    refine W.eq (g2 := F0 m 4 ls [.int 1]) rfl ?_
    refine lv_if_eq (tgt := 47) hx hb d_TT_request_4 (by decide) (fun h9 => absurd h9 (by decide)) (fun _ => ?_)
    refine lv_aload_n hx hb d_TT_request_7 rfl (lv_at hl 0 rfl) ?_
    refine lv_iload_n hx hb d_TT_request_8 rfl (lv_at hl 2 rfl) ?_
    by_cases g2 : 0 ≤ st ∧ st ≤ 1000
    · have hPc := hP.sub (ws' := [(h0, .inr (0, [.ref rq, .ref oa, .ref pl, .ref dk, .ref rw, .int 0, .int 0, .int (-1)]))]) [0] rfl
      have hKc := hK.sub (tys' := []) [] rfl
      refine rd_call (va_runV (C := R_TT) (As := [.int st]) (rest := []) ⟨hx, hb, hml, hown, ht⟩ (c_TT_isAhead_yes l dC dI h0 rq oa pl dk rw st g2.1 g2.2) (cwV 1 ht (gV tb_274 tb_276 ts_17 tb_1 tb_277) rfl rfl rfl (by decide +kernel) ⟨Nat.le_of_ble_eq_true rfl, Nat.le_of_ble_eq_true rfl⟩) ⟨rdP_blind, va_recv (q := (R_TT, F_TT, 8)) hK hP rfl (show ([(h0, .inr (0, [.ref rq, .ref oa, .ref pl, .ref dk, .ref rw, .int 0, .int 0, .int (-1)]))] : va_W)[0]? = some (h0, .inr (0, [.ref rq, .ref oa, .ref pl, .ref dk, .ref rw, .int 0, .int 0, .int (-1)])) from rfl), rd_pre hPc hKc⟩ rfl rfl hl.1 rfl (lv_room (Nat.le_of_ble_eq_true rfl)) d_TT_request_9 ⟨Nat.le_of_ble_eq_true rfl, Nat.le_of_ble_eq_true rfl⟩) ?_
      refine W.eq (g2 := F0 m 12 ls [.int 1]) rfl ?_
      refine lv_if_eq (tgt := 47) hx hb d_TT_request_12 (by decide) (fun h9 => absurd h9 (by decide)) (fun _ => ?_)
      refine lv_iload_n hx hb d_TT_request_15 rfl (lv_at hl 3 rfl) ?_
      refine lv_iconst (v := 1) hx hb d_TT_request_16 (by decide) ?_
      refine lv_bipush (v := 60) hx hb d_TT_request_17 (by decide) ?_
      by_cases g3 : 1 ≤ ln ∧ ln ≤ 60
      · have hPc := hP.sub (ws' := []) [] rfl
        have hKc := hK.sub (tys' := []) [] rfl
        refine rd_call (va_runS (As := [.int ln, .int 1, .int 60]) (rest := []) ⟨hx, hb, hml, hown, ht⟩ (c_TT_isWithin_yes l dC dI ln 1 60 g3.1 g3.2) (va_cwS 3 ht (gS tb_273 tb_226 tb_1 tb_227) rfl rfl rfl (by decide +kernel) ⟨Nat.le_of_ble_eq_true rfl, Nat.le_of_ble_eq_true rfl⟩) ⟨rdP_blind, rd_pre hPc hKc⟩ rfl rfl hl.1 rfl (lv_room (Nat.le_of_ble_eq_true rfl)) d_TT_request_19 ⟨Nat.le_of_ble_eq_true rfl, Nat.le_of_ble_eq_true rfl⟩) ?_
        refine W.eq (g2 := F0 m 22 ls [.int 1]) rfl ?_
        refine lv_if_eq (tgt := 47) hx hb d_TT_request_22 (by decide) (fun h9 => absurd h9 (by decide)) (fun _ => ?_)
        refine lv_iload hx hb d_TT_request_25 (lv_at hl 4 rfl) ?_
        refine lv_iconst (v := 1) hx hb d_TT_request_27 (by decide) ?_
        refine lv_bipush (v := 9) hx hb d_TT_request_28 (by decide) ?_
        by_cases g4 : 1 ≤ pr ∧ pr ≤ 9
        · have hPc := hP.sub (ws' := []) [] rfl
          have hKc := hK.sub (tys' := []) [] rfl
          refine rd_call (va_runS (As := [.int pr, .int 1, .int 9]) (rest := []) ⟨hx, hb, hml, hown, ht⟩ (c_TT_isWithin_yes l dC dI pr 1 9 g4.1 g4.2) (va_cwS 3 ht (gS tb_273 tb_226 tb_1 tb_227) rfl rfl rfl (by decide +kernel) ⟨Nat.le_of_ble_eq_true rfl, Nat.le_of_ble_eq_true rfl⟩) ⟨rdP_blind, rd_pre hPc hKc⟩ rfl rfl hl.1 rfl (lv_room (Nat.le_of_ble_eq_true rfl)) d_TT_request_30 ⟨Nat.le_of_ble_eq_true rfl, Nat.le_of_ble_eq_true rfl⟩) ?_
          refine W.eq (g2 := F0 m 33 ls [.int 1]) rfl ?_
          refine lv_if_eq (tgt := 47) hx hb d_TT_request_33 (by decide) (fun h9 => absurd h9 (by decide)) (fun _ => ?_)
          refine lv_iload hx hb d_TT_request_36 (lv_at hl 5 rfl) ?_
          refine lv_iconst (v := 0) hx hb d_TT_request_38 (by decide) ?_
          refine lv_bipush (v := 99) hx hb d_TT_request_39 (by decide) ?_
          by_cases g5 : 0 ≤ pd ∧ pd ≤ 99
          · exact absurd ⟨g1, g2, g3, g4, g5⟩ h
          · have hPc := hP.sub (ws' := []) [] rfl
            have hKc := hK.sub (tys' := []) [] rfl
            refine rd_call (va_runS (As := [.int pd, .int 0, .int 99]) (rest := []) ⟨hx, hb, hml, hown, ht⟩ (c_TT_isWithin_no l dC dI pd 0 99 g5) (va_cwS 3 ht (gS tb_273 tb_226 tb_1 tb_227) rfl rfl rfl (by decide +kernel) ⟨Nat.le_of_ble_eq_true rfl, Nat.le_of_ble_eq_true rfl⟩) ⟨rdP_blind, rd_pre hPc hKc⟩ rfl rfl hl.1 rfl (lv_room (Nat.le_of_ble_eq_true rfl)) d_TT_request_41 ⟨Nat.le_of_ble_eq_true rfl, Nat.le_of_ble_eq_true rfl⟩) ?_
            refine W.eq (g2 := F0 m 44 ls [.int 0]) rfl ?_
            refine lv_if_ne (tgt := 57) hx hb d_TT_request_44 (by decide) (fun h9 => absurd (by decide) h9) (fun _ => ?_)
            obtain ⟨sa, hsa⟩ := hV.2.2.2.2.1.1
            exact tw_throwNew hx hb hl9 hown (by decide) (by decide) (ht _ tb_278) (ht _ tb_9) hsa (at_IA ht hV) hS.1 (by rw [hml]; exact hl.1) d_TT_request_47 d_TT_request_50 d_TT_request_51 d_TT_request_53 d_TT_request_56 (tw_noH hno _) (Nat.le_of_ble_eq_true rfl) (Nat.le_of_ble_eq_true rfl) (Nat.le_of_ble_eq_true rfl) (Nat.le_of_ble_eq_true rfl) hlocks
        · have hPc := hP.sub (ws' := []) [] rfl
          have hKc := hK.sub (tys' := []) [] rfl
          refine rd_call (va_runS (As := [.int pr, .int 1, .int 9]) (rest := []) ⟨hx, hb, hml, hown, ht⟩ (c_TT_isWithin_no l dC dI pr 1 9 g4) (va_cwS 3 ht (gS tb_273 tb_226 tb_1 tb_227) rfl rfl rfl (by decide +kernel) ⟨Nat.le_of_ble_eq_true rfl, Nat.le_of_ble_eq_true rfl⟩) ⟨rdP_blind, rd_pre hPc hKc⟩ rfl rfl hl.1 rfl (lv_room (Nat.le_of_ble_eq_true rfl)) d_TT_request_30 ⟨Nat.le_of_ble_eq_true rfl, Nat.le_of_ble_eq_true rfl⟩) ?_
          refine W.eq (g2 := F0 m 33 ls [.int 0]) rfl ?_
          refine lv_if_eq (tgt := 47) hx hb d_TT_request_33 (by decide) (fun _ => ?_) (fun h9 => absurd (rfl) h9)
          obtain ⟨sa, hsa⟩ := hV.2.2.2.2.1.1
          exact tw_throwNew hx hb hl9 hown (by decide) (by decide) (ht _ tb_278) (ht _ tb_9) hsa (at_IA ht hV) hS.1 (by rw [hml]; exact hl.1) d_TT_request_47 d_TT_request_50 d_TT_request_51 d_TT_request_53 d_TT_request_56 (tw_noH hno _) (Nat.le_of_ble_eq_true rfl) (Nat.le_of_ble_eq_true rfl) (Nat.le_of_ble_eq_true rfl) (Nat.le_of_ble_eq_true rfl) hlocks
      · have hPc := hP.sub (ws' := []) [] rfl
        have hKc := hK.sub (tys' := []) [] rfl
        refine rd_call (va_runS (As := [.int ln, .int 1, .int 60]) (rest := []) ⟨hx, hb, hml, hown, ht⟩ (c_TT_isWithin_no l dC dI ln 1 60 g3) (va_cwS 3 ht (gS tb_273 tb_226 tb_1 tb_227) rfl rfl rfl (by decide +kernel) ⟨Nat.le_of_ble_eq_true rfl, Nat.le_of_ble_eq_true rfl⟩) ⟨rdP_blind, rd_pre hPc hKc⟩ rfl rfl hl.1 rfl (lv_room (Nat.le_of_ble_eq_true rfl)) d_TT_request_19 ⟨Nat.le_of_ble_eq_true rfl, Nat.le_of_ble_eq_true rfl⟩) ?_
        refine W.eq (g2 := F0 m 22 ls [.int 0]) rfl ?_
        refine lv_if_eq (tgt := 47) hx hb d_TT_request_22 (by decide) (fun _ => ?_) (fun h9 => absurd (rfl) h9)
        obtain ⟨sa, hsa⟩ := hV.2.2.2.2.1.1
        exact tw_throwNew hx hb hl9 hown (by decide) (by decide) (ht _ tb_278) (ht _ tb_9) hsa (at_IA ht hV) hS.1 (by rw [hml]; exact hl.1) d_TT_request_47 d_TT_request_50 d_TT_request_51 d_TT_request_53 d_TT_request_56 (tw_noH hno _) (Nat.le_of_ble_eq_true rfl) (Nat.le_of_ble_eq_true rfl) (Nat.le_of_ble_eq_true rfl) (Nat.le_of_ble_eq_true rfl) hlocks
    · have hPc := hP.sub (ws' := [(h0, .inr (0, [.ref rq, .ref oa, .ref pl, .ref dk, .ref rw, .int 0, .int 0, .int (-1)]))]) [0] rfl
      have hKc := hK.sub (tys' := []) [] rfl
      refine rd_call (va_runV (C := R_TT) (As := [.int st]) (rest := []) ⟨hx, hb, hml, hown, ht⟩ (c_TT_isAhead_no l dC dI h0 rq oa pl dk rw st g2) (cwV 1 ht (gV tb_274 tb_276 ts_17 tb_1 tb_277) rfl rfl rfl (by decide +kernel) ⟨Nat.le_of_ble_eq_true rfl, Nat.le_of_ble_eq_true rfl⟩) ⟨rdP_blind, va_recv (q := (R_TT, F_TT, 8)) hK hP rfl (show ([(h0, .inr (0, [.ref rq, .ref oa, .ref pl, .ref dk, .ref rw, .int 0, .int 0, .int (-1)]))] : va_W)[0]? = some (h0, .inr (0, [.ref rq, .ref oa, .ref pl, .ref dk, .ref rw, .int 0, .int 0, .int (-1)])) from rfl), rd_pre hPc hKc⟩ rfl rfl hl.1 rfl (lv_room (Nat.le_of_ble_eq_true rfl)) d_TT_request_9 ⟨Nat.le_of_ble_eq_true rfl, Nat.le_of_ble_eq_true rfl⟩) ?_
      refine W.eq (g2 := F0 m 12 ls [.int 0]) rfl ?_
      refine lv_if_eq (tgt := 47) hx hb d_TT_request_12 (by decide) (fun _ => ?_) (fun h9 => absurd (rfl) h9)
      obtain ⟨sa, hsa⟩ := hV.2.2.2.2.1.1
      exact tw_throwNew hx hb hl9 hown (by decide) (by decide) (ht _ tb_278) (ht _ tb_9) hsa (at_IA ht hV) hS.1 (by rw [hml]; exact hl.1) d_TT_request_47 d_TT_request_50 d_TT_request_51 d_TT_request_53 d_TT_request_56 (tw_noH hno _) (Nat.le_of_ble_eq_true rfl) (Nat.le_of_ble_eq_true rfl) (Nat.le_of_ble_eq_true rfl) (Nat.le_of_ble_eq_true rfl) hlocks
  · have hPc := hP.sub (ws' := []) [] rfl
    have hKc := hK.sub (tys' := []) [] rfl
    refine rd_call (va_runS (As := [.int ch]) (rest := []) ⟨hx, hb, hml, hown, ht⟩ (c_TT_isChannel_no l dC dI ch g1) (va_cwS 1 ht (gS tb_270 tb_271 tb_1 tb_272) rfl rfl rfl (by decide +kernel) ⟨Nat.le_of_ble_eq_true rfl, Nat.le_of_ble_eq_true rfl⟩) ⟨rdP_blind, rd_pre hPc hKc⟩ rfl rfl hl.1 rfl (lv_room (Nat.le_of_ble_eq_true rfl)) d_TT_request_1 ⟨Nat.le_of_ble_eq_true rfl, Nat.le_of_ble_eq_true rfl⟩) ?_
    refine W.eq (g2 := F0 m 4 ls [.int 0]) rfl ?_
    refine lv_if_eq (tgt := 47) hx hb d_TT_request_4 (by decide) (fun _ => ?_) (fun h9 => absurd (rfl) h9)
    obtain ⟨sa, hsa⟩ := hV.2.2.2.2.1.1
    exact tw_throwNew hx hb hl9 hown (by decide) (by decide) (ht _ tb_278) (ht _ tb_9) hsa (at_IA ht hV) hS.1 (by rw [hml]; exact hl.1) d_TT_request_47 d_TT_request_50 d_TT_request_51 d_TT_request_53 d_TT_request_56 (tw_noH hno _) (Nat.le_of_ble_eq_true rfl) (Nat.le_of_ble_eq_true rfl) (Nat.le_of_ble_eq_true rfl) (Nat.le_of_ble_eq_true rfl) hlocks
