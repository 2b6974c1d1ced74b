set_option maxRecDepth 100000 in
theorem tb_6 : (.initialized "java/lang/Throwable" : Cond) ∈ tb_ := tb_w 6 rfl rfl
set_option maxRecDepth 100000 in
theorem tb_9 : (.initialized "java/lang/IllegalArgumentException" : Cond) ∈ tb_ := tb_w 9 rfl rfl
set_option maxRecDepth 100000 in
theorem tb_10 : (.initialized "java/lang/IllegalStateException" : Cond) ∈ tb_ := tb_w 10 rfl rfl
set_option maxRecDepth 100000 in
theorem tb_12 : (.initialized "java/lang/IndexOutOfBoundsException" : Cond) ∈ tb_ := tb_w 12 rfl rfl
set_option maxRecDepth 100000 in
theorem tb_21 : (.instanceMethod ⟨"java/lang/Object", "<init>", "()V"⟩ : Cond) ∈ tb_ := tb_w 21 rfl rfl
set_option maxRecDepth 100000 in
theorem tb_22 : (.code ⟨"java/lang/Object", "<init>", "()V"⟩ object_method_1_code 1 none : Cond) ∈ tb_ := tb_w 22 rfl rfl
set_option maxRecDepth 100000 in
theorem tb_278 : (.classLink "TwinTuners" 61 "java/lang/IllegalArgumentException" : Cond) ∈ tb_ := tb_w 278 rfl rfl
set_option maxRecDepth 100000 in
theorem tb_279 : (.instantiable "java/lang/IllegalArgumentException" 6 : Cond) ∈ tb_ := tb_w 279 rfl rfl
set_option maxRecDepth 100000 in
theorem tb_287 : (.selects "java/lang/IllegalArgumentException" ⟨"java/lang/Throwable", "fillInStackTrace", "(I)Ljava/lang/Throwable;"⟩ ⟨"java/lang/Throwable", "fillInStackTrace", "(I)Ljava/lang/Throwable;"⟩ : Cond) ∈ tb_ := tb_w 287 rfl rfl
set_option maxRecDepth 100000 in
theorem tb_288 : (.selects "java/lang/IllegalArgumentException" ⟨"java/lang/Throwable", "fillInStackTrace", "()Ljava/lang/Throwable;"⟩ ⟨"java/lang/Throwable", "fillInStackTrace", "()Ljava/lang/Throwable;"⟩ : Cond) ∈ tb_ := tb_w 288 rfl rfl
set_option maxRecDepth 100000 in
theorem tb_289 : (.lays "java/lang/IllegalArgumentException" "java/lang/Throwable" "cause" "Ljava/lang/Throwable;" : Cond) ∈ tb_ := tb_w 289 rfl rfl
set_option maxRecDepth 100000 in
theorem tb_290 : (.lays "java/lang/Throwable" "java/lang/Throwable" "cause" "Ljava/lang/Throwable;" : Cond) ∈ tb_ := tb_w 290 rfl rfl
set_option maxRecDepth 100000 in
theorem tb_291 : (.lays "java/lang/IllegalArgumentException" "java/lang/Throwable" "stackTrace" "[Ljava/lang/StackTraceElement;" : Cond) ∈ tb_ := tb_w 291 rfl rfl
set_option maxRecDepth 100000 in
theorem tb_292 : (.lays "java/lang/Throwable" "java/lang/Throwable" "stackTrace" "[Ljava/lang/StackTraceElement;" : Cond) ∈ tb_ := tb_w 292 rfl rfl
set_option maxRecDepth 100000 in
theorem tb_293 : (.lays "java/lang/IllegalArgumentException" "java/lang/Throwable" "suppressedExceptions" "Ljava/util/List;" : Cond) ∈ tb_ := tb_w 293 rfl rfl
set_option maxRecDepth 100000 in
theorem tb_294 : (.lays "java/lang/Throwable" "java/lang/Throwable" "suppressedExceptions" "Ljava/util/List;" : Cond) ∈ tb_ := tb_w 294 rfl rfl
set_option maxRecDepth 100000 in
theorem tb_295 : (.lays "java/lang/IllegalArgumentException" "java/lang/Throwable" "detailMessage" "Ljava/lang/String;" : Cond) ∈ tb_ := tb_w 295 rfl rfl
set_option maxRecDepth 100000 in
theorem tb_296 : (.lays "java/lang/Throwable" "java/lang/Throwable" "detailMessage" "Ljava/lang/String;" : Cond) ∈ tb_ := tb_w 296 rfl rfl
set_option maxRecDepth 100000 in
theorem tb_297 : (.lays "java/lang/IllegalArgumentException" "java/lang/Throwable" "backtrace" "Ljava/lang/Object;" : Cond) ∈ tb_ := tb_w 297 rfl rfl
set_option maxRecDepth 100000 in
theorem tb_298 : (.lays "java/lang/Throwable" "java/lang/Throwable" "backtrace" "Ljava/lang/Object;" : Cond) ∈ tb_ := tb_w 298 rfl rfl
set_option maxRecDepth 100000 in
theorem tb_299 : (.fieldLink "java/lang/Throwable" 198 "java/lang/Throwable" "backtrace" "Ljava/lang/Object;" : Cond) ∈ tb_ := tb_w 299 rfl rfl
set_option maxRecDepth 100000 in
theorem tb_300 : (.superclass "java/lang/Throwable" "java/lang/Object" : Cond) ∈ tb_ := tb_w 300 rfl rfl
set_option maxRecDepth 100000 in
theorem tb_301 : (.instanceMethod ⟨"java/lang/Throwable", "<init>", "()V"⟩ : Cond) ∈ tb_ := tb_w 301 rfl rfl
set_option maxRecDepth 100000 in
theorem tb_302 : (.code ⟨"java/lang/Throwable", "<init>", "()V"⟩ prog_16_method_1_code 1 none : Cond) ∈ tb_ := tb_w 302 rfl rfl
set_option maxRecDepth 100000 in
theorem tb_303 : (.methodLink "java/lang/Throwable" 1 ⟨"java/lang/Object", "<init>", "()V"⟩ : Cond) ∈ tb_ := tb_w 303 rfl rfl
set_option maxRecDepth 100000 in
theorem tb_304 : (.fieldLink "java/lang/Throwable" 13 "java/lang/Throwable" "UNASSIGNED_STACK" "[Ljava/lang/StackTraceElement;" : Cond) ∈ tb_ := tb_w 304 rfl rfl
set_option maxRecDepth 100000 in
theorem tb_306 : (.fieldLink "java/lang/Throwable" 20 "java/lang/Throwable" "SUPPRESSED_SENTINEL" "Ljava/util/List;" : Cond) ∈ tb_ := tb_w 306 rfl rfl
set_option maxRecDepth 100000 in
theorem tb_308 : (.methodLink "java/lang/Throwable" 27 ⟨"java/lang/Throwable", "fillInStackTrace", "()Ljava/lang/Throwable;"⟩ : Cond) ∈ tb_ := tb_w 308 rfl rfl
set_option maxRecDepth 100000 in
theorem tb_309 : (.instanceMethod ⟨"java/lang/Throwable", "fillInStackTrace", "()Ljava/lang/Throwable;"⟩ : Cond) ∈ tb_ := tb_w 309 rfl rfl
set_option maxRecDepth 100000 in
theorem tb_311 : (.selects "java/lang/IllegalStateException" ⟨"java/lang/Throwable", "fillInStackTrace", "()Ljava/lang/Throwable;"⟩ ⟨"java/lang/Throwable", "fillInStackTrace", "()Ljava/lang/Throwable;"⟩ : Cond) ∈ tb_ := tb_w 311 rfl rfl
set_option maxRecDepth 100000 in
theorem tb_312 : (.selects "java/lang/IndexOutOfBoundsException" ⟨"java/lang/Throwable", "fillInStackTrace", "()Ljava/lang/Throwable;"⟩ ⟨"java/lang/Throwable", "fillInStackTrace", "()Ljava/lang/Throwable;"⟩ : Cond) ∈ tb_ := tb_w 312 rfl rfl
set_option maxRecDepth 100000 in
theorem tb_313 : (.codeSync ⟨"java/lang/Throwable", "fillInStackTrace", "()Ljava/lang/Throwable;"⟩ prog_16_method_18_code 1 (some (.object "java/lang/Throwable")) : Cond) ∈ tb_ := tb_w 313 rfl rfl
set_option maxRecDepth 100000 in
theorem tb_314 : (.methodLink "java/lang/Throwable" 202 ⟨"java/lang/Throwable", "fillInStackTrace", "(I)Ljava/lang/Throwable;"⟩ : Cond) ∈ tb_ := tb_w 314 rfl rfl
set_option maxRecDepth 100000 in
theorem tb_316 : (.instanceMethod ⟨"java/lang/Throwable", "fillInStackTrace", "(I)Ljava/lang/Throwable;"⟩ : Cond) ∈ tb_ := tb_w 316 rfl rfl
set_option maxRecDepth 100000 in
theorem tb_318 : (.native ⟨"java/lang/Throwable", "fillInStackTrace", "(I)Ljava/lang/Throwable;"⟩ : Cond) ∈ tb_ := tb_w 318 rfl rfl
set_option maxRecDepth 100000 in
theorem tb_320 : (.methodLink "TwinTuners" 65 ⟨"java/lang/IllegalArgumentException", "<init>", "(Ljava/lang/String;)V"⟩ : Cond) ∈ tb_ := tb_w 320 rfl rfl
set_option maxRecDepth 100000 in
theorem tb_321 : (.instanceMethod ⟨"java/lang/IllegalArgumentException", "<init>", "(Ljava/lang/String;)V"⟩ : Cond) ∈ tb_ := tb_w 321 rfl rfl
set_option maxRecDepth 100000 in
theorem tb_322 : (.code ⟨"java/lang/IllegalArgumentException", "<init>", "(Ljava/lang/String;)V"⟩ prog_9_method_2_code 2 none : Cond) ∈ tb_ := tb_w 322 rfl rfl
set_option maxRecDepth 100000 in
theorem tb_323 : (.methodLink "java/lang/IllegalArgumentException" 7 ⟨"java/lang/RuntimeException", "<init>", "(Ljava/lang/String;)V"⟩ : Cond) ∈ tb_ := tb_w 323 rfl rfl
set_option maxRecDepth 100000 in
theorem tb_324 : (.instanceMethod ⟨"java/lang/RuntimeException", "<init>", "(Ljava/lang/String;)V"⟩ : Cond) ∈ tb_ := tb_w 324 rfl rfl
set_option maxRecDepth 100000 in
theorem tb_325 : (.code ⟨"java/lang/RuntimeException", "<init>", "(Ljava/lang/String;)V"⟩ prog_14_method_2_code 2 none : Cond) ∈ tb_ := tb_w 325 rfl rfl
set_option maxRecDepth 100000 in
theorem tb_326 : (.methodLink "java/lang/RuntimeException" 7 ⟨"java/lang/Exception", "<init>", "(Ljava/lang/String;)V"⟩ : Cond) ∈ tb_ := tb_w 326 rfl rfl
set_option maxRecDepth 100000 in
theorem tb_327 : (.instanceMethod ⟨"java/lang/Exception", "<init>", "(Ljava/lang/String;)V"⟩ : Cond) ∈ tb_ := tb_w 327 rfl rfl
set_option maxRecDepth 100000 in
theorem tb_328 : (.code ⟨"java/lang/Exception", "<init>", "(Ljava/lang/String;)V"⟩ prog_8_method_2_code 2 none : Cond) ∈ tb_ := tb_w 328 rfl rfl
set_option maxRecDepth 100000 in
theorem tb_329 : (.methodLink "java/lang/Exception" 7 ⟨"java/lang/Throwable", "<init>", "(Ljava/lang/String;)V"⟩ : Cond) ∈ tb_ := tb_w 329 rfl rfl
set_option maxRecDepth 100000 in
theorem tb_330 : (.instanceMethod ⟨"java/lang/Throwable", "<init>", "(Ljava/lang/String;)V"⟩ : Cond) ∈ tb_ := tb_w 330 rfl rfl
set_option maxRecDepth 100000 in
theorem tb_331 : (.code ⟨"java/lang/Throwable", "<init>", "(Ljava/lang/String;)V"⟩ prog_16_method_2_code 2 none : Cond) ∈ tb_ := tb_w 331 rfl rfl
set_option maxRecDepth 100000 in
theorem tb_333 : (.fieldLink "java/lang/Throwable" 31 "java/lang/Throwable" "detailMessage" "Ljava/lang/String;" : Cond) ∈ tb_ := tb_w 333 rfl rfl
set_option maxRecDepth 100000 in
theorem tb_334 : (.fieldLink "java/lang/Throwable" 7 "java/lang/Throwable" "cause" "Ljava/lang/Throwable;" : Cond) ∈ tb_ := tb_w 334 rfl rfl
set_option maxRecDepth 100000 in
theorem tb_335 : (.fieldLink "java/lang/Throwable" 17 "java/lang/Throwable" "stackTrace" "[Ljava/lang/StackTraceElement;" : Cond) ∈ tb_ := tb_w 335 rfl rfl
set_option maxRecDepth 100000 in
theorem tb_336 : (.fieldLink "java/lang/Throwable" 24 "java/lang/Throwable" "suppressedExceptions" "Ljava/util/List;" : Cond) ∈ tb_ := tb_w 336 rfl rfl
set_option maxRecDepth 100000 in
theorem tb_351 : (.classLink "TwinTuners" 72 "java/lang/IllegalStateException" : Cond) ∈ tb_ := tb_w 351 rfl rfl
set_option maxRecDepth 100000 in
theorem tb_352 : (.instantiable "java/lang/IllegalStateException" 6 : Cond) ∈ tb_ := tb_w 352 rfl rfl
set_option maxRecDepth 100000 in
theorem tb_354 : (.selects "java/lang/IllegalStateException" ⟨"java/lang/Throwable", "fillInStackTrace", "(I)Ljava/lang/Throwable;"⟩ ⟨"java/lang/Throwable", "fillInStackTrace", "(I)Ljava/lang/Throwable;"⟩ : Cond) ∈ tb_ := tb_w 354 rfl rfl
set_option maxRecDepth 100000 in
theorem tb_355 : (.lays "java/lang/IllegalStateException" "java/lang/Throwable" "cause" "Ljava/lang/Throwable;" : Cond) ∈ tb_ := tb_w 355 rfl rfl
set_option maxRecDepth 100000 in
theorem tb_356 : (.lays "java/lang/IllegalStateException" "java/lang/Throwable" "stackTrace" "[Ljava/lang/StackTraceElement;" : Cond) ∈ tb_ := tb_w 356 rfl rfl
set_option maxRecDepth 100000 in
theorem tb_357 : (.lays "java/lang/IllegalStateException" "java/lang/Throwable" "suppressedExceptions" "Ljava/util/List;" : Cond) ∈ tb_ := tb_w 357 rfl rfl
set_option maxRecDepth 100000 in
theorem tb_358 : (.lays "java/lang/IllegalStateException" "java/lang/Throwable" "detailMessage" "Ljava/lang/String;" : Cond) ∈ tb_ := tb_w 358 rfl rfl
set_option maxRecDepth 100000 in
theorem tb_359 : (.lays "java/lang/IllegalStateException" "java/lang/Throwable" "backtrace" "Ljava/lang/Object;" : Cond) ∈ tb_ := tb_w 359 rfl rfl
set_option maxRecDepth 100000 in
theorem tb_361 : (.methodLink "TwinTuners" 76 ⟨"java/lang/IllegalStateException", "<init>", "(Ljava/lang/String;)V"⟩ : Cond) ∈ tb_ := tb_w 361 rfl rfl
set_option maxRecDepth 100000 in
theorem tb_362 : (.instanceMethod ⟨"java/lang/IllegalStateException", "<init>", "(Ljava/lang/String;)V"⟩ : Cond) ∈ tb_ := tb_w 362 rfl rfl
set_option maxRecDepth 100000 in
theorem tb_363 : (.code ⟨"java/lang/IllegalStateException", "<init>", "(Ljava/lang/String;)V"⟩ prog_10_method_2_code 2 none : Cond) ∈ tb_ := tb_w 363 rfl rfl
set_option maxRecDepth 100000 in
theorem tb_364 : (.methodLink "java/lang/IllegalStateException" 7 ⟨"java/lang/RuntimeException", "<init>", "(Ljava/lang/String;)V"⟩ : Cond) ∈ tb_ := tb_w 364 rfl rfl
set_option maxRecDepth 100000 in
theorem tb_460 : (.classLink "TwinTuners" 116 "java/lang/IndexOutOfBoundsException" : Cond) ∈ tb_ := tb_w 460 rfl rfl
set_option maxRecDepth 100000 in
theorem tb_461 : (.instantiable "java/lang/IndexOutOfBoundsException" 6 : Cond) ∈ tb_ := tb_w 461 rfl rfl
set_option maxRecDepth 100000 in
theorem tb_463 : (.selects "java/lang/IndexOutOfBoundsException" ⟨"java/lang/Throwable", "fillInStackTrace", "(I)Ljava/lang/Throwable;"⟩ ⟨"java/lang/Throwable", "fillInStackTrace", "(I)Ljava/lang/Throwable;"⟩ : Cond) ∈ tb_ := tb_w 463 rfl rfl
set_option maxRecDepth 100000 in
theorem tb_464 : (.lays "java/lang/IndexOutOfBoundsException" "java/lang/Throwable" "cause" "Ljava/lang/Throwable;" : Cond) ∈ tb_ := tb_w 464 rfl rfl
set_option maxRecDepth 100000 in
theorem tb_465 : (.lays "java/lang/IndexOutOfBoundsException" "java/lang/Throwable" "stackTrace" "[Ljava/lang/StackTraceElement;" : Cond) ∈ tb_ := tb_w 465 rfl rfl
set_option maxRecDepth 100000 in
theorem tb_466 : (.lays "java/lang/IndexOutOfBoundsException" "java/lang/Throwable" "suppressedExceptions" "Ljava/util/List;" : Cond) ∈ tb_ := tb_w 466 rfl rfl
set_option maxRecDepth 100000 in
theorem tb_467 : (.lays "java/lang/IndexOutOfBoundsException" "java/lang/Throwable" "detailMessage" "Ljava/lang/String;" : Cond) ∈ tb_ := tb_w 467 rfl rfl
set_option maxRecDepth 100000 in
theorem tb_468 : (.lays "java/lang/IndexOutOfBoundsException" "java/lang/Throwable" "backtrace" "Ljava/lang/Object;" : Cond) ∈ tb_ := tb_w 468 rfl rfl
set_option maxRecDepth 100000 in
theorem tb_470 : (.methodLink "TwinTuners" 120 ⟨"java/lang/IndexOutOfBoundsException", "<init>", "(Ljava/lang/String;)V"⟩ : Cond) ∈ tb_ := tb_w 470 rfl rfl
set_option maxRecDepth 100000 in
theorem tb_471 : (.instanceMethod ⟨"java/lang/IndexOutOfBoundsException", "<init>", "(Ljava/lang/String;)V"⟩ : Cond) ∈ tb_ := tb_w 471 rfl rfl
set_option maxRecDepth 100000 in
theorem tb_472 : (.code ⟨"java/lang/IndexOutOfBoundsException", "<init>", "(Ljava/lang/String;)V"⟩ prog_11_method_2_code 2 none : Cond) ∈ tb_ := tb_w 472 rfl rfl
set_option maxRecDepth 100000 in
theorem tb_473 : (.methodLink "java/lang/IndexOutOfBoundsException" 7 ⟨"java/lang/RuntimeException", "<init>", "(Ljava/lang/String;)V"⟩ : Cond) ∈ tb_ := tb_w 473 rfl rfl
theorem d_TT_air_7 : decode c_TT_air 7 = .ok (.new 116, 3) := by decide +kernel
theorem d_TT_air_10 : decode c_TT_air 10 = .ok (.dup, 1) := by decide +kernel
theorem d_TT_air_11 : decode c_TT_air 11 = .ok (.ldc 118, 2) := by decide +kernel
theorem d_TT_air_13 : decode c_TT_air 13 = .ok (.invokespecial 120, 3) := by decide +kernel
theorem d_TT_air_16 : decode c_TT_air 16 = .ok (.athrow, 1) := by decide +kernel
theorem d_TT_bookmark_16 : decode c_TT_bookmark 16 = .ok (.new 61, 3) := by decide +kernel
theorem d_TT_bookmark_19 : decode c_TT_bookmark 19 = .ok (.dup, 1) := by decide +kernel
theorem d_TT_bookmark_20 : decode c_TT_bookmark 20 = .ok (.ldc 169, 2) := by decide +kernel
theorem d_TT_bookmark_22 : decode c_TT_bookmark 22 = .ok (.invokespecial 65, 3) := by decide +kernel
theorem d_TT_bookmark_25 : decode c_TT_bookmark 25 = .ok (.athrow, 1) := by decide +kernel
theorem d_TT_bookmark_42 : decode c_TT_bookmark 42 = .ok (.new 72, 3) := by decide +kernel
theorem d_TT_bookmark_45 : decode c_TT_bookmark 45 = .ok (.dup, 1) := by decide +kernel
theorem d_TT_bookmark_46 : decode c_TT_bookmark 46 = .ok (.ldc 177, 2) := by decide +kernel
theorem d_TT_bookmark_48 : decode c_TT_bookmark 48 = .ok (.invokespecial 76, 3) := by decide +kernel
theorem d_TT_bookmark_51 : decode c_TT_bookmark 51 = .ok (.athrow, 1) := by decide +kernel
theorem d_TT_cancel_13 : decode c_TT_cancel 13 = .ok (.new 72, 3) := by decide +kernel
theorem d_TT_cancel_16 : decode c_TT_cancel 16 = .ok (.dup, 1) := by decide +kernel
theorem d_TT_cancel_17 : decode c_TT_cancel 17 = .ok (.ldc 88, 2) := by decide +kernel
theorem d_TT_cancel_19 : decode c_TT_cancel 19 = .ok (.invokespecial 76, 3) := by decide +kernel
theorem d_TT_cancel_22 : decode c_TT_cancel 22 = .ok (.athrow, 1) := by decide +kernel
theorem d_TT_cut_8 : decode c_TT_cut 8 = .ok (.new 61, 3) := by decide +kernel
theorem d_TT_cut_11 : decode c_TT_cut 11 = .ok (.dup, 1) := by decide +kernel
theorem d_TT_cut_12 : decode c_TT_cut 12 = .ok (.ldc 185, 2) := by decide +kernel
theorem d_TT_cut_14 : decode c_TT_cut 14 = .ok (.invokespecial 65, 3) := by decide +kernel
theorem d_TT_cut_17 : decode c_TT_cut 17 = .ok (.athrow, 1) := by decide +kernel
theorem d_TT_erase_14 : decode c_TT_erase 14 = .ok (.new 72, 3) := by decide +kernel
theorem d_TT_erase_17 : decode c_TT_erase 17 = .ok (.dup, 1) := by decide +kernel
theorem d_TT_erase_18 : decode c_TT_erase 18 = .ok (.ldc 160, 2) := by decide +kernel
theorem d_TT_erase_20 : decode c_TT_erase 20 = .ok (.invokespecial 76, 3) := by decide +kernel
theorem d_TT_erase_23 : decode c_TT_erase 23 = .ok (.athrow, 1) := by decide +kernel
theorem d_TT_numbered_12 : decode c_TT_numbered 12 = .ok (.new 116, 3) := by decide +kernel
theorem d_TT_numbered_15 : decode c_TT_numbered 15 = .ok (.dup, 1) := by decide +kernel
theorem d_TT_numbered_16 : decode c_TT_numbered 16 = .ok (.ldc 202, 2) := by decide +kernel
theorem d_TT_numbered_18 : decode c_TT_numbered 18 = .ok (.invokespecial 120, 3) := by decide +kernel
theorem d_TT_numbered_21 : decode c_TT_numbered 21 = .ok (.athrow, 1) := by decide +kernel
theorem d_TT_recordingNumbered_13 : decode c_TT_recordingNumbered 13 = .ok (.new 72, 3) := by decide +kernel
theorem d_TT_recordingNumbered_16 : decode c_TT_recordingNumbered 16 = .ok (.dup, 1) := by decide +kernel
theorem d_TT_recordingNumbered_17 : decode c_TT_recordingNumbered 17 = .ok (.ldc 204, 2) := by decide +kernel
theorem d_TT_recordingNumbered_19 : decode c_TT_recordingNumbered 19 = .ok (.invokespecial 76, 3) := by decide +kernel
theorem d_TT_recordingNumbered_22 : decode c_TT_recordingNumbered 22 = .ok (.athrow, 1) := by decide +kernel
theorem d_TT_ticks_10 : decode c_TT_ticks 10 = .ok (.new 61, 3) := by decide +kernel
theorem d_TT_ticks_13 : decode c_TT_ticks 13 = .ok (.dup, 1) := by decide +kernel
theorem d_TT_ticks_14 : decode c_TT_ticks 14 = .ok (.ldc 128, 2) := by decide +kernel
theorem d_TT_ticks_16 : decode c_TT_ticks 16 = .ok (.invokespecial 65, 3) := by decide +kernel
theorem d_TT_ticks_19 : decode c_TT_ticks 19 = .ok (.athrow, 1) := by decide +kernel
theorem d_TT_watch_12 : decode c_TT_watch 12 = .ok (.new 116, 3) := by decide +kernel
theorem d_TT_watch_15 : decode c_TT_watch 15 = .ok (.dup, 1) := by decide +kernel
theorem d_TT_watch_16 : decode c_TT_watch 16 = .ok (.ldc 118, 2) := by decide +kernel
theorem d_TT_watch_18 : decode c_TT_watch 18 = .ok (.invokespecial 120, 3) := by decide +kernel
theorem d_TT_watch_21 : decode c_TT_watch 21 = .ok (.athrow, 1) := by decide +kernel
set_option maxRecDepth 100000 in
theorem at_IO {s : State} {args : Array Value} {Bd : Nat} (ht : ∀ w ∈ tb_, w.before args s = true) (hV : tw_V Bd s s.heap) : ∀ w ∈ Bundle.ownAtoms "TwinTuners" 120 "java/lang/IndexOutOfBoundsException" ["java/lang/RuntimeException", "java/lang/Exception"], w.before args s = true :=
  List.forall_mem_cons.mpr ⟨ht _ tb_6, List.forall_mem_cons.mpr ⟨ht _ tb_300, List.forall_mem_cons.mpr ⟨ht _ tb_309, List.forall_mem_cons.mpr ⟨ht _ tb_313, List.forall_mem_cons.mpr ⟨ht _ tb_316, List.forall_mem_cons.mpr ⟨ht _ tb_318, List.forall_mem_cons.mpr ⟨ht _ tb_301, List.forall_mem_cons.mpr ⟨ht _ tb_302, List.forall_mem_cons.mpr ⟨ht _ tb_21, List.forall_mem_cons.mpr ⟨ht _ tb_22, List.forall_mem_cons.mpr ⟨ht _ tb_303, List.forall_mem_cons.mpr ⟨ht _ tb_308, List.forall_mem_cons.mpr ⟨ht _ tb_314, List.forall_mem_cons.mpr ⟨ht _ tb_334, List.forall_mem_cons.mpr ⟨ht _ tb_290, List.forall_mem_cons.mpr ⟨ht _ tb_335, List.forall_mem_cons.mpr ⟨ht _ tb_292, List.forall_mem_cons.mpr ⟨ht _ tb_336, List.forall_mem_cons.mpr ⟨ht _ tb_294, List.forall_mem_cons.mpr ⟨ht _ tb_304, List.forall_mem_cons.mpr ⟨hV.2.2.2.2.2.1.lays, List.forall_mem_cons.mpr ⟨ht _ tb_306, List.forall_mem_cons.mpr ⟨hV.2.2.2.2.2.2.lays, List.forall_mem_cons.mpr ⟨ht _ tb_296, List.forall_mem_cons.mpr ⟨ht _ tb_330, List.forall_mem_cons.mpr ⟨ht _ tb_331, List.forall_mem_cons.mpr ⟨ht _ tb_333, List.forall_mem_cons.mpr ⟨ht _ tb_296, List.forall_mem_cons.mpr ⟨ht _ tb_471, List.forall_mem_cons.mpr ⟨ht _ tb_472, List.forall_mem_cons.mpr ⟨ht _ tb_473, List.forall_mem_cons.mpr ⟨ht _ tb_324, List.forall_mem_cons.mpr ⟨va_Nw.use rfl hV.1.1, List.forall_mem_cons.mpr ⟨ht _ tb_324, List.forall_mem_cons.mpr ⟨ht _ tb_325, List.forall_mem_cons.mpr ⟨ht _ tb_326, List.forall_mem_cons.mpr ⟨ht _ tb_327, List.forall_mem_cons.mpr ⟨va_Nw.use rfl hV.1.2.1, List.forall_mem_cons.mpr ⟨ht _ tb_327, List.forall_mem_cons.mpr ⟨ht _ tb_328, List.forall_mem_cons.mpr ⟨ht _ tb_329, List.forall_mem_cons.mpr ⟨ht _ tb_330, List.forall_mem_cons.mpr ⟨va_Nw.use rfl hV.1.2.2, List.forall_mem_cons.mpr ⟨ht _ tb_470, List.forall_mem_cons.mpr ⟨ht _ tb_461, List.forall_mem_cons.mpr ⟨va_Nw.use rfl hV.2.1.2.1, List.forall_mem_cons.mpr ⟨ht _ tb_463, List.forall_mem_cons.mpr ⟨ht _ tb_312, List.forall_mem_cons.mpr ⟨ht _ tb_464, List.forall_mem_cons.mpr ⟨ht _ tb_465, List.forall_mem_cons.mpr ⟨ht _ tb_466, List.forall_mem_cons.mpr ⟨ht _ tb_467, List.forall_mem_cons.mpr ⟨hV.2.2.2.2.2.1.ref, List.forall_mem_cons.mpr ⟨hV.2.2.2.2.2.2.ref, List.forall_mem_cons.mpr ⟨ht _ tb_299, List.forall_mem_cons.mpr ⟨ht _ tb_298, List.forall_mem_cons.mpr ⟨ht _ tb_468, List.forall_mem_nil _⟩⟩⟩⟩⟩⟩⟩⟩⟩⟩⟩⟩⟩⟩⟩⟩⟩⟩⟩⟩⟩⟩⟩⟩⟩⟩⟩⟩⟩⟩⟩⟩⟩⟩⟩⟩⟩⟩⟩⟩⟩⟩⟩⟩⟩⟩⟩⟩⟩⟩⟩⟩⟩⟩⟩⟩⟩
set_option maxRecDepth 100000 in
theorem at_IA {s : State} {args : Array Value} {Bd : Nat} (ht : ∀ w ∈ tb_, w.before args s = true) (hV : tw_V Bd s s.heap) : ∀ w ∈ Bundle.ownAtoms "TwinTuners" 65 "java/lang/IllegalArgumentException" ["java/lang/RuntimeException", "java/lang/Exception"], w.before args s = true :=
  List.forall_mem_cons.mpr ⟨ht _ tb_6, List.forall_mem_cons.mpr ⟨ht _ tb_300, List.forall_mem_cons.mpr ⟨ht _ tb_309, List.forall_mem_cons.mpr ⟨ht _ tb_313, List.forall_mem_cons.mpr ⟨ht _ tb_316, List.forall_mem_cons.mpr ⟨ht _ tb_318, List.forall_mem_cons.mpr ⟨ht _ tb_301, List.forall_mem_cons.mpr ⟨ht _ tb_302, List.forall_mem_cons.mpr ⟨ht _ tb_21, List.forall_mem_cons.mpr ⟨ht _ tb_22, List.forall_mem_cons.mpr ⟨ht _ tb_303, List.forall_mem_cons.mpr ⟨ht _ tb_308, List.forall_mem_cons.mpr ⟨ht _ tb_314, List.forall_mem_cons.mpr ⟨ht _ tb_334, List.forall_mem_cons.mpr ⟨ht _ tb_290, List.forall_mem_cons.mpr ⟨ht _ tb_335, List.forall_mem_cons.mpr ⟨ht _ tb_292, List.forall_mem_cons.mpr ⟨ht _ tb_336, List.forall_mem_cons.mpr ⟨ht _ tb_294, List.forall_mem_cons.mpr ⟨ht _ tb_304, List.forall_mem_cons.mpr ⟨hV.2.2.2.2.2.1.lays, List.forall_mem_cons.mpr ⟨ht _ tb_306, List.forall_mem_cons.mpr ⟨hV.2.2.2.2.2.2.lays, List.forall_mem_cons.mpr ⟨ht _ tb_296, List.forall_mem_cons.mpr ⟨ht _ tb_330, List.forall_mem_cons.mpr ⟨ht _ tb_331, List.forall_mem_cons.mpr ⟨ht _ tb_333, List.forall_mem_cons.mpr ⟨ht _ tb_296, List.forall_mem_cons.mpr ⟨ht _ tb_321, List.forall_mem_cons.mpr ⟨ht _ tb_322, List.forall_mem_cons.mpr ⟨ht _ tb_323, List.forall_mem_cons.mpr ⟨ht _ tb_324, List.forall_mem_cons.mpr ⟨va_Nw.use rfl hV.1.1, List.forall_mem_cons.mpr ⟨ht _ tb_324, List.forall_mem_cons.mpr ⟨ht _ tb_325, List.forall_mem_cons.mpr ⟨ht _ tb_326, List.forall_mem_cons.mpr ⟨ht _ tb_327, List.forall_mem_cons.mpr ⟨va_Nw.use rfl hV.1.2.1, List.forall_mem_cons.mpr ⟨ht _ tb_327, List.forall_mem_cons.mpr ⟨ht _ tb_328, List.forall_mem_cons.mpr ⟨ht _ tb_329, List.forall_mem_cons.mpr ⟨ht _ tb_330, List.forall_mem_cons.mpr ⟨va_Nw.use rfl hV.1.2.2, List.forall_mem_cons.mpr ⟨ht _ tb_320, List.forall_mem_cons.mpr ⟨ht _ tb_279, List.forall_mem_cons.mpr ⟨va_Nw.use rfl hV.2.1.1, List.forall_mem_cons.mpr ⟨ht _ tb_287, List.forall_mem_cons.mpr ⟨ht _ tb_288, List.forall_mem_cons.mpr ⟨ht _ tb_289, List.forall_mem_cons.mpr ⟨ht _ tb_291, List.forall_mem_cons.mpr ⟨ht _ tb_293, List.forall_mem_cons.mpr ⟨ht _ tb_295, List.forall_mem_cons.mpr ⟨hV.2.2.2.2.2.1.ref, List.forall_mem_cons.mpr ⟨hV.2.2.2.2.2.2.ref, List.forall_mem_cons.mpr ⟨ht _ tb_299, List.forall_mem_cons.mpr ⟨ht _ tb_298, List.forall_mem_cons.mpr ⟨ht _ tb_297, List.forall_mem_nil _⟩⟩⟩⟩⟩⟩⟩⟩⟩⟩⟩⟩⟩⟩⟩⟩⟩⟩⟩⟩⟩⟩⟩⟩⟩⟩⟩⟩⟩⟩⟩⟩⟩⟩⟩⟩⟩⟩⟩⟩⟩⟩⟩⟩⟩⟩⟩⟩⟩⟩⟩⟩⟩⟩⟩⟩⟩
set_option maxRecDepth 100000 in
theorem at_IS {s : State} {args : Array Value} {Bd : Nat} (ht : ∀ w ∈ tb_, w.before args s = true) (hV : tw_V Bd s s.heap) : ∀ w ∈ Bundle.ownAtoms "TwinTuners" 76 "java/lang/IllegalStateException" ["java/lang/RuntimeException", "java/lang/Exception"], w.before args s = true :=
  List.forall_mem_cons.mpr ⟨ht _ tb_6, List.forall_mem_cons.mpr ⟨ht _ tb_300, List.forall_mem_cons.mpr ⟨ht _ tb_309, List.forall_mem_cons.mpr ⟨ht _ tb_313, List.forall_mem_cons.mpr ⟨ht _ tb_316, List.forall_mem_cons.mpr ⟨ht _ tb_318, List.forall_mem_cons.mpr ⟨ht _ tb_301, List.forall_mem_cons.mpr ⟨ht _ tb_302, List.forall_mem_cons.mpr ⟨ht _ tb_21, List.forall_mem_cons.mpr ⟨ht _ tb_22, List.forall_mem_cons.mpr ⟨ht _ tb_303, List.forall_mem_cons.mpr ⟨ht _ tb_308, List.forall_mem_cons.mpr ⟨ht _ tb_314, List.forall_mem_cons.mpr ⟨ht _ tb_334, List.forall_mem_cons.mpr ⟨ht _ tb_290, List.forall_mem_cons.mpr ⟨ht _ tb_335, List.forall_mem_cons.mpr ⟨ht _ tb_292, List.forall_mem_cons.mpr ⟨ht _ tb_336, List.forall_mem_cons.mpr ⟨ht _ tb_294, List.forall_mem_cons.mpr ⟨ht _ tb_304, List.forall_mem_cons.mpr ⟨hV.2.2.2.2.2.1.lays, List.forall_mem_cons.mpr ⟨ht _ tb_306, List.forall_mem_cons.mpr ⟨hV.2.2.2.2.2.2.lays, List.forall_mem_cons.mpr ⟨ht _ tb_296, List.forall_mem_cons.mpr ⟨ht _ tb_330, List.forall_mem_cons.mpr ⟨ht _ tb_331, List.forall_mem_cons.mpr ⟨ht _ tb_333, List.forall_mem_cons.mpr ⟨ht _ tb_296, List.forall_mem_cons.mpr ⟨ht _ tb_362, List.forall_mem_cons.mpr ⟨ht _ tb_363, List.forall_mem_cons.mpr ⟨ht _ tb_364, List.forall_mem_cons.mpr ⟨ht _ tb_324, List.forall_mem_cons.mpr ⟨va_Nw.use rfl hV.1.1, List.forall_mem_cons.mpr ⟨ht _ tb_324, List.forall_mem_cons.mpr ⟨ht _ tb_325, List.forall_mem_cons.mpr ⟨ht _ tb_326, List.forall_mem_cons.mpr ⟨ht _ tb_327, List.forall_mem_cons.mpr ⟨va_Nw.use rfl hV.1.2.1, List.forall_mem_cons.mpr ⟨ht _ tb_327, List.forall_mem_cons.mpr ⟨ht _ tb_328, List.forall_mem_cons.mpr ⟨ht _ tb_329, List.forall_mem_cons.mpr ⟨ht _ tb_330, List.forall_mem_cons.mpr ⟨va_Nw.use rfl hV.1.2.2, List.forall_mem_cons.mpr ⟨ht _ tb_361, List.forall_mem_cons.mpr ⟨ht _ tb_352, List.forall_mem_cons.mpr ⟨va_Nw.use rfl hV.2.1.2.2.1, List.forall_mem_cons.mpr ⟨ht _ tb_354, List.forall_mem_cons.mpr ⟨ht _ tb_311, List.forall_mem_cons.mpr ⟨ht _ tb_355, List.forall_mem_cons.mpr ⟨ht _ tb_356, List.forall_mem_cons.mpr ⟨ht _ tb_357, List.forall_mem_cons.mpr ⟨ht _ tb_358, List.forall_mem_cons.mpr ⟨hV.2.2.2.2.2.1.ref, List.forall_mem_cons.mpr ⟨hV.2.2.2.2.2.2.ref, List.forall_mem_cons.mpr ⟨ht _ tb_299, List.forall_mem_cons.mpr ⟨ht _ tb_298, List.forall_mem_cons.mpr ⟨ht _ tb_359, List.forall_mem_nil _⟩⟩⟩⟩⟩⟩⟩⟩⟩⟩⟩⟩⟩⟩⟩⟩⟩⟩⟩⟩⟩⟩⟩⟩⟩⟩⟩⟩⟩⟩⟩⟩⟩⟩⟩⟩⟩⟩⟩⟩⟩⟩⟩⟩⟩⟩⟩⟩⟩⟩⟩⟩⟩⟩⟩⟩⟩
set_option maxHeartbeats 8000000 in
set_option maxRecDepth 100000 in
theorem k_TT_numbered_th (l : Launch) (dC : Nat → ClassId) (dI : Nat → Nat → Nat) (cd : Nat → Nat) (kI kQ : ClassId) (L : List Nat) (isA : Nat → Bool) (bk : Nat → Nat) (sc : Nat → Int32) (ia : Nat → Nat → Int32) (qa : Nat → Nat → Option Nat) (rf ba : Nat → Nat → Int32) (sz Bd : Nat) (hl9 : l.stackTraces = false) (N : Nat) (hC : CI N L isA bk sc qa rf) (x : Int32) (hno9 : ∀ j, j < N → x ≠ nI j) : tw_Met l y_TT_numbered w_TT_numbered ({ frames := 6, cells := 1, slots := 6, locals := 90 }) (frP (dC, dI) (CW cd kI kQ L isA bk sc ia qa rf ba) (CT kI kQ) sz Bd [.ref (cd 0), .int x]) "java/lang/IndexOutOfBoundsException" 1 6 := by
  refine tw_ofW (cc := c_TT_numbered) (maxL := 2) (ret := (some (.object "TwinTuners$Request"))) (by decide) rfl ?_
  intro p e s m args below meth c s₁ B hml hno hv
  obtain ⟨rfl, ⟨hsz, hBs⟩, hP, hK, hD0, hV⟩ := hv
  have hx := B.exec
  have hb := B.bytes
  have hr := B.returns
  have ht : ∀ w ∈ tb_, w.before _ s = true := fun w h => atoms_spec (ws := w_TT_numbered) B.pre w (List.mem_cons_of_mem _ h)
  have hown : s.vm.findClass R_TT = some m.cls := findClass_of_methodNamed B.named
  have hlocks := B.notSynchronized
  subst hsz
  have hD := hD0.self (sz := s.heap.size)
  have hAB : ∀ q, va_A (CW cd kI kQ L isA bk sc ia qa rf ba) s.heap.size q → Bd ≤ q := fr_AB hD0 hBs
  generalize hAe : va_A (CW cd kI kQ L isA bk sc ia qa rf ba) s.heap.size = A at hD hAB
  have hA : ∀ q : Nat, s.heap.size ≤ q → A q := fun q h => by rw [← hAe]; exact Or.inr h
  have hS : va_S A s.heap s.heap [] := va_S.rf
  have hs : same [] sc sc := same.rf
  have hP : va_P (dC, dI) cls_ (CW cd kI kQ L isA bk sc ia qa rf ba) s.heap := hP
  have hl := lv_entry ([.ref (cd 0), .int x]) (n := 2) (Nat.le_of_ble_eq_true rfl)
  rw [lg_entry_eq]
  generalize (lg_sl ([.ref (cd 0), .int x]) ++ List.replicate (2 - (lg_sl ([.ref (cd 0), .int x])).length) Slot.unset).toArray = ls at hl ⊢
  have hl : lv_has ls 2 [(0, .ref (cd 0)), (1, .int x)] := hl
  have hN := hC.1.1
  refine lv_iload_n hx hb d_TT_numbered_0 rfl (lv_at hl 1 rfl) ?_
  refine lv_if_lt (tgt := 12) hx hb d_TT_numbered_1 (by decide) (fun h1_1 => ?_) (fun h1_1 => ?_)
  · have h1_1 := h1_1
    have i1_1 := ti_lt h1_1
    (try rw [l_0] at i1_1)
    obtain ⟨sa, hsa⟩ := hV.2.2.2.2.1.2.1
    exact tw_throwNew hx hb hl9 hown (by decide) (by decide) (ht _ tb_460) (ht _ tb_12) hsa (at_IO ht hV) hS.1 (by rw [hml]; exact hl.1) d_TT_numbered_12 d_TT_numbered_15 d_TT_numbered_16 d_TT_numbered_18 d_TT_numbered_21 (tw_noH hno _) (Nat.le_of_ble_eq_true rfl) (Nat.le_of_ble_eq_true rfl) (Nat.le_of_ble_eq_true rfl) (Nat.le_of_ble_eq_true rfl) hlocks
  · have h1_1 := h1_1
    have i1_1 := ti_nlt h1_1
    (try rw [l_0] at i1_1)
    refine lv_iload_n hx hb d_TT_numbered_4 rfl (lv_at hl 1 rfl) ?_
    refine lv_aload_n hx hb d_TT_numbered_5 rfl (lv_at hl 0 rfl) ?_
    refine va_get (D := (dC, dI)) (ci := 0) (v := .int (sc 0)) (C := R_TT) (T := F_TT) (N := 8) hx hb ht in_TT hown hK hP 0 rfl rfl 5 (by decide) (ht _ tb_80) (fun _ h9 => h9) rfl d_TT_numbered_6 ?_
    refine W.eq (g2 := F0 m 9 ls [.int (nI N), .int x]) (by rw [show sc 0 = nI N from hC.1.2]) ?_
    refine lv_icmp_lt (tgt := 22) hx hb d_TT_numbered_9 (by decide) (fun h9_2 => ?_) (fun h9_2 => ?_)
    · have h9_2 := h9_2
      have i9_2 := ti_lt h9_2
      (try rw [nI_toInt (show N < 2 ^ 31 by omega)] at i9_2)
      obtain ⟨d, hd, rfl⟩ := of_n (n := N) (x := x) (by omega) (by omega); rw [nI_toInt (by omega)] at i9_2; exact absurd rfl (hno9 d (by omega))
    · have h9_2 := h9_2
      have i9_2 := ti_nlt h9_2
      (try rw [nI_toInt (show N < 2 ^ 31 by omega)] at i9_2)
      obtain ⟨sa, hsa⟩ := hV.2.2.2.2.1.2.1
      exact tw_throwNew hx hb hl9 hown (by decide) (by decide) (ht _ tb_460) (ht _ tb_12) hsa (at_IO ht hV) hS.1 (by rw [hml]; exact hl.1) d_TT_numbered_12 d_TT_numbered_15 d_TT_numbered_16 d_TT_numbered_18 d_TT_numbered_21 (tw_noH hno _) (Nat.le_of_ble_eq_true rfl) (Nat.le_of_ble_eq_true rfl) (Nat.le_of_ble_eq_true rfl) (Nat.le_of_ble_eq_true rfl) hlocks
set_option maxHeartbeats 8000000 in
set_option maxRecDepth 100000 in
theorem k_TT_cancel_th (l : Launch) (dC : Nat → ClassId) (dI : Nat → Nat → Nat) (cd : Nat → Nat) (kI kQ : ClassId) (L : List Nat) (isA : Nat → Bool) (bk : Nat → Nat) (sc : Nat → Int32) (ia : Nat → Nat → Int32) (qa : Nat → Nat → Option Nat) (rf ba : Nat → Nat → Int32) (sz Bd : Nat) (hl9 : l.stackTraces = false) (N : Nat) (hC : CI N L isA bk sc qa rf) (x : Int32) (hno9 : ∀ j, j < N → x ≠ nI j) : tw_Met l y_TT_cancel w_TT_cancel ({ frames := 7, cells := 1, slots := 6, locals := 111 }) (frP (dC, dI) (CW cd kI kQ L isA bk sc ia qa rf ba) (CT kI kQ) sz Bd [.ref (cd 0), .int x]) "java/lang/IndexOutOfBoundsException" 1 6 := by
  refine tw_ofW (cc := c_TT_cancel) (maxL := 3) (ret := none) (by decide) rfl ?_
  intro p e s m args below meth c s₁ B hml hno hv
  obtain ⟨rfl, ⟨hsz, hBs⟩, hP, hK, hD0, hV⟩ := hv
  have hx := B.exec
  have hb := B.bytes
  have hr := B.returns
  have ht : ∀ w ∈ tb_, w.before _ s = true := fun w h => atoms_spec (ws := w_TT_cancel) B.pre w (List.mem_cons_of_mem _ h)
  have hown : s.vm.findClass R_TT = some m.cls := findClass_of_methodNamed B.named
  have hlocks := B.notSynchronized
  subst hsz
  have hD := hD0.self (sz := s.heap.size)
  have hAB : ∀ q, va_A (CW cd kI kQ L isA bk sc ia qa rf ba) s.heap.size q → Bd ≤ q := fr_AB hD0 hBs
  generalize hAe : va_A (CW cd kI kQ L isA bk sc ia qa rf ba) s.heap.size = A at hD hAB
  have hA : ∀ q : Nat, s.heap.size ≤ q → A q := fun q h => by rw [← hAe]; exact Or.inr h
  have hS : va_S A s.heap s.heap [] := va_S.rf
  have hs : same [] sc sc := same.rf
  have hP : va_P (dC, dI) cls_ (CW cd kI kQ L isA bk sc ia qa rf ba) s.heap := hP
  have hl := lv_entry ([.ref (cd 0), .int x]) (n := 3) (Nat.le_of_ble_eq_true rfl)
  rw [lg_entry_eq]
  generalize (lg_sl ([.ref (cd 0), .int x]) ++ List.replicate (3 - (lg_sl ([.ref (cd 0), .int x])).length) Slot.unset).toArray = ls at hl ⊢
  have hl : lv_has ls 3 [(0, .ref (cd 0)), (1, .int x)] := hl
  have hN := hC.1.1
  refine lv_aload_n hx hb d_TT_cancel_0 rfl (lv_at hl 0 rfl) ?_
  refine lv_iload_n hx hb d_TT_cancel_1 rfl (lv_at hl 1 rfl) ?_
  refine tw_runV (C := R_TT) (As := [.int x]) (rest := []) ⟨hx, hb, hml, hown, ht⟩ (k_TT_numbered_th l dC dI cd kI kQ L isA bk sc ia qa rf ba s.heap.size Bd hl9 N hC x hno9) (cwV 1 ht (gV tb_456 tb_458 ts_20 tb_1 tb_459) rfl rfl rfl (by decide +kernel) ⟨Nat.le_of_ble_eq_true rfl, Nat.le_of_ble_eq_true rfl⟩) ⟨frP_blind, va_recv (q := (R_TT, F_TT, 8)) hK hP rfl (show (CW cd kI kQ L isA bk sc ia qa rf ba : va_W)[0]? = some _ from rfl), fr_pre hP hK hD hAB hBs hS hV⟩ rfl hl.1 rfl (Nat.le_of_ble_eq_true rfl) d_TT_cancel_2 ⟨Nat.le_of_ble_eq_true rfl, Nat.le_of_ble_eq_true rfl⟩ (fun xa cellx H1 hx1 hx2 hx3 hx4 hx5 hx6 => ?_)
  exact tw_leave (tw_noH hno _) hlocks (Nat.le_trans hS.1 hx1) hx2 hx3 hx4
set_option maxHeartbeats 8000000 in
set_option maxRecDepth 100000 in
theorem k_TT_state_th (l : Launch) (dC : Nat → ClassId) (dI : Nat → Nat → Nat) (cd : Nat → Nat) (kI kQ : ClassId) (L : List Nat) (isA : Nat → Bool) (bk : Nat → Nat) (sc : Nat → Int32) (ia : Nat → Nat → Int32) (qa : Nat → Nat → Option Nat) (rf ba : Nat → Nat → Int32) (sz Bd : Nat) (hl9 : l.stackTraces = false) (N : Nat) (hC : CI N L isA bk sc qa rf) (x : Int32) (hno9 : ∀ j, j < N → x ≠ nI j) : tw_Met l y_TT_state w_TT_state ({ frames := 7, cells := 1, slots := 6, locals := 111 }) (frP (dC, dI) (CW cd kI kQ L isA bk sc ia qa rf ba) (CT kI kQ) sz Bd [.ref (cd 0), .int x]) "java/lang/IndexOutOfBoundsException" 1 6 := by
  refine tw_ofW (cc := c_TT_state) (maxL := 2) (ret := (some .int)) (by decide) rfl ?_
  intro p e s m args below meth c s₁ B hml hno hv
  obtain ⟨rfl, ⟨hsz, hBs⟩, hP, hK, hD0, hV⟩ := hv
  have hx := B.exec
  have hb := B.bytes
  have hr := B.returns
  have ht : ∀ w ∈ tb_, w.before _ s = true := fun w h => atoms_spec (ws := w_TT_state) B.pre w (List.mem_cons_of_mem _ h)
  have hown : s.vm.findClass R_TT = some m.cls := findClass_of_methodNamed B.named
  have hlocks := B.notSynchronized
  subst hsz
  have hD := hD0.self (sz := s.heap.size)
  have hAB : ∀ q, va_A (CW cd kI kQ L isA bk sc ia qa rf ba) s.heap.size q → Bd ≤ q := fr_AB hD0 hBs
  generalize hAe : va_A (CW cd kI kQ L isA bk sc ia qa rf ba) s.heap.size = A at hD hAB
  have hA : ∀ q : Nat, s.heap.size ≤ q → A q := fun q h => by rw [← hAe]; exact Or.inr h
  have hS : va_S A s.heap s.heap [] := va_S.rf
  have hs : same [] sc sc := same.rf
  have hP : va_P (dC, dI) cls_ (CW cd kI kQ L isA bk sc ia qa rf ba) s.heap := hP
  have hl := lv_entry ([.ref (cd 0), .int x]) (n := 2) (Nat.le_of_ble_eq_true rfl)
  rw [lg_entry_eq]
  generalize (lg_sl ([.ref (cd 0), .int x]) ++ List.replicate (2 - (lg_sl ([.ref (cd 0), .int x])).length) Slot.unset).toArray = ls at hl ⊢
  have hl : lv_has ls 2 [(0, .ref (cd 0)), (1, .int x)] := hl
  have hN := hC.1.1
  refine lv_aload_n hx hb d_TT_state_0 rfl (lv_at hl 0 rfl) ?_
  refine lv_iload_n hx hb d_TT_state_1 rfl (lv_at hl 1 rfl) ?_
  refine tw_runV (C := R_TT) (As := [.int x]) (rest := []) ⟨hx, hb, hml, hown, ht⟩ (k_TT_numbered_th l dC dI cd kI kQ L isA bk sc ia qa rf ba s.heap.size Bd hl9 N hC x hno9) (cwV 1 ht (gV tb_456 tb_458 ts_20 tb_1 tb_459) rfl rfl rfl (by decide +kernel) ⟨Nat.le_of_ble_eq_true rfl, Nat.le_of_ble_eq_true rfl⟩) ⟨frP_blind, va_recv (q := (R_TT, F_TT, 8)) hK hP rfl (show (CW cd kI kQ L isA bk sc ia qa rf ba : va_W)[0]? = some _ from rfl), fr_pre hP hK hD hAB hBs hS hV⟩ rfl hl.1 rfl (Nat.le_of_ble_eq_true rfl) d_TT_state_2 ⟨Nat.le_of_ble_eq_true rfl, Nat.le_of_ble_eq_true rfl⟩ (fun xa cellx H1 hx1 hx2 hx3 hx4 hx5 hx6 => ?_)
  exact tw_leave (tw_noH hno _) hlocks (Nat.le_trans hS.1 hx1) hx2 hx3 hx4
set_option maxHeartbeats 8000000 in
set_option maxRecDepth 100000 in
theorem k_TT_planFrom_th (l : Launch) (dC : Nat → ClassId) (dI : Nat → Nat → Nat) (cd : Nat → Nat) (kI kQ : ClassId) (L : List Nat) (isA : Nat → Bool) (bk : Nat → Nat) (sc : Nat → Int32) (ia : Nat → Nat → Int32) (qa : Nat → Nat → Option Nat) (rf ba : Nat → Nat → Int32) (sz Bd : Nat) (hl9 : l.stackTraces = false) (N : Nat) (hC : CI N L isA bk sc qa rf) (x : Int32) (hno9 : ∀ j, j < N → x ≠ nI j) : tw_Met l y_TT_planFrom w_TT_planFrom ({ frames := 7, cells := 1, slots := 6, locals := 111 }) (frP (dC, dI) (CW cd kI kQ L isA bk sc ia qa rf ba) (CT kI kQ) sz Bd [.ref (cd 0), .int x]) "java/lang/IndexOutOfBoundsException" 1 6 := by
  refine tw_ofW (cc := c_TT_planFrom) (maxL := 3) (ret := (some .int)) (by decide) rfl ?_
  intro p e s m args below meth c s₁ B hml hno hv
  obtain ⟨rfl, ⟨hsz, hBs⟩, hP, hK, hD0, hV⟩ := hv
  have hx := B.exec
  have hb := B.bytes
  have hr := B.returns
  have ht : ∀ w ∈ tb_, w.before _ s = true := fun w h => atoms_spec (ws := w_TT_planFrom) B.pre w (List.mem_cons_of_mem _ h)
  have hown : s.vm.findClass R_TT = some m.cls := findClass_of_methodNamed B.named
  have hlocks := B.notSynchronized
  subst hsz
  have hD := hD0.self (sz := s.heap.size)
  have hAB : ∀ q, va_A (CW cd kI kQ L isA bk sc ia qa rf ba) s.heap.size q → Bd ≤ q := fr_AB hD0 hBs
  generalize hAe : va_A (CW cd kI kQ L isA bk sc ia qa rf ba) s.heap.size = A at hD hAB
  have hA : ∀ q : Nat, s.heap.size ≤ q → A q := fun q h => by rw [← hAe]; exact Or.inr h
  have hS : va_S A s.heap s.heap [] := va_S.rf
  have hs : same [] sc sc := same.rf
  have hP : va_P (dC, dI) cls_ (CW cd kI kQ L isA bk sc ia qa rf ba) s.heap := hP
  have hl := lv_entry ([.ref (cd 0), .int x]) (n := 3) (Nat.le_of_ble_eq_true rfl)
  rw [lg_entry_eq]
  generalize (lg_sl ([.ref (cd 0), .int x]) ++ List.replicate (3 - (lg_sl ([.ref (cd 0), .int x])).length) Slot.unset).toArray = ls at hl ⊢
  have hl : lv_has ls 3 [(0, .ref (cd 0)), (1, .int x)] := hl
  have hN := hC.1.1
  refine lv_aload_n hx hb d_TT_planFrom_0 rfl (lv_at hl 0 rfl) ?_
  refine lv_iload_n hx hb d_TT_planFrom_1 rfl (lv_at hl 1 rfl) ?_
  refine tw_runV (C := R_TT) (As := [.int x]) (rest := []) ⟨hx, hb, hml, hown, ht⟩ (k_TT_numbered_th l dC dI cd kI kQ L isA bk sc ia qa rf ba s.heap.size Bd hl9 N hC x hno9) (cwV 1 ht (gV tb_456 tb_458 ts_20 tb_1 tb_459) rfl rfl rfl (by decide +kernel) ⟨Nat.le_of_ble_eq_true rfl, Nat.le_of_ble_eq_true rfl⟩) ⟨frP_blind, va_recv (q := (R_TT, F_TT, 8)) hK hP rfl (show (CW cd kI kQ L isA bk sc ia qa rf ba : va_W)[0]? = some _ from rfl), fr_pre hP hK hD hAB hBs hS hV⟩ rfl hl.1 rfl (Nat.le_of_ble_eq_true rfl) d_TT_planFrom_2 ⟨Nat.le_of_ble_eq_true rfl, Nat.le_of_ble_eq_true rfl⟩ (fun xa cellx H1 hx1 hx2 hx3 hx4 hx5 hx6 => ?_)
  exact tw_leave (tw_noH hno _) hlocks (Nat.le_trans hS.1 hx1) hx2 hx3 hx4
set_option maxHeartbeats 8000000 in
set_option maxRecDepth 100000 in
theorem k_TT_planTo_th (l : Launch) (dC : Nat → ClassId) (dI : Nat → Nat → Nat) (cd : Nat → Nat) (kI kQ : ClassId) (L : List Nat) (isA : Nat → Bool) (bk : Nat → Nat) (sc : Nat → Int32) (ia : Nat → Nat → Int32) (qa : Nat → Nat → Option Nat) (rf ba : Nat → Nat → Int32) (sz Bd : Nat) (hl9 : l.stackTraces = false) (N : Nat) (hC : CI N L isA bk sc qa rf) (x : Int32) (hno9 : ∀ j, j < N → x ≠ nI j) : tw_Met l y_TT_planTo w_TT_planTo ({ frames := 7, cells := 1, slots := 6, locals := 111 }) (frP (dC, dI) (CW cd kI kQ L isA bk sc ia qa rf ba) (CT kI kQ) sz Bd [.ref (cd 0), .int x]) "java/lang/IndexOutOfBoundsException" 1 6 := by
  refine tw_ofW (cc := c_TT_planTo) (maxL := 3) (ret := (some .int)) (by decide) rfl ?_
  intro p e s m args below meth c s₁ B hml hno hv
  obtain ⟨rfl, ⟨hsz, hBs⟩, hP, hK, hD0, hV⟩ := hv
  have hx := B.exec
  have hb := B.bytes
  have hr := B.returns
  have ht : ∀ w ∈ tb_, w.before _ s = true := fun w h => atoms_spec (ws := w_TT_planTo) B.pre w (List.mem_cons_of_mem _ h)
  have hown : s.vm.findClass R_TT = some m.cls := findClass_of_methodNamed B.named
  have hlocks := B.notSynchronized
  subst hsz
  have hD := hD0.self (sz := s.heap.size)
  have hAB : ∀ q, va_A (CW cd kI kQ L isA bk sc ia qa rf ba) s.heap.size q → Bd ≤ q := fr_AB hD0 hBs
  generalize hAe : va_A (CW cd kI kQ L isA bk sc ia qa rf ba) s.heap.size = A at hD hAB
  have hA : ∀ q : Nat, s.heap.size ≤ q → A q := fun q h => by rw [← hAe]; exact Or.inr h
  have hS : va_S A s.heap s.heap [] := va_S.rf
  have hs : same [] sc sc := same.rf
  have hP : va_P (dC, dI) cls_ (CW cd kI kQ L isA bk sc ia qa rf ba) s.heap := hP
  have hl := lv_entry ([.ref (cd 0), .int x]) (n := 3) (Nat.le_of_ble_eq_true rfl)
  rw [lg_entry_eq]
  generalize (lg_sl ([.ref (cd 0), .int x]) ++ List.replicate (3 - (lg_sl ([.ref (cd 0), .int x])).length) Slot.unset).toArray = ls at hl ⊢
  have hl : lv_has ls 3 [(0, .ref (cd 0)), (1, .int x)] := hl
  have hN := hC.1.1
  refine lv_aload_n hx hb d_TT_planTo_0 rfl (lv_at hl 0 rfl) ?_
  refine lv_iload_n hx hb d_TT_planTo_1 rfl (lv_at hl 1 rfl) ?_
  refine tw_runV (C := R_TT) (As := [.int x]) (rest := []) ⟨hx, hb, hml, hown, ht⟩ (k_TT_numbered_th l dC dI cd kI kQ L isA bk sc ia qa rf ba s.heap.size Bd hl9 N hC x hno9) (cwV 1 ht (gV tb_456 tb_458 ts_20 tb_1 tb_459) rfl rfl rfl (by decide +kernel) ⟨Nat.le_of_ble_eq_true rfl, Nat.le_of_ble_eq_true rfl⟩) ⟨frP_blind, va_recv (q := (R_TT, F_TT, 8)) hK hP rfl (show (CW cd kI kQ L isA bk sc ia qa rf ba : va_W)[0]? = some _ from rfl), fr_pre hP hK hD hAB hBs hS hV⟩ rfl hl.1 rfl (Nat.le_of_ble_eq_true rfl) d_TT_planTo_2 ⟨Nat.le_of_ble_eq_true rfl, Nat.le_of_ble_eq_true rfl⟩ (fun xa cellx H1 hx1 hx2 hx3 hx4 hx5 hx6 => ?_)
  exact tw_leave (tw_noH hno _) hlocks (Nat.le_trans hS.1 hx1) hx2 hx3 hx4
set_option maxHeartbeats 8000000 in
set_option maxRecDepth 100000 in
theorem k_TT_word_th (l : Launch) (dC : Nat → ClassId) (dI : Nat → Nat → Nat) (cd : Nat → Nat) (kI kQ : ClassId) (L : List Nat) (isA : Nat → Bool) (bk : Nat → Nat) (sc : Nat → Int32) (ia : Nat → Nat → Int32) (qa : Nat → Nat → Option Nat) (rf ba : Nat → Nat → Int32) (sz Bd : Nat) (hl9 : l.stackTraces = false) (N : Nat) (hC : CI N L isA bk sc qa rf) (x y : Int32) (hno9 : ∀ j, j < N → x ≠ nI j) : tw_Met l y_TT_word w_TT_word ({ frames := 7, cells := 1, slots := 6, locals := 111 }) (frP (dC, dI) (CW cd kI kQ L isA bk sc ia qa rf ba) (CT kI kQ) sz Bd [.ref (cd 0), .int x, .int y]) "java/lang/IndexOutOfBoundsException" 1 6 := by
  refine tw_ofW (cc := c_TT_word) (maxL := 3) (ret := (some .long)) (by decide) rfl ?_
  intro p e s m args below meth c s₁ B hml hno hv
  obtain ⟨rfl, ⟨hsz, hBs⟩, hP, hK, hD0, hV⟩ := hv
  have hx := B.exec
  have hb := B.bytes
  have hr := B.returns
  have ht : ∀ w ∈ tb_, w.before _ s = true := fun w h => atoms_spec (ws := w_TT_word) B.pre w (List.mem_cons_of_mem _ h)
  have hown : s.vm.findClass R_TT = some m.cls := findClass_of_methodNamed B.named
  have hlocks := B.notSynchronized
  subst hsz
  have hD := hD0.self (sz := s.heap.size)
  have hAB : ∀ q, va_A (CW cd kI kQ L isA bk sc ia qa rf ba) s.heap.size q → Bd ≤ q := fr_AB hD0 hBs
  generalize hAe : va_A (CW cd kI kQ L isA bk sc ia qa rf ba) s.heap.size = A at hD hAB
  have hA : ∀ q : Nat, s.heap.size ≤ q → A q := fun q h => by rw [← hAe]; exact Or.inr h
  have hS : va_S A s.heap s.heap [] := va_S.rf
  have hs : same [] sc sc := same.rf
  have hP : va_P (dC, dI) cls_ (CW cd kI kQ L isA bk sc ia qa rf ba) s.heap := hP
  have hl := lv_entry ([.ref (cd 0), .int x, .int y]) (n := 3) (Nat.le_of_ble_eq_true rfl)
  rw [lg_entry_eq]
  generalize (lg_sl ([.ref (cd 0), .int x, .int y]) ++ List.replicate (3 - (lg_sl ([.ref (cd 0), .int x, .int y])).length) Slot.unset).toArray = ls at hl ⊢
  have hl : lv_has ls 3 [(0, .ref (cd 0)), (1, .int x), (2, .int y)] := hl
  have hN := hC.1.1
  refine lv_aload_n hx hb d_TT_word_0 rfl (lv_at hl 0 rfl) ?_
  refine va_get (D := (dC, dI)) (ci := 0) (v := .ref (cd 5)) (C := R_TT) (T := F_TT) (N := 8) hx hb ht in_TT hown hK hP 0 rfl rfl 3 (by decide) (ht _ tb_78) (fun _ h9 => h9) rfl d_TT_word_1 ?_
  refine lv_aload_n hx hb d_TT_word_4 rfl (lv_at hl 0 rfl) ?_
  refine lv_iload_n hx hb d_TT_word_5 rfl (lv_at hl 1 rfl) ?_
  refine tw_runV (C := R_TT) (As := [.int x]) (rest := [.ref (cd 5)]) ⟨hx, hb, hml, hown, ht⟩ (k_TT_numbered_th l dC dI cd kI kQ L isA bk sc ia qa rf ba s.heap.size Bd hl9 N hC x hno9) (cwV 1 ht (gV tb_456 tb_458 ts_20 tb_1 tb_459) rfl rfl rfl (by decide +kernel) ⟨Nat.le_of_ble_eq_true rfl, Nat.le_of_ble_eq_true rfl⟩) ⟨frP_blind, va_recv (q := (R_TT, F_TT, 8)) hK hP rfl (show (CW cd kI kQ L isA bk sc ia qa rf ba : va_W)[0]? = some _ from rfl), fr_pre hP hK hD hAB hBs hS hV⟩ rfl hl.1 rfl (Nat.le_of_ble_eq_true rfl) d_TT_word_6 ⟨Nat.le_of_ble_eq_true rfl, Nat.le_of_ble_eq_true rfl⟩ (fun xa cellx H1 hx1 hx2 hx3 hx4 hx5 hx6 => ?_)
  exact tw_leave (tw_noH hno _) hlocks (Nat.le_trans hS.1 hx1) hx2 hx3 hx4
set_option maxHeartbeats 8000000 in
set_option maxRecDepth 100000 in
theorem k_TT_recorded_th (l : Launch) (dC : Nat → ClassId) (dI : Nat → Nat → Nat) (cd : Nat → Nat) (kI kQ : ClassId) (L : List Nat) (isA : Nat → Bool) (bk : Nat → Nat) (sc : Nat → Int32) (ia : Nat → Nat → Int32) (qa : Nat → Nat → Option Nat) (rf ba : Nat → Nat → Int32) (sz Bd : Nat) (hl9 : l.stackTraces = false) (N : Nat) (hC : CI N L isA bk sc qa rf) (x : Int32) (hno9 : ∀ j, j < N → x ≠ nI j) : tw_Met l y_TT_recorded w_TT_recorded ({ frames := 7, cells := 1, slots := 6, locals := 111 }) (frP (dC, dI) (CW cd kI kQ L isA bk sc ia qa rf ba) (CT kI kQ) sz Bd [.ref (cd 0), .int x]) "java/lang/IndexOutOfBoundsException" 1 6 := by
  refine tw_ofW (cc := c_TT_recorded) (maxL := 2) (ret := (some .int)) (by decide) rfl ?_
  intro p e s m args below meth c s₁ B hml hno hv
  obtain ⟨rfl, ⟨hsz, hBs⟩, hP, hK, hD0, hV⟩ := hv
  have hx := B.exec
  have hb := B.bytes
  have hr := B.returns
  have ht : ∀ w ∈ tb_, w.before _ s = true := fun w h => atoms_spec (ws := w_TT_recorded) B.pre w (List.mem_cons_of_mem _ h)
  have hown : s.vm.findClass R_TT = some m.cls := findClass_of_methodNamed B.named
  have hlocks := B.notSynchronized
  subst hsz
  have hD := hD0.self (sz := s.heap.size)
  have hAB : ∀ q, va_A (CW cd kI kQ L isA bk sc ia qa rf ba) s.heap.size q → Bd ≤ q := fr_AB hD0 hBs
  generalize hAe : va_A (CW cd kI kQ L isA bk sc ia qa rf ba) s.heap.size = A at hD hAB
  have hA : ∀ q : Nat, s.heap.size ≤ q → A q := fun q h => by rw [← hAe]; exact Or.inr h
  have hS : va_S A s.heap s.heap [] := va_S.rf
  have hs : same [] sc sc := same.rf
  have hP : va_P (dC, dI) cls_ (CW cd kI kQ L isA bk sc ia qa rf ba) s.heap := hP
  have hl := lv_entry ([.ref (cd 0), .int x]) (n := 2) (Nat.le_of_ble_eq_true rfl)
  rw [lg_entry_eq]
  generalize (lg_sl ([.ref (cd 0), .int x]) ++ List.replicate (2 - (lg_sl ([.ref (cd 0), .int x])).length) Slot.unset).toArray = ls at hl ⊢
  have hl : lv_has ls 2 [(0, .ref (cd 0)), (1, .int x)] := hl
  have hN := hC.1.1
  refine lv_aload_n hx hb d_TT_recorded_0 rfl (lv_at hl 0 rfl) ?_
  refine va_get (D := (dC, dI)) (ci := 0) (v := .ref (cd 5)) (C := R_TT) (T := F_TT) (N := 8) hx hb ht in_TT hown hK hP 0 rfl rfl 3 (by decide) (ht _ tb_78) (fun _ h9 => h9) rfl d_TT_recorded_1 ?_
  refine lv_aload_n hx hb d_TT_recorded_4 rfl (lv_at hl 0 rfl) ?_
  refine lv_iload_n hx hb d_TT_recorded_5 rfl (lv_at hl 1 rfl) ?_
  refine tw_runV (C := R_TT) (As := [.int x]) (rest := [.ref (cd 5)]) ⟨hx, hb, hml, hown, ht⟩ (k_TT_numbered_th l dC dI cd kI kQ L isA bk sc ia qa rf ba s.heap.size Bd hl9 N hC x hno9) (cwV 1 ht (gV tb_456 tb_458 ts_20 tb_1 tb_459) rfl rfl rfl (by decide +kernel) ⟨Nat.le_of_ble_eq_true rfl, Nat.le_of_ble_eq_true rfl⟩) ⟨frP_blind, va_recv (q := (R_TT, F_TT, 8)) hK hP rfl (show (CW cd kI kQ L isA bk sc ia qa rf ba : va_W)[0]? = some _ from rfl), fr_pre hP hK hD hAB hBs hS hV⟩ rfl hl.1 rfl (Nat.le_of_ble_eq_true rfl) d_TT_recorded_6 ⟨Nat.le_of_ble_eq_true rfl, Nat.le_of_ble_eq_true rfl⟩ (fun xa cellx H1 hx1 hx2 hx3 hx4 hx5 hx6 => ?_)
  exact tw_leave (tw_noH hno _) hlocks (Nat.le_trans hS.1 hx1) hx2 hx3 hx4
set_option maxHeartbeats 8000000 in
set_option maxRecDepth 100000 in
theorem k_TT_shortBy_th (l : Launch) (dC : Nat → ClassId) (dI : Nat → Nat → Nat) (cd : Nat → Nat) (kI kQ : ClassId) (L : List Nat) (isA : Nat → Bool) (bk : Nat → Nat) (sc : Nat → Int32) (ia : Nat → Nat → Int32) (qa : Nat → Nat → Option Nat) (rf ba : Nat → Nat → Int32) (sz Bd : Nat) (hl9 : l.stackTraces = false) (N : Nat) (hC : CI N L isA bk sc qa rf) (x : Int32) (hno9 : ∀ j, j < N → x ≠ nI j) : tw_Met l y_TT_shortBy w_TT_shortBy ({ frames := 7, cells := 1, slots := 6, locals := 111 }) (frP (dC, dI) (CW cd kI kQ L isA bk sc ia qa rf ba) (CT kI kQ) sz Bd [.ref (cd 0), .int x]) "java/lang/IndexOutOfBoundsException" 1 6 := by
  refine tw_ofW (cc := c_TT_shortBy) (maxL := 2) (ret := (some .int)) (by decide) rfl ?_
  intro p e s m args below meth c s₁ B hml hno hv
  obtain ⟨rfl, ⟨hsz, hBs⟩, hP, hK, hD0, hV⟩ := hv
  have hx := B.exec
  have hb := B.bytes
  have hr := B.returns
  have ht : ∀ w ∈ tb_, w.before _ s = true := fun w h => atoms_spec (ws := w_TT_shortBy) B.pre w (List.mem_cons_of_mem _ h)
  have hown : s.vm.findClass R_TT = some m.cls := findClass_of_methodNamed B.named
  have hlocks := B.notSynchronized
  subst hsz
  have hD := hD0.self (sz := s.heap.size)
  have hAB : ∀ q, va_A (CW cd kI kQ L isA bk sc ia qa rf ba) s.heap.size q → Bd ≤ q := fr_AB hD0 hBs
  generalize hAe : va_A (CW cd kI kQ L isA bk sc ia qa rf ba) s.heap.size = A at hD hAB
  have hA : ∀ q : Nat, s.heap.size ≤ q → A q := fun q h => by rw [← hAe]; exact Or.inr h
  have hS : va_S A s.heap s.heap [] := va_S.rf
  have hs : same [] sc sc := same.rf
  have hP : va_P (dC, dI) cls_ (CW cd kI kQ L isA bk sc ia qa rf ba) s.heap := hP
  have hl := lv_entry ([.ref (cd 0), .int x]) (n := 2) (Nat.le_of_ble_eq_true rfl)
  rw [lg_entry_eq]
  generalize (lg_sl ([.ref (cd 0), .int x]) ++ List.replicate (2 - (lg_sl ([.ref (cd 0), .int x])).length) Slot.unset).toArray = ls at hl ⊢
  have hl : lv_has ls 2 [(0, .ref (cd 0)), (1, .int x)] := hl
  have hN := hC.1.1
  refine lv_aload_n hx hb d_TT_shortBy_0 rfl (lv_at hl 0 rfl) ?_
  refine lv_iload_n hx hb d_TT_shortBy_1 rfl (lv_at hl 1 rfl) ?_
  refine tw_runV (C := R_TT) (As := [.int x]) (rest := []) ⟨hx, hb, hml, hown, ht⟩ (k_TT_numbered_th l dC dI cd kI kQ L isA bk sc ia qa rf ba s.heap.size Bd hl9 N hC x hno9) (cwV 1 ht (gV tb_456 tb_458 ts_20 tb_1 tb_459) rfl rfl rfl (by decide +kernel) ⟨Nat.le_of_ble_eq_true rfl, Nat.le_of_ble_eq_true rfl⟩) ⟨frP_blind, va_recv (q := (R_TT, F_TT, 8)) hK hP rfl (show (CW cd kI kQ L isA bk sc ia qa rf ba : va_W)[0]? = some _ from rfl), fr_pre hP hK hD hAB hBs hS hV⟩ rfl hl.1 rfl (Nat.le_of_ble_eq_true rfl) d_TT_shortBy_2 ⟨Nat.le_of_ble_eq_true rfl, Nat.le_of_ble_eq_true rfl⟩ (fun xa cellx H1 hx1 hx2 hx3 hx4 hx5 hx6 => ?_)
  exact tw_leave (tw_noH hno _) hlocks (Nat.le_trans hS.1 hx1) hx2 hx3 hx4
set_option maxHeartbeats 8000000 in
set_option maxRecDepth 100000 in
theorem k_TT_recordingNumbered_th (l : Launch) (dC : Nat → ClassId) (dI : Nat → Nat → Nat) (cd : Nat → Nat) (kI kQ : ClassId) (L : List Nat) (isA : Nat → Bool) (bk : Nat → Nat) (sc : Nat → Int32) (ia : Nat → Nat → Int32) (qa : Nat → Nat → Option Nat) (rf ba : Nat → Nat → Int32) (sz Bd : Nat) (hl9 : l.stackTraces = false) (N : Nat) (hC : CI N L isA bk sc qa rf) (x : Int32) (hno9 : ∀ j, j < N → x ≠ nI j) : tw_Met l y_TT_recordingNumbered w_TT_recordingNumbered ({ frames := 7, cells := 1, slots := 6, locals := 111 }) (frP (dC, dI) (CW cd kI kQ L isA bk sc ia qa rf ba) (CT kI kQ) sz Bd [.ref (cd 0), .int x]) "java/lang/IndexOutOfBoundsException" 1 6 := by
  refine tw_ofW (cc := c_TT_recordingNumbered) (maxL := 3) (ret := (some (.object "TwinTuners$Request"))) (by decide) rfl ?_
  intro p e s m args below meth c s₁ B hml hno hv
  obtain ⟨rfl, ⟨hsz, hBs⟩, hP, hK, hD0, hV⟩ := hv
  have hx := B.exec
  have hb := B.bytes
  have hr := B.returns
  have ht : ∀ w ∈ tb_, w.before _ s = true := fun w h => atoms_spec (ws := w_TT_recordingNumbered) B.pre w (List.mem_cons_of_mem _ h)
  have hown : s.vm.findClass R_TT = some m.cls := findClass_of_methodNamed B.named
  have hlocks := B.notSynchronized
  subst hsz
  have hD := hD0.self (sz := s.heap.size)
  have hAB : ∀ q, va_A (CW cd kI kQ L isA bk sc ia qa rf ba) s.heap.size q → Bd ≤ q := fr_AB hD0 hBs
  generalize hAe : va_A (CW cd kI kQ L isA bk sc ia qa rf ba) s.heap.size = A at hD hAB
  have hA : ∀ q : Nat, s.heap.size ≤ q → A q := fun q h => by rw [← hAe]; exact Or.inr h
  have hS : va_S A s.heap s.heap [] := va_S.rf
  have hs : same [] sc sc := same.rf
  have hP : va_P (dC, dI) cls_ (CW cd kI kQ L isA bk sc ia qa rf ba) s.heap := hP
  have hl := lv_entry ([.ref (cd 0), .int x]) (n := 3) (Nat.le_of_ble_eq_true rfl)
  rw [lg_entry_eq]
  generalize (lg_sl ([.ref (cd 0), .int x]) ++ List.replicate (3 - (lg_sl ([.ref (cd 0), .int x])).length) Slot.unset).toArray = ls at hl ⊢
  have hl : lv_has ls 3 [(0, .ref (cd 0)), (1, .int x)] := hl
  have hN := hC.1.1
  refine lv_aload_n hx hb d_TT_recordingNumbered_0 rfl (lv_at hl 0 rfl) ?_
  refine lv_iload_n hx hb d_TT_recordingNumbered_1 rfl (lv_at hl 1 rfl) ?_
  refine tw_runV (C := R_TT) (As := [.int x]) (rest := []) ⟨hx, hb, hml, hown, ht⟩ (k_TT_numbered_th l dC dI cd kI kQ L isA bk sc ia qa rf ba s.heap.size Bd hl9 N hC x hno9) (cwV 1 ht (gV tb_456 tb_458 ts_20 tb_1 tb_459) rfl rfl rfl (by decide +kernel) ⟨Nat.le_of_ble_eq_true rfl, Nat.le_of_ble_eq_true rfl⟩) ⟨frP_blind, va_recv (q := (R_TT, F_TT, 8)) hK hP rfl (show (CW cd kI kQ L isA bk sc ia qa rf ba : va_W)[0]? = some _ from rfl), fr_pre hP hK hD hAB hBs hS hV⟩ rfl hl.1 rfl (Nat.le_of_ble_eq_true rfl) d_TT_recordingNumbered_2 ⟨Nat.le_of_ble_eq_true rfl, Nat.le_of_ble_eq_true rfl⟩ (fun xa cellx H1 hx1 hx2 hx3 hx4 hx5 hx6 => ?_)
  exact tw_leave (tw_noH hno _) hlocks (Nat.le_trans hS.1 hx1) hx2 hx3 hx4
set_option maxHeartbeats 8000000 in
set_option maxRecDepth 100000 in
theorem k_TT_erase_th (l : Launch) (dC : Nat → ClassId) (dI : Nat → Nat → Nat) (cd : Nat → Nat) (kI kQ : ClassId) (L : List Nat) (isA : Nat → Bool) (bk : Nat → Nat) (sc : Nat → Int32) (ia : Nat → Nat → Int32) (qa : Nat → Nat → Option Nat) (rf ba : Nat → Nat → Int32) (sz Bd : Nat) (hl9 : l.stackTraces = false) (N : Nat) (hC : CI N L isA bk sc qa rf) (x : Int32) (hno9 : ∀ j, j < N → x ≠ nI j) : tw_Met l y_TT_erase w_TT_erase ({ frames := 7, cells := 1, slots := 6, locals := 111 }) (frP (dC, dI) (CW cd kI kQ L isA bk sc ia qa rf ba) (CT kI kQ) sz Bd [.ref (cd 0), .int x]) "java/lang/IndexOutOfBoundsException" 1 6 := by
  refine tw_ofW (cc := c_TT_erase) (maxL := 3) (ret := (some .int)) (by decide) rfl ?_
  intro p e s m args below meth c s₁ B hml hno hv
  obtain ⟨rfl, ⟨hsz, hBs⟩, hP, hK, hD0, hV⟩ := hv
  have hx := B.exec
  have hb := B.bytes
  have hr := B.returns
  have ht : ∀ w ∈ tb_, w.before _ s = true := fun w h => atoms_spec (ws := w_TT_erase) B.pre w (List.mem_cons_of_mem _ h)
  have hown : s.vm.findClass R_TT = some m.cls := findClass_of_methodNamed B.named
  have hlocks := B.notSynchronized
  subst hsz
  have hD := hD0.self (sz := s.heap.size)
  have hAB : ∀ q, va_A (CW cd kI kQ L isA bk sc ia qa rf ba) s.heap.size q → Bd ≤ q := fr_AB hD0 hBs
  generalize hAe : va_A (CW cd kI kQ L isA bk sc ia qa rf ba) s.heap.size = A at hD hAB
  have hA : ∀ q : Nat, s.heap.size ≤ q → A q := fun q h => by rw [← hAe]; exact Or.inr h
  have hS : va_S A s.heap s.heap [] := va_S.rf
  have hs : same [] sc sc := same.rf
  have hP : va_P (dC, dI) cls_ (CW cd kI kQ L isA bk sc ia qa rf ba) s.heap := hP
  have hl := lv_entry ([.ref (cd 0), .int x]) (n := 3) (Nat.le_of_ble_eq_true rfl)
  rw [lg_entry_eq]
  generalize (lg_sl ([.ref (cd 0), .int x]) ++ List.replicate (3 - (lg_sl ([.ref (cd 0), .int x])).length) Slot.unset).toArray = ls at hl ⊢
  have hl : lv_has ls 3 [(0, .ref (cd 0)), (1, .int x)] := hl
  have hN := hC.1.1
  refine lv_aload_n hx hb d_TT_erase_0 rfl (lv_at hl 0 rfl) ?_
  refine lv_iload_n hx hb d_TT_erase_1 rfl (lv_at hl 1 rfl) ?_
  refine tw_runV (C := R_TT) (As := [.int x]) (rest := []) ⟨hx, hb, hml, hown, ht⟩ (k_TT_numbered_th l dC dI cd kI kQ L isA bk sc ia qa rf ba s.heap.size Bd hl9 N hC x hno9) (cwV 1 ht (gV tb_456 tb_458 ts_20 tb_1 tb_459) rfl rfl rfl (by decide +kernel) ⟨Nat.le_of_ble_eq_true rfl, Nat.le_of_ble_eq_true rfl⟩) ⟨frP_blind, va_recv (q := (R_TT, F_TT, 8)) hK hP rfl (show (CW cd kI kQ L isA bk sc ia qa rf ba : va_W)[0]? = some _ from rfl), fr_pre hP hK hD hAB hBs hS hV⟩ rfl hl.1 rfl (Nat.le_of_ble_eq_true rfl) d_TT_erase_2 ⟨Nat.le_of_ble_eq_true rfl, Nat.le_of_ble_eq_true rfl⟩ (fun xa cellx H1 hx1 hx2 hx3 hx4 hx5 hx6 => ?_)
  exact tw_leave (tw_noH hno _) hlocks (Nat.le_trans hS.1 hx1) hx2 hx3 hx4
set_option maxHeartbeats 8000000 in
set_option maxRecDepth 100000 in
theorem k_TT_bookmark_th (l : Launch) (dC : Nat → ClassId) (dI : Nat → Nat → Nat) (cd : Nat → Nat) (kI kQ : ClassId) (L : List Nat) (isA : Nat → Bool) (bk : Nat → Nat) (sc : Nat → Int32) (ia : Nat → Nat → Int32) (qa : Nat → Nat → Option Nat) (rf ba : Nat → Nat → Int32) (sz Bd : Nat) (hl9 : l.stackTraces = false) (N : Nat) (hC : CI N L isA bk sc qa rf) (x y : Int32) (hno9 : ∀ j, j < N → x ≠ nI j) : tw_Met l y_TT_bookmark w_TT_bookmark ({ frames := 7, cells := 1, slots := 6, locals := 111 }) (frP (dC, dI) (CW cd kI kQ L isA bk sc ia qa rf ba) (CT kI kQ) sz Bd [.ref (cd 0), .int x, .int y]) "java/lang/IndexOutOfBoundsException" 1 6 := by
  refine tw_ofW (cc := c_TT_bookmark) (maxL := 4) (ret := (some .int)) (by decide) rfl ?_
  intro p e s m args below meth c s₁ B hml hno hv
  obtain ⟨rfl, ⟨hsz, hBs⟩, hP, hK, hD0, hV⟩ := hv
  have hx := B.exec
  have hb := B.bytes
  have hr := B.returns
  have ht : ∀ w ∈ tb_, w.before _ s = true := fun w h => atoms_spec (ws := w_TT_bookmark) B.pre w (List.mem_cons_of_mem _ h)
  have hown : s.vm.findClass R_TT = some m.cls := findClass_of_methodNamed B.named
  have hlocks := B.notSynchronized
  subst hsz
  have hD := hD0.self (sz := s.heap.size)
  have hAB : ∀ q, va_A (CW cd kI kQ L isA bk sc ia qa rf ba) s.heap.size q → Bd ≤ q := fr_AB hD0 hBs
  generalize hAe : va_A (CW cd kI kQ L isA bk sc ia qa rf ba) s.heap.size = A at hD hAB
  have hA : ∀ q : Nat, s.heap.size ≤ q → A q := fun q h => by rw [← hAe]; exact Or.inr h
  have hS : va_S A s.heap s.heap [] := va_S.rf
  have hs : same [] sc sc := same.rf
  have hP : va_P (dC, dI) cls_ (CW cd kI kQ L isA bk sc ia qa rf ba) s.heap := hP
  have hl := lv_entry ([.ref (cd 0), .int x, .int y]) (n := 4) (Nat.le_of_ble_eq_true rfl)
  rw [lg_entry_eq]
  generalize (lg_sl ([.ref (cd 0), .int x, .int y]) ++ List.replicate (4 - (lg_sl ([.ref (cd 0), .int x, .int y])).length) Slot.unset).toArray = ls at hl ⊢
  have hl : lv_has ls 4 [(0, .ref (cd 0)), (1, .int x), (2, .int y)] := hl
  have hN := hC.1.1
  refine lv_aload_n hx hb d_TT_bookmark_0 rfl (lv_at hl 0 rfl) ?_
  refine lv_iload_n hx hb d_TT_bookmark_1 rfl (lv_at hl 1 rfl) ?_
  refine tw_runV (C := R_TT) (As := [.int x]) (rest := []) ⟨hx, hb, hml, hown, ht⟩ (k_TT_numbered_th l dC dI cd kI kQ L isA bk sc ia qa rf ba s.heap.size Bd hl9 N hC x hno9) (cwV 1 ht (gV tb_456 tb_458 ts_20 tb_1 tb_459) rfl rfl rfl (by decide +kernel) ⟨Nat.le_of_ble_eq_true rfl, Nat.le_of_ble_eq_true rfl⟩) ⟨frP_blind, va_recv (q := (R_TT, F_TT, 8)) hK hP rfl (show (CW cd kI kQ L isA bk sc ia qa rf ba : va_W)[0]? = some _ from rfl), fr_pre hP hK hD hAB hBs hS hV⟩ rfl hl.1 rfl (Nat.le_of_ble_eq_true rfl) d_TT_bookmark_2 ⟨Nat.le_of_ble_eq_true rfl, Nat.le_of_ble_eq_true rfl⟩ (fun xa cellx H1 hx1 hx2 hx3 hx4 hx5 hx6 => ?_)
  exact tw_leave (tw_noH hno _) hlocks (Nat.le_trans hS.1 hx1) hx2 hx3 hx4
set_option maxHeartbeats 8000000 in
set_option maxRecDepth 100000 in
theorem k_TT_bookmarkAt_th (l : Launch) (dC : Nat → ClassId) (dI : Nat → Nat → Nat) (cd : Nat → Nat) (kI kQ : ClassId) (L : List Nat) (isA : Nat → Bool) (bk : Nat → Nat) (sc : Nat → Int32) (ia : Nat → Nat → Int32) (qa : Nat → Nat → Option Nat) (rf ba : Nat → Nat → Int32) (sz Bd : Nat) (hl9 : l.stackTraces = false) (N : Nat) (hC : CI N L isA bk sc qa rf) (x y : Int32) (hno9 : ∀ j, j < N → x ≠ nI j) : tw_Met l y_TT_bookmarkAt w_TT_bookmarkAt ({ frames := 7, cells := 1, slots := 6, locals := 111 }) (frP (dC, dI) (CW cd kI kQ L isA bk sc ia qa rf ba) (CT kI kQ) sz Bd [.ref (cd 0), .int x, .int y]) "java/lang/IndexOutOfBoundsException" 1 6 := by
  refine tw_ofW (cc := c_TT_bookmarkAt) (maxL := 4) (ret := (some .int)) (by decide) rfl ?_
  intro p e s m args below meth c s₁ B hml hno hv
  obtain ⟨rfl, ⟨hsz, hBs⟩, hP, hK, hD0, hV⟩ := hv
  have hx := B.exec
  have hb := B.bytes
  have hr := B.returns
  have ht : ∀ w ∈ tb_, w.before _ s = true := fun w h => atoms_spec (ws := w_TT_bookmarkAt) B.pre w (List.mem_cons_of_mem _ h)
  have hown : s.vm.findClass R_TT = some m.cls := findClass_of_methodNamed B.named
  have hlocks := B.notSynchronized
  subst hsz
  have hD := hD0.self (sz := s.heap.size)
  have hAB : ∀ q, va_A (CW cd kI kQ L isA bk sc ia qa rf ba) s.heap.size q → Bd ≤ q := fr_AB hD0 hBs
  generalize hAe : va_A (CW cd kI kQ L isA bk sc ia qa rf ba) s.heap.size = A at hD hAB
  have hA : ∀ q : Nat, s.heap.size ≤ q → A q := fun q h => by rw [← hAe]; exact Or.inr h
  have hS : va_S A s.heap s.heap [] := va_S.rf
  have hs : same [] sc sc := same.rf
  have hP : va_P (dC, dI) cls_ (CW cd kI kQ L isA bk sc ia qa rf ba) s.heap := hP
  have hl := lv_entry ([.ref (cd 0), .int x, .int y]) (n := 4) (Nat.le_of_ble_eq_true rfl)
  rw [lg_entry_eq]
  generalize (lg_sl ([.ref (cd 0), .int x, .int y]) ++ List.replicate (4 - (lg_sl ([.ref (cd 0), .int x, .int y])).length) Slot.unset).toArray = ls at hl ⊢
  have hl : lv_has ls 4 [(0, .ref (cd 0)), (1, .int x), (2, .int y)] := hl
  have hN := hC.1.1
  refine lv_aload_n hx hb d_TT_bookmarkAt_0 rfl (lv_at hl 0 rfl) ?_
  refine lv_iload_n hx hb d_TT_bookmarkAt_1 rfl (lv_at hl 1 rfl) ?_
  refine tw_runV (C := R_TT) (As := [.int x]) (rest := []) ⟨hx, hb, hml, hown, ht⟩ (k_TT_numbered_th l dC dI cd kI kQ L isA bk sc ia qa rf ba s.heap.size Bd hl9 N hC x hno9) (cwV 1 ht (gV tb_456 tb_458 ts_20 tb_1 tb_459) rfl rfl rfl (by decide +kernel) ⟨Nat.le_of_ble_eq_true rfl, Nat.le_of_ble_eq_true rfl⟩) ⟨frP_blind, va_recv (q := (R_TT, F_TT, 8)) hK hP rfl (show (CW cd kI kQ L isA bk sc ia qa rf ba : va_W)[0]? = some _ from rfl), fr_pre hP hK hD hAB hBs hS hV⟩ rfl hl.1 rfl (Nat.le_of_ble_eq_true rfl) d_TT_bookmarkAt_2 ⟨Nat.le_of_ble_eq_true rfl, Nat.le_of_ble_eq_true rfl⟩ (fun xa cellx H1 hx1 hx2 hx3 hx4 hx5 hx6 => ?_)
  exact tw_leave (tw_noH hno _) hlocks (Nat.le_trans hS.1 hx1) hx2 hx3 hx4
set_option maxHeartbeats 8000000 in
set_option maxRecDepth 100000 in
theorem k_TT_protect_th (l : Launch) (dC : Nat → ClassId) (dI : Nat → Nat → Nat) (cd : Nat → Nat) (kI kQ : ClassId) (L : List Nat) (isA : Nat → Bool) (bk : Nat → Nat) (sc : Nat → Int32) (ia : Nat → Nat → Int32) (qa : Nat → Nat → Option Nat) (rf ba : Nat → Nat → Int32) (sz Bd : Nat) (hl9 : l.stackTraces = false) (N : Nat) (hC : CI N L isA bk sc qa rf) (x y : Int32) (hno9 : ∀ j, j < N → x ≠ nI j) : tw_Met l y_TT_protect w_TT_protect ({ frames := 8, cells := 1, slots := 6, locals := 133 }) (frP (dC, dI) (CW cd kI kQ L isA bk sc ia qa rf ba) (CT kI kQ) sz Bd [.ref (cd 0), .int x, .int y]) "java/lang/IndexOutOfBoundsException" 1 6 := by
  refine tw_ofW (cc := c_TT_protect) (maxL := 3) (ret := none) (by decide) rfl ?_
  intro p e s m args below meth c s₁ B hml hno hv
  obtain ⟨rfl, ⟨hsz, hBs⟩, hP, hK, hD0, hV⟩ := hv
  have hx := B.exec
  have hb := B.bytes
  have hr := B.returns
  have ht : ∀ w ∈ tb_, w.before _ s = true := fun w h => atoms_spec (ws := w_TT_protect) B.pre w (List.mem_cons_of_mem _ h)
  have hown : s.vm.findClass R_TT = some m.cls := findClass_of_methodNamed B.named
  have hlocks := B.notSynchronized
  subst hsz
  have hD := hD0.self (sz := s.heap.size)
  have hAB : ∀ q, va_A (CW cd kI kQ L isA bk sc ia qa rf ba) s.heap.size q → Bd ≤ q := fr_AB hD0 hBs
  generalize hAe : va_A (CW cd kI kQ L isA bk sc ia qa rf ba) s.heap.size = A at hD hAB
  have hA : ∀ q : Nat, s.heap.size ≤ q → A q := fun q h => by rw [← hAe]; exact Or.inr h
  have hS : va_S A s.heap s.heap [] := va_S.rf
  have hs : same [] sc sc := same.rf
  have hP : va_P (dC, dI) cls_ (CW cd kI kQ L isA bk sc ia qa rf ba) s.heap := hP
  have hl := lv_entry ([.ref (cd 0), .int x, .int y]) (n := 3) (Nat.le_of_ble_eq_true rfl)
  rw [lg_entry_eq]
  generalize (lg_sl ([.ref (cd 0), .int x, .int y]) ++ List.replicate (3 - (lg_sl ([.ref (cd 0), .int x, .int y])).length) Slot.unset).toArray = ls at hl ⊢
  have hl : lv_has ls 3 [(0, .ref (cd 0)), (1, .int x), (2, .int y)] := hl
  have hN := hC.1.1
  refine lv_aload_n hx hb d_TT_protect_0 rfl (lv_at hl 0 rfl) ?_
  refine lv_iload_n hx hb d_TT_protect_1 rfl (lv_at hl 1 rfl) ?_
  refine tw_runV (C := R_TT) (As := [.int x]) (rest := []) ⟨hx, hb, hml, hown, ht⟩ (k_TT_recordingNumbered_th l dC dI cd kI kQ L isA bk sc ia qa rf ba s.heap.size Bd hl9 N hC x hno9) (cwV 1 ht (gV tb_566 tb_568 ts_21 tb_1 tb_569) rfl rfl rfl (by decide +kernel) ⟨Nat.le_of_ble_eq_true rfl, Nat.le_of_ble_eq_true rfl⟩) ⟨frP_blind, va_recv (q := (R_TT, F_TT, 8)) hK hP rfl (show (CW cd kI kQ L isA bk sc ia qa rf ba : va_W)[0]? = some _ from rfl), fr_pre hP hK hD hAB hBs hS hV⟩ rfl hl.1 rfl (Nat.le_of_ble_eq_true rfl) d_TT_protect_2 ⟨Nat.le_of_ble_eq_true rfl, Nat.le_of_ble_eq_true rfl⟩ (fun xa cellx H1 hx1 hx2 hx3 hx4 hx5 hx6 => ?_)
  exact tw_leave (tw_noH hno _) hlocks (Nat.le_trans hS.1 hx1) hx2 hx3 hx4
set_option maxHeartbeats 8000000 in
set_option maxRecDepth 100000 in
theorem k_TT_seen_th (l : Launch) (dC : Nat → ClassId) (dI : Nat → Nat → Nat) (cd : Nat → Nat) (kI kQ : ClassId) (L : List Nat) (isA : Nat → Bool) (bk : Nat → Nat) (sc : Nat → Int32) (ia : Nat → Nat → Int32) (qa : Nat → Nat → Option Nat) (rf ba : Nat → Nat → Int32) (sz Bd : Nat) (hl9 : l.stackTraces = false) (N : Nat) (hC : CI N L isA bk sc qa rf) (x y : Int32) (hno9 : ∀ j, j < N → x ≠ nI j) : tw_Met l y_TT_seen w_TT_seen ({ frames := 8, cells := 1, slots := 6, locals := 133 }) (frP (dC, dI) (CW cd kI kQ L isA bk sc ia qa rf ba) (CT kI kQ) sz Bd [.ref (cd 0), .int x, .int y]) "java/lang/IndexOutOfBoundsException" 1 6 := by
  refine tw_ofW (cc := c_TT_seen) (maxL := 3) (ret := none) (by decide) rfl ?_
  intro p e s m args below meth c s₁ B hml hno hv
  obtain ⟨rfl, ⟨hsz, hBs⟩, hP, hK, hD0, hV⟩ := hv
  have hx := B.exec
  have hb := B.bytes
  have hr := B.returns
  have ht : ∀ w ∈ tb_, w.before _ s = true := fun w h => atoms_spec (ws := w_TT_seen) B.pre w (List.mem_cons_of_mem _ h)
  have hown : s.vm.findClass R_TT = some m.cls := findClass_of_methodNamed B.named
  have hlocks := B.notSynchronized
  subst hsz
  have hD := hD0.self (sz := s.heap.size)
  have hAB : ∀ q, va_A (CW cd kI kQ L isA bk sc ia qa rf ba) s.heap.size q → Bd ≤ q := fr_AB hD0 hBs
  generalize hAe : va_A (CW cd kI kQ L isA bk sc ia qa rf ba) s.heap.size = A at hD hAB
  have hA : ∀ q : Nat, s.heap.size ≤ q → A q := fun q h => by rw [← hAe]; exact Or.inr h
  have hS : va_S A s.heap s.heap [] := va_S.rf
  have hs : same [] sc sc := same.rf
  have hP : va_P (dC, dI) cls_ (CW cd kI kQ L isA bk sc ia qa rf ba) s.heap := hP
  have hl := lv_entry ([.ref (cd 0), .int x, .int y]) (n := 3) (Nat.le_of_ble_eq_true rfl)
  rw [lg_entry_eq]
  generalize (lg_sl ([.ref (cd 0), .int x, .int y]) ++ List.replicate (3 - (lg_sl ([.ref (cd 0), .int x, .int y])).length) Slot.unset).toArray = ls at hl ⊢
  have hl : lv_has ls 3 [(0, .ref (cd 0)), (1, .int x), (2, .int y)] := hl
  have hN := hC.1.1
  refine lv_aload_n hx hb d_TT_seen_0 rfl (lv_at hl 0 rfl) ?_
  refine lv_iload_n hx hb d_TT_seen_1 rfl (lv_at hl 1 rfl) ?_
  refine tw_runV (C := R_TT) (As := [.int x]) (rest := []) ⟨hx, hb, hml, hown, ht⟩ (k_TT_recordingNumbered_th l dC dI cd kI kQ L isA bk sc ia qa rf ba s.heap.size Bd hl9 N hC x hno9) (cwV 1 ht (gV tb_566 tb_568 ts_21 tb_1 tb_569) rfl rfl rfl (by decide +kernel) ⟨Nat.le_of_ble_eq_true rfl, Nat.le_of_ble_eq_true rfl⟩) ⟨frP_blind, va_recv (q := (R_TT, F_TT, 8)) hK hP rfl (show (CW cd kI kQ L isA bk sc ia qa rf ba : va_W)[0]? = some _ from rfl), fr_pre hP hK hD hAB hBs hS hV⟩ rfl hl.1 rfl (Nat.le_of_ble_eq_true rfl) d_TT_seen_2 ⟨Nat.le_of_ble_eq_true rfl, Nat.le_of_ble_eq_true rfl⟩ (fun xa cellx H1 hx1 hx2 hx3 hx4 hx5 hx6 => ?_)
  exact tw_leave (tw_noH hno _) hlocks (Nat.le_trans hS.1 hx1) hx2 hx3 hx4
set_option maxHeartbeats 8000000 in
set_option maxRecDepth 100000 in
theorem k_TT_air_th (l : Launch) (dC : Nat → ClassId) (dI : Nat → Nat → Nat) (cd : Nat → Nat) (kI kQ : ClassId) (L : List Nat) (isA : Nat → Bool) (bk : Nat → Nat) (sc : Nat → Int32) (ia : Nat → Nat → Int32) (qa : Nat → Nat → Option Nat) (rf ba : Nat → Nat → Int32) (sz Bd : Nat) (hl9 : l.stackTraces = false) (N : Nat) (hC : CI N L isA bk sc qa rf) (x y : Int32) (h : ¬ (0 ≤ x.toInt ∧ x.toInt ≤ 7)) : tw_Met l y_TT_air w_TT_air ({ frames := 6, cells := 1, slots := 6, locals := 90 }) (frP (dC, dI) (CW cd kI kQ L isA bk sc ia qa rf ba) (CT kI kQ) sz Bd [.ref (cd 0), .int x, .int y]) "java/lang/IndexOutOfBoundsException" 1 6 := by
  refine tw_ofW (cc := c_TT_air) (maxL := 3) (ret := none) (by decide) rfl ?_
  intro p e s m args below meth c s₁ B hml hno hv
  obtain ⟨rfl, ⟨hsz, hBs⟩, hP, hK, hD0, hV⟩ := hv
  have hx := B.exec
  have hb := B.bytes
  have hr := B.returns
  have ht : ∀ w ∈ tb_, w.before _ s = true := fun w h => atoms_spec (ws := w_TT_air) B.pre w (List.mem_cons_of_mem _ h)
  have hown : s.vm.findClass R_TT = some m.cls := findClass_of_methodNamed B.named
  have hlocks := B.notSynchronized
  subst hsz
  have hD := hD0.self (sz := s.heap.size)
  have hAB : ∀ q, va_A (CW cd kI kQ L isA bk sc ia qa rf ba) s.heap.size q → Bd ≤ q := fr_AB hD0 hBs
  generalize hAe : va_A (CW cd kI kQ L isA bk sc ia qa rf ba) s.heap.size = A at hD hAB
  have hA : ∀ q : Nat, s.heap.size ≤ q → A q := fun q h => by rw [← hAe]; exact Or.inr h
  have hS : va_S A s.heap s.heap [] := va_S.rf
  have hs : same [] sc sc := same.rf
  have hP : va_P (dC, dI) cls_ (CW cd kI kQ L isA bk sc ia qa rf ba) s.heap := hP
  have hl := lv_entry ([.ref (cd 0), .int x, .int y]) (n := 3) (Nat.le_of_ble_eq_true rfl)
  rw [lg_entry_eq]
  generalize (lg_sl ([.ref (cd 0), .int x, .int y]) ++ List.replicate (3 - (lg_sl ([.ref (cd 0), .int x, .int y])).length) Slot.unset).toArray = ls at hl ⊢
  have hl : lv_has ls 3 [(0, .ref (cd 0)), (1, .int x), (2, .int y)] := hl
  have hN := hC.1.1
  refine lv_iload_n hx hb d_TT_air_0 rfl (lv_at hl 1 rfl) ?_
  refine r_call (va_runS (As := [.int x]) (rest := []) ⟨hx, hb, hml, hown, ht⟩ (k_TT_isChannel l dC dI x) (va_cwS 1 ht (gS tb_270 tb_271 tb_1 tb_272) rfl rfl rfl (by decide +kernel) ⟨Nat.le_of_ble_eq_true rfl, Nat.le_of_ble_eq_true rfl⟩) ⟨rdP_blind, rd_pre (W0 := []) (tys := []) (fun k q h => by cases h) ⟨hK.1, fun k q h => by cases h⟩⟩ rfl rfl hl.1 rfl (lv_room (Nat.le_of_ble_eq_true rfl)) d_TT_air_1 ⟨Nat.le_of_ble_eq_true rfl, Nat.le_of_ble_eq_true rfl⟩) (fun r1 hu => ?_)
  have hu1_0 := hu
  have hu1_0 : ((0 ≤ x.toInt ∧ x.toInt ≤ 7) ∧ r1 = 1 ∨ ¬ (0 ≤ x.toInt ∧ x.toInt ≤ 7) ∧ r1 = 0) := hu1_0
  refine W.eq (g2 := F0 m 4 ls [.int r1]) rfl ?_
  obtain rfl : r1 = 0 := by rcases hu1_0 with ⟨q, _⟩ | ⟨_, q⟩; { exact absurd q h }; { exact q }
  refine lv_if_ne (tgt := 17) hx hb d_TT_air_4 (by decide) (fun h9 => absurd (by decide) h9) (fun _ => ?_)
  obtain ⟨sa, hsa⟩ := hV.2.2.2.2.1.2.2.1
  exact tw_throwNew hx hb hl9 hown (by decide) (by decide) (ht _ tb_460) (ht _ tb_12) hsa (at_IO ht hV) hS.1 (by rw [hml]; exact hl.1) d_TT_air_7 d_TT_air_10 d_TT_air_11 d_TT_air_13 d_TT_air_16 (tw_noH hno _) (Nat.le_of_ble_eq_true rfl) (Nat.le_of_ble_eq_true rfl) (Nat.le_of_ble_eq_true rfl) (Nat.le_of_ble_eq_true rfl) hlocks
set_option maxHeartbeats 8000000 in
set_option maxRecDepth 100000 in
theorem k_TT_watch_th (l : Launch) (dC : Nat → ClassId) (dI : Nat → Nat → Nat) (cd : Nat → Nat) (kI kQ : ClassId) (L : List Nat) (isA : Nat → Bool) (bk : Nat → Nat) (sc : Nat → Int32) (ia : Nat → Nat → Int32) (qa : Nat → Nat → Option Nat) (rf ba : Nat → Nat → Int32) (sz Bd : Nat) (hl9 : l.stackTraces = false) (N : Nat) (hC : CI N L isA bk sc qa rf) (x : Int32) (h : ¬ (-1 ≤ x.toInt ∧ x.toInt ≤ 7)) : tw_Met l y_TT_watch w_TT_watch ({ frames := 6, cells := 1, slots := 6, locals := 90 }) (frP (dC, dI) (CW cd kI kQ L isA bk sc ia qa rf ba) (CT kI kQ) sz Bd [.ref (cd 0), .int x]) "java/lang/IndexOutOfBoundsException" 1 6 := by
  refine tw_ofW (cc := c_TT_watch) (maxL := 3) (ret := (some .int)) (by decide) rfl ?_
  intro p e s m args below meth c s₁ B hml hno hv
  obtain ⟨rfl, ⟨hsz, hBs⟩, hP, hK, hD0, hV⟩ := hv
  have hx := B.exec
  have hb := B.bytes
  have hr := B.returns
  have ht : ∀ w ∈ tb_, w.before _ s = true := fun w h => atoms_spec (ws := w_TT_watch) B.pre w (List.mem_cons_of_mem _ h)
  have hown : s.vm.findClass R_TT = some m.cls := findClass_of_methodNamed B.named
  have hlocks := B.notSynchronized
  subst hsz
  have hD := hD0.self (sz := s.heap.size)
  have hAB : ∀ q, va_A (CW cd kI kQ L isA bk sc ia qa rf ba) s.heap.size q → Bd ≤ q := fr_AB hD0 hBs
  generalize hAe : va_A (CW cd kI kQ L isA bk sc ia qa rf ba) s.heap.size = A at hD hAB
  have hA : ∀ q : Nat, s.heap.size ≤ q → A q := fun q h => by rw [← hAe]; exact Or.inr h
  have hS : va_S A s.heap s.heap [] := va_S.rf
  have hs : same [] sc sc := same.rf
  have hP : va_P (dC, dI) cls_ (CW cd kI kQ L isA bk sc ia qa rf ba) s.heap := hP
  have hl := lv_entry ([.ref (cd 0), .int x]) (n := 3) (Nat.le_of_ble_eq_true rfl)
  rw [lg_entry_eq]
  generalize (lg_sl ([.ref (cd 0), .int x]) ++ List.replicate (3 - (lg_sl ([.ref (cd 0), .int x])).length) Slot.unset).toArray = ls at hl ⊢
  have hl : lv_has ls 3 [(0, .ref (cd 0)), (1, .int x)] := hl
  have hN := hC.1.1
  refine lv_iload_n hx hb d_TT_watch_0 rfl (lv_at hl 1 rfl) ?_
  refine lv_iconst (v := -1) hx hb d_TT_watch_1 (by decide) ?_
  refine lv_icmp_eq (tgt := 22) hx hb d_TT_watch_2 (by decide) (fun h2_1 => ?_) (fun h2_1 => ?_)
  · have h2_1 := h2_1
    have i2_1 := ti_eq h2_1
    (try rw [l_m1] at i2_1)
    exact absurd ⟨by omega, by omega⟩ h
  · have h2_1 := h2_1
    have i2_1 := ti_ne h2_1
    (try rw [l_m1] at i2_1)
    refine lv_iload_n hx hb d_TT_watch_5 rfl (lv_at hl 1 rfl) ?_
    refine r_call (va_runS (As := [.int x]) (rest := []) ⟨hx, hb, hml, hown, ht⟩ (k_TT_isChannel l dC dI x) (va_cwS 1 ht (gS tb_270 tb_271 tb_1 tb_272) rfl rfl rfl (by decide +kernel) ⟨Nat.le_of_ble_eq_true rfl, Nat.le_of_ble_eq_true rfl⟩) ⟨rdP_blind, rd_pre (W0 := []) (tys := []) (fun k q h => by cases h) ⟨hK.1, fun k q h => by cases h⟩⟩ rfl rfl hl.1 rfl (lv_room (Nat.le_of_ble_eq_true rfl)) d_TT_watch_6 ⟨Nat.le_of_ble_eq_true rfl, Nat.le_of_ble_eq_true rfl⟩) (fun r1 hu => ?_)
    have hu1_0 := hu
    have hu1_0 : ((0 ≤ x.toInt ∧ x.toInt ≤ 7) ∧ r1 = 1 ∨ ¬ (0 ≤ x.toInt ∧ x.toInt ≤ 7) ∧ r1 = 0) := hu1_0
    refine W.eq (g2 := F0 m 9 ls [.int r1]) rfl ?_
    obtain rfl : r1 = 0 := by rcases hu1_0 with ⟨q, _⟩ | ⟨_, q⟩; { exact absurd q (fun q => h ⟨by omega, q.2⟩) }; { exact q }
    refine lv_if_ne (tgt := 22) hx hb d_TT_watch_9 (by decide) (fun h9 => absurd (by decide) h9) (fun _ => ?_)
    obtain ⟨sa, hsa⟩ := hV.2.2.2.2.1.2.2.1
    exact tw_throwNew hx hb hl9 hown (by decide) (by decide) (ht _ tb_460) (ht _ tb_12) hsa (at_IO ht hV) hS.1 (by rw [hml]; exact hl.1) d_TT_watch_12 d_TT_watch_15 d_TT_watch_16 d_TT_watch_18 d_TT_watch_21 (tw_noH hno _) (Nat.le_of_ble_eq_true rfl) (Nat.le_of_ble_eq_true rfl) (Nat.le_of_ble_eq_true rfl) (Nat.le_of_ble_eq_true rfl) hlocks
set_option maxHeartbeats 8000000 in
set_option maxRecDepth 100000 in
theorem k_TT_ticks_th (l : Launch) (dC : Nat → ClassId) (dI : Nat → Nat → Nat) (cd : Nat → Nat) (kI kQ : ClassId) (L : List Nat) (isA : Nat → Bool) (bk : Nat → Nat) (sc : Nat → Int32) (ia : Nat → Nat → Int32) (qa : Nat → Nat → Option Nat) (rf ba : Nat → Nat → Int32) (sz Bd : Nat) (hl9 : l.stackTraces = false) (N : Nat) (hC : CI N L isA bk sc qa rf) (x : Int32) (h : ¬ (1 ≤ x.toInt ∧ x.toInt ≤ 100)) : tw_Met l y_TT_ticks w_TT_ticks ({ frames := 6, cells := 1, slots := 6, locals := 90 }) (frP (dC, dI) (CW cd kI kQ L isA bk sc ia qa rf ba) (CT kI kQ) sz Bd [.ref (cd 0), .int x]) "java/lang/IllegalArgumentException" 1 6 := by
  refine tw_ofW (cc := c_TT_ticks) (maxL := 4) (ret := (some .int)) (by decide) rfl ?_
  intro p e s m args below meth c s₁ B hml hno hv
  obtain ⟨rfl, ⟨hsz, hBs⟩, hP, hK, hD0, hV⟩ := hv
  have hx := B.exec
  have hb := B.bytes
  have hr := B.returns
  have ht : ∀ w ∈ tb_, w.before _ s = true := fun w h => atoms_spec (ws := w_TT_ticks) B.pre w (List.mem_cons_of_mem _ h)
  have hown : s.vm.findClass R_TT = some m.cls := findClass_of_methodNamed B.named
  have hlocks := B.notSynchronized
  subst hsz
  have hD := hD0.self (sz := s.heap.size)
  have hAB : ∀ q, va_A (CW cd kI kQ L isA bk sc ia qa rf ba) s.heap.size q → Bd ≤ q := fr_AB hD0 hBs
  generalize hAe : va_A (CW cd kI kQ L isA bk sc ia qa rf ba) s.heap.size = A at hD hAB
  have hA : ∀ q : Nat, s.heap.size ≤ q → A q := fun q h => by rw [← hAe]; exact Or.inr h
  have hS : va_S A s.heap s.heap [] := va_S.rf
  have hs : same [] sc sc := same.rf
  have hP : va_P (dC, dI) cls_ (CW cd kI kQ L isA bk sc ia qa rf ba) s.heap := hP
  have hl := lv_entry ([.ref (cd 0), .int x]) (n := 4) (Nat.le_of_ble_eq_true rfl)
  rw [lg_entry_eq]
  generalize (lg_sl ([.ref (cd 0), .int x]) ++ List.replicate (4 - (lg_sl ([.ref (cd 0), .int x])).length) Slot.unset).toArray = ls at hl ⊢
  have hl : lv_has ls 4 [(0, .ref (cd 0)), (1, .int x)] := hl
  have hN := hC.1.1
  refine lv_iload_n hx hb d_TT_ticks_0 rfl (lv_at hl 1 rfl) ?_
  refine lv_iconst (v := 1) hx hb d_TT_ticks_1 (by decide) ?_
  refine lv_bipush (v := 100) hx hb d_TT_ticks_2 (by decide) ?_
  refine r_call (va_runS (As := [.int x, .int 1, .int 100]) (rest := []) ⟨hx, hb, hml, hown, ht⟩ (k_TT_isWithin l dC dI x ((1 : Int32)) ((100 : Int32))) (va_cwS 3 ht (gS tb_273 tb_226 tb_1 tb_227) rfl rfl rfl (by decide +kernel) ⟨Nat.le_of_ble_eq_true rfl, Nat.le_of_ble_eq_true rfl⟩) ⟨rdP_blind, rd_pre (W0 := []) (tys := []) (fun k q h => by cases h) ⟨hK.1, fun k q h => by cases h⟩⟩ rfl rfl hl.1 rfl (lv_room (Nat.le_of_ble_eq_true rfl)) d_TT_ticks_4 ⟨Nat.le_of_ble_eq_true rfl, Nat.le_of_ble_eq_true rfl⟩) (fun r1 hu => ?_)
  have hu1_0 := hu
  have hu1_0 : (((1 : Int32).toInt ≤ x.toInt ∧ x.toInt ≤ (100 : Int32).toInt) ∧ r1 = 1 ∨ ¬ ((1 : Int32).toInt ≤ x.toInt ∧ x.toInt ≤ (100 : Int32).toInt) ∧ r1 = 0) := hu1_0
  refine W.eq (g2 := F0 m 7 ls [.int r1]) rfl ?_
  obtain rfl : r1 = 0 := by rcases hu1_0 with ⟨q, _⟩ | ⟨_, q⟩; { exact absurd q (fun q => h (by rw [l_1, l_100] at q; exact q)) }; { exact q }
  refine lv_if_ne (tgt := 20) hx hb d_TT_ticks_7 (by decide) (fun h9 => absurd (by decide) h9) (fun _ => ?_)
  obtain ⟨sa, hsa⟩ := hV.2.2.2.2.1.2.2.2.1
  exact tw_throwNew hx hb hl9 hown (by decide) (by decide) (ht _ tb_278) (ht _ tb_9) hsa (at_IA ht hV) hS.1 (by rw [hml]; exact hl.1) d_TT_ticks_10 d_TT_ticks_13 d_TT_ticks_14 d_TT_ticks_16 d_TT_ticks_19 (tw_noH hno _) (Nat.le_of_ble_eq_true rfl) (Nat.le_of_ble_eq_true rfl) (Nat.le_of_ble_eq_true rfl) (Nat.le_of_ble_eq_true rfl) hlocks
set_option maxHeartbeats 8000000 in
set_option maxRecDepth 100000 in
theorem k_TT_cut_th (l : Launch) (dC : Nat → ClassId) (dI : Nat → Nat → Nat) (cd : Nat → Nat) (kI kQ : ClassId) (L : List Nat) (isA : Nat → Bool) (bk : Nat → Nat) (sc : Nat → Int32) (ia : Nat → Nat → Int32) (qa : Nat → Nat → Option Nat) (rf ba : Nat → Nat → Int32) (sz Bd : Nat) (hl9 : l.stackTraces = false) (N : Nat) (hC : CI N L isA bk sc qa rf) (x : Int32) (h : ¬ ((sc 1).toInt ≤ x.toInt ∧ x.toInt ≤ (sc 1 + 1000).toInt)) : tw_Met l y_TT_cut w_TT_cut ({ frames := 6, cells := 1, slots := 6, locals := 90 }) (frP (dC, dI) (CW cd kI kQ L isA bk sc ia qa rf ba) (CT kI kQ) sz Bd [.ref (cd 0), .int x]) "java/lang/IllegalArgumentException" 1 6 := by
  refine tw_ofW (cc := c_TT_cut) (maxL := 5) (ret := (some .int)) (by decide) rfl ?_
  intro p e s m args below meth c s₁ B hml hno hv
  obtain ⟨rfl, ⟨hsz, hBs⟩, hP, hK, hD0, hV⟩ := hv
  have hx := B.exec
  have hb := B.bytes
  have hr := B.returns
  have ht : ∀ w ∈ tb_, w.before _ s = true := fun w h => atoms_spec (ws := w_TT_cut) B.pre w (List.mem_cons_of_mem _ h)
  have hown : s.vm.findClass R_TT = some m.cls := findClass_of_methodNamed B.named
  have hlocks := B.notSynchronized
  subst hsz
  have hD := hD0.self (sz := s.heap.size)
  have hAB : ∀ q, va_A (CW cd kI kQ L isA bk sc ia qa rf ba) s.heap.size q → Bd ≤ q := fr_AB hD0 hBs
  generalize hAe : va_A (CW cd kI kQ L isA bk sc ia qa rf ba) s.heap.size = A at hD hAB
  have hA : ∀ q : Nat, s.heap.size ≤ q → A q := fun q h => by rw [← hAe]; exact Or.inr h
  have hS : va_S A s.heap s.heap [] := va_S.rf
  have hs : same [] sc sc := same.rf
  have hP : va_P (dC, dI) cls_ (CW cd kI kQ L isA bk sc ia qa rf ba) s.heap := hP
  have hl := lv_entry ([.ref (cd 0), .int x]) (n := 5) (Nat.le_of_ble_eq_true rfl)
  rw [lg_entry_eq]
  generalize (lg_sl ([.ref (cd 0), .int x]) ++ List.replicate (5 - (lg_sl ([.ref (cd 0), .int x])).length) Slot.unset).toArray = ls at hl ⊢
  have hl : lv_has ls 5 [(0, .ref (cd 0)), (1, .int x)] := hl
  have hN := hC.1.1
  refine lv_aload_n hx hb d_TT_cut_0 rfl (lv_at hl 0 rfl) ?_
  refine lv_iload_n hx hb d_TT_cut_1 rfl (lv_at hl 1 rfl) ?_
  refine r_call (va_runV (C := R_TT) (As := [.int x]) (rest := []) ⟨hx, hb, hml, hown, ht⟩ (k_TT_isAhead l dC dI cd kI kQ L isA bk sc ia qa rf ba N hC x) (cwV 1 ht (gV tb_274 tb_276 ts_17 tb_1 tb_277) rfl rfl rfl (by decide +kernel) ⟨Nat.le_of_ble_eq_true rfl, Nat.le_of_ble_eq_true rfl⟩) ⟨rdP_blind, va_recv (q := (R_TT, F_TT, 8)) hK hP rfl (show (CW cd kI kQ L isA bk sc ia qa rf ba : va_W)[0]? = some _ from rfl), rd_pre hP hK⟩ rfl rfl hl.1 rfl (lv_room (Nat.le_of_ble_eq_true rfl)) d_TT_cut_2 ⟨Nat.le_of_ble_eq_true rfl, Nat.le_of_ble_eq_true rfl⟩) (fun r1 hu => ?_)
  have hu1_0 := hu
  have hu1_0 : (((sc 1).toInt ≤ x.toInt ∧ x.toInt ≤ (sc 1 + 1000).toInt) ∧ r1 = 1 ∨ ¬ ((sc 1).toInt ≤ x.toInt ∧ x.toInt ≤ (sc 1 + 1000).toInt) ∧ r1 = 0) := hu1_0
  refine W.eq (g2 := F0 m 5 ls [.int r1]) rfl ?_
  obtain rfl : r1 = 0 := by rcases hu1_0 with ⟨q, _⟩ | ⟨_, q⟩; { exact absurd q h }; { exact q }
  refine lv_if_ne (tgt := 18) hx hb d_TT_cut_5 (by decide) (fun h9 => absurd (by decide) h9) (fun _ => ?_)
  obtain ⟨sa, hsa⟩ := hV.2.2.2.2.1.2.2.2.2.1
  exact tw_throwNew hx hb hl9 hown (by decide) (by decide) (ht _ tb_278) (ht _ tb_9) hsa (at_IA ht hV) hS.1 (by rw [hml]; exact hl.1) d_TT_cut_8 d_TT_cut_11 d_TT_cut_12 d_TT_cut_14 d_TT_cut_17 (tw_noH hno _) (Nat.le_of_ble_eq_true rfl) (Nat.le_of_ble_eq_true rfl) (Nat.le_of_ble_eq_true rfl) (Nat.le_of_ble_eq_true rfl) hlocks
set_option maxHeartbeats 8000000 in
set_option maxRecDepth 100000 in
theorem k_TT_cancel_ts (l : Launch) (dC : Nat → ClassId) (dI : Nat → Nat → Nat) (cd : Nat → Nat) (kI kQ : ClassId) (L : List Nat) (isA : Nat → Bool) (bk : Nat → Nat) (sc : Nat → Int32) (ia : Nat → Nat → Int32) (qa : Nat → Nat → Option Nat) (rf ba : Nat → Nat → Int32) (sz Bd : Nat) (hl9 : l.stackTraces = false) (N : Nat) (hC : CI N L isA bk sc qa rf) (j : Nat) (hj : j < N) (a : Nat) (ea : qa 0 j = some a) (ha : a ∈ L) (hn : isA a = false) (hp : ¬ (rf a 8 = 0 ∨ rf a 8 = 1)) : tw_Met l y_TT_cancel w_TT_cancel ({ frames := 6, cells := 1, slots := 6, locals := 90 }) (frP (dC, dI) (CW cd kI kQ L isA bk sc ia qa rf ba) (CT kI kQ) sz Bd [.ref (cd 0), .int (nI j)]) "java/lang/IllegalStateException" 1 6 := by
  refine tw_ofW (cc := c_TT_cancel) (maxL := 3) (ret := none) (by decide) rfl ?_
  intro p e s m args below meth c s₁ B hml hno hv
  obtain ⟨rfl, ⟨hsz, hBs⟩, hP, hK, hD0, hV⟩ := hv
  have hx := B.exec
  have hb := B.bytes
  have hr := B.returns
  have ht : ∀ w ∈ tb_, w.before _ s = true := fun w h => atoms_spec (ws := w_TT_cancel) B.pre w (List.mem_cons_of_mem _ h)
  have hown : s.vm.findClass R_TT = some m.cls := findClass_of_methodNamed B.named
  have hlocks := B.notSynchronized
  subst hsz
  have hD := hD0.self (sz := s.heap.size)
  have hAB : ∀ q, va_A (CW cd kI kQ L isA bk sc ia qa rf ba) s.heap.size q → Bd ≤ q := fr_AB hD0 hBs
  generalize hAe : va_A (CW cd kI kQ L isA bk sc ia qa rf ba) s.heap.size = A at hD hAB
  have hA : ∀ q : Nat, s.heap.size ≤ q → A q := fun q h => by rw [← hAe]; exact Or.inr h
  have hS : va_S A s.heap s.heap [] := va_S.rf
  have hs : same [] sc sc := same.rf
  have hP : va_P (dC, dI) cls_ (CW cd kI kQ L isA bk sc ia qa rf ba) s.heap := hP
  have hl := lv_entry ([.ref (cd 0), .int (nI j)]) (n := 3) (Nat.le_of_ble_eq_true rfl)
  rw [lg_entry_eq]
  generalize (lg_sl ([.ref (cd 0), .int (nI j)]) ++ List.replicate (3 - (lg_sl ([.ref (cd 0), .int (nI j)])).length) Slot.unset).toArray = ls at hl ⊢
  have hl : lv_has ls 3 [(0, .ref (cd 0)), (1, .int (nI j))] := hl
  have hN := hC.1.1
  refine lv_aload_n hx hb d_TT_cancel_0 rfl (lv_at hl 0 rfl) ?_
  refine lv_iload_n hx hb d_TT_cancel_1 rfl (lv_at hl 1 rfl) ?_
  refine r_call (va_runV (C := R_TT) (As := [.int (nI j)]) (rest := []) ⟨hx, hb, hml, hown, ht⟩ (k_TT_numbered_ok l dC dI cd kI kQ L isA bk sc ia qa rf ba N hC j hj a ea ha hn) (cwV 1 ht (gV tb_456 tb_458 ts_20 tb_1 tb_459) rfl rfl rfl (by decide +kernel) ⟨Nat.le_of_ble_eq_true rfl, Nat.le_of_ble_eq_true rfl⟩) ⟨rdP_blind, va_recv (q := (R_TT, F_TT, 8)) hK hP rfl (show (CW cd kI kQ L isA bk sc ia qa rf ba : va_W)[0]? = some _ from rfl), rd_pre hP hK⟩ rfl rfl hl.1 rfl (lv_room (Nat.le_of_ble_eq_true rfl)) d_TT_cancel_2 ⟨Nat.le_of_ble_eq_true rfl, Nat.le_of_ble_eq_true rfl⟩) (fun r1 hu => ?_)
  have hu1_0 := hu
  have hu1_0 : a = r1 := hu1_0
  refine W.eq (g2 := F0 m 5 ls [.ref r1]) rfl ?_
  subst hu1_0
  refine lv_astore_n hx hb d_TT_cancel_5 rfl hl (by decide) rfl (fun ls hl => ?_)
  have hl : lv_has ls 3 [(2, .ref a), (0, .ref (cd 0)), (1, .int (nI j))] := hl
  refine lv_aload_n hx hb d_TT_cancel_6 rfl (lv_at hl 0 rfl) ?_
  obtain ⟨kq, hkq⟩ := pq_at (X := CX cd kI kQ sc ia qa) (kI := kI) (bk := bk) (rf := rf) (ba := ba) ha hn
  refine r_call (va_runV (C := R_RQ) (As := []) (rest := []) ⟨hx, hb, hml, hown, ht⟩ (k_RQ_isOpen_x l dC dI cd kI kQ L isA bk sc ia qa rf ba N hC a ha hn) (cwV 0 ht (gV tb_350 tb_113 tb_114 tb_11 tb_115) rfl rfl rfl (by decide +kernel) ⟨Nat.le_of_ble_eq_true rfl, Nat.le_of_ble_eq_true rfl⟩) ⟨rdP_blind, va_recv (q := (R_RQ, F_RQ, 17)) hK hP rfl hkq, rd_pre hP hK⟩ rfl rfl hl.1 rfl (lv_room (Nat.le_of_ble_eq_true rfl)) d_TT_cancel_7 ⟨Nat.le_of_ble_eq_true rfl, Nat.le_of_ble_eq_true rfl⟩) (fun r2 hu => ?_)
  have hu2_0 := hu
  have hu2_0 : ((rf a 8 = 0 ∨ rf a 8 = 1) ∧ r2 = 1 ∨ ¬ (rf a 8 = 0 ∨ rf a 8 = 1) ∧ r2 = 0) := hu2_0
  refine W.eq (g2 := F0 m 10 ls [.int r2]) rfl ?_
  obtain rfl : r2 = 0 := by rcases hu2_0 with ⟨q, _⟩ | ⟨_, q⟩; { exact absurd q hp }; { exact q }
  refine lv_if_ne (tgt := 23) hx hb d_TT_cancel_10 (by decide) (fun h9 => absurd (by decide) h9) (fun _ => ?_)
  obtain ⟨sa, hsa⟩ := hV.2.2.2.2.1.2.2.2.2.2.2.1
  exact tw_throwNew hx hb hl9 hown (by decide) (by decide) (ht _ tb_351) (ht _ tb_10) hsa (at_IS ht hV) hS.1 (by rw [hml]; exact hl.1) d_TT_cancel_13 d_TT_cancel_16 d_TT_cancel_17 d_TT_cancel_19 d_TT_cancel_22 (tw_noH hno _) (Nat.le_of_ble_eq_true rfl) (Nat.le_of_ble_eq_true rfl) (Nat.le_of_ble_eq_true rfl) (Nat.le_of_ble_eq_true rfl) hlocks
set_option maxHeartbeats 8000000 in
set_option maxRecDepth 100000 in
theorem k_TT_recordingNumbered_ts (l : Launch) (dC : Nat → ClassId) (dI : Nat → Nat → Nat) (cd : Nat → Nat) (kI kQ : ClassId) (L : List Nat) (isA : Nat → Bool) (bk : Nat → Nat) (sc : Nat → Int32) (ia : Nat → Nat → Int32) (qa : Nat → Nat → Option Nat) (rf ba : Nat → Nat → Int32) (sz Bd : Nat) (hl9 : l.stackTraces = false) (N : Nat) (hC : CI N L isA bk sc qa rf) (j : Nat) (hj : j < N) (a : Nat) (ea : qa 0 j = some a) (ha : a ∈ L) (hn : isA a = false) (hp : ¬ (rf a 8 = 1 ∨ rf a 8 = 2)) : tw_Met l y_TT_recordingNumbered w_TT_recordingNumbered ({ frames := 6, cells := 1, slots := 6, locals := 90 }) (frP (dC, dI) (CW cd kI kQ L isA bk sc ia qa rf ba) (CT kI kQ) sz Bd [.ref (cd 0), .int (nI j)]) "java/lang/IllegalStateException" 1 6 := by
  refine tw_ofW (cc := c_TT_recordingNumbered) (maxL := 3) (ret := (some (.object "TwinTuners$Request"))) (by decide) rfl ?_
  intro p e s m args below meth c s₁ B hml hno hv
  obtain ⟨rfl, ⟨hsz, hBs⟩, hP, hK, hD0, hV⟩ := hv
  have hx := B.exec
  have hb := B.bytes
  have hr := B.returns
  have ht : ∀ w ∈ tb_, w.before _ s = true := fun w h => atoms_spec (ws := w_TT_recordingNumbered) B.pre w (List.mem_cons_of_mem _ h)
  have hown : s.vm.findClass R_TT = some m.cls := findClass_of_methodNamed B.named
  have hlocks := B.notSynchronized
  subst hsz
  have hD := hD0.self (sz := s.heap.size)
  have hAB : ∀ q, va_A (CW cd kI kQ L isA bk sc ia qa rf ba) s.heap.size q → Bd ≤ q := fr_AB hD0 hBs
  generalize hAe : va_A (CW cd kI kQ L isA bk sc ia qa rf ba) s.heap.size = A at hD hAB
  have hA : ∀ q : Nat, s.heap.size ≤ q → A q := fun q h => by rw [← hAe]; exact Or.inr h
  have hS : va_S A s.heap s.heap [] := va_S.rf
  have hs : same [] sc sc := same.rf
  have hP : va_P (dC, dI) cls_ (CW cd kI kQ L isA bk sc ia qa rf ba) s.heap := hP
  have hl := lv_entry ([.ref (cd 0), .int (nI j)]) (n := 3) (Nat.le_of_ble_eq_true rfl)
  rw [lg_entry_eq]
  generalize (lg_sl ([.ref (cd 0), .int (nI j)]) ++ List.replicate (3 - (lg_sl ([.ref (cd 0), .int (nI j)])).length) Slot.unset).toArray = ls at hl ⊢
  have hl : lv_has ls 3 [(0, .ref (cd 0)), (1, .int (nI j))] := hl
  have hN := hC.1.1
  refine lv_aload_n hx hb d_TT_recordingNumbered_0 rfl (lv_at hl 0 rfl) ?_
  refine lv_iload_n hx hb d_TT_recordingNumbered_1 rfl (lv_at hl 1 rfl) ?_
  refine r_call (va_runV (C := R_TT) (As := [.int (nI j)]) (rest := []) ⟨hx, hb, hml, hown, ht⟩ (k_TT_numbered_ok l dC dI cd kI kQ L isA bk sc ia qa rf ba N hC j hj a ea ha hn) (cwV 1 ht (gV tb_456 tb_458 ts_20 tb_1 tb_459) rfl rfl rfl (by decide +kernel) ⟨Nat.le_of_ble_eq_true rfl, Nat.le_of_ble_eq_true rfl⟩) ⟨rdP_blind, va_recv (q := (R_TT, F_TT, 8)) hK hP rfl (show (CW cd kI kQ L isA bk sc ia qa rf ba : va_W)[0]? = some _ from rfl), rd_pre hP hK⟩ rfl rfl hl.1 rfl (lv_room (Nat.le_of_ble_eq_true rfl)) d_TT_recordingNumbered_2 ⟨Nat.le_of_ble_eq_true rfl, Nat.le_of_ble_eq_true rfl⟩) (fun r1 hu => ?_)
  have hu1_0 := hu
  have hu1_0 : a = r1 := hu1_0
  refine W.eq (g2 := F0 m 5 ls [.ref r1]) rfl ?_
  subst hu1_0
  refine lv_astore_n hx hb d_TT_recordingNumbered_5 rfl hl (by decide) rfl (fun ls hl => ?_)
  have hl : lv_has ls 3 [(2, .ref a), (0, .ref (cd 0)), (1, .int (nI j))] := hl
  refine lv_aload_n hx hb d_TT_recordingNumbered_6 rfl (lv_at hl 0 rfl) ?_
  obtain ⟨kq, hkq⟩ := pq_at (X := CX cd kI kQ sc ia qa) (kI := kI) (bk := bk) (rf := rf) (ba := ba) ha hn
  refine r_call (va_runV (C := R_RQ) (As := []) (rest := []) ⟨hx, hb, hml, hown, ht⟩ (k_RQ_isRecording_x l dC dI cd kI kQ L isA bk sc ia qa rf ba N hC a ha hn) (cwV 0 ht (gV tb_570 tb_571 tb_572 tb_11 tb_573) rfl rfl rfl (by decide +kernel) ⟨Nat.le_of_ble_eq_true rfl, Nat.le_of_ble_eq_true rfl⟩) ⟨rdP_blind, va_recv (q := (R_RQ, F_RQ, 17)) hK hP rfl hkq, rd_pre hP hK⟩ rfl rfl hl.1 rfl (lv_room (Nat.le_of_ble_eq_true rfl)) d_TT_recordingNumbered_7 ⟨Nat.le_of_ble_eq_true rfl, Nat.le_of_ble_eq_true rfl⟩) (fun r2 hu => ?_)
  have hu2_0 := hu
  have hu2_0 : ((rf a 8 = 1 ∨ rf a 8 = 2) ∧ r2 = 1 ∨ ¬ (rf a 8 = 1 ∨ rf a 8 = 2) ∧ r2 = 0) := hu2_0
  refine W.eq (g2 := F0 m 10 ls [.int r2]) rfl ?_
  obtain rfl : r2 = 0 := by rcases hu2_0 with ⟨q, _⟩ | ⟨_, q⟩; { exact absurd q hp }; { exact q }
  refine lv_if_ne (tgt := 23) hx hb d_TT_recordingNumbered_10 (by decide) (fun h9 => absurd (by decide) h9) (fun _ => ?_)
  obtain ⟨sa, hsa⟩ := hV.2.2.2.2.1.2.2.2.2.2.2.2.1
  exact tw_throwNew hx hb hl9 hown (by decide) (by decide) (ht _ tb_351) (ht _ tb_10) hsa (at_IS ht hV) hS.1 (by rw [hml]; exact hl.1) d_TT_recordingNumbered_13 d_TT_recordingNumbered_16 d_TT_recordingNumbered_17 d_TT_recordingNumbered_19 d_TT_recordingNumbered_22 (tw_noH hno _) (Nat.le_of_ble_eq_true rfl) (Nat.le_of_ble_eq_true rfl) (Nat.le_of_ble_eq_true rfl) (Nat.le_of_ble_eq_true rfl) hlocks
set_option maxHeartbeats 8000000 in
set_option maxRecDepth 100000 in
theorem k_TT_protect_ts (l : Launch) (dC : Nat → ClassId) (dI : Nat → Nat → Nat) (cd : Nat → Nat) (kI kQ : ClassId) (L : List Nat) (isA : Nat → Bool) (bk : Nat → Nat) (sc : Nat → Int32) (ia : Nat → Nat → Int32) (qa : Nat → Nat → Option Nat) (rf ba : Nat → Nat → Int32) (sz Bd : Nat) (hl9 : l.stackTraces = false) (N : Nat) (hC : CI N L isA bk sc qa rf) (j : Nat) (hj : j < N) (a : Nat) (ea : qa 0 j = some a) (ha : a ∈ L) (hn : isA a = false) (y : Int32) (hp : ¬ (rf a 8 = 1 ∨ rf a 8 = 2)) : tw_Met l y_TT_protect w_TT_protect ({ frames := 7, cells := 1, slots := 6, locals := 112 }) (frP (dC, dI) (CW cd kI kQ L isA bk sc ia qa rf ba) (CT kI kQ) sz Bd [.ref (cd 0), .int (nI j), .int y]) "java/lang/IllegalStateException" 1 6 := by
  refine tw_ofW (cc := c_TT_protect) (maxL := 3) (ret := none) (by decide) rfl ?_
  intro p e s m args below meth c s₁ B hml hno hv
  obtain ⟨rfl, ⟨hsz, hBs⟩, hP, hK, hD0, hV⟩ := hv
  have hx := B.exec
  have hb := B.bytes
  have hr := B.returns
  have ht : ∀ w ∈ tb_, w.before _ s = true := fun w h => atoms_spec (ws := w_TT_protect) B.pre w (List.mem_cons_of_mem _ h)
  have hown : s.vm.findClass R_TT = some m.cls := findClass_of_methodNamed B.named
  have hlocks := B.notSynchronized
  subst hsz
  have hD := hD0.self (sz := s.heap.size)
  have hAB : ∀ q, va_A (CW cd kI kQ L isA bk sc ia qa rf ba) s.heap.size q → Bd ≤ q := fr_AB hD0 hBs
  generalize hAe : va_A (CW cd kI kQ L isA bk sc ia qa rf ba) s.heap.size = A at hD hAB
  have hA : ∀ q : Nat, s.heap.size ≤ q → A q := fun q h => by rw [← hAe]; exact Or.inr h
  have hS : va_S A s.heap s.heap [] := va_S.rf
  have hs : same [] sc sc := same.rf
  have hP : va_P (dC, dI) cls_ (CW cd kI kQ L isA bk sc ia qa rf ba) s.heap := hP
  have hl := lv_entry ([.ref (cd 0), .int (nI j), .int y]) (n := 3) (Nat.le_of_ble_eq_true rfl)
  rw [lg_entry_eq]
  generalize (lg_sl ([.ref (cd 0), .int (nI j), .int y]) ++ List.replicate (3 - (lg_sl ([.ref (cd 0), .int (nI j), .int y])).length) Slot.unset).toArray = ls at hl ⊢
  have hl : lv_has ls 3 [(0, .ref (cd 0)), (1, .int (nI j)), (2, .int y)] := hl
  have hN := hC.1.1
  refine lv_aload_n hx hb d_TT_protect_0 rfl (lv_at hl 0 rfl) ?_
  refine lv_iload_n hx hb d_TT_protect_1 rfl (lv_at hl 1 rfl) ?_
  refine tw_runV (C := R_TT) (As := [.int (nI j)]) (rest := []) ⟨hx, hb, hml, hown, ht⟩ (k_TT_recordingNumbered_ts l dC dI cd kI kQ L isA bk sc ia qa rf ba s.heap.size Bd hl9 N hC j hj a ea ha hn hp) (cwV 1 ht (gV tb_566 tb_568 ts_21 tb_1 tb_569) rfl rfl rfl (by decide +kernel) ⟨Nat.le_of_ble_eq_true rfl, Nat.le_of_ble_eq_true rfl⟩) ⟨frP_blind, va_recv (q := (R_TT, F_TT, 8)) hK hP rfl (show (CW cd kI kQ L isA bk sc ia qa rf ba : va_W)[0]? = some _ from rfl), fr_pre hP hK hD hAB hBs hS hV⟩ rfl hl.1 rfl (Nat.le_of_ble_eq_true rfl) d_TT_protect_2 ⟨Nat.le_of_ble_eq_true rfl, Nat.le_of_ble_eq_true rfl⟩ (fun xa cellx H1 hx1 hx2 hx3 hx4 hx5 hx6 => ?_)
  exact tw_leave (tw_noH hno _) hlocks (Nat.le_trans hS.1 hx1) hx2 hx3 hx4
set_option maxHeartbeats 8000000 in
set_option maxRecDepth 100000 in
theorem k_TT_seen_ts (l : Launch) (dC : Nat → ClassId) (dI : Nat → Nat → Nat) (cd : Nat → Nat) (kI kQ : ClassId) (L : List Nat) (isA : Nat → Bool) (bk : Nat → Nat) (sc : Nat → Int32) (ia : Nat → Nat → Int32) (qa : Nat → Nat → Option Nat) (rf ba : Nat → Nat → Int32) (sz Bd : Nat) (hl9 : l.stackTraces = false) (N : Nat) (hC : CI N L isA bk sc qa rf) (j : Nat) (hj : j < N) (a : Nat) (ea : qa 0 j = some a) (ha : a ∈ L) (hn : isA a = false) (y : Int32) (hp : ¬ (rf a 8 = 1 ∨ rf a 8 = 2)) : tw_Met l y_TT_seen w_TT_seen ({ frames := 7, cells := 1, slots := 6, locals := 112 }) (frP (dC, dI) (CW cd kI kQ L isA bk sc ia qa rf ba) (CT kI kQ) sz Bd [.ref (cd 0), .int (nI j), .int y]) "java/lang/IllegalStateException" 1 6 := by
  refine tw_ofW (cc := c_TT_seen) (maxL := 3) (ret := none) (by decide) rfl ?_
  intro p e s m args below meth c s₁ B hml hno hv
  obtain ⟨rfl, ⟨hsz, hBs⟩, hP, hK, hD0, hV⟩ := hv
  have hx := B.exec
  have hb := B.bytes
  have hr := B.returns
  have ht : ∀ w ∈ tb_, w.before _ s = true := fun w h => atoms_spec (ws := w_TT_seen) B.pre w (List.mem_cons_of_mem _ h)
  have hown : s.vm.findClass R_TT = some m.cls := findClass_of_methodNamed B.named
  have hlocks := B.notSynchronized
  subst hsz
  have hD := hD0.self (sz := s.heap.size)
  have hAB : ∀ q, va_A (CW cd kI kQ L isA bk sc ia qa rf ba) s.heap.size q → Bd ≤ q := fr_AB hD0 hBs
  generalize hAe : va_A (CW cd kI kQ L isA bk sc ia qa rf ba) s.heap.size = A at hD hAB
  have hA : ∀ q : Nat, s.heap.size ≤ q → A q := fun q h => by rw [← hAe]; exact Or.inr h
  have hS : va_S A s.heap s.heap [] := va_S.rf
  have hs : same [] sc sc := same.rf
  have hP : va_P (dC, dI) cls_ (CW cd kI kQ L isA bk sc ia qa rf ba) s.heap := hP
  have hl := lv_entry ([.ref (cd 0), .int (nI j), .int y]) (n := 3) (Nat.le_of_ble_eq_true rfl)
  rw [lg_entry_eq]
  generalize (lg_sl ([.ref (cd 0), .int (nI j), .int y]) ++ List.replicate (3 - (lg_sl ([.ref (cd 0), .int (nI j), .int y])).length) Slot.unset).toArray = ls at hl ⊢
  have hl : lv_has ls 3 [(0, .ref (cd 0)), (1, .int (nI j)), (2, .int y)] := hl
  have hN := hC.1.1
  refine lv_aload_n hx hb d_TT_seen_0 rfl (lv_at hl 0 rfl) ?_
  refine lv_iload_n hx hb d_TT_seen_1 rfl (lv_at hl 1 rfl) ?_
  refine tw_runV (C := R_TT) (As := [.int (nI j)]) (rest := []) ⟨hx, hb, hml, hown, ht⟩ (k_TT_recordingNumbered_ts l dC dI cd kI kQ L isA bk sc ia qa rf ba s.heap.size Bd hl9 N hC j hj a ea ha hn hp) (cwV 1 ht (gV tb_566 tb_568 ts_21 tb_1 tb_569) rfl rfl rfl (by decide +kernel) ⟨Nat.le_of_ble_eq_true rfl, Nat.le_of_ble_eq_true rfl⟩) ⟨frP_blind, va_recv (q := (R_TT, F_TT, 8)) hK hP rfl (show (CW cd kI kQ L isA bk sc ia qa rf ba : va_W)[0]? = some _ from rfl), fr_pre hP hK hD hAB hBs hS hV⟩ rfl hl.1 rfl (Nat.le_of_ble_eq_true rfl) d_TT_seen_2 ⟨Nat.le_of_ble_eq_true rfl, Nat.le_of_ble_eq_true rfl⟩ (fun xa cellx H1 hx1 hx2 hx3 hx4 hx5 hx6 => ?_)
  exact tw_leave (tw_noH hno _) hlocks (Nat.le_trans hS.1 hx1) hx2 hx3 hx4
set_option maxHeartbeats 8000000 in
set_option maxRecDepth 100000 in
theorem k_TT_erase_ts (l : Launch) (dC : Nat → ClassId) (dI : Nat → Nat → Nat) (cd : Nat → Nat) (kI kQ : ClassId) (L : List Nat) (isA : Nat → Bool) (bk : Nat → Nat) (sc : Nat → Int32) (ia : Nat → Nat → Int32) (qa : Nat → Nat → Option Nat) (rf ba : Nat → Nat → Int32) (sz Bd : Nat) (hl9 : l.stackTraces = false) (N : Nat) (hC : CI N L isA bk sc qa rf) (j : Nat) (hj : j < N) (a : Nat) (ea : qa 0 j = some a) (ha : a ∈ L) (hn : isA a = false) (hp : ¬ rf a 8 = 2) : tw_Met l y_TT_erase w_TT_erase ({ frames := 6, cells := 1, slots := 6, locals := 90 }) (frP (dC, dI) (CW cd kI kQ L isA bk sc ia qa rf ba) (CT kI kQ) sz Bd [.ref (cd 0), .int (nI j)]) "java/lang/IllegalStateException" 1 6 := by
  refine tw_ofW (cc := c_TT_erase) (maxL := 3) (ret := (some .int)) (by decide) rfl ?_
  intro p e s m args below meth c s₁ B hml hno hv
  obtain ⟨rfl, ⟨hsz, hBs⟩, hP, hK, hD0, hV⟩ := hv
  have hx := B.exec
  have hb := B.bytes
  have hr := B.returns
  have ht : ∀ w ∈ tb_, w.before _ s = true := fun w h => atoms_spec (ws := w_TT_erase) B.pre w (List.mem_cons_of_mem _ h)
  have hown : s.vm.findClass R_TT = some m.cls := findClass_of_methodNamed B.named
  have hlocks := B.notSynchronized
  subst hsz
  have hD := hD0.self (sz := s.heap.size)
  have hAB : ∀ q, va_A (CW cd kI kQ L isA bk sc ia qa rf ba) s.heap.size q → Bd ≤ q := fr_AB hD0 hBs
  generalize hAe : va_A (CW cd kI kQ L isA bk sc ia qa rf ba) s.heap.size = A at hD hAB
  have hA : ∀ q : Nat, s.heap.size ≤ q → A q := fun q h => by rw [← hAe]; exact Or.inr h
  have hS : va_S A s.heap s.heap [] := va_S.rf
  have hs : same [] sc sc := same.rf
  have hP : va_P (dC, dI) cls_ (CW cd kI kQ L isA bk sc ia qa rf ba) s.heap := hP
  have hl := lv_entry ([.ref (cd 0), .int (nI j)]) (n := 3) (Nat.le_of_ble_eq_true rfl)
  rw [lg_entry_eq]
  generalize (lg_sl ([.ref (cd 0), .int (nI j)]) ++ List.replicate (3 - (lg_sl ([.ref (cd 0), .int (nI j)])).length) Slot.unset).toArray = ls at hl ⊢
  have hl : lv_has ls 3 [(0, .ref (cd 0)), (1, .int (nI j))] := hl
  have hN := hC.1.1
  refine lv_aload_n hx hb d_TT_erase_0 rfl (lv_at hl 0 rfl) ?_
  refine lv_iload_n hx hb d_TT_erase_1 rfl (lv_at hl 1 rfl) ?_
  refine r_call (va_runV (C := R_TT) (As := [.int (nI j)]) (rest := []) ⟨hx, hb, hml, hown, ht⟩ (k_TT_numbered_ok l dC dI cd kI kQ L isA bk sc ia qa rf ba N hC j hj a ea ha hn) (cwV 1 ht (gV tb_456 tb_458 ts_20 tb_1 tb_459) rfl rfl rfl (by decide +kernel) ⟨Nat.le_of_ble_eq_true rfl, Nat.le_of_ble_eq_true rfl⟩) ⟨rdP_blind, va_recv (q := (R_TT, F_TT, 8)) hK hP rfl (show (CW cd kI kQ L isA bk sc ia qa rf ba : va_W)[0]? = some _ from rfl), rd_pre hP hK⟩ rfl rfl hl.1 rfl (lv_room (Nat.le_of_ble_eq_true rfl)) d_TT_erase_2 ⟨Nat.le_of_ble_eq_true rfl, Nat.le_of_ble_eq_true rfl⟩) (fun r1 hu => ?_)
  have hu1_0 := hu
  have hu1_0 : a = r1 := hu1_0
  refine W.eq (g2 := F0 m 5 ls [.ref r1]) rfl ?_
  subst hu1_0
  refine lv_astore_n hx hb d_TT_erase_5 rfl hl (by decide) rfl (fun ls hl => ?_)
  have hl : lv_has ls 3 [(2, .ref a), (0, .ref (cd 0)), (1, .int (nI j))] := hl
  refine lv_aload_n hx hb d_TT_erase_6 rfl (lv_at hl 0 rfl) ?_
  obtain ⟨kq, hkq⟩ := pq_at (X := CX cd kI kQ sc ia qa) (kI := kI) (bk := bk) (rf := rf) (ba := ba) ha hn
  refine va_get (D := (dC, dI)) (ci := 4) (v := .int (rf a 8)) (C := R_RQ) (T := F_RQ) (N := 17) hx hb ht in_RQ hown hK hP kq hkq rfl 8 (by decide) (ht _ tb_392) (fun _ h9 => h9) rfl d_TT_erase_7 ?_
  refine lv_iconst (v := 2) hx hb d_TT_erase_10 (by decide) ?_
  refine lv_icmp_eq (tgt := 24) hx hb d_TT_erase_11 (by decide) (fun h9 => absurd h9 (hp)) (fun _ => ?_)
  obtain ⟨sa, hsa⟩ := hV.2.2.2.2.1.2.2.2.2.2.2.2.2.1
  exact tw_throwNew hx hb hl9 hown (by decide) (by decide) (ht _ tb_351) (ht _ tb_10) hsa (at_IS ht hV) hS.1 (by rw [hml]; exact hl.1) d_TT_erase_14 d_TT_erase_17 d_TT_erase_18 d_TT_erase_20 d_TT_erase_23 (tw_noH hno _) (Nat.le_of_ble_eq_true rfl) (Nat.le_of_ble_eq_true rfl) (Nat.le_of_ble_eq_true rfl) (Nat.le_of_ble_eq_true rfl) hlocks
set_option maxHeartbeats 8000000 in
set_option maxRecDepth 100000 in
theorem k_TT_bookmark_ta (l : Launch) (dC : Nat → ClassId) (dI : Nat → Nat → Nat) (cd : Nat → Nat) (kI kQ : ClassId) (L : List Nat) (isA : Nat → Bool) (bk : Nat → Nat) (sc : Nat → Int32) (ia : Nat → Nat → Int32) (qa : Nat → Nat → Option Nat) (rf ba : Nat → Nat → Int32) (sz Bd : Nat) (hl9 : l.stackTraces = false) (N : Nat) (hC : CI N L isA bk sc qa rf) (j : Nat) (hj : j < N) (a : Nat) (ea : qa 0 j = some a) (ha : a ∈ L) (hn : isA a = false) (y : Int32) (h : ¬ (0 ≤ y.toInt ∧ y.toInt ≤ 99)) : tw_Met l y_TT_bookmark w_TT_bookmark ({ frames := 6, cells := 1, slots := 6, locals := 90 }) (frP (dC, dI) (CW cd kI kQ L isA bk sc ia qa rf ba) (CT kI kQ) sz Bd [.ref (cd 0), .int (nI j), .int y]) "java/lang/IllegalArgumentException" 1 6 := by
  refine tw_ofW (cc := c_TT_bookmark) (maxL := 4) (ret := (some .int)) (by decide) rfl ?_
  intro p e s m args below meth c s₁ B hml hno hv
  obtain ⟨rfl, ⟨hsz, hBs⟩, hP, hK, hD0, hV⟩ := hv
  have hx := B.exec
  have hb := B.bytes
  have hr := B.returns
  have ht : ∀ w ∈ tb_, w.before _ s = true := fun w h => atoms_spec (ws := w_TT_bookmark) B.pre w (List.mem_cons_of_mem _ h)
  have hown : s.vm.findClass R_TT = some m.cls := findClass_of_methodNamed B.named
  have hlocks := B.notSynchronized
  subst hsz
  have hD := hD0.self (sz := s.heap.size)
  have hAB : ∀ q, va_A (CW cd kI kQ L isA bk sc ia qa rf ba) s.heap.size q → Bd ≤ q := fr_AB hD0 hBs
  generalize hAe : va_A (CW cd kI kQ L isA bk sc ia qa rf ba) s.heap.size = A at hD hAB
  have hA : ∀ q : Nat, s.heap.size ≤ q → A q := fun q h => by rw [← hAe]; exact Or.inr h
  have hS : va_S A s.heap s.heap [] := va_S.rf
  have hs : same [] sc sc := same.rf
  have hP : va_P (dC, dI) cls_ (CW cd kI kQ L isA bk sc ia qa rf ba) s.heap := hP
  have hl := lv_entry ([.ref (cd 0), .int (nI j), .int y]) (n := 4) (Nat.le_of_ble_eq_true rfl)
  rw [lg_entry_eq]
  generalize (lg_sl ([.ref (cd 0), .int (nI j), .int y]) ++ List.replicate (4 - (lg_sl ([.ref (cd 0), .int (nI j), .int y])).length) Slot.unset).toArray = ls at hl ⊢
  have hl : lv_has ls 4 [(0, .ref (cd 0)), (1, .int (nI j)), (2, .int y)] := hl
  have hN := hC.1.1
  refine lv_aload_n hx hb d_TT_bookmark_0 rfl (lv_at hl 0 rfl) ?_
  refine lv_iload_n hx hb d_TT_bookmark_1 rfl (lv_at hl 1 rfl) ?_
  refine r_call (va_runV (C := R_TT) (As := [.int (nI j)]) (rest := []) ⟨hx, hb, hml, hown, ht⟩ (k_TT_numbered_ok l dC dI cd kI kQ L isA bk sc ia qa rf ba N hC j hj a ea ha hn) (cwV 1 ht (gV tb_456 tb_458 ts_20 tb_1 tb_459) rfl rfl rfl (by decide +kernel) ⟨Nat.le_of_ble_eq_true rfl, Nat.le_of_ble_eq_true rfl⟩) ⟨rdP_blind, va_recv (q := (R_TT, F_TT, 8)) hK hP rfl (show (CW cd kI kQ L isA bk sc ia qa rf ba : va_W)[0]? = some _ from rfl), rd_pre hP hK⟩ rfl rfl hl.1 rfl (lv_room (Nat.le_of_ble_eq_true rfl)) d_TT_bookmark_2 ⟨Nat.le_of_ble_eq_true rfl, Nat.le_of_ble_eq_true rfl⟩) (fun r1 hu => ?_)
  have hu1_0 := hu
  have hu1_0 : a = r1 := hu1_0
  refine W.eq (g2 := F0 m 5 ls [.ref r1]) rfl ?_
  subst hu1_0
  refine lv_astore_n hx hb d_TT_bookmark_5 rfl hl (by decide) rfl (fun ls hl => ?_)
  have hl : lv_has ls 4 [(3, .ref a), (0, .ref (cd 0)), (1, .int (nI j)), (2, .int y)] := hl
  refine lv_iload_n hx hb d_TT_bookmark_6 rfl (lv_at hl 3 rfl) ?_
  refine lv_iconst (v := 0) hx hb d_TT_bookmark_7 (by decide) ?_
  refine lv_bipush (v := 99) hx hb d_TT_bookmark_8 (by decide) ?_
  refine r_call (va_runS (As := [.int y, .int 0, .int 99]) (rest := []) ⟨hx, hb, hml, hown, ht⟩ (k_TT_isWithin l dC dI y ((0 : Int32)) ((99 : Int32))) (va_cwS 3 ht (gS tb_273 tb_226 tb_1 tb_227) rfl rfl rfl (by decide +kernel) ⟨Nat.le_of_ble_eq_true rfl, Nat.le_of_ble_eq_true rfl⟩) ⟨rdP_blind, rd_pre (W0 := []) (tys := []) (fun k q h => by cases h) ⟨hK.1, fun k q h => by cases h⟩⟩ rfl rfl hl.1 rfl (lv_room (Nat.le_of_ble_eq_true rfl)) d_TT_bookmark_10 ⟨Nat.le_of_ble_eq_true rfl, Nat.le_of_ble_eq_true rfl⟩) (fun r2 hu => ?_)
  have hu2_0 := hu
  have hu2_0 : (((0 : Int32).toInt ≤ y.toInt ∧ y.toInt ≤ (99 : Int32).toInt) ∧ r2 = 1 ∨ ¬ ((0 : Int32).toInt ≤ y.toInt ∧ y.toInt ≤ (99 : Int32).toInt) ∧ r2 = 0) := hu2_0
  refine W.eq (g2 := F0 m 13 ls [.int r2]) rfl ?_
  obtain rfl : r2 = 0 := by rcases hu2_0 with ⟨q, _⟩ | ⟨_, q⟩; { exact absurd q (fun q => h (by rw [l_0, l_99] at q; exact q)) }; { exact q }
  refine lv_if_ne (tgt := 26) hx hb d_TT_bookmark_13 (by decide) (fun h9 => absurd (by decide) h9) (fun _ => ?_)
  obtain ⟨sa, hsa⟩ := hV.2.2.2.2.1.2.2.2.2.2.2.2.2.2.1
  exact tw_throwNew hx hb hl9 hown (by decide) (by decide) (ht _ tb_278) (ht _ tb_9) hsa (at_IA ht hV) hS.1 (by rw [hml]; exact hl.1) d_TT_bookmark_16 d_TT_bookmark_19 d_TT_bookmark_20 d_TT_bookmark_22 d_TT_bookmark_25 (tw_noH hno _) (Nat.le_of_ble_eq_true rfl) (Nat.le_of_ble_eq_true rfl) (Nat.le_of_ble_eq_true rfl) (Nat.le_of_ble_eq_true rfl) hlocks
set_option maxHeartbeats 8000000 in
set_option maxRecDepth 100000 in
theorem k_TT_bookmark_ts (l : Launch) (dC : Nat → ClassId) (dI : Nat → Nat → Nat) (cd : Nat → Nat) (kI kQ : ClassId) (L : List Nat) (isA : Nat → Bool) (bk : Nat → Nat) (sc : Nat → Int32) (ia : Nat → Nat → Int32) (qa : Nat → Nat → Option Nat) (rf ba : Nat → Nat → Int32) (sz Bd : Nat) (hl9 : l.stackTraces = false) (N : Nat) (hC : CI N L isA bk sc qa rf) (j : Nat) (hj : j < N) (a : Nat) (ea : qa 0 j = some a) (ha : a ∈ L) (hn : isA a = false) (y : Int32) (h : 0 ≤ y.toInt ∧ y.toInt ≤ 99) (hp : ¬ ((rf a 8 = 1 ∨ rf a 8 = 2) ∧ (rf a 14).toInt < 6)) : tw_Met l y_TT_bookmark w_TT_bookmark ({ frames := 6, cells := 1, slots := 6, locals := 90 }) (frP (dC, dI) (CW cd kI kQ L isA bk sc ia qa rf ba) (CT kI kQ) sz Bd [.ref (cd 0), .int (nI j), .int y]) "java/lang/IllegalStateException" 1 6 := by
  refine tw_ofW (cc := c_TT_bookmark) (maxL := 4) (ret := (some .int)) (by decide) rfl ?_
  intro p e s m args below meth c s₁ B hml hno hv
  obtain ⟨rfl, ⟨hsz, hBs⟩, hP, hK, hD0, hV⟩ := hv
  have hx := B.exec
  have hb := B.bytes
  have hr := B.returns
  have ht : ∀ w ∈ tb_, w.before _ s = true := fun w h => atoms_spec (ws := w_TT_bookmark) B.pre w (List.mem_cons_of_mem _ h)
  have hown : s.vm.findClass R_TT = some m.cls := findClass_of_methodNamed B.named
  have hlocks := B.notSynchronized
  subst hsz
  have hD := hD0.self (sz := s.heap.size)
  have hAB : ∀ q, va_A (CW cd kI kQ L isA bk sc ia qa rf ba) s.heap.size q → Bd ≤ q := fr_AB hD0 hBs
  generalize hAe : va_A (CW cd kI kQ L isA bk sc ia qa rf ba) s.heap.size = A at hD hAB
  have hA : ∀ q : Nat, s.heap.size ≤ q → A q := fun q h => by rw [← hAe]; exact Or.inr h
  have hS : va_S A s.heap s.heap [] := va_S.rf
  have hs : same [] sc sc := same.rf
  have hP : va_P (dC, dI) cls_ (CW cd kI kQ L isA bk sc ia qa rf ba) s.heap := hP
  have hl := lv_entry ([.ref (cd 0), .int (nI j), .int y]) (n := 4) (Nat.le_of_ble_eq_true rfl)
  rw [lg_entry_eq]
  generalize (lg_sl ([.ref (cd 0), .int (nI j), .int y]) ++ List.replicate (4 - (lg_sl ([.ref (cd 0), .int (nI j), .int y])).length) Slot.unset).toArray = ls at hl ⊢
  have hl : lv_has ls 4 [(0, .ref (cd 0)), (1, .int (nI j)), (2, .int y)] := hl
  have hN := hC.1.1
  refine lv_aload_n hx hb d_TT_bookmark_0 rfl (lv_at hl 0 rfl) ?_
  refine lv_iload_n hx hb d_TT_bookmark_1 rfl (lv_at hl 1 rfl) ?_
  refine r_call (va_runV (C := R_TT) (As := [.int (nI j)]) (rest := []) ⟨hx, hb, hml, hown, ht⟩ (k_TT_numbered_ok l dC dI cd kI kQ L isA bk sc ia qa rf ba N hC j hj a ea ha hn) (cwV 1 ht (gV tb_456 tb_458 ts_20 tb_1 tb_459) rfl rfl rfl (by decide +kernel) ⟨Nat.le_of_ble_eq_true rfl, Nat.le_of_ble_eq_true rfl⟩) ⟨rdP_blind, va_recv (q := (R_TT, F_TT, 8)) hK hP rfl (show (CW cd kI kQ L isA bk sc ia qa rf ba : va_W)[0]? = some _ from rfl), rd_pre hP hK⟩ rfl rfl hl.1 rfl (lv_room (Nat.le_of_ble_eq_true rfl)) d_TT_bookmark_2 ⟨Nat.le_of_ble_eq_true rfl, Nat.le_of_ble_eq_true rfl⟩) (fun r1 hu => ?_)
  have hu1_0 := hu
  have hu1_0 : a = r1 := hu1_0
  refine W.eq (g2 := F0 m 5 ls [.ref r1]) rfl ?_
  subst hu1_0
  refine lv_astore_n hx hb d_TT_bookmark_5 rfl hl (by decide) rfl (fun ls hl => ?_)
  have hl : lv_has ls 4 [(3, .ref a), (0, .ref (cd 0)), (1, .int (nI j)), (2, .int y)] := hl
  refine lv_iload_n hx hb d_TT_bookmark_6 rfl (lv_at hl 3 rfl) ?_
  refine lv_iconst (v := 0) hx hb d_TT_bookmark_7 (by decide) ?_
  refine lv_bipush (v := 99) hx hb d_TT_bookmark_8 (by decide) ?_
  refine r_call (va_runS (As := [.int y, .int 0, .int 99]) (rest := []) ⟨hx, hb, hml, hown, ht⟩ (k_TT_isWithin l dC dI y ((0 : Int32)) ((99 : Int32))) (va_cwS 3 ht (gS tb_273 tb_226 tb_1 tb_227) rfl rfl rfl (by decide +kernel) ⟨Nat.le_of_ble_eq_true rfl, Nat.le_of_ble_eq_true rfl⟩) ⟨rdP_blind, rd_pre (W0 := []) (tys := []) (fun k q h => by cases h) ⟨hK.1, fun k q h => by cases h⟩⟩ rfl rfl hl.1 rfl (lv_room (Nat.le_of_ble_eq_true rfl)) d_TT_bookmark_10 ⟨Nat.le_of_ble_eq_true rfl, Nat.le_of_ble_eq_true rfl⟩) (fun r2 hu => ?_)
  have hu2_0 := hu
  have hu2_0 : (((0 : Int32).toInt ≤ y.toInt ∧ y.toInt ≤ (99 : Int32).toInt) ∧ r2 = 1 ∨ ¬ ((0 : Int32).toInt ≤ y.toInt ∧ y.toInt ≤ (99 : Int32).toInt) ∧ r2 = 0) := hu2_0
  refine W.eq (g2 := F0 m 13 ls [.int r2]) rfl ?_
  obtain rfl : r2 = 1 := by rcases hu2_0 with ⟨_, q⟩ | ⟨q, _⟩; { exact q }; { exact absurd (show (0 : Int32).toInt ≤ y.toInt ∧ y.toInt ≤ (99 : Int32).toInt by rw [l_0, l_99]; exact h) q }
  refine lv_if_ne (tgt := 26) hx hb d_TT_bookmark_13 (by decide) (fun _ => ?_) (fun h9 => absurd h9 (by decide))
  refine lv_aload_n hx hb d_TT_bookmark_26 rfl (lv_at hl 0 rfl) ?_
  obtain ⟨kq, hkq⟩ := pq_at (X := CX cd kI kQ sc ia qa) (kI := kI) (bk := bk) (rf := rf) (ba := ba) ha hn
  refine r_call (va_runV (C := R_RQ) (As := []) (rest := []) ⟨hx, hb, hml, hown, ht⟩ (k_RQ_isRecording_x l dC dI cd kI kQ L isA bk sc ia qa rf ba N hC a ha hn) (cwV 0 ht (gV tb_570 tb_571 tb_572 tb_11 tb_573) rfl rfl rfl (by decide +kernel) ⟨Nat.le_of_ble_eq_true rfl, Nat.le_of_ble_eq_true rfl⟩) ⟨rdP_blind, va_recv (q := (R_RQ, F_RQ, 17)) hK hP rfl hkq, rd_pre hP hK⟩ rfl rfl hl.1 rfl (lv_room (Nat.le_of_ble_eq_true rfl)) d_TT_bookmark_27 ⟨Nat.le_of_ble_eq_true rfl, Nat.le_of_ble_eq_true rfl⟩) (fun r3 hu => ?_)
  have hu3_0 := hu
  have hu3_0 : ((rf a 8 = 1 ∨ rf a 8 = 2) ∧ r3 = 1 ∨ ¬ (rf a 8 = 1 ∨ rf a 8 = 2) ∧ r3 = 0) := hu3_0
  refine W.eq (g2 := F0 m 30 ls [.int r3]) rfl ?_
  rcases hu3_0 with ⟨hrc, rfl⟩ | ⟨hrc, rfl⟩
  · refine lv_if_eq (tgt := 42) hx hb d_TT_bookmark_30 (by decide) (fun h9 => absurd h9 (by decide)) (fun _ => ?_)
    refine lv_aload_n hx hb d_TT_bookmark_33 rfl (lv_at hl 0 rfl) ?_
    obtain ⟨kq, hkq⟩ := pq_at (X := CX cd kI kQ sc ia qa) (kI := kI) (bk := bk) (rf := rf) (ba := ba) ha hn
    refine va_get (D := (dC, dI)) (ci := 4) (v := .int (rf a 14)) (C := R_RQ) (T := F_RQ) (N := 17) hx hb ht in_RQ hown hK hP kq hkq rfl 14 (by decide) (ht _ tb_408) (fun _ h9 => h9) rfl d_TT_bookmark_34 ?_
    refine lv_bipush (v := 6) hx hb d_TT_bookmark_37 (by decide) ?_
    refine lv_icmp_lt (tgt := 52) hx hb d_TT_bookmark_39 (by decide) (fun h39_1 => ?_) (fun h39_1 => ?_)
    · have h39_1 := h39_1
      have i39_1 := ti_lt h39_1
      (try rw [l_6] at i39_1)
      exact absurd ⟨hrc, by omega⟩ hp
    · have h39_1 := h39_1
      have i39_1 := ti_nlt h39_1
      (try rw [l_6] at i39_1)
      obtain ⟨sa, hsa⟩ := hV.2.2.2.2.1.2.2.2.2.2.2.2.2.2.2
      exact tw_throwNew hx hb hl9 hown (by decide) (by decide) (ht _ tb_351) (ht _ tb_10) hsa (at_IS ht hV) hS.1 (by rw [hml]; exact hl.1) d_TT_bookmark_42 d_TT_bookmark_45 d_TT_bookmark_46 d_TT_bookmark_48 d_TT_bookmark_51 (tw_noH hno _) (Nat.le_of_ble_eq_true rfl) (Nat.le_of_ble_eq_true rfl) (Nat.le_of_ble_eq_true rfl) (Nat.le_of_ble_eq_true rfl) hlocks
  · refine lv_if_eq (tgt := 42) hx hb d_TT_bookmark_30 (by decide) (fun _ => ?_) (fun h9 => absurd (by decide) h9)
    obtain ⟨sa, hsa⟩ := hV.2.2.2.2.1.2.2.2.2.2.2.2.2.2.2
    exact tw_throwNew hx hb hl9 hown (by decide) (by decide) (ht _ tb_351) (ht _ tb_10) hsa (at_IS ht hV) hS.1 (by rw [hml]; exact hl.1) d_TT_bookmark_42 d_TT_bookmark_45 d_TT_bookmark_46 d_TT_bookmark_48 d_TT_bookmark_51 (tw_noH hno _) (Nat.le_of_ble_eq_true rfl) (Nat.le_of_ble_eq_true rfl) (Nat.le_of_ble_eq_true rfl) (Nat.le_of_ble_eq_true rfl) hlocks
