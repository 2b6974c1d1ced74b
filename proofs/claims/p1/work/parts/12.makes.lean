abbrev c_PL_init : ByteArray := prog_3_method_1_code
abbrev y_PL_init : MethodName := ⟨"TwinTuners$Plan", "<init>", "()V"⟩
def w_PL_init : List Cond := .code y_PL_init c_PL_init 1 none :: tb_
abbrev c_RW_init : ByteArray := prog_5_method_1_code
abbrev y_RW_init : MethodName := ⟨"TwinTuners$Rewind", "<init>", "()V"⟩
def w_RW_init : List Cond := .code y_RW_init c_RW_init 1 none :: tb_
abbrev c_DK_init : ByteArray := prog_2_method_1_code
abbrev y_DK_init : MethodName := ⟨"TwinTuners$Disk", "<init>", "()V"⟩
def w_DK_init : List Cond := .code y_DK_init c_DK_init 2 none :: tb_
abbrev c_RQ_init : ByteArray := prog_4_method_1_code
abbrev y_RQ_init : MethodName := ⟨"TwinTuners$Request", "<init>", "(IIIIII)V"⟩
def w_RQ_init : List Cond := .code y_RQ_init c_RQ_init 7 none :: tb_
abbrev c_TT_init : ByteArray := prog_1_method_1_code
abbrev y_TT_init : MethodName := ⟨"TwinTuners", "<init>", "()V"⟩
def w_TT_init : List Cond := .code y_TT_init c_TT_init 1 none :: tb_
set_option maxRecDepth 100000 in
theorem tb_2 : (.initialized "TwinTuners$Plan" : Cond) ∈ tb_ := tb_w 2 rfl rfl
set_option maxRecDepth 100000 in
theorem tb_3 : (.initialized "TwinTuners$Disk" : Cond) ∈ tb_ := tb_w 3 rfl rfl
set_option maxRecDepth 100000 in
theorem tb_4 : (.initialized "TwinTuners$Rewind" : Cond) ∈ tb_ := tb_w 4 rfl rfl
set_option maxRecDepth 100000 in
theorem tb_19 : (.code ⟨"TwinTuners", "<init>", "()V"⟩ prog_1_method_1_code 1 none : Cond) ∈ tb_ := tb_w 19 rfl rfl
set_option maxRecDepth 100000 in
theorem tb_20 : (.methodLink "TwinTuners" 1 ⟨"java/lang/Object", "<init>", "()V"⟩ : Cond) ∈ tb_ := tb_w 20 rfl rfl
set_option maxRecDepth 100000 in
theorem tb_23 : (.classLink "TwinTuners" 9 "TwinTuners$Request" : Cond) ∈ tb_ := tb_w 23 rfl rfl
set_option maxRecDepth 100000 in
theorem tb_25 : (.classLink "TwinTuners" 19 "TwinTuners$Plan" : Cond) ∈ tb_ := tb_w 25 rfl rfl
set_option maxRecDepth 100000 in
theorem tb_26 : (.instantiable "TwinTuners$Plan" 2 : Cond) ∈ tb_ := tb_w 26 rfl rfl
set_option maxRecDepth 100000 in
theorem tb_28 : (.instanceMethod ⟨"TwinTuners$Plan", "<init>", "()V"⟩ : Cond) ∈ tb_ := tb_w 28 rfl rfl
set_option maxRecDepth 100000 in
theorem tb_29 : (.code ⟨"TwinTuners$Plan", "<init>", "()V"⟩ prog_3_method_1_code 1 none : Cond) ∈ tb_ := tb_w 29 rfl rfl
set_option maxRecDepth 100000 in
theorem tb_30 : (.methodLink "TwinTuners$Plan" 3 ⟨"java/lang/Object", "<init>", "()V"⟩ : Cond) ∈ tb_ := tb_w 30 rfl rfl
set_option maxRecDepth 100000 in
theorem tb_31 : (.classLink "TwinTuners$Plan" 9 "TwinTuners$Request" : Cond) ∈ tb_ := tb_w 31 rfl rfl
set_option maxRecDepth 100000 in
theorem tb_32 : (.fieldLink "TwinTuners$Plan" 11 "TwinTuners$Plan" "order" "[LTwinTuners$Request;" : Cond) ∈ tb_ := tb_w 32 rfl rfl
set_option maxRecDepth 100000 in
theorem tb_33 : (.fieldLink "TwinTuners$Plan" 17 "TwinTuners$Plan" "size" "I" : Cond) ∈ tb_ := tb_w 33 rfl rfl
set_option maxRecDepth 100000 in
theorem tb_39 : (.arrayClass .int : Cond) ∈ tb_ := tb_w 39 rfl rfl
set_option maxRecDepth 100000 in
theorem tb_40 : (.classLink "TwinTuners" 26 "TwinTuners$Disk" : Cond) ∈ tb_ := tb_w 40 rfl rfl
set_option maxRecDepth 100000 in
theorem tb_41 : (.instantiable "TwinTuners$Disk" 4 : Cond) ∈ tb_ := tb_w 41 rfl rfl
set_option maxRecDepth 100000 in
theorem tb_42 : (.methodLink "TwinTuners" 28 ⟨"TwinTuners$Disk", "<init>", "()V"⟩ : Cond) ∈ tb_ := tb_w 42 rfl rfl
set_option maxRecDepth 100000 in
theorem tb_43 : (.instanceMethod ⟨"TwinTuners$Disk", "<init>", "()V"⟩ : Cond) ∈ tb_ := tb_w 43 rfl rfl
set_option maxRecDepth 100000 in
theorem tb_44 : (.code ⟨"TwinTuners$Disk", "<init>", "()V"⟩ prog_2_method_1_code 2 none : Cond) ∈ tb_ := tb_w 44 rfl rfl
set_option maxRecDepth 100000 in
theorem tb_45 : (.methodLink "TwinTuners$Disk" 3 ⟨"java/lang/Object", "<init>", "()V"⟩ : Cond) ∈ tb_ := tb_w 45 rfl rfl
set_option maxRecDepth 100000 in
theorem tb_46 : (.fieldLink "TwinTuners$Disk" 9 "TwinTuners$Disk" "owner" "[I" : Cond) ∈ tb_ := tb_w 46 rfl rfl
set_option maxRecDepth 100000 in
theorem tb_47 : (.fieldLink "TwinTuners$Disk" 15 "TwinTuners$Disk" "segmentIn" "[I" : Cond) ∈ tb_ := tb_w 47 rfl rfl
set_option maxRecDepth 100000 in
theorem tb_48 : (.fieldLink "TwinTuners$Disk" 18 "TwinTuners$Disk" "filled" "[I" : Cond) ∈ tb_ := tb_w 48 rfl rfl
set_option maxRecDepth 100000 in
theorem tb_49 : (.fieldLink "TwinTuners$Disk" 21 "TwinTuners$Disk" "words" "[I" : Cond) ∈ tb_ := tb_w 49 rfl rfl
set_option maxRecDepth 100000 in
theorem tb_59 : (.classLink "TwinTuners" 33 "TwinTuners$Rewind" : Cond) ∈ tb_ := tb_w 59 rfl rfl
set_option maxRecDepth 100000 in
theorem tb_60 : (.instantiable "TwinTuners$Rewind" 3 : Cond) ∈ tb_ := tb_w 60 rfl rfl
set_option maxRecDepth 100000 in
theorem tb_62 : (.instanceMethod ⟨"TwinTuners$Rewind", "<init>", "()V"⟩ : Cond) ∈ tb_ := tb_w 62 rfl rfl
set_option maxRecDepth 100000 in
theorem tb_63 : (.code ⟨"TwinTuners$Rewind", "<init>", "()V"⟩ prog_5_method_1_code 1 none : Cond) ∈ tb_ := tb_w 63 rfl rfl
set_option maxRecDepth 100000 in
theorem tb_64 : (.methodLink "TwinTuners$Rewind" 3 ⟨"java/lang/Object", "<init>", "()V"⟩ : Cond) ∈ tb_ := tb_w 64 rfl rfl
set_option maxRecDepth 100000 in
theorem tb_65 : (.fieldLink "TwinTuners$Rewind" 9 "TwinTuners$Rewind" "ring" "[I" : Cond) ∈ tb_ := tb_w 65 rfl rfl
set_option maxRecDepth 100000 in
theorem tb_66 : (.fieldLink "TwinTuners$Rewind" 15 "TwinTuners$Rewind" "next" "I" : Cond) ∈ tb_ := tb_w 66 rfl rfl
set_option maxRecDepth 100000 in
theorem tb_67 : (.fieldLink "TwinTuners$Rewind" 19 "TwinTuners$Rewind" "size" "I" : Cond) ∈ tb_ := tb_w 67 rfl rfl
set_option maxRecDepth 100000 in
theorem tb_75 : (.fieldLink "TwinTuners" 11 "TwinTuners" "requests" "[LTwinTuners$Request;" : Cond) ∈ tb_ := tb_w 75 rfl rfl
set_option maxRecDepth 100000 in
theorem tb_76 : (.fieldLink "TwinTuners" 15 "TwinTuners" "onAir" "[I" : Cond) ∈ tb_ := tb_w 76 rfl rfl
set_option maxRecDepth 100000 in
theorem tb_77 : (.fieldLink "TwinTuners" 22 "TwinTuners" "plan" "LTwinTuners$Plan;" : Cond) ∈ tb_ := tb_w 77 rfl rfl
set_option maxRecDepth 100000 in
theorem tb_79 : (.fieldLink "TwinTuners" 36 "TwinTuners" "rewind" "LTwinTuners$Rewind;" : Cond) ∈ tb_ := tb_w 79 rfl rfl
set_option maxRecDepth 100000 in
theorem tb_82 : (.fieldLink "TwinTuners" 47 "TwinTuners" "watched" "I" : Cond) ∈ tb_ := tb_w 82 rfl rfl
set_option maxRecDepth 100000 in
theorem tb_370 : (.code ⟨"TwinTuners$Request", "<init>", "(IIIIII)V"⟩ prog_4_method_1_code 7 none : Cond) ∈ tb_ := tb_w 370 rfl rfl
set_option maxRecDepth 100000 in
theorem tb_371 : (.methodLink "TwinTuners$Request" 3 ⟨"java/lang/Object", "<init>", "()V"⟩ : Cond) ∈ tb_ := tb_w 371 rfl rfl
set_option maxRecDepth 100000 in
theorem tb_372 : (.fieldLink "TwinTuners$Request" 44 "TwinTuners$Request" "number" "I" : Cond) ∈ tb_ := tb_w 372 rfl rfl
set_option maxRecDepth 100000 in
theorem tb_374 : (.fieldLink "TwinTuners$Request" 47 "TwinTuners$Request" "channel" "I" : Cond) ∈ tb_ := tb_w 374 rfl rfl
set_option maxRecDepth 100000 in
theorem tb_377 : (.fieldLink "TwinTuners$Request" 50 "TwinTuners$Request" "start" "I" : Cond) ∈ tb_ := tb_w 377 rfl rfl
set_option maxRecDepth 100000 in
theorem tb_380 : (.fieldLink "TwinTuners$Request" 53 "TwinTuners$Request" "coreEnd" "I" : Cond) ∈ tb_ := tb_w 380 rfl rfl
set_option maxRecDepth 100000 in
theorem tb_383 : (.fieldLink "TwinTuners$Request" 56 "TwinTuners$Request" "priority" "I" : Cond) ∈ tb_ := tb_w 383 rfl rfl
set_option maxRecDepth 100000 in
theorem tb_385 : (.fieldLink "TwinTuners$Request" 59 "TwinTuners$Request" "padBefore" "I" : Cond) ∈ tb_ := tb_w 385 rfl rfl
set_option maxRecDepth 100000 in
theorem tb_387 : (.fieldLink "TwinTuners$Request" 62 "TwinTuners$Request" "padAfter" "I" : Cond) ∈ tb_ := tb_w 387 rfl rfl
set_option maxRecDepth 100000 in
theorem tb_389 : (.fieldLink "TwinTuners$Request" 9 "TwinTuners$Request" "bookmarkSeconds" "[I" : Cond) ∈ tb_ := tb_w 389 rfl rfl
set_option maxRecDepth 100000 in
theorem tb_391 : (.fieldLink "TwinTuners$Request" 15 "TwinTuners$Request" "phase" "I" : Cond) ∈ tb_ := tb_w 391 rfl rfl
set_option maxRecDepth 100000 in
theorem tb_394 : (.fieldLink "TwinTuners$Request" 19 "TwinTuners$Request" "from" "I" : Cond) ∈ tb_ := tb_w 394 rfl rfl
set_option maxRecDepth 100000 in
theorem tb_396 : (.fieldLink "TwinTuners$Request" 22 "TwinTuners$Request" "end" "I" : Cond) ∈ tb_ := tb_w 396 rfl rfl
set_option maxRecDepth 100000 in
theorem tb_399 : (.fieldLink "TwinTuners$Request" 25 "TwinTuners$Request" "takenFrom" "I" : Cond) ∈ tb_ := tb_w 399 rfl rfl
set_option maxRecDepth 100000 in
theorem tb_402 : (.fieldLink "TwinTuners$Request" 28 "TwinTuners$Request" "takenTo" "I" : Cond) ∈ tb_ := tb_w 402 rfl rfl
set_option maxRecDepth 100000 in
theorem tb_405 : (.fieldLink "TwinTuners$Request" 31 "TwinTuners$Request" "secondsShort" "I" : Cond) ∈ tb_ := tb_w 405 rfl rfl
set_option maxRecDepth 100000 in
theorem tb_407 : (.fieldLink "TwinTuners$Request" 34 "TwinTuners$Request" "bookmarks" "I" : Cond) ∈ tb_ := tb_w 407 rfl rfl
set_option maxRecDepth 100000 in
theorem tb_409 : (.fieldLink "TwinTuners$Request" 37 "TwinTuners$Request" "isProtected" "Z" : Cond) ∈ tb_ := tb_w 409 rfl rfl
set_option maxRecDepth 100000 in
theorem tb_411 : (.fieldLink "TwinTuners$Request" 41 "TwinTuners$Request" "isSeen" "Z" : Cond) ∈ tb_ := tb_w 411 rfl rfl
theorem d_DK_init_0 : decode c_DK_init 0 = .ok (.aload_n 0, 1) := by decide +kernel
theorem d_DK_init_1 : decode c_DK_init 1 = .ok (.invokespecial 3, 3) := by decide +kernel
theorem d_DK_init_4 : decode c_DK_init 4 = .ok (.aload_n 0, 1) := by decide +kernel
theorem d_DK_init_5 : decode c_DK_init 5 = .ok (.bipush 24, 2) := by decide +kernel
theorem d_DK_init_7 : decode c_DK_init 7 = .ok (.newarray .int, 2) := by decide +kernel
theorem d_DK_init_9 : decode c_DK_init 9 = .ok (.putfield 9, 3) := by decide +kernel
theorem d_DK_init_12 : decode c_DK_init 12 = .ok (.aload_n 0, 1) := by decide +kernel
theorem d_DK_init_13 : decode c_DK_init 13 = .ok (.bipush 24, 2) := by decide +kernel
theorem d_DK_init_15 : decode c_DK_init 15 = .ok (.newarray .int, 2) := by decide +kernel
theorem d_DK_init_17 : decode c_DK_init 17 = .ok (.putfield 15, 3) := by decide +kernel
theorem d_DK_init_20 : decode c_DK_init 20 = .ok (.aload_n 0, 1) := by decide +kernel
theorem d_DK_init_21 : decode c_DK_init 21 = .ok (.bipush 24, 2) := by decide +kernel
theorem d_DK_init_23 : decode c_DK_init 23 = .ok (.newarray .int, 2) := by decide +kernel
theorem d_DK_init_25 : decode c_DK_init 25 = .ok (.putfield 18, 3) := by decide +kernel
theorem d_DK_init_28 : decode c_DK_init 28 = .ok (.aload_n 0, 1) := by decide +kernel
theorem d_DK_init_29 : decode c_DK_init 29 = .ok (.bipush 96, 2) := by decide +kernel
theorem d_DK_init_31 : decode c_DK_init 31 = .ok (.newarray .int, 2) := by decide +kernel
theorem d_DK_init_33 : decode c_DK_init 33 = .ok (.putfield 21, 3) := by decide +kernel
theorem d_DK_init_36 : decode c_DK_init 36 = .ok (.iconst 0, 1) := by decide +kernel
theorem d_DK_init_37 : decode c_DK_init 37 = .ok (.istore_n 1, 1) := by decide +kernel
theorem d_DK_init_38 : decode c_DK_init 38 = .ok (.iload_n 1, 1) := by decide +kernel
theorem d_DK_init_39 : decode c_DK_init 39 = .ok (.bipush 24, 2) := by decide +kernel
theorem d_DK_init_41 : decode c_DK_init 41 = .ok (.if_icmp .ge 16, 3) := by decide +kernel
theorem d_DK_init_44 : decode c_DK_init 44 = .ok (.aload_n 0, 1) := by decide +kernel
theorem d_DK_init_45 : decode c_DK_init 45 = .ok (.getfield 9, 3) := by decide +kernel
theorem d_DK_init_48 : decode c_DK_init 48 = .ok (.iload_n 1, 1) := by decide +kernel
theorem d_DK_init_49 : decode c_DK_init 49 = .ok (.iconst (-1), 1) := by decide +kernel
theorem d_DK_init_50 : decode c_DK_init 50 = .ok (.iastore, 1) := by decide +kernel
theorem d_DK_init_51 : decode c_DK_init 51 = .ok (.iinc 1 1, 3) := by decide +kernel
theorem d_DK_init_54 : decode c_DK_init 54 = .ok (.goto (-16), 3) := by decide +kernel
theorem d_DK_init_57 : decode c_DK_init 57 = .ok (.return_, 1) := by decide +kernel
theorem d_PL_init_0 : decode c_PL_init 0 = .ok (.aload_n 0, 1) := by decide +kernel
theorem d_PL_init_1 : decode c_PL_init 1 = .ok (.invokespecial 3, 3) := by decide +kernel
theorem d_PL_init_4 : decode c_PL_init 4 = .ok (.aload_n 0, 1) := by decide +kernel
theorem d_PL_init_5 : decode c_PL_init 5 = .ok (.bipush 12, 2) := by decide +kernel
theorem d_PL_init_7 : decode c_PL_init 7 = .ok (.anewarray 9, 3) := by decide +kernel
theorem d_PL_init_10 : decode c_PL_init 10 = .ok (.putfield 11, 3) := by decide +kernel
theorem d_PL_init_13 : decode c_PL_init 13 = .ok (.aload_n 0, 1) := by decide +kernel
theorem d_PL_init_14 : decode c_PL_init 14 = .ok (.iconst 0, 1) := by decide +kernel
theorem d_PL_init_15 : decode c_PL_init 15 = .ok (.putfield 17, 3) := by decide +kernel
theorem d_PL_init_18 : decode c_PL_init 18 = .ok (.return_, 1) := by decide +kernel
theorem d_RQ_init_0 : decode c_RQ_init 0 = .ok (.aload_n 0, 1) := by decide +kernel
theorem d_RQ_init_1 : decode c_RQ_init 1 = .ok (.invokespecial 3, 3) := by decide +kernel
theorem d_RQ_init_4 : decode c_RQ_init 4 = .ok (.aload_n 0, 1) := by decide +kernel
theorem d_RQ_init_5 : decode c_RQ_init 5 = .ok (.bipush 6, 2) := by decide +kernel
theorem d_RQ_init_7 : decode c_RQ_init 7 = .ok (.newarray .int, 2) := by decide +kernel
theorem d_RQ_init_9 : decode c_RQ_init 9 = .ok (.putfield 9, 3) := by decide +kernel
theorem d_RQ_init_12 : decode c_RQ_init 12 = .ok (.aload_n 0, 1) := by decide +kernel
theorem d_RQ_init_13 : decode c_RQ_init 13 = .ok (.iconst 0, 1) := by decide +kernel
theorem d_RQ_init_14 : decode c_RQ_init 14 = .ok (.putfield 15, 3) := by decide +kernel
theorem d_RQ_init_17 : decode c_RQ_init 17 = .ok (.aload_n 0, 1) := by decide +kernel
theorem d_RQ_init_18 : decode c_RQ_init 18 = .ok (.iconst (-1), 1) := by decide +kernel
theorem d_RQ_init_19 : decode c_RQ_init 19 = .ok (.putfield 19, 3) := by decide +kernel
theorem d_RQ_init_22 : decode c_RQ_init 22 = .ok (.aload_n 0, 1) := by decide +kernel
theorem d_RQ_init_23 : decode c_RQ_init 23 = .ok (.iconst (-1), 1) := by decide +kernel
theorem d_RQ_init_24 : decode c_RQ_init 24 = .ok (.putfield 22, 3) := by decide +kernel
theorem d_RQ_init_27 : decode c_RQ_init 27 = .ok (.aload_n 0, 1) := by decide +kernel
theorem d_RQ_init_28 : decode c_RQ_init 28 = .ok (.iconst 0, 1) := by decide +kernel
theorem d_RQ_init_29 : decode c_RQ_init 29 = .ok (.putfield 25, 3) := by decide +kernel
theorem d_RQ_init_32 : decode c_RQ_init 32 = .ok (.aload_n 0, 1) := by decide +kernel
theorem d_RQ_init_33 : decode c_RQ_init 33 = .ok (.iconst 0, 1) := by decide +kernel
theorem d_RQ_init_34 : decode c_RQ_init 34 = .ok (.putfield 28, 3) := by decide +kernel
theorem d_RQ_init_37 : decode c_RQ_init 37 = .ok (.aload_n 0, 1) := by decide +kernel
theorem d_RQ_init_38 : decode c_RQ_init 38 = .ok (.iconst 0, 1) := by decide +kernel
theorem d_RQ_init_39 : decode c_RQ_init 39 = .ok (.putfield 31, 3) := by decide +kernel
theorem d_RQ_init_42 : decode c_RQ_init 42 = .ok (.aload_n 0, 1) := by decide +kernel
theorem d_RQ_init_43 : decode c_RQ_init 43 = .ok (.iconst 0, 1) := by decide +kernel
theorem d_RQ_init_44 : decode c_RQ_init 44 = .ok (.putfield 34, 3) := by decide +kernel
theorem d_RQ_init_47 : decode c_RQ_init 47 = .ok (.aload_n 0, 1) := by decide +kernel
theorem d_RQ_init_48 : decode c_RQ_init 48 = .ok (.iconst 0, 1) := by decide +kernel
theorem d_RQ_init_49 : decode c_RQ_init 49 = .ok (.putfield 37, 3) := by decide +kernel
theorem d_RQ_init_52 : decode c_RQ_init 52 = .ok (.aload_n 0, 1) := by decide +kernel
theorem d_RQ_init_53 : decode c_RQ_init 53 = .ok (.iconst 0, 1) := by decide +kernel
theorem d_RQ_init_54 : decode c_RQ_init 54 = .ok (.putfield 41, 3) := by decide +kernel
theorem d_RQ_init_57 : decode c_RQ_init 57 = .ok (.aload_n 0, 1) := by decide +kernel
theorem d_RQ_init_58 : decode c_RQ_init 58 = .ok (.iload_n 1, 1) := by decide +kernel
theorem d_RQ_init_59 : decode c_RQ_init 59 = .ok (.putfield 44, 3) := by decide +kernel
theorem d_RQ_init_62 : decode c_RQ_init 62 = .ok (.aload_n 0, 1) := by decide +kernel
theorem d_RQ_init_63 : decode c_RQ_init 63 = .ok (.iload_n 2, 1) := by decide +kernel
theorem d_RQ_init_64 : decode c_RQ_init 64 = .ok (.putfield 47, 3) := by decide +kernel
theorem d_RQ_init_67 : decode c_RQ_init 67 = .ok (.aload_n 0, 1) := by decide +kernel
theorem d_RQ_init_68 : decode c_RQ_init 68 = .ok (.iload_n 3, 1) := by decide +kernel
theorem d_RQ_init_69 : decode c_RQ_init 69 = .ok (.putfield 50, 3) := by decide +kernel
theorem d_RQ_init_72 : decode c_RQ_init 72 = .ok (.aload_n 0, 1) := by decide +kernel
theorem d_RQ_init_73 : decode c_RQ_init 73 = .ok (.iload_n 3, 1) := by decide +kernel
theorem d_RQ_init_74 : decode c_RQ_init 74 = .ok (.iload 4, 2) := by decide +kernel
theorem d_RQ_init_76 : decode c_RQ_init 76 = .ok (.iadd, 1) := by decide +kernel
theorem d_RQ_init_77 : decode c_RQ_init 77 = .ok (.putfield 53, 3) := by decide +kernel
theorem d_RQ_init_80 : decode c_RQ_init 80 = .ok (.aload_n 0, 1) := by decide +kernel
theorem d_RQ_init_81 : decode c_RQ_init 81 = .ok (.iload 5, 2) := by decide +kernel
theorem d_RQ_init_83 : decode c_RQ_init 83 = .ok (.putfield 56, 3) := by decide +kernel
theorem d_RQ_init_86 : decode c_RQ_init 86 = .ok (.aload_n 0, 1) := by decide +kernel
theorem d_RQ_init_87 : decode c_RQ_init 87 = .ok (.iload 6, 2) := by decide +kernel
theorem d_RQ_init_89 : decode c_RQ_init 89 = .ok (.bipush 10, 2) := by decide +kernel
theorem d_RQ_init_91 : decode c_RQ_init 91 = .ok (.idiv, 1) := by decide +kernel
theorem d_RQ_init_92 : decode c_RQ_init 92 = .ok (.putfield 59, 3) := by decide +kernel
theorem d_RQ_init_95 : decode c_RQ_init 95 = .ok (.aload_n 0, 1) := by decide +kernel
theorem d_RQ_init_96 : decode c_RQ_init 96 = .ok (.iload 6, 2) := by decide +kernel
theorem d_RQ_init_98 : decode c_RQ_init 98 = .ok (.bipush 10, 2) := by decide +kernel
theorem d_RQ_init_100 : decode c_RQ_init 100 = .ok (.irem, 1) := by decide +kernel
theorem d_RQ_init_101 : decode c_RQ_init 101 = .ok (.putfield 62, 3) := by decide +kernel
theorem d_RQ_init_104 : decode c_RQ_init 104 = .ok (.return_, 1) := by decide +kernel
theorem d_RW_init_0 : decode c_RW_init 0 = .ok (.aload_n 0, 1) := by decide +kernel
theorem d_RW_init_1 : decode c_RW_init 1 = .ok (.invokespecial 3, 3) := by decide +kernel
theorem d_RW_init_4 : decode c_RW_init 4 = .ok (.aload_n 0, 1) := by decide +kernel
theorem d_RW_init_5 : decode c_RW_init 5 = .ok (.bipush 30, 2) := by decide +kernel
theorem d_RW_init_7 : decode c_RW_init 7 = .ok (.newarray .int, 2) := by decide +kernel
theorem d_RW_init_9 : decode c_RW_init 9 = .ok (.putfield 9, 3) := by decide +kernel
theorem d_RW_init_12 : decode c_RW_init 12 = .ok (.aload_n 0, 1) := by decide +kernel
theorem d_RW_init_13 : decode c_RW_init 13 = .ok (.iconst 0, 1) := by decide +kernel
theorem d_RW_init_14 : decode c_RW_init 14 = .ok (.putfield 15, 3) := by decide +kernel
theorem d_RW_init_17 : decode c_RW_init 17 = .ok (.aload_n 0, 1) := by decide +kernel
theorem d_RW_init_18 : decode c_RW_init 18 = .ok (.iconst 0, 1) := by decide +kernel
theorem d_RW_init_19 : decode c_RW_init 19 = .ok (.putfield 19, 3) := by decide +kernel
theorem d_RW_init_22 : decode c_RW_init 22 = .ok (.return_, 1) := by decide +kernel
theorem d_TT_init_0 : decode c_TT_init 0 = .ok (.aload_n 0, 1) := by decide +kernel
theorem d_TT_init_1 : decode c_TT_init 1 = .ok (.invokespecial 1, 3) := by decide +kernel
theorem d_TT_init_4 : decode c_TT_init 4 = .ok (.aload_n 0, 1) := by decide +kernel
theorem d_TT_init_5 : decode c_TT_init 5 = .ok (.bipush 40, 2) := by decide +kernel
theorem d_TT_init_7 : decode c_TT_init 7 = .ok (.anewarray 9, 3) := by decide +kernel
theorem d_TT_init_10 : decode c_TT_init 10 = .ok (.putfield 11, 3) := by decide +kernel
theorem d_TT_init_13 : decode c_TT_init 13 = .ok (.aload_n 0, 1) := by decide +kernel
theorem d_TT_init_14 : decode c_TT_init 14 = .ok (.bipush 8, 2) := by decide +kernel
theorem d_TT_init_16 : decode c_TT_init 16 = .ok (.newarray .int, 2) := by decide +kernel
theorem d_TT_init_18 : decode c_TT_init 18 = .ok (.putfield 15, 3) := by decide +kernel
theorem d_TT_init_21 : decode c_TT_init 21 = .ok (.aload_n 0, 1) := by decide +kernel
theorem d_TT_init_22 : decode c_TT_init 22 = .ok (.new 19, 3) := by decide +kernel
theorem d_TT_init_25 : decode c_TT_init 25 = .ok (.dup, 1) := by decide +kernel
theorem d_TT_init_26 : decode c_TT_init 26 = .ok (.invokespecial 21, 3) := by decide +kernel
theorem d_TT_init_29 : decode c_TT_init 29 = .ok (.putfield 22, 3) := by decide +kernel
theorem d_TT_init_32 : decode c_TT_init 32 = .ok (.aload_n 0, 1) := by decide +kernel
theorem d_TT_init_33 : decode c_TT_init 33 = .ok (.new 26, 3) := by decide +kernel
theorem d_TT_init_36 : decode c_TT_init 36 = .ok (.dup, 1) := by decide +kernel
theorem d_TT_init_37 : decode c_TT_init 37 = .ok (.invokespecial 28, 3) := by decide +kernel
theorem d_TT_init_40 : decode c_TT_init 40 = .ok (.putfield 29, 3) := by decide +kernel
theorem d_TT_init_43 : decode c_TT_init 43 = .ok (.aload_n 0, 1) := by decide +kernel
theorem d_TT_init_44 : decode c_TT_init 44 = .ok (.new 33, 3) := by decide +kernel
theorem d_TT_init_47 : decode c_TT_init 47 = .ok (.dup, 1) := by decide +kernel
theorem d_TT_init_48 : decode c_TT_init 48 = .ok (.invokespecial 35, 3) := by decide +kernel
theorem d_TT_init_51 : decode c_TT_init 51 = .ok (.putfield 36, 3) := by decide +kernel
theorem d_TT_init_54 : decode c_TT_init 54 = .ok (.aload_n 0, 1) := by decide +kernel
theorem d_TT_init_55 : decode c_TT_init 55 = .ok (.iconst 0, 1) := by decide +kernel
theorem d_TT_init_56 : decode c_TT_init 56 = .ok (.putfield 40, 3) := by decide +kernel
theorem d_TT_init_59 : decode c_TT_init 59 = .ok (.aload_n 0, 1) := by decide +kernel
theorem d_TT_init_60 : decode c_TT_init 60 = .ok (.iconst 0, 1) := by decide +kernel
theorem d_TT_init_61 : decode c_TT_init 61 = .ok (.putfield 44, 3) := by decide +kernel
theorem d_TT_init_64 : decode c_TT_init 64 = .ok (.aload_n 0, 1) := by decide +kernel
theorem d_TT_init_65 : decode c_TT_init 65 = .ok (.iconst (-1), 1) := by decide +kernel
theorem d_TT_init_66 : decode c_TT_init 66 = .ok (.putfield 47, 3) := by decide +kernel
theorem d_TT_init_69 : decode c_TT_init 69 = .ok (.return_, 1) := by decide +kernel
set_option maxHeartbeats 4000000 in
set_option maxRecDepth 100000 in
theorem c_PL_init_mk (l : Launch) (dC : Nat → ClassId) (dI : Nat → Nat → Nat) (sz Bd : Nat) (h0 : Nat) : Met l y_PL_init w_PL_init ({ frames := 1, cells := 1, slots := 12, locals := 20 }) (frP (dC, dI) [(h0, .inr (1, [.null, .int 0]))] [] sz Bd [.ref h0]) (frQ none (fun t => ∃ (q1 : Nat), va_P (dC, dI) cls_ [(h0, .inr (1, [.ref q1, .int 0]))] t.heap ∧ va_K (dC, dI) cls_ [] t ∧ va_D (va_A [(h0, .inr (1, [.null, .int 0]))] sz) [(h0, .inr (1, [.ref q1, .int 0]))]) (va_A [(h0, .inr (1, [.null, .int 0]))] sz)) 1 12 (va_A [(h0, .inr (1, [.null, .int 0]))] sz) := by
  refine Met.ofW (cc := c_PL_init) (maxL := 1) (ret := none) (by decide) rfl ?_
  intro p e s m args below meth c s₁ B hml hv
  obtain ⟨rfl, ⟨hsz, hBs⟩, hP, hK, hD0, hV⟩ := hv
  have hx := B.exec
  have hb := B.bytes
  have hr := B.returns
  have ht : ∀ w ∈ tb_, w.before _ s = true := fun w h => atoms_spec (ws := w_PL_init) B.pre w (List.mem_cons_of_mem _ h)
  have hown : s.vm.findClass R_PL = some m.cls := findClass_of_methodNamed B.named
  have hlocks := B.notSynchronized
  have hin : meth.name = "<init>" := (name_of_methodNamed B.named B.method).1
  subst hsz
  have hD := hD0.self (sz := s.heap.size)
  have hAB : ∀ q, va_A [(h0, .inr (1, [.null, .int 0]))] s.heap.size q → Bd ≤ q := fr_AB hD0 hBs
  generalize hAe : va_A [(h0, .inr (1, [.null, .int 0]))] s.heap.size = A at hD hAB ⊢
  have hA : ∀ q : Nat, s.heap.size ≤ q → A q := fun q h => by rw [← hAe]; exact Or.inr h
  have hS : va_S A s.heap s.heap [] := va_S.rf
  have hAO := hV.2.2.2.1
  have hN_PL := hV.2.2.1.1
  have hN_RW := hV.2.2.1.2
  have hP : va_P (dC, dI) cls_ [(h0, .inr (1, [.null, .int 0]))] s.heap := hP
  have hl := lv_entry ([.ref h0]) (n := 1) (Nat.le_of_ble_eq_true rfl)
  rw [lg_entry_eq]
  generalize (lg_sl ([.ref h0]) ++ List.replicate (1 - (lg_sl ([.ref h0])).length) Slot.unset).toArray = ls at hl ⊢
  have hl : lv_has ls 1 [(0, .ref h0)] := hl
  refine lv_aload_n hx hb d_PL_init_0 rfl (lv_at hl 0 rfl) ?_
  refine W.objInit hx hb hown (ht _ tb_30) (ht _ tb_21) (ht _ tb_22) rfl (by rw [hml]; exact hl.1) rfl d_PL_init_1 (Nat.le_of_ble_eq_true rfl) (Nat.le_of_ble_eq_true rfl) ?_
  refine W.eq (g2 := F0 m 4 ls []) rfl ?_
  refine lv_aload_n hx hb d_PL_init_4 rfl (lv_at hl 0 rfl) ?_
  refine lv_bipush (v := 12) hx hb d_PL_init_5 (by decide) ?_
  refine va_newq (C := "TwinTuners$Request") (N' := 12) (n := 12) hx hb hown (ht _ tb_31) hAO hK hP hD hS hA (by decide) (by decide) (by decide) (Nat.le_of_ble_eq_true rfl) (Nat.le_of_ble_eq_true rfl) d_PL_init_7 (fun q1 k2 H hK hP hD hS => ?_)
  have hP : va_P (dC, dI) cls_ [(h0, .inr (1, [.null, .int 0])), (q1, .inl (k2, 12, .inr (.inr (.inr (.inr (fun _ => none))))))] H := hP
  have hD : va_D A [(h0, .inr (1, [.null, .int 0])), (q1, .inl (k2, 12, .inr (.inr (.inr (.inr (fun _ => none))))))] := hD
  have hK : va_K (dC, dI) cls_ [(k2, .object "TwinTuners$Request")] s := hK
  refine W.cs (cells' := 1) (slots' := 12) rfl rfl ?_
  refine va_putF (D := (dC, dI)) (ci := 1) (v := .ref q1) (ty := .array (.object "TwinTuners$Request")) (C := R_PL) (T := F_PL) (N := 2) hx hb ht in_PL t_PL t_PL_ok n_PL hown hK hP hD hS 0 rfl rfl 0 (by decide) (ht _ tb_32) (fun _ h9 => h9) rfl hin rfl (by decide +kernel) rfl rfl (Nat.le_of_ble_eq_true rfl) d_PL_init_10 (fun H locs hP hD hS => ?_)
  have hP : va_P (dC, dI) cls_ [(h0, .inr (1, [.ref q1, .int 0])), (q1, .inl (k2, 12, .inr (.inr (.inr (.inr (fun _ => none))))))] H := hP
  have hD : va_D A [(h0, .inr (1, [.ref q1, .int 0])), (q1, .inl (k2, 12, .inr (.inr (.inr (.inr (fun _ => none))))))] := hD
  refine lv_aload_n hx hb d_PL_init_13 rfl (lv_at hl 0 rfl) ?_
  refine lv_iconst (v := 0) hx hb d_PL_init_14 (by decide) ?_
  refine va_put (D := (dC, dI)) (ci := 1) (v := .int 0) (ty := .int) (C := R_PL) (T := F_PL) (N := 2) hx hb ht in_PL t_PL t_PL_ok n_PL hown hK hP hD hS 0 rfl rfl 1 (by decide) (ht _ tb_33) (fun _ h9 => h9) rfl (by decide +kernel) rfl rfl (Nat.le_of_ble_eq_true rfl) d_PL_init_15 (fun H locs hP hD hS => ?_)
  have hP : va_P (dC, dI) cls_ [(h0, .inr (1, [.ref q1, .int 0])), (q1, .inl (k2, 12, .inr (.inr (.inr (.inr (fun _ => none))))))] H := hP
  have hD : va_D A [(h0, .inr (1, [.ref q1, .int 0])), (q1, .inl (k2, 12, .inr (.inr (.inr (.inr (fun _ => none))))))] := hD
  have hP9 := hP.sub (ws' := [(h0, .inr (1, [.ref q1, .int 0]))]) [0] rfl
  have hD9 := hD.sub (ws' := [(h0, .inr (1, [.ref q1, .int 0]))]) [0] (by decide) rfl
  have hK9 := hK.sub (tys' := []) [] rfl
  exact W.vret hx hb hr (fun t ht9 hW => ⟨rfl, ⟨q1, by rw [ht9]; exact hP9, va_K.moved hW.alike hK9, hD9⟩, hS.F ht9⟩) hS.2.2 d_PL_init_18
set_option maxHeartbeats 4000000 in
set_option maxRecDepth 100000 in
theorem c_RW_init_mk (l : Launch) (dC : Nat → ClassId) (dI : Nat → Nat → Nat) (sz Bd : Nat) (h0 : Nat) : Met l y_RW_init w_RW_init ({ frames := 1, cells := 1, slots := 30, locals := 20 }) (frP (dC, dI) [(h0, .inr (3, [.null, .int 0, .int 0]))] [] sz Bd [.ref h0]) (frQ none (fun t => ∃ (q1 : Nat), va_P (dC, dI) cls_ [(h0, .inr (3, [.ref q1, .int 0, .int 0]))] t.heap ∧ va_K (dC, dI) cls_ [] t ∧ va_D (va_A [(h0, .inr (3, [.null, .int 0, .int 0]))] sz) [(h0, .inr (3, [.ref q1, .int 0, .int 0]))]) (va_A [(h0, .inr (3, [.null, .int 0, .int 0]))] sz)) 1 30 (va_A [(h0, .inr (3, [.null, .int 0, .int 0]))] sz) := by
  refine Met.ofW (cc := c_RW_init) (maxL := 1) (ret := none) (by decide) rfl ?_
  intro p e s m args below meth c s₁ B hml hv
  obtain ⟨rfl, ⟨hsz, hBs⟩, hP, hK, hD0, hV⟩ := hv
  have hx := B.exec
  have hb := B.bytes
  have hr := B.returns
  have ht : ∀ w ∈ tb_, w.before _ s = true := fun w h => atoms_spec (ws := w_RW_init) B.pre w (List.mem_cons_of_mem _ h)
  have hown : s.vm.findClass R_RW = some m.cls := findClass_of_methodNamed B.named
  have hlocks := B.notSynchronized
  have hin : meth.name = "<init>" := (name_of_methodNamed B.named B.method).1
  subst hsz
  have hD := hD0.self (sz := s.heap.size)
  have hAB : ∀ q, va_A [(h0, .inr (3, [.null, .int 0, .int 0]))] s.heap.size q → Bd ≤ q := fr_AB hD0 hBs
  generalize hAe : va_A [(h0, .inr (3, [.null, .int 0, .int 0]))] s.heap.size = A at hD hAB ⊢
  have hA : ∀ q : Nat, s.heap.size ≤ q → A q := fun q h => by rw [← hAe]; exact Or.inr h
  have hS : va_S A s.heap s.heap [] := va_S.rf
  have hAO := hV.2.2.2.1
  have hN_PL := hV.2.2.1.1
  have hN_RW := hV.2.2.1.2
  have hP : va_P (dC, dI) cls_ [(h0, .inr (3, [.null, .int 0, .int 0]))] s.heap := hP
  have hl := lv_entry ([.ref h0]) (n := 1) (Nat.le_of_ble_eq_true rfl)
  rw [lg_entry_eq]
  generalize (lg_sl ([.ref h0]) ++ List.replicate (1 - (lg_sl ([.ref h0])).length) Slot.unset).toArray = ls at hl ⊢
  have hl : lv_has ls 1 [(0, .ref h0)] := hl
  refine lv_aload_n hx hb d_RW_init_0 rfl (lv_at hl 0 rfl) ?_
  refine W.objInit hx hb hown (ht _ tb_64) (ht _ tb_21) (ht _ tb_22) rfl (by rw [hml]; exact hl.1) rfl d_RW_init_1 (Nat.le_of_ble_eq_true rfl) (Nat.le_of_ble_eq_true rfl) ?_
  refine W.eq (g2 := F0 m 4 ls []) rfl ?_
  refine lv_aload_n hx hb d_RW_init_4 rfl (lv_at hl 0 rfl) ?_
  refine lv_bipush (v := 30) hx hb d_RW_init_5 (by decide) ?_
  refine va_newa (atype := .int) (N' := 30) (a0 := (30, .inl (fun _ => 0))) (ty := .int) (n := 30) hx hb (ht _ tb_39) rfl hK hP hD hS hA (fun _ => rfl) (by decide) (by decide) (by decide) (Nat.le_of_ble_eq_true rfl) (Nat.le_of_ble_eq_true rfl) d_RW_init_7 (fun q1 k2 H hK hP hD hS => ?_)
  have hP : va_P (dC, dI) cls_ [(h0, .inr (3, [.null, .int 0, .int 0])), (q1, .inl (k2, 30, .inl (fun _ => 0)))] H := hP
  have hD : va_D A [(h0, .inr (3, [.null, .int 0, .int 0])), (q1, .inl (k2, 30, .inl (fun _ => 0)))] := hD
  have hK : va_K (dC, dI) cls_ [(k2, .int)] s := hK
  refine W.cs (cells' := 1) (slots' := 30) rfl rfl ?_
  refine va_putF (D := (dC, dI)) (ci := 3) (v := .ref q1) (ty := .array .int) (C := R_RW) (T := F_RW) (N := 3) hx hb ht in_RW t_RW t_RW_ok n_RW hown hK hP hD hS 0 rfl rfl 0 (by decide) (ht _ tb_65) (fun _ h9 => h9) rfl hin rfl (by decide +kernel) rfl rfl (Nat.le_of_ble_eq_true rfl) d_RW_init_9 (fun H locs hP hD hS => ?_)
  have hP : va_P (dC, dI) cls_ [(h0, .inr (3, [.ref q1, .int 0, .int 0])), (q1, .inl (k2, 30, .inl (fun _ => 0)))] H := hP
  have hD : va_D A [(h0, .inr (3, [.ref q1, .int 0, .int 0])), (q1, .inl (k2, 30, .inl (fun _ => 0)))] := hD
  refine lv_aload_n hx hb d_RW_init_12 rfl (lv_at hl 0 rfl) ?_
  refine lv_iconst (v := 0) hx hb d_RW_init_13 (by decide) ?_
  refine va_put (D := (dC, dI)) (ci := 3) (v := .int 0) (ty := .int) (C := R_RW) (T := F_RW) (N := 3) hx hb ht in_RW t_RW t_RW_ok n_RW hown hK hP hD hS 0 rfl rfl 1 (by decide) (ht _ tb_66) (fun _ h9 => h9) rfl (by decide +kernel) rfl rfl (Nat.le_of_ble_eq_true rfl) d_RW_init_14 (fun H locs hP hD hS => ?_)
  have hP : va_P (dC, dI) cls_ [(h0, .inr (3, [.ref q1, .int 0, .int 0])), (q1, .inl (k2, 30, .inl (fun _ => 0)))] H := hP
  have hD : va_D A [(h0, .inr (3, [.ref q1, .int 0, .int 0])), (q1, .inl (k2, 30, .inl (fun _ => 0)))] := hD
  refine lv_aload_n hx hb d_RW_init_17 rfl (lv_at hl 0 rfl) ?_
  refine lv_iconst (v := 0) hx hb d_RW_init_18 (by decide) ?_
  refine va_put (D := (dC, dI)) (ci := 3) (v := .int 0) (ty := .int) (C := R_RW) (T := F_RW) (N := 3) hx hb ht in_RW t_RW t_RW_ok n_RW hown hK hP hD hS 0 rfl rfl 2 (by decide) (ht _ tb_67) (fun _ h9 => h9) rfl (by decide +kernel) rfl rfl (Nat.le_of_ble_eq_true rfl) d_RW_init_19 (fun H locs hP hD hS => ?_)
  have hP : va_P (dC, dI) cls_ [(h0, .inr (3, [.ref q1, .int 0, .int 0])), (q1, .inl (k2, 30, .inl (fun _ => 0)))] H := hP
  have hD : va_D A [(h0, .inr (3, [.ref q1, .int 0, .int 0])), (q1, .inl (k2, 30, .inl (fun _ => 0)))] := hD
  have hP9 := hP.sub (ws' := [(h0, .inr (3, [.ref q1, .int 0, .int 0]))]) [0] rfl
  have hD9 := hD.sub (ws' := [(h0, .inr (3, [.ref q1, .int 0, .int 0]))]) [0] (by decide) rfl
  have hK9 := hK.sub (tys' := []) [] rfl
  exact W.vret hx hb hr (fun t ht9 hW => ⟨rfl, ⟨q1, by rw [ht9]; exact hP9, va_K.moved hW.alike hK9, hD9⟩, hS.F ht9⟩) hS.2.2 d_RW_init_22
theorem ar_cell {cA : ClassId} {n : Nat} {f g : Nat → Int32} (h : ∀ j, j < n → f j = g j) : vp_cell cA (n, .inl f) = vp_cell cA (n, .inl g) := by
  rw [vp_cell_i, vp_cell_i]
  unfold arrV
  congr 2
  funext j
  show Value.int (f j.val) = Value.int (g j.val)
  rw [h j.val j.isLt]
theorem ar_P {D : va_G} {cl : List vw_C} {ws : va_W} {H : Heap} {q0 a n : Nat} {cA : ClassId} {f g : Nat → Int32} (hP : va_P D cl ws H) (he : ws[q0]? = some (a, .inl (cA, n, .inl f))) (h : ∀ j, j < n → f j = g j) : va_P D cl (ws.set q0 (a, .inl (cA, n, .inl g))) H := by
  intro k q hq
  by_cases hk : k = q0
  · subst hk
    have hl : k < ws.length := (List.getElem?_eq_some_iff.mp he).1
    rw [List.getElem?_set_self hl] at hq
    cases hq
    show H[a]? = some (vp_cell cA (n, .inl g))
    rw [← ar_cell h]
    exact hP k _ he
  · rw [List.getElem?_set_ne (fun e => hk e.symm)] at hq
    exact hP k q hq
set_option maxHeartbeats 4000000 in
set_option maxRecDepth 100000 in
theorem lp_DK_init {p : Program} {l : Launch} {e : Env} {R : Room} {s : State} {m : MethodId} {args : Array Value} {below : List Frame} {meth : Method} {c : Code} {Q : State → Prop} {cells slots : Nat} {A : Nat → Prop} {H0 : Heap} (dC : Nat → ClassId) (dI : Nat → Nat → Nat) (h0 q1 q2 q3 q4 : Nat) (k1 : ClassId) (hx : p.tables.exec = Jvm.exec) (hb : c.code = c_DK_init) (hml : c.maxLocals = 2) (ht : ∀ w ∈ tb_, w.before args s = true) (hown : s.vm.findClass R_DK = some m.cls) (hK : va_K (dC, dI) cls_ [(k1, .int)] s)
    (kk : ∀ (f : Nat → Int32) (H : Heap) (locs : List Loc) (ls : Array Slot), (∀ j, j < 24 → f j = -1) → lv_has ls 2 [(1, .int (nI 24)), (0, .ref h0)] → va_P (dC, dI) cls_ [(h0, .inr (2, [.ref q1, .ref q2, .ref q3, .ref q4])), (q1, .inl (k1, 24, .inl f))] H → va_D A [(h0, .inr (2, [.ref q1, .ref q2, .ref q3, .ref q4])), (q1, .inl (k1, 24, .inl f))] → va_S A H0 H locs → W p l e R s m args below meth c H locs cells slots Q (F0 m 57 ls [])) :
    ∀ (n k : Nat) (f : Nat → Int32) (H : Heap) (locs : List Loc) (ls : Array Slot), k + n = 24 → (∀ j, j < k → f j = -1) → lv_has ls 2 [(1, .int (nI k)), (0, .ref h0)] → va_P (dC, dI) cls_ [(h0, .inr (2, [.ref q1, .ref q2, .ref q3, .ref q4])), (q1, .inl (k1, 24, .inl f))] H → va_D A [(h0, .inr (2, [.ref q1, .ref q2, .ref q3, .ref q4])), (q1, .inl (k1, 24, .inl f))] → va_S A H0 H locs → W p l e R s m args below meth c H locs cells slots Q (F0 m 38 ls []) := by
  intro n
  induction n with
  | zero =>
    intro k f H locs ls hn hf hl hP hD hS
    obtain rfl : k = 24 := by omega
    refine lv_iload_n hx hb d_DK_init_38 rfl (lv_at hl 0 rfl) ?_
    refine lv_bipush (v := 24) hx hb d_DK_init_39 (by decide) ?_
    refine lv_icmp_ge (tgt := 57) hx hb d_DK_init_41 (by decide) (fun _ => ?_) (fun h9 => absurd (show (24 : Int32) ≤ nI 24 by decide) h9)
    exact kk f H locs ls hf hl hP hD hS
  | succ n ih =>
    intro k f H locs ls hn hf hl hP hD hS
    refine lv_iload_n hx hb d_DK_init_38 rfl (lv_at hl 0 rfl) ?_
    refine lv_bipush (v := 24) hx hb d_DK_init_39 (by decide) ?_
    refine lv_icmp_ge (tgt := 57) hx hb d_DK_init_41 (by decide) (fun h9 => absurd h9 (show ¬ nI 24 ≤ nI k from nI_ge (by omega) (by decide))) (fun _ => ?_)
    refine lv_aload_n hx hb d_DK_init_44 rfl (lv_at hl 1 rfl) ?_
    refine va_get (D := (dC, dI)) (ci := 2) (v := .ref q1) (C := R_DK) (T := F_DK) (N := 4) hx hb ht in_DK hown hK hP 0 rfl rfl 0 (by decide) (ht _ tb_46) (fun _ h9 => h9) rfl d_DK_init_45 ?_
    refine lv_iload_n hx hb d_DK_init_48 rfl (lv_at hl 0 rfl) ?_
    refine lv_iconst (v := -1) hx hb d_DK_init_49 (by decide) ?_
    refine va_iast hx hb hK hP hD hS 1 0 rfl rfl (vp_in_nI (by omega) (by decide)) d_DK_init_50 (fun H locs hP hD hS => ?_)
    have hP : va_P (dC, dI) cls_ [(h0, .inr (2, [.ref q1, .ref q2, .ref q3, .ref q4])), (q1, .inl (k1, 24, .inl (upd f (nI k).toNatClampNeg (-1))))] H := hP
    have hD : va_D A [(h0, .inr (2, [.ref q1, .ref q2, .ref q3, .ref q4])), (q1, .inl (k1, 24, .inl (upd f (nI k).toNatClampNeg (-1))))] := hD
    refine lv_iinc (k := 0) (v := nI (k + 1)) hx hb d_DK_init_51 hl rfl ((nI_succ k).symm) (by decide) rfl (fun ls hl => ?_)
    have hl : lv_has ls 2 [(1, .int (nI (k + 1))), (0, .ref h0)] := hl
    refine lv_goto (tgt := 38) hx hb d_DK_init_54 (by decide) ?_
    refine ih (k + 1) _ H locs ls (by omega) (fun j hj => ?_) hl hP hD hS
    rw [nI_clamp (by omega)]
    by_cases e9 : j = k
    · subst e9; exact pk_us
    · rw [pk_un e9]; exact hf j (by omega)
set_option maxHeartbeats 4000000 in
set_option maxRecDepth 100000 in
theorem c_DK_init_mk (l : Launch) (dC : Nat → ClassId) (dI : Nat → Nat → Nat) (sz Bd : Nat) (h0 : Nat) : Met l y_DK_init w_DK_init ({ frames := 1, cells := 4, slots := 168, locals := 20 }) (frP (dC, dI) [(h0, .inr (2, [.null, .null, .null, .null]))] [] sz Bd [.ref h0]) (frQ none (fun t => ∃ (q1 : Nat) (q2 : Nat) (q3 : Nat) (q4 : Nat) (k1 : Nat), va_P (dC, dI) cls_ [(h0, .inr (2, [.ref q1, .ref q2, .ref q3, .ref q4])), (q1, .inl (k1, 24, .inl (fun _ => -1)))] t.heap ∧ va_K (dC, dI) cls_ [(k1, .int)] t ∧ va_D (va_A [(h0, .inr (2, [.null, .null, .null, .null]))] sz) [(h0, .inr (2, [.ref q1, .ref q2, .ref q3, .ref q4])), (q1, .inl (k1, 24, .inl (fun _ => -1)))]) (va_A [(h0, .inr (2, [.null, .null, .null, .null]))] sz)) 4 168 (va_A [(h0, .inr (2, [.null, .null, .null, .null]))] sz) := by
  refine Met.ofW (cc := c_DK_init) (maxL := 2) (ret := none) (by decide) rfl ?_
  intro p e s m args below meth c s₁ B hml hv
  obtain ⟨rfl, ⟨hsz, hBs⟩, hP, hK, hD0, hV⟩ := hv
  have hx := B.exec
  have hb := B.bytes
  have hr := B.returns
  have ht : ∀ w ∈ tb_, w.before _ s = true := fun w h => atoms_spec (ws := w_DK_init) B.pre w (List.mem_cons_of_mem _ h)
  have hown : s.vm.findClass R_DK = some m.cls := findClass_of_methodNamed B.named
  have hlocks := B.notSynchronized
  have hin : meth.name = "<init>" := (name_of_methodNamed B.named B.method).1
  subst hsz
  have hD := hD0.self (sz := s.heap.size)
  have hAB : ∀ q, va_A [(h0, .inr (2, [.null, .null, .null, .null]))] s.heap.size q → Bd ≤ q := fr_AB hD0 hBs
  generalize hAe : va_A [(h0, .inr (2, [.null, .null, .null, .null]))] s.heap.size = A at hD hAB ⊢
  have hA : ∀ q : Nat, s.heap.size ≤ q → A q := fun q h => by rw [← hAe]; exact Or.inr h
  have hS : va_S A s.heap s.heap [] := va_S.rf
  have hAO := hV.2.2.2.1
  have hN_PL := hV.2.2.1.1
  have hN_RW := hV.2.2.1.2
  have hP : va_P (dC, dI) cls_ [(h0, .inr (2, [.null, .null, .null, .null]))] s.heap := hP
  have hl := lv_entry ([.ref h0]) (n := 2) (Nat.le_of_ble_eq_true rfl)
  rw [lg_entry_eq]
  generalize (lg_sl ([.ref h0]) ++ List.replicate (2 - (lg_sl ([.ref h0])).length) Slot.unset).toArray = ls at hl ⊢
  have hl : lv_has ls 2 [(0, .ref h0)] := hl
  refine lv_aload_n hx hb d_DK_init_0 rfl (lv_at hl 0 rfl) ?_
  refine W.objInit hx hb hown (ht _ tb_45) (ht _ tb_21) (ht _ tb_22) rfl (by rw [hml]; exact hl.1) rfl d_DK_init_1 (Nat.le_of_ble_eq_true rfl) (Nat.le_of_ble_eq_true rfl) ?_
  refine W.eq (g2 := F0 m 4 ls []) rfl ?_
  refine lv_aload_n hx hb d_DK_init_4 rfl (lv_at hl 0 rfl) ?_
  refine lv_bipush (v := 24) hx hb d_DK_init_5 (by decide) ?_
  refine va_newa (atype := .int) (N' := 24) (a0 := (24, .inl (fun _ => 0))) (ty := .int) (n := 24) hx hb (ht _ tb_39) rfl hK hP hD hS hA (fun _ => rfl) (by decide) (by decide) (by decide) (Nat.le_of_ble_eq_true rfl) (Nat.le_of_ble_eq_true rfl) d_DK_init_7 (fun q1 k2 H hK hP hD hS => ?_)
  have hP : va_P (dC, dI) cls_ [(h0, .inr (2, [.null, .null, .null, .null])), (q1, .inl (k2, 24, .inl (fun _ => 0)))] H := hP
  have hD : va_D A [(h0, .inr (2, [.null, .null, .null, .null])), (q1, .inl (k2, 24, .inl (fun _ => 0)))] := hD
  have hK : va_K (dC, dI) cls_ [(k2, .int)] s := hK
  refine W.cs (cells' := 1) (slots' := 24) rfl rfl ?_
  refine va_putF (D := (dC, dI)) (ci := 2) (v := .ref q1) (ty := .array .int) (C := R_DK) (T := F_DK) (N := 4) hx hb ht in_DK t_DK t_DK_ok n_DK hown hK hP hD hS 0 rfl rfl 0 (by decide) (ht _ tb_46) (fun _ h9 => h9) rfl hin rfl (by decide +kernel) rfl rfl (Nat.le_of_ble_eq_true rfl) d_DK_init_9 (fun H locs hP hD hS => ?_)
  have hP : va_P (dC, dI) cls_ [(h0, .inr (2, [.ref q1, .null, .null, .null])), (q1, .inl (k2, 24, .inl (fun _ => 0)))] H := hP
  have hD : va_D A [(h0, .inr (2, [.ref q1, .null, .null, .null])), (q1, .inl (k2, 24, .inl (fun _ => 0)))] := hD
  refine lv_aload_n hx hb d_DK_init_12 rfl (lv_at hl 0 rfl) ?_
  refine lv_bipush (v := 24) hx hb d_DK_init_13 (by decide) ?_
  refine va_newa (atype := .int) (N' := 24) (a0 := (24, .inl (fun _ => 0))) (ty := .int) (n := 24) hx hb (ht _ tb_39) rfl hK hP hD hS hA (fun _ => rfl) (by decide) (by decide) (by decide) (Nat.le_of_ble_eq_true rfl) (Nat.le_of_ble_eq_true rfl) d_DK_init_15 (fun q3 k4 H hK hP hD hS => ?_)
  have hP : va_P (dC, dI) cls_ [(h0, .inr (2, [.ref q1, .null, .null, .null])), (q1, .inl (k2, 24, .inl (fun _ => 0))), (q3, .inl (k4, 24, .inl (fun _ => 0)))] H := hP
  have hD : va_D A [(h0, .inr (2, [.ref q1, .null, .null, .null])), (q1, .inl (k2, 24, .inl (fun _ => 0))), (q3, .inl (k4, 24, .inl (fun _ => 0)))] := hD
  have hK : va_K (dC, dI) cls_ [(k2, .int), (k4, .int)] s := hK
  refine W.cs (cells' := 2) (slots' := 48) rfl rfl ?_
  refine va_putF (D := (dC, dI)) (ci := 2) (v := .ref q3) (ty := .array .int) (C := R_DK) (T := F_DK) (N := 4) hx hb ht in_DK t_DK t_DK_ok n_DK hown hK hP hD hS 0 rfl rfl 1 (by decide) (ht _ tb_47) (fun _ h9 => h9) rfl hin rfl (by decide +kernel) rfl rfl (Nat.le_of_ble_eq_true rfl) d_DK_init_17 (fun H locs hP hD hS => ?_)
  have hP : va_P (dC, dI) cls_ [(h0, .inr (2, [.ref q1, .ref q3, .null, .null])), (q1, .inl (k2, 24, .inl (fun _ => 0))), (q3, .inl (k4, 24, .inl (fun _ => 0)))] H := hP
  have hD : va_D A [(h0, .inr (2, [.ref q1, .ref q3, .null, .null])), (q1, .inl (k2, 24, .inl (fun _ => 0))), (q3, .inl (k4, 24, .inl (fun _ => 0)))] := hD
  refine lv_aload_n hx hb d_DK_init_20 rfl (lv_at hl 0 rfl) ?_
  refine lv_bipush (v := 24) hx hb d_DK_init_21 (by decide) ?_
  refine va_newa (atype := .int) (N' := 24) (a0 := (24, .inl (fun _ => 0))) (ty := .int) (n := 24) hx hb (ht _ tb_39) rfl hK hP hD hS hA (fun _ => rfl) (by decide) (by decide) (by decide) (Nat.le_of_ble_eq_true rfl) (Nat.le_of_ble_eq_true rfl) d_DK_init_23 (fun q5 k6 H hK hP hD hS => ?_)
  have hP : va_P (dC, dI) cls_ [(h0, .inr (2, [.ref q1, .ref q3, .null, .null])), (q1, .inl (k2, 24, .inl (fun _ => 0))), (q3, .inl (k4, 24, .inl (fun _ => 0))), (q5, .inl (k6, 24, .inl (fun _ => 0)))] H := hP
  have hD : va_D A [(h0, .inr (2, [.ref q1, .ref q3, .null, .null])), (q1, .inl (k2, 24, .inl (fun _ => 0))), (q3, .inl (k4, 24, .inl (fun _ => 0))), (q5, .inl (k6, 24, .inl (fun _ => 0)))] := hD
  have hK : va_K (dC, dI) cls_ [(k2, .int), (k4, .int), (k6, .int)] s := hK
  refine W.cs (cells' := 3) (slots' := 72) rfl rfl ?_
  refine va_putF (D := (dC, dI)) (ci := 2) (v := .ref q5) (ty := .array .int) (C := R_DK) (T := F_DK) (N := 4) hx hb ht in_DK t_DK t_DK_ok n_DK hown hK hP hD hS 0 rfl rfl 2 (by decide) (ht _ tb_48) (fun _ h9 => h9) rfl hin rfl (by decide +kernel) rfl rfl (Nat.le_of_ble_eq_true rfl) d_DK_init_25 (fun H locs hP hD hS => ?_)
  have hP : va_P (dC, dI) cls_ [(h0, .inr (2, [.ref q1, .ref q3, .ref q5, .null])), (q1, .inl (k2, 24, .inl (fun _ => 0))), (q3, .inl (k4, 24, .inl (fun _ => 0))), (q5, .inl (k6, 24, .inl (fun _ => 0)))] H := hP
  have hD : va_D A [(h0, .inr (2, [.ref q1, .ref q3, .ref q5, .null])), (q1, .inl (k2, 24, .inl (fun _ => 0))), (q3, .inl (k4, 24, .inl (fun _ => 0))), (q5, .inl (k6, 24, .inl (fun _ => 0)))] := hD
  refine lv_aload_n hx hb d_DK_init_28 rfl (lv_at hl 0 rfl) ?_
  refine lv_bipush (v := 96) hx hb d_DK_init_29 (by decide) ?_
  refine va_newa (atype := .int) (N' := 96) (a0 := (96, .inl (fun _ => 0))) (ty := .int) (n := 96) hx hb (ht _ tb_39) rfl hK hP hD hS hA (fun _ => rfl) (by decide) (by decide) (by decide) (Nat.le_of_ble_eq_true rfl) (Nat.le_of_ble_eq_true rfl) d_DK_init_31 (fun q7 k8 H hK hP hD hS => ?_)
  have hP : va_P (dC, dI) cls_ [(h0, .inr (2, [.ref q1, .ref q3, .ref q5, .null])), (q1, .inl (k2, 24, .inl (fun _ => 0))), (q3, .inl (k4, 24, .inl (fun _ => 0))), (q5, .inl (k6, 24, .inl (fun _ => 0))), (q7, .inl (k8, 96, .inl (fun _ => 0)))] H := hP
  have hD : va_D A [(h0, .inr (2, [.ref q1, .ref q3, .ref q5, .null])), (q1, .inl (k2, 24, .inl (fun _ => 0))), (q3, .inl (k4, 24, .inl (fun _ => 0))), (q5, .inl (k6, 24, .inl (fun _ => 0))), (q7, .inl (k8, 96, .inl (fun _ => 0)))] := hD
  have hK : va_K (dC, dI) cls_ [(k2, .int), (k4, .int), (k6, .int), (k8, .int)] s := hK
  refine W.cs (cells' := 4) (slots' := 168) rfl rfl ?_
  refine va_putF (D := (dC, dI)) (ci := 2) (v := .ref q7) (ty := .array .int) (C := R_DK) (T := F_DK) (N := 4) hx hb ht in_DK t_DK t_DK_ok n_DK hown hK hP hD hS 0 rfl rfl 3 (by decide) (ht _ tb_49) (fun _ h9 => h9) rfl hin rfl (by decide +kernel) rfl rfl (Nat.le_of_ble_eq_true rfl) d_DK_init_33 (fun H locs hP hD hS => ?_)
  have hP : va_P (dC, dI) cls_ [(h0, .inr (2, [.ref q1, .ref q3, .ref q5, .ref q7])), (q1, .inl (k2, 24, .inl (fun _ => 0))), (q3, .inl (k4, 24, .inl (fun _ => 0))), (q5, .inl (k6, 24, .inl (fun _ => 0))), (q7, .inl (k8, 96, .inl (fun _ => 0)))] H := hP
  have hD : va_D A [(h0, .inr (2, [.ref q1, .ref q3, .ref q5, .ref q7])), (q1, .inl (k2, 24, .inl (fun _ => 0))), (q3, .inl (k4, 24, .inl (fun _ => 0))), (q5, .inl (k6, 24, .inl (fun _ => 0))), (q7, .inl (k8, 96, .inl (fun _ => 0)))] := hD
  refine lv_iconst (v := 0) hx hb d_DK_init_36 (by decide) ?_
  refine lv_istore_n hx hb d_DK_init_37 rfl hl (by decide) rfl (fun ls hl => ?_)
  have hl : lv_has ls 2 [(1, .int 0), (0, .ref h0)] := hl
  have hP := hP.sub (ws' := [(h0, .inr (2, [.ref q1, .ref q3, .ref q5, .ref q7])), (q1, .inl (k2, 24, .inl (fun _ => 0)))]) [0, 1] rfl
  have hD := hD.sub (ws' := [(h0, .inr (2, [.ref q1, .ref q3, .ref q5, .ref q7])), (q1, .inl (k2, 24, .inl (fun _ => 0)))]) [0, 1] (by decide) rfl
  have hK := hK.sub (tys' := [(k2, .int)]) [0] rfl
  refine lp_DK_init dC dI h0 q1 q3 q5 q7 k2 hx hb hml ht hown hK (fun f H locs ls hf hl hP hD hS => ?_) 24 0 _ _ _ _ rfl (fun j h => absurd h (Nat.not_lt_zero j)) (by rw [nI_0]; exact hl) hP hD hS
  have hD := hD.set (e := .inl (k2, 24, .inl (fun _ => -1))) (show ([(h0, .inr (2, [.ref q1, .ref q3, .ref q5, .ref q7])), (q1, .inl (k2, 24, .inl f))] : va_W)[1]? = some _ from rfl)
  have hP := ar_P (g := fun _ => -1) hP (show ([(h0, .inr (2, [.ref q1, .ref q3, .ref q5, .ref q7])), (q1, .inl (k2, 24, .inl f))] : va_W)[1]? = some _ from rfl) hf
  have hP : va_P (dC, dI) cls_ [(h0, .inr (2, [.ref q1, .ref q3, .ref q5, .ref q7])), (q1, .inl (k2, 24, .inl (fun _ => -1)))] H := hP
  have hD : va_D A [(h0, .inr (2, [.ref q1, .ref q3, .ref q5, .ref q7])), (q1, .inl (k2, 24, .inl (fun _ => -1)))] := hD
  have hP9 := hP.sub (ws' := [(h0, .inr (2, [.ref q1, .ref q3, .ref q5, .ref q7])), (q1, .inl (k2, 24, .inl (fun _ => -1)))]) [0, 1] rfl
  have hD9 := hD.sub (ws' := [(h0, .inr (2, [.ref q1, .ref q3, .ref q5, .ref q7])), (q1, .inl (k2, 24, .inl (fun _ => -1)))]) [0, 1] (by decide) rfl
  have hK9 := hK.sub (tys' := [(k2, .int)]) [0] rfl
  exact W.vret hx hb hr (fun t ht9 hW => ⟨rfl, ⟨q1, q3, q5, q7, k2, by rw [ht9]; exact hP9, va_K.moved hW.alike hK9, hD9⟩, hS.F ht9⟩) hS.2.2 d_DK_init_57
set_option maxHeartbeats 4000000 in
set_option maxRecDepth 100000 in
theorem c_RQ_init_mk (l : Launch) (dC : Nat → ClassId) (dI : Nat → Nat → Nat) (sz Bd : Nat) (h0 : Nat) (nu ch st ln pr pd : Int32) : Met l y_RQ_init w_RQ_init ({ frames := 1, cells := 1, slots := 6, locals := 20 }) (frP (dC, dI) [(h0, .inr (4, [.int 0, .int 0, .int 0, .int 0, .int 0, .int 0, .int 0, .null, .int 0, .int 0, .int 0, .int 0, .int 0, .int 0, .int 0, .int 0, .int 0]))] [] sz Bd [.ref h0, .int nu, .int ch, .int st, .int ln, .int pr, .int pd]) (frQ none (fun t => ∃ (q1 : Nat), va_P (dC, dI) cls_ [(h0, .inr (4, [.int nu, .int ch, .int st, .int (st + ln), .int pr, .int (pd / 10), .int (pd - pd / 10 * 10), .ref q1, .int 0, .int (-1), .int (-1), .int 0, .int 0, .int 0, .int 0, .int 0, .int 0]))] t.heap ∧ va_K (dC, dI) cls_ [] t ∧ va_D (va_A [(h0, .inr (4, [.int 0, .int 0, .int 0, .int 0, .int 0, .int 0, .int 0, .null, .int 0, .int 0, .int 0, .int 0, .int 0, .int 0, .int 0, .int 0, .int 0]))] sz) [(h0, .inr (4, [.int nu, .int ch, .int st, .int (st + ln), .int pr, .int (pd / 10), .int (pd - pd / 10 * 10), .ref q1, .int 0, .int (-1), .int (-1), .int 0, .int 0, .int 0, .int 0, .int 0, .int 0]))]) (va_A [(h0, .inr (4, [.int 0, .int 0, .int 0, .int 0, .int 0, .int 0, .int 0, .null, .int 0, .int 0, .int 0, .int 0, .int 0, .int 0, .int 0, .int 0, .int 0]))] sz)) 1 6 (va_A [(h0, .inr (4, [.int 0, .int 0, .int 0, .int 0, .int 0, .int 0, .int 0, .null, .int 0, .int 0, .int 0, .int 0, .int 0, .int 0, .int 0, .int 0, .int 0]))] sz) := by
  refine Met.ofW (cc := c_RQ_init) (maxL := 7) (ret := none) (by decide) rfl ?_
  intro p e s m args below meth c s₁ B hml hv
  obtain ⟨rfl, ⟨hsz, hBs⟩, hP, hK, hD0, hV⟩ := hv
  have hx := B.exec
  have hb := B.bytes
  have hr := B.returns
  have ht : ∀ w ∈ tb_, w.before _ s = true := fun w h => atoms_spec (ws := w_RQ_init) B.pre w (List.mem_cons_of_mem _ h)
  have hown : s.vm.findClass R_RQ = some m.cls := findClass_of_methodNamed B.named
  have hlocks := B.notSynchronized
  have hin : meth.name = "<init>" := (name_of_methodNamed B.named B.method).1
  subst hsz
  have hD := hD0.self (sz := s.heap.size)
  have hAB : ∀ q, va_A [(h0, .inr (4, [.int 0, .int 0, .int 0, .int 0, .int 0, .int 0, .int 0, .null, .int 0, .int 0, .int 0, .int 0, .int 0, .int 0, .int 0, .int 0, .int 0]))] s.heap.size q → Bd ≤ q := fr_AB hD0 hBs
  generalize hAe : va_A [(h0, .inr (4, [.int 0, .int 0, .int 0, .int 0, .int 0, .int 0, .int 0, .null, .int 0, .int 0, .int 0, .int 0, .int 0, .int 0, .int 0, .int 0, .int 0]))] s.heap.size = A at hD hAB ⊢
  have hA : ∀ q : Nat, s.heap.size ≤ q → A q := fun q h => by rw [← hAe]; exact Or.inr h
  have hS : va_S A s.heap s.heap [] := va_S.rf
  have hAO := hV.2.2.2.1
  have hN_PL := hV.2.2.1.1
  have hN_RW := hV.2.2.1.2
  have hP : va_P (dC, dI) cls_ [(h0, .inr (4, [.int 0, .int 0, .int 0, .int 0, .int 0, .int 0, .int 0, .null, .int 0, .int 0, .int 0, .int 0, .int 0, .int 0, .int 0, .int 0, .int 0]))] s.heap := hP
  have hl := lv_entry ([.ref h0, .int nu, .int ch, .int st, .int ln, .int pr, .int pd]) (n := 7) (Nat.le_of_ble_eq_true rfl)
  rw [lg_entry_eq]
  generalize (lg_sl ([.ref h0, .int nu, .int ch, .int st, .int ln, .int pr, .int pd]) ++ List.replicate (7 - (lg_sl ([.ref h0, .int nu, .int ch, .int st, .int ln, .int pr, .int pd])).length) Slot.unset).toArray = ls at hl ⊢
  have hl : lv_has ls 7 [(0, .ref h0), (1, .int nu), (2, .int ch), (3, .int st), (4, .int ln), (5, .int pr), (6, .int pd)] := hl
  refine lv_aload_n hx hb d_RQ_init_0 rfl (lv_at hl 0 rfl) ?_
  refine W.objInit hx hb hown (ht _ tb_371) (ht _ tb_21) (ht _ tb_22) rfl (by rw [hml]; exact hl.1) rfl d_RQ_init_1 (Nat.le_of_ble_eq_true rfl) (Nat.le_of_ble_eq_true rfl) ?_
  refine W.eq (g2 := F0 m 4 ls []) rfl ?_
  refine lv_aload_n hx hb d_RQ_init_4 rfl (lv_at hl 0 rfl) ?_
  refine lv_bipush (v := 6) hx hb d_RQ_init_5 (by decide) ?_
  refine va_newa (atype := .int) (N' := 6) (a0 := (6, .inl (fun _ => 0))) (ty := .int) (n := 6) hx hb (ht _ tb_39) rfl hK hP hD hS hA (fun _ => rfl) (by decide) (by decide) (by decide) (Nat.le_of_ble_eq_true rfl) (Nat.le_of_ble_eq_true rfl) d_RQ_init_7 (fun q1 k2 H hK hP hD hS => ?_)
  have hP : va_P (dC, dI) cls_ [(h0, .inr (4, [.int 0, .int 0, .int 0, .int 0, .int 0, .int 0, .int 0, .null, .int 0, .int 0, .int 0, .int 0, .int 0, .int 0, .int 0, .int 0, .int 0])), (q1, .inl (k2, 6, .inl (fun _ => 0)))] H := hP
  have hD : va_D A [(h0, .inr (4, [.int 0, .int 0, .int 0, .int 0, .int 0, .int 0, .int 0, .null, .int 0, .int 0, .int 0, .int 0, .int 0, .int 0, .int 0, .int 0, .int 0])), (q1, .inl (k2, 6, .inl (fun _ => 0)))] := hD
  have hK : va_K (dC, dI) cls_ [(k2, .int)] s := hK
  refine W.cs (cells' := 1) (slots' := 6) rfl rfl ?_
  refine va_putF (D := (dC, dI)) (ci := 4) (v := .ref q1) (ty := .array .int) (C := R_RQ) (T := F_RQ) (N := 17) hx hb ht in_RQ t_RQ t_RQ_ok n_RQ hown hK hP hD hS 0 rfl rfl 7 (by decide) (ht _ tb_389) (fun _ h9 => h9) rfl hin rfl (by decide +kernel) rfl rfl (Nat.le_of_ble_eq_true rfl) d_RQ_init_9 (fun H locs hP hD hS => ?_)
  have hP : va_P (dC, dI) cls_ [(h0, .inr (4, [.int 0, .int 0, .int 0, .int 0, .int 0, .int 0, .int 0, .ref q1, .int 0, .int 0, .int 0, .int 0, .int 0, .int 0, .int 0, .int 0, .int 0])), (q1, .inl (k2, 6, .inl (fun _ => 0)))] H := hP
  have hD : va_D A [(h0, .inr (4, [.int 0, .int 0, .int 0, .int 0, .int 0, .int 0, .int 0, .ref q1, .int 0, .int 0, .int 0, .int 0, .int 0, .int 0, .int 0, .int 0, .int 0])), (q1, .inl (k2, 6, .inl (fun _ => 0)))] := hD
  refine lv_aload_n hx hb d_RQ_init_12 rfl (lv_at hl 0 rfl) ?_
  refine lv_iconst (v := 0) hx hb d_RQ_init_13 (by decide) ?_
  refine va_put (D := (dC, dI)) (ci := 4) (v := .int 0) (ty := .int) (C := R_RQ) (T := F_RQ) (N := 17) hx hb ht in_RQ t_RQ t_RQ_ok n_RQ hown hK hP hD hS 0 rfl rfl 8 (by decide) (ht _ tb_391) (fun _ h9 => h9) rfl (by decide +kernel) rfl rfl (Nat.le_of_ble_eq_true rfl) d_RQ_init_14 (fun H locs hP hD hS => ?_)
  have hP : va_P (dC, dI) cls_ [(h0, .inr (4, [.int 0, .int 0, .int 0, .int 0, .int 0, .int 0, .int 0, .ref q1, .int 0, .int 0, .int 0, .int 0, .int 0, .int 0, .int 0, .int 0, .int 0])), (q1, .inl (k2, 6, .inl (fun _ => 0)))] H := hP
  have hD : va_D A [(h0, .inr (4, [.int 0, .int 0, .int 0, .int 0, .int 0, .int 0, .int 0, .ref q1, .int 0, .int 0, .int 0, .int 0, .int 0, .int 0, .int 0, .int 0, .int 0])), (q1, .inl (k2, 6, .inl (fun _ => 0)))] := hD
  refine lv_aload_n hx hb d_RQ_init_17 rfl (lv_at hl 0 rfl) ?_
  refine lv_iconst (v := -1) hx hb d_RQ_init_18 (by decide) ?_
  refine va_put (D := (dC, dI)) (ci := 4) (v := .int (-1)) (ty := .int) (C := R_RQ) (T := F_RQ) (N := 17) hx hb ht in_RQ t_RQ t_RQ_ok n_RQ hown hK hP hD hS 0 rfl rfl 9 (by decide) (ht _ tb_394) (fun _ h9 => h9) rfl (by decide +kernel) rfl rfl (Nat.le_of_ble_eq_true rfl) d_RQ_init_19 (fun H locs hP hD hS => ?_)
  have hP : va_P (dC, dI) cls_ [(h0, .inr (4, [.int 0, .int 0, .int 0, .int 0, .int 0, .int 0, .int 0, .ref q1, .int 0, .int (-1), .int 0, .int 0, .int 0, .int 0, .int 0, .int 0, .int 0])), (q1, .inl (k2, 6, .inl (fun _ => 0)))] H := hP
  have hD : va_D A [(h0, .inr (4, [.int 0, .int 0, .int 0, .int 0, .int 0, .int 0, .int 0, .ref q1, .int 0, .int (-1), .int 0, .int 0, .int 0, .int 0, .int 0, .int 0, .int 0])), (q1, .inl (k2, 6, .inl (fun _ => 0)))] := hD
  refine lv_aload_n hx hb d_RQ_init_22 rfl (lv_at hl 0 rfl) ?_
  refine lv_iconst (v := -1) hx hb d_RQ_init_23 (by decide) ?_
  refine va_put (D := (dC, dI)) (ci := 4) (v := .int (-1)) (ty := .int) (C := R_RQ) (T := F_RQ) (N := 17) hx hb ht in_RQ t_RQ t_RQ_ok n_RQ hown hK hP hD hS 0 rfl rfl 10 (by decide) (ht _ tb_396) (fun _ h9 => h9) rfl (by decide +kernel) rfl rfl (Nat.le_of_ble_eq_true rfl) d_RQ_init_24 (fun H locs hP hD hS => ?_)
  have hP : va_P (dC, dI) cls_ [(h0, .inr (4, [.int 0, .int 0, .int 0, .int 0, .int 0, .int 0, .int 0, .ref q1, .int 0, .int (-1), .int (-1), .int 0, .int 0, .int 0, .int 0, .int 0, .int 0])), (q1, .inl (k2, 6, .inl (fun _ => 0)))] H := hP
  have hD : va_D A [(h0, .inr (4, [.int 0, .int 0, .int 0, .int 0, .int 0, .int 0, .int 0, .ref q1, .int 0, .int (-1), .int (-1), .int 0, .int 0, .int 0, .int 0, .int 0, .int 0])), (q1, .inl (k2, 6, .inl (fun _ => 0)))] := hD
  refine lv_aload_n hx hb d_RQ_init_27 rfl (lv_at hl 0 rfl) ?_
  refine lv_iconst (v := 0) hx hb d_RQ_init_28 (by decide) ?_
  refine va_put (D := (dC, dI)) (ci := 4) (v := .int 0) (ty := .int) (C := R_RQ) (T := F_RQ) (N := 17) hx hb ht in_RQ t_RQ t_RQ_ok n_RQ hown hK hP hD hS 0 rfl rfl 11 (by decide) (ht _ tb_399) (fun _ h9 => h9) rfl (by decide +kernel) rfl rfl (Nat.le_of_ble_eq_true rfl) d_RQ_init_29 (fun H locs hP hD hS => ?_)
  have hP : va_P (dC, dI) cls_ [(h0, .inr (4, [.int 0, .int 0, .int 0, .int 0, .int 0, .int 0, .int 0, .ref q1, .int 0, .int (-1), .int (-1), .int 0, .int 0, .int 0, .int 0, .int 0, .int 0])), (q1, .inl (k2, 6, .inl (fun _ => 0)))] H := hP
  have hD : va_D A [(h0, .inr (4, [.int 0, .int 0, .int 0, .int 0, .int 0, .int 0, .int 0, .ref q1, .int 0, .int (-1), .int (-1), .int 0, .int 0, .int 0, .int 0, .int 0, .int 0])), (q1, .inl (k2, 6, .inl (fun _ => 0)))] := hD
  refine lv_aload_n hx hb d_RQ_init_32 rfl (lv_at hl 0 rfl) ?_
  refine lv_iconst (v := 0) hx hb d_RQ_init_33 (by decide) ?_
  refine va_put (D := (dC, dI)) (ci := 4) (v := .int 0) (ty := .int) (C := R_RQ) (T := F_RQ) (N := 17) hx hb ht in_RQ t_RQ t_RQ_ok n_RQ hown hK hP hD hS 0 rfl rfl 12 (by decide) (ht _ tb_402) (fun _ h9 => h9) rfl (by decide +kernel) rfl rfl (Nat.le_of_ble_eq_true rfl) d_RQ_init_34 (fun H locs hP hD hS => ?_)
  have hP : va_P (dC, dI) cls_ [(h0, .inr (4, [.int 0, .int 0, .int 0, .int 0, .int 0, .int 0, .int 0, .ref q1, .int 0, .int (-1), .int (-1), .int 0, .int 0, .int 0, .int 0, .int 0, .int 0])), (q1, .inl (k2, 6, .inl (fun _ => 0)))] H := hP
  have hD : va_D A [(h0, .inr (4, [.int 0, .int 0, .int 0, .int 0, .int 0, .int 0, .int 0, .ref q1, .int 0, .int (-1), .int (-1), .int 0, .int 0, .int 0, .int 0, .int 0, .int 0])), (q1, .inl (k2, 6, .inl (fun _ => 0)))] := hD
  refine lv_aload_n hx hb d_RQ_init_37 rfl (lv_at hl 0 rfl) ?_
  refine lv_iconst (v := 0) hx hb d_RQ_init_38 (by decide) ?_
  refine va_put (D := (dC, dI)) (ci := 4) (v := .int 0) (ty := .int) (C := R_RQ) (T := F_RQ) (N := 17) hx hb ht in_RQ t_RQ t_RQ_ok n_RQ hown hK hP hD hS 0 rfl rfl 13 (by decide) (ht _ tb_405) (fun _ h9 => h9) rfl (by decide +kernel) rfl rfl (Nat.le_of_ble_eq_true rfl) d_RQ_init_39 (fun H locs hP hD hS => ?_)
  have hP : va_P (dC, dI) cls_ [(h0, .inr (4, [.int 0, .int 0, .int 0, .int 0, .int 0, .int 0, .int 0, .ref q1, .int 0, .int (-1), .int (-1), .int 0, .int 0, .int 0, .int 0, .int 0, .int 0])), (q1, .inl (k2, 6, .inl (fun _ => 0)))] H := hP
  have hD : va_D A [(h0, .inr (4, [.int 0, .int 0, .int 0, .int 0, .int 0, .int 0, .int 0, .ref q1, .int 0, .int (-1), .int (-1), .int 0, .int 0, .int 0, .int 0, .int 0, .int 0])), (q1, .inl (k2, 6, .inl (fun _ => 0)))] := hD
  refine lv_aload_n hx hb d_RQ_init_42 rfl (lv_at hl 0 rfl) ?_
  refine lv_iconst (v := 0) hx hb d_RQ_init_43 (by decide) ?_
  refine va_put (D := (dC, dI)) (ci := 4) (v := .int 0) (ty := .int) (C := R_RQ) (T := F_RQ) (N := 17) hx hb ht in_RQ t_RQ t_RQ_ok n_RQ hown hK hP hD hS 0 rfl rfl 14 (by decide) (ht _ tb_407) (fun _ h9 => h9) rfl (by decide +kernel) rfl rfl (Nat.le_of_ble_eq_true rfl) d_RQ_init_44 (fun H locs hP hD hS => ?_)
  have hP : va_P (dC, dI) cls_ [(h0, .inr (4, [.int 0, .int 0, .int 0, .int 0, .int 0, .int 0, .int 0, .ref q1, .int 0, .int (-1), .int (-1), .int 0, .int 0, .int 0, .int 0, .int 0, .int 0])), (q1, .inl (k2, 6, .inl (fun _ => 0)))] H := hP
  have hD : va_D A [(h0, .inr (4, [.int 0, .int 0, .int 0, .int 0, .int 0, .int 0, .int 0, .ref q1, .int 0, .int (-1), .int (-1), .int 0, .int 0, .int 0, .int 0, .int 0, .int 0])), (q1, .inl (k2, 6, .inl (fun _ => 0)))] := hD
  refine lv_aload_n hx hb d_RQ_init_47 rfl (lv_at hl 0 rfl) ?_
  refine lv_iconst (v := 0) hx hb d_RQ_init_48 (by decide) ?_
  refine va_put (D := (dC, dI)) (ci := 4) (v := .int 0) (ty := .boolean) (C := R_RQ) (T := F_RQ) (N := 17) hx hb ht in_RQ t_RQ t_RQ_ok n_RQ hown hK hP hD hS 0 rfl rfl 15 (by decide) (ht _ tb_409) (fun _ h9 => h9) rfl (by decide +kernel) rfl rfl (Nat.le_of_ble_eq_true rfl) d_RQ_init_49 (fun H locs hP hD hS => ?_)
  have hP : va_P (dC, dI) cls_ [(h0, .inr (4, [.int 0, .int 0, .int 0, .int 0, .int 0, .int 0, .int 0, .ref q1, .int 0, .int (-1), .int (-1), .int 0, .int 0, .int 0, .int 0, .int 0, .int 0])), (q1, .inl (k2, 6, .inl (fun _ => 0)))] H := hP
  have hD : va_D A [(h0, .inr (4, [.int 0, .int 0, .int 0, .int 0, .int 0, .int 0, .int 0, .ref q1, .int 0, .int (-1), .int (-1), .int 0, .int 0, .int 0, .int 0, .int 0, .int 0])), (q1, .inl (k2, 6, .inl (fun _ => 0)))] := hD
  refine lv_aload_n hx hb d_RQ_init_52 rfl (lv_at hl 0 rfl) ?_
  refine lv_iconst (v := 0) hx hb d_RQ_init_53 (by decide) ?_
  refine va_put (D := (dC, dI)) (ci := 4) (v := .int 0) (ty := .boolean) (C := R_RQ) (T := F_RQ) (N := 17) hx hb ht in_RQ t_RQ t_RQ_ok n_RQ hown hK hP hD hS 0 rfl rfl 16 (by decide) (ht _ tb_411) (fun _ h9 => h9) rfl (by decide +kernel) rfl rfl (Nat.le_of_ble_eq_true rfl) d_RQ_init_54 (fun H locs hP hD hS => ?_)
  have hP : va_P (dC, dI) cls_ [(h0, .inr (4, [.int 0, .int 0, .int 0, .int 0, .int 0, .int 0, .int 0, .ref q1, .int 0, .int (-1), .int (-1), .int 0, .int 0, .int 0, .int 0, .int 0, .int 0])), (q1, .inl (k2, 6, .inl (fun _ => 0)))] H := hP
  have hD : va_D A [(h0, .inr (4, [.int 0, .int 0, .int 0, .int 0, .int 0, .int 0, .int 0, .ref q1, .int 0, .int (-1), .int (-1), .int 0, .int 0, .int 0, .int 0, .int 0, .int 0])), (q1, .inl (k2, 6, .inl (fun _ => 0)))] := hD
  refine lv_aload_n hx hb d_RQ_init_57 rfl (lv_at hl 0 rfl) ?_
  refine lv_iload_n hx hb d_RQ_init_58 rfl (lv_at hl 1 rfl) ?_
  refine va_putF (D := (dC, dI)) (ci := 4) (v := .int nu) (ty := .int) (C := R_RQ) (T := F_RQ) (N := 17) hx hb ht in_RQ t_RQ t_RQ_ok n_RQ hown hK hP hD hS 0 rfl rfl 0 (by decide) (ht _ tb_372) (fun _ h9 => h9) rfl hin rfl (by decide +kernel) rfl rfl (Nat.le_of_ble_eq_true rfl) d_RQ_init_59 (fun H locs hP hD hS => ?_)
  have hP : va_P (dC, dI) cls_ [(h0, .inr (4, [.int nu, .int 0, .int 0, .int 0, .int 0, .int 0, .int 0, .ref q1, .int 0, .int (-1), .int (-1), .int 0, .int 0, .int 0, .int 0, .int 0, .int 0])), (q1, .inl (k2, 6, .inl (fun _ => 0)))] H := hP
  have hD : va_D A [(h0, .inr (4, [.int nu, .int 0, .int 0, .int 0, .int 0, .int 0, .int 0, .ref q1, .int 0, .int (-1), .int (-1), .int 0, .int 0, .int 0, .int 0, .int 0, .int 0])), (q1, .inl (k2, 6, .inl (fun _ => 0)))] := hD
  refine lv_aload_n hx hb d_RQ_init_62 rfl (lv_at hl 0 rfl) ?_
  refine lv_iload_n hx hb d_RQ_init_63 rfl (lv_at hl 2 rfl) ?_
  refine va_putF (D := (dC, dI)) (ci := 4) (v := .int ch) (ty := .int) (C := R_RQ) (T := F_RQ) (N := 17) hx hb ht in_RQ t_RQ t_RQ_ok n_RQ hown hK hP hD hS 0 rfl rfl 1 (by decide) (ht _ tb_374) (fun _ h9 => h9) rfl hin rfl (by decide +kernel) rfl rfl (Nat.le_of_ble_eq_true rfl) d_RQ_init_64 (fun H locs hP hD hS => ?_)
  have hP : va_P (dC, dI) cls_ [(h0, .inr (4, [.int nu, .int ch, .int 0, .int 0, .int 0, .int 0, .int 0, .ref q1, .int 0, .int (-1), .int (-1), .int 0, .int 0, .int 0, .int 0, .int 0, .int 0])), (q1, .inl (k2, 6, .inl (fun _ => 0)))] H := hP
  have hD : va_D A [(h0, .inr (4, [.int nu, .int ch, .int 0, .int 0, .int 0, .int 0, .int 0, .ref q1, .int 0, .int (-1), .int (-1), .int 0, .int 0, .int 0, .int 0, .int 0, .int 0])), (q1, .inl (k2, 6, .inl (fun _ => 0)))] := hD
  refine lv_aload_n hx hb d_RQ_init_67 rfl (lv_at hl 0 rfl) ?_
  refine lv_iload_n hx hb d_RQ_init_68 rfl (lv_at hl 3 rfl) ?_
  refine va_putF (D := (dC, dI)) (ci := 4) (v := .int st) (ty := .int) (C := R_RQ) (T := F_RQ) (N := 17) hx hb ht in_RQ t_RQ t_RQ_ok n_RQ hown hK hP hD hS 0 rfl rfl 2 (by decide) (ht _ tb_377) (fun _ h9 => h9) rfl hin rfl (by decide +kernel) rfl rfl (Nat.le_of_ble_eq_true rfl) d_RQ_init_69 (fun H locs hP hD hS => ?_)
  have hP : va_P (dC, dI) cls_ [(h0, .inr (4, [.int nu, .int ch, .int st, .int 0, .int 0, .int 0, .int 0, .ref q1, .int 0, .int (-1), .int (-1), .int 0, .int 0, .int 0, .int 0, .int 0, .int 0])), (q1, .inl (k2, 6, .inl (fun _ => 0)))] H := hP
  have hD : va_D A [(h0, .inr (4, [.int nu, .int ch, .int st, .int 0, .int 0, .int 0, .int 0, .ref q1, .int 0, .int (-1), .int (-1), .int 0, .int 0, .int 0, .int 0, .int 0, .int 0])), (q1, .inl (k2, 6, .inl (fun _ => 0)))] := hD
  refine lv_aload_n hx hb d_RQ_init_72 rfl (lv_at hl 0 rfl) ?_
  refine lv_iload_n hx hb d_RQ_init_73 rfl (lv_at hl 3 rfl) ?_
  refine lv_iload hx hb d_RQ_init_74 (lv_at hl 4 rfl) ?_
  refine lv_iadd hx hb d_RQ_init_76 ?_
  refine va_putF (D := (dC, dI)) (ci := 4) (v := .int (st + ln)) (ty := .int) (C := R_RQ) (T := F_RQ) (N := 17) hx hb ht in_RQ t_RQ t_RQ_ok n_RQ hown hK hP hD hS 0 rfl rfl 3 (by decide) (ht _ tb_380) (fun _ h9 => h9) rfl hin rfl (by decide +kernel) rfl rfl (Nat.le_of_ble_eq_true rfl) d_RQ_init_77 (fun H locs hP hD hS => ?_)
  have hP : va_P (dC, dI) cls_ [(h0, .inr (4, [.int nu, .int ch, .int st, .int (st + ln), .int 0, .int 0, .int 0, .ref q1, .int 0, .int (-1), .int (-1), .int 0, .int 0, .int 0, .int 0, .int 0, .int 0])), (q1, .inl (k2, 6, .inl (fun _ => 0)))] H := hP
  have hD : va_D A [(h0, .inr (4, [.int nu, .int ch, .int st, .int (st + ln), .int 0, .int 0, .int 0, .ref q1, .int 0, .int (-1), .int (-1), .int 0, .int 0, .int 0, .int 0, .int 0, .int 0])), (q1, .inl (k2, 6, .inl (fun _ => 0)))] := hD
  refine lv_aload_n hx hb d_RQ_init_80 rfl (lv_at hl 0 rfl) ?_
  refine lv_iload hx hb d_RQ_init_81 (lv_at hl 5 rfl) ?_
  refine va_putF (D := (dC, dI)) (ci := 4) (v := .int pr) (ty := .int) (C := R_RQ) (T := F_RQ) (N := 17) hx hb ht in_RQ t_RQ t_RQ_ok n_RQ hown hK hP hD hS 0 rfl rfl 4 (by decide) (ht _ tb_383) (fun _ h9 => h9) rfl hin rfl (by decide +kernel) rfl rfl (Nat.le_of_ble_eq_true rfl) d_RQ_init_83 (fun H locs hP hD hS => ?_)
  have hP : va_P (dC, dI) cls_ [(h0, .inr (4, [.int nu, .int ch, .int st, .int (st + ln), .int pr, .int 0, .int 0, .ref q1, .int 0, .int (-1), .int (-1), .int 0, .int 0, .int 0, .int 0, .int 0, .int 0])), (q1, .inl (k2, 6, .inl (fun _ => 0)))] H := hP
  have hD : va_D A [(h0, .inr (4, [.int nu, .int ch, .int st, .int (st + ln), .int pr, .int 0, .int 0, .ref q1, .int 0, .int (-1), .int (-1), .int 0, .int 0, .int 0, .int 0, .int 0, .int 0])), (q1, .inl (k2, 6, .inl (fun _ => 0)))] := hD
  refine lv_aload_n hx hb d_RQ_init_86 rfl (lv_at hl 0 rfl) ?_
  refine lv_iload hx hb d_RQ_init_87 (lv_at hl 6 rfl) ?_
  refine lv_bipush (v := 10) hx hb d_RQ_init_89 (by decide) ?_
  refine lv_idiv hx hb d_RQ_init_91 (by decide) ?_
  refine va_putF (D := (dC, dI)) (ci := 4) (v := .int (pd / 10)) (ty := .int) (C := R_RQ) (T := F_RQ) (N := 17) hx hb ht in_RQ t_RQ t_RQ_ok n_RQ hown hK hP hD hS 0 rfl rfl 5 (by decide) (ht _ tb_385) (fun _ h9 => h9) rfl hin rfl (by decide +kernel) rfl rfl (Nat.le_of_ble_eq_true rfl) d_RQ_init_92 (fun H locs hP hD hS => ?_)
  have hP : va_P (dC, dI) cls_ [(h0, .inr (4, [.int nu, .int ch, .int st, .int (st + ln), .int pr, .int (pd / 10), .int 0, .ref q1, .int 0, .int (-1), .int (-1), .int 0, .int 0, .int 0, .int 0, .int 0, .int 0])), (q1, .inl (k2, 6, .inl (fun _ => 0)))] H := hP
  have hD : va_D A [(h0, .inr (4, [.int nu, .int ch, .int st, .int (st + ln), .int pr, .int (pd / 10), .int 0, .ref q1, .int 0, .int (-1), .int (-1), .int 0, .int 0, .int 0, .int 0, .int 0, .int 0])), (q1, .inl (k2, 6, .inl (fun _ => 0)))] := hD
  refine lv_aload_n hx hb d_RQ_init_95 rfl (lv_at hl 0 rfl) ?_
  refine lv_iload hx hb d_RQ_init_96 (lv_at hl 6 rfl) ?_
  refine lv_bipush (v := 10) hx hb d_RQ_init_98 (by decide) ?_
  refine lv_irem hx hb d_RQ_init_100 (by decide) ?_
  refine va_putF (D := (dC, dI)) (ci := 4) (v := .int (pd - pd / 10 * 10)) (ty := .int) (C := R_RQ) (T := F_RQ) (N := 17) hx hb ht in_RQ t_RQ t_RQ_ok n_RQ hown hK hP hD hS 0 rfl rfl 6 (by decide) (ht _ tb_387) (fun _ h9 => h9) rfl hin rfl (by decide +kernel) rfl rfl (Nat.le_of_ble_eq_true rfl) d_RQ_init_101 (fun H locs hP hD hS => ?_)
  have hP : va_P (dC, dI) cls_ [(h0, .inr (4, [.int nu, .int ch, .int st, .int (st + ln), .int pr, .int (pd / 10), .int (pd - pd / 10 * 10), .ref q1, .int 0, .int (-1), .int (-1), .int 0, .int 0, .int 0, .int 0, .int 0, .int 0])), (q1, .inl (k2, 6, .inl (fun _ => 0)))] H := hP
  have hD : va_D A [(h0, .inr (4, [.int nu, .int ch, .int st, .int (st + ln), .int pr, .int (pd / 10), .int (pd - pd / 10 * 10), .ref q1, .int 0, .int (-1), .int (-1), .int 0, .int 0, .int 0, .int 0, .int 0, .int 0])), (q1, .inl (k2, 6, .inl (fun _ => 0)))] := hD
  have hP9 := hP.sub (ws' := [(h0, .inr (4, [.int nu, .int ch, .int st, .int (st + ln), .int pr, .int (pd / 10), .int (pd - pd / 10 * 10), .ref q1, .int 0, .int (-1), .int (-1), .int 0, .int 0, .int 0, .int 0, .int 0, .int 0]))]) [0] rfl
  have hD9 := hD.sub (ws' := [(h0, .inr (4, [.int nu, .int ch, .int st, .int (st + ln), .int pr, .int (pd / 10), .int (pd - pd / 10 * 10), .ref q1, .int 0, .int (-1), .int (-1), .int 0, .int 0, .int 0, .int 0, .int 0, .int 0]))]) [0] (by decide) rfl
  have hK9 := hK.sub (tys' := []) [] rfl
  exact W.vret hx hb hr (fun t ht9 hW => ⟨rfl, ⟨q1, by rw [ht9]; exact hP9, va_K.moved hW.alike hK9, hD9⟩, hS.F ht9⟩) hS.2.2 d_RQ_init_104
set_option maxHeartbeats 4000000 in
set_option maxRecDepth 100000 in
theorem c_TT_init_mk (l : Launch) (dC : Nat → ClassId) (dI : Nat → Nat → Nat) (sz Bd : Nat) (h0 : Nat) : Met l y_TT_init w_TT_init ({ frames := 2, cells := 11, slots := 267, locals := 41 }) (frP (dC, dI) [(h0, .inr (0, [.null, .null, .null, .null, .null, .int 0, .int 0, .int 0]))] [] sz Bd [.ref h0]) (frQ none (fun t => ∃ (rq : Nat) (oa : Nat) (pl : Nat) (dk : Nat) (rw : Nat) (k1 : Nat) (k2 : Nat) (q9 : Nat) (d1 : Nat) (d2 : Nat) (d3 : Nat) (d4 : Nat) (k3 : Nat) (r1 : Nat), va_P (dC, dI) cls_ [(h0, .inr (0, [.ref rq, .ref oa, .ref pl, .ref dk, .ref rw, .int 0, .int 0, .int (-1)])), (rq, .inl (k1, 40, .inr (.inr (.inr (.inr (fun _ => none)))))), (oa, .inl (k2, 8, .inl (fun _ => 0))), (pl, .inr (1, [.ref q9, .int 0])), (dk, .inr (2, [.ref d1, .ref d2, .ref d3, .ref d4])), (d1, .inl (k3, 24, .inl (fun _ => -1))), (rw, .inr (3, [.ref r1, .int 0, .int 0]))] t.heap ∧ va_K (dC, dI) cls_ [(k1, .object "TwinTuners$Request"), (k2, .int), (k3, .int)] t ∧ va_D (va_A [(h0, .inr (0, [.null, .null, .null, .null, .null, .int 0, .int 0, .int 0]))] sz) [(h0, .inr (0, [.ref rq, .ref oa, .ref pl, .ref dk, .ref rw, .int 0, .int 0, .int (-1)])), (rq, .inl (k1, 40, .inr (.inr (.inr (.inr (fun _ => none)))))), (oa, .inl (k2, 8, .inl (fun _ => 0))), (pl, .inr (1, [.ref q9, .int 0])), (dk, .inr (2, [.ref d1, .ref d2, .ref d3, .ref d4])), (d1, .inl (k3, 24, .inl (fun _ => -1))), (rw, .inr (3, [.ref r1, .int 0, .int 0]))]) (va_A [(h0, .inr (0, [.null, .null, .null, .null, .null, .int 0, .int 0, .int 0]))] sz)) 11 267 (va_A [(h0, .inr (0, [.null, .null, .null, .null, .null, .int 0, .int 0, .int 0]))] sz) := by
  refine Met.ofW (cc := c_TT_init) (maxL := 1) (ret := none) (by decide) rfl ?_
  intro p e s m args below meth c s₁ B hml hv
  obtain ⟨rfl, ⟨hsz, hBs⟩, hP, hK, hD0, hV⟩ := hv
  have hx := B.exec
  have hb := B.bytes
  have hr := B.returns
  have ht : ∀ w ∈ tb_, w.before _ s = true := fun w h => atoms_spec (ws := w_TT_init) B.pre w (List.mem_cons_of_mem _ h)
  have hown : s.vm.findClass R_TT = some m.cls := findClass_of_methodNamed B.named
  have hlocks := B.notSynchronized
  have hin : meth.name = "<init>" := (name_of_methodNamed B.named B.method).1
  subst hsz
  have hD := hD0.self (sz := s.heap.size)
  have hAB : ∀ q, va_A [(h0, .inr (0, [.null, .null, .null, .null, .null, .int 0, .int 0, .int 0]))] s.heap.size q → Bd ≤ q := fr_AB hD0 hBs
  generalize hAe : va_A [(h0, .inr (0, [.null, .null, .null, .null, .null, .int 0, .int 0, .int 0]))] s.heap.size = A at hD hAB ⊢
  have hA : ∀ q : Nat, s.heap.size ≤ q → A q := fun q h => by rw [← hAe]; exact Or.inr h
  have hS : va_S A s.heap s.heap [] := va_S.rf
  have hAO := hV.2.2.2.1
  have hN_PL := hV.2.2.1.1
  have hN_RW := hV.2.2.1.2
  have hP : va_P (dC, dI) cls_ [(h0, .inr (0, [.null, .null, .null, .null, .null, .int 0, .int 0, .int 0]))] s.heap := hP
  have hl := lv_entry ([.ref h0]) (n := 1) (Nat.le_of_ble_eq_true rfl)
  rw [lg_entry_eq]
  generalize (lg_sl ([.ref h0]) ++ List.replicate (1 - (lg_sl ([.ref h0])).length) Slot.unset).toArray = ls at hl ⊢
  have hl : lv_has ls 1 [(0, .ref h0)] := hl
  refine lv_aload_n hx hb d_TT_init_0 rfl (lv_at hl 0 rfl) ?_
  refine W.objInit hx hb hown (ht _ tb_20) (ht _ tb_21) (ht _ tb_22) rfl (by rw [hml]; exact hl.1) rfl d_TT_init_1 (Nat.le_of_ble_eq_true rfl) (Nat.le_of_ble_eq_true rfl) ?_
  refine W.eq (g2 := F0 m 4 ls []) rfl ?_
  refine lv_aload_n hx hb d_TT_init_4 rfl (lv_at hl 0 rfl) ?_
  refine lv_bipush (v := 40) hx hb d_TT_init_5 (by decide) ?_
  refine va_newq (C := "TwinTuners$Request") (N' := 40) (n := 40) hx hb hown (ht _ tb_23) hAO hK hP hD hS hA (by decide) (by decide) (by decide) (Nat.le_of_ble_eq_true rfl) (Nat.le_of_ble_eq_true rfl) d_TT_init_7 (fun q1 k2 H hK hP hD hS => ?_)
  have hP : va_P (dC, dI) cls_ [(h0, .inr (0, [.null, .null, .null, .null, .null, .int 0, .int 0, .int 0])), (q1, .inl (k2, 40, .inr (.inr (.inr (.inr (fun _ => none))))))] H := hP
  have hD : va_D A [(h0, .inr (0, [.null, .null, .null, .null, .null, .int 0, .int 0, .int 0])), (q1, .inl (k2, 40, .inr (.inr (.inr (.inr (fun _ => none))))))] := hD
  have hK : va_K (dC, dI) cls_ [(k2, .object "TwinTuners$Request")] s := hK
  refine W.cs (cells' := 1) (slots' := 40) rfl rfl ?_
  refine va_putF (D := (dC, dI)) (ci := 0) (v := .ref q1) (ty := .array (.object "TwinTuners$Request")) (C := R_TT) (T := F_TT) (N := 8) hx hb ht in_TT t_TT t_TT_ok n_TT hown hK hP hD hS 0 rfl rfl 0 (by decide) (ht _ tb_75) (fun _ h9 => h9) rfl hin rfl (by decide +kernel) rfl rfl (Nat.le_of_ble_eq_true rfl) d_TT_init_10 (fun H locs hP hD hS => ?_)
  have hP : va_P (dC, dI) cls_ [(h0, .inr (0, [.ref q1, .null, .null, .null, .null, .int 0, .int 0, .int 0])), (q1, .inl (k2, 40, .inr (.inr (.inr (.inr (fun _ => none))))))] H := hP
  have hD : va_D A [(h0, .inr (0, [.ref q1, .null, .null, .null, .null, .int 0, .int 0, .int 0])), (q1, .inl (k2, 40, .inr (.inr (.inr (.inr (fun _ => none))))))] := hD
  refine lv_aload_n hx hb d_TT_init_13 rfl (lv_at hl 0 rfl) ?_
  refine lv_bipush (v := 8) hx hb d_TT_init_14 (by decide) ?_
  refine va_newa (atype := .int) (N' := 8) (a0 := (8, .inl (fun _ => 0))) (ty := .int) (n := 8) hx hb (ht _ tb_39) rfl hK hP hD hS hA (fun _ => rfl) (by decide) (by decide) (by decide) (Nat.le_of_ble_eq_true rfl) (Nat.le_of_ble_eq_true rfl) d_TT_init_16 (fun q3 k4 H hK hP hD hS => ?_)
  have hP : va_P (dC, dI) cls_ [(h0, .inr (0, [.ref q1, .null, .null, .null, .null, .int 0, .int 0, .int 0])), (q1, .inl (k2, 40, .inr (.inr (.inr (.inr (fun _ => none)))))), (q3, .inl (k4, 8, .inl (fun _ => 0)))] H := hP
  have hD : va_D A [(h0, .inr (0, [.ref q1, .null, .null, .null, .null, .int 0, .int 0, .int 0])), (q1, .inl (k2, 40, .inr (.inr (.inr (.inr (fun _ => none)))))), (q3, .inl (k4, 8, .inl (fun _ => 0)))] := hD
  have hK : va_K (dC, dI) cls_ [(k2, .object "TwinTuners$Request"), (k4, .int)] s := hK
  refine W.cs (cells' := 2) (slots' := 48) rfl rfl ?_
  refine va_putF (D := (dC, dI)) (ci := 0) (v := .ref q3) (ty := .array .int) (C := R_TT) (T := F_TT) (N := 8) hx hb ht in_TT t_TT t_TT_ok n_TT hown hK hP hD hS 0 rfl rfl 1 (by decide) (ht _ tb_76) (fun _ h9 => h9) rfl hin rfl (by decide +kernel) rfl rfl (Nat.le_of_ble_eq_true rfl) d_TT_init_18 (fun H locs hP hD hS => ?_)
  have hP : va_P (dC, dI) cls_ [(h0, .inr (0, [.ref q1, .ref q3, .null, .null, .null, .int 0, .int 0, .int 0])), (q1, .inl (k2, 40, .inr (.inr (.inr (.inr (fun _ => none)))))), (q3, .inl (k4, 8, .inl (fun _ => 0)))] H := hP
  have hD : va_D A [(h0, .inr (0, [.ref q1, .ref q3, .null, .null, .null, .int 0, .int 0, .int 0])), (q1, .inl (k2, 40, .inr (.inr (.inr (.inr (fun _ => none)))))), (q3, .inl (k4, 8, .inl (fun _ => 0)))] := hD
  refine lv_aload_n hx hb d_TT_init_21 rfl (lv_at hl 0 rfl) ?_
  refine va_new (ci := 1) (fs := [.null, .int 0]) (C := R_PL) (T := F_PL) (N := 2) hx hb ht in_PL t_PL t_PL_ok hown (ht _ tb_25) (ht _ tb_26) (ht _ tb_2) hK hP hD hS hA rfl (fun j hj => fs_PL j hj) (Nat.le_of_ble_eq_true rfl) (Nat.le_of_ble_eq_true rfl) d_TT_init_22 (fun q5 H hP hD hS => ?_)
  have hP : va_P (dC, dI) cls_ [(h0, .inr (0, [.ref q1, .ref q3, .null, .null, .null, .int 0, .int 0, .int 0])), (q1, .inl (k2, 40, .inr (.inr (.inr (.inr (fun _ => none)))))), (q3, .inl (k4, 8, .inl (fun _ => 0))), (q5, .inr (1, [.null, .int 0]))] H := hP
  have hD : va_D A [(h0, .inr (0, [.ref q1, .ref q3, .null, .null, .null, .int 0, .int 0, .int 0])), (q1, .inl (k2, 40, .inr (.inr (.inr (.inr (fun _ => none)))))), (q3, .inl (k4, 8, .inl (fun _ => 0))), (q5, .inr (1, [.null, .int 0]))] := hD
  refine W.cs (cells' := 3) (slots' := 50) rfl rfl ?_
  refine lv_dup hx hb d_TT_init_25 rfl ?_
  have hPc := hP.sub (ws' := [(q5, .inr (1, [.null, .int 0]))]) [3] rfl
  have hKc := hK.sub (tys' := []) [] rfl
  have hDc := hD.sub (ws' := [(q5, .inr (1, [.null, .int 0]))]) [3] (by decide) rfl
  have hFc := va_free (wc := [(q5, .inr (1, [.null, .int 0]))]) hD hS hA [3] rfl
  refine fr_call (va_runIN (As := []) (rest := [.ref q5, .ref h0]) ⟨hx, hb, hml, hown, ht⟩ (c_PL_init_mk l dC dI H.size Bd q5) (⟨va_cnB 0 ht (gI tb_29) rfl rfl rfl hN_PL (ht _ tb_2) (by decide +kernel) ⟨Nat.le_of_ble_eq_true rfl, Nat.le_of_ble_eq_true rfl⟩, rfl, ht _ tb_28⟩) ⟨frP_blind, fr_pre hPc hKc hDc hAB hBs hS hV⟩ rfl rfl hl.1 rfl (lv_room (Nat.le_of_ble_eq_true rfl)) d_TT_init_26 ⟨Nat.le_of_ble_eq_true rfl, Nat.le_of_ble_eq_true rfl⟩) hS (fun q _ h => hFc q h) hFc (fun t H1 locs ht1 hvm hB1 hz1 hk1 hS => ?_)
  obtain ⟨q6, hP1, hK1, hD1⟩ := hB1
  rw [ht1] at hP1
  have hK1 := va_K.moved hvm.symm hK1
  obtain ⟨hP, hD⟩ := va_join (wr := [(h0, .inr (0, [.ref q1, .ref q3, .null, .null, .null, .int 0, .int 0, .int 0])), (q1, .inl (k2, 40, .inr (.inr (.inr (.inr (fun _ => none)))))), (q3, .inl (k4, 8, .inl (fun _ => 0)))]) (w1 := [(q5, .inr (1, [.ref q6, .int 0]))]) hP hD [3] [0, 1, 2] rfl rfl (by decide) (by decide) hk1 hFc hP1 hD1
  have hK := hK.app hK1
  generalize H1 = H at hP hS ⊢
  have hP : va_P (dC, dI) cls_ [(h0, .inr (0, [.ref q1, .ref q3, .null, .null, .null, .int 0, .int 0, .int 0])), (q1, .inl (k2, 40, .inr (.inr (.inr (.inr (fun _ => none)))))), (q3, .inl (k4, 8, .inl (fun _ => 0))), (q5, .inr (1, [.ref q6, .int 0]))] H := hP
  have hD : va_D A [(h0, .inr (0, [.ref q1, .ref q3, .null, .null, .null, .int 0, .int 0, .int 0])), (q1, .inl (k2, 40, .inr (.inr (.inr (.inr (fun _ => none)))))), (q3, .inl (k4, 8, .inl (fun _ => 0))), (q5, .inr (1, [.ref q6, .int 0]))] := hD
  have hK : va_K (dC, dI) cls_ [(k2, .object "TwinTuners$Request"), (k4, .int)] s := hK
  refine W.eq (g2 := F0 m 29 ls [.ref q5, .ref h0]) rfl ?_
  refine W.cs (cells' := 4) (slots' := 62) rfl rfl ?_
  refine va_putF (D := (dC, dI)) (ci := 0) (v := .ref q5) (ty := .object "TwinTuners$Plan") (C := R_TT) (T := F_TT) (N := 8) hx hb ht in_TT t_TT t_TT_ok n_TT hown hK hP hD hS 0 rfl rfl 2 (by decide) (ht _ tb_77) (fun _ h9 => h9) rfl hin rfl (by decide +kernel) rfl rfl (Nat.le_of_ble_eq_true rfl) d_TT_init_29 (fun H locs hP hD hS => ?_)
  have hP : va_P (dC, dI) cls_ [(h0, .inr (0, [.ref q1, .ref q3, .ref q5, .null, .null, .int 0, .int 0, .int 0])), (q1, .inl (k2, 40, .inr (.inr (.inr (.inr (fun _ => none)))))), (q3, .inl (k4, 8, .inl (fun _ => 0))), (q5, .inr (1, [.ref q6, .int 0]))] H := hP
  have hD : va_D A [(h0, .inr (0, [.ref q1, .ref q3, .ref q5, .null, .null, .int 0, .int 0, .int 0])), (q1, .inl (k2, 40, .inr (.inr (.inr (.inr (fun _ => none)))))), (q3, .inl (k4, 8, .inl (fun _ => 0))), (q5, .inr (1, [.ref q6, .int 0]))] := hD
  refine lv_aload_n hx hb d_TT_init_32 rfl (lv_at hl 0 rfl) ?_
  refine va_new (ci := 2) (fs := [.null, .null, .null, .null]) (C := R_DK) (T := F_DK) (N := 4) hx hb ht in_DK t_DK t_DK_ok hown (ht _ tb_40) (ht _ tb_41) (ht _ tb_3) hK hP hD hS hA rfl (fun j hj => fs_DK j hj) (Nat.le_of_ble_eq_true rfl) (Nat.le_of_ble_eq_true rfl) d_TT_init_33 (fun q7 H hP hD hS => ?_)
  have hP : va_P (dC, dI) cls_ [(h0, .inr (0, [.ref q1, .ref q3, .ref q5, .null, .null, .int 0, .int 0, .int 0])), (q1, .inl (k2, 40, .inr (.inr (.inr (.inr (fun _ => none)))))), (q3, .inl (k4, 8, .inl (fun _ => 0))), (q5, .inr (1, [.ref q6, .int 0])), (q7, .inr (2, [.null, .null, .null, .null]))] H := hP
  have hD : va_D A [(h0, .inr (0, [.ref q1, .ref q3, .ref q5, .null, .null, .int 0, .int 0, .int 0])), (q1, .inl (k2, 40, .inr (.inr (.inr (.inr (fun _ => none)))))), (q3, .inl (k4, 8, .inl (fun _ => 0))), (q5, .inr (1, [.ref q6, .int 0])), (q7, .inr (2, [.null, .null, .null, .null]))] := hD
  refine W.cs (cells' := 5) (slots' := 66) rfl rfl ?_
  refine lv_dup hx hb d_TT_init_36 rfl ?_
  have hPc := hP.sub (ws' := [(q7, .inr (2, [.null, .null, .null, .null]))]) [4] rfl
  have hKc := hK.sub (tys' := []) [] rfl
  have hDc := hD.sub (ws' := [(q7, .inr (2, [.null, .null, .null, .null]))]) [4] (by decide) rfl
  have hFc := va_free (wc := [(q7, .inr (2, [.null, .null, .null, .null]))]) hD hS hA [4] rfl
  refine fr_call (va_runI (As := []) (rest := [.ref q7, .ref h0]) ⟨hx, hb, hml, hown, ht⟩ (c_DK_init_mk l dC dI H.size Bd q7) (cwI 0 ht (gI tb_44) rfl rfl rfl (ht _ tb_3) (ht _ tb_42) (ht _ tb_43) rfl (by decide +kernel) ⟨Nat.le_of_ble_eq_true rfl, Nat.le_of_ble_eq_true rfl⟩) ⟨frP_blind, fr_pre hPc hKc hDc hAB hBs hS hV⟩ rfl rfl hl.1 rfl (lv_room (Nat.le_of_ble_eq_true rfl)) d_TT_init_37 ⟨Nat.le_of_ble_eq_true rfl, Nat.le_of_ble_eq_true rfl⟩) hS (fun q _ h => hFc q h) hFc (fun t H1 locs ht1 hvm hB1 hz1 hk1 hS => ?_)
  obtain ⟨q8, q9, q10, q11, k12, hP1, hK1, hD1⟩ := hB1
  rw [ht1] at hP1
  have hK1 := va_K.moved hvm.symm hK1
  obtain ⟨hP, hD⟩ := va_join (wr := [(h0, .inr (0, [.ref q1, .ref q3, .ref q5, .null, .null, .int 0, .int 0, .int 0])), (q1, .inl (k2, 40, .inr (.inr (.inr (.inr (fun _ => none)))))), (q3, .inl (k4, 8, .inl (fun _ => 0))), (q5, .inr (1, [.ref q6, .int 0]))]) (w1 := [(q7, .inr (2, [.ref q8, .ref q9, .ref q10, .ref q11])), (q8, .inl (k12, 24, .inl (fun _ => -1)))]) hP hD [4] [0, 1, 2, 3] rfl rfl (by decide) (by decide) hk1 hFc hP1 hD1
  have hK := hK.app hK1
  generalize H1 = H at hP hS ⊢
  have hP : va_P (dC, dI) cls_ [(h0, .inr (0, [.ref q1, .ref q3, .ref q5, .null, .null, .int 0, .int 0, .int 0])), (q1, .inl (k2, 40, .inr (.inr (.inr (.inr (fun _ => none)))))), (q3, .inl (k4, 8, .inl (fun _ => 0))), (q5, .inr (1, [.ref q6, .int 0])), (q7, .inr (2, [.ref q8, .ref q9, .ref q10, .ref q11])), (q8, .inl (k12, 24, .inl (fun _ => -1)))] H := hP
  have hD : va_D A [(h0, .inr (0, [.ref q1, .ref q3, .ref q5, .null, .null, .int 0, .int 0, .int 0])), (q1, .inl (k2, 40, .inr (.inr (.inr (.inr (fun _ => none)))))), (q3, .inl (k4, 8, .inl (fun _ => 0))), (q5, .inr (1, [.ref q6, .int 0])), (q7, .inr (2, [.ref q8, .ref q9, .ref q10, .ref q11])), (q8, .inl (k12, 24, .inl (fun _ => -1)))] := hD
  have hK : va_K (dC, dI) cls_ [(k2, .object "TwinTuners$Request"), (k4, .int), (k12, .int)] s := hK
  refine W.eq (g2 := F0 m 40 ls [.ref q7, .ref h0]) rfl ?_
  refine W.cs (cells' := 9) (slots' := 234) rfl rfl ?_
  refine va_putF (D := (dC, dI)) (ci := 0) (v := .ref q7) (ty := .object "TwinTuners$Disk") (C := R_TT) (T := F_TT) (N := 8) hx hb ht in_TT t_TT t_TT_ok n_TT hown hK hP hD hS 0 rfl rfl 3 (by decide) (ht _ tb_78) (fun _ h9 => h9) rfl hin rfl (by decide +kernel) rfl rfl (Nat.le_of_ble_eq_true rfl) d_TT_init_40 (fun H locs hP hD hS => ?_)
  have hP : va_P (dC, dI) cls_ [(h0, .inr (0, [.ref q1, .ref q3, .ref q5, .ref q7, .null, .int 0, .int 0, .int 0])), (q1, .inl (k2, 40, .inr (.inr (.inr (.inr (fun _ => none)))))), (q3, .inl (k4, 8, .inl (fun _ => 0))), (q5, .inr (1, [.ref q6, .int 0])), (q7, .inr (2, [.ref q8, .ref q9, .ref q10, .ref q11])), (q8, .inl (k12, 24, .inl (fun _ => -1)))] H := hP
  have hD : va_D A [(h0, .inr (0, [.ref q1, .ref q3, .ref q5, .ref q7, .null, .int 0, .int 0, .int 0])), (q1, .inl (k2, 40, .inr (.inr (.inr (.inr (fun _ => none)))))), (q3, .inl (k4, 8, .inl (fun _ => 0))), (q5, .inr (1, [.ref q6, .int 0])), (q7, .inr (2, [.ref q8, .ref q9, .ref q10, .ref q11])), (q8, .inl (k12, 24, .inl (fun _ => -1)))] := hD
  refine lv_aload_n hx hb d_TT_init_43 rfl (lv_at hl 0 rfl) ?_
  refine va_new (ci := 3) (fs := [.null, .int 0, .int 0]) (C := R_RW) (T := F_RW) (N := 3) hx hb ht in_RW t_RW t_RW_ok hown (ht _ tb_59) (ht _ tb_60) (ht _ tb_4) hK hP hD hS hA rfl (fun j hj => fs_RW j hj) (Nat.le_of_ble_eq_true rfl) (Nat.le_of_ble_eq_true rfl) d_TT_init_44 (fun q13 H hP hD hS => ?_)
  have hP : va_P (dC, dI) cls_ [(h0, .inr (0, [.ref q1, .ref q3, .ref q5, .ref q7, .null, .int 0, .int 0, .int 0])), (q1, .inl (k2, 40, .inr (.inr (.inr (.inr (fun _ => none)))))), (q3, .inl (k4, 8, .inl (fun _ => 0))), (q5, .inr (1, [.ref q6, .int 0])), (q7, .inr (2, [.ref q8, .ref q9, .ref q10, .ref q11])), (q8, .inl (k12, 24, .inl (fun _ => -1))), (q13, .inr (3, [.null, .int 0, .int 0]))] H := hP
  have hD : va_D A [(h0, .inr (0, [.ref q1, .ref q3, .ref q5, .ref q7, .null, .int 0, .int 0, .int 0])), (q1, .inl (k2, 40, .inr (.inr (.inr (.inr (fun _ => none)))))), (q3, .inl (k4, 8, .inl (fun _ => 0))), (q5, .inr (1, [.ref q6, .int 0])), (q7, .inr (2, [.ref q8, .ref q9, .ref q10, .ref q11])), (q8, .inl (k12, 24, .inl (fun _ => -1))), (q13, .inr (3, [.null, .int 0, .int 0]))] := hD
  refine W.cs (cells' := 10) (slots' := 237) rfl rfl ?_
  refine lv_dup hx hb d_TT_init_47 rfl ?_
  have hPc := hP.sub (ws' := [(q13, .inr (3, [.null, .int 0, .int 0]))]) [6] rfl
  have hKc := hK.sub (tys' := []) [] rfl
  have hDc := hD.sub (ws' := [(q13, .inr (3, [.null, .int 0, .int 0]))]) [6] (by decide) rfl
  have hFc := va_free (wc := [(q13, .inr (3, [.null, .int 0, .int 0]))]) hD hS hA [6] rfl
  refine fr_call (va_runIN (As := []) (rest := [.ref q13, .ref h0]) ⟨hx, hb, hml, hown, ht⟩ (c_RW_init_mk l dC dI H.size Bd q13) (⟨va_cnB 0 ht (gI tb_63) rfl rfl rfl hN_RW (ht _ tb_4) (by decide +kernel) ⟨Nat.le_of_ble_eq_true rfl, Nat.le_of_ble_eq_true rfl⟩, rfl, ht _ tb_62⟩) ⟨frP_blind, fr_pre hPc hKc hDc hAB hBs hS hV⟩ rfl rfl hl.1 rfl (lv_room (Nat.le_of_ble_eq_true rfl)) d_TT_init_48 ⟨Nat.le_of_ble_eq_true rfl, Nat.le_of_ble_eq_true rfl⟩) hS (fun q _ h => hFc q h) hFc (fun t H1 locs ht1 hvm hB1 hz1 hk1 hS => ?_)
  obtain ⟨q14, hP1, hK1, hD1⟩ := hB1
  rw [ht1] at hP1
  have hK1 := va_K.moved hvm.symm hK1
  obtain ⟨hP, hD⟩ := va_join (wr := [(h0, .inr (0, [.ref q1, .ref q3, .ref q5, .ref q7, .null, .int 0, .int 0, .int 0])), (q1, .inl (k2, 40, .inr (.inr (.inr (.inr (fun _ => none)))))), (q3, .inl (k4, 8, .inl (fun _ => 0))), (q5, .inr (1, [.ref q6, .int 0])), (q7, .inr (2, [.ref q8, .ref q9, .ref q10, .ref q11])), (q8, .inl (k12, 24, .inl (fun _ => -1)))]) (w1 := [(q13, .inr (3, [.ref q14, .int 0, .int 0]))]) hP hD [6] [0, 1, 2, 3, 4, 5] rfl rfl (by decide) (by decide) hk1 hFc hP1 hD1
  have hK := hK.app hK1
  generalize H1 = H at hP hS ⊢
  have hP : va_P (dC, dI) cls_ [(h0, .inr (0, [.ref q1, .ref q3, .ref q5, .ref q7, .null, .int 0, .int 0, .int 0])), (q1, .inl (k2, 40, .inr (.inr (.inr (.inr (fun _ => none)))))), (q3, .inl (k4, 8, .inl (fun _ => 0))), (q5, .inr (1, [.ref q6, .int 0])), (q7, .inr (2, [.ref q8, .ref q9, .ref q10, .ref q11])), (q8, .inl (k12, 24, .inl (fun _ => -1))), (q13, .inr (3, [.ref q14, .int 0, .int 0]))] H := hP
  have hD : va_D A [(h0, .inr (0, [.ref q1, .ref q3, .ref q5, .ref q7, .null, .int 0, .int 0, .int 0])), (q1, .inl (k2, 40, .inr (.inr (.inr (.inr (fun _ => none)))))), (q3, .inl (k4, 8, .inl (fun _ => 0))), (q5, .inr (1, [.ref q6, .int 0])), (q7, .inr (2, [.ref q8, .ref q9, .ref q10, .ref q11])), (q8, .inl (k12, 24, .inl (fun _ => -1))), (q13, .inr (3, [.ref q14, .int 0, .int 0]))] := hD
  have hK : va_K (dC, dI) cls_ [(k2, .object "TwinTuners$Request"), (k4, .int), (k12, .int)] s := hK
  refine W.eq (g2 := F0 m 51 ls [.ref q13, .ref h0]) rfl ?_
  refine W.cs (cells' := 11) (slots' := 267) rfl rfl ?_
  refine va_putF (D := (dC, dI)) (ci := 0) (v := .ref q13) (ty := .object "TwinTuners$Rewind") (C := R_TT) (T := F_TT) (N := 8) hx hb ht in_TT t_TT t_TT_ok n_TT hown hK hP hD hS 0 rfl rfl 4 (by decide) (ht _ tb_79) (fun _ h9 => h9) rfl hin rfl (by decide +kernel) rfl rfl (Nat.le_of_ble_eq_true rfl) d_TT_init_51 (fun H locs hP hD hS => ?_)
  have hP : va_P (dC, dI) cls_ [(h0, .inr (0, [.ref q1, .ref q3, .ref q5, .ref q7, .ref q13, .int 0, .int 0, .int 0])), (q1, .inl (k2, 40, .inr (.inr (.inr (.inr (fun _ => none)))))), (q3, .inl (k4, 8, .inl (fun _ => 0))), (q5, .inr (1, [.ref q6, .int 0])), (q7, .inr (2, [.ref q8, .ref q9, .ref q10, .ref q11])), (q8, .inl (k12, 24, .inl (fun _ => -1))), (q13, .inr (3, [.ref q14, .int 0, .int 0]))] H := hP
  have hD : va_D A [(h0, .inr (0, [.ref q1, .ref q3, .ref q5, .ref q7, .ref q13, .int 0, .int 0, .int 0])), (q1, .inl (k2, 40, .inr (.inr (.inr (.inr (fun _ => none)))))), (q3, .inl (k4, 8, .inl (fun _ => 0))), (q5, .inr (1, [.ref q6, .int 0])), (q7, .inr (2, [.ref q8, .ref q9, .ref q10, .ref q11])), (q8, .inl (k12, 24, .inl (fun _ => -1))), (q13, .inr (3, [.ref q14, .int 0, .int 0]))] := hD
  refine lv_aload_n hx hb d_TT_init_54 rfl (lv_at hl 0 rfl) ?_
  refine lv_iconst (v := 0) hx hb d_TT_init_55 (by decide) ?_
  refine va_put (D := (dC, dI)) (ci := 0) (v := .int 0) (ty := .int) (C := R_TT) (T := F_TT) (N := 8) hx hb ht in_TT t_TT t_TT_ok n_TT hown hK hP hD hS 0 rfl rfl 5 (by decide) (ht _ tb_80) (fun _ h9 => h9) rfl (by decide +kernel) rfl rfl (Nat.le_of_ble_eq_true rfl) d_TT_init_56 (fun H locs hP hD hS => ?_)
  have hP : va_P (dC, dI) cls_ [(h0, .inr (0, [.ref q1, .ref q3, .ref q5, .ref q7, .ref q13, .int 0, .int 0, .int 0])), (q1, .inl (k2, 40, .inr (.inr (.inr (.inr (fun _ => none)))))), (q3, .inl (k4, 8, .inl (fun _ => 0))), (q5, .inr (1, [.ref q6, .int 0])), (q7, .inr (2, [.ref q8, .ref q9, .ref q10, .ref q11])), (q8, .inl (k12, 24, .inl (fun _ => -1))), (q13, .inr (3, [.ref q14, .int 0, .int 0]))] H := hP
  have hD : va_D A [(h0, .inr (0, [.ref q1, .ref q3, .ref q5, .ref q7, .ref q13, .int 0, .int 0, .int 0])), (q1, .inl (k2, 40, .inr (.inr (.inr (.inr (fun _ => none)))))), (q3, .inl (k4, 8, .inl (fun _ => 0))), (q5, .inr (1, [.ref q6, .int 0])), (q7, .inr (2, [.ref q8, .ref q9, .ref q10, .ref q11])), (q8, .inl (k12, 24, .inl (fun _ => -1))), (q13, .inr (3, [.ref q14, .int 0, .int 0]))] := hD
  refine lv_aload_n hx hb d_TT_init_59 rfl (lv_at hl 0 rfl) ?_
  refine lv_iconst (v := 0) hx hb d_TT_init_60 (by decide) ?_
  refine va_put (D := (dC, dI)) (ci := 0) (v := .int 0) (ty := .int) (C := R_TT) (T := F_TT) (N := 8) hx hb ht in_TT t_TT t_TT_ok n_TT hown hK hP hD hS 0 rfl rfl 6 (by decide) (ht _ tb_81) (fun _ h9 => h9) rfl (by decide +kernel) rfl rfl (Nat.le_of_ble_eq_true rfl) d_TT_init_61 (fun H locs hP hD hS => ?_)
  have hP : va_P (dC, dI) cls_ [(h0, .inr (0, [.ref q1, .ref q3, .ref q5, .ref q7, .ref q13, .int 0, .int 0, .int 0])), (q1, .inl (k2, 40, .inr (.inr (.inr (.inr (fun _ => none)))))), (q3, .inl (k4, 8, .inl (fun _ => 0))), (q5, .inr (1, [.ref q6, .int 0])), (q7, .inr (2, [.ref q8, .ref q9, .ref q10, .ref q11])), (q8, .inl (k12, 24, .inl (fun _ => -1))), (q13, .inr (3, [.ref q14, .int 0, .int 0]))] H := hP
  have hD : va_D A [(h0, .inr (0, [.ref q1, .ref q3, .ref q5, .ref q7, .ref q13, .int 0, .int 0, .int 0])), (q1, .inl (k2, 40, .inr (.inr (.inr (.inr (fun _ => none)))))), (q3, .inl (k4, 8, .inl (fun _ => 0))), (q5, .inr (1, [.ref q6, .int 0])), (q7, .inr (2, [.ref q8, .ref q9, .ref q10, .ref q11])), (q8, .inl (k12, 24, .inl (fun _ => -1))), (q13, .inr (3, [.ref q14, .int 0, .int 0]))] := hD
  refine lv_aload_n hx hb d_TT_init_64 rfl (lv_at hl 0 rfl) ?_
  refine lv_iconst (v := -1) hx hb d_TT_init_65 (by decide) ?_
  refine va_put (D := (dC, dI)) (ci := 0) (v := .int (-1)) (ty := .int) (C := R_TT) (T := F_TT) (N := 8) hx hb ht in_TT t_TT t_TT_ok n_TT hown hK hP hD hS 0 rfl rfl 7 (by decide) (ht _ tb_82) (fun _ h9 => h9) rfl (by decide +kernel) rfl rfl (Nat.le_of_ble_eq_true rfl) d_TT_init_66 (fun H locs hP hD hS => ?_)
  have hP : va_P (dC, dI) cls_ [(h0, .inr (0, [.ref q1, .ref q3, .ref q5, .ref q7, .ref q13, .int 0, .int 0, .int (-1)])), (q1, .inl (k2, 40, .inr (.inr (.inr (.inr (fun _ => none)))))), (q3, .inl (k4, 8, .inl (fun _ => 0))), (q5, .inr (1, [.ref q6, .int 0])), (q7, .inr (2, [.ref q8, .ref q9, .ref q10, .ref q11])), (q8, .inl (k12, 24, .inl (fun _ => -1))), (q13, .inr (3, [.ref q14, .int 0, .int 0]))] H := hP
  have hD : va_D A [(h0, .inr (0, [.ref q1, .ref q3, .ref q5, .ref q7, .ref q13, .int 0, .int 0, .int (-1)])), (q1, .inl (k2, 40, .inr (.inr (.inr (.inr (fun _ => none)))))), (q3, .inl (k4, 8, .inl (fun _ => 0))), (q5, .inr (1, [.ref q6, .int 0])), (q7, .inr (2, [.ref q8, .ref q9, .ref q10, .ref q11])), (q8, .inl (k12, 24, .inl (fun _ => -1))), (q13, .inr (3, [.ref q14, .int 0, .int 0]))] := hD
  have hP9 := hP.sub (ws' := [(h0, .inr (0, [.ref q1, .ref q3, .ref q5, .ref q7, .ref q13, .int 0, .int 0, .int (-1)])), (q1, .inl (k2, 40, .inr (.inr (.inr (.inr (fun _ => none)))))), (q3, .inl (k4, 8, .inl (fun _ => 0))), (q5, .inr (1, [.ref q6, .int 0])), (q7, .inr (2, [.ref q8, .ref q9, .ref q10, .ref q11])), (q8, .inl (k12, 24, .inl (fun _ => -1))), (q13, .inr (3, [.ref q14, .int 0, .int 0]))]) [0, 1, 2, 3, 4, 5, 6] rfl
  have hD9 := hD.sub (ws' := [(h0, .inr (0, [.ref q1, .ref q3, .ref q5, .ref q7, .ref q13, .int 0, .int 0, .int (-1)])), (q1, .inl (k2, 40, .inr (.inr (.inr (.inr (fun _ => none)))))), (q3, .inl (k4, 8, .inl (fun _ => 0))), (q5, .inr (1, [.ref q6, .int 0])), (q7, .inr (2, [.ref q8, .ref q9, .ref q10, .ref q11])), (q8, .inl (k12, 24, .inl (fun _ => -1))), (q13, .inr (3, [.ref q14, .int 0, .int 0]))]) [0, 1, 2, 3, 4, 5, 6] (by decide) rfl
  have hK9 := hK.sub (tys' := [(k2, .object "TwinTuners$Request"), (k4, .int), (k12, .int)]) [0, 1, 2] rfl
  exact W.vret hx hb hr (fun t ht9 hW => ⟨rfl, ⟨q1, q3, q5, q7, q13, k2, k4, q6, q8, q9, q10, q11, k12, q14, by rw [ht9]; exact hP9, va_K.moved hW.alike hK9, hD9⟩, hS.F ht9⟩) hS.2.2 d_TT_init_69
