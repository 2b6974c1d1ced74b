abbrev c_LW_air : ByteArray := method_8_code
abbrev y_LW_air : MethodName := ⟨"TwinTunersLaw", "air", "(LTwinTuners;II)I"⟩
def w_LW_air : List Cond := .codeWith y_LW_air c_LW_air 4 (some .int) [(0, 6, 9, 21)] :: tb_
abbrev c_LW_watch : ByteArray := method_10_code
abbrev y_LW_watch : MethodName := ⟨"TwinTunersLaw", "watch", "(LTwinTuners;I[J)I"⟩
def w_LW_watch : List Cond := .codeWith y_LW_watch c_LW_watch 4 (some .int) [(0, 9, 12, 21)] :: tb_
abbrev c_LW_ticks : ByteArray := method_9_code
abbrev y_LW_ticks : MethodName := ⟨"TwinTunersLaw", "ticks", "(LTwinTuners;I[J)I"⟩
def w_LW_ticks : List Cond := .codeWith y_LW_ticks c_LW_ticks 4 (some .int) [(0, 9, 12, 13)] :: tb_
abbrev c_LW_cut : ByteArray := method_19_code
abbrev y_LW_cut : MethodName := ⟨"TwinTunersLaw", "cut", "(LTwinTuners;I[J)I"⟩
def w_LW_cut : List Cond := .codeWith y_LW_cut c_LW_cut 4 (some .int) [(0, 9, 12, 13)] :: tb_
abbrev c_LW_cancel : ByteArray := method_4_code
abbrev y_LW_cancel : MethodName := ⟨"TwinTunersLaw", "cancel", "(LTwinTuners;I)I"⟩
def w_LW_cancel : List Cond := .codeWith y_LW_cancel c_LW_cancel 3 (some .int) [(0, 5, 8, 21), (0, 5, 11, 15)] :: tb_
abbrev c_LW_protect : ByteArray := method_14_code
abbrev y_LW_protect : MethodName := ⟨"TwinTunersLaw", "protect", "(LTwinTuners;IZ)I"⟩
def w_LW_protect : List Cond := .codeWith y_LW_protect c_LW_protect 4 (some .int) [(0, 6, 9, 21), (0, 6, 12, 15)] :: tb_
abbrev c_LW_seen : ByteArray := method_15_code
abbrev y_LW_seen : MethodName := ⟨"TwinTunersLaw", "seen", "(LTwinTuners;IZ)I"⟩
def w_LW_seen : List Cond := .codeWith y_LW_seen c_LW_seen 4 (some .int) [(0, 6, 9, 21), (0, 6, 12, 15)] :: tb_
abbrev c_LW_erase : ByteArray := method_16_code
abbrev y_LW_erase : MethodName := ⟨"TwinTunersLaw", "erase", "(LTwinTuners;I[J)I"⟩
def w_LW_erase : List Cond := .codeWith y_LW_erase c_LW_erase 4 (some .int) [(0, 9, 12, 21), (0, 9, 15, 15)] :: tb_
abbrev c_LW_bookmark : ByteArray := method_17_code
abbrev y_LW_bookmark : MethodName := ⟨"TwinTunersLaw", "bookmark", "(LTwinTuners;II[J)I"⟩
def w_LW_bookmark : List Cond := .codeWith y_LW_bookmark c_LW_bookmark 5 (some .int) [(0, 10, 13, 21), (0, 10, 17, 13), (0, 10, 21, 15)] :: tb_
abbrev c_LW_request : ByteArray := method_3_code
abbrev y_LW_request : MethodName := ⟨"TwinTunersLaw", "request", "(LTwinTuners;IIIII[J)I"⟩
def w_LW_request : List Cond := .codeWith y_LW_request c_LW_request 8 (some .int) [(0, 16, 19, 13), (0, 16, 23, 15)] :: tb_
set_option maxRecDepth 100000 in
theorem tb_263 : (.codeWith ⟨"TwinTunersLaw", "request", "(LTwinTuners;IIIII[J)I"⟩ method_3_code 8 (some .int) [(0, 16, 19, 13), (0, 16, 23, 15)] : Cond) ∈ tb_ := tb_w 263 rfl rfl
set_option maxRecDepth 100000 in
theorem tb_264 : (.classLink "TwinTunersLaw" 13 "java/lang/IllegalArgumentException" : Cond) ∈ tb_ := tb_w 264 rfl rfl
set_option maxRecDepth 100000 in
theorem tb_265 : (.classLink "TwinTunersLaw" 15 "java/lang/IllegalStateException" : Cond) ∈ tb_ := tb_w 265 rfl rfl
set_option maxRecDepth 100000 in
theorem tb_266 : (.methodLink "TwinTunersLaw" 7 ⟨"TwinTuners", "request", "(IIIII)I"⟩ : Cond) ∈ tb_ := tb_w 266 rfl rfl
set_option maxRecDepth 100000 in
theorem tb_267 : (.instanceMethod ⟨"TwinTuners", "request", "(IIIII)I"⟩ : Cond) ∈ tb_ := tb_w 267 rfl rfl
set_option maxRecDepth 100000 in
theorem tb_268 : (.selects "TwinTuners" ⟨"TwinTuners", "request", "(IIIII)I"⟩ ⟨"TwinTuners", "request", "(IIIII)I"⟩ : Cond) ∈ tb_ := tb_w 268 rfl rfl
set_option maxRecDepth 100000 in
theorem tb_450 : (.codeWith ⟨"TwinTunersLaw", "cancel", "(LTwinTuners;I)I"⟩ method_4_code 3 (some .int) [(0, 5, 8, 21), (0, 5, 11, 15)] : Cond) ∈ tb_ := tb_w 450 rfl rfl
set_option maxRecDepth 100000 in
theorem tb_452 : (.methodLink "TwinTunersLaw" 17 ⟨"TwinTuners", "cancel", "(I)V"⟩ : Cond) ∈ tb_ := tb_w 452 rfl rfl
set_option maxRecDepth 100000 in
theorem tb_453 : (.instanceMethod ⟨"TwinTuners", "cancel", "(I)V"⟩ : Cond) ∈ tb_ := tb_w 453 rfl rfl
set_option maxRecDepth 100000 in
theorem tb_454 : (.selects "TwinTuners" ⟨"TwinTuners", "cancel", "(I)V"⟩ ⟨"TwinTuners", "cancel", "(I)V"⟩ : Cond) ∈ tb_ := tb_w 454 rfl rfl
set_option maxRecDepth 100000 in
theorem tb_505 : (.codeWith ⟨"TwinTunersLaw", "air", "(LTwinTuners;II)I"⟩ method_8_code 4 (some .int) [(0, 6, 9, 21)] : Cond) ∈ tb_ := tb_w 505 rfl rfl
set_option maxRecDepth 100000 in
theorem tb_506 : (.methodLink "TwinTunersLaw" 33 ⟨"TwinTuners", "air", "(II)V"⟩ : Cond) ∈ tb_ := tb_w 506 rfl rfl
set_option maxRecDepth 100000 in
theorem tb_507 : (.instanceMethod ⟨"TwinTuners", "air", "(II)V"⟩ : Cond) ∈ tb_ := tb_w 507 rfl rfl
set_option maxRecDepth 100000 in
theorem tb_508 : (.selects "TwinTuners" ⟨"TwinTuners", "air", "(II)V"⟩ ⟨"TwinTuners", "air", "(II)V"⟩ : Cond) ∈ tb_ := tb_w 508 rfl rfl
set_option maxRecDepth 100000 in
theorem tb_513 : (.codeWith ⟨"TwinTunersLaw", "ticks", "(LTwinTuners;I[J)I"⟩ method_9_code 4 (some .int) [(0, 9, 12, 13)] : Cond) ∈ tb_ := tb_w 513 rfl rfl
set_option maxRecDepth 100000 in
theorem tb_514 : (.methodLink "TwinTunersLaw" 37 ⟨"TwinTuners", "ticks", "(I)I"⟩ : Cond) ∈ tb_ := tb_w 514 rfl rfl
set_option maxRecDepth 100000 in
theorem tb_515 : (.instanceMethod ⟨"TwinTuners", "ticks", "(I)I"⟩ : Cond) ∈ tb_ := tb_w 515 rfl rfl
set_option maxRecDepth 100000 in
theorem tb_516 : (.selects "TwinTuners" ⟨"TwinTuners", "ticks", "(I)I"⟩ ⟨"TwinTuners", "ticks", "(I)I"⟩ : Cond) ∈ tb_ := tb_w 516 rfl rfl
set_option maxRecDepth 100000 in
theorem tb_521 : (.codeWith ⟨"TwinTunersLaw", "watch", "(LTwinTuners;I[J)I"⟩ method_10_code 4 (some .int) [(0, 9, 12, 21)] : Cond) ∈ tb_ := tb_w 521 rfl rfl
set_option maxRecDepth 100000 in
theorem tb_522 : (.methodLink "TwinTunersLaw" 40 ⟨"TwinTuners", "watch", "(I)I"⟩ : Cond) ∈ tb_ := tb_w 522 rfl rfl
set_option maxRecDepth 100000 in
theorem tb_523 : (.instanceMethod ⟨"TwinTuners", "watch", "(I)I"⟩ : Cond) ∈ tb_ := tb_w 523 rfl rfl
set_option maxRecDepth 100000 in
theorem tb_524 : (.selects "TwinTuners" ⟨"TwinTuners", "watch", "(I)I"⟩ ⟨"TwinTuners", "watch", "(I)I"⟩ : Cond) ∈ tb_ := tb_w 524 rfl rfl
set_option maxRecDepth 100000 in
theorem tb_561 : (.codeWith ⟨"TwinTunersLaw", "protect", "(LTwinTuners;IZ)I"⟩ method_14_code 4 (some .int) [(0, 6, 9, 21), (0, 6, 12, 15)] : Cond) ∈ tb_ := tb_w 561 rfl rfl
set_option maxRecDepth 100000 in
theorem tb_562 : (.methodLink "TwinTunersLaw" 53 ⟨"TwinTuners", "protect", "(IZ)V"⟩ : Cond) ∈ tb_ := tb_w 562 rfl rfl
set_option maxRecDepth 100000 in
theorem tb_563 : (.instanceMethod ⟨"TwinTuners", "protect", "(IZ)V"⟩ : Cond) ∈ tb_ := tb_w 563 rfl rfl
set_option maxRecDepth 100000 in
theorem tb_564 : (.selects "TwinTuners" ⟨"TwinTuners", "protect", "(IZ)V"⟩ ⟨"TwinTuners", "protect", "(IZ)V"⟩ : Cond) ∈ tb_ := tb_w 564 rfl rfl
set_option maxRecDepth 100000 in
theorem tb_577 : (.codeWith ⟨"TwinTunersLaw", "seen", "(LTwinTuners;IZ)I"⟩ method_15_code 4 (some .int) [(0, 6, 9, 21), (0, 6, 12, 15)] : Cond) ∈ tb_ := tb_w 577 rfl rfl
set_option maxRecDepth 100000 in
theorem tb_578 : (.methodLink "TwinTunersLaw" 57 ⟨"TwinTuners", "seen", "(IZ)V"⟩ : Cond) ∈ tb_ := tb_w 578 rfl rfl
set_option maxRecDepth 100000 in
theorem tb_579 : (.instanceMethod ⟨"TwinTuners", "seen", "(IZ)V"⟩ : Cond) ∈ tb_ := tb_w 579 rfl rfl
set_option maxRecDepth 100000 in
theorem tb_580 : (.selects "TwinTuners" ⟨"TwinTuners", "seen", "(IZ)V"⟩ ⟨"TwinTuners", "seen", "(IZ)V"⟩ : Cond) ∈ tb_ := tb_w 580 rfl rfl
set_option maxRecDepth 100000 in
theorem tb_584 : (.codeWith ⟨"TwinTunersLaw", "erase", "(LTwinTuners;I[J)I"⟩ method_16_code 4 (some .int) [(0, 9, 12, 21), (0, 9, 15, 15)] : Cond) ∈ tb_ := tb_w 584 rfl rfl
set_option maxRecDepth 100000 in
theorem tb_585 : (.methodLink "TwinTunersLaw" 60 ⟨"TwinTuners", "erase", "(I)I"⟩ : Cond) ∈ tb_ := tb_w 585 rfl rfl
set_option maxRecDepth 100000 in
theorem tb_586 : (.instanceMethod ⟨"TwinTuners", "erase", "(I)I"⟩ : Cond) ∈ tb_ := tb_w 586 rfl rfl
set_option maxRecDepth 100000 in
theorem tb_587 : (.selects "TwinTuners" ⟨"TwinTuners", "erase", "(I)I"⟩ ⟨"TwinTuners", "erase", "(I)I"⟩ : Cond) ∈ tb_ := tb_w 587 rfl rfl
set_option maxRecDepth 100000 in
theorem tb_592 : (.codeWith ⟨"TwinTunersLaw", "bookmark", "(LTwinTuners;II[J)I"⟩ method_17_code 5 (some .int) [(0, 10, 13, 21), (0, 10, 17, 13), (0, 10, 21, 15)] : Cond) ∈ tb_ := tb_w 592 rfl rfl
set_option maxRecDepth 100000 in
theorem tb_593 : (.methodLink "TwinTunersLaw" 63 ⟨"TwinTuners", "bookmark", "(II)I"⟩ : Cond) ∈ tb_ := tb_w 593 rfl rfl
set_option maxRecDepth 100000 in
theorem tb_594 : (.instanceMethod ⟨"TwinTuners", "bookmark", "(II)I"⟩ : Cond) ∈ tb_ := tb_w 594 rfl rfl
set_option maxRecDepth 100000 in
theorem tb_595 : (.selects "TwinTuners" ⟨"TwinTuners", "bookmark", "(II)I"⟩ ⟨"TwinTuners", "bookmark", "(II)I"⟩ : Cond) ∈ tb_ := tb_w 595 rfl rfl
set_option maxRecDepth 100000 in
theorem tb_612 : (.codeWith ⟨"TwinTunersLaw", "cut", "(LTwinTuners;I[J)I"⟩ method_19_code 4 (some .int) [(0, 9, 12, 13)] : Cond) ∈ tb_ := tb_w 612 rfl rfl
set_option maxRecDepth 100000 in
theorem tb_613 : (.methodLink "TwinTunersLaw" 70 ⟨"TwinTuners", "cut", "(I)I"⟩ : Cond) ∈ tb_ := tb_w 613 rfl rfl
set_option maxRecDepth 100000 in
theorem tb_614 : (.instanceMethod ⟨"TwinTuners", "cut", "(I)I"⟩ : Cond) ∈ tb_ := tb_w 614 rfl rfl
set_option maxRecDepth 100000 in
theorem tb_615 : (.selects "TwinTuners" ⟨"TwinTuners", "cut", "(I)I"⟩ ⟨"TwinTuners", "cut", "(I)I"⟩ : Cond) ∈ tb_ := tb_w 615 rfl rfl
theorem d_LW_air_0 : decode c_LW_air 0 = .ok (.aload_n 0, 1) := by decide +kernel
theorem d_LW_air_1 : decode c_LW_air 1 = .ok (.iload_n 1, 1) := by decide +kernel
theorem d_LW_air_2 : decode c_LW_air 2 = .ok (.iload_n 2, 1) := by decide +kernel
theorem d_LW_air_3 : decode c_LW_air 3 = .ok (.invokevirtual 33, 3) := by decide +kernel
theorem d_LW_air_6 : decode c_LW_air 6 = .ok (.goto 6, 3) := by decide +kernel
theorem d_LW_air_9 : decode c_LW_air 9 = .ok (.astore_n 3, 1) := by decide +kernel
theorem d_LW_air_10 : decode c_LW_air 10 = .ok (.iconst 1, 1) := by decide +kernel
theorem d_LW_air_11 : decode c_LW_air 11 = .ok (.ireturn, 1) := by decide +kernel
theorem d_LW_air_12 : decode c_LW_air 12 = .ok (.iconst 0, 1) := by decide +kernel
theorem d_LW_air_13 : decode c_LW_air 13 = .ok (.ireturn, 1) := by decide +kernel
theorem d_LW_bookmark_0 : decode c_LW_bookmark 0 = .ok (.aload_n 3, 1) := by decide +kernel
theorem d_LW_bookmark_1 : decode c_LW_bookmark 1 = .ok (.iconst 0, 1) := by decide +kernel
theorem d_LW_bookmark_2 : decode c_LW_bookmark 2 = .ok (.aload_n 0, 1) := by decide +kernel
theorem d_LW_bookmark_3 : decode c_LW_bookmark 3 = .ok (.iload_n 1, 1) := by decide +kernel
theorem d_LW_bookmark_4 : decode c_LW_bookmark 4 = .ok (.iload_n 2, 1) := by decide +kernel
theorem d_LW_bookmark_5 : decode c_LW_bookmark 5 = .ok (.invokevirtual 63, 3) := by decide +kernel
theorem d_LW_bookmark_8 : decode c_LW_bookmark 8 = .ok (.i2l, 1) := by decide +kernel
theorem d_LW_bookmark_9 : decode c_LW_bookmark 9 = .ok (.lastore, 1) := by decide +kernel
theorem d_LW_bookmark_10 : decode c_LW_bookmark 10 = .ok (.goto 15, 3) := by decide +kernel
theorem d_LW_bookmark_13 : decode c_LW_bookmark 13 = .ok (.astore 4, 2) := by decide +kernel
theorem d_LW_bookmark_15 : decode c_LW_bookmark 15 = .ok (.iconst 1, 1) := by decide +kernel
theorem d_LW_bookmark_16 : decode c_LW_bookmark 16 = .ok (.ireturn, 1) := by decide +kernel
theorem d_LW_bookmark_17 : decode c_LW_bookmark 17 = .ok (.astore 4, 2) := by decide +kernel
theorem d_LW_bookmark_19 : decode c_LW_bookmark 19 = .ok (.iconst 2, 1) := by decide +kernel
theorem d_LW_bookmark_20 : decode c_LW_bookmark 20 = .ok (.ireturn, 1) := by decide +kernel
theorem d_LW_bookmark_21 : decode c_LW_bookmark 21 = .ok (.astore 4, 2) := by decide +kernel
theorem d_LW_bookmark_23 : decode c_LW_bookmark 23 = .ok (.iconst 3, 1) := by decide +kernel
theorem d_LW_bookmark_24 : decode c_LW_bookmark 24 = .ok (.ireturn, 1) := by decide +kernel
theorem d_LW_bookmark_25 : decode c_LW_bookmark 25 = .ok (.iconst 0, 1) := by decide +kernel
theorem d_LW_bookmark_26 : decode c_LW_bookmark 26 = .ok (.ireturn, 1) := by decide +kernel
theorem d_LW_cancel_0 : decode c_LW_cancel 0 = .ok (.aload_n 0, 1) := by decide +kernel
theorem d_LW_cancel_1 : decode c_LW_cancel 1 = .ok (.iload_n 1, 1) := by decide +kernel
theorem d_LW_cancel_2 : decode c_LW_cancel 2 = .ok (.invokevirtual 17, 3) := by decide +kernel
theorem d_LW_cancel_5 : decode c_LW_cancel 5 = .ok (.goto 9, 3) := by decide +kernel
theorem d_LW_cancel_8 : decode c_LW_cancel 8 = .ok (.astore_n 2, 1) := by decide +kernel
theorem d_LW_cancel_9 : decode c_LW_cancel 9 = .ok (.iconst 1, 1) := by decide +kernel
theorem d_LW_cancel_10 : decode c_LW_cancel 10 = .ok (.ireturn, 1) := by decide +kernel
theorem d_LW_cancel_11 : decode c_LW_cancel 11 = .ok (.astore_n 2, 1) := by decide +kernel
theorem d_LW_cancel_12 : decode c_LW_cancel 12 = .ok (.iconst 2, 1) := by decide +kernel
theorem d_LW_cancel_13 : decode c_LW_cancel 13 = .ok (.ireturn, 1) := by decide +kernel
theorem d_LW_cancel_14 : decode c_LW_cancel 14 = .ok (.iconst 0, 1) := by decide +kernel
theorem d_LW_cancel_15 : decode c_LW_cancel 15 = .ok (.ireturn, 1) := by decide +kernel
theorem d_LW_cut_0 : decode c_LW_cut 0 = .ok (.aload_n 2, 1) := by decide +kernel
theorem d_LW_cut_1 : decode c_LW_cut 1 = .ok (.iconst 0, 1) := by decide +kernel
theorem d_LW_cut_2 : decode c_LW_cut 2 = .ok (.aload_n 0, 1) := by decide +kernel
theorem d_LW_cut_3 : decode c_LW_cut 3 = .ok (.iload_n 1, 1) := by decide +kernel
theorem d_LW_cut_4 : decode c_LW_cut 4 = .ok (.invokevirtual 70, 3) := by decide +kernel
theorem d_LW_cut_7 : decode c_LW_cut 7 = .ok (.i2l, 1) := by decide +kernel
theorem d_LW_cut_8 : decode c_LW_cut 8 = .ok (.lastore, 1) := by decide +kernel
theorem d_LW_cut_9 : decode c_LW_cut 9 = .ok (.goto 6, 3) := by decide +kernel
theorem d_LW_cut_12 : decode c_LW_cut 12 = .ok (.astore_n 3, 1) := by decide +kernel
theorem d_LW_cut_13 : decode c_LW_cut 13 = .ok (.iconst 1, 1) := by decide +kernel
theorem d_LW_cut_14 : decode c_LW_cut 14 = .ok (.ireturn, 1) := by decide +kernel
theorem d_LW_cut_15 : decode c_LW_cut 15 = .ok (.iconst 0, 1) := by decide +kernel
theorem d_LW_cut_16 : decode c_LW_cut 16 = .ok (.ireturn, 1) := by decide +kernel
theorem d_LW_erase_0 : decode c_LW_erase 0 = .ok (.aload_n 2, 1) := by decide +kernel
theorem d_LW_erase_1 : decode c_LW_erase 1 = .ok (.iconst 0, 1) := by decide +kernel
theorem d_LW_erase_2 : decode c_LW_erase 2 = .ok (.aload_n 0, 1) := by decide +kernel
theorem d_LW_erase_3 : decode c_LW_erase 3 = .ok (.iload_n 1, 1) := by decide +kernel
theorem d_LW_erase_4 : decode c_LW_erase 4 = .ok (.invokevirtual 60, 3) := by decide +kernel
theorem d_LW_erase_7 : decode c_LW_erase 7 = .ok (.i2l, 1) := by decide +kernel
theorem d_LW_erase_8 : decode c_LW_erase 8 = .ok (.lastore, 1) := by decide +kernel
theorem d_LW_erase_9 : decode c_LW_erase 9 = .ok (.goto 9, 3) := by decide +kernel
theorem d_LW_erase_12 : decode c_LW_erase 12 = .ok (.astore_n 3, 1) := by decide +kernel
theorem d_LW_erase_13 : decode c_LW_erase 13 = .ok (.iconst 1, 1) := by decide +kernel
theorem d_LW_erase_14 : decode c_LW_erase 14 = .ok (.ireturn, 1) := by decide +kernel
theorem d_LW_erase_15 : decode c_LW_erase 15 = .ok (.astore_n 3, 1) := by decide +kernel
theorem d_LW_erase_16 : decode c_LW_erase 16 = .ok (.iconst 2, 1) := by decide +kernel
theorem d_LW_erase_17 : decode c_LW_erase 17 = .ok (.ireturn, 1) := by decide +kernel
theorem d_LW_erase_18 : decode c_LW_erase 18 = .ok (.iconst 0, 1) := by decide +kernel
theorem d_LW_erase_19 : decode c_LW_erase 19 = .ok (.ireturn, 1) := by decide +kernel
theorem d_LW_protect_0 : decode c_LW_protect 0 = .ok (.aload_n 0, 1) := by decide +kernel
theorem d_LW_protect_1 : decode c_LW_protect 1 = .ok (.iload_n 1, 1) := by decide +kernel
theorem d_LW_protect_2 : decode c_LW_protect 2 = .ok (.iload_n 2, 1) := by decide +kernel
theorem d_LW_protect_3 : decode c_LW_protect 3 = .ok (.invokevirtual 53, 3) := by decide +kernel
theorem d_LW_protect_6 : decode c_LW_protect 6 = .ok (.goto 9, 3) := by decide +kernel
theorem d_LW_protect_9 : decode c_LW_protect 9 = .ok (.astore_n 3, 1) := by decide +kernel
theorem d_LW_protect_10 : decode c_LW_protect 10 = .ok (.iconst 1, 1) := by decide +kernel
theorem d_LW_protect_11 : decode c_LW_protect 11 = .ok (.ireturn, 1) := by decide +kernel
theorem d_LW_protect_12 : decode c_LW_protect 12 = .ok (.astore_n 3, 1) := by decide +kernel
theorem d_LW_protect_13 : decode c_LW_protect 13 = .ok (.iconst 2, 1) := by decide +kernel
theorem d_LW_protect_14 : decode c_LW_protect 14 = .ok (.ireturn, 1) := by decide +kernel
theorem d_LW_protect_15 : decode c_LW_protect 15 = .ok (.iconst 0, 1) := by decide +kernel
theorem d_LW_protect_16 : decode c_LW_protect 16 = .ok (.ireturn, 1) := by decide +kernel
theorem d_LW_request_0 : decode c_LW_request 0 = .ok (.aload 6, 2) := by decide +kernel
theorem d_LW_request_2 : decode c_LW_request 2 = .ok (.iconst 0, 1) := by decide +kernel
theorem d_LW_request_3 : decode c_LW_request 3 = .ok (.aload_n 0, 1) := by decide +kernel
theorem d_LW_request_4 : decode c_LW_request 4 = .ok (.iload_n 1, 1) := by decide +kernel
theorem d_LW_request_5 : decode c_LW_request 5 = .ok (.iload_n 2, 1) := by decide +kernel
theorem d_LW_request_6 : decode c_LW_request 6 = .ok (.iload_n 3, 1) := by decide +kernel
theorem d_LW_request_7 : decode c_LW_request 7 = .ok (.iload 4, 2) := by decide +kernel
theorem d_LW_request_9 : decode c_LW_request 9 = .ok (.iload 5, 2) := by decide +kernel
theorem d_LW_request_11 : decode c_LW_request 11 = .ok (.invokevirtual 7, 3) := by decide +kernel
theorem d_LW_request_14 : decode c_LW_request 14 = .ok (.i2l, 1) := by decide +kernel
theorem d_LW_request_15 : decode c_LW_request 15 = .ok (.lastore, 1) := by decide +kernel
theorem d_LW_request_16 : decode c_LW_request 16 = .ok (.goto 11, 3) := by decide +kernel
theorem d_LW_request_19 : decode c_LW_request 19 = .ok (.astore 7, 2) := by decide +kernel
theorem d_LW_request_21 : decode c_LW_request 21 = .ok (.iconst 1, 1) := by decide +kernel
theorem d_LW_request_22 : decode c_LW_request 22 = .ok (.ireturn, 1) := by decide +kernel
theorem d_LW_request_23 : decode c_LW_request 23 = .ok (.astore 7, 2) := by decide +kernel
theorem d_LW_request_25 : decode c_LW_request 25 = .ok (.iconst 2, 1) := by decide +kernel
theorem d_LW_request_26 : decode c_LW_request 26 = .ok (.ireturn, 1) := by decide +kernel
theorem d_LW_request_27 : decode c_LW_request 27 = .ok (.iconst 0, 1) := by decide +kernel
theorem d_LW_request_28 : decode c_LW_request 28 = .ok (.ireturn, 1) := by decide +kernel
theorem d_LW_seen_0 : decode c_LW_seen 0 = .ok (.aload_n 0, 1) := by decide +kernel
theorem d_LW_seen_1 : decode c_LW_seen 1 = .ok (.iload_n 1, 1) := by decide +kernel
theorem d_LW_seen_2 : decode c_LW_seen 2 = .ok (.iload_n 2, 1) := by decide +kernel
theorem d_LW_seen_3 : decode c_LW_seen 3 = .ok (.invokevirtual 57, 3) := by decide +kernel
theorem d_LW_seen_6 : decode c_LW_seen 6 = .ok (.goto 9, 3) := by decide +kernel
theorem d_LW_seen_9 : decode c_LW_seen 9 = .ok (.astore_n 3, 1) := by decide +kernel
theorem d_LW_seen_10 : decode c_LW_seen 10 = .ok (.iconst 1, 1) := by decide +kernel
theorem d_LW_seen_11 : decode c_LW_seen 11 = .ok (.ireturn, 1) := by decide +kernel
theorem d_LW_seen_12 : decode c_LW_seen 12 = .ok (.astore_n 3, 1) := by decide +kernel
theorem d_LW_seen_13 : decode c_LW_seen 13 = .ok (.iconst 2, 1) := by decide +kernel
theorem d_LW_seen_14 : decode c_LW_seen 14 = .ok (.ireturn, 1) := by decide +kernel
theorem d_LW_seen_15 : decode c_LW_seen 15 = .ok (.iconst 0, 1) := by decide +kernel
theorem d_LW_seen_16 : decode c_LW_seen 16 = .ok (.ireturn, 1) := by decide +kernel
theorem d_LW_ticks_0 : decode c_LW_ticks 0 = .ok (.aload_n 2, 1) := by decide +kernel
theorem d_LW_ticks_1 : decode c_LW_ticks 1 = .ok (.iconst 0, 1) := by decide +kernel
theorem d_LW_ticks_2 : decode c_LW_ticks 2 = .ok (.aload_n 0, 1) := by decide +kernel
theorem d_LW_ticks_3 : decode c_LW_ticks 3 = .ok (.iload_n 1, 1) := by decide +kernel
theorem d_LW_ticks_4 : decode c_LW_ticks 4 = .ok (.invokevirtual 37, 3) := by decide +kernel
theorem d_LW_ticks_7 : decode c_LW_ticks 7 = .ok (.i2l, 1) := by decide +kernel
theorem d_LW_ticks_8 : decode c_LW_ticks 8 = .ok (.lastore, 1) := by decide +kernel
theorem d_LW_ticks_9 : decode c_LW_ticks 9 = .ok (.goto 6, 3) := by decide +kernel
theorem d_LW_ticks_12 : decode c_LW_ticks 12 = .ok (.astore_n 3, 1) := by decide +kernel
theorem d_LW_ticks_13 : decode c_LW_ticks 13 = .ok (.iconst 1, 1) := by decide +kernel
theorem d_LW_ticks_14 : decode c_LW_ticks 14 = .ok (.ireturn, 1) := by decide +kernel
theorem d_LW_ticks_15 : decode c_LW_ticks 15 = .ok (.iconst 0, 1) := by decide +kernel
theorem d_LW_ticks_16 : decode c_LW_ticks 16 = .ok (.ireturn, 1) := by decide +kernel
theorem d_LW_watch_0 : decode c_LW_watch 0 = .ok (.aload_n 2, 1) := by decide +kernel
theorem d_LW_watch_1 : decode c_LW_watch 1 = .ok (.iconst 0, 1) := by decide +kernel
theorem d_LW_watch_2 : decode c_LW_watch 2 = .ok (.aload_n 0, 1) := by decide +kernel
theorem d_LW_watch_3 : decode c_LW_watch 3 = .ok (.iload_n 1, 1) := by decide +kernel
theorem d_LW_watch_4 : decode c_LW_watch 4 = .ok (.invokevirtual 40, 3) := by decide +kernel
theorem d_LW_watch_7 : decode c_LW_watch 7 = .ok (.i2l, 1) := by decide +kernel
theorem d_LW_watch_8 : decode c_LW_watch 8 = .ok (.lastore, 1) := by decide +kernel
theorem d_LW_watch_9 : decode c_LW_watch 9 = .ok (.goto 6, 3) := by decide +kernel
theorem d_LW_watch_12 : decode c_LW_watch 12 = .ok (.astore_n 3, 1) := by decide +kernel
theorem d_LW_watch_13 : decode c_LW_watch 13 = .ok (.iconst 1, 1) := by decide +kernel
theorem d_LW_watch_14 : decode c_LW_watch 14 = .ok (.ireturn, 1) := by decide +kernel
theorem d_LW_watch_15 : decode c_LW_watch 15 = .ok (.iconst 0, 1) := by decide +kernel
theorem d_LW_watch_16 : decode c_LW_watch 16 = .ok (.ireturn, 1) := by decide +kernel
set_option maxHeartbeats 8000000 in
set_option maxRecDepth 100000 in
theorem w_LW_air_c (l : Launch) (dC : Nat → ClassId) (dI : Nat → Nat → Nat) (cd : Nat → Nat) (kI kQ : ClassId) (L : List Nat) (isA : Nat → Bool) (bk : Nat → Nat) (sc : Nat → Int32) (ia : Nat → Nat → Int32) (qa : Nat → Nat → Option Nat) (rf ba : Nat → Nat → Int32) (kJ : ClassId) (ou : Nat) (g : Nat → Int64) (sz Bd : Nat) (hl9 : l.stackTraces = false) (N : Nat) (hC : CI N L isA bk sc qa rf) (x y : Int32) : Met l y_LW_air w_LW_air ({ frames := 7, cells := 1, slots := 6, locals := 112 }) (frP (dC, dI) (oW ou kJ g ++ CW cd kI kQ L isA bk sc ia qa rf ba) (CTJ kI kQ kJ) sz Bd [.ref (cd 0), .int x, .int y]) (tQ (dC, dI) (wW cd kI kQ kJ ou) (va_A (oW ou kJ g ++ CW cd kI kQ L isA bk sc ia qa rf ba) sz) vI (fun r u => same [] sc u.1.2.1 ∧ (∃ Nz, CI Nz u.1.1.1 u.1.1.2.1 u.1.1.2.2 u.1.2.1 u.1.2.2.2.1 u.1.2.2.2.2.1) ∧ ((0 ≤ x.toInt ∧ x.toInt ≤ 7) ∧ r = 0 ∨ ¬ (0 ≤ x.toInt ∧ x.toInt ≤ 7) ∧ r = 1))) 1 6 (va_A (oW ou kJ g ++ CW cd kI kQ L isA bk sc ia qa rf ba) sz) := by
  refine va_MetW (cc := c_LW_air) (maxL := 4) (ret := (some .int)) (hh := [(0, 6, 9, 21)]) (by decide) rfl ?_
  intro p e s m args below meth c s₁ B hml hv
  obtain ⟨rfl, ⟨hsz, hBs⟩, hP, hK, hD0, hV⟩ := hv
  have hx := B.exec
  have hb := B.bytes
  have hr := B.returns
  have ht : ∀ w ∈ tb_, w.before _ s = true := fun w h => atoms_spec (ws := w_LW_air) B.pre w (List.mem_cons_of_mem _ h)
  have hown : s.vm.findClass R_LW = some m.cls := findClass_of_methodNamed B.named
  have hlocks := B.notSynchronized
  subst hsz
  have hD := hD0.self (sz := s.heap.size)
  have hAB : ∀ q, va_A (oW ou kJ g ++ CW cd kI kQ L isA bk sc ia qa rf ba) s.heap.size q → Bd ≤ q := fr_AB hD0 hBs
  generalize hAe : va_A (oW ou kJ g ++ CW cd kI kQ L isA bk sc ia qa rf ba) s.heap.size = A at hD hAB ⊢
  have hA : ∀ q : Nat, s.heap.size ≤ q → A q := fun q h => by rw [← hAe]; exact Or.inr h
  have hS : va_S A s.heap s.heap [] := va_S.rf
  have hP : va_P (dC, dI) cls_ (oW ou kJ g ++ CW cd kI kQ L isA bk sc ia qa rf ba) s.heap := hP
  have hl := lv_entry ([.ref (cd 0), .int x, .int y]) (n := 4) (Nat.le_of_ble_eq_true rfl)
  rw [lg_entry_eq]
  generalize (lg_sl ([.ref (cd 0), .int x, .int y]) ++ List.replicate (4 - (lg_sl ([.ref (cd 0), .int x, .int y])).length) Slot.unset).toArray = ls at hl ⊢
  have hl : lv_has ls 4 [(0, .ref (cd 0)), (1, .int x), (2, .int y)] := hl
  have hN := hC.1.1
  refine lv_aload_n hx hb d_LW_air_0 rfl (lv_at hl 0 rfl) ?_
  refine lv_iload_n hx hb d_LW_air_1 rfl (lv_at hl 1 rfl) ?_
  refine lv_iload_n hx hb d_LW_air_2 rfl (lv_at hl 2 rfl) ?_
  rcases Classical.em (0 ≤ x.toInt ∧ x.toInt ≤ 7) with h | h
  · have hK2 : va_K (dC, dI) cls_ (CT kI kQ) s := hK.sub (tys' := CT kI kQ) [0, 1] rfl
    refine t_callF (E := oW ou kJ g) (u0 := (sc, ia, qa, rf, ba)) (w0 := CW cd kI kQ L isA bk sc ia qa rf ba) rfl (va_runV (C := R_TT) (As := [.int x, .int y]) (rest := []) ⟨hx, hb, hml, hown, ht⟩ (k_TT_air_ok l dC dI cd kI kQ L isA bk sc ia qa rf ba s.heap.size Bd N hC x y h) (cwV 2 ht (gV tb_506 tb_507 tb_508 tb_1 tb_509) rfl rfl rfl (by decide +kernel) ⟨Nat.le_of_ble_eq_true rfl, Nat.le_of_ble_eq_true rfl⟩) ⟨frP_blind, va_recv (q := (R_TT, F_TT, 8)) hK hP rfl (show (oW ou kJ g ++ CW cd kI kQ L isA bk sc ia qa rf ba : va_W)[1]? = some _ from rfl), fr_pre (ap_P hP) hK2 (ap_D hD) hAB hBs hS hV⟩ rfl rfl hl.1 rfl (lv_room (Nat.le_of_ble_eq_true rfl)) d_LW_air_3 ⟨Nat.le_of_ble_eq_true rfl, Nat.le_of_ble_eq_true rfl⟩) hP hD hS hA (fun r1 u H locs hu hP hD hS => ?_)
    obtain ⟨sc2, ia3, qa4, rf5, ba6⟩ := u
    obtain ⟨hu1_0, hu1_1, hu1_2, hu1_3, hu1_4⟩ := hu
    have hu1_0 : sc = sc2 := hu1_0
    have hu1_1 : qa = qa4 := hu1_1
    have hu1_2 : rf = rf5 := hu1_2
    have hu1_3 : ba = ba6 := hu1_3
    have hu1_4 : CI N L isA bk sc2 qa4 rf5 := hu1_4
    subst hu1_0
    subst hu1_1
    subst hu1_2
    subst hu1_3
    have hu1_4 : CI N L isA bk sc qa rf := hu1_4
    have hP : va_P (dC, dI) cls_ (oW ou kJ g ++ CW cd kI kQ L isA bk sc ia3 qa rf ba) H := hP
    have hD : va_D A (oW ou kJ g ++ CW cd kI kQ L isA bk sc ia3 qa rf ba) := hD
    refine W.eq (g2 := F0 m 6 ls []) rfl ?_
    refine W.cs (cells' := 0) (slots' := 0) rfl rfl ?_
    refine lv_goto (tgt := 12) hx hb d_LW_air_6 (by decide) ?_
    refine lv_iconst (v := 0) hx hb d_LW_air_12 (by decide) ?_
    have hz0 : ((0 ≤ x.toInt ∧ x.toInt ≤ 7) ∧ (0 : Int32) = 0 ∨ ¬ (0 ≤ x.toInt ∧ x.toInt ≤ 7) ∧ (0 : Int32) = 1) := Or.inl ⟨h, rfl⟩
    refine W.widen (k := 1) (n := 6) (Nat.le_of_ble_eq_true rfl) (Nat.le_of_ble_eq_true rfl) ?_
    exact W.iret (v := 0) hx hb hr (fun t ht9 hW => ⟨⟨0, (((L, isA, bk), (sc, ia3, qa, rf, ba)), g), rfl, ⟨same.rf, ⟨N, hu1_4⟩, hz0⟩, by rw [ht9]; exact hP, hD⟩, hS.F ht9⟩) hS.2.2 d_LW_air_13
  · have hK2 : va_K (dC, dI) cls_ (CT kI kQ) s := hK.sub (tys' := CT kI kQ) [0, 1] rfl
    refine tw_runV (C := R_TT) (As := [.int x, .int y]) (rest := []) ⟨hx, hb, hml, hown, ht⟩ (k_TT_air_th l dC dI cd kI kQ L isA bk sc ia qa rf ba s.heap.size Bd hl9 N hC x y h) (cwV 2 ht (gV tb_506 tb_507 tb_508 tb_1 tb_509) rfl rfl rfl (by decide +kernel) ⟨Nat.le_of_ble_eq_true rfl, Nat.le_of_ble_eq_true rfl⟩) ⟨frP_blind, va_recv (q := (R_TT, F_TT, 8)) hK hP rfl (show (oW ou kJ g ++ CW cd kI kQ L isA bk sc ia qa rf ba : va_W)[1]? = some _ from rfl), fr_pre (ap_P hP) hK2 (ap_D hD) hAB hBs hS hV⟩ rfl hl.1 rfl (Nat.le_of_ble_eq_true rfl) d_LW_air_3 ⟨Nat.le_of_ble_eq_true rfl, Nat.le_of_ble_eq_true rfl⟩ (fun xa cellx H1 hx1 hx2 hx3 hx4 hx5 hx6 => ?_)
    refine tw_catch hown ⟨0, 6, 9, 21⟩ [] (tw_table B (atoms_spec (ws := w_LW_air) B.pre _ List.mem_cons_self)) (by decide) (by decide) (ht _ tb_451)  (va_Nw.use rfl hV.2.1.2.1) hx2 hx3 hx4 ?_
    have hP : va_P (dC, dI) cls_ (oW ou kJ g ++ CW cd kI kQ L isA bk sc ia qa rf ba) H1 := hP.kept (fun k q hq => hx6 q.1 ((hP k q hq).lt))
    have hS : va_S A s.heap H1 _ := ⟨Nat.le_trans hS.1 hx5, fun q h1 h2 => (hx6 q (Nat.lt_of_lt_of_le h1 hS.1)).trans (hS.2.1 q h1 h2), hS.2.2⟩
    generalize H1 = H at hP hS ⊢
    refine W.cs (cells' := 1) (slots' := 6) rfl rfl ?_
    refine lv_astore_n hx hb d_LW_air_9 rfl hl (by decide) rfl (fun ls hl => ?_)
    have hl : lv_has ls 4 [(3, .ref xa), (0, .ref (cd 0)), (1, .int x), (2, .int y)] := hl
    refine lv_iconst (v := 1) hx hb d_LW_air_10 (by decide) ?_
    have hz0 : ((0 ≤ x.toInt ∧ x.toInt ≤ 7) ∧ (1 : Int32) = 0 ∨ ¬ (0 ≤ x.toInt ∧ x.toInt ≤ 7) ∧ (1 : Int32) = 1) := Or.inr ⟨h, rfl⟩
    exact W.iret (v := 1) hx hb hr (fun t ht9 hW => ⟨⟨1, (((L, isA, bk), (sc, ia, qa, rf, ba)), g), rfl, ⟨same.rf, ⟨N, hC⟩, hz0⟩, by rw [ht9]; exact hP, hD⟩, hS.F ht9⟩) hS.2.2 d_LW_air_11
set_option maxHeartbeats 8000000 in
set_option maxRecDepth 100000 in
theorem w_LW_watch_c (l : Launch) (dC : Nat → ClassId) (dI : Nat → Nat → Nat) (cd : Nat → Nat) (kI kQ : ClassId) (L : List Nat) (isA : Nat → Bool) (bk : Nat → Nat) (sc : Nat → Int32) (ia : Nat → Nat → Int32) (qa : Nat → Nat → Option Nat) (rf ba : Nat → Nat → Int32) (kJ : ClassId) (ou : Nat) (g : Nat → Int64) (sz Bd : Nat) (hl9 : l.stackTraces = false) (N : Nat) (hC : CI N L isA bk sc qa rf) (x : Int32) : Met l y_LW_watch w_LW_watch ({ frames := 7, cells := 1, slots := 6, locals := 112 }) (frP (dC, dI) (oW ou kJ g ++ CW cd kI kQ L isA bk sc ia qa rf ba) (CTJ kI kQ kJ) sz Bd [.ref (cd 0), .int x, .ref ou]) (tQ (dC, dI) (wW cd kI kQ kJ ou) (va_A (oW ou kJ g ++ CW cd kI kQ L isA bk sc ia qa rf ba) sz) vI (fun r u => same [2, 5] sc u.1.2.1 ∧ (∃ Nz, CI Nz u.1.1.1 u.1.1.2.1 u.1.1.2.2 u.1.2.1 u.1.2.2.2.1 u.1.2.2.2.2.1) ∧ ((-1 ≤ x.toInt ∧ x.toInt ≤ 7) ∧ r = 0 ∧ u.1.2.1 2 = x ∧ u.2 0 = (sc 2).toInt64 ∨ ¬ (-1 ≤ x.toInt ∧ x.toInt ≤ 7) ∧ r = 1 ∧ u.1.2.1 2 = sc 2))) 1 6 (va_A (oW ou kJ g ++ CW cd kI kQ L isA bk sc ia qa rf ba) sz) := by
  refine va_MetW (cc := c_LW_watch) (maxL := 4) (ret := (some .int)) (hh := [(0, 9, 12, 21)]) (by decide) rfl ?_
  intro p e s m args below meth c s₁ B hml hv
  obtain ⟨rfl, ⟨hsz, hBs⟩, hP, hK, hD0, hV⟩ := hv
  have hx := B.exec
  have hb := B.bytes
  have hr := B.returns
  have ht : ∀ w ∈ tb_, w.before _ s = true := fun w h => atoms_spec (ws := w_LW_watch) B.pre w (List.mem_cons_of_mem _ h)
  have hown : s.vm.findClass R_LW = some m.cls := findClass_of_methodNamed B.named
  have hlocks := B.notSynchronized
  subst hsz
  have hD := hD0.self (sz := s.heap.size)
  have hAB : ∀ q, va_A (oW ou kJ g ++ CW cd kI kQ L isA bk sc ia qa rf ba) s.heap.size q → Bd ≤ q := fr_AB hD0 hBs
  generalize hAe : va_A (oW ou kJ g ++ CW cd kI kQ L isA bk sc ia qa rf ba) s.heap.size = A at hD hAB ⊢
  have hA : ∀ q : Nat, s.heap.size ≤ q → A q := fun q h => by rw [← hAe]; exact Or.inr h
  have hS : va_S A s.heap s.heap [] := va_S.rf
  have hP : va_P (dC, dI) cls_ (oW ou kJ g ++ CW cd kI kQ L isA bk sc ia qa rf ba) s.heap := hP
  have hl := lv_entry ([.ref (cd 0), .int x, .ref ou]) (n := 4) (Nat.le_of_ble_eq_true rfl)
  rw [lg_entry_eq]
  generalize (lg_sl ([.ref (cd 0), .int x, .ref ou]) ++ List.replicate (4 - (lg_sl ([.ref (cd 0), .int x, .ref ou])).length) Slot.unset).toArray = ls at hl ⊢
  have hl : lv_has ls 4 [(0, .ref (cd 0)), (1, .int x), (2, .ref ou)] := hl
  have hN := hC.1.1
  refine lv_aload_n hx hb d_LW_watch_0 rfl (lv_at hl 2 rfl) ?_
  refine lv_iconst (v := 0) hx hb d_LW_watch_1 (by decide) ?_
  refine lv_aload_n hx hb d_LW_watch_2 rfl (lv_at hl 0 rfl) ?_
  refine lv_iload_n hx hb d_LW_watch_3 rfl (lv_at hl 1 rfl) ?_
  rcases Classical.em (-1 ≤ x.toInt ∧ x.toInt ≤ 7) with h | h
  · have hK2 : va_K (dC, dI) cls_ (CT kI kQ) s := hK.sub (tys' := CT kI kQ) [0, 1] rfl
    refine t_callF (E := oW ou kJ g) (u0 := (sc, ia, qa, rf, ba)) (w0 := CW cd kI kQ L isA bk sc ia qa rf ba) rfl (va_runV (C := R_TT) (As := [.int x]) (rest := [.int 0, .ref ou]) ⟨hx, hb, hml, hown, ht⟩ (k_TT_watch_ok l dC dI cd kI kQ L isA bk sc ia qa rf ba s.heap.size Bd N hC x h) (cwV 1 ht (gV tb_522 tb_523 tb_524 tb_1 tb_525) rfl rfl rfl (by decide +kernel) ⟨Nat.le_of_ble_eq_true rfl, Nat.le_of_ble_eq_true rfl⟩) ⟨frP_blind, va_recv (q := (R_TT, F_TT, 8)) hK hP rfl (show (oW ou kJ g ++ CW cd kI kQ L isA bk sc ia qa rf ba : va_W)[1]? = some _ from rfl), fr_pre (ap_P hP) hK2 (ap_D hD) hAB hBs hS hV⟩ rfl rfl hl.1 rfl (lv_room (Nat.le_of_ble_eq_true rfl)) d_LW_watch_4 ⟨Nat.le_of_ble_eq_true rfl, Nat.le_of_ble_eq_true rfl⟩) hP hD hS hA (fun r1 u H locs hu hP hD hS => ?_)
    obtain ⟨sc2, ia3, qa4, rf5, ba6⟩ := u
    obtain ⟨hu1_0, hu1_1, hu1_2, hu1_3, hu1_4, hu1_5, hu1_6, hu1_7⟩ := hu
    have hu1_0 : same [2, 5] sc sc2 := hu1_0
    have hu1_1 : ia = ia3 := hu1_1
    have hu1_2 : qa = qa4 := hu1_2
    have hu1_3 : rf = rf5 := hu1_3
    have hu1_4 : ba = ba6 := hu1_4
    have hu1_5 : CI N L isA bk sc2 qa4 rf5 := hu1_5
    have hu1_6 : r1 = sc 2 := hu1_6
    have hu1_7 : sc2 2 = x := hu1_7
    subst hu1_1
    subst hu1_2
    subst hu1_3
    subst hu1_4
    have hu1_5 : CI N L isA bk sc2 qa rf := hu1_5
    have hu1_6 : r1 = sc 2 := hu1_6
    have hu1_7 : sc2 2 = x := hu1_7
    have hu1_0 : same [2, 5] sc sc2 := hu1_0
    have hP : va_P (dC, dI) cls_ (oW ou kJ g ++ CW cd kI kQ L isA bk sc2 ia qa rf ba) H := hP
    have hD : va_D A (oW ou kJ g ++ CW cd kI kQ L isA bk sc2 ia qa rf ba) := hD
    refine W.eq (g2 := F0 m 7 ls [.int r1, .int 0, .ref ou]) rfl ?_
    refine W.cs (cells' := 0) (slots' := 0) rfl rfl ?_
    refine lv_i2l hx hb d_LW_watch_7 rfl ?_
    refine va_last hx hb hK hP hD hS 0 2 rfl rfl (show vp_in (nI 0) 1 from vp_in_nI (by decide) (by decide)) d_LW_watch_8 (fun H locs hP hD hS => ?_)
    have hP : va_P (dC, dI) cls_ (oW ou kJ (vp_updL g (0 : Int32).toNatClampNeg r1.toInt64) ++ CW cd kI kQ L isA bk sc2 ia qa rf ba) H := hP
    have hD : va_D A (oW ou kJ (vp_updL g (0 : Int32).toNatClampNeg r1.toInt64) ++ CW cd kI kQ L isA bk sc2 ia qa rf ba) := hD
    obtain ⟨g7, eg7⟩ : ∃ q9_, q9_ = vp_updL g (0 : Int32).toNatClampNeg r1.toInt64 := ⟨_, rfl⟩
    rw [← eg7] at hP hD
    refine lv_goto (tgt := 15) hx hb d_LW_watch_9 (by decide) ?_
    refine lv_iconst (v := 0) hx hb d_LW_watch_15 (by decide) ?_
    have hz0 : ((-1 ≤ x.toInt ∧ x.toInt ≤ 7) ∧ (0 : Int32) = 0 ∧ sc2 2 = x ∧ g7 0 = (sc 2).toInt64 ∨ ¬ (-1 ≤ x.toInt ∧ x.toInt ≤ 7) ∧ (0 : Int32) = 1 ∧ sc2 2 = sc 2) := Or.inl ⟨h, rfl, hu1_7, by rw [eg7]; show vp_updL _ 0 _ 0 = _; rw [pk_uLs, hu1_6]⟩
    refine W.widen (k := 1) (n := 6) (Nat.le_of_ble_eq_true rfl) (Nat.le_of_ble_eq_true rfl) ?_
    exact W.iret (v := 0) hx hb hr (fun t ht9 hW => ⟨⟨0, (((L, isA, bk), (sc2, ia, qa, rf, ba)), g7), rfl, ⟨hu1_0.wk (by decide), ⟨N, hu1_5⟩, hz0⟩, by rw [ht9]; exact hP, hD⟩, hS.F ht9⟩) hS.2.2 d_LW_watch_16
  · have hK2 : va_K (dC, dI) cls_ (CT kI kQ) s := hK.sub (tys' := CT kI kQ) [0, 1] rfl
    refine tw_runV (C := R_TT) (As := [.int x]) (rest := [.int 0, .ref ou]) ⟨hx, hb, hml, hown, ht⟩ (k_TT_watch_th l dC dI cd kI kQ L isA bk sc ia qa rf ba s.heap.size Bd hl9 N hC x h) (cwV 1 ht (gV tb_522 tb_523 tb_524 tb_1 tb_525) rfl rfl rfl (by decide +kernel) ⟨Nat.le_of_ble_eq_true rfl, Nat.le_of_ble_eq_true rfl⟩) ⟨frP_blind, va_recv (q := (R_TT, F_TT, 8)) hK hP rfl (show (oW ou kJ g ++ CW cd kI kQ L isA bk sc ia qa rf ba : va_W)[1]? = some _ from rfl), fr_pre (ap_P hP) hK2 (ap_D hD) hAB hBs hS hV⟩ rfl hl.1 rfl (Nat.le_of_ble_eq_true rfl) d_LW_watch_4 ⟨Nat.le_of_ble_eq_true rfl, Nat.le_of_ble_eq_true rfl⟩ (fun xa cellx H1 hx1 hx2 hx3 hx4 hx5 hx6 => ?_)
    refine tw_catch hown ⟨0, 9, 12, 21⟩ [] (tw_table B (atoms_spec (ws := w_LW_watch) B.pre _ List.mem_cons_self)) (by decide) (by decide) (ht _ tb_451)  (va_Nw.use rfl hV.2.1.2.1) hx2 hx3 hx4 ?_
    have hP : va_P (dC, dI) cls_ (oW ou kJ g ++ CW cd kI kQ L isA bk sc ia qa rf ba) H1 := hP.kept (fun k q hq => hx6 q.1 ((hP k q hq).lt))
    have hS : va_S A s.heap H1 _ := ⟨Nat.le_trans hS.1 hx5, fun q h1 h2 => (hx6 q (Nat.lt_of_lt_of_le h1 hS.1)).trans (hS.2.1 q h1 h2), hS.2.2⟩
    generalize H1 = H at hP hS ⊢
    refine W.cs (cells' := 1) (slots' := 6) rfl rfl ?_
    refine lv_astore_n hx hb d_LW_watch_12 rfl hl (by decide) rfl (fun ls hl => ?_)
    have hl : lv_has ls 4 [(3, .ref xa), (0, .ref (cd 0)), (1, .int x), (2, .ref ou)] := hl
    refine lv_iconst (v := 1) hx hb d_LW_watch_13 (by decide) ?_
    have hz0 : ((-1 ≤ x.toInt ∧ x.toInt ≤ 7) ∧ (1 : Int32) = 0 ∧ sc 2 = x ∧ g 0 = (sc 2).toInt64 ∨ ¬ (-1 ≤ x.toInt ∧ x.toInt ≤ 7) ∧ (1 : Int32) = 1 ∧ sc 2 = sc 2) := Or.inr ⟨h, rfl, rfl⟩
    exact W.iret (v := 1) hx hb hr (fun t ht9 hW => ⟨⟨1, (((L, isA, bk), (sc, ia, qa, rf, ba)), g), rfl, ⟨same.rf, ⟨N, hC⟩, hz0⟩, by rw [ht9]; exact hP, hD⟩, hS.F ht9⟩) hS.2.2 d_LW_watch_14
set_option maxHeartbeats 8000000 in
set_option maxRecDepth 100000 in
theorem w_LW_ticks_c (l : Launch) (dC : Nat → ClassId) (dI : Nat → Nat → Nat) (cd : Nat → Nat) (kI kQ : ClassId) (L : List Nat) (isA : Nat → Bool) (bk : Nat → Nat) (sc : Nat → Int32) (ia : Nat → Nat → Int32) (qa : Nat → Nat → Option Nat) (rf ba : Nat → Nat → Int32) (kJ : ClassId) (ou : Nat) (g : Nat → Int64) (sz Bd : Nat) (hl9 : l.stackTraces = false) (N : Nat) (hC : CI N L isA bk sc qa rf) (x : Int32) : Met l y_LW_ticks w_LW_ticks ({ frames := 8, cells := 1, slots := 6, locals := 186 }) (frP (dC, dI) (oW ou kJ g ++ CW cd kI kQ L isA bk sc ia qa rf ba) (CTJ kI kQ kJ) sz Bd [.ref (cd 0), .int x, .ref ou]) (tQ (dC, dI) (wW cd kI kQ kJ ou) (va_A (oW ou kJ g ++ CW cd kI kQ L isA bk sc ia qa rf ba) sz) vI (fun r u => same [1, 3, 4, 5] sc u.1.2.1 ∧ (∃ Nz, CI Nz u.1.1.1 u.1.1.2.1 u.1.1.2.2 u.1.2.1 u.1.2.2.2.1 u.1.2.2.2.2.1) ∧ ((1 ≤ x.toInt ∧ x.toInt ≤ 100) ∧ r = 0 ∧ u.1.2.1 1 = sc 1 + x ∨ ¬ (1 ≤ x.toInt ∧ x.toInt ≤ 100) ∧ r = 1 ∧ u.1.2.1 1 = sc 1))) 1 6 (va_A (oW ou kJ g ++ CW cd kI kQ L isA bk sc ia qa rf ba) sz) := by
  refine va_MetW (cc := c_LW_ticks) (maxL := 4) (ret := (some .int)) (hh := [(0, 9, 12, 13)]) (by decide) rfl ?_
  intro p e s m args below meth c s₁ B hml hv
  obtain ⟨rfl, ⟨hsz, hBs⟩, hP, hK, hD0, hV⟩ := hv
  have hx := B.exec
  have hb := B.bytes
  have hr := B.returns
  have ht : ∀ w ∈ tb_, w.before _ s = true := fun w h => atoms_spec (ws := w_LW_ticks) B.pre w (List.mem_cons_of_mem _ h)
  have hown : s.vm.findClass R_LW = some m.cls := findClass_of_methodNamed B.named
  have hlocks := B.notSynchronized
  subst hsz
  have hD := hD0.self (sz := s.heap.size)
  have hAB : ∀ q, va_A (oW ou kJ g ++ CW cd kI kQ L isA bk sc ia qa rf ba) s.heap.size q → Bd ≤ q := fr_AB hD0 hBs
  generalize hAe : va_A (oW ou kJ g ++ CW cd kI kQ L isA bk sc ia qa rf ba) s.heap.size = A at hD hAB ⊢
  have hA : ∀ q : Nat, s.heap.size ≤ q → A q := fun q h => by rw [← hAe]; exact Or.inr h
  have hS : va_S A s.heap s.heap [] := va_S.rf
  have hP : va_P (dC, dI) cls_ (oW ou kJ g ++ CW cd kI kQ L isA bk sc ia qa rf ba) s.heap := hP
  have hl := lv_entry ([.ref (cd 0), .int x, .ref ou]) (n := 4) (Nat.le_of_ble_eq_true rfl)
  rw [lg_entry_eq]
  generalize (lg_sl ([.ref (cd 0), .int x, .ref ou]) ++ List.replicate (4 - (lg_sl ([.ref (cd 0), .int x, .ref ou])).length) Slot.unset).toArray = ls at hl ⊢
  have hl : lv_has ls 4 [(0, .ref (cd 0)), (1, .int x), (2, .ref ou)] := hl
  have hN := hC.1.1
  refine lv_aload_n hx hb d_LW_ticks_0 rfl (lv_at hl 2 rfl) ?_
  refine lv_iconst (v := 0) hx hb d_LW_ticks_1 (by decide) ?_
  refine lv_aload_n hx hb d_LW_ticks_2 rfl (lv_at hl 0 rfl) ?_
  refine lv_iload_n hx hb d_LW_ticks_3 rfl (lv_at hl 1 rfl) ?_
  rcases Classical.em (1 ≤ x.toInt ∧ x.toInt ≤ 100) with h | h
  · obtain ⟨M, hM, rfl⟩ := of_n (n := 100) (x := x) (by omega) (by omega)
    have h8 := h
    rw [nI_toInt (by omega)] at h8
    have hK2 : va_K (dC, dI) cls_ (CT kI kQ) s := hK.sub (tys' := CT kI kQ) [0, 1] rfl
    refine t_callF (E := oW ou kJ g) (u0 := (sc, ia, qa, rf, ba)) (w0 := CW cd kI kQ L isA bk sc ia qa rf ba) rfl (va_runV (C := R_TT) (As := [.int (nI M)]) (rest := [.int 0, .ref ou]) ⟨hx, hb, hml, hown, ht⟩ (k_TT_ticks_ok l dC dI cd kI kQ L isA bk sc ia qa rf ba s.heap.size Bd N hC M (by omega)) (cwV 1 ht (gV tb_514 tb_515 tb_516 tb_1 tb_517) rfl rfl rfl (by decide +kernel) ⟨Nat.le_of_ble_eq_true rfl, Nat.le_of_ble_eq_true rfl⟩) ⟨frP_blind, va_recv (q := (R_TT, F_TT, 8)) hK hP rfl (show (oW ou kJ g ++ CW cd kI kQ L isA bk sc ia qa rf ba : va_W)[1]? = some _ from rfl), fr_pre (ap_P hP) hK2 (ap_D hD) hAB hBs hS hV⟩ rfl rfl hl.1 rfl (lv_room (Nat.le_of_ble_eq_true rfl)) d_LW_ticks_4 ⟨Nat.le_of_ble_eq_true rfl, Nat.le_of_ble_eq_true rfl⟩) hP hD hS hA (fun r1 u H locs hu hP hD hS => ?_)
    obtain ⟨sc2, ia3, qa4, rf5, ba6⟩ := u
    obtain ⟨hu1_0, hu1_1, hu1_2, hu1_3⟩ := hu
    have hu1_0 : same [1, 3, 4, 5] sc sc2 := hu1_0
    have hu1_1 : ba = ba6 := hu1_1
    have hu1_2 : CI N L isA bk sc2 qa4 rf5 := hu1_2
    have hu1_3 : sc2 1 = sc 1 + nI M := hu1_3
    subst hu1_1
    have hu1_2 : CI N L isA bk sc2 qa4 rf5 := hu1_2
    have hu1_3 : sc2 1 = sc 1 + nI M := hu1_3
    have hu1_0 : same [1, 3, 4, 5] sc sc2 := hu1_0
    have hP : va_P (dC, dI) cls_ (oW ou kJ g ++ CW cd kI kQ L isA bk sc2 ia3 qa4 rf5 ba) H := hP
    have hD : va_D A (oW ou kJ g ++ CW cd kI kQ L isA bk sc2 ia3 qa4 rf5 ba) := hD
    refine W.eq (g2 := F0 m 7 ls [.int r1, .int 0, .ref ou]) rfl ?_
    refine W.cs (cells' := 0) (slots' := 0) rfl rfl ?_
    refine lv_i2l hx hb d_LW_ticks_7 rfl ?_
    refine va_last hx hb hK hP hD hS 0 2 rfl rfl (show vp_in (nI 0) 1 from vp_in_nI (by decide) (by decide)) d_LW_ticks_8 (fun H locs hP hD hS => ?_)
    have hP : va_P (dC, dI) cls_ (oW ou kJ (vp_updL g (0 : Int32).toNatClampNeg r1.toInt64) ++ CW cd kI kQ L isA bk sc2 ia3 qa4 rf5 ba) H := hP
    have hD : va_D A (oW ou kJ (vp_updL g (0 : Int32).toNatClampNeg r1.toInt64) ++ CW cd kI kQ L isA bk sc2 ia3 qa4 rf5 ba) := hD
    obtain ⟨g7, eg7⟩ : ∃ q9_, q9_ = vp_updL g (0 : Int32).toNatClampNeg r1.toInt64 := ⟨_, rfl⟩
    rw [← eg7] at hP hD
    refine lv_goto (tgt := 15) hx hb d_LW_ticks_9 (by decide) ?_
    refine lv_iconst (v := 0) hx hb d_LW_ticks_15 (by decide) ?_
    have hz0 : ((1 ≤ (nI M).toInt ∧ (nI M).toInt ≤ 100) ∧ (0 : Int32) = 0 ∧ sc2 1 = sc 1 + (nI M) ∨ ¬ (1 ≤ (nI M).toInt ∧ (nI M).toInt ≤ 100) ∧ (0 : Int32) = 1 ∧ sc2 1 = sc 1) := Or.inl ⟨h, rfl, hu1_3⟩
    refine W.widen (k := 1) (n := 6) (Nat.le_of_ble_eq_true rfl) (Nat.le_of_ble_eq_true rfl) ?_
    exact W.iret (v := 0) hx hb hr (fun t ht9 hW => ⟨⟨0, (((L, isA, bk), (sc2, ia3, qa4, rf5, ba)), g7), rfl, ⟨hu1_0.wk (by decide), ⟨N, hu1_2⟩, hz0⟩, by rw [ht9]; exact hP, hD⟩, hS.F ht9⟩) hS.2.2 d_LW_ticks_16
  · have hK2 : va_K (dC, dI) cls_ (CT kI kQ) s := hK.sub (tys' := CT kI kQ) [0, 1] rfl
    refine tw_runV (C := R_TT) (As := [.int x]) (rest := [.int 0, .ref ou]) ⟨hx, hb, hml, hown, ht⟩ (k_TT_ticks_th l dC dI cd kI kQ L isA bk sc ia qa rf ba s.heap.size Bd hl9 N hC x h) (cwV 1 ht (gV tb_514 tb_515 tb_516 tb_1 tb_517) rfl rfl rfl (by decide +kernel) ⟨Nat.le_of_ble_eq_true rfl, Nat.le_of_ble_eq_true rfl⟩) ⟨frP_blind, va_recv (q := (R_TT, F_TT, 8)) hK hP rfl (show (oW ou kJ g ++ CW cd kI kQ L isA bk sc ia qa rf ba : va_W)[1]? = some _ from rfl), fr_pre (ap_P hP) hK2 (ap_D hD) hAB hBs hS hV⟩ rfl hl.1 rfl (Nat.le_of_ble_eq_true rfl) d_LW_ticks_4 ⟨Nat.le_of_ble_eq_true rfl, Nat.le_of_ble_eq_true rfl⟩ (fun xa cellx H1 hx1 hx2 hx3 hx4 hx5 hx6 => ?_)
    refine tw_catch hown ⟨0, 9, 12, 13⟩ [] (tw_table B (atoms_spec (ws := w_LW_ticks) B.pre _ List.mem_cons_self)) (by decide) (by decide) (ht _ tb_264)  (va_Nw.use rfl hV.2.1.1) hx2 hx3 hx4 ?_
    have hP : va_P (dC, dI) cls_ (oW ou kJ g ++ CW cd kI kQ L isA bk sc ia qa rf ba) H1 := hP.kept (fun k q hq => hx6 q.1 ((hP k q hq).lt))
    have hS : va_S A s.heap H1 _ := ⟨Nat.le_trans hS.1 hx5, fun q h1 h2 => (hx6 q (Nat.lt_of_lt_of_le h1 hS.1)).trans (hS.2.1 q h1 h2), hS.2.2⟩
    generalize H1 = H at hP hS ⊢
    refine W.cs (cells' := 1) (slots' := 6) rfl rfl ?_
    refine lv_astore_n hx hb d_LW_ticks_12 rfl hl (by decide) rfl (fun ls hl => ?_)
    have hl : lv_has ls 4 [(3, .ref xa), (0, .ref (cd 0)), (1, .int x), (2, .ref ou)] := hl
    refine lv_iconst (v := 1) hx hb d_LW_ticks_13 (by decide) ?_
    have hz0 : ((1 ≤ x.toInt ∧ x.toInt ≤ 100) ∧ (1 : Int32) = 0 ∧ sc 1 = sc 1 + x ∨ ¬ (1 ≤ x.toInt ∧ x.toInt ≤ 100) ∧ (1 : Int32) = 1 ∧ sc 1 = sc 1) := Or.inr ⟨h, rfl, rfl⟩
    exact W.iret (v := 1) hx hb hr (fun t ht9 hW => ⟨⟨1, (((L, isA, bk), (sc, ia, qa, rf, ba)), g), rfl, ⟨same.rf, ⟨N, hC⟩, hz0⟩, by rw [ht9]; exact hP, hD⟩, hS.F ht9⟩) hS.2.2 d_LW_ticks_14
set_option maxHeartbeats 8000000 in
set_option maxRecDepth 100000 in
theorem w_LW_cut_c (l : Launch) (dC : Nat → ClassId) (dI : Nat → Nat → Nat) (cd : Nat → Nat) (kI kQ : ClassId) (L : List Nat) (isA : Nat → Bool) (bk : Nat → Nat) (sc : Nat → Int32) (ia : Nat → Nat → Int32) (qa : Nat → Nat → Option Nat) (rf ba : Nat → Nat → Int32) (kJ : ClassId) (ou : Nat) (g : Nat → Int64) (sz Bd : Nat) (hl9 : l.stackTraces = false) (N : Nat) (hC : CI N L isA bk sc qa rf) (x : Int32) : Met l y_LW_cut w_LW_cut ({ frames := 7, cells := 1, slots := 6, locals := 114 }) (frP (dC, dI) (oW ou kJ g ++ CW cd kI kQ L isA bk sc ia qa rf ba) (CTJ kI kQ kJ) sz Bd [.ref (cd 0), .int x, .ref ou]) (tQ (dC, dI) (wW cd kI kQ kJ ou) (va_A (oW ou kJ g ++ CW cd kI kQ L isA bk sc ia qa rf ba) sz) vI (fun r u => same [1, 5] sc u.1.2.1 ∧ (∃ Nz, CI Nz u.1.1.1 u.1.1.2.1 u.1.1.2.2 u.1.2.1 u.1.2.2.2.1 u.1.2.2.2.2.1) ∧ (((sc 1).toInt ≤ x.toInt ∧ x.toInt ≤ (sc 1 + 1000).toInt) ∧ r = 0 ∧ u.1.2.1 1 = x ∨ ¬ ((sc 1).toInt ≤ x.toInt ∧ x.toInt ≤ (sc 1 + 1000).toInt) ∧ r = 1 ∧ u.1.2.1 1 = sc 1))) 1 6 (va_A (oW ou kJ g ++ CW cd kI kQ L isA bk sc ia qa rf ba) sz) := by
  refine va_MetW (cc := c_LW_cut) (maxL := 4) (ret := (some .int)) (hh := [(0, 9, 12, 13)]) (by decide) rfl ?_
  intro p e s m args below meth c s₁ B hml hv
  obtain ⟨rfl, ⟨hsz, hBs⟩, hP, hK, hD0, hV⟩ := hv
  have hx := B.exec
  have hb := B.bytes
  have hr := B.returns
  have ht : ∀ w ∈ tb_, w.before _ s = true := fun w h => atoms_spec (ws := w_LW_cut) B.pre w (List.mem_cons_of_mem _ h)
  have hown : s.vm.findClass R_LW = some m.cls := findClass_of_methodNamed B.named
  have hlocks := B.notSynchronized
  subst hsz
  have hD := hD0.self (sz := s.heap.size)
  have hAB : ∀ q, va_A (oW ou kJ g ++ CW cd kI kQ L isA bk sc ia qa rf ba) s.heap.size q → Bd ≤ q := fr_AB hD0 hBs
  generalize hAe : va_A (oW ou kJ g ++ CW cd kI kQ L isA bk sc ia qa rf ba) s.heap.size = A at hD hAB ⊢
  have hA : ∀ q : Nat, s.heap.size ≤ q → A q := fun q h => by rw [← hAe]; exact Or.inr h
  have hS : va_S A s.heap s.heap [] := va_S.rf
  have hP : va_P (dC, dI) cls_ (oW ou kJ g ++ CW cd kI kQ L isA bk sc ia qa rf ba) s.heap := hP
  have hl := lv_entry ([.ref (cd 0), .int x, .ref ou]) (n := 4) (Nat.le_of_ble_eq_true rfl)
  rw [lg_entry_eq]
  generalize (lg_sl ([.ref (cd 0), .int x, .ref ou]) ++ List.replicate (4 - (lg_sl ([.ref (cd 0), .int x, .ref ou])).length) Slot.unset).toArray = ls at hl ⊢
  have hl : lv_has ls 4 [(0, .ref (cd 0)), (1, .int x), (2, .ref ou)] := hl
  have hN := hC.1.1
  refine lv_aload_n hx hb d_LW_cut_0 rfl (lv_at hl 2 rfl) ?_
  refine lv_iconst (v := 0) hx hb d_LW_cut_1 (by decide) ?_
  refine lv_aload_n hx hb d_LW_cut_2 rfl (lv_at hl 0 rfl) ?_
  refine lv_iload_n hx hb d_LW_cut_3 rfl (lv_at hl 1 rfl) ?_
  rcases Classical.em ((sc 1).toInt ≤ x.toInt ∧ x.toInt ≤ (sc 1 + 1000).toInt) with h | h
  · have hK2 : va_K (dC, dI) cls_ (CT kI kQ) s := hK.sub (tys' := CT kI kQ) [0, 1] rfl
    refine t_callF (E := oW ou kJ g) (u0 := (sc, ia, qa, rf, ba)) (w0 := CW cd kI kQ L isA bk sc ia qa rf ba) rfl (va_runV (C := R_TT) (As := [.int x]) (rest := [.int 0, .ref ou]) ⟨hx, hb, hml, hown, ht⟩ (k_TT_cut_ok l dC dI cd kI kQ L isA bk sc ia qa rf ba s.heap.size Bd N hC x h) (cwV 1 ht (gV tb_613 tb_614 tb_615 tb_1 tb_616) rfl rfl rfl (by decide +kernel) ⟨Nat.le_of_ble_eq_true rfl, Nat.le_of_ble_eq_true rfl⟩) ⟨frP_blind, va_recv (q := (R_TT, F_TT, 8)) hK hP rfl (show (oW ou kJ g ++ CW cd kI kQ L isA bk sc ia qa rf ba : va_W)[1]? = some _ from rfl), fr_pre (ap_P hP) hK2 (ap_D hD) hAB hBs hS hV⟩ rfl rfl hl.1 rfl (lv_room (Nat.le_of_ble_eq_true rfl)) d_LW_cut_4 ⟨Nat.le_of_ble_eq_true rfl, Nat.le_of_ble_eq_true rfl⟩) hP hD hS hA (fun r1 u H locs hu hP hD hS => ?_)
    obtain ⟨sc2, ia3, qa4, rf5, ba6⟩ := u
    obtain ⟨hu1_0, hu1_1, hu1_2, hu1_3, hu1_4⟩ := hu
    have hu1_0 : same [1, 5] sc sc2 := hu1_0
    have hu1_1 : qa = qa4 := hu1_1
    have hu1_2 : ba = ba6 := hu1_2
    have hu1_3 : CI N L isA bk sc2 qa4 rf5 := hu1_3
    have hu1_4 : sc2 1 = x := hu1_4
    subst hu1_1
    subst hu1_2
    have hu1_3 : CI N L isA bk sc2 qa rf5 := hu1_3
    have hu1_4 : sc2 1 = x := hu1_4
    have hu1_0 : same [1, 5] sc sc2 := hu1_0
    have hP : va_P (dC, dI) cls_ (oW ou kJ g ++ CW cd kI kQ L isA bk sc2 ia3 qa rf5 ba) H := hP
    have hD : va_D A (oW ou kJ g ++ CW cd kI kQ L isA bk sc2 ia3 qa rf5 ba) := hD
    refine W.eq (g2 := F0 m 7 ls [.int r1, .int 0, .ref ou]) rfl ?_
    refine W.cs (cells' := 0) (slots' := 0) rfl rfl ?_
    refine lv_i2l hx hb d_LW_cut_7 rfl ?_
    refine va_last hx hb hK hP hD hS 0 2 rfl rfl (show vp_in (nI 0) 1 from vp_in_nI (by decide) (by decide)) d_LW_cut_8 (fun H locs hP hD hS => ?_)
    have hP : va_P (dC, dI) cls_ (oW ou kJ (vp_updL g (0 : Int32).toNatClampNeg r1.toInt64) ++ CW cd kI kQ L isA bk sc2 ia3 qa rf5 ba) H := hP
    have hD : va_D A (oW ou kJ (vp_updL g (0 : Int32).toNatClampNeg r1.toInt64) ++ CW cd kI kQ L isA bk sc2 ia3 qa rf5 ba) := hD
    obtain ⟨g7, eg7⟩ : ∃ q9_, q9_ = vp_updL g (0 : Int32).toNatClampNeg r1.toInt64 := ⟨_, rfl⟩
    rw [← eg7] at hP hD
    refine lv_goto (tgt := 15) hx hb d_LW_cut_9 (by decide) ?_
    refine lv_iconst (v := 0) hx hb d_LW_cut_15 (by decide) ?_
    have hz0 : (((sc 1).toInt ≤ x.toInt ∧ x.toInt ≤ (sc 1 + 1000).toInt) ∧ (0 : Int32) = 0 ∧ sc2 1 = x ∨ ¬ ((sc 1).toInt ≤ x.toInt ∧ x.toInt ≤ (sc 1 + 1000).toInt) ∧ (0 : Int32) = 1 ∧ sc2 1 = sc 1) := Or.inl ⟨h, rfl, hu1_4⟩
    refine W.widen (k := 1) (n := 6) (Nat.le_of_ble_eq_true rfl) (Nat.le_of_ble_eq_true rfl) ?_
    exact W.iret (v := 0) hx hb hr (fun t ht9 hW => ⟨⟨0, (((L, isA, bk), (sc2, ia3, qa, rf5, ba)), g7), rfl, ⟨hu1_0.wk (by decide), ⟨N, hu1_3⟩, hz0⟩, by rw [ht9]; exact hP, hD⟩, hS.F ht9⟩) hS.2.2 d_LW_cut_16
  · have hK2 : va_K (dC, dI) cls_ (CT kI kQ) s := hK.sub (tys' := CT kI kQ) [0, 1] rfl
    refine tw_runV (C := R_TT) (As := [.int x]) (rest := [.int 0, .ref ou]) ⟨hx, hb, hml, hown, ht⟩ (k_TT_cut_th l dC dI cd kI kQ L isA bk sc ia qa rf ba s.heap.size Bd hl9 N hC x h) (cwV 1 ht (gV tb_613 tb_614 tb_615 tb_1 tb_616) rfl rfl rfl (by decide +kernel) ⟨Nat.le_of_ble_eq_true rfl, Nat.le_of_ble_eq_true rfl⟩) ⟨frP_blind, va_recv (q := (R_TT, F_TT, 8)) hK hP rfl (show (oW ou kJ g ++ CW cd kI kQ L isA bk sc ia qa rf ba : va_W)[1]? = some _ from rfl), fr_pre (ap_P hP) hK2 (ap_D hD) hAB hBs hS hV⟩ rfl hl.1 rfl (Nat.le_of_ble_eq_true rfl) d_LW_cut_4 ⟨Nat.le_of_ble_eq_true rfl, Nat.le_of_ble_eq_true rfl⟩ (fun xa cellx H1 hx1 hx2 hx3 hx4 hx5 hx6 => ?_)
    refine tw_catch hown ⟨0, 9, 12, 13⟩ [] (tw_table B (atoms_spec (ws := w_LW_cut) B.pre _ List.mem_cons_self)) (by decide) (by decide) (ht _ tb_264)  (va_Nw.use rfl hV.2.1.1) hx2 hx3 hx4 ?_
    have hP : va_P (dC, dI) cls_ (oW ou kJ g ++ CW cd kI kQ L isA bk sc ia qa rf ba) H1 := hP.kept (fun k q hq => hx6 q.1 ((hP k q hq).lt))
    have hS : va_S A s.heap H1 _ := ⟨Nat.le_trans hS.1 hx5, fun q h1 h2 => (hx6 q (Nat.lt_of_lt_of_le h1 hS.1)).trans (hS.2.1 q h1 h2), hS.2.2⟩
    generalize H1 = H at hP hS ⊢
    refine W.cs (cells' := 1) (slots' := 6) rfl rfl ?_
    refine lv_astore_n hx hb d_LW_cut_12 rfl hl (by decide) rfl (fun ls hl => ?_)
    have hl : lv_has ls 4 [(3, .ref xa), (0, .ref (cd 0)), (1, .int x), (2, .ref ou)] := hl
    refine lv_iconst (v := 1) hx hb d_LW_cut_13 (by decide) ?_
    have hz0 : (((sc 1).toInt ≤ x.toInt ∧ x.toInt ≤ (sc 1 + 1000).toInt) ∧ (1 : Int32) = 0 ∧ sc 1 = x ∨ ¬ ((sc 1).toInt ≤ x.toInt ∧ x.toInt ≤ (sc 1 + 1000).toInt) ∧ (1 : Int32) = 1 ∧ sc 1 = sc 1) := Or.inr ⟨h, rfl, rfl⟩
    exact W.iret (v := 1) hx hb hr (fun t ht9 hW => ⟨⟨1, (((L, isA, bk), (sc, ia, qa, rf, ba)), g), rfl, ⟨same.rf, ⟨N, hC⟩, hz0⟩, by rw [ht9]; exact hP, hD⟩, hS.F ht9⟩) hS.2.2 d_LW_cut_14
set_option maxHeartbeats 8000000 in
set_option maxRecDepth 100000 in
theorem w_LW_cancel_c (l : Launch) (dC : Nat → ClassId) (dI : Nat → Nat → Nat) (cd : Nat → Nat) (kI kQ : ClassId) (L : List Nat) (isA : Nat → Bool) (bk : Nat → Nat) (sc : Nat → Int32) (ia : Nat → Nat → Int32) (qa : Nat → Nat → Option Nat) (rf ba : Nat → Nat → Int32) (kJ : ClassId) (ou : Nat) (g : Nat → Int64) (sz Bd : Nat) (hl9 : l.stackTraces = false) (N : Nat) (hC : CI N L isA bk sc qa rf) (x : Int32) : Met l y_LW_cancel w_LW_cancel ({ frames := 8, cells := 1, slots := 6, locals := 133 }) (frP (dC, dI) (oW ou kJ g ++ CW cd kI kQ L isA bk sc ia qa rf ba) (CTJ kI kQ kJ) sz Bd [.ref (cd 0), .int x]) (tQ (dC, dI) (wW cd kI kQ kJ ou) (va_A (oW ou kJ g ++ CW cd kI kQ L isA bk sc ia qa rf ba) sz) vI (fun r u => same [] sc u.1.2.1 ∧ (∃ Nz, CI Nz u.1.1.1 u.1.1.2.1 u.1.1.2.2 u.1.2.1 u.1.2.2.2.1 u.1.2.2.2.2.1))) 1 6 (va_A (oW ou kJ g ++ CW cd kI kQ L isA bk sc ia qa rf ba) sz) := by
  refine va_MetW (cc := c_LW_cancel) (maxL := 3) (ret := (some .int)) (hh := [(0, 5, 8, 21), (0, 5, 11, 15)]) (by decide) rfl ?_
  intro p e s m args below meth c s₁ B hml hv
  obtain ⟨rfl, ⟨hsz, hBs⟩, hP, hK, hD0, hV⟩ := hv
  have hx := B.exec
  have hb := B.bytes
  have hr := B.returns
  have ht : ∀ w ∈ tb_, w.before _ s = true := fun w h => atoms_spec (ws := w_LW_cancel) B.pre w (List.mem_cons_of_mem _ h)
  have hown : s.vm.findClass R_LW = some m.cls := findClass_of_methodNamed B.named
  have hlocks := B.notSynchronized
  subst hsz
  have hD := hD0.self (sz := s.heap.size)
  have hAB : ∀ q, va_A (oW ou kJ g ++ CW cd kI kQ L isA bk sc ia qa rf ba) s.heap.size q → Bd ≤ q := fr_AB hD0 hBs
  generalize hAe : va_A (oW ou kJ g ++ CW cd kI kQ L isA bk sc ia qa rf ba) s.heap.size = A at hD hAB ⊢
  have hA : ∀ q : Nat, s.heap.size ≤ q → A q := fun q h => by rw [← hAe]; exact Or.inr h
  have hS : va_S A s.heap s.heap [] := va_S.rf
  have hP : va_P (dC, dI) cls_ (oW ou kJ g ++ CW cd kI kQ L isA bk sc ia qa rf ba) s.heap := hP
  have hl := lv_entry ([.ref (cd 0), .int x]) (n := 3) (Nat.le_of_ble_eq_true rfl)
  rw [lg_entry_eq]
  generalize (lg_sl ([.ref (cd 0), .int x]) ++ List.replicate (3 - (lg_sl ([.ref (cd 0), .int x])).length) Slot.unset).toArray = ls at hl ⊢
  have hl : lv_has ls 3 [(0, .ref (cd 0)), (1, .int x)] := hl
  have hN := hC.1.1
  refine lv_aload_n hx hb d_LW_cancel_0 rfl (lv_at hl 0 rfl) ?_
  refine lv_iload_n hx hb d_LW_cancel_1 rfl (lv_at hl 1 rfl) ?_
  rcases Classical.em (∃ j, j < N ∧ x = nI j) with ⟨j, hj, rfl⟩ | hno
  · obtain ⟨a, ea, ha, hn⟩ := hC.2.2.2.2.2.1 j hj
    rcases Classical.em (rf a 8 = 0 ∨ rf a 8 = 1) with hp | hp
    · have hK2 : va_K (dC, dI) cls_ (CT kI kQ) s := hK.sub (tys' := CT kI kQ) [0, 1] rfl
      refine t_callF (E := oW ou kJ g) (u0 := (sc, ia, qa, rf, ba)) (w0 := CW cd kI kQ L isA bk sc ia qa rf ba) rfl (va_runV (C := R_TT) (As := [.int (nI j)]) (rest := []) ⟨hx, hb, hml, hown, ht⟩ (k_TT_cancel_ok l dC dI cd kI kQ L isA bk sc ia qa rf ba s.heap.size Bd N hC j hj a ea ha hn hp) (cwV 1 ht (gV tb_452 tb_453 tb_454 tb_1 tb_455) rfl rfl rfl (by decide +kernel) ⟨Nat.le_of_ble_eq_true rfl, Nat.le_of_ble_eq_true rfl⟩) ⟨frP_blind, va_recv (q := (R_TT, F_TT, 8)) hK hP rfl (show (oW ou kJ g ++ CW cd kI kQ L isA bk sc ia qa rf ba : va_W)[1]? = some _ from rfl), fr_pre (ap_P hP) hK2 (ap_D hD) hAB hBs hS hV⟩ rfl rfl hl.1 rfl (lv_room (Nat.le_of_ble_eq_true rfl)) d_LW_cancel_2 ⟨Nat.le_of_ble_eq_true rfl, Nat.le_of_ble_eq_true rfl⟩) hP hD hS hA (fun r1 u H locs hu hP hD hS => ?_)
      obtain ⟨sc2, ia3, qa4, rf5, ba6⟩ := u
      obtain ⟨hu1_0, hu1_1, hu1_2, hu1_3, hu1_4⟩ := hu
      have hu1_0 : sc = sc2 := hu1_0
      have hu1_1 : ia = ia3 := hu1_1
      have hu1_2 : qa = qa4 := hu1_2
      have hu1_3 : ba = ba6 := hu1_3
      have hu1_4 : CI N L isA bk sc2 qa4 rf5 := hu1_4
      subst hu1_0
      subst hu1_1
      subst hu1_2
      subst hu1_3
      have hu1_4 : CI N L isA bk sc qa rf5 := hu1_4
      have hP : va_P (dC, dI) cls_ (oW ou kJ g ++ CW cd kI kQ L isA bk sc ia qa rf5 ba) H := hP
      have hD : va_D A (oW ou kJ g ++ CW cd kI kQ L isA bk sc ia qa rf5 ba) := hD
      refine W.eq (g2 := F0 m 5 ls []) rfl ?_
      refine W.cs (cells' := 0) (slots' := 0) rfl rfl ?_
      refine lv_goto (tgt := 14) hx hb d_LW_cancel_5 (by decide) ?_
      refine lv_iconst (v := 0) hx hb d_LW_cancel_14 (by decide) ?_
      refine W.widen (k := 1) (n := 6) (Nat.le_of_ble_eq_true rfl) (Nat.le_of_ble_eq_true rfl) ?_
      exact W.iret (v := 0) hx hb hr (fun t ht9 hW => ⟨⟨0, (((L, isA, bk), (sc, ia, qa, rf5, ba)), g), rfl, ⟨same.rf, ⟨N, hu1_4⟩⟩, by rw [ht9]; exact hP, hD⟩, hS.F ht9⟩) hS.2.2 d_LW_cancel_15
    · have hK2 : va_K (dC, dI) cls_ (CT kI kQ) s := hK.sub (tys' := CT kI kQ) [0, 1] rfl
      refine tw_runV (C := R_TT) (As := [.int (nI j)]) (rest := []) ⟨hx, hb, hml, hown, ht⟩ (k_TT_cancel_ts l dC dI cd kI kQ L isA bk sc ia qa rf ba s.heap.size Bd hl9 N hC j hj a ea ha hn hp) (cwV 1 ht (gV tb_452 tb_453 tb_454 tb_1 tb_455) rfl rfl rfl (by decide +kernel) ⟨Nat.le_of_ble_eq_true rfl, Nat.le_of_ble_eq_true rfl⟩) ⟨frP_blind, va_recv (q := (R_TT, F_TT, 8)) hK hP rfl (show (oW ou kJ g ++ CW cd kI kQ L isA bk sc ia qa rf ba : va_W)[1]? = some _ from rfl), fr_pre (ap_P hP) hK2 (ap_D hD) hAB hBs hS hV⟩ rfl hl.1 rfl (Nat.le_of_ble_eq_true rfl) d_LW_cancel_2 ⟨Nat.le_of_ble_eq_true rfl, Nat.le_of_ble_eq_true rfl⟩ (fun xa cellx H1 hx1 hx2 hx3 hx4 hx5 hx6 => ?_)
      refine tw_catch2 hown ⟨0, 5, 8, 21⟩ ⟨0, 5, 11, 15⟩ [] (tw_table B (atoms_spec (ws := w_LW_cancel) B.pre _ List.mem_cons_self)) (by decide) (by decide) (by decide) (by decide) (ht _ tb_451) (ht _ tb_265) hV.2.1.2.2.2.2.1 (va_Nw.use rfl hV.2.1.2.2.1) hx2 hx3 hx4 ?_
      have hP : va_P (dC, dI) cls_ (oW ou kJ g ++ CW cd kI kQ L isA bk sc ia qa rf ba) H1 := hP.kept (fun k q hq => hx6 q.1 ((hP k q hq).lt))
      have hS : va_S A s.heap H1 _ := ⟨Nat.le_trans hS.1 hx5, fun q h1 h2 => (hx6 q (Nat.lt_of_lt_of_le h1 hS.1)).trans (hS.2.1 q h1 h2), hS.2.2⟩
      generalize H1 = H at hP hS ⊢
      refine W.cs (cells' := 1) (slots' := 6) rfl rfl ?_
      refine lv_astore_n hx hb d_LW_cancel_11 rfl hl (by decide) rfl (fun ls hl => ?_)
      have hl : lv_has ls 3 [(2, .ref xa), (0, .ref (cd 0)), (1, .int (nI j))] := hl
      refine lv_iconst (v := 2) hx hb d_LW_cancel_12 (by decide) ?_
      exact W.iret (v := 2) hx hb hr (fun t ht9 hW => ⟨⟨2, (((L, isA, bk), (sc, ia, qa, rf, ba)), g), rfl, ⟨same.rf, ⟨N, hC⟩⟩, by rw [ht9]; exact hP, hD⟩, hS.F ht9⟩) hS.2.2 d_LW_cancel_13
  · have hK2 : va_K (dC, dI) cls_ (CT kI kQ) s := hK.sub (tys' := CT kI kQ) [0, 1] rfl
    refine tw_runV (C := R_TT) (As := [.int x]) (rest := []) ⟨hx, hb, hml, hown, ht⟩ (k_TT_cancel_th l dC dI cd kI kQ L isA bk sc ia qa rf ba s.heap.size Bd hl9 N hC x (fun j h9 e9 => hno ⟨j, h9, e9⟩)) (cwV 1 ht (gV tb_452 tb_453 tb_454 tb_1 tb_455) rfl rfl rfl (by decide +kernel) ⟨Nat.le_of_ble_eq_true rfl, Nat.le_of_ble_eq_true rfl⟩) ⟨frP_blind, va_recv (q := (R_TT, F_TT, 8)) hK hP rfl (show (oW ou kJ g ++ CW cd kI kQ L isA bk sc ia qa rf ba : va_W)[1]? = some _ from rfl), fr_pre (ap_P hP) hK2 (ap_D hD) hAB hBs hS hV⟩ rfl hl.1 rfl (Nat.le_of_ble_eq_true rfl) d_LW_cancel_2 ⟨Nat.le_of_ble_eq_true rfl, Nat.le_of_ble_eq_true rfl⟩ (fun xa cellx H1 hx1 hx2 hx3 hx4 hx5 hx6 => ?_)
    refine tw_catch hown ⟨0, 5, 8, 21⟩ [⟨0, 5, 11, 15⟩] (tw_table B (atoms_spec (ws := w_LW_cancel) B.pre _ List.mem_cons_self)) (by decide) (by decide) (ht _ tb_451)  (va_Nw.use rfl hV.2.1.2.1) hx2 hx3 hx4 ?_
    have hP : va_P (dC, dI) cls_ (oW ou kJ g ++ CW cd kI kQ L isA bk sc ia qa rf ba) H1 := hP.kept (fun k q hq => hx6 q.1 ((hP k q hq).lt))
    have hS : va_S A s.heap H1 _ := ⟨Nat.le_trans hS.1 hx5, fun q h1 h2 => (hx6 q (Nat.lt_of_lt_of_le h1 hS.1)).trans (hS.2.1 q h1 h2), hS.2.2⟩
    generalize H1 = H at hP hS ⊢
    refine W.cs (cells' := 1) (slots' := 6) rfl rfl ?_
    refine lv_astore_n hx hb d_LW_cancel_8 rfl hl (by decide) rfl (fun ls hl => ?_)
    have hl : lv_has ls 3 [(2, .ref xa), (0, .ref (cd 0)), (1, .int x)] := hl
    refine lv_iconst (v := 1) hx hb d_LW_cancel_9 (by decide) ?_
    exact W.iret (v := 1) hx hb hr (fun t ht9 hW => ⟨⟨1, (((L, isA, bk), (sc, ia, qa, rf, ba)), g), rfl, ⟨same.rf, ⟨N, hC⟩⟩, by rw [ht9]; exact hP, hD⟩, hS.F ht9⟩) hS.2.2 d_LW_cancel_10
set_option maxHeartbeats 8000000 in
set_option maxRecDepth 100000 in
theorem w_LW_protect_c (l : Launch) (dC : Nat → ClassId) (dI : Nat → Nat → Nat) (cd : Nat → Nat) (kI kQ : ClassId) (L : List Nat) (isA : Nat → Bool) (bk : Nat → Nat) (sc : Nat → Int32) (ia : Nat → Nat → Int32) (qa : Nat → Nat → Option Nat) (rf ba : Nat → Nat → Int32) (kJ : ClassId) (ou : Nat) (g : Nat → Int64) (sz Bd : Nat) (hl9 : l.stackTraces = false) (N : Nat) (hC : CI N L isA bk sc qa rf) (x y : Int32) (hy : y = 0 ∨ y = 1) : Met l y_LW_protect w_LW_protect ({ frames := 9, cells := 1, slots := 6, locals := 155 }) (frP (dC, dI) (oW ou kJ g ++ CW cd kI kQ L isA bk sc ia qa rf ba) (CTJ kI kQ kJ) sz Bd [.ref (cd 0), .int x, .int y]) (tQ (dC, dI) (wW cd kI kQ kJ ou) (va_A (oW ou kJ g ++ CW cd kI kQ L isA bk sc ia qa rf ba) sz) vI (fun r u => same [] sc u.1.2.1 ∧ (∃ Nz, CI Nz u.1.1.1 u.1.1.2.1 u.1.1.2.2 u.1.2.1 u.1.2.2.2.1 u.1.2.2.2.2.1))) 1 6 (va_A (oW ou kJ g ++ CW cd kI kQ L isA bk sc ia qa rf ba) sz) := by
  refine va_MetW (cc := c_LW_protect) (maxL := 4) (ret := (some .int)) (hh := [(0, 6, 9, 21), (0, 6, 12, 15)]) (by decide) rfl ?_
  intro p e s m args below meth c s₁ B hml hv
  obtain ⟨rfl, ⟨hsz, hBs⟩, hP, hK, hD0, hV⟩ := hv
  have hx := B.exec
  have hb := B.bytes
  have hr := B.returns
  have ht : ∀ w ∈ tb_, w.before _ s = true := fun w h => atoms_spec (ws := w_LW_protect) B.pre w (List.mem_cons_of_mem _ h)
  have hown : s.vm.findClass R_LW = some m.cls := findClass_of_methodNamed B.named
  have hlocks := B.notSynchronized
  subst hsz
  have hD := hD0.self (sz := s.heap.size)
  have hAB : ∀ q, va_A (oW ou kJ g ++ CW cd kI kQ L isA bk sc ia qa rf ba) s.heap.size q → Bd ≤ q := fr_AB hD0 hBs
  generalize hAe : va_A (oW ou kJ g ++ CW cd kI kQ L isA bk sc ia qa rf ba) s.heap.size = A at hD hAB ⊢
  have hA : ∀ q : Nat, s.heap.size ≤ q → A q := fun q h => by rw [← hAe]; exact Or.inr h
  have hS : va_S A s.heap s.heap [] := va_S.rf
  have hP : va_P (dC, dI) cls_ (oW ou kJ g ++ CW cd kI kQ L isA bk sc ia qa rf ba) s.heap := hP
  have hl := lv_entry ([.ref (cd 0), .int x, .int y]) (n := 4) (Nat.le_of_ble_eq_true rfl)
  rw [lg_entry_eq]
  generalize (lg_sl ([.ref (cd 0), .int x, .int y]) ++ List.replicate (4 - (lg_sl ([.ref (cd 0), .int x, .int y])).length) Slot.unset).toArray = ls at hl ⊢
  have hl : lv_has ls 4 [(0, .ref (cd 0)), (1, .int x), (2, .int y)] := hl
  have hN := hC.1.1
  refine lv_aload_n hx hb d_LW_protect_0 rfl (lv_at hl 0 rfl) ?_
  refine lv_iload_n hx hb d_LW_protect_1 rfl (lv_at hl 1 rfl) ?_
  refine lv_iload_n hx hb d_LW_protect_2 rfl (lv_at hl 2 rfl) ?_
  rcases Classical.em (∃ j, j < N ∧ x = nI j) with ⟨j, hj, rfl⟩ | hno
  · obtain ⟨a, ea, ha, hn⟩ := hC.2.2.2.2.2.1 j hj
    rcases Classical.em (rf a 8 = 1 ∨ rf a 8 = 2) with hp | hp
    · have hK2 : va_K (dC, dI) cls_ (CT kI kQ) s := hK.sub (tys' := CT kI kQ) [0, 1] rfl
      refine t_callF (E := oW ou kJ g) (u0 := (sc, ia, qa, rf, ba)) (w0 := CW cd kI kQ L isA bk sc ia qa rf ba) rfl (va_runV (C := R_TT) (As := [.int (nI j), .int y]) (rest := []) ⟨hx, hb, hml, hown, ht⟩ (k_TT_protect_ok l dC dI cd kI kQ L isA bk sc ia qa rf ba s.heap.size Bd N hC j hj a ea ha hn y hp hy) (cwV 2 ht (gV tb_562 tb_563 tb_564 tb_1 tb_565) rfl rfl rfl (by decide +kernel) ⟨Nat.le_of_ble_eq_true rfl, Nat.le_of_ble_eq_true rfl⟩) ⟨frP_blind, va_recv (q := (R_TT, F_TT, 8)) hK hP rfl (show (oW ou kJ g ++ CW cd kI kQ L isA bk sc ia qa rf ba : va_W)[1]? = some _ from rfl), fr_pre (ap_P hP) hK2 (ap_D hD) hAB hBs hS hV⟩ rfl rfl hl.1 rfl (lv_room (Nat.le_of_ble_eq_true rfl)) d_LW_protect_3 ⟨Nat.le_of_ble_eq_true rfl, Nat.le_of_ble_eq_true rfl⟩) hP hD hS hA (fun r1 u H locs hu hP hD hS => ?_)
      obtain ⟨sc2, ia3, qa4, rf5, ba6⟩ := u
      obtain ⟨hu1_0, hu1_1, hu1_2, hu1_3, hu1_4⟩ := hu
      have hu1_0 : sc = sc2 := hu1_0
      have hu1_1 : ia = ia3 := hu1_1
      have hu1_2 : qa = qa4 := hu1_2
      have hu1_3 : ba = ba6 := hu1_3
      have hu1_4 : CI N L isA bk sc2 qa4 rf5 := hu1_4
      subst hu1_0
      subst hu1_1
      subst hu1_2
      subst hu1_3
      have hu1_4 : CI N L isA bk sc qa rf5 := hu1_4
      have hP : va_P (dC, dI) cls_ (oW ou kJ g ++ CW cd kI kQ L isA bk sc ia qa rf5 ba) H := hP
      have hD : va_D A (oW ou kJ g ++ CW cd kI kQ L isA bk sc ia qa rf5 ba) := hD
      refine W.eq (g2 := F0 m 6 ls []) rfl ?_
      refine W.cs (cells' := 0) (slots' := 0) rfl rfl ?_
      refine lv_goto (tgt := 15) hx hb d_LW_protect_6 (by decide) ?_
      refine lv_iconst (v := 0) hx hb d_LW_protect_15 (by decide) ?_
      refine W.widen (k := 1) (n := 6) (Nat.le_of_ble_eq_true rfl) (Nat.le_of_ble_eq_true rfl) ?_
      exact W.iret (v := 0) hx hb hr (fun t ht9 hW => ⟨⟨0, (((L, isA, bk), (sc, ia, qa, rf5, ba)), g), rfl, ⟨same.rf, ⟨N, hu1_4⟩⟩, by rw [ht9]; exact hP, hD⟩, hS.F ht9⟩) hS.2.2 d_LW_protect_16
    · have hK2 : va_K (dC, dI) cls_ (CT kI kQ) s := hK.sub (tys' := CT kI kQ) [0, 1] rfl
      refine tw_runV (C := R_TT) (As := [.int (nI j), .int y]) (rest := []) ⟨hx, hb, hml, hown, ht⟩ (k_TT_protect_ts l dC dI cd kI kQ L isA bk sc ia qa rf ba s.heap.size Bd hl9 N hC j hj a ea ha hn y hp) (cwV 2 ht (gV tb_562 tb_563 tb_564 tb_1 tb_565) rfl rfl rfl (by decide +kernel) ⟨Nat.le_of_ble_eq_true rfl, Nat.le_of_ble_eq_true rfl⟩) ⟨frP_blind, va_recv (q := (R_TT, F_TT, 8)) hK hP rfl (show (oW ou kJ g ++ CW cd kI kQ L isA bk sc ia qa rf ba : va_W)[1]? = some _ from rfl), fr_pre (ap_P hP) hK2 (ap_D hD) hAB hBs hS hV⟩ rfl hl.1 rfl (Nat.le_of_ble_eq_true rfl) d_LW_protect_3 ⟨Nat.le_of_ble_eq_true rfl, Nat.le_of_ble_eq_true rfl⟩ (fun xa cellx H1 hx1 hx2 hx3 hx4 hx5 hx6 => ?_)
      refine tw_catch2 hown ⟨0, 6, 9, 21⟩ ⟨0, 6, 12, 15⟩ [] (tw_table B (atoms_spec (ws := w_LW_protect) B.pre _ List.mem_cons_self)) (by decide) (by decide) (by decide) (by decide) (ht _ tb_451) (ht _ tb_265) hV.2.1.2.2.2.2.1 (va_Nw.use rfl hV.2.1.2.2.1) hx2 hx3 hx4 ?_
      have hP : va_P (dC, dI) cls_ (oW ou kJ g ++ CW cd kI kQ L isA bk sc ia qa rf ba) H1 := hP.kept (fun k q hq => hx6 q.1 ((hP k q hq).lt))
      have hS : va_S A s.heap H1 _ := ⟨Nat.le_trans hS.1 hx5, fun q h1 h2 => (hx6 q (Nat.lt_of_lt_of_le h1 hS.1)).trans (hS.2.1 q h1 h2), hS.2.2⟩
      generalize H1 = H at hP hS ⊢
      refine W.cs (cells' := 1) (slots' := 6) rfl rfl ?_
      refine lv_astore_n hx hb d_LW_protect_12 rfl hl (by decide) rfl (fun ls hl => ?_)
      have hl : lv_has ls 4 [(3, .ref xa), (0, .ref (cd 0)), (1, .int (nI j)), (2, .int y)] := hl
      refine lv_iconst (v := 2) hx hb d_LW_protect_13 (by decide) ?_
      exact W.iret (v := 2) hx hb hr (fun t ht9 hW => ⟨⟨2, (((L, isA, bk), (sc, ia, qa, rf, ba)), g), rfl, ⟨same.rf, ⟨N, hC⟩⟩, by rw [ht9]; exact hP, hD⟩, hS.F ht9⟩) hS.2.2 d_LW_protect_14
  · have hK2 : va_K (dC, dI) cls_ (CT kI kQ) s := hK.sub (tys' := CT kI kQ) [0, 1] rfl
    refine tw_runV (C := R_TT) (As := [.int x, .int y]) (rest := []) ⟨hx, hb, hml, hown, ht⟩ (k_TT_protect_th l dC dI cd kI kQ L isA bk sc ia qa rf ba s.heap.size Bd hl9 N hC x y (fun j h9 e9 => hno ⟨j, h9, e9⟩)) (cwV 2 ht (gV tb_562 tb_563 tb_564 tb_1 tb_565) rfl rfl rfl (by decide +kernel) ⟨Nat.le_of_ble_eq_true rfl, Nat.le_of_ble_eq_true rfl⟩) ⟨frP_blind, va_recv (q := (R_TT, F_TT, 8)) hK hP rfl (show (oW ou kJ g ++ CW cd kI kQ L isA bk sc ia qa rf ba : va_W)[1]? = some _ from rfl), fr_pre (ap_P hP) hK2 (ap_D hD) hAB hBs hS hV⟩ rfl hl.1 rfl (Nat.le_of_ble_eq_true rfl) d_LW_protect_3 ⟨Nat.le_of_ble_eq_true rfl, Nat.le_of_ble_eq_true rfl⟩ (fun xa cellx H1 hx1 hx2 hx3 hx4 hx5 hx6 => ?_)
    refine tw_catch hown ⟨0, 6, 9, 21⟩ [⟨0, 6, 12, 15⟩] (tw_table B (atoms_spec (ws := w_LW_protect) B.pre _ List.mem_cons_self)) (by decide) (by decide) (ht _ tb_451)  (va_Nw.use rfl hV.2.1.2.1) hx2 hx3 hx4 ?_
    have hP : va_P (dC, dI) cls_ (oW ou kJ g ++ CW cd kI kQ L isA bk sc ia qa rf ba) H1 := hP.kept (fun k q hq => hx6 q.1 ((hP k q hq).lt))
    have hS : va_S A s.heap H1 _ := ⟨Nat.le_trans hS.1 hx5, fun q h1 h2 => (hx6 q (Nat.lt_of_lt_of_le h1 hS.1)).trans (hS.2.1 q h1 h2), hS.2.2⟩
    generalize H1 = H at hP hS ⊢
    refine W.cs (cells' := 1) (slots' := 6) rfl rfl ?_
    refine lv_astore_n hx hb d_LW_protect_9 rfl hl (by decide) rfl (fun ls hl => ?_)
    have hl : lv_has ls 4 [(3, .ref xa), (0, .ref (cd 0)), (1, .int x), (2, .int y)] := hl
    refine lv_iconst (v := 1) hx hb d_LW_protect_10 (by decide) ?_
    exact W.iret (v := 1) hx hb hr (fun t ht9 hW => ⟨⟨1, (((L, isA, bk), (sc, ia, qa, rf, ba)), g), rfl, ⟨same.rf, ⟨N, hC⟩⟩, by rw [ht9]; exact hP, hD⟩, hS.F ht9⟩) hS.2.2 d_LW_protect_11
set_option maxHeartbeats 8000000 in
set_option maxRecDepth 100000 in
theorem w_LW_seen_c (l : Launch) (dC : Nat → ClassId) (dI : Nat → Nat → Nat) (cd : Nat → Nat) (kI kQ : ClassId) (L : List Nat) (isA : Nat → Bool) (bk : Nat → Nat) (sc : Nat → Int32) (ia : Nat → Nat → Int32) (qa : Nat → Nat → Option Nat) (rf ba : Nat → Nat → Int32) (kJ : ClassId) (ou : Nat) (g : Nat → Int64) (sz Bd : Nat) (hl9 : l.stackTraces = false) (N : Nat) (hC : CI N L isA bk sc qa rf) (x y : Int32) (hy : y = 0 ∨ y = 1) : Met l y_LW_seen w_LW_seen ({ frames := 9, cells := 1, slots := 6, locals := 155 }) (frP (dC, dI) (oW ou kJ g ++ CW cd kI kQ L isA bk sc ia qa rf ba) (CTJ kI kQ kJ) sz Bd [.ref (cd 0), .int x, .int y]) (tQ (dC, dI) (wW cd kI kQ kJ ou) (va_A (oW ou kJ g ++ CW cd kI kQ L isA bk sc ia qa rf ba) sz) vI (fun r u => same [] sc u.1.2.1 ∧ (∃ Nz, CI Nz u.1.1.1 u.1.1.2.1 u.1.1.2.2 u.1.2.1 u.1.2.2.2.1 u.1.2.2.2.2.1))) 1 6 (va_A (oW ou kJ g ++ CW cd kI kQ L isA bk sc ia qa rf ba) sz) := by
  refine va_MetW (cc := c_LW_seen) (maxL := 4) (ret := (some .int)) (hh := [(0, 6, 9, 21), (0, 6, 12, 15)]) (by decide) rfl ?_
  intro p e s m args below meth c s₁ B hml hv
  obtain ⟨rfl, ⟨hsz, hBs⟩, hP, hK, hD0, hV⟩ := hv
  have hx := B.exec
  have hb := B.bytes
  have hr := B.returns
  have ht : ∀ w ∈ tb_, w.before _ s = true := fun w h => atoms_spec (ws := w_LW_seen) B.pre w (List.mem_cons_of_mem _ h)
  have hown : s.vm.findClass R_LW = some m.cls := findClass_of_methodNamed B.named
  have hlocks := B.notSynchronized
  subst hsz
  have hD := hD0.self (sz := s.heap.size)
  have hAB : ∀ q, va_A (oW ou kJ g ++ CW cd kI kQ L isA bk sc ia qa rf ba) s.heap.size q → Bd ≤ q := fr_AB hD0 hBs
  generalize hAe : va_A (oW ou kJ g ++ CW cd kI kQ L isA bk sc ia qa rf ba) s.heap.size = A at hD hAB ⊢
  have hA : ∀ q : Nat, s.heap.size ≤ q → A q := fun q h => by rw [← hAe]; exact Or.inr h
  have hS : va_S A s.heap s.heap [] := va_S.rf
  have hP : va_P (dC, dI) cls_ (oW ou kJ g ++ CW cd kI kQ L isA bk sc ia qa rf ba) s.heap := hP
  have hl := lv_entry ([.ref (cd 0), .int x, .int y]) (n := 4) (Nat.le_of_ble_eq_true rfl)
  rw [lg_entry_eq]
  generalize (lg_sl ([.ref (cd 0), .int x, .int y]) ++ List.replicate (4 - (lg_sl ([.ref (cd 0), .int x, .int y])).length) Slot.unset).toArray = ls at hl ⊢
  have hl : lv_has ls 4 [(0, .ref (cd 0)), (1, .int x), (2, .int y)] := hl
  have hN := hC.1.1
  refine lv_aload_n hx hb d_LW_seen_0 rfl (lv_at hl 0 rfl) ?_
  refine lv_iload_n hx hb d_LW_seen_1 rfl (lv_at hl 1 rfl) ?_
  refine lv_iload_n hx hb d_LW_seen_2 rfl (lv_at hl 2 rfl) ?_
  rcases Classical.em (∃ j, j < N ∧ x = nI j) with ⟨j, hj, rfl⟩ | hno
  · obtain ⟨a, ea, ha, hn⟩ := hC.2.2.2.2.2.1 j hj
    rcases Classical.em (rf a 8 = 1 ∨ rf a 8 = 2) with hp | hp
    · have hK2 : va_K (dC, dI) cls_ (CT kI kQ) s := hK.sub (tys' := CT kI kQ) [0, 1] rfl
      refine t_callF (E := oW ou kJ g) (u0 := (sc, ia, qa, rf, ba)) (w0 := CW cd kI kQ L isA bk sc ia qa rf ba) rfl (va_runV (C := R_TT) (As := [.int (nI j), .int y]) (rest := []) ⟨hx, hb, hml, hown, ht⟩ (k_TT_seen_ok l dC dI cd kI kQ L isA bk sc ia qa rf ba s.heap.size Bd N hC j hj a ea ha hn y hp hy) (cwV 2 ht (gV tb_578 tb_579 tb_580 tb_1 tb_581) rfl rfl rfl (by decide +kernel) ⟨Nat.le_of_ble_eq_true rfl, Nat.le_of_ble_eq_true rfl⟩) ⟨frP_blind, va_recv (q := (R_TT, F_TT, 8)) hK hP rfl (show (oW ou kJ g ++ CW cd kI kQ L isA bk sc ia qa rf ba : va_W)[1]? = some _ from rfl), fr_pre (ap_P hP) hK2 (ap_D hD) hAB hBs hS hV⟩ rfl rfl hl.1 rfl (lv_room (Nat.le_of_ble_eq_true rfl)) d_LW_seen_3 ⟨Nat.le_of_ble_eq_true rfl, Nat.le_of_ble_eq_true rfl⟩) hP hD hS hA (fun r1 u H locs hu hP hD hS => ?_)
      obtain ⟨sc2, ia3, qa4, rf5, ba6⟩ := u
      obtain ⟨hu1_0, hu1_1, hu1_2, hu1_3, hu1_4⟩ := hu
      have hu1_0 : sc = sc2 := hu1_0
      have hu1_1 : ia = ia3 := hu1_1
      have hu1_2 : qa = qa4 := hu1_2
      have hu1_3 : ba = ba6 := hu1_3
      have hu1_4 : CI N L isA bk sc2 qa4 rf5 := hu1_4
      subst hu1_0
      subst hu1_1
      subst hu1_2
      subst hu1_3
      have hu1_4 : CI N L isA bk sc qa rf5 := hu1_4
      have hP : va_P (dC, dI) cls_ (oW ou kJ g ++ CW cd kI kQ L isA bk sc ia qa rf5 ba) H := hP
      have hD : va_D A (oW ou kJ g ++ CW cd kI kQ L isA bk sc ia qa rf5 ba) := hD
      refine W.eq (g2 := F0 m 6 ls []) rfl ?_
      refine W.cs (cells' := 0) (slots' := 0) rfl rfl ?_
      refine lv_goto (tgt := 15) hx hb d_LW_seen_6 (by decide) ?_
      refine lv_iconst (v := 0) hx hb d_LW_seen_15 (by decide) ?_
      refine W.widen (k := 1) (n := 6) (Nat.le_of_ble_eq_true rfl) (Nat.le_of_ble_eq_true rfl) ?_
      exact W.iret (v := 0) hx hb hr (fun t ht9 hW => ⟨⟨0, (((L, isA, bk), (sc, ia, qa, rf5, ba)), g), rfl, ⟨same.rf, ⟨N, hu1_4⟩⟩, by rw [ht9]; exact hP, hD⟩, hS.F ht9⟩) hS.2.2 d_LW_seen_16
    · have hK2 : va_K (dC, dI) cls_ (CT kI kQ) s := hK.sub (tys' := CT kI kQ) [0, 1] rfl
      refine tw_runV (C := R_TT) (As := [.int (nI j), .int y]) (rest := []) ⟨hx, hb, hml, hown, ht⟩ (k_TT_seen_ts l dC dI cd kI kQ L isA bk sc ia qa rf ba s.heap.size Bd hl9 N hC j hj a ea ha hn y hp) (cwV 2 ht (gV tb_578 tb_579 tb_580 tb_1 tb_581) rfl rfl rfl (by decide +kernel) ⟨Nat.le_of_ble_eq_true rfl, Nat.le_of_ble_eq_true rfl⟩) ⟨frP_blind, va_recv (q := (R_TT, F_TT, 8)) hK hP rfl (show (oW ou kJ g ++ CW cd kI kQ L isA bk sc ia qa rf ba : va_W)[1]? = some _ from rfl), fr_pre (ap_P hP) hK2 (ap_D hD) hAB hBs hS hV⟩ rfl hl.1 rfl (Nat.le_of_ble_eq_true rfl) d_LW_seen_3 ⟨Nat.le_of_ble_eq_true rfl, Nat.le_of_ble_eq_true rfl⟩ (fun xa cellx H1 hx1 hx2 hx3 hx4 hx5 hx6 => ?_)
      refine tw_catch2 hown ⟨0, 6, 9, 21⟩ ⟨0, 6, 12, 15⟩ [] (tw_table B (atoms_spec (ws := w_LW_seen) B.pre _ List.mem_cons_self)) (by decide) (by decide) (by decide) (by decide) (ht _ tb_451) (ht _ tb_265) hV.2.1.2.2.2.2.1 (va_Nw.use rfl hV.2.1.2.2.1) hx2 hx3 hx4 ?_
      have hP : va_P (dC, dI) cls_ (oW ou kJ g ++ CW cd kI kQ L isA bk sc ia qa rf ba) H1 := hP.kept (fun k q hq => hx6 q.1 ((hP k q hq).lt))
      have hS : va_S A s.heap H1 _ := ⟨Nat.le_trans hS.1 hx5, fun q h1 h2 => (hx6 q (Nat.lt_of_lt_of_le h1 hS.1)).trans (hS.2.1 q h1 h2), hS.2.2⟩
      generalize H1 = H at hP hS ⊢
      refine W.cs (cells' := 1) (slots' := 6) rfl rfl ?_
      refine lv_astore_n hx hb d_LW_seen_12 rfl hl (by decide) rfl (fun ls hl => ?_)
      have hl : lv_has ls 4 [(3, .ref xa), (0, .ref (cd 0)), (1, .int (nI j)), (2, .int y)] := hl
      refine lv_iconst (v := 2) hx hb d_LW_seen_13 (by decide) ?_
      exact W.iret (v := 2) hx hb hr (fun t ht9 hW => ⟨⟨2, (((L, isA, bk), (sc, ia, qa, rf, ba)), g), rfl, ⟨same.rf, ⟨N, hC⟩⟩, by rw [ht9]; exact hP, hD⟩, hS.F ht9⟩) hS.2.2 d_LW_seen_14
  · have hK2 : va_K (dC, dI) cls_ (CT kI kQ) s := hK.sub (tys' := CT kI kQ) [0, 1] rfl
    refine tw_runV (C := R_TT) (As := [.int x, .int y]) (rest := []) ⟨hx, hb, hml, hown, ht⟩ (k_TT_seen_th l dC dI cd kI kQ L isA bk sc ia qa rf ba s.heap.size Bd hl9 N hC x y (fun j h9 e9 => hno ⟨j, h9, e9⟩)) (cwV 2 ht (gV tb_578 tb_579 tb_580 tb_1 tb_581) rfl rfl rfl (by decide +kernel) ⟨Nat.le_of_ble_eq_true rfl, Nat.le_of_ble_eq_true rfl⟩) ⟨frP_blind, va_recv (q := (R_TT, F_TT, 8)) hK hP rfl (show (oW ou kJ g ++ CW cd kI kQ L isA bk sc ia qa rf ba : va_W)[1]? = some _ from rfl), fr_pre (ap_P hP) hK2 (ap_D hD) hAB hBs hS hV⟩ rfl hl.1 rfl (Nat.le_of_ble_eq_true rfl) d_LW_seen_3 ⟨Nat.le_of_ble_eq_true rfl, Nat.le_of_ble_eq_true rfl⟩ (fun xa cellx H1 hx1 hx2 hx3 hx4 hx5 hx6 => ?_)
    refine tw_catch hown ⟨0, 6, 9, 21⟩ [⟨0, 6, 12, 15⟩] (tw_table B (atoms_spec (ws := w_LW_seen) B.pre _ List.mem_cons_self)) (by decide) (by decide) (ht _ tb_451)  (va_Nw.use rfl hV.2.1.2.1) hx2 hx3 hx4 ?_
    have hP : va_P (dC, dI) cls_ (oW ou kJ g ++ CW cd kI kQ L isA bk sc ia qa rf ba) H1 := hP.kept (fun k q hq => hx6 q.1 ((hP k q hq).lt))
    have hS : va_S A s.heap H1 _ := ⟨Nat.le_trans hS.1 hx5, fun q h1 h2 => (hx6 q (Nat.lt_of_lt_of_le h1 hS.1)).trans (hS.2.1 q h1 h2), hS.2.2⟩
    generalize H1 = H at hP hS ⊢
    refine W.cs (cells' := 1) (slots' := 6) rfl rfl ?_
    refine lv_astore_n hx hb d_LW_seen_9 rfl hl (by decide) rfl (fun ls hl => ?_)
    have hl : lv_has ls 4 [(3, .ref xa), (0, .ref (cd 0)), (1, .int x), (2, .int y)] := hl
    refine lv_iconst (v := 1) hx hb d_LW_seen_10 (by decide) ?_
    exact W.iret (v := 1) hx hb hr (fun t ht9 hW => ⟨⟨1, (((L, isA, bk), (sc, ia, qa, rf, ba)), g), rfl, ⟨same.rf, ⟨N, hC⟩⟩, by rw [ht9]; exact hP, hD⟩, hS.F ht9⟩) hS.2.2 d_LW_seen_11
set_option maxHeartbeats 8000000 in
set_option maxRecDepth 100000 in
theorem w_LW_erase_c (l : Launch) (dC : Nat → ClassId) (dI : Nat → Nat → Nat) (cd : Nat → Nat) (kI kQ : ClassId) (L : List Nat) (isA : Nat → Bool) (bk : Nat → Nat) (sc : Nat → Int32) (ia : Nat → Nat → Int32) (qa : Nat → Nat → Option Nat) (rf ba : Nat → Nat → Int32) (kJ : ClassId) (ou : Nat) (g : Nat → Int64) (sz Bd : Nat) (hl9 : l.stackTraces = false) (N : Nat) (hC : CI N L isA bk sc qa rf) (x : Int32) : Met l y_LW_erase w_LW_erase ({ frames := 8, cells := 1, slots := 6, locals := 133 }) (frP (dC, dI) (oW ou kJ g ++ CW cd kI kQ L isA bk sc ia qa rf ba) (CTJ kI kQ kJ) sz Bd [.ref (cd 0), .int x, .ref ou]) (tQ (dC, dI) (wW cd kI kQ kJ ou) (va_A (oW ou kJ g ++ CW cd kI kQ L isA bk sc ia qa rf ba) sz) vI (fun r u => same [] sc u.1.2.1 ∧ (∃ Nz, CI Nz u.1.1.1 u.1.1.2.1 u.1.1.2.2 u.1.2.1 u.1.2.2.2.1 u.1.2.2.2.2.1))) 1 6 (va_A (oW ou kJ g ++ CW cd kI kQ L isA bk sc ia qa rf ba) sz) := by
  refine va_MetW (cc := c_LW_erase) (maxL := 4) (ret := (some .int)) (hh := [(0, 9, 12, 21), (0, 9, 15, 15)]) (by decide) rfl ?_
  intro p e s m args below meth c s₁ B hml hv
  obtain ⟨rfl, ⟨hsz, hBs⟩, hP, hK, hD0, hV⟩ := hv
  have hx := B.exec
  have hb := B.bytes
  have hr := B.returns
  have ht : ∀ w ∈ tb_, w.before _ s = true := fun w h => atoms_spec (ws := w_LW_erase) B.pre w (List.mem_cons_of_mem _ h)
  have hown : s.vm.findClass R_LW = some m.cls := findClass_of_methodNamed B.named
  have hlocks := B.notSynchronized
  subst hsz
  have hD := hD0.self (sz := s.heap.size)
  have hAB : ∀ q, va_A (oW ou kJ g ++ CW cd kI kQ L isA bk sc ia qa rf ba) s.heap.size q → Bd ≤ q := fr_AB hD0 hBs
  generalize hAe : va_A (oW ou kJ g ++ CW cd kI kQ L isA bk sc ia qa rf ba) s.heap.size = A at hD hAB ⊢
  have hA : ∀ q : Nat, s.heap.size ≤ q → A q := fun q h => by rw [← hAe]; exact Or.inr h
  have hS : va_S A s.heap s.heap [] := va_S.rf
  have hP : va_P (dC, dI) cls_ (oW ou kJ g ++ CW cd kI kQ L isA bk sc ia qa rf ba) s.heap := hP
  have hl := lv_entry ([.ref (cd 0), .int x, .ref ou]) (n := 4) (Nat.le_of_ble_eq_true rfl)
  rw [lg_entry_eq]
  generalize (lg_sl ([.ref (cd 0), .int x, .ref ou]) ++ List.replicate (4 - (lg_sl ([.ref (cd 0), .int x, .ref ou])).length) Slot.unset).toArray = ls at hl ⊢
  have hl : lv_has ls 4 [(0, .ref (cd 0)), (1, .int x), (2, .ref ou)] := hl
  have hN := hC.1.1
  refine lv_aload_n hx hb d_LW_erase_0 rfl (lv_at hl 2 rfl) ?_
  refine lv_iconst (v := 0) hx hb d_LW_erase_1 (by decide) ?_
  refine lv_aload_n hx hb d_LW_erase_2 rfl (lv_at hl 0 rfl) ?_
  refine lv_iload_n hx hb d_LW_erase_3 rfl (lv_at hl 1 rfl) ?_
  rcases Classical.em (∃ j, j < N ∧ x = nI j) with ⟨j, hj, rfl⟩ | hno
  · obtain ⟨a, ea, ha, hn⟩ := hC.2.2.2.2.2.1 j hj
    rcases Classical.em (rf a 8 = 2) with hp | hp
    · have hK2 : va_K (dC, dI) cls_ (CT kI kQ) s := hK.sub (tys' := CT kI kQ) [0, 1] rfl
      refine t_callF (E := oW ou kJ g) (u0 := (sc, ia, qa, rf, ba)) (w0 := CW cd kI kQ L isA bk sc ia qa rf ba) rfl (va_runV (C := R_TT) (As := [.int (nI j)]) (rest := [.int 0, .ref ou]) ⟨hx, hb, hml, hown, ht⟩ (k_TT_erase_ok l dC dI cd kI kQ L isA bk sc ia qa rf ba s.heap.size Bd N hC j hj a ea ha hn hp) (cwV 1 ht (gV tb_585 tb_586 tb_587 tb_1 tb_588) rfl rfl rfl (by decide +kernel) ⟨Nat.le_of_ble_eq_true rfl, Nat.le_of_ble_eq_true rfl⟩) ⟨frP_blind, va_recv (q := (R_TT, F_TT, 8)) hK hP rfl (show (oW ou kJ g ++ CW cd kI kQ L isA bk sc ia qa rf ba : va_W)[1]? = some _ from rfl), fr_pre (ap_P hP) hK2 (ap_D hD) hAB hBs hS hV⟩ rfl rfl hl.1 rfl (lv_room (Nat.le_of_ble_eq_true rfl)) d_LW_erase_4 ⟨Nat.le_of_ble_eq_true rfl, Nat.le_of_ble_eq_true rfl⟩) hP hD hS hA (fun r1 u H locs hu hP hD hS => ?_)
      obtain ⟨sc2, ia3, qa4, rf5, ba6⟩ := u
      obtain ⟨hu1_0, hu1_1, hu1_2, hu1_3⟩ := hu
      have hu1_0 : sc = sc2 := hu1_0
      have hu1_1 : qa = qa4 := hu1_1
      have hu1_2 : ba = ba6 := hu1_2
      have hu1_3 : CI N L isA bk sc2 qa4 rf5 := hu1_3
      subst hu1_0
      subst hu1_1
      subst hu1_2
      have hu1_3 : CI N L isA bk sc qa rf5 := hu1_3
      have hP : va_P (dC, dI) cls_ (oW ou kJ g ++ CW cd kI kQ L isA bk sc ia3 qa rf5 ba) H := hP
      have hD : va_D A (oW ou kJ g ++ CW cd kI kQ L isA bk sc ia3 qa rf5 ba) := hD
      refine W.eq (g2 := F0 m 7 ls [.int r1, .int 0, .ref ou]) rfl ?_
      refine W.cs (cells' := 0) (slots' := 0) rfl rfl ?_
      refine lv_i2l hx hb d_LW_erase_7 rfl ?_
      refine va_last hx hb hK hP hD hS 0 2 rfl rfl (show vp_in (nI 0) 1 from vp_in_nI (by decide) (by decide)) d_LW_erase_8 (fun H locs hP hD hS => ?_)
      have hP : va_P (dC, dI) cls_ (oW ou kJ (vp_updL g (0 : Int32).toNatClampNeg r1.toInt64) ++ CW cd kI kQ L isA bk sc ia3 qa rf5 ba) H := hP
      have hD : va_D A (oW ou kJ (vp_updL g (0 : Int32).toNatClampNeg r1.toInt64) ++ CW cd kI kQ L isA bk sc ia3 qa rf5 ba) := hD
      obtain ⟨g7, eg7⟩ : ∃ q9_, q9_ = vp_updL g (0 : Int32).toNatClampNeg r1.toInt64 := ⟨_, rfl⟩
      rw [← eg7] at hP hD
      refine lv_goto (tgt := 18) hx hb d_LW_erase_9 (by decide) ?_
      refine lv_iconst (v := 0) hx hb d_LW_erase_18 (by decide) ?_
      refine W.widen (k := 1) (n := 6) (Nat.le_of_ble_eq_true rfl) (Nat.le_of_ble_eq_true rfl) ?_
      exact W.iret (v := 0) hx hb hr (fun t ht9 hW => ⟨⟨0, (((L, isA, bk), (sc, ia3, qa, rf5, ba)), g7), rfl, ⟨same.rf, ⟨N, hu1_3⟩⟩, by rw [ht9]; exact hP, hD⟩, hS.F ht9⟩) hS.2.2 d_LW_erase_19
    · have hK2 : va_K (dC, dI) cls_ (CT kI kQ) s := hK.sub (tys' := CT kI kQ) [0, 1] rfl
      refine tw_runV (C := R_TT) (As := [.int (nI j)]) (rest := [.int 0, .ref ou]) ⟨hx, hb, hml, hown, ht⟩ (k_TT_erase_ts l dC dI cd kI kQ L isA bk sc ia qa rf ba s.heap.size Bd hl9 N hC j hj a ea ha hn hp) (cwV 1 ht (gV tb_585 tb_586 tb_587 tb_1 tb_588) rfl rfl rfl (by decide +kernel) ⟨Nat.le_of_ble_eq_true rfl, Nat.le_of_ble_eq_true rfl⟩) ⟨frP_blind, va_recv (q := (R_TT, F_TT, 8)) hK hP rfl (show (oW ou kJ g ++ CW cd kI kQ L isA bk sc ia qa rf ba : va_W)[1]? = some _ from rfl), fr_pre (ap_P hP) hK2 (ap_D hD) hAB hBs hS hV⟩ rfl hl.1 rfl (Nat.le_of_ble_eq_true rfl) d_LW_erase_4 ⟨Nat.le_of_ble_eq_true rfl, Nat.le_of_ble_eq_true rfl⟩ (fun xa cellx H1 hx1 hx2 hx3 hx4 hx5 hx6 => ?_)
      refine tw_catch2 hown ⟨0, 9, 12, 21⟩ ⟨0, 9, 15, 15⟩ [] (tw_table B (atoms_spec (ws := w_LW_erase) B.pre _ List.mem_cons_self)) (by decide) (by decide) (by decide) (by decide) (ht _ tb_451) (ht _ tb_265) hV.2.1.2.2.2.2.1 (va_Nw.use rfl hV.2.1.2.2.1) hx2 hx3 hx4 ?_
      have hP : va_P (dC, dI) cls_ (oW ou kJ g ++ CW cd kI kQ L isA bk sc ia qa rf ba) H1 := hP.kept (fun k q hq => hx6 q.1 ((hP k q hq).lt))
      have hS : va_S A s.heap H1 _ := ⟨Nat.le_trans hS.1 hx5, fun q h1 h2 => (hx6 q (Nat.lt_of_lt_of_le h1 hS.1)).trans (hS.2.1 q h1 h2), hS.2.2⟩
      generalize H1 = H at hP hS ⊢
      refine W.cs (cells' := 1) (slots' := 6) rfl rfl ?_
      refine lv_astore_n hx hb d_LW_erase_15 rfl hl (by decide) rfl (fun ls hl => ?_)
      have hl : lv_has ls 4 [(3, .ref xa), (0, .ref (cd 0)), (1, .int (nI j)), (2, .ref ou)] := hl
      refine lv_iconst (v := 2) hx hb d_LW_erase_16 (by decide) ?_
      exact W.iret (v := 2) hx hb hr (fun t ht9 hW => ⟨⟨2, (((L, isA, bk), (sc, ia, qa, rf, ba)), g), rfl, ⟨same.rf, ⟨N, hC⟩⟩, by rw [ht9]; exact hP, hD⟩, hS.F ht9⟩) hS.2.2 d_LW_erase_17
  · have hK2 : va_K (dC, dI) cls_ (CT kI kQ) s := hK.sub (tys' := CT kI kQ) [0, 1] rfl
    refine tw_runV (C := R_TT) (As := [.int x]) (rest := [.int 0, .ref ou]) ⟨hx, hb, hml, hown, ht⟩ (k_TT_erase_th l dC dI cd kI kQ L isA bk sc ia qa rf ba s.heap.size Bd hl9 N hC x (fun j h9 e9 => hno ⟨j, h9, e9⟩)) (cwV 1 ht (gV tb_585 tb_586 tb_587 tb_1 tb_588) rfl rfl rfl (by decide +kernel) ⟨Nat.le_of_ble_eq_true rfl, Nat.le_of_ble_eq_true rfl⟩) ⟨frP_blind, va_recv (q := (R_TT, F_TT, 8)) hK hP rfl (show (oW ou kJ g ++ CW cd kI kQ L isA bk sc ia qa rf ba : va_W)[1]? = some _ from rfl), fr_pre (ap_P hP) hK2 (ap_D hD) hAB hBs hS hV⟩ rfl hl.1 rfl (Nat.le_of_ble_eq_true rfl) d_LW_erase_4 ⟨Nat.le_of_ble_eq_true rfl, Nat.le_of_ble_eq_true rfl⟩ (fun xa cellx H1 hx1 hx2 hx3 hx4 hx5 hx6 => ?_)
    refine tw_catch hown ⟨0, 9, 12, 21⟩ [⟨0, 9, 15, 15⟩] (tw_table B (atoms_spec (ws := w_LW_erase) B.pre _ List.mem_cons_self)) (by decide) (by decide) (ht _ tb_451)  (va_Nw.use rfl hV.2.1.2.1) hx2 hx3 hx4 ?_
    have hP : va_P (dC, dI) cls_ (oW ou kJ g ++ CW cd kI kQ L isA bk sc ia qa rf ba) H1 := hP.kept (fun k q hq => hx6 q.1 ((hP k q hq).lt))
    have hS : va_S A s.heap H1 _ := ⟨Nat.le_trans hS.1 hx5, fun q h1 h2 => (hx6 q (Nat.lt_of_lt_of_le h1 hS.1)).trans (hS.2.1 q h1 h2), hS.2.2⟩
    generalize H1 = H at hP hS ⊢
    refine W.cs (cells' := 1) (slots' := 6) rfl rfl ?_
    refine lv_astore_n hx hb d_LW_erase_12 rfl hl (by decide) rfl (fun ls hl => ?_)
    have hl : lv_has ls 4 [(3, .ref xa), (0, .ref (cd 0)), (1, .int x), (2, .ref ou)] := hl
    refine lv_iconst (v := 1) hx hb d_LW_erase_13 (by decide) ?_
    exact W.iret (v := 1) hx hb hr (fun t ht9 hW => ⟨⟨1, (((L, isA, bk), (sc, ia, qa, rf, ba)), g), rfl, ⟨same.rf, ⟨N, hC⟩⟩, by rw [ht9]; exact hP, hD⟩, hS.F ht9⟩) hS.2.2 d_LW_erase_14
set_option maxHeartbeats 8000000 in
set_option maxRecDepth 100000 in
theorem w_LW_bookmark_c (l : Launch) (dC : Nat → ClassId) (dI : Nat → Nat → Nat) (cd : Nat → Nat) (kI kQ : ClassId) (L : List Nat) (isA : Nat → Bool) (bk : Nat → Nat) (sc : Nat → Int32) (ia : Nat → Nat → Int32) (qa : Nat → Nat → Option Nat) (rf ba : Nat → Nat → Int32) (kJ : ClassId) (ou : Nat) (g : Nat → Int64) (sz Bd : Nat) (hl9 : l.stackTraces = false) (N : Nat) (hC : CI N L isA bk sc qa rf) (x y : Int32) : Met l y_LW_bookmark w_LW_bookmark ({ frames := 8, cells := 1, slots := 6, locals := 134 }) (frP (dC, dI) (oW ou kJ g ++ CW cd kI kQ L isA bk sc ia qa rf ba) (CTJ kI kQ kJ) sz Bd [.ref (cd 0), .int x, .int y, .ref ou]) (tQ (dC, dI) (wW cd kI kQ kJ ou) (va_A (oW ou kJ g ++ CW cd kI kQ L isA bk sc ia qa rf ba) sz) vI (fun r u => same [] sc u.1.2.1 ∧ (∃ Nz, CI Nz u.1.1.1 u.1.1.2.1 u.1.1.2.2 u.1.2.1 u.1.2.2.2.1 u.1.2.2.2.2.1))) 1 6 (va_A (oW ou kJ g ++ CW cd kI kQ L isA bk sc ia qa rf ba) sz) := by
  refine va_MetW (cc := c_LW_bookmark) (maxL := 5) (ret := (some .int)) (hh := [(0, 10, 13, 21), (0, 10, 17, 13), (0, 10, 21, 15)]) (by decide) rfl ?_
  intro p e s m args below meth c s₁ B hml hv
  obtain ⟨rfl, ⟨hsz, hBs⟩, hP, hK, hD0, hV⟩ := hv
  have hx := B.exec
  have hb := B.bytes
  have hr := B.returns
  have ht : ∀ w ∈ tb_, w.before _ s = true := fun w h => atoms_spec (ws := w_LW_bookmark) B.pre w (List.mem_cons_of_mem _ h)
  have hown : s.vm.findClass R_LW = some m.cls := findClass_of_methodNamed B.named
  have hlocks := B.notSynchronized
  subst hsz
  have hD := hD0.self (sz := s.heap.size)
  have hAB : ∀ q, va_A (oW ou kJ g ++ CW cd kI kQ L isA bk sc ia qa rf ba) s.heap.size q → Bd ≤ q := fr_AB hD0 hBs
  generalize hAe : va_A (oW ou kJ g ++ CW cd kI kQ L isA bk sc ia qa rf ba) s.heap.size = A at hD hAB ⊢
  have hA : ∀ q : Nat, s.heap.size ≤ q → A q := fun q h => by rw [← hAe]; exact Or.inr h
  have hS : va_S A s.heap s.heap [] := va_S.rf
  have hP : va_P (dC, dI) cls_ (oW ou kJ g ++ CW cd kI kQ L isA bk sc ia qa rf ba) s.heap := hP
  have hl := lv_entry ([.ref (cd 0), .int x, .int y, .ref ou]) (n := 5) (Nat.le_of_ble_eq_true rfl)
  rw [lg_entry_eq]
  generalize (lg_sl ([.ref (cd 0), .int x, .int y, .ref ou]) ++ List.replicate (5 - (lg_sl ([.ref (cd 0), .int x, .int y, .ref ou])).length) Slot.unset).toArray = ls at hl ⊢
  have hl : lv_has ls 5 [(0, .ref (cd 0)), (1, .int x), (2, .int y), (3, .ref ou)] := hl
  have hN := hC.1.1
  refine lv_aload_n hx hb d_LW_bookmark_0 rfl (lv_at hl 3 rfl) ?_
  refine lv_iconst (v := 0) hx hb d_LW_bookmark_1 (by decide) ?_
  refine lv_aload_n hx hb d_LW_bookmark_2 rfl (lv_at hl 0 rfl) ?_
  refine lv_iload_n hx hb d_LW_bookmark_3 rfl (lv_at hl 1 rfl) ?_
  refine lv_iload_n hx hb d_LW_bookmark_4 rfl (lv_at hl 2 rfl) ?_
  rcases Classical.em (∃ j, j < N ∧ x = nI j) with ⟨j, hj, rfl⟩ | hno
  · obtain ⟨a, ea, ha, hn⟩ := hC.2.2.2.2.2.1 j hj
    rcases Classical.em (0 ≤ y.toInt ∧ y.toInt ≤ 99) with h | h
    · rcases Classical.em ((rf a 8 = 1 ∨ rf a 8 = 2) ∧ (rf a 14).toInt < 6) with hp | hp
      · have hK2 : va_K (dC, dI) cls_ (CT kI kQ) s := hK.sub (tys' := CT kI kQ) [0, 1] rfl
        refine t_callF (E := oW ou kJ g) (u0 := (sc, ia, qa, rf, ba)) (w0 := CW cd kI kQ L isA bk sc ia qa rf ba) rfl (va_runV (C := R_TT) (As := [.int (nI j), .int y]) (rest := [.int 0, .ref ou]) ⟨hx, hb, hml, hown, ht⟩ (k_TT_bookmark_ok l dC dI cd kI kQ L isA bk sc ia qa rf ba s.heap.size Bd N hC j hj a ea ha hn y hp.1 hp.2 h) (cwV 2 ht (gV tb_593 tb_594 tb_595 tb_1 tb_596) rfl rfl rfl (by decide +kernel) ⟨Nat.le_of_ble_eq_true rfl, Nat.le_of_ble_eq_true rfl⟩) ⟨frP_blind, va_recv (q := (R_TT, F_TT, 8)) hK hP rfl (show (oW ou kJ g ++ CW cd kI kQ L isA bk sc ia qa rf ba : va_W)[1]? = some _ from rfl), fr_pre (ap_P hP) hK2 (ap_D hD) hAB hBs hS hV⟩ rfl rfl hl.1 rfl (lv_room (Nat.le_of_ble_eq_true rfl)) d_LW_bookmark_5 ⟨Nat.le_of_ble_eq_true rfl, Nat.le_of_ble_eq_true rfl⟩) hP hD hS hA (fun r1 u H locs hu hP hD hS => ?_)
        obtain ⟨sc2, ia3, qa4, rf5, ba6⟩ := u
        obtain ⟨hu1_0, hu1_1, hu1_2, hu1_3⟩ := hu
        have hu1_0 : sc = sc2 := hu1_0
        have hu1_1 : ia = ia3 := hu1_1
        have hu1_2 : qa = qa4 := hu1_2
        have hu1_3 : CI N L isA bk sc2 qa4 rf5 := hu1_3
        subst hu1_0
        subst hu1_1
        subst hu1_2
        have hu1_3 : CI N L isA bk sc qa rf5 := hu1_3
        have hP : va_P (dC, dI) cls_ (oW ou kJ g ++ CW cd kI kQ L isA bk sc ia qa rf5 ba6) H := hP
        have hD : va_D A (oW ou kJ g ++ CW cd kI kQ L isA bk sc ia qa rf5 ba6) := hD
        refine W.eq (g2 := F0 m 8 ls [.int r1, .int 0, .ref ou]) rfl ?_
        refine W.cs (cells' := 0) (slots' := 0) rfl rfl ?_
        refine lv_i2l hx hb d_LW_bookmark_8 rfl ?_
        refine va_last hx hb hK hP hD hS 0 2 rfl rfl (show vp_in (nI 0) 1 from vp_in_nI (by decide) (by decide)) d_LW_bookmark_9 (fun H locs hP hD hS => ?_)
        have hP : va_P (dC, dI) cls_ (oW ou kJ (vp_updL g (0 : Int32).toNatClampNeg r1.toInt64) ++ CW cd kI kQ L isA bk sc ia qa rf5 ba6) H := hP
        have hD : va_D A (oW ou kJ (vp_updL g (0 : Int32).toNatClampNeg r1.toInt64) ++ CW cd kI kQ L isA bk sc ia qa rf5 ba6) := hD
        obtain ⟨g7, eg7⟩ : ∃ q9_, q9_ = vp_updL g (0 : Int32).toNatClampNeg r1.toInt64 := ⟨_, rfl⟩
        rw [← eg7] at hP hD
        refine lv_goto (tgt := 25) hx hb d_LW_bookmark_10 (by decide) ?_
        refine lv_iconst (v := 0) hx hb d_LW_bookmark_25 (by decide) ?_
        refine W.widen (k := 1) (n := 6) (Nat.le_of_ble_eq_true rfl) (Nat.le_of_ble_eq_true rfl) ?_
        exact W.iret (v := 0) hx hb hr (fun t ht9 hW => ⟨⟨0, (((L, isA, bk), (sc, ia, qa, rf5, ba6)), g7), rfl, ⟨same.rf, ⟨N, hu1_3⟩⟩, by rw [ht9]; exact hP, hD⟩, hS.F ht9⟩) hS.2.2 d_LW_bookmark_26
      · have hK2 : va_K (dC, dI) cls_ (CT kI kQ) s := hK.sub (tys' := CT kI kQ) [0, 1] rfl
        refine tw_runV (C := R_TT) (As := [.int (nI j), .int y]) (rest := [.int 0, .ref ou]) ⟨hx, hb, hml, hown, ht⟩ (k_TT_bookmark_ts l dC dI cd kI kQ L isA bk sc ia qa rf ba s.heap.size Bd hl9 N hC j hj a ea ha hn y h hp) (cwV 2 ht (gV tb_593 tb_594 tb_595 tb_1 tb_596) rfl rfl rfl (by decide +kernel) ⟨Nat.le_of_ble_eq_true rfl, Nat.le_of_ble_eq_true rfl⟩) ⟨frP_blind, va_recv (q := (R_TT, F_TT, 8)) hK hP rfl (show (oW ou kJ g ++ CW cd kI kQ L isA bk sc ia qa rf ba : va_W)[1]? = some _ from rfl), fr_pre (ap_P hP) hK2 (ap_D hD) hAB hBs hS hV⟩ rfl hl.1 rfl (Nat.le_of_ble_eq_true rfl) d_LW_bookmark_5 ⟨Nat.le_of_ble_eq_true rfl, Nat.le_of_ble_eq_true rfl⟩ (fun xa cellx H1 hx1 hx2 hx3 hx4 hx5 hx6 => ?_)
        refine tw_catch3 hown ⟨0, 10, 13, 21⟩ ⟨0, 10, 17, 13⟩ ⟨0, 10, 21, 15⟩ [] (tw_table B (atoms_spec (ws := w_LW_bookmark) B.pre _ List.mem_cons_self)) (by decide) (by decide) (by decide) (by decide) (by decide) (by decide) (ht _ tb_451) (ht _ tb_264) (ht _ tb_265) hV.2.1.2.2.2.2.1 hV.2.1.2.2.2.1 (va_Nw.use rfl hV.2.1.2.2.1) hx2 hx3 hx4 ?_
        have hP : va_P (dC, dI) cls_ (oW ou kJ g ++ CW cd kI kQ L isA bk sc ia qa rf ba) H1 := hP.kept (fun k q hq => hx6 q.1 ((hP k q hq).lt))
        have hS : va_S A s.heap H1 _ := ⟨Nat.le_trans hS.1 hx5, fun q h1 h2 => (hx6 q (Nat.lt_of_lt_of_le h1 hS.1)).trans (hS.2.1 q h1 h2), hS.2.2⟩
        generalize H1 = H at hP hS ⊢
        refine W.cs (cells' := 1) (slots' := 6) rfl rfl ?_
        refine lv_astore hx hb d_LW_bookmark_21 hl (by decide) rfl (fun ls hl => ?_)
        have hl : lv_has ls 5 [(4, .ref xa), (0, .ref (cd 0)), (1, .int (nI j)), (2, .int y), (3, .ref ou)] := hl
        refine lv_iconst (v := 3) hx hb d_LW_bookmark_23 (by decide) ?_
        exact W.iret (v := 3) hx hb hr (fun t ht9 hW => ⟨⟨3, (((L, isA, bk), (sc, ia, qa, rf, ba)), g), rfl, ⟨same.rf, ⟨N, hC⟩⟩, by rw [ht9]; exact hP, hD⟩, hS.F ht9⟩) hS.2.2 d_LW_bookmark_24
    · have hK2 : va_K (dC, dI) cls_ (CT kI kQ) s := hK.sub (tys' := CT kI kQ) [0, 1] rfl
      refine tw_runV (C := R_TT) (As := [.int (nI j), .int y]) (rest := [.int 0, .ref ou]) ⟨hx, hb, hml, hown, ht⟩ (k_TT_bookmark_ta l dC dI cd kI kQ L isA bk sc ia qa rf ba s.heap.size Bd hl9 N hC j hj a ea ha hn y h) (cwV 2 ht (gV tb_593 tb_594 tb_595 tb_1 tb_596) rfl rfl rfl (by decide +kernel) ⟨Nat.le_of_ble_eq_true rfl, Nat.le_of_ble_eq_true rfl⟩) ⟨frP_blind, va_recv (q := (R_TT, F_TT, 8)) hK hP rfl (show (oW ou kJ g ++ CW cd kI kQ L isA bk sc ia qa rf ba : va_W)[1]? = some _ from rfl), fr_pre (ap_P hP) hK2 (ap_D hD) hAB hBs hS hV⟩ rfl hl.1 rfl (Nat.le_of_ble_eq_true rfl) d_LW_bookmark_5 ⟨Nat.le_of_ble_eq_true rfl, Nat.le_of_ble_eq_true rfl⟩ (fun xa cellx H1 hx1 hx2 hx3 hx4 hx5 hx6 => ?_)
      refine tw_catch2 hown ⟨0, 10, 13, 21⟩ ⟨0, 10, 17, 13⟩ [⟨0, 10, 21, 15⟩] (tw_table B (atoms_spec (ws := w_LW_bookmark) B.pre _ List.mem_cons_self)) (by decide) (by decide) (by decide) (by decide) (ht _ tb_451) (ht _ tb_264) hV.2.1.2.2.2.2.2 (va_Nw.use rfl hV.2.1.1) hx2 hx3 hx4 ?_
      have hP : va_P (dC, dI) cls_ (oW ou kJ g ++ CW cd kI kQ L isA bk sc ia qa rf ba) H1 := hP.kept (fun k q hq => hx6 q.1 ((hP k q hq).lt))
      have hS : va_S A s.heap H1 _ := ⟨Nat.le_trans hS.1 hx5, fun q h1 h2 => (hx6 q (Nat.lt_of_lt_of_le h1 hS.1)).trans (hS.2.1 q h1 h2), hS.2.2⟩
      generalize H1 = H at hP hS ⊢
      refine W.cs (cells' := 1) (slots' := 6) rfl rfl ?_
      refine lv_astore hx hb d_LW_bookmark_17 hl (by decide) rfl (fun ls hl => ?_)
      have hl : lv_has ls 5 [(4, .ref xa), (0, .ref (cd 0)), (1, .int (nI j)), (2, .int y), (3, .ref ou)] := hl
      refine lv_iconst (v := 2) hx hb d_LW_bookmark_19 (by decide) ?_
      exact W.iret (v := 2) hx hb hr (fun t ht9 hW => ⟨⟨2, (((L, isA, bk), (sc, ia, qa, rf, ba)), g), rfl, ⟨same.rf, ⟨N, hC⟩⟩, by rw [ht9]; exact hP, hD⟩, hS.F ht9⟩) hS.2.2 d_LW_bookmark_20
  · have hK2 : va_K (dC, dI) cls_ (CT kI kQ) s := hK.sub (tys' := CT kI kQ) [0, 1] rfl
    refine tw_runV (C := R_TT) (As := [.int x, .int y]) (rest := [.int 0, .ref ou]) ⟨hx, hb, hml, hown, ht⟩ (k_TT_bookmark_th l dC dI cd kI kQ L isA bk sc ia qa rf ba s.heap.size Bd hl9 N hC x y (fun j h9 e9 => hno ⟨j, h9, e9⟩)) (cwV 2 ht (gV tb_593 tb_594 tb_595 tb_1 tb_596) rfl rfl rfl (by decide +kernel) ⟨Nat.le_of_ble_eq_true rfl, Nat.le_of_ble_eq_true rfl⟩) ⟨frP_blind, va_recv (q := (R_TT, F_TT, 8)) hK hP rfl (show (oW ou kJ g ++ CW cd kI kQ L isA bk sc ia qa rf ba : va_W)[1]? = some _ from rfl), fr_pre (ap_P hP) hK2 (ap_D hD) hAB hBs hS hV⟩ rfl hl.1 rfl (Nat.le_of_ble_eq_true rfl) d_LW_bookmark_5 ⟨Nat.le_of_ble_eq_true rfl, Nat.le_of_ble_eq_true rfl⟩ (fun xa cellx H1 hx1 hx2 hx3 hx4 hx5 hx6 => ?_)
    refine tw_catch hown ⟨0, 10, 13, 21⟩ [⟨0, 10, 17, 13⟩, ⟨0, 10, 21, 15⟩] (tw_table B (atoms_spec (ws := w_LW_bookmark) B.pre _ List.mem_cons_self)) (by decide) (by decide) (ht _ tb_451)  (va_Nw.use rfl hV.2.1.2.1) hx2 hx3 hx4 ?_
    have hP : va_P (dC, dI) cls_ (oW ou kJ g ++ CW cd kI kQ L isA bk sc ia qa rf ba) H1 := hP.kept (fun k q hq => hx6 q.1 ((hP k q hq).lt))
    have hS : va_S A s.heap H1 _ := ⟨Nat.le_trans hS.1 hx5, fun q h1 h2 => (hx6 q (Nat.lt_of_lt_of_le h1 hS.1)).trans (hS.2.1 q h1 h2), hS.2.2⟩
    generalize H1 = H at hP hS ⊢
    refine W.cs (cells' := 1) (slots' := 6) rfl rfl ?_
    refine lv_astore hx hb d_LW_bookmark_13 hl (by decide) rfl (fun ls hl => ?_)
    have hl : lv_has ls 5 [(4, .ref xa), (0, .ref (cd 0)), (1, .int x), (2, .int y), (3, .ref ou)] := hl
    refine lv_iconst (v := 1) hx hb d_LW_bookmark_15 (by decide) ?_
    exact W.iret (v := 1) hx hb hr (fun t ht9 hW => ⟨⟨1, (((L, isA, bk), (sc, ia, qa, rf, ba)), g), rfl, ⟨same.rf, ⟨N, hC⟩⟩, by rw [ht9]; exact hP, hD⟩, hS.F ht9⟩) hS.2.2 d_LW_bookmark_16
set_option maxHeartbeats 8000000 in
set_option maxRecDepth 100000 in
theorem w_LW_request_c (l : Launch) (dC : Nat → ClassId) (dI : Nat → Nat → Nat) (cd : Nat → Nat) (kI kQ : ClassId) (L : List Nat) (isA : Nat → Bool) (bk : Nat → Nat) (sc : Nat → Int32) (ia : Nat → Nat → Int32) (qa : Nat → Nat → Option Nat) (rf ba : Nat → Nat → Int32) (kJ : ClassId) (ou : Nat) (g : Nat → Int64) (sz Bd : Nat) (hl9 : l.stackTraces = false) (N : Nat) (hC : CI N L isA bk sc qa rf) (xc xs xl xp xd : Int32) : Met l y_LW_request w_LW_request ({ frames := 7, cells := 2, slots := 23, locals := 116 }) (frP (dC, dI) (oW ou kJ g ++ CW cd kI kQ L isA bk sc ia qa rf ba) (CTJ kI kQ kJ) sz Bd [.ref (cd 0), .int xc, .int xs, .int xl, .int xp, .int xd, .ref ou]) (tQ (dC, dI) (wW cd kI kQ kJ ou) (va_A (oW ou kJ g ++ CW cd kI kQ L isA bk sc ia qa rf ba) sz) vI (fun r u => same [0] sc u.1.2.1 ∧ (∃ Nz, CI Nz u.1.1.1 u.1.1.2.1 u.1.1.2.2 u.1.2.1 u.1.2.2.2.1 u.1.2.2.2.2.1))) 2 23 (va_A (oW ou kJ g ++ CW cd kI kQ L isA bk sc ia qa rf ba) sz) := by
  refine va_MetW (cc := c_LW_request) (maxL := 8) (ret := (some .int)) (hh := [(0, 16, 19, 13), (0, 16, 23, 15)]) (by decide) rfl ?_
  intro p e s m args below meth c s₁ B hml hv
  obtain ⟨rfl, ⟨hsz, hBs⟩, hP, hK, hD0, hV⟩ := hv
  have hx := B.exec
  have hb := B.bytes
  have hr := B.returns
  have ht : ∀ w ∈ tb_, w.before _ s = true := fun w h => atoms_spec (ws := w_LW_request) B.pre w (List.mem_cons_of_mem _ h)
  have hown : s.vm.findClass R_LW = some m.cls := findClass_of_methodNamed B.named
  have hlocks := B.notSynchronized
  subst hsz
  have hD := hD0.self (sz := s.heap.size)
  have hAB : ∀ q, va_A (oW ou kJ g ++ CW cd kI kQ L isA bk sc ia qa rf ba) s.heap.size q → Bd ≤ q := fr_AB hD0 hBs
  generalize hAe : va_A (oW ou kJ g ++ CW cd kI kQ L isA bk sc ia qa rf ba) s.heap.size = A at hD hAB ⊢
  have hA : ∀ q : Nat, s.heap.size ≤ q → A q := fun q h => by rw [← hAe]; exact Or.inr h
  have hS : va_S A s.heap s.heap [] := va_S.rf
  have hP : va_P (dC, dI) cls_ (oW ou kJ g ++ CW cd kI kQ L isA bk sc ia qa rf ba) s.heap := hP
  have hl := lv_entry ([.ref (cd 0), .int xc, .int xs, .int xl, .int xp, .int xd, .ref ou]) (n := 8) (Nat.le_of_ble_eq_true rfl)
  rw [lg_entry_eq]
  generalize (lg_sl ([.ref (cd 0), .int xc, .int xs, .int xl, .int xp, .int xd, .ref ou]) ++ List.replicate (8 - (lg_sl ([.ref (cd 0), .int xc, .int xs, .int xl, .int xp, .int xd, .ref ou])).length) Slot.unset).toArray = ls at hl ⊢
  have hl : lv_has ls 8 [(0, .ref (cd 0)), (1, .int xc), (2, .int xs), (3, .int xl), (4, .int xp), (5, .int xd), (6, .ref ou)] := hl
  have hN := hC.1.1
  refine lv_aload hx hb d_LW_request_0 (lv_at hl 6 rfl) ?_
  refine lv_iconst (v := 0) hx hb d_LW_request_2 (by decide) ?_
  refine lv_aload_n hx hb d_LW_request_3 rfl (lv_at hl 0 rfl) ?_
  refine lv_iload_n hx hb d_LW_request_4 rfl (lv_at hl 1 rfl) ?_
  refine lv_iload_n hx hb d_LW_request_5 rfl (lv_at hl 2 rfl) ?_
  refine lv_iload_n hx hb d_LW_request_6 rfl (lv_at hl 3 rfl) ?_
  refine lv_iload hx hb d_LW_request_7 (lv_at hl 4 rfl) ?_
  refine lv_iload hx hb d_LW_request_9 (lv_at hl 5 rfl) ?_
  rcases Classical.em (((0 ≤ xc.toInt ∧ xc.toInt ≤ 7) ∧ ((sc 1).toInt ≤ xs.toInt ∧ xs.toInt ≤ (sc 1 + 1000).toInt) ∧ (1 ≤ xl.toInt ∧ xl.toInt ≤ 60) ∧ (1 ≤ xp.toInt ∧ xp.toInt ≤ 9) ∧ (0 ≤ xd.toInt ∧ xd.toInt ≤ 99))) with h | h
  · rcases Classical.em (N < 40 ∧ oc (fun i => phq rf (qa 0 i)) N < 12) with hf | hf
    · have hK2 : va_K (dC, dI) cls_ (CT kI kQ) s := hK.sub (tys' := CT kI kQ) [0, 1] rfl
      refine t_callF (E := oW ou kJ g) (u0 := ((L, isA, bk), (sc, ia, qa, rf, ba))) (w0 := CW cd kI kQ L isA bk sc ia qa rf ba) rfl (va_runV (C := R_TT) (As := [.int xc, .int xs, .int xl, .int xp, .int xd]) (rest := [.int 0, .ref ou]) ⟨hx, hb, hml, hown, ht⟩ (k_TT_request_ok l dC dI cd kI kQ L isA bk sc ia qa rf ba s.heap.size Bd N hC xc xs xl xp xd h hf) (cwV 5 ht (gV tb_266 tb_267 tb_268 tb_1 tb_269) rfl rfl rfl (by decide +kernel) ⟨Nat.le_of_ble_eq_true rfl, Nat.le_of_ble_eq_true rfl⟩) ⟨frP_blind, va_recv (q := (R_TT, F_TT, 8)) hK hP rfl (show (oW ou kJ g ++ CW cd kI kQ L isA bk sc ia qa rf ba : va_W)[1]? = some _ from rfl), fr_pre (ap_P hP) hK2 (ap_D hD) hAB hBs hS hV⟩ rfl rfl hl.1 rfl (lv_room (Nat.le_of_ble_eq_true rfl)) d_LW_request_11 ⟨Nat.le_of_ble_eq_true rfl, Nat.le_of_ble_eq_true rfl⟩) hP hD hS hA (fun r1 u H locs hu hP hD hS => ?_)
      obtain ⟨⟨L3, isA3, bk3⟩, sc2, ia3, qa4, rf5, ba6⟩ := u
      obtain ⟨hu1_0, hu1_1⟩ := hu
      have hu1_0 : same [0] sc sc2 := hu1_0
      have hu1_1 : CI (N + 1) L3 isA3 bk3 sc2 qa4 rf5 := hu1_1
      have hu1_1 : CI (N + 1) L3 isA3 bk3 sc2 qa4 rf5 := hu1_1
      have hu1_0 : same [0] sc sc2 := hu1_0
      have hP : va_P (dC, dI) cls_ (oW ou kJ g ++ CW cd kI kQ L3 isA3 bk3 sc2 ia3 qa4 rf5 ba6) H := hP
      have hD : va_D A (oW ou kJ g ++ CW cd kI kQ L3 isA3 bk3 sc2 ia3 qa4 rf5 ba6) := hD
      refine W.eq (g2 := F0 m 14 ls [.int r1, .int 0, .ref ou]) rfl ?_
      refine W.cs (cells' := 2) (slots' := 23) rfl rfl ?_
      refine lv_i2l hx hb d_LW_request_14 rfl ?_
      refine va_last hx hb hK hP hD hS 0 2 rfl rfl (show vp_in (nI 0) 1 from vp_in_nI (by decide) (by decide)) d_LW_request_15 (fun H locs hP hD hS => ?_)
      have hP : va_P (dC, dI) cls_ (oW ou kJ (vp_updL g (0 : Int32).toNatClampNeg r1.toInt64) ++ CW cd kI kQ L3 isA3 bk3 sc2 ia3 qa4 rf5 ba6) H := hP
      have hD : va_D A (oW ou kJ (vp_updL g (0 : Int32).toNatClampNeg r1.toInt64) ++ CW cd kI kQ L3 isA3 bk3 sc2 ia3 qa4 rf5 ba6) := hD
      obtain ⟨g7, eg7⟩ : ∃ q9_, q9_ = vp_updL g (0 : Int32).toNatClampNeg r1.toInt64 := ⟨_, rfl⟩
      rw [← eg7] at hP hD
      refine lv_goto (tgt := 27) hx hb d_LW_request_16 (by decide) ?_
      refine lv_iconst (v := 0) hx hb d_LW_request_27 (by decide) ?_
      exact W.iret (v := 0) hx hb hr (fun t ht9 hW => ⟨⟨0, (((L3, isA3, bk3), (sc2, ia3, qa4, rf5, ba6)), g7), rfl, ⟨hu1_0.wk (by decide), ⟨N + 1, hu1_1⟩⟩, by rw [ht9]; exact hP, hD⟩, hS.F ht9⟩) hS.2.2 d_LW_request_28
    · have hK2 : va_K (dC, dI) cls_ (CT kI kQ) s := hK.sub (tys' := CT kI kQ) [0, 1] rfl
      refine tw_runV (C := R_TT) (As := [.int xc, .int xs, .int xl, .int xp, .int xd]) (rest := [.int 0, .ref ou]) ⟨hx, hb, hml, hown, ht⟩ (k_TT_request_ts l dC dI cd kI kQ L isA bk sc ia qa rf ba s.heap.size Bd hl9 N hC xc xs xl xp xd h hf) (cwV 5 ht (gV tb_266 tb_267 tb_268 tb_1 tb_269) rfl rfl rfl (by decide +kernel) ⟨Nat.le_of_ble_eq_true rfl, Nat.le_of_ble_eq_true rfl⟩) ⟨frP_blind, va_recv (q := (R_TT, F_TT, 8)) hK hP rfl (show (oW ou kJ g ++ CW cd kI kQ L isA bk sc ia qa rf ba : va_W)[1]? = some _ from rfl), fr_pre (ap_P hP) hK2 (ap_D hD) hAB hBs hS hV⟩ rfl hl.1 rfl (Nat.le_of_ble_eq_true rfl) d_LW_request_11 ⟨Nat.le_of_ble_eq_true rfl, Nat.le_of_ble_eq_true rfl⟩ (fun xa cellx H1 hx1 hx2 hx3 hx4 hx5 hx6 => ?_)
      refine tw_catch2 hown ⟨0, 16, 19, 13⟩ ⟨0, 16, 23, 15⟩ [] (tw_table B (atoms_spec (ws := w_LW_request) B.pre _ List.mem_cons_self)) (by decide) (by decide) (by decide) (by decide) (ht _ tb_264) (ht _ tb_265) hV.2.1.2.2.2.1 (va_Nw.use rfl hV.2.1.2.2.1) hx2 hx3 hx4 ?_
      have hP : va_P (dC, dI) cls_ (oW ou kJ g ++ CW cd kI kQ L isA bk sc ia qa rf ba) H1 := hP.kept (fun k q hq => hx6 q.1 ((hP k q hq).lt))
      have hS : va_S A s.heap H1 _ := ⟨Nat.le_trans hS.1 hx5, fun q h1 h2 => (hx6 q (Nat.lt_of_lt_of_le h1 hS.1)).trans (hS.2.1 q h1 h2), hS.2.2⟩
      generalize H1 = H at hP hS ⊢
      refine W.cs (cells' := 1) (slots' := 6) rfl rfl ?_
      refine lv_astore hx hb d_LW_request_23 hl (by decide) rfl (fun ls hl => ?_)
      have hl : lv_has ls 8 [(7, .ref xa), (0, .ref (cd 0)), (1, .int xc), (2, .int xs), (3, .int xl), (4, .int xp), (5, .int xd), (6, .ref ou)] := hl
      refine lv_iconst (v := 2) hx hb d_LW_request_25 (by decide) ?_
      refine W.widen (k := 2) (n := 23) (Nat.le_of_ble_eq_true rfl) (Nat.le_of_ble_eq_true rfl) ?_
      exact W.iret (v := 2) hx hb hr (fun t ht9 hW => ⟨⟨2, (((L, isA, bk), (sc, ia, qa, rf, ba)), g), rfl, ⟨same.rf, ⟨N, hC⟩⟩, by rw [ht9]; exact hP, hD⟩, hS.F ht9⟩) hS.2.2 d_LW_request_26
  · have hK2 : va_K (dC, dI) cls_ (CT kI kQ) s := hK.sub (tys' := CT kI kQ) [0, 1] rfl
    refine tw_runV (C := R_TT) (As := [.int xc, .int xs, .int xl, .int xp, .int xd]) (rest := [.int 0, .ref ou]) ⟨hx, hb, hml, hown, ht⟩ (k_TT_request_ta l dC dI cd kI kQ L isA bk sc ia qa rf ba s.heap.size Bd hl9 N hC xc xs xl xp xd h) (cwV 5 ht (gV tb_266 tb_267 tb_268 tb_1 tb_269) rfl rfl rfl (by decide +kernel) ⟨Nat.le_of_ble_eq_true rfl, Nat.le_of_ble_eq_true rfl⟩) ⟨frP_blind, va_recv (q := (R_TT, F_TT, 8)) hK hP rfl (show (oW ou kJ g ++ CW cd kI kQ L isA bk sc ia qa rf ba : va_W)[1]? = some _ from rfl), fr_pre (ap_P hP) hK2 (ap_D hD) hAB hBs hS hV⟩ rfl hl.1 rfl (Nat.le_of_ble_eq_true rfl) d_LW_request_11 ⟨Nat.le_of_ble_eq_true rfl, Nat.le_of_ble_eq_true rfl⟩ (fun xa cellx H1 hx1 hx2 hx3 hx4 hx5 hx6 => ?_)
    refine tw_catch hown ⟨0, 16, 19, 13⟩ [⟨0, 16, 23, 15⟩] (tw_table B (atoms_spec (ws := w_LW_request) B.pre _ List.mem_cons_self)) (by decide) (by decide) (ht _ tb_264)  (va_Nw.use rfl hV.2.1.1) hx2 hx3 hx4 ?_
    have hP : va_P (dC, dI) cls_ (oW ou kJ g ++ CW cd kI kQ L isA bk sc ia qa rf ba) H1 := hP.kept (fun k q hq => hx6 q.1 ((hP k q hq).lt))
    have hS : va_S A s.heap H1 _ := ⟨Nat.le_trans hS.1 hx5, fun q h1 h2 => (hx6 q (Nat.lt_of_lt_of_le h1 hS.1)).trans (hS.2.1 q h1 h2), hS.2.2⟩
    generalize H1 = H at hP hS ⊢
    refine W.cs (cells' := 1) (slots' := 6) rfl rfl ?_
    refine lv_astore hx hb d_LW_request_19 hl (by decide) rfl (fun ls hl => ?_)
    have hl : lv_has ls 8 [(7, .ref xa), (0, .ref (cd 0)), (1, .int xc), (2, .int xs), (3, .int xl), (4, .int xp), (5, .int xd), (6, .ref ou)] := hl
    refine lv_iconst (v := 1) hx hb d_LW_request_21 (by decide) ?_
    refine W.widen (k := 2) (n := 23) (Nat.le_of_ble_eq_true rfl) (Nat.le_of_ble_eq_true rfl) ?_
    exact W.iret (v := 1) hx hb hr (fun t ht9 hW => ⟨⟨1, (((L, isA, bk), (sc, ia, qa, rf, ba)), g), rfl, ⟨same.rf, ⟨N, hC⟩⟩, by rw [ht9]; exact hP, hD⟩, hS.F ht9⟩) hS.2.2 d_LW_request_22
