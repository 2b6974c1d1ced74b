abbrev c_LW_cancel : ByteArray := method_4_code
abbrev y_LW_cancel : MethodName := ⟨"TwinTunersLaw", "cancel", "(LTwinTuners;I)I"⟩
def w_LW_cancel : List Cond := .codeWith y_LW_cancel c_LW_cancel 3 (some .int) [(0, 5, 8, 21), (0, 5, 11, 15)] :: tb_
abbrev c_LW_state : ByteArray := method_5_code
abbrev y_LW_state : MethodName := ⟨"TwinTunersLaw", "state", "(LTwinTuners;I[J)I"⟩
def w_LW_state : List Cond := .codeWith y_LW_state c_LW_state 4 (some .int) [(0, 9, 12, 21)] :: tb_
abbrev c_LW_planFrom : ByteArray := method_6_code
abbrev y_LW_planFrom : MethodName := ⟨"TwinTunersLaw", "planFrom", "(LTwinTuners;I[J)I"⟩
def w_LW_planFrom : List Cond := .codeWith y_LW_planFrom c_LW_planFrom 4 (some .int) [(0, 9, 12, 21)] :: tb_
abbrev c_LW_planTo : ByteArray := method_7_code
abbrev y_LW_planTo : MethodName := ⟨"TwinTunersLaw", "planTo", "(LTwinTuners;I[J)I"⟩
def w_LW_planTo : List Cond := .codeWith y_LW_planTo c_LW_planTo 4 (some .int) [(0, 9, 12, 21)] :: tb_
abbrev c_LW_recorded : ByteArray := method_12_code
abbrev y_LW_recorded : MethodName := ⟨"TwinTunersLaw", "recorded", "(LTwinTuners;I[J)I"⟩
def w_LW_recorded : List Cond := .codeWith y_LW_recorded c_LW_recorded 4 (some .int) [(0, 9, 12, 21)] :: tb_
abbrev c_LW_shortBy : ByteArray := method_13_code
abbrev y_LW_shortBy : MethodName := ⟨"TwinTunersLaw", "shortBy", "(LTwinTuners;I[J)I"⟩
def w_LW_shortBy : List Cond := .codeWith y_LW_shortBy c_LW_shortBy 4 (some .int) [(0, 9, 12, 21)] :: tb_
abbrev c_LW_erase : ByteArray := method_16_code
abbrev y_LW_erase : MethodName := ⟨"TwinTunersLaw", "erase", "(LTwinTuners;I[J)I"⟩
def w_LW_erase : List Cond := .codeWith y_LW_erase c_LW_erase 4 (some .int) [(0, 9, 12, 21), (0, 9, 15, 15)] :: tb_
abbrev c_LW_word : ByteArray := method_11_code
abbrev y_LW_word : MethodName := ⟨"TwinTunersLaw", "word", "(LTwinTuners;II[J)I"⟩
def w_LW_word : List Cond := .codeWith y_LW_word c_LW_word 5 (some .int) [(0, 9, 12, 21)] :: tb_
abbrev c_LW_bookmark : ByteArray := method_17_code
abbrev y_LW_bookmark : MethodName := ⟨"TwinTunersLaw", "bookmark", "(LTwinTuners;II[J)I"⟩
def w_LW_bookmark : List Cond := .codeWith y_LW_bookmark c_LW_bookmark 5 (some .int) [(0, 10, 13, 21), (0, 10, 17, 13), (0, 10, 21, 15)] :: tb_
abbrev c_LW_bookmarkAt : ByteArray := method_18_code
abbrev y_LW_bookmarkAt : MethodName := ⟨"TwinTunersLaw", "bookmarkAt", "(LTwinTuners;II[J)I"⟩
def w_LW_bookmarkAt : List Cond := .codeWith y_LW_bookmarkAt c_LW_bookmarkAt 5 (some .int) [(0, 10, 13, 21)] :: tb_
abbrev c_LW_protect : ByteArray := method_14_code
abbrev y_LW_protect : MethodName := ⟨"TwinTunersLaw", "protect", "(LTwinTuners;IZ)I"⟩
def w_LW_protect : List Cond := .codeWith y_LW_protect c_LW_protect 4 (some .int) [(0, 6, 9, 21), (0, 6, 12, 15)] :: tb_
abbrev c_LW_seen : ByteArray := method_15_code
abbrev y_LW_seen : MethodName := ⟨"TwinTunersLaw", "seen", "(LTwinTuners;IZ)I"⟩
def w_LW_seen : List Cond := .codeWith y_LW_seen c_LW_seen 4 (some .int) [(0, 6, 9, 21), (0, 6, 12, 15)] :: tb_
abbrev c_LW_air : ByteArray := method_8_code
abbrev y_LW_air : MethodName := ⟨"TwinTunersLaw", "air", "(LTwinTuners;II)I"⟩
def w_LW_air : List Cond := .codeWith y_LW_air c_LW_air 4 (some .int) [(0, 6, 9, 21)] :: tb_
abbrev c_LW_watch : ByteArray := method_10_code
abbrev y_LW_watch : MethodName := ⟨"TwinTunersLaw", "watch", "(LTwinTuners;I[J)I"⟩
def w_LW_watch : List Cond := .codeWith y_LW_watch c_LW_watch 4 (some .int) [(0, 9, 12, 21)] :: tb_
abbrev c_LW_ticks : ByteArray := method_9_code
abbrev y_LW_ticks : MethodName := ⟨"TwinTunersLaw", "ticks", "(LTwinTuners;I[J)I"⟩
def w_LW_ticks : List Cond := .codeWith y_LW_ticks c_LW_ticks 4 (some .int) [(0, 9, 12, 13)] :: tb_
abbrev c_LW_cut : ByteArray := method_19_code
abbrev y_LW_cut : MethodName := ⟨"TwinTunersLaw", "cut", "(LTwinTuners;I[J)I"⟩
def w_LW_cut : List Cond := .codeWith y_LW_cut c_LW_cut 4 (some .int) [(0, 9, 12, 13)] :: tb_
abbrev c_LW_request : ByteArray := method_3_code
abbrev y_LW_request : MethodName := ⟨"TwinTunersLaw", "request", "(LTwinTuners;IIIII[J)I"⟩
def w_LW_request : List Cond := .codeWith y_LW_request c_LW_request 8 (some .int) [(0, 16, 19, 13), (0, 16, 23, 15)] :: tb_
set_option maxRecDepth 100000 in
theorem tb_263 : (.codeWith ⟨"TwinTunersLaw", "request", "(LTwinTuners;IIIII[J)I"⟩ method_3_code 8 (some .int) [(0, 16, 19, 13), (0, 16, 23, 15)] : Cond) ∈ tb_ := tb_w 263 rfl rfl
set_option maxRecDepth 100000 in
theorem tb_264 : (.classLink "TwinTunersLaw" 13 "java/lang/IllegalArgumentException" : Cond) ∈ tb_ := tb_w 264 rfl rfl
set_option maxRecDepth 100000 in
theorem tb_266 : (.methodLink "TwinTunersLaw" 7 ⟨"TwinTuners", "request", "(IIIII)I"⟩ : Cond) ∈ tb_ := tb_w 266 rfl rfl
set_option maxRecDepth 100000 in
theorem tb_267 : (.instanceMethod ⟨"TwinTuners", "request", "(IIIII)I"⟩ : Cond) ∈ tb_ := tb_w 267 rfl rfl
set_option maxRecDepth 100000 in
theorem tb_268 : (.selects "TwinTuners" ⟨"TwinTuners", "request", "(IIIII)I"⟩ ⟨"TwinTuners", "request", "(IIIII)I"⟩ : Cond) ∈ tb_ := tb_w 268 rfl rfl
set_option maxRecDepth 100000 in
theorem tb_450 : (.codeWith ⟨"TwinTunersLaw", "cancel", "(LTwinTuners;I)I"⟩ method_4_code 3 (some .int) [(0, 5, 8, 21), (0, 5, 11, 15)] : Cond) ∈ tb_ := tb_w 450 rfl rfl
set_option maxRecDepth 100000 in
theorem tb_451 : (.classLink "TwinTunersLaw" 21 "java/lang/IndexOutOfBoundsException" : Cond) ∈ tb_ := tb_w 451 rfl rfl
set_option maxRecDepth 100000 in
theorem tb_452 : (.methodLink "TwinTunersLaw" 17 ⟨"TwinTuners", "cancel", "(I)V"⟩ : Cond) ∈ tb_ := tb_w 452 rfl rfl
set_option maxRecDepth 100000 in
theorem tb_453 : (.instanceMethod ⟨"TwinTuners", "cancel", "(I)V"⟩ : Cond) ∈ tb_ := tb_w 453 rfl rfl
set_option maxRecDepth 100000 in
theorem tb_454 : (.selects "TwinTuners" ⟨"TwinTuners", "cancel", "(I)V"⟩ ⟨"TwinTuners", "cancel", "(I)V"⟩ : Cond) ∈ tb_ := tb_w 454 rfl rfl
set_option maxRecDepth 100000 in
theorem tb_483 : (.codeWith ⟨"TwinTunersLaw", "state", "(LTwinTuners;I[J)I"⟩ method_5_code 4 (some .int) [(0, 9, 12, 21)] : Cond) ∈ tb_ := tb_w 483 rfl rfl
set_option maxRecDepth 100000 in
theorem tb_484 : (.methodLink "TwinTunersLaw" 23 ⟨"TwinTuners", "state", "(I)I"⟩ : Cond) ∈ tb_ := tb_w 484 rfl rfl
set_option maxRecDepth 100000 in
theorem tb_485 : (.instanceMethod ⟨"TwinTuners", "state", "(I)I"⟩ : Cond) ∈ tb_ := tb_w 485 rfl rfl
set_option maxRecDepth 100000 in
theorem tb_486 : (.selects "TwinTuners" ⟨"TwinTuners", "state", "(I)I"⟩ ⟨"TwinTuners", "state", "(I)I"⟩ : Cond) ∈ tb_ := tb_w 486 rfl rfl
set_option maxRecDepth 100000 in
theorem tb_490 : (.codeWith ⟨"TwinTunersLaw", "planFrom", "(LTwinTuners;I[J)I"⟩ method_6_code 4 (some .int) [(0, 9, 12, 21)] : Cond) ∈ tb_ := tb_w 490 rfl rfl
set_option maxRecDepth 100000 in
theorem tb_491 : (.methodLink "TwinTunersLaw" 27 ⟨"TwinTuners", "planFrom", "(I)I"⟩ : Cond) ∈ tb_ := tb_w 491 rfl rfl
set_option maxRecDepth 100000 in
theorem tb_492 : (.instanceMethod ⟨"TwinTuners", "planFrom", "(I)I"⟩ : Cond) ∈ tb_ := tb_w 492 rfl rfl
set_option maxRecDepth 100000 in
theorem tb_493 : (.selects "TwinTuners" ⟨"TwinTuners", "planFrom", "(I)I"⟩ ⟨"TwinTuners", "planFrom", "(I)I"⟩ : Cond) ∈ tb_ := tb_w 493 rfl rfl
set_option maxRecDepth 100000 in
theorem tb_498 : (.codeWith ⟨"TwinTunersLaw", "planTo", "(LTwinTuners;I[J)I"⟩ method_7_code 4 (some .int) [(0, 9, 12, 21)] : Cond) ∈ tb_ := tb_w 498 rfl rfl
set_option maxRecDepth 100000 in
theorem tb_499 : (.methodLink "TwinTunersLaw" 30 ⟨"TwinTuners", "planTo", "(I)I"⟩ : Cond) ∈ tb_ := tb_w 499 rfl rfl
set_option maxRecDepth 100000 in
theorem tb_500 : (.instanceMethod ⟨"TwinTuners", "planTo", "(I)I"⟩ : Cond) ∈ tb_ := tb_w 500 rfl rfl
set_option maxRecDepth 100000 in
theorem tb_501 : (.selects "TwinTuners" ⟨"TwinTuners", "planTo", "(I)I"⟩ ⟨"TwinTuners", "planTo", "(I)I"⟩ : Cond) ∈ tb_ := tb_w 501 rfl rfl
set_option maxRecDepth 100000 in
theorem tb_505 : (.codeWith ⟨"TwinTunersLaw", "air", "(LTwinTuners;II)I"⟩ method_8_code 4 (some .int) [(0, 6, 9, 21)] : Cond) ∈ tb_ := tb_w 505 rfl rfl
set_option maxRecDepth 100000 in
theorem tb_506 : (.methodLink "TwinTunersLaw" 33 ⟨"TwinTuners", "air", "(II)V"⟩ : Cond) ∈ tb_ := tb_w 506 rfl rfl
set_option maxRecDepth 100000 in
theorem tb_507 : (.instanceMethod ⟨"TwinTuners", "air", "(II)V"⟩ : Cond) ∈ tb_ := tb_w 507 rfl rfl
set_option maxRecDepth 100000 in
theorem tb_508 : (.selects "TwinTuners" ⟨"TwinTuners", "air", "(II)V"⟩ ⟨"TwinTuners", "air", "(II)V"⟩ : Cond) ∈ tb_ := tb_w 508 rfl rfl
set_option maxRecDepth 100000 in
theorem tb_513 : (.codeWith ⟨"TwinTunersLaw", "ticks", "(LTwinTuners;I[J)I"⟩ method_9_code 4 (some .int) [(0, 9, 12, 13)] : Cond) ∈ tb_ := tb_w 513 rfl rfl
set_option maxRecDepth 100000 in
theorem tb_514 : (.methodLink "TwinTunersLaw" 37 ⟨"TwinTuners", "ticks", "(I)I"⟩ : Cond) ∈ tb_ := tb_w 514 rfl rfl
set_option maxRecDepth 100000 in
theorem tb_515 : (.instanceMethod ⟨"TwinTuners", "ticks", "(I)I"⟩ : Cond) ∈ tb_ := tb_w 515 rfl rfl
set_option maxRecDepth 100000 in
theorem tb_516 : (.selects "TwinTuners" ⟨"TwinTuners", "ticks", "(I)I"⟩ ⟨"TwinTuners", "ticks", "(I)I"⟩ : Cond) ∈ tb_ := tb_w 516 rfl rfl
set_option maxRecDepth 100000 in
theorem tb_521 : (.codeWith ⟨"TwinTunersLaw", "watch", "(LTwinTuners;I[J)I"⟩ method_10_code 4 (some .int) [(0, 9, 12, 21)] : Cond) ∈ tb_ := tb_w 521 rfl rfl
set_option maxRecDepth 100000 in
theorem tb_522 : (.methodLink "TwinTunersLaw" 40 ⟨"TwinTuners", "watch", "(I)I"⟩ : Cond) ∈ tb_ := tb_w 522 rfl rfl
set_option maxRecDepth 100000 in
theorem tb_523 : (.instanceMethod ⟨"TwinTuners", "watch", "(I)I"⟩ : Cond) ∈ tb_ := tb_w 523 rfl rfl
set_option maxRecDepth 100000 in
theorem tb_524 : (.selects "TwinTuners" ⟨"TwinTuners", "watch", "(I)I"⟩ ⟨"TwinTuners", "watch", "(I)I"⟩ : Cond) ∈ tb_ := tb_w 524 rfl rfl
set_option maxRecDepth 100000 in
theorem tb_528 : (.codeWith ⟨"TwinTunersLaw", "word", "(LTwinTuners;II[J)I"⟩ method_11_code 5 (some .int) [(0, 9, 12, 21)] : Cond) ∈ tb_ := tb_w 528 rfl rfl
set_option maxRecDepth 100000 in
theorem tb_529 : (.methodLink "TwinTunersLaw" 43 ⟨"TwinTuners", "word", "(II)J"⟩ : Cond) ∈ tb_ := tb_w 529 rfl rfl
set_option maxRecDepth 100000 in
theorem tb_530 : (.instanceMethod ⟨"TwinTuners", "word", "(II)J"⟩ : Cond) ∈ tb_ := tb_w 530 rfl rfl
set_option maxRecDepth 100000 in
theorem tb_531 : (.selects "TwinTuners" ⟨"TwinTuners", "word", "(II)J"⟩ ⟨"TwinTuners", "word", "(II)J"⟩ : Cond) ∈ tb_ := tb_w 531 rfl rfl
set_option maxRecDepth 100000 in
theorem tb_542 : (.codeWith ⟨"TwinTunersLaw", "recorded", "(LTwinTuners;I[J)I"⟩ method_12_code 4 (some .int) [(0, 9, 12, 21)] : Cond) ∈ tb_ := tb_w 542 rfl rfl
set_option maxRecDepth 100000 in
theorem tb_543 : (.methodLink "TwinTunersLaw" 47 ⟨"TwinTuners", "recorded", "(I)I"⟩ : Cond) ∈ tb_ := tb_w 543 rfl rfl
set_option maxRecDepth 100000 in
theorem tb_544 : (.instanceMethod ⟨"TwinTuners", "recorded", "(I)I"⟩ : Cond) ∈ tb_ := tb_w 544 rfl rfl
set_option maxRecDepth 100000 in
theorem tb_545 : (.selects "TwinTuners" ⟨"TwinTuners", "recorded", "(I)I"⟩ ⟨"TwinTuners", "recorded", "(I)I"⟩ : Cond) ∈ tb_ := tb_w 545 rfl rfl
set_option maxRecDepth 100000 in
theorem tb_554 : (.codeWith ⟨"TwinTunersLaw", "shortBy", "(LTwinTuners;I[J)I"⟩ method_13_code 4 (some .int) [(0, 9, 12, 21)] : Cond) ∈ tb_ := tb_w 554 rfl rfl
set_option maxRecDepth 100000 in
theorem tb_555 : (.methodLink "TwinTunersLaw" 50 ⟨"TwinTuners", "shortBy", "(I)I"⟩ : Cond) ∈ tb_ := tb_w 555 rfl rfl
set_option maxRecDepth 100000 in
theorem tb_556 : (.instanceMethod ⟨"TwinTuners", "shortBy", "(I)I"⟩ : Cond) ∈ tb_ := tb_w 556 rfl rfl
set_option maxRecDepth 100000 in
theorem tb_557 : (.selects "TwinTuners" ⟨"TwinTuners", "shortBy", "(I)I"⟩ ⟨"TwinTuners", "shortBy", "(I)I"⟩ : Cond) ∈ tb_ := tb_w 557 rfl rfl
set_option maxRecDepth 100000 in
theorem tb_561 : (.codeWith ⟨"TwinTunersLaw", "protect", "(LTwinTuners;IZ)I"⟩ method_14_code 4 (some .int) [(0, 6, 9, 21), (0, 6, 12, 15)] : Cond) ∈ tb_ := tb_w 561 rfl rfl
set_option maxRecDepth 100000 in
theorem tb_562 : (.methodLink "TwinTunersLaw" 53 ⟨"TwinTuners", "protect", "(IZ)V"⟩ : Cond) ∈ tb_ := tb_w 562 rfl rfl
set_option maxRecDepth 100000 in
theorem tb_563 : (.instanceMethod ⟨"TwinTuners", "protect", "(IZ)V"⟩ : Cond) ∈ tb_ := tb_w 563 rfl rfl
set_option maxRecDepth 100000 in
theorem tb_564 : (.selects "TwinTuners" ⟨"TwinTuners", "protect", "(IZ)V"⟩ ⟨"TwinTuners", "protect", "(IZ)V"⟩ : Cond) ∈ tb_ := tb_w 564 rfl rfl
set_option maxRecDepth 100000 in
theorem tb_577 : (.codeWith ⟨"TwinTunersLaw", "seen", "(LTwinTuners;IZ)I"⟩ method_15_code 4 (some .int) [(0, 6, 9, 21), (0, 6, 12, 15)] : Cond) ∈ tb_ := tb_w 577 rfl rfl
set_option maxRecDepth 100000 in
theorem tb_578 : (.methodLink "TwinTunersLaw" 57 ⟨"TwinTuners", "seen", "(IZ)V"⟩ : Cond) ∈ tb_ := tb_w 578 rfl rfl
set_option maxRecDepth 100000 in
theorem tb_579 : (.instanceMethod ⟨"TwinTuners", "seen", "(IZ)V"⟩ : Cond) ∈ tb_ := tb_w 579 rfl rfl
set_option maxRecDepth 100000 in
theorem tb_580 : (.selects "TwinTuners" ⟨"TwinTuners", "seen", "(IZ)V"⟩ ⟨"TwinTuners", "seen", "(IZ)V"⟩ : Cond) ∈ tb_ := tb_w 580 rfl rfl
set_option maxRecDepth 100000 in
theorem tb_584 : (.codeWith ⟨"TwinTunersLaw", "erase", "(LTwinTuners;I[J)I"⟩ method_16_code 4 (some .int) [(0, 9, 12, 21), (0, 9, 15, 15)] : Cond) ∈ tb_ := tb_w 584 rfl rfl
set_option maxRecDepth 100000 in
theorem tb_585 : (.methodLink "TwinTunersLaw" 60 ⟨"TwinTuners", "erase", "(I)I"⟩ : Cond) ∈ tb_ := tb_w 585 rfl rfl
set_option maxRecDepth 100000 in
theorem tb_586 : (.instanceMethod ⟨"TwinTuners", "erase", "(I)I"⟩ : Cond) ∈ tb_ := tb_w 586 rfl rfl
set_option maxRecDepth 100000 in
theorem tb_587 : (.selects "TwinTuners" ⟨"TwinTuners", "erase", "(I)I"⟩ ⟨"TwinTuners", "erase", "(I)I"⟩ : Cond) ∈ tb_ := tb_w 587 rfl rfl
set_option maxRecDepth 100000 in
theorem tb_592 : (.codeWith ⟨"TwinTunersLaw", "bookmark", "(LTwinTuners;II[J)I"⟩ method_17_code 5 (some .int) [(0, 10, 13, 21), (0, 10, 17, 13), (0, 10, 21, 15)] : Cond) ∈ tb_ := tb_w 592 rfl rfl
set_option maxRecDepth 100000 in
theorem tb_593 : (.methodLink "TwinTunersLaw" 63 ⟨"TwinTuners", "bookmark", "(II)I"⟩ : Cond) ∈ tb_ := tb_w 593 rfl rfl
set_option maxRecDepth 100000 in
theorem tb_594 : (.instanceMethod ⟨"TwinTuners", "bookmark", "(II)I"⟩ : Cond) ∈ tb_ := tb_w 594 rfl rfl
set_option maxRecDepth 100000 in
theorem tb_595 : (.selects "TwinTuners" ⟨"TwinTuners", "bookmark", "(II)I"⟩ ⟨"TwinTuners", "bookmark", "(II)I"⟩ : Cond) ∈ tb_ := tb_w 595 rfl rfl
set_option maxRecDepth 100000 in
theorem tb_605 : (.codeWith ⟨"TwinTunersLaw", "bookmarkAt", "(LTwinTuners;II[J)I"⟩ method_18_code 5 (some .int) [(0, 10, 13, 21)] : Cond) ∈ tb_ := tb_w 605 rfl rfl
set_option maxRecDepth 100000 in
theorem tb_606 : (.methodLink "TwinTunersLaw" 67 ⟨"TwinTuners", "bookmarkAt", "(II)I"⟩ : Cond) ∈ tb_ := tb_w 606 rfl rfl
set_option maxRecDepth 100000 in
theorem tb_607 : (.instanceMethod ⟨"TwinTuners", "bookmarkAt", "(II)I"⟩ : Cond) ∈ tb_ := tb_w 607 rfl rfl
set_option maxRecDepth 100000 in
theorem tb_608 : (.selects "TwinTuners" ⟨"TwinTuners", "bookmarkAt", "(II)I"⟩ ⟨"TwinTuners", "bookmarkAt", "(II)I"⟩ : Cond) ∈ tb_ := tb_w 608 rfl rfl
set_option maxRecDepth 100000 in
theorem tb_612 : (.codeWith ⟨"TwinTunersLaw", "cut", "(LTwinTuners;I[J)I"⟩ method_19_code 4 (some .int) [(0, 9, 12, 13)] : Cond) ∈ tb_ := tb_w 612 rfl rfl
set_option maxRecDepth 100000 in
theorem tb_613 : (.methodLink "TwinTunersLaw" 70 ⟨"TwinTuners", "cut", "(I)I"⟩ : Cond) ∈ tb_ := tb_w 613 rfl rfl
set_option maxRecDepth 100000 in
theorem tb_614 : (.instanceMethod ⟨"TwinTuners", "cut", "(I)I"⟩ : Cond) ∈ tb_ := tb_w 614 rfl rfl
set_option maxRecDepth 100000 in
theorem tb_615 : (.selects "TwinTuners" ⟨"TwinTuners", "cut", "(I)I"⟩ ⟨"TwinTuners", "cut", "(I)I"⟩ : Cond) ∈ tb_ := tb_w 615 rfl rfl
theorem d_LW_air_0 : decode c_LW_air 0 = .ok (.aload_n 0, 1) := by decide +kernel
theorem d_LW_air_1 : decode c_LW_air 1 = .ok (.iload_n 1, 1) := by decide +kernel
theorem d_LW_air_2 : decode c_LW_air 2 = .ok (.iload_n 2, 1) := by decide +kernel
theorem d_LW_air_3 : decode c_LW_air 3 = .ok (.invokevirtual 33, 3) := by decide +kernel
theorem d_LW_air_6 : decode c_LW_air 6 = .ok (.goto 6, 3) := by decide +kernel
theorem d_LW_air_9 : decode c_LW_air 9 = .ok (.astore_n 3, 1) := by decide +kernel
theorem d_LW_air_10 : decode c_LW_air 10 = .ok (.iconst 1, 1) := by decide +kernel
theorem d_LW_air_11 : decode c_LW_air 11 = .ok (.ireturn, 1) := by decide +kernel
theorem d_LW_air_12 : decode c_LW_air 12 = .ok (.iconst 0, 1) := by decide +kernel
theorem d_LW_air_13 : decode c_LW_air 13 = .ok (.ireturn, 1) := by decide +kernel
theorem d_LW_bookmark_0 : decode c_LW_bookmark 0 = .ok (.aload_n 3, 1) := by decide +kernel
theorem d_LW_bookmark_1 : decode c_LW_bookmark 1 = .ok (.iconst 0, 1) := by decide +kernel
theorem d_LW_bookmark_2 : decode c_LW_bookmark 2 = .ok (.aload_n 0, 1) := by decide +kernel
theorem d_LW_bookmark_3 : decode c_LW_bookmark 3 = .ok (.iload_n 1, 1) := by decide +kernel
theorem d_LW_bookmark_4 : decode c_LW_bookmark 4 = .ok (.iload_n 2, 1) := by decide +kernel
theorem d_LW_bookmark_5 : decode c_LW_bookmark 5 = .ok (.invokevirtual 63, 3) := by decide +kernel
theorem d_LW_bookmark_13 : decode c_LW_bookmark 13 = .ok (.astore 4, 2) := by decide +kernel
theorem d_LW_bookmark_15 : decode c_LW_bookmark 15 = .ok (.iconst 1, 1) := by decide +kernel
theorem d_LW_bookmark_16 : decode c_LW_bookmark 16 = .ok (.ireturn, 1) := by decide +kernel
theorem d_LW_bookmarkAt_0 : decode c_LW_bookmarkAt 0 = .ok (.aload_n 3, 1) := by decide +kernel
theorem d_LW_bookmarkAt_1 : decode c_LW_bookmarkAt 1 = .ok (.iconst 0, 1) := by decide +kernel
theorem d_LW_bookmarkAt_2 : decode c_LW_bookmarkAt 2 = .ok (.aload_n 0, 1) := by decide +kernel
theorem d_LW_bookmarkAt_3 : decode c_LW_bookmarkAt 3 = .ok (.iload_n 1, 1) := by decide +kernel
theorem d_LW_bookmarkAt_4 : decode c_LW_bookmarkAt 4 = .ok (.iload_n 2, 1) := by decide +kernel
theorem d_LW_bookmarkAt_5 : decode c_LW_bookmarkAt 5 = .ok (.invokevirtual 67, 3) := by decide +kernel
theorem d_LW_bookmarkAt_13 : decode c_LW_bookmarkAt 13 = .ok (.astore 4, 2) := by decide +kernel
theorem d_LW_bookmarkAt_15 : decode c_LW_bookmarkAt 15 = .ok (.iconst 1, 1) := by decide +kernel
theorem d_LW_bookmarkAt_16 : decode c_LW_bookmarkAt 16 = .ok (.ireturn, 1) := by decide +kernel
theorem d_LW_cancel_0 : decode c_LW_cancel 0 = .ok (.aload_n 0, 1) := by decide +kernel
theorem d_LW_cancel_1 : decode c_LW_cancel 1 = .ok (.iload_n 1, 1) := by decide +kernel
theorem d_LW_cancel_2 : decode c_LW_cancel 2 = .ok (.invokevirtual 17, 3) := by decide +kernel
theorem d_LW_cancel_8 : decode c_LW_cancel 8 = .ok (.astore_n 2, 1) := by decide +kernel
theorem d_LW_cancel_9 : decode c_LW_cancel 9 = .ok (.iconst 1, 1) := by decide +kernel
theorem d_LW_cancel_10 : decode c_LW_cancel 10 = .ok (.ireturn, 1) := by decide +kernel
theorem d_LW_cut_0 : decode c_LW_cut 0 = .ok (.aload_n 2, 1) := by decide +kernel
theorem d_LW_cut_1 : decode c_LW_cut 1 = .ok (.iconst 0, 1) := by decide +kernel
theorem d_LW_cut_2 : decode c_LW_cut 2 = .ok (.aload_n 0, 1) := by decide +kernel
theorem d_LW_cut_3 : decode c_LW_cut 3 = .ok (.iload_n 1, 1) := by decide +kernel
theorem d_LW_cut_4 : decode c_LW_cut 4 = .ok (.invokevirtual 70, 3) := by decide +kernel
theorem d_LW_cut_7 : decode c_LW_cut 7 = .ok (.i2l, 1) := by decide +kernel
theorem d_LW_cut_8 : decode c_LW_cut 8 = .ok (.lastore, 1) := by decide +kernel
theorem d_LW_cut_9 : decode c_LW_cut 9 = .ok (.goto 6, 3) := by decide +kernel
theorem d_LW_cut_12 : decode c_LW_cut 12 = .ok (.astore_n 3, 1) := by decide +kernel
theorem d_LW_cut_13 : decode c_LW_cut 13 = .ok (.iconst 1, 1) := by decide +kernel
theorem d_LW_cut_14 : decode c_LW_cut 14 = .ok (.ireturn, 1) := by decide +kernel
theorem d_LW_cut_15 : decode c_LW_cut 15 = .ok (.iconst 0, 1) := by decide +kernel
theorem d_LW_cut_16 : decode c_LW_cut 16 = .ok (.ireturn, 1) := by decide +kernel
theorem d_LW_erase_0 : decode c_LW_erase 0 = .ok (.aload_n 2, 1) := by decide +kernel
theorem d_LW_erase_1 : decode c_LW_erase 1 = .ok (.iconst 0, 1) := by decide +kernel
theorem d_LW_erase_2 : decode c_LW_erase 2 = .ok (.aload_n 0, 1) := by decide +kernel
theorem d_LW_erase_3 : decode c_LW_erase 3 = .ok (.iload_n 1, 1) := by decide +kernel
theorem d_LW_erase_4 : decode c_LW_erase 4 = .ok (.invokevirtual 60, 3) := by decide +kernel
theorem d_LW_erase_12 : decode c_LW_erase 12 = .ok (.astore_n 3, 1) := by decide +kernel
theorem d_LW_erase_13 : decode c_LW_erase 13 = .ok (.iconst 1, 1) := by decide +kernel
theorem d_LW_erase_14 : decode c_LW_erase 14 = .ok (.ireturn, 1) := by decide +kernel
theorem d_LW_planFrom_0 : decode c_LW_planFrom 0 = .ok (.aload_n 2, 1) := by decide +kernel
theorem d_LW_planFrom_1 : decode c_LW_planFrom 1 = .ok (.iconst 0, 1) := by decide +kernel
theorem d_LW_planFrom_2 : decode c_LW_planFrom 2 = .ok (.aload_n 0, 1) := by decide +kernel
theorem d_LW_planFrom_3 : decode c_LW_planFrom 3 = .ok (.iload_n 1, 1) := by decide +kernel
theorem d_LW_planFrom_4 : decode c_LW_planFrom 4 = .ok (.invokevirtual 27, 3) := by decide +kernel
theorem d_LW_planFrom_12 : decode c_LW_planFrom 12 = .ok (.astore_n 3, 1) := by decide +kernel
theorem d_LW_planFrom_13 : decode c_LW_planFrom 13 = .ok (.iconst 1, 1) := by decide +kernel
theorem d_LW_planFrom_14 : decode c_LW_planFrom 14 = .ok (.ireturn, 1) := by decide +kernel
theorem d_LW_planTo_0 : decode c_LW_planTo 0 = .ok (.aload_n 2, 1) := by decide +kernel
theorem d_LW_planTo_1 : decode c_LW_planTo 1 = .ok (.iconst 0, 1) := by decide +kernel
theorem d_LW_planTo_2 : decode c_LW_planTo 2 = .ok (.aload_n 0, 1) := by decide +kernel
theorem d_LW_planTo_3 : decode c_LW_planTo 3 = .ok (.iload_n 1, 1) := by decide +kernel
theorem d_LW_planTo_4 : decode c_LW_planTo 4 = .ok (.invokevirtual 30, 3) := by decide +kernel
theorem d_LW_planTo_12 : decode c_LW_planTo 12 = .ok (.astore_n 3, 1) := by decide +kernel
theorem d_LW_planTo_13 : decode c_LW_planTo 13 = .ok (.iconst 1, 1) := by decide +kernel
theorem d_LW_planTo_14 : decode c_LW_planTo 14 = .ok (.ireturn, 1) := by decide +kernel
theorem d_LW_protect_0 : decode c_LW_protect 0 = .ok (.aload_n 0, 1) := by decide +kernel
theorem d_LW_protect_1 : decode c_LW_protect 1 = .ok (.iload_n 1, 1) := by decide +kernel
theorem d_LW_protect_2 : decode c_LW_protect 2 = .ok (.iload_n 2, 1) := by decide +kernel
theorem d_LW_protect_3 : decode c_LW_protect 3 = .ok (.invokevirtual 53, 3) := by decide +kernel
theorem d_LW_protect_9 : decode c_LW_protect 9 = .ok (.astore_n 3, 1) := by decide +kernel
theorem d_LW_protect_10 : decode c_LW_protect 10 = .ok (.iconst 1, 1) := by decide +kernel
theorem d_LW_protect_11 : decode c_LW_protect 11 = .ok (.ireturn, 1) := by decide +kernel
theorem d_LW_recorded_0 : decode c_LW_recorded 0 = .ok (.aload_n 2, 1) := by decide +kernel
theorem d_LW_recorded_1 : decode c_LW_recorded 1 = .ok (.iconst 0, 1) := by decide +kernel
theorem d_LW_recorded_2 : decode c_LW_recorded 2 = .ok (.aload_n 0, 1) := by decide +kernel
theorem d_LW_recorded_3 : decode c_LW_recorded 3 = .ok (.iload_n 1, 1) := by decide +kernel
theorem d_LW_recorded_4 : decode c_LW_recorded 4 = .ok (.invokevirtual 47, 3) := by decide +kernel
theorem d_LW_recorded_12 : decode c_LW_recorded 12 = .ok (.astore_n 3, 1) := by decide +kernel
theorem d_LW_recorded_13 : decode c_LW_recorded 13 = .ok (.iconst 1, 1) := by decide +kernel
theorem d_LW_recorded_14 : decode c_LW_recorded 14 = .ok (.ireturn, 1) := by decide +kernel
theorem d_LW_request_0 : decode c_LW_request 0 = .ok (.aload 6, 2) := by decide +kernel
theorem d_LW_request_2 : decode c_LW_request 2 = .ok (.iconst 0, 1) := by decide +kernel
theorem d_LW_request_3 : decode c_LW_request 3 = .ok (.aload_n 0, 1) := by decide +kernel
theorem d_LW_request_4 : decode c_LW_request 4 = .ok (.iload_n 1, 1) := by decide +kernel
theorem d_LW_request_5 : decode c_LW_request 5 = .ok (.iload_n 2, 1) := by decide +kernel
theorem d_LW_request_6 : decode c_LW_request 6 = .ok (.iload_n 3, 1) := by decide +kernel
theorem d_LW_request_7 : decode c_LW_request 7 = .ok (.iload 4, 2) := by decide +kernel
theorem d_LW_request_9 : decode c_LW_request 9 = .ok (.iload 5, 2) := by decide +kernel
theorem d_LW_request_11 : decode c_LW_request 11 = .ok (.invokevirtual 7, 3) := by decide +kernel
theorem d_LW_request_14 : decode c_LW_request 14 = .ok (.i2l, 1) := by decide +kernel
theorem d_LW_request_15 : decode c_LW_request 15 = .ok (.lastore, 1) := by decide +kernel
theorem d_LW_request_16 : decode c_LW_request 16 = .ok (.goto 11, 3) := by decide +kernel
theorem d_LW_request_19 : decode c_LW_request 19 = .ok (.astore 7, 2) := by decide +kernel
theorem d_LW_request_21 : decode c_LW_request 21 = .ok (.iconst 1, 1) := by decide +kernel
theorem d_LW_request_22 : decode c_LW_request 22 = .ok (.ireturn, 1) := by decide +kernel
theorem d_LW_request_27 : decode c_LW_request 27 = .ok (.iconst 0, 1) := by decide +kernel
theorem d_LW_request_28 : decode c_LW_request 28 = .ok (.ireturn, 1) := by decide +kernel
theorem d_LW_seen_0 : decode c_LW_seen 0 = .ok (.aload_n 0, 1) := by decide +kernel
theorem d_LW_seen_1 : decode c_LW_seen 1 = .ok (.iload_n 1, 1) := by decide +kernel
theorem d_LW_seen_2 : decode c_LW_seen 2 = .ok (.iload_n 2, 1) := by decide +kernel
theorem d_LW_seen_3 : decode c_LW_seen 3 = .ok (.invokevirtual 57, 3) := by decide +kernel
theorem d_LW_seen_9 : decode c_LW_seen 9 = .ok (.astore_n 3, 1) := by decide +kernel
theorem d_LW_seen_10 : decode c_LW_seen 10 = .ok (.iconst 1, 1) := by decide +kernel
theorem d_LW_seen_11 : decode c_LW_seen 11 = .ok (.ireturn, 1) := by decide +kernel
theorem d_LW_shortBy_0 : decode c_LW_shortBy 0 = .ok (.aload_n 2, 1) := by decide +kernel
theorem d_LW_shortBy_1 : decode c_LW_shortBy 1 = .ok (.iconst 0, 1) := by decide +kernel
theorem d_LW_shortBy_2 : decode c_LW_shortBy 2 = .ok (.aload_n 0, 1) := by decide +kernel
theorem d_LW_shortBy_3 : decode c_LW_shortBy 3 = .ok (.iload_n 1, 1) := by decide +kernel
theorem d_LW_shortBy_4 : decode c_LW_shortBy 4 = .ok (.invokevirtual 50, 3) := by decide +kernel
theorem d_LW_shortBy_12 : decode c_LW_shortBy 12 = .ok (.astore_n 3, 1) := by decide +kernel
theorem d_LW_shortBy_13 : decode c_LW_shortBy 13 = .ok (.iconst 1, 1) := by decide +kernel
theorem d_LW_shortBy_14 : decode c_LW_shortBy 14 = .ok (.ireturn, 1) := by decide +kernel
theorem d_LW_state_0 : decode c_LW_state 0 = .ok (.aload_n 2, 1) := by decide +kernel
theorem d_LW_state_1 : decode c_LW_state 1 = .ok (.iconst 0, 1) := by decide +kernel
theorem d_LW_state_2 : decode c_LW_state 2 = .ok (.aload_n 0, 1) := by decide +kernel
theorem d_LW_state_3 : decode c_LW_state 3 = .ok (.iload_n 1, 1) := by decide +kernel
theorem d_LW_state_4 : decode c_LW_state 4 = .ok (.invokevirtual 23, 3) := by decide +kernel
theorem d_LW_state_12 : decode c_LW_state 12 = .ok (.astore_n 3, 1) := by decide +kernel
theorem d_LW_state_13 : decode c_LW_state 13 = .ok (.iconst 1, 1) := by decide +kernel
theorem d_LW_state_14 : decode c_LW_state 14 = .ok (.ireturn, 1) := by decide +kernel
theorem d_LW_ticks_0 : decode c_LW_ticks 0 = .ok (.aload_n 2, 1) := by decide +kernel
theorem d_LW_ticks_1 : decode c_LW_ticks 1 = .ok (.iconst 0, 1) := by decide +kernel
theorem d_LW_ticks_2 : decode c_LW_ticks 2 = .ok (.aload_n 0, 1) := by decide +kernel
theorem d_LW_ticks_3 : decode c_LW_ticks 3 = .ok (.iload_n 1, 1) := by decide +kernel
theorem d_LW_ticks_4 : decode c_LW_ticks 4 = .ok (.invokevirtual 37, 3) := by decide +kernel
theorem d_LW_ticks_7 : decode c_LW_ticks 7 = .ok (.i2l, 1) := by decide +kernel
theorem d_LW_ticks_8 : decode c_LW_ticks 8 = .ok (.lastore, 1) := by decide +kernel
theorem d_LW_ticks_9 : decode c_LW_ticks 9 = .ok (.goto 6, 3) := by decide +kernel
theorem d_LW_ticks_12 : decode c_LW_ticks 12 = .ok (.astore_n 3, 1) := by decide +kernel
theorem d_LW_ticks_13 : decode c_LW_ticks 13 = .ok (.iconst 1, 1) := by decide +kernel
theorem d_LW_ticks_14 : decode c_LW_ticks 14 = .ok (.ireturn, 1) := by decide +kernel
theorem d_LW_ticks_15 : decode c_LW_ticks 15 = .ok (.iconst 0, 1) := by decide +kernel
theorem d_LW_ticks_16 : decode c_LW_ticks 16 = .ok (.ireturn, 1) := by decide +kernel
theorem d_LW_watch_0 : decode c_LW_watch 0 = .ok (.aload_n 2, 1) := by decide +kernel
theorem d_LW_watch_1 : decode c_LW_watch 1 = .ok (.iconst 0, 1) := by decide +kernel
theorem d_LW_watch_2 : decode c_LW_watch 2 = .ok (.aload_n 0, 1) := by decide +kernel
theorem d_LW_watch_3 : decode c_LW_watch 3 = .ok (.iload_n 1, 1) := by decide +kernel
theorem d_LW_watch_4 : decode c_LW_watch 4 = .ok (.invokevirtual 40, 3) := by decide +kernel
theorem d_LW_watch_7 : decode c_LW_watch 7 = .ok (.i2l, 1) := by decide +kernel
theorem d_LW_watch_8 : decode c_LW_watch 8 = .ok (.lastore, 1) := by decide +kernel
theorem d_LW_watch_9 : decode c_LW_watch 9 = .ok (.goto 6, 3) := by decide +kernel
theorem d_LW_watch_12 : decode c_LW_watch 12 = .ok (.astore_n 3, 1) := by decide +kernel
theorem d_LW_watch_13 : decode c_LW_watch 13 = .ok (.iconst 1, 1) := by decide +kernel
theorem d_LW_watch_14 : decode c_LW_watch 14 = .ok (.ireturn, 1) := by decide +kernel
theorem d_LW_watch_15 : decode c_LW_watch 15 = .ok (.iconst 0, 1) := by decide +kernel
theorem d_LW_watch_16 : decode c_LW_watch 16 = .ok (.ireturn, 1) := by decide +kernel
theorem d_LW_word_0 : decode c_LW_word 0 = .ok (.aload_n 3, 1) := by decide +kernel
theorem d_LW_word_1 : decode c_LW_word 1 = .ok (.iconst 0, 1) := by decide +kernel
theorem d_LW_word_2 : decode c_LW_word 2 = .ok (.aload_n 0, 1) := by decide +kernel
theorem d_LW_word_3 : decode c_LW_word 3 = .ok (.iload_n 1, 1) := by decide +kernel
theorem d_LW_word_4 : decode c_LW_word 4 = .ok (.iload_n 2, 1) := by decide +kernel
theorem d_LW_word_5 : decode c_LW_word 5 = .ok (.invokevirtual 43, 3) := by decide +kernel
theorem d_LW_word_12 : decode c_LW_word 12 = .ok (.astore 4, 2) := by decide +kernel
theorem d_LW_word_14 : decode c_LW_word 14 = .ok (.iconst 1, 1) := by decide +kernel
theorem d_LW_word_15 : decode c_LW_word 15 = .ok (.ireturn, 1) := by decide +kernel
set_option maxHeartbeats 4000000 in
set_option maxRecDepth 100000 in
theorem c_LW_cancel_bad (l : Launch) (dC : Nat → ClassId) (dI : Nat → Nat → Nat) (sz Bd : Nat) (hl9 : l.stackTraces = false) (h0 rq oa pl dk rw : Nat) (ou : Nat) (x : Int32) : Met l y_LW_cancel w_LW_cancel ({ frames := 8, cells := 1, slots := 6, locals := 133 }) (frP (dC, dI) [(h0, .inr (0, [.ref rq, .ref oa, .ref pl, .ref dk, .ref rw, .int 0, .int 0, .int (-1)]))] [] sz Bd [.ref h0, .int x]) (frQ (some (.int 1)) (fun t => va_P (dC, dI) cls_ [(h0, .inr (0, [.ref rq, .ref oa, .ref pl, .ref dk, .ref rw, .int 0, .int 0, .int (-1)]))] t.heap ∧ va_K (dC, dI) cls_ [] t ∧ va_D (va_A [(h0, .inr (0, [.ref rq, .ref oa, .ref pl, .ref dk, .ref rw, .int 0, .int 0, .int (-1)]))] sz) [(h0, .inr (0, [.ref rq, .ref oa, .ref pl, .ref dk, .ref rw, .int 0, .int 0, .int (-1)]))]) (va_A [(h0, .inr (0, [.ref rq, .ref oa, .ref pl, .ref dk, .ref rw, .int 0, .int 0, .int (-1)]))] sz)) 1 6 (va_A [(h0, .inr (0, [.ref rq, .ref oa, .ref pl, .ref dk, .ref rw, .int 0, .int 0, .int (-1)]))] sz) := by
  refine va_MetW (cc := c_LW_cancel) (maxL := 3) (ret := (some .int)) (hh := [(0, 5, 8, 21), (0, 5, 11, 15)]) (by decide) rfl ?_
  intro p e s m args below meth c s₁ B hml hv
  obtain ⟨rfl, ⟨hsz, hBs⟩, hP, hK, hD0, hV⟩ := hv
  have hx := B.exec
  have hb := B.bytes
  have hr := B.returns
  have ht : ∀ w ∈ tb_, w.before _ s = true := fun w h => atoms_spec (ws := w_LW_cancel) B.pre w (List.mem_cons_of_mem _ h)
  have hown : s.vm.findClass R_LW = some m.cls := findClass_of_methodNamed B.named
  have hlocks := B.notSynchronized
  subst hsz
  have hD := hD0.self (sz := s.heap.size)
  have hAB : ∀ q, va_A [(h0, .inr (0, [.ref rq, .ref oa, .ref pl, .ref dk, .ref rw, .int 0, .int 0, .int (-1)]))] s.heap.size q → Bd ≤ q := fr_AB hD0 hBs
  generalize hAe : va_A [(h0, .inr (0, [.ref rq, .ref oa, .ref pl, .ref dk, .ref rw, .int 0, .int 0, .int (-1)]))] s.heap.size = A at hD hAB ⊢
  have hA : ∀ q : Nat, s.heap.size ≤ q → A q := fun q h => by rw [← hAe]; exact Or.inr h
  have hS : va_S A s.heap s.heap [] := va_S.rf
  have hAO := hV.2.2.2.1
  have hN_PL := hV.2.2.1.1
  have hN_RW := hV.2.2.1.2
  have hP : va_P (dC, dI) cls_ [(h0, .inr (0, [.ref rq, .ref oa, .ref pl, .ref dk, .ref rw, .int 0, .int 0, .int (-1)]))] s.heap := hP
  have hl := lv_entry ([.ref h0, .int x]) (n := 3) (Nat.le_of_ble_eq_true rfl)
  rw [lg_entry_eq]
  generalize (lg_sl ([.ref h0, .int x]) ++ List.replicate (3 - (lg_sl ([.ref h0, .int x])).length) Slot.unset).toArray = ls at hl ⊢
  have hl : lv_has ls 3 [(0, .ref h0), (1, .int x)] := hl
  refine lv_aload_n hx hb d_LW_cancel_0 rfl (lv_at hl 0 rfl) ?_
  refine lv_iload_n hx hb d_LW_cancel_1 rfl (lv_at hl 1 rfl) ?_
  have hPc := hP.sub (ws' := [(h0, .inr (0, [.ref rq, .ref oa, .ref pl, .ref dk, .ref rw, .int 0, .int 0, .int (-1)]))]) [0] rfl
  have hKc := hK.sub (tys' := []) [] rfl
  have hDc := hD.sub (ws' := [(h0, .inr (0, [.ref rq, .ref oa, .ref pl, .ref dk, .ref rw, .int 0, .int 0, .int (-1)]))]) [0] (by decide) rfl
  refine tw_runV (C := R_TT) (As := [.int x]) (rest := []) ⟨hx, hb, hml, hown, ht⟩ (c_TT_cancel_th l dC dI s.heap.size Bd hl9 h0 rq oa pl dk rw x) (cwV 1 ht (gV tb_452 tb_453 tb_454 tb_1 tb_455) rfl rfl rfl (by decide +kernel) ⟨Nat.le_of_ble_eq_true rfl, Nat.le_of_ble_eq_true rfl⟩) ⟨frP_blind, va_recv (q := (R_TT, F_TT, 8)) hK hP rfl (show ([(h0, .inr (0, [.ref rq, .ref oa, .ref pl, .ref dk, .ref rw, .int 0, .int 0, .int (-1)]))] : va_W)[0]? = some (h0, .inr (0, [.ref rq, .ref oa, .ref pl, .ref dk, .ref rw, .int 0, .int 0, .int (-1)])) from rfl), fr_pre hPc hKc hDc hAB hBs hS hV⟩ rfl hl.1 rfl (Nat.le_of_ble_eq_true rfl) d_LW_cancel_2 ⟨Nat.le_of_ble_eq_true rfl, Nat.le_of_ble_eq_true rfl⟩ (fun xa cellx H1 hx1 hx2 hx3 hx4 hx5 hx6 => ?_)
  refine tw_catch hown ⟨0, 5, 8, 21⟩ [⟨0, 5, 11, 15⟩] (tw_table B (atoms_spec (ws := w_LW_cancel) B.pre _ List.mem_cons_self)) (by decide) (by decide) (ht _ tb_451) (va_Nw.use rfl hV.2.1.2) hx2 hx3 hx4 ?_
  have hP : va_P (dC, dI) cls_ [(h0, .inr (0, [.ref rq, .ref oa, .ref pl, .ref dk, .ref rw, .int 0, .int 0, .int (-1)]))] H1 := hP.kept (fun k q hq => hx6 q.1 ((hP k q hq).lt))
  have hS : va_S A s.heap H1 _ := ⟨Nat.le_trans hS.1 hx5, fun q h1 h2 => (hx6 q (Nat.lt_of_lt_of_le h1 hS.1)).trans (hS.2.1 q h1 h2), hS.2.2⟩
  generalize H1 = H at hP hS ⊢
  refine W.cs (cells' := 1) (slots' := 6) rfl rfl ?_
  refine lv_astore_n hx hb d_LW_cancel_8 rfl hl (by decide) rfl (fun ls hl => ?_)
  have hl : lv_has ls 3 [(2, .ref xa), (0, .ref h0), (1, .int x)] := hl
  refine lv_iconst (v := 1) hx hb d_LW_cancel_9 (by decide) ?_
  have hP9 := hP.sub (ws' := [(h0, .inr (0, [.ref rq, .ref oa, .ref pl, .ref dk, .ref rw, .int 0, .int 0, .int (-1)]))]) [0] rfl
  have hD9 := hD.sub (ws' := [(h0, .inr (0, [.ref rq, .ref oa, .ref pl, .ref dk, .ref rw, .int 0, .int 0, .int (-1)]))]) [0] (by decide) rfl
  have hK9 := hK.sub (tys' := []) [] rfl
  exact W.iret (v := 1) hx hb hr (fun t ht9 hW => ⟨rfl, ⟨by rw [ht9]; exact hP9, va_K.moved hW.alike hK9, hD9⟩, hS.F ht9⟩) hS.2.2 d_LW_cancel_10
set_option maxHeartbeats 4000000 in
set_option maxRecDepth 100000 in
theorem c_LW_state_bad (l : Launch) (dC : Nat → ClassId) (dI : Nat → Nat → Nat) (sz Bd : Nat) (hl9 : l.stackTraces = false) (h0 rq oa pl dk rw : Nat) (ou : Nat) (x : Int32) : Met l y_LW_state w_LW_state ({ frames := 8, cells := 1, slots := 6, locals := 132 }) (frP (dC, dI) [(h0, .inr (0, [.ref rq, .ref oa, .ref pl, .ref dk, .ref rw, .int 0, .int 0, .int (-1)]))] [] sz Bd [.ref h0, .int x, .ref ou]) (frQ (some (.int 1)) (fun t => va_P (dC, dI) cls_ [(h0, .inr (0, [.ref rq, .ref oa, .ref pl, .ref dk, .ref rw, .int 0, .int 0, .int (-1)]))] t.heap ∧ va_K (dC, dI) cls_ [] t ∧ va_D (va_A [(h0, .inr (0, [.ref rq, .ref oa, .ref pl, .ref dk, .ref rw, .int 0, .int 0, .int (-1)]))] sz) [(h0, .inr (0, [.ref rq, .ref oa, .ref pl, .ref dk, .ref rw, .int 0, .int 0, .int (-1)]))]) (va_A [(h0, .inr (0, [.ref rq, .ref oa, .ref pl, .ref dk, .ref rw, .int 0, .int 0, .int (-1)]))] sz)) 1 6 (va_A [(h0, .inr (0, [.ref rq, .ref oa, .ref pl, .ref dk, .ref rw, .int 0, .int 0, .int (-1)]))] sz) := by
  refine va_MetW (cc := c_LW_state) (maxL := 4) (ret := (some .int)) (hh := [(0, 9, 12, 21)]) (by decide) rfl ?_
  intro p e s m args below meth c s₁ B hml hv
  obtain ⟨rfl, ⟨hsz, hBs⟩, hP, hK, hD0, hV⟩ := hv
  have hx := B.exec
  have hb := B.bytes
  have hr := B.returns
  have ht : ∀ w ∈ tb_, w.before _ s = true := fun w h => atoms_spec (ws := w_LW_state) B.pre w (List.mem_cons_of_mem _ h)
  have hown : s.vm.findClass R_LW = some m.cls := findClass_of_methodNamed B.named
  have hlocks := B.notSynchronized
  subst hsz
  have hD := hD0.self (sz := s.heap.size)
  have hAB : ∀ q, va_A [(h0, .inr (0, [.ref rq, .ref oa, .ref pl, .ref dk, .ref rw, .int 0, .int 0, .int (-1)]))] s.heap.size q → Bd ≤ q := fr_AB hD0 hBs
  generalize hAe : va_A [(h0, .inr (0, [.ref rq, .ref oa, .ref pl, .ref dk, .ref rw, .int 0, .int 0, .int (-1)]))] s.heap.size = A at hD hAB ⊢
  have hA : ∀ q : Nat, s.heap.size ≤ q → A q := fun q h => by rw [← hAe]; exact Or.inr h
  have hS : va_S A s.heap s.heap [] := va_S.rf
  have hAO := hV.2.2.2.1
  have hN_PL := hV.2.2.1.1
  have hN_RW := hV.2.2.1.2
  have hP : va_P (dC, dI) cls_ [(h0, .inr (0, [.ref rq, .ref oa, .ref pl, .ref dk, .ref rw, .int 0, .int 0, .int (-1)]))] s.heap := hP
  have hl := lv_entry ([.ref h0, .int x, .ref ou]) (n := 4) (Nat.le_of_ble_eq_true rfl)
  rw [lg_entry_eq]
  generalize (lg_sl ([.ref h0, .int x, .ref ou]) ++ List.replicate (4 - (lg_sl ([.ref h0, .int x, .ref ou])).length) Slot.unset).toArray = ls at hl ⊢
  have hl : lv_has ls 4 [(0, .ref h0), (1, .int x), (2, .ref ou)] := hl
  refine lv_aload_n hx hb d_LW_state_0 rfl (lv_at hl 2 rfl) ?_
  refine lv_iconst (v := 0) hx hb d_LW_state_1 (by decide) ?_
  refine lv_aload_n hx hb d_LW_state_2 rfl (lv_at hl 0 rfl) ?_
  refine lv_iload_n hx hb d_LW_state_3 rfl (lv_at hl 1 rfl) ?_
  have hPc := hP.sub (ws' := [(h0, .inr (0, [.ref rq, .ref oa, .ref pl, .ref dk, .ref rw, .int 0, .int 0, .int (-1)]))]) [0] rfl
  have hKc := hK.sub (tys' := []) [] rfl
  have hDc := hD.sub (ws' := [(h0, .inr (0, [.ref rq, .ref oa, .ref pl, .ref dk, .ref rw, .int 0, .int 0, .int (-1)]))]) [0] (by decide) rfl
  refine tw_runV (C := R_TT) (As := [.int x]) (rest := [.int 0, .ref ou]) ⟨hx, hb, hml, hown, ht⟩ (c_TT_state_th l dC dI s.heap.size Bd hl9 h0 rq oa pl dk rw x) (cwV 1 ht (gV tb_484 tb_485 tb_486 tb_1 tb_487) rfl rfl rfl (by decide +kernel) ⟨Nat.le_of_ble_eq_true rfl, Nat.le_of_ble_eq_true rfl⟩) ⟨frP_blind, va_recv (q := (R_TT, F_TT, 8)) hK hP rfl (show ([(h0, .inr (0, [.ref rq, .ref oa, .ref pl, .ref dk, .ref rw, .int 0, .int 0, .int (-1)]))] : va_W)[0]? = some (h0, .inr (0, [.ref rq, .ref oa, .ref pl, .ref dk, .ref rw, .int 0, .int 0, .int (-1)])) from rfl), fr_pre hPc hKc hDc hAB hBs hS hV⟩ rfl hl.1 rfl (Nat.le_of_ble_eq_true rfl) d_LW_state_4 ⟨Nat.le_of_ble_eq_true rfl, Nat.le_of_ble_eq_true rfl⟩ (fun xa cellx H1 hx1 hx2 hx3 hx4 hx5 hx6 => ?_)
  refine tw_catch hown ⟨0, 9, 12, 21⟩ [] (tw_table B (atoms_spec (ws := w_LW_state) B.pre _ List.mem_cons_self)) (by decide) (by decide) (ht _ tb_451) (va_Nw.use rfl hV.2.1.2) hx2 hx3 hx4 ?_
  have hP : va_P (dC, dI) cls_ [(h0, .inr (0, [.ref rq, .ref oa, .ref pl, .ref dk, .ref rw, .int 0, .int 0, .int (-1)]))] H1 := hP.kept (fun k q hq => hx6 q.1 ((hP k q hq).lt))
  have hS : va_S A s.heap H1 _ := ⟨Nat.le_trans hS.1 hx5, fun q h1 h2 => (hx6 q (Nat.lt_of_lt_of_le h1 hS.1)).trans (hS.2.1 q h1 h2), hS.2.2⟩
  generalize H1 = H at hP hS ⊢
  refine W.cs (cells' := 1) (slots' := 6) rfl rfl ?_
  refine lv_astore_n hx hb d_LW_state_12 rfl hl (by decide) rfl (fun ls hl => ?_)
  have hl : lv_has ls 4 [(3, .ref xa), (0, .ref h0), (1, .int x), (2, .ref ou)] := hl
  refine lv_iconst (v := 1) hx hb d_LW_state_13 (by decide) ?_
  have hP9 := hP.sub (ws' := [(h0, .inr (0, [.ref rq, .ref oa, .ref pl, .ref dk, .ref rw, .int 0, .int 0, .int (-1)]))]) [0] rfl
  have hD9 := hD.sub (ws' := [(h0, .inr (0, [.ref rq, .ref oa, .ref pl, .ref dk, .ref rw, .int 0, .int 0, .int (-1)]))]) [0] (by decide) rfl
  have hK9 := hK.sub (tys' := []) [] rfl
  exact W.iret (v := 1) hx hb hr (fun t ht9 hW => ⟨rfl, ⟨by rw [ht9]; exact hP9, va_K.moved hW.alike hK9, hD9⟩, hS.F ht9⟩) hS.2.2 d_LW_state_14
set_option maxHeartbeats 4000000 in
set_option maxRecDepth 100000 in
theorem c_LW_planFrom_bad (l : Launch) (dC : Nat → ClassId) (dI : Nat → Nat → Nat) (sz Bd : Nat) (hl9 : l.stackTraces = false) (h0 rq oa pl dk rw : Nat) (ou : Nat) (x : Int32) : Met l y_LW_planFrom w_LW_planFrom ({ frames := 8, cells := 1, slots := 6, locals := 133 }) (frP (dC, dI) [(h0, .inr (0, [.ref rq, .ref oa, .ref pl, .ref dk, .ref rw, .int 0, .int 0, .int (-1)]))] [] sz Bd [.ref h0, .int x, .ref ou]) (frQ (some (.int 1)) (fun t => va_P (dC, dI) cls_ [(h0, .inr (0, [.ref rq, .ref oa, .ref pl, .ref dk, .ref rw, .int 0, .int 0, .int (-1)]))] t.heap ∧ va_K (dC, dI) cls_ [] t ∧ va_D (va_A [(h0, .inr (0, [.ref rq, .ref oa, .ref pl, .ref dk, .ref rw, .int 0, .int 0, .int (-1)]))] sz) [(h0, .inr (0, [.ref rq, .ref oa, .ref pl, .ref dk, .ref rw, .int 0, .int 0, .int (-1)]))]) (va_A [(h0, .inr (0, [.ref rq, .ref oa, .ref pl, .ref dk, .ref rw, .int 0, .int 0, .int (-1)]))] sz)) 1 6 (va_A [(h0, .inr (0, [.ref rq, .ref oa, .ref pl, .ref dk, .ref rw, .int 0, .int 0, .int (-1)]))] sz) := by
  refine va_MetW (cc := c_LW_planFrom) (maxL := 4) (ret := (some .int)) (hh := [(0, 9, 12, 21)]) (by decide) rfl ?_
  intro p e s m args below meth c s₁ B hml hv
  obtain ⟨rfl, ⟨hsz, hBs⟩, hP, hK, hD0, hV⟩ := hv
  have hx := B.exec
  have hb := B.bytes
  have hr := B.returns
  have ht : ∀ w ∈ tb_, w.before _ s = true := fun w h => atoms_spec (ws := w_LW_planFrom) B.pre w (List.mem_cons_of_mem _ h)
  have hown : s.vm.findClass R_LW = some m.cls := findClass_of_methodNamed B.named
  have hlocks := B.notSynchronized
  subst hsz
  have hD := hD0.self (sz := s.heap.size)
  have hAB : ∀ q, va_A [(h0, .inr (0, [.ref rq, .ref oa, .ref pl, .ref dk, .ref rw, .int 0, .int 0, .int (-1)]))] s.heap.size q → Bd ≤ q := fr_AB hD0 hBs
  generalize hAe : va_A [(h0, .inr (0, [.ref rq, .ref oa, .ref pl, .ref dk, .ref rw, .int 0, .int 0, .int (-1)]))] s.heap.size = A at hD hAB ⊢
  have hA : ∀ q : Nat, s.heap.size ≤ q → A q := fun q h => by rw [← hAe]; exact Or.inr h
  have hS : va_S A s.heap s.heap [] := va_S.rf
  have hAO := hV.2.2.2.1
  have hN_PL := hV.2.2.1.1
  have hN_RW := hV.2.2.1.2
  have hP : va_P (dC, dI) cls_ [(h0, .inr (0, [.ref rq, .ref oa, .ref pl, .ref dk, .ref rw, .int 0, .int 0, .int (-1)]))] s.heap := hP
  have hl := lv_entry ([.ref h0, .int x, .ref ou]) (n := 4) (Nat.le_of_ble_eq_true rfl)
  rw [lg_entry_eq]
  generalize (lg_sl ([.ref h0, .int x, .ref ou]) ++ List.replicate (4 - (lg_sl ([.ref h0, .int x, .ref ou])).length) Slot.unset).toArray = ls at hl ⊢
  have hl : lv_has ls 4 [(0, .ref h0), (1, .int x), (2, .ref ou)] := hl
  refine lv_aload_n hx hb d_LW_planFrom_0 rfl (lv_at hl 2 rfl) ?_
  refine lv_iconst (v := 0) hx hb d_LW_planFrom_1 (by decide) ?_
  refine lv_aload_n hx hb d_LW_planFrom_2 rfl (lv_at hl 0 rfl) ?_
  refine lv_iload_n hx hb d_LW_planFrom_3 rfl (lv_at hl 1 rfl) ?_
  have hPc := hP.sub (ws' := [(h0, .inr (0, [.ref rq, .ref oa, .ref pl, .ref dk, .ref rw, .int 0, .int 0, .int (-1)]))]) [0] rfl
  have hKc := hK.sub (tys' := []) [] rfl
  have hDc := hD.sub (ws' := [(h0, .inr (0, [.ref rq, .ref oa, .ref pl, .ref dk, .ref rw, .int 0, .int 0, .int (-1)]))]) [0] (by decide) rfl
  refine tw_runV (C := R_TT) (As := [.int x]) (rest := [.int 0, .ref ou]) ⟨hx, hb, hml, hown, ht⟩ (c_TT_planFrom_th l dC dI s.heap.size Bd hl9 h0 rq oa pl dk rw x) (cwV 1 ht (gV tb_491 tb_492 tb_493 tb_1 tb_494) rfl rfl rfl (by decide +kernel) ⟨Nat.le_of_ble_eq_true rfl, Nat.le_of_ble_eq_true rfl⟩) ⟨frP_blind, va_recv (q := (R_TT, F_TT, 8)) hK hP rfl (show ([(h0, .inr (0, [.ref rq, .ref oa, .ref pl, .ref dk, .ref rw, .int 0, .int 0, .int (-1)]))] : va_W)[0]? = some (h0, .inr (0, [.ref rq, .ref oa, .ref pl, .ref dk, .ref rw, .int 0, .int 0, .int (-1)])) from rfl), fr_pre hPc hKc hDc hAB hBs hS hV⟩ rfl hl.1 rfl (Nat.le_of_ble_eq_true rfl) d_LW_planFrom_4 ⟨Nat.le_of_ble_eq_true rfl, Nat.le_of_ble_eq_true rfl⟩ (fun xa cellx H1 hx1 hx2 hx3 hx4 hx5 hx6 => ?_)
  refine tw_catch hown ⟨0, 9, 12, 21⟩ [] (tw_table B (atoms_spec (ws := w_LW_planFrom) B.pre _ List.mem_cons_self)) (by decide) (by decide) (ht _ tb_451) (va_Nw.use rfl hV.2.1.2) hx2 hx3 hx4 ?_
  have hP : va_P (dC, dI) cls_ [(h0, .inr (0, [.ref rq, .ref oa, .ref pl, .ref dk, .ref rw, .int 0, .int 0, .int (-1)]))] H1 := hP.kept (fun k q hq => hx6 q.1 ((hP k q hq).lt))
  have hS : va_S A s.heap H1 _ := ⟨Nat.le_trans hS.1 hx5, fun q h1 h2 => (hx6 q (Nat.lt_of_lt_of_le h1 hS.1)).trans (hS.2.1 q h1 h2), hS.2.2⟩
  generalize H1 = H at hP hS ⊢
  refine W.cs (cells' := 1) (slots' := 6) rfl rfl ?_
  refine lv_astore_n hx hb d_LW_planFrom_12 rfl hl (by decide) rfl (fun ls hl => ?_)
  have hl : lv_has ls 4 [(3, .ref xa), (0, .ref h0), (1, .int x), (2, .ref ou)] := hl
  refine lv_iconst (v := 1) hx hb d_LW_planFrom_13 (by decide) ?_
  have hP9 := hP.sub (ws' := [(h0, .inr (0, [.ref rq, .ref oa, .ref pl, .ref dk, .ref rw, .int 0, .int 0, .int (-1)]))]) [0] rfl
  have hD9 := hD.sub (ws' := [(h0, .inr (0, [.ref rq, .ref oa, .ref pl, .ref dk, .ref rw, .int 0, .int 0, .int (-1)]))]) [0] (by decide) rfl
  have hK9 := hK.sub (tys' := []) [] rfl
  exact W.iret (v := 1) hx hb hr (fun t ht9 hW => ⟨rfl, ⟨by rw [ht9]; exact hP9, va_K.moved hW.alike hK9, hD9⟩, hS.F ht9⟩) hS.2.2 d_LW_planFrom_14
set_option maxHeartbeats 4000000 in
set_option maxRecDepth 100000 in
theorem c_LW_planTo_bad (l : Launch) (dC : Nat → ClassId) (dI : Nat → Nat → Nat) (sz Bd : Nat) (hl9 : l.stackTraces = false) (h0 rq oa pl dk rw : Nat) (ou : Nat) (x : Int32) : Met l y_LW_planTo w_LW_planTo ({ frames := 8, cells := 1, slots := 6, locals := 133 }) (frP (dC, dI) [(h0, .inr (0, [.ref rq, .ref oa, .ref pl, .ref dk, .ref rw, .int 0, .int 0, .int (-1)]))] [] sz Bd [.ref h0, .int x, .ref ou]) (frQ (some (.int 1)) (fun t => va_P (dC, dI) cls_ [(h0, .inr (0, [.ref rq, .ref oa, .ref pl, .ref dk, .ref rw, .int 0, .int 0, .int (-1)]))] t.heap ∧ va_K (dC, dI) cls_ [] t ∧ va_D (va_A [(h0, .inr (0, [.ref rq, .ref oa, .ref pl, .ref dk, .ref rw, .int 0, .int 0, .int (-1)]))] sz) [(h0, .inr (0, [.ref rq, .ref oa, .ref pl, .ref dk, .ref rw, .int 0, .int 0, .int (-1)]))]) (va_A [(h0, .inr (0, [.ref rq, .ref oa, .ref pl, .ref dk, .ref rw, .int 0, .int 0, .int (-1)]))] sz)) 1 6 (va_A [(h0, .inr (0, [.ref rq, .ref oa, .ref pl, .ref dk, .ref rw, .int 0, .int 0, .int (-1)]))] sz) := by
  refine va_MetW (cc := c_LW_planTo) (maxL := 4) (ret := (some .int)) (hh := [(0, 9, 12, 21)]) (by decide) rfl ?_
  intro p e s m args below meth c s₁ B hml hv
  obtain ⟨rfl, ⟨hsz, hBs⟩, hP, hK, hD0, hV⟩ := hv
  have hx := B.exec
  have hb := B.bytes
  have hr := B.returns
  have ht : ∀ w ∈ tb_, w.before _ s = true := fun w h => atoms_spec (ws := w_LW_planTo) B.pre w (List.mem_cons_of_mem _ h)
  have hown : s.vm.findClass R_LW = some m.cls := findClass_of_methodNamed B.named
  have hlocks := B.notSynchronized
  subst hsz
  have hD := hD0.self (sz := s.heap.size)
  have hAB : ∀ q, va_A [(h0, .inr (0, [.ref rq, .ref oa, .ref pl, .ref dk, .ref rw, .int 0, .int 0, .int (-1)]))] s.heap.size q → Bd ≤ q := fr_AB hD0 hBs
  generalize hAe : va_A [(h0, .inr (0, [.ref rq, .ref oa, .ref pl, .ref dk, .ref rw, .int 0, .int 0, .int (-1)]))] s.heap.size = A at hD hAB ⊢
  have hA : ∀ q : Nat, s.heap.size ≤ q → A q := fun q h => by rw [← hAe]; exact Or.inr h
  have hS : va_S A s.heap s.heap [] := va_S.rf
  have hAO := hV.2.2.2.1
  have hN_PL := hV.2.2.1.1
  have hN_RW := hV.2.2.1.2
  have hP : va_P (dC, dI) cls_ [(h0, .inr (0, [.ref rq, .ref oa, .ref pl, .ref dk, .ref rw, .int 0, .int 0, .int (-1)]))] s.heap := hP
  have hl := lv_entry ([.ref h0, .int x, .ref ou]) (n := 4) (Nat.le_of_ble_eq_true rfl)
  rw [lg_entry_eq]
  generalize (lg_sl ([.ref h0, .int x, .ref ou]) ++ List.replicate (4 - (lg_sl ([.ref h0, .int x, .ref ou])).length) Slot.unset).toArray = ls at hl ⊢
  have hl : lv_has ls 4 [(0, .ref h0), (1, .int x), (2, .ref ou)] := hl
  refine lv_aload_n hx hb d_LW_planTo_0 rfl (lv_at hl 2 rfl) ?_
  refine lv_iconst (v := 0) hx hb d_LW_planTo_1 (by decide) ?_
  refine lv_aload_n hx hb d_LW_planTo_2 rfl (lv_at hl 0 rfl) ?_
  refine lv_iload_n hx hb d_LW_planTo_3 rfl (lv_at hl 1 rfl) ?_
  have hPc := hP.sub (ws' := [(h0, .inr (0, [.ref rq, .ref oa, .ref pl, .ref dk, .ref rw, .int 0, .int 0, .int (-1)]))]) [0] rfl
  have hKc := hK.sub (tys' := []) [] rfl
  have hDc := hD.sub (ws' := [(h0, .inr (0, [.ref rq, .ref oa, .ref pl, .ref dk, .ref rw, .int 0, .int 0, .int (-1)]))]) [0] (by decide) rfl
  refine tw_runV (C := R_TT) (As := [.int x]) (rest := [.int 0, .ref ou]) ⟨hx, hb, hml, hown, ht⟩ (c_TT_planTo_th l dC dI s.heap.size Bd hl9 h0 rq oa pl dk rw x) (cwV 1 ht (gV tb_499 tb_500 tb_501 tb_1 tb_502) rfl rfl rfl (by decide +kernel) ⟨Nat.le_of_ble_eq_true rfl, Nat.le_of_ble_eq_true rfl⟩) ⟨frP_blind, va_recv (q := (R_TT, F_TT, 8)) hK hP rfl (show ([(h0, .inr (0, [.ref rq, .ref oa, .ref pl, .ref dk, .ref rw, .int 0, .int 0, .int (-1)]))] : va_W)[0]? = some (h0, .inr (0, [.ref rq, .ref oa, .ref pl, .ref dk, .ref rw, .int 0, .int 0, .int (-1)])) from rfl), fr_pre hPc hKc hDc hAB hBs hS hV⟩ rfl hl.1 rfl (Nat.le_of_ble_eq_true rfl) d_LW_planTo_4 ⟨Nat.le_of_ble_eq_true rfl, Nat.le_of_ble_eq_true rfl⟩ (fun xa cellx H1 hx1 hx2 hx3 hx4 hx5 hx6 => ?_)
  refine tw_catch hown ⟨0, 9, 12, 21⟩ [] (tw_table B (atoms_spec (ws := w_LW_planTo) B.pre _ List.mem_cons_self)) (by decide) (by decide) (ht _ tb_451) (va_Nw.use rfl hV.2.1.2) hx2 hx3 hx4 ?_
  have hP : va_P (dC, dI) cls_ [(h0, .inr (0, [.ref rq, .ref oa, .ref pl, .ref dk, .ref rw, .int 0, .int 0, .int (-1)]))] H1 := hP.kept (fun k q hq => hx6 q.1 ((hP k q hq).lt))
  have hS : va_S A s.heap H1 _ := ⟨Nat.le_trans hS.1 hx5, fun q h1 h2 => (hx6 q (Nat.lt_of_lt_of_le h1 hS.1)).trans (hS.2.1 q h1 h2), hS.2.2⟩
  generalize H1 = H at hP hS ⊢
  refine W.cs (cells' := 1) (slots' := 6) rfl rfl ?_
  refine lv_astore_n hx hb d_LW_planTo_12 rfl hl (by decide) rfl (fun ls hl => ?_)
  have hl : lv_has ls 4 [(3, .ref xa), (0, .ref h0), (1, .int x), (2, .ref ou)] := hl
  refine lv_iconst (v := 1) hx hb d_LW_planTo_13 (by decide) ?_
  have hP9 := hP.sub (ws' := [(h0, .inr (0, [.ref rq, .ref oa, .ref pl, .ref dk, .ref rw, .int 0, .int 0, .int (-1)]))]) [0] rfl
  have hD9 := hD.sub (ws' := [(h0, .inr (0, [.ref rq, .ref oa, .ref pl, .ref dk, .ref rw, .int 0, .int 0, .int (-1)]))]) [0] (by decide) rfl
  have hK9 := hK.sub (tys' := []) [] rfl
  exact W.iret (v := 1) hx hb hr (fun t ht9 hW => ⟨rfl, ⟨by rw [ht9]; exact hP9, va_K.moved hW.alike hK9, hD9⟩, hS.F ht9⟩) hS.2.2 d_LW_planTo_14
set_option maxHeartbeats 4000000 in
set_option maxRecDepth 100000 in
theorem c_LW_recorded_bad (l : Launch) (dC : Nat → ClassId) (dI : Nat → Nat → Nat) (sz Bd : Nat) (hl9 : l.stackTraces = false) (h0 rq oa pl dk rw : Nat) (ou : Nat) (x : Int32) : Met l y_LW_recorded w_LW_recorded ({ frames := 8, cells := 1, slots := 6, locals := 132 }) (frP (dC, dI) [(h0, .inr (0, [.ref rq, .ref oa, .ref pl, .ref dk, .ref rw, .int 0, .int 0, .int (-1)]))] [] sz Bd [.ref h0, .int x, .ref ou]) (frQ (some (.int 1)) (fun t => va_P (dC, dI) cls_ [(h0, .inr (0, [.ref rq, .ref oa, .ref pl, .ref dk, .ref rw, .int 0, .int 0, .int (-1)]))] t.heap ∧ va_K (dC, dI) cls_ [] t ∧ va_D (va_A [(h0, .inr (0, [.ref rq, .ref oa, .ref pl, .ref dk, .ref rw, .int 0, .int 0, .int (-1)]))] sz) [(h0, .inr (0, [.ref rq, .ref oa, .ref pl, .ref dk, .ref rw, .int 0, .int 0, .int (-1)]))]) (va_A [(h0, .inr (0, [.ref rq, .ref oa, .ref pl, .ref dk, .ref rw, .int 0, .int 0, .int (-1)]))] sz)) 1 6 (va_A [(h0, .inr (0, [.ref rq, .ref oa, .ref pl, .ref dk, .ref rw, .int 0, .int 0, .int (-1)]))] sz) := by
  refine va_MetW (cc := c_LW_recorded) (maxL := 4) (ret := (some .int)) (hh := [(0, 9, 12, 21)]) (by decide) rfl ?_
  intro p e s m args below meth c s₁ B hml hv
  obtain ⟨rfl, ⟨hsz, hBs⟩, hP, hK, hD0, hV⟩ := hv
  have hx := B.exec
  have hb := B.bytes
  have hr := B.returns
  have ht : ∀ w ∈ tb_, w.before _ s = true := fun w h => atoms_spec (ws := w_LW_recorded) B.pre w (List.mem_cons_of_mem _ h)
  have hown : s.vm.findClass R_LW = some m.cls := findClass_of_methodNamed B.named
  have hlocks := B.notSynchronized
  subst hsz
  have hD := hD0.self (sz := s.heap.size)
  have hAB : ∀ q, va_A [(h0, .inr (0, [.ref rq, .ref oa, .ref pl, .ref dk, .ref rw, .int 0, .int 0, .int (-1)]))] s.heap.size q → Bd ≤ q := fr_AB hD0 hBs
  generalize hAe : va_A [(h0, .inr (0, [.ref rq, .ref oa, .ref pl, .ref dk, .ref rw, .int 0, .int 0, .int (-1)]))] s.heap.size = A at hD hAB ⊢
  have hA : ∀ q : Nat, s.heap.size ≤ q → A q := fun q h => by rw [← hAe]; exact Or.inr h
  have hS : va_S A s.heap s.heap [] := va_S.rf
  have hAO := hV.2.2.2.1
  have hN_PL := hV.2.2.1.1
  have hN_RW := hV.2.2.1.2
  have hP : va_P (dC, dI) cls_ [(h0, .inr (0, [.ref rq, .ref oa, .ref pl, .ref dk, .ref rw, .int 0, .int 0, .int (-1)]))] s.heap := hP
  have hl := lv_entry ([.ref h0, .int x, .ref ou]) (n := 4) (Nat.le_of_ble_eq_true rfl)
  rw [lg_entry_eq]
  generalize (lg_sl ([.ref h0, .int x, .ref ou]) ++ List.replicate (4 - (lg_sl ([.ref h0, .int x, .ref ou])).length) Slot.unset).toArray = ls at hl ⊢
  have hl : lv_has ls 4 [(0, .ref h0), (1, .int x), (2, .ref ou)] := hl
  refine lv_aload_n hx hb d_LW_recorded_0 rfl (lv_at hl 2 rfl) ?_
  refine lv_iconst (v := 0) hx hb d_LW_recorded_1 (by decide) ?_
  refine lv_aload_n hx hb d_LW_recorded_2 rfl (lv_at hl 0 rfl) ?_
  refine lv_iload_n hx hb d_LW_recorded_3 rfl (lv_at hl 1 rfl) ?_
  have hPc := hP.sub (ws' := [(h0, .inr (0, [.ref rq, .ref oa, .ref pl, .ref dk, .ref rw, .int 0, .int 0, .int (-1)]))]) [0] rfl
  have hKc := hK.sub (tys' := []) [] rfl
  have hDc := hD.sub (ws' := [(h0, .inr (0, [.ref rq, .ref oa, .ref pl, .ref dk, .ref rw, .int 0, .int 0, .int (-1)]))]) [0] (by decide) rfl
  refine tw_runV (C := R_TT) (As := [.int x]) (rest := [.int 0, .ref ou]) ⟨hx, hb, hml, hown, ht⟩ (c_TT_recorded_th l dC dI s.heap.size Bd hl9 h0 rq oa pl dk rw x) (cwV 1 ht (gV tb_543 tb_544 tb_545 tb_1 tb_546) rfl rfl rfl (by decide +kernel) ⟨Nat.le_of_ble_eq_true rfl, Nat.le_of_ble_eq_true rfl⟩) ⟨frP_blind, va_recv (q := (R_TT, F_TT, 8)) hK hP rfl (show ([(h0, .inr (0, [.ref rq, .ref oa, .ref pl, .ref dk, .ref rw, .int 0, .int 0, .int (-1)]))] : va_W)[0]? = some (h0, .inr (0, [.ref rq, .ref oa, .ref pl, .ref dk, .ref rw, .int 0, .int 0, .int (-1)])) from rfl), fr_pre hPc hKc hDc hAB hBs hS hV⟩ rfl hl.1 rfl (Nat.le_of_ble_eq_true rfl) d_LW_recorded_4 ⟨Nat.le_of_ble_eq_true rfl, Nat.le_of_ble_eq_true rfl⟩ (fun xa cellx H1 hx1 hx2 hx3 hx4 hx5 hx6 => ?_)
  refine tw_catch hown ⟨0, 9, 12, 21⟩ [] (tw_table B (atoms_spec (ws := w_LW_recorded) B.pre _ List.mem_cons_self)) (by decide) (by decide) (ht _ tb_451) (va_Nw.use rfl hV.2.1.2) hx2 hx3 hx4 ?_
  have hP : va_P (dC, dI) cls_ [(h0, .inr (0, [.ref rq, .ref oa, .ref pl, .ref dk, .ref rw, .int 0, .int 0, .int (-1)]))] H1 := hP.kept (fun k q hq => hx6 q.1 ((hP k q hq).lt))
  have hS : va_S A s.heap H1 _ := ⟨Nat.le_trans hS.1 hx5, fun q h1 h2 => (hx6 q (Nat.lt_of_lt_of_le h1 hS.1)).trans (hS.2.1 q h1 h2), hS.2.2⟩
  generalize H1 = H at hP hS ⊢
  refine W.cs (cells' := 1) (slots' := 6) rfl rfl ?_
  refine lv_astore_n hx hb d_LW_recorded_12 rfl hl (by decide) rfl (fun ls hl => ?_)
  have hl : lv_has ls 4 [(3, .ref xa), (0, .ref h0), (1, .int x), (2, .ref ou)] := hl
  refine lv_iconst (v := 1) hx hb d_LW_recorded_13 (by decide) ?_
  have hP9 := hP.sub (ws' := [(h0, .inr (0, [.ref rq, .ref oa, .ref pl, .ref dk, .ref rw, .int 0, .int 0, .int (-1)]))]) [0] rfl
  have hD9 := hD.sub (ws' := [(h0, .inr (0, [.ref rq, .ref oa, .ref pl, .ref dk, .ref rw, .int 0, .int 0, .int (-1)]))]) [0] (by decide) rfl
  have hK9 := hK.sub (tys' := []) [] rfl
  exact W.iret (v := 1) hx hb hr (fun t ht9 hW => ⟨rfl, ⟨by rw [ht9]; exact hP9, va_K.moved hW.alike hK9, hD9⟩, hS.F ht9⟩) hS.2.2 d_LW_recorded_14
set_option maxHeartbeats 4000000 in
set_option maxRecDepth 100000 in
theorem c_LW_shortBy_bad (l : Launch) (dC : Nat → ClassId) (dI : Nat → Nat → Nat) (sz Bd : Nat) (hl9 : l.stackTraces = false) (h0 rq oa pl dk rw : Nat) (ou : Nat) (x : Int32) : Met l y_LW_shortBy w_LW_shortBy ({ frames := 8, cells := 1, slots := 6, locals := 132 }) (frP (dC, dI) [(h0, .inr (0, [.ref rq, .ref oa, .ref pl, .ref dk, .ref rw, .int 0, .int 0, .int (-1)]))] [] sz Bd [.ref h0, .int x, .ref ou]) (frQ (some (.int 1)) (fun t => va_P (dC, dI) cls_ [(h0, .inr (0, [.ref rq, .ref oa, .ref pl, .ref dk, .ref rw, .int 0, .int 0, .int (-1)]))] t.heap ∧ va_K (dC, dI) cls_ [] t ∧ va_D (va_A [(h0, .inr (0, [.ref rq, .ref oa, .ref pl, .ref dk, .ref rw, .int 0, .int 0, .int (-1)]))] sz) [(h0, .inr (0, [.ref rq, .ref oa, .ref pl, .ref dk, .ref rw, .int 0, .int 0, .int (-1)]))]) (va_A [(h0, .inr (0, [.ref rq, .ref oa, .ref pl, .ref dk, .ref rw, .int 0, .int 0, .int (-1)]))] sz)) 1 6 (va_A [(h0, .inr (0, [.ref rq, .ref oa, .ref pl, .ref dk, .ref rw, .int 0, .int 0, .int (-1)]))] sz) := by
  refine va_MetW (cc := c_LW_shortBy) (maxL := 4) (ret := (some .int)) (hh := [(0, 9, 12, 21)]) (by decide) rfl ?_
  intro p e s m args below meth c s₁ B hml hv
  obtain ⟨rfl, ⟨hsz, hBs⟩, hP, hK, hD0, hV⟩ := hv
  have hx := B.exec
  have hb := B.bytes
  have hr := B.returns
  have ht : ∀ w ∈ tb_, w.before _ s = true := fun w h => atoms_spec (ws := w_LW_shortBy) B.pre w (List.mem_cons_of_mem _ h)
  have hown : s.vm.findClass R_LW = some m.cls := findClass_of_methodNamed B.named
  have hlocks := B.notSynchronized
  subst hsz
  have hD := hD0.self (sz := s.heap.size)
  have hAB : ∀ q, va_A [(h0, .inr (0, [.ref rq, .ref oa, .ref pl, .ref dk, .ref rw, .int 0, .int 0, .int (-1)]))] s.heap.size q → Bd ≤ q := fr_AB hD0 hBs
  generalize hAe : va_A [(h0, .inr (0, [.ref rq, .ref oa, .ref pl, .ref dk, .ref rw, .int 0, .int 0, .int (-1)]))] s.heap.size = A at hD hAB ⊢
  have hA : ∀ q : Nat, s.heap.size ≤ q → A q := fun q h => by rw [← hAe]; exact Or.inr h
  have hS : va_S A s.heap s.heap [] := va_S.rf
  have hAO := hV.2.2.2.1
  have hN_PL := hV.2.2.1.1
  have hN_RW := hV.2.2.1.2
  have hP : va_P (dC, dI) cls_ [(h0, .inr (0, [.ref rq, .ref oa, .ref pl, .ref dk, .ref rw, .int 0, .int 0, .int (-1)]))] s.heap := hP
  have hl := lv_entry ([.ref h0, .int x, .ref ou]) (n := 4) (Nat.le_of_ble_eq_true rfl)
  rw [lg_entry_eq]
  generalize (lg_sl ([.ref h0, .int x, .ref ou]) ++ List.replicate (4 - (lg_sl ([.ref h0, .int x, .ref ou])).length) Slot.unset).toArray = ls at hl ⊢
  have hl : lv_has ls 4 [(0, .ref h0), (1, .int x), (2, .ref ou)] := hl
  refine lv_aload_n hx hb d_LW_shortBy_0 rfl (lv_at hl 2 rfl) ?_
  refine lv_iconst (v := 0) hx hb d_LW_shortBy_1 (by decide) ?_
  refine lv_aload_n hx hb d_LW_shortBy_2 rfl (lv_at hl 0 rfl) ?_
  refine lv_iload_n hx hb d_LW_shortBy_3 rfl (lv_at hl 1 rfl) ?_
  have hPc := hP.sub (ws' := [(h0, .inr (0, [.ref rq, .ref oa, .ref pl, .ref dk, .ref rw, .int 0, .int 0, .int (-1)]))]) [0] rfl
  have hKc := hK.sub (tys' := []) [] rfl
  have hDc := hD.sub (ws' := [(h0, .inr (0, [.ref rq, .ref oa, .ref pl, .ref dk, .ref rw, .int 0, .int 0, .int (-1)]))]) [0] (by decide) rfl
  refine tw_runV (C := R_TT) (As := [.int x]) (rest := [.int 0, .ref ou]) ⟨hx, hb, hml, hown, ht⟩ (c_TT_shortBy_th l dC dI s.heap.size Bd hl9 h0 rq oa pl dk rw x) (cwV 1 ht (gV tb_555 tb_556 tb_557 tb_1 tb_558) rfl rfl rfl (by decide +kernel) ⟨Nat.le_of_ble_eq_true rfl, Nat.le_of_ble_eq_true rfl⟩) ⟨frP_blind, va_recv (q := (R_TT, F_TT, 8)) hK hP rfl (show ([(h0, .inr (0, [.ref rq, .ref oa, .ref pl, .ref dk, .ref rw, .int 0, .int 0, .int (-1)]))] : va_W)[0]? = some (h0, .inr (0, [.ref rq, .ref oa, .ref pl, .ref dk, .ref rw, .int 0, .int 0, .int (-1)])) from rfl), fr_pre hPc hKc hDc hAB hBs hS hV⟩ rfl hl.1 rfl (Nat.le_of_ble_eq_true rfl) d_LW_shortBy_4 ⟨Nat.le_of_ble_eq_true rfl, Nat.le_of_ble_eq_true rfl⟩ (fun xa cellx H1 hx1 hx2 hx3 hx4 hx5 hx6 => ?_)
  refine tw_catch hown ⟨0, 9, 12, 21⟩ [] (tw_table B (atoms_spec (ws := w_LW_shortBy) B.pre _ List.mem_cons_self)) (by decide) (by decide) (ht _ tb_451) (va_Nw.use rfl hV.2.1.2) hx2 hx3 hx4 ?_
  have hP : va_P (dC, dI) cls_ [(h0, .inr (0, [.ref rq, .ref oa, .ref pl, .ref dk, .ref rw, .int 0, .int 0, .int (-1)]))] H1 := hP.kept (fun k q hq => hx6 q.1 ((hP k q hq).lt))
  have hS : va_S A s.heap H1 _ := ⟨Nat.le_trans hS.1 hx5, fun q h1 h2 => (hx6 q (Nat.lt_of_lt_of_le h1 hS.1)).trans (hS.2.1 q h1 h2), hS.2.2⟩
  generalize H1 = H at hP hS ⊢
  refine W.cs (cells' := 1) (slots' := 6) rfl rfl ?_
  refine lv_astore_n hx hb d_LW_shortBy_12 rfl hl (by decide) rfl (fun ls hl => ?_)
  have hl : lv_has ls 4 [(3, .ref xa), (0, .ref h0), (1, .int x), (2, .ref ou)] := hl
  refine lv_iconst (v := 1) hx hb d_LW_shortBy_13 (by decide) ?_
  have hP9 := hP.sub (ws' := [(h0, .inr (0, [.ref rq, .ref oa, .ref pl, .ref dk, .ref rw, .int 0, .int 0, .int (-1)]))]) [0] rfl
  have hD9 := hD.sub (ws' := [(h0, .inr (0, [.ref rq, .ref oa, .ref pl, .ref dk, .ref rw, .int 0, .int 0, .int (-1)]))]) [0] (by decide) rfl
  have hK9 := hK.sub (tys' := []) [] rfl
  exact W.iret (v := 1) hx hb hr (fun t ht9 hW => ⟨rfl, ⟨by rw [ht9]; exact hP9, va_K.moved hW.alike hK9, hD9⟩, hS.F ht9⟩) hS.2.2 d_LW_shortBy_14
set_option maxHeartbeats 4000000 in
set_option maxRecDepth 100000 in
theorem c_LW_erase_bad (l : Launch) (dC : Nat → ClassId) (dI : Nat → Nat → Nat) (sz Bd : Nat) (hl9 : l.stackTraces = false) (h0 rq oa pl dk rw : Nat) (ou : Nat) (x : Int32) : Met l y_LW_erase w_LW_erase ({ frames := 8, cells := 1, slots := 6, locals := 133 }) (frP (dC, dI) [(h0, .inr (0, [.ref rq, .ref oa, .ref pl, .ref dk, .ref rw, .int 0, .int 0, .int (-1)]))] [] sz Bd [.ref h0, .int x, .ref ou]) (frQ (some (.int 1)) (fun t => va_P (dC, dI) cls_ [(h0, .inr (0, [.ref rq, .ref oa, .ref pl, .ref dk, .ref rw, .int 0, .int 0, .int (-1)]))] t.heap ∧ va_K (dC, dI) cls_ [] t ∧ va_D (va_A [(h0, .inr (0, [.ref rq, .ref oa, .ref pl, .ref dk, .ref rw, .int 0, .int 0, .int (-1)]))] sz) [(h0, .inr (0, [.ref rq, .ref oa, .ref pl, .ref dk, .ref rw, .int 0, .int 0, .int (-1)]))]) (va_A [(h0, .inr (0, [.ref rq, .ref oa, .ref pl, .ref dk, .ref rw, .int 0, .int 0, .int (-1)]))] sz)) 1 6 (va_A [(h0, .inr (0, [.ref rq, .ref oa, .ref pl, .ref dk, .ref rw, .int 0, .int 0, .int (-1)]))] sz) := by
  refine va_MetW (cc := c_LW_erase) (maxL := 4) (ret := (some .int)) (hh := [(0, 9, 12, 21), (0, 9, 15, 15)]) (by decide) rfl ?_
  intro p e s m args below meth c s₁ B hml hv
  obtain ⟨rfl, ⟨hsz, hBs⟩, hP, hK, hD0, hV⟩ := hv
  have hx := B.exec
  have hb := B.bytes
  have hr := B.returns
  have ht : ∀ w ∈ tb_, w.before _ s = true := fun w h => atoms_spec (ws := w_LW_erase) B.pre w (List.mem_cons_of_mem _ h)
  have hown : s.vm.findClass R_LW = some m.cls := findClass_of_methodNamed B.named
  have hlocks := B.notSynchronized
  subst hsz
  have hD := hD0.self (sz := s.heap.size)
  have hAB : ∀ q, va_A [(h0, .inr (0, [.ref rq, .ref oa, .ref pl, .ref dk, .ref rw, .int 0, .int 0, .int (-1)]))] s.heap.size q → Bd ≤ q := fr_AB hD0 hBs
  generalize hAe : va_A [(h0, .inr (0, [.ref rq, .ref oa, .ref pl, .ref dk, .ref rw, .int 0, .int 0, .int (-1)]))] s.heap.size = A at hD hAB ⊢
  have hA : ∀ q : Nat, s.heap.size ≤ q → A q := fun q h => by rw [← hAe]; exact Or.inr h
  have hS : va_S A s.heap s.heap [] := va_S.rf
  have hAO := hV.2.2.2.1
  have hN_PL := hV.2.2.1.1
  have hN_RW := hV.2.2.1.2
  have hP : va_P (dC, dI) cls_ [(h0, .inr (0, [.ref rq, .ref oa, .ref pl, .ref dk, .ref rw, .int 0, .int 0, .int (-1)]))] s.heap := hP
  have hl := lv_entry ([.ref h0, .int x, .ref ou]) (n := 4) (Nat.le_of_ble_eq_true rfl)
  rw [lg_entry_eq]
  generalize (lg_sl ([.ref h0, .int x, .ref ou]) ++ List.replicate (4 - (lg_sl ([.ref h0, .int x, .ref ou])).length) Slot.unset).toArray = ls at hl ⊢
  have hl : lv_has ls 4 [(0, .ref h0), (1, .int x), (2, .ref ou)] := hl
  refine lv_aload_n hx hb d_LW_erase_0 rfl (lv_at hl 2 rfl) ?_
  refine lv_iconst (v := 0) hx hb d_LW_erase_1 (by decide) ?_
  refine lv_aload_n hx hb d_LW_erase_2 rfl (lv_at hl 0 rfl) ?_
  refine lv_iload_n hx hb d_LW_erase_3 rfl (lv_at hl 1 rfl) ?_
  have hPc := hP.sub (ws' := [(h0, .inr (0, [.ref rq, .ref oa, .ref pl, .ref dk, .ref rw, .int 0, .int 0, .int (-1)]))]) [0] rfl
  have hKc := hK.sub (tys' := []) [] rfl
  have hDc := hD.sub (ws' := [(h0, .inr (0, [.ref rq, .ref oa, .ref pl, .ref dk, .ref rw, .int 0, .int 0, .int (-1)]))]) [0] (by decide) rfl
  refine tw_runV (C := R_TT) (As := [.int x]) (rest := [.int 0, .ref ou]) ⟨hx, hb, hml, hown, ht⟩ (c_TT_erase_th l dC dI s.heap.size Bd hl9 h0 rq oa pl dk rw x) (cwV 1 ht (gV tb_585 tb_586 tb_587 tb_1 tb_588) rfl rfl rfl (by decide +kernel) ⟨Nat.le_of_ble_eq_true rfl, Nat.le_of_ble_eq_true rfl⟩) ⟨frP_blind, va_recv (q := (R_TT, F_TT, 8)) hK hP rfl (show ([(h0, .inr (0, [.ref rq, .ref oa, .ref pl, .ref dk, .ref rw, .int 0, .int 0, .int (-1)]))] : va_W)[0]? = some (h0, .inr (0, [.ref rq, .ref oa, .ref pl, .ref dk, .ref rw, .int 0, .int 0, .int (-1)])) from rfl), fr_pre hPc hKc hDc hAB hBs hS hV⟩ rfl hl.1 rfl (Nat.le_of_ble_eq_true rfl) d_LW_erase_4 ⟨Nat.le_of_ble_eq_true rfl, Nat.le_of_ble_eq_true rfl⟩ (fun xa cellx H1 hx1 hx2 hx3 hx4 hx5 hx6 => ?_)
  refine tw_catch hown ⟨0, 9, 12, 21⟩ [⟨0, 9, 15, 15⟩] (tw_table B (atoms_spec (ws := w_LW_erase) B.pre _ List.mem_cons_self)) (by decide) (by decide) (ht _ tb_451) (va_Nw.use rfl hV.2.1.2) hx2 hx3 hx4 ?_
  have hP : va_P (dC, dI) cls_ [(h0, .inr (0, [.ref rq, .ref oa, .ref pl, .ref dk, .ref rw, .int 0, .int 0, .int (-1)]))] H1 := hP.kept (fun k q hq => hx6 q.1 ((hP k q hq).lt))
  have hS : va_S A s.heap H1 _ := ⟨Nat.le_trans hS.1 hx5, fun q h1 h2 => (hx6 q (Nat.lt_of_lt_of_le h1 hS.1)).trans (hS.2.1 q h1 h2), hS.2.2⟩
  generalize H1 = H at hP hS ⊢
  refine W.cs (cells' := 1) (slots' := 6) rfl rfl ?_
  refine lv_astore_n hx hb d_LW_erase_12 rfl hl (by decide) rfl (fun ls hl => ?_)
  have hl : lv_has ls 4 [(3, .ref xa), (0, .ref h0), (1, .int x), (2, .ref ou)] := hl
  refine lv_iconst (v := 1) hx hb d_LW_erase_13 (by decide) ?_
  have hP9 := hP.sub (ws' := [(h0, .inr (0, [.ref rq, .ref oa, .ref pl, .ref dk, .ref rw, .int 0, .int 0, .int (-1)]))]) [0] rfl
  have hD9 := hD.sub (ws' := [(h0, .inr (0, [.ref rq, .ref oa, .ref pl, .ref dk, .ref rw, .int 0, .int 0, .int (-1)]))]) [0] (by decide) rfl
  have hK9 := hK.sub (tys' := []) [] rfl
  exact W.iret (v := 1) hx hb hr (fun t ht9 hW => ⟨rfl, ⟨by rw [ht9]; exact hP9, va_K.moved hW.alike hK9, hD9⟩, hS.F ht9⟩) hS.2.2 d_LW_erase_14
set_option maxHeartbeats 4000000 in
set_option maxRecDepth 100000 in
theorem c_LW_word_bad (l : Launch) (dC : Nat → ClassId) (dI : Nat → Nat → Nat) (sz Bd : Nat) (hl9 : l.stackTraces = false) (h0 rq oa pl dk rw : Nat) (ou : Nat) (x y : Int32) : Met l y_LW_word w_LW_word ({ frames := 8, cells := 1, slots := 6, locals := 133 }) (frP (dC, dI) [(h0, .inr (0, [.ref rq, .ref oa, .ref pl, .ref dk, .ref rw, .int 0, .int 0, .int (-1)]))] [] sz Bd [.ref h0, .int x, .int y, .ref ou]) (frQ (some (.int 1)) (fun t => va_P (dC, dI) cls_ [(h0, .inr (0, [.ref rq, .ref oa, .ref pl, .ref dk, .ref rw, .int 0, .int 0, .int (-1)]))] t.heap ∧ va_K (dC, dI) cls_ [] t ∧ va_D (va_A [(h0, .inr (0, [.ref rq, .ref oa, .ref pl, .ref dk, .ref rw, .int 0, .int 0, .int (-1)]))] sz) [(h0, .inr (0, [.ref rq, .ref oa, .ref pl, .ref dk, .ref rw, .int 0, .int 0, .int (-1)]))]) (va_A [(h0, .inr (0, [.ref rq, .ref oa, .ref pl, .ref dk, .ref rw, .int 0, .int 0, .int (-1)]))] sz)) 1 6 (va_A [(h0, .inr (0, [.ref rq, .ref oa, .ref pl, .ref dk, .ref rw, .int 0, .int 0, .int (-1)]))] sz) := by
  refine va_MetW (cc := c_LW_word) (maxL := 5) (ret := (some .int)) (hh := [(0, 9, 12, 21)]) (by decide) rfl ?_
  intro p e s m args below meth c s₁ B hml hv
  obtain ⟨rfl, ⟨hsz, hBs⟩, hP, hK, hD0, hV⟩ := hv
  have hx := B.exec
  have hb := B.bytes
  have hr := B.returns
  have ht : ∀ w ∈ tb_, w.before _ s = true := fun w h => atoms_spec (ws := w_LW_word) B.pre w (List.mem_cons_of_mem _ h)
  have hown : s.vm.findClass R_LW = some m.cls := findClass_of_methodNamed B.named
  have hlocks := B.notSynchronized
  subst hsz
  have hD := hD0.self (sz := s.heap.size)
  have hAB : ∀ q, va_A [(h0, .inr (0, [.ref rq, .ref oa, .ref pl, .ref dk, .ref rw, .int 0, .int 0, .int (-1)]))] s.heap.size q → Bd ≤ q := fr_AB hD0 hBs
  generalize hAe : va_A [(h0, .inr (0, [.ref rq, .ref oa, .ref pl, .ref dk, .ref rw, .int 0, .int 0, .int (-1)]))] s.heap.size = A at hD hAB ⊢
  have hA : ∀ q : Nat, s.heap.size ≤ q → A q := fun q h => by rw [← hAe]; exact Or.inr h
  have hS : va_S A s.heap s.heap [] := va_S.rf
  have hAO := hV.2.2.2.1
  have hN_PL := hV.2.2.1.1
  have hN_RW := hV.2.2.1.2
  have hP : va_P (dC, dI) cls_ [(h0, .inr (0, [.ref rq, .ref oa, .ref pl, .ref dk, .ref rw, .int 0, .int 0, .int (-1)]))] s.heap := hP
  have hl := lv_entry ([.ref h0, .int x, .int y, .ref ou]) (n := 5) (Nat.le_of_ble_eq_true rfl)
  rw [lg_entry_eq]
  generalize (lg_sl ([.ref h0, .int x, .int y, .ref ou]) ++ List.replicate (5 - (lg_sl ([.ref h0, .int x, .int y, .ref ou])).length) Slot.unset).toArray = ls at hl ⊢
  have hl : lv_has ls 5 [(0, .ref h0), (1, .int x), (2, .int y), (3, .ref ou)] := hl
  refine lv_aload_n hx hb d_LW_word_0 rfl (lv_at hl 3 rfl) ?_
  refine lv_iconst (v := 0) hx hb d_LW_word_1 (by decide) ?_
  refine lv_aload_n hx hb d_LW_word_2 rfl (lv_at hl 0 rfl) ?_
  refine lv_iload_n hx hb d_LW_word_3 rfl (lv_at hl 1 rfl) ?_
  refine lv_iload_n hx hb d_LW_word_4 rfl (lv_at hl 2 rfl) ?_
  have hPc := hP.sub (ws' := [(h0, .inr (0, [.ref rq, .ref oa, .ref pl, .ref dk, .ref rw, .int 0, .int 0, .int (-1)]))]) [0] rfl
  have hKc := hK.sub (tys' := []) [] rfl
  have hDc := hD.sub (ws' := [(h0, .inr (0, [.ref rq, .ref oa, .ref pl, .ref dk, .ref rw, .int 0, .int 0, .int (-1)]))]) [0] (by decide) rfl
  refine tw_runV (C := R_TT) (As := [.int x, .int y]) (rest := [.int 0, .ref ou]) ⟨hx, hb, hml, hown, ht⟩ (c_TT_word_th l dC dI s.heap.size Bd hl9 h0 rq oa pl dk rw x y) (cwV 2 ht (gV tb_529 tb_530 tb_531 tb_1 tb_532) rfl rfl rfl (by decide +kernel) ⟨Nat.le_of_ble_eq_true rfl, Nat.le_of_ble_eq_true rfl⟩) ⟨frP_blind, va_recv (q := (R_TT, F_TT, 8)) hK hP rfl (show ([(h0, .inr (0, [.ref rq, .ref oa, .ref pl, .ref dk, .ref rw, .int 0, .int 0, .int (-1)]))] : va_W)[0]? = some (h0, .inr (0, [.ref rq, .ref oa, .ref pl, .ref dk, .ref rw, .int 0, .int 0, .int (-1)])) from rfl), fr_pre hPc hKc hDc hAB hBs hS hV⟩ rfl hl.1 rfl (Nat.le_of_ble_eq_true rfl) d_LW_word_5 ⟨Nat.le_of_ble_eq_true rfl, Nat.le_of_ble_eq_true rfl⟩ (fun xa cellx H1 hx1 hx2 hx3 hx4 hx5 hx6 => ?_)
  refine tw_catch hown ⟨0, 9, 12, 21⟩ [] (tw_table B (atoms_spec (ws := w_LW_word) B.pre _ List.mem_cons_self)) (by decide) (by decide) (ht _ tb_451) (va_Nw.use rfl hV.2.1.2) hx2 hx3 hx4 ?_
  have hP : va_P (dC, dI) cls_ [(h0, .inr (0, [.ref rq, .ref oa, .ref pl, .ref dk, .ref rw, .int 0, .int 0, .int (-1)]))] H1 := hP.kept (fun k q hq => hx6 q.1 ((hP k q hq).lt))
  have hS : va_S A s.heap H1 _ := ⟨Nat.le_trans hS.1 hx5, fun q h1 h2 => (hx6 q (Nat.lt_of_lt_of_le h1 hS.1)).trans (hS.2.1 q h1 h2), hS.2.2⟩
  generalize H1 = H at hP hS ⊢
  refine W.cs (cells' := 1) (slots' := 6) rfl rfl ?_
  refine lv_astore hx hb d_LW_word_12 hl (by decide) rfl (fun ls hl => ?_)
  have hl : lv_has ls 5 [(4, .ref xa), (0, .ref h0), (1, .int x), (2, .int y), (3, .ref ou)] := hl
  refine lv_iconst (v := 1) hx hb d_LW_word_14 (by decide) ?_
  have hP9 := hP.sub (ws' := [(h0, .inr (0, [.ref rq, .ref oa, .ref pl, .ref dk, .ref rw, .int 0, .int 0, .int (-1)]))]) [0] rfl
  have hD9 := hD.sub (ws' := [(h0, .inr (0, [.ref rq, .ref oa, .ref pl, .ref dk, .ref rw, .int 0, .int 0, .int (-1)]))]) [0] (by decide) rfl
  have hK9 := hK.sub (tys' := []) [] rfl
  exact W.iret (v := 1) hx hb hr (fun t ht9 hW => ⟨rfl, ⟨by rw [ht9]; exact hP9, va_K.moved hW.alike hK9, hD9⟩, hS.F ht9⟩) hS.2.2 d_LW_word_15
set_option maxHeartbeats 4000000 in
set_option maxRecDepth 100000 in
theorem c_LW_bookmark_bad (l : Launch) (dC : Nat → ClassId) (dI : Nat → Nat → Nat) (sz Bd : Nat) (hl9 : l.stackTraces = false) (h0 rq oa pl dk rw : Nat) (ou : Nat) (x y : Int32) : Met l y_LW_bookmark w_LW_bookmark ({ frames := 8, cells := 1, slots := 6, locals := 134 }) (frP (dC, dI) [(h0, .inr (0, [.ref rq, .ref oa, .ref pl, .ref dk, .ref rw, .int 0, .int 0, .int (-1)]))] [] sz Bd [.ref h0, .int x, .int y, .ref ou]) (frQ (some (.int 1)) (fun t => va_P (dC, dI) cls_ [(h0, .inr (0, [.ref rq, .ref oa, .ref pl, .ref dk, .ref rw, .int 0, .int 0, .int (-1)]))] t.heap ∧ va_K (dC, dI) cls_ [] t ∧ va_D (va_A [(h0, .inr (0, [.ref rq, .ref oa, .ref pl, .ref dk, .ref rw, .int 0, .int 0, .int (-1)]))] sz) [(h0, .inr (0, [.ref rq, .ref oa, .ref pl, .ref dk, .ref rw, .int 0, .int 0, .int (-1)]))]) (va_A [(h0, .inr (0, [.ref rq, .ref oa, .ref pl, .ref dk, .ref rw, .int 0, .int 0, .int (-1)]))] sz)) 1 6 (va_A [(h0, .inr (0, [.ref rq, .ref oa, .ref pl, .ref dk, .ref rw, .int 0, .int 0, .int (-1)]))] sz) := by
  refine va_MetW (cc := c_LW_bookmark) (maxL := 5) (ret := (some .int)) (hh := [(0, 10, 13, 21), (0, 10, 17, 13), (0, 10, 21, 15)]) (by decide) rfl ?_
  intro p e s m args below meth c s₁ B hml hv
  obtain ⟨rfl, ⟨hsz, hBs⟩, hP, hK, hD0, hV⟩ := hv
  have hx := B.exec
  have hb := B.bytes
  have hr := B.returns
  have ht : ∀ w ∈ tb_, w.before _ s = true := fun w h => atoms_spec (ws := w_LW_bookmark) B.pre w (List.mem_cons_of_mem _ h)
  have hown : s.vm.findClass R_LW = some m.cls := findClass_of_methodNamed B.named
  have hlocks := B.notSynchronized
  subst hsz
  have hD := hD0.self (sz := s.heap.size)
  have hAB : ∀ q, va_A [(h0, .inr (0, [.ref rq, .ref oa, .ref pl, .ref dk, .ref rw, .int 0, .int 0, .int (-1)]))] s.heap.size q → Bd ≤ q := fr_AB hD0 hBs
  generalize hAe : va_A [(h0, .inr (0, [.ref rq, .ref oa, .ref pl, .ref dk, .ref rw, .int 0, .int 0, .int (-1)]))] s.heap.size = A at hD hAB ⊢
  have hA : ∀ q : Nat, s.heap.size ≤ q → A q := fun q h => by rw [← hAe]; exact Or.inr h
  have hS : va_S A s.heap s.heap [] := va_S.rf
  have hAO := hV.2.2.2.1
  have hN_PL := hV.2.2.1.1
  have hN_RW := hV.2.2.1.2
  have hP : va_P (dC, dI) cls_ [(h0, .inr (0, [.ref rq, .ref oa, .ref pl, .ref dk, .ref rw, .int 0, .int 0, .int (-1)]))] s.heap := hP
  have hl := lv_entry ([.ref h0, .int x, .int y, .ref ou]) (n := 5) (Nat.le_of_ble_eq_true rfl)
  rw [lg_entry_eq]
  generalize (lg_sl ([.ref h0, .int x, .int y, .ref ou]) ++ List.replicate (5 - (lg_sl ([.ref h0, .int x, .int y, .ref ou])).length) Slot.unset).toArray = ls at hl ⊢
  have hl : lv_has ls 5 [(0, .ref h0), (1, .int x), (2, .int y), (3, .ref ou)] := hl
  refine lv_aload_n hx hb d_LW_bookmark_0 rfl (lv_at hl 3 rfl) ?_
  refine lv_iconst (v := 0) hx hb d_LW_bookmark_1 (by decide) ?_
  refine lv_aload_n hx hb d_LW_bookmark_2 rfl (lv_at hl 0 rfl) ?_
  refine lv_iload_n hx hb d_LW_bookmark_3 rfl (lv_at hl 1 rfl) ?_
  refine lv_iload_n hx hb d_LW_bookmark_4 rfl (lv_at hl 2 rfl) ?_
  have hPc := hP.sub (ws' := [(h0, .inr (0, [.ref rq, .ref oa, .ref pl, .ref dk, .ref rw, .int 0, .int 0, .int (-1)]))]) [0] rfl
  have hKc := hK.sub (tys' := []) [] rfl
  have hDc := hD.sub (ws' := [(h0, .inr (0, [.ref rq, .ref oa, .ref pl, .ref dk, .ref rw, .int 0, .int 0, .int (-1)]))]) [0] (by decide) rfl
  refine tw_runV (C := R_TT) (As := [.int x, .int y]) (rest := [.int 0, .ref ou]) ⟨hx, hb, hml, hown, ht⟩ (c_TT_bookmark_th l dC dI s.heap.size Bd hl9 h0 rq oa pl dk rw x y) (cwV 2 ht (gV tb_593 tb_594 tb_595 tb_1 tb_596) rfl rfl rfl (by decide +kernel) ⟨Nat.le_of_ble_eq_true rfl, Nat.le_of_ble_eq_true rfl⟩) ⟨frP_blind, va_recv (q := (R_TT, F_TT, 8)) hK hP rfl (show ([(h0, .inr (0, [.ref rq, .ref oa, .ref pl, .ref dk, .ref rw, .int 0, .int 0, .int (-1)]))] : va_W)[0]? = some (h0, .inr (0, [.ref rq, .ref oa, .ref pl, .ref dk, .ref rw, .int 0, .int 0, .int (-1)])) from rfl), fr_pre hPc hKc hDc hAB hBs hS hV⟩ rfl hl.1 rfl (Nat.le_of_ble_eq_true rfl) d_LW_bookmark_5 ⟨Nat.le_of_ble_eq_true rfl, Nat.le_of_ble_eq_true rfl⟩ (fun xa cellx H1 hx1 hx2 hx3 hx4 hx5 hx6 => ?_)
  refine tw_catch hown ⟨0, 10, 13, 21⟩ [⟨0, 10, 17, 13⟩, ⟨0, 10, 21, 15⟩] (tw_table B (atoms_spec (ws := w_LW_bookmark) B.pre _ List.mem_cons_self)) (by decide) (by decide) (ht _ tb_451) (va_Nw.use rfl hV.2.1.2) hx2 hx3 hx4 ?_
  have hP : va_P (dC, dI) cls_ [(h0, .inr (0, [.ref rq, .ref oa, .ref pl, .ref dk, .ref rw, .int 0, .int 0, .int (-1)]))] H1 := hP.kept (fun k q hq => hx6 q.1 ((hP k q hq).lt))
  have hS : va_S A s.heap H1 _ := ⟨Nat.le_trans hS.1 hx5, fun q h1 h2 => (hx6 q (Nat.lt_of_lt_of_le h1 hS.1)).trans (hS.2.1 q h1 h2), hS.2.2⟩
  generalize H1 = H at hP hS ⊢
  refine W.cs (cells' := 1) (slots' := 6) rfl rfl ?_
  refine lv_astore hx hb d_LW_bookmark_13 hl (by decide) rfl (fun ls hl => ?_)
  have hl : lv_has ls 5 [(4, .ref xa), (0, .ref h0), (1, .int x), (2, .int y), (3, .ref ou)] := hl
  refine lv_iconst (v := 1) hx hb d_LW_bookmark_15 (by decide) ?_
  have hP9 := hP.sub (ws' := [(h0, .inr (0, [.ref rq, .ref oa, .ref pl, .ref dk, .ref rw, .int 0, .int 0, .int (-1)]))]) [0] rfl
  have hD9 := hD.sub (ws' := [(h0, .inr (0, [.ref rq, .ref oa, .ref pl, .ref dk, .ref rw, .int 0, .int 0, .int (-1)]))]) [0] (by decide) rfl
  have hK9 := hK.sub (tys' := []) [] rfl
  exact W.iret (v := 1) hx hb hr (fun t ht9 hW => ⟨rfl, ⟨by rw [ht9]; exact hP9, va_K.moved hW.alike hK9, hD9⟩, hS.F ht9⟩) hS.2.2 d_LW_bookmark_16
set_option maxHeartbeats 4000000 in
set_option maxRecDepth 100000 in
theorem c_LW_bookmarkAt_bad (l : Launch) (dC : Nat → ClassId) (dI : Nat → Nat → Nat) (sz Bd : Nat) (hl9 : l.stackTraces = false) (h0 rq oa pl dk rw : Nat) (ou : Nat) (x y : Int32) : Met l y_LW_bookmarkAt w_LW_bookmarkAt ({ frames := 8, cells := 1, slots := 6, locals := 134 }) (frP (dC, dI) [(h0, .inr (0, [.ref rq, .ref oa, .ref pl, .ref dk, .ref rw, .int 0, .int 0, .int (-1)]))] [] sz Bd [.ref h0, .int x, .int y, .ref ou]) (frQ (some (.int 1)) (fun t => va_P (dC, dI) cls_ [(h0, .inr (0, [.ref rq, .ref oa, .ref pl, .ref dk, .ref rw, .int 0, .int 0, .int (-1)]))] t.heap ∧ va_K (dC, dI) cls_ [] t ∧ va_D (va_A [(h0, .inr (0, [.ref rq, .ref oa, .ref pl, .ref dk, .ref rw, .int 0, .int 0, .int (-1)]))] sz) [(h0, .inr (0, [.ref rq, .ref oa, .ref pl, .ref dk, .ref rw, .int 0, .int 0, .int (-1)]))]) (va_A [(h0, .inr (0, [.ref rq, .ref oa, .ref pl, .ref dk, .ref rw, .int 0, .int 0, .int (-1)]))] sz)) 1 6 (va_A [(h0, .inr (0, [.ref rq, .ref oa, .ref pl, .ref dk, .ref rw, .int 0, .int 0, .int (-1)]))] sz) := by
  refine va_MetW (cc := c_LW_bookmarkAt) (maxL := 5) (ret := (some .int)) (hh := [(0, 10, 13, 21)]) (by decide) rfl ?_
  intro p e s m args below meth c s₁ B hml hv
  obtain ⟨rfl, ⟨hsz, hBs⟩, hP, hK, hD0, hV⟩ := hv
  have hx := B.exec
  have hb := B.bytes
  have hr := B.returns
  have ht : ∀ w ∈ tb_, w.before _ s = true := fun w h => atoms_spec (ws := w_LW_bookmarkAt) B.pre w (List.mem_cons_of_mem _ h)
  have hown : s.vm.findClass R_LW = some m.cls := findClass_of_methodNamed B.named
  have hlocks := B.notSynchronized
  subst hsz
  have hD := hD0.self (sz := s.heap.size)
  have hAB : ∀ q, va_A [(h0, .inr (0, [.ref rq, .ref oa, .ref pl, .ref dk, .ref rw, .int 0, .int 0, .int (-1)]))] s.heap.size q → Bd ≤ q := fr_AB hD0 hBs
  generalize hAe : va_A [(h0, .inr (0, [.ref rq, .ref oa, .ref pl, .ref dk, .ref rw, .int 0, .int 0, .int (-1)]))] s.heap.size = A at hD hAB ⊢
  have hA : ∀ q : Nat, s.heap.size ≤ q → A q := fun q h => by rw [← hAe]; exact Or.inr h
  have hS : va_S A s.heap s.heap [] := va_S.rf
  have hAO := hV.2.2.2.1
  have hN_PL := hV.2.2.1.1
  have hN_RW := hV.2.2.1.2
  have hP : va_P (dC, dI) cls_ [(h0, .inr (0, [.ref rq, .ref oa, .ref pl, .ref dk, .ref rw, .int 0, .int 0, .int (-1)]))] s.heap := hP
  have hl := lv_entry ([.ref h0, .int x, .int y, .ref ou]) (n := 5) (Nat.le_of_ble_eq_true rfl)
  rw [lg_entry_eq]
  generalize (lg_sl ([.ref h0, .int x, .int y, .ref ou]) ++ List.replicate (5 - (lg_sl ([.ref h0, .int x, .int y, .ref ou])).length) Slot.unset).toArray = ls at hl ⊢
  have hl : lv_has ls 5 [(0, .ref h0), (1, .int x), (2, .int y), (3, .ref ou)] := hl
  refine lv_aload_n hx hb d_LW_bookmarkAt_0 rfl (lv_at hl 3 rfl) ?_
  refine lv_iconst (v := 0) hx hb d_LW_bookmarkAt_1 (by decide) ?_
  refine lv_aload_n hx hb d_LW_bookmarkAt_2 rfl (lv_at hl 0 rfl) ?_
  refine lv_iload_n hx hb d_LW_bookmarkAt_3 rfl (lv_at hl 1 rfl) ?_
  refine lv_iload_n hx hb d_LW_bookmarkAt_4 rfl (lv_at hl 2 rfl) ?_
  have hPc := hP.sub (ws' := [(h0, .inr (0, [.ref rq, .ref oa, .ref pl, .ref dk, .ref rw, .int 0, .int 0, .int (-1)]))]) [0] rfl
  have hKc := hK.sub (tys' := []) [] rfl
  have hDc := hD.sub (ws' := [(h0, .inr (0, [.ref rq, .ref oa, .ref pl, .ref dk, .ref rw, .int 0, .int 0, .int (-1)]))]) [0] (by decide) rfl
  refine tw_runV (C := R_TT) (As := [.int x, .int y]) (rest := [.int 0, .ref ou]) ⟨hx, hb, hml, hown, ht⟩ (c_TT_bookmarkAt_th l dC dI s.heap.size Bd hl9 h0 rq oa pl dk rw x y) (cwV 2 ht (gV tb_606 tb_607 tb_608 tb_1 tb_609) rfl rfl rfl (by decide +kernel) ⟨Nat.le_of_ble_eq_true rfl, Nat.le_of_ble_eq_true rfl⟩) ⟨frP_blind, va_recv (q := (R_TT, F_TT, 8)) hK hP rfl (show ([(h0, .inr (0, [.ref rq, .ref oa, .ref pl, .ref dk, .ref rw, .int 0, .int 0, .int (-1)]))] : va_W)[0]? = some (h0, .inr (0, [.ref rq, .ref oa, .ref pl, .ref dk, .ref rw, .int 0, .int 0, .int (-1)])) from rfl), fr_pre hPc hKc hDc hAB hBs hS hV⟩ rfl hl.1 rfl (Nat.le_of_ble_eq_true rfl) d_LW_bookmarkAt_5 ⟨Nat.le_of_ble_eq_true rfl, Nat.le_of_ble_eq_true rfl⟩ (fun xa cellx H1 hx1 hx2 hx3 hx4 hx5 hx6 => ?_)
  refine tw_catch hown ⟨0, 10, 13, 21⟩ [] (tw_table B (atoms_spec (ws := w_LW_bookmarkAt) B.pre _ List.mem_cons_self)) (by decide) (by decide) (ht _ tb_451) (va_Nw.use rfl hV.2.1.2) hx2 hx3 hx4 ?_
  have hP : va_P (dC, dI) cls_ [(h0, .inr (0, [.ref rq, .ref oa, .ref pl, .ref dk, .ref rw, .int 0, .int 0, .int (-1)]))] H1 := hP.kept (fun k q hq => hx6 q.1 ((hP k q hq).lt))
  have hS : va_S A s.heap H1 _ := ⟨Nat.le_trans hS.1 hx5, fun q h1 h2 => (hx6 q (Nat.lt_of_lt_of_le h1 hS.1)).trans (hS.2.1 q h1 h2), hS.2.2⟩
  generalize H1 = H at hP hS ⊢
  refine W.cs (cells' := 1) (slots' := 6) rfl rfl ?_
  refine lv_astore hx hb d_LW_bookmarkAt_13 hl (by decide) rfl (fun ls hl => ?_)
  have hl : lv_has ls 5 [(4, .ref xa), (0, .ref h0), (1, .int x), (2, .int y), (3, .ref ou)] := hl
  refine lv_iconst (v := 1) hx hb d_LW_bookmarkAt_15 (by decide) ?_
  have hP9 := hP.sub (ws' := [(h0, .inr (0, [.ref rq, .ref oa, .ref pl, .ref dk, .ref rw, .int 0, .int 0, .int (-1)]))]) [0] rfl
  have hD9 := hD.sub (ws' := [(h0, .inr (0, [.ref rq, .ref oa, .ref pl, .ref dk, .ref rw, .int 0, .int 0, .int (-1)]))]) [0] (by decide) rfl
  have hK9 := hK.sub (tys' := []) [] rfl
  exact W.iret (v := 1) hx hb hr (fun t ht9 hW => ⟨rfl, ⟨by rw [ht9]; exact hP9, va_K.moved hW.alike hK9, hD9⟩, hS.F ht9⟩) hS.2.2 d_LW_bookmarkAt_16
set_option maxHeartbeats 4000000 in
set_option maxRecDepth 100000 in
theorem c_LW_protect_bad (l : Launch) (dC : Nat → ClassId) (dI : Nat → Nat → Nat) (sz Bd : Nat) (hl9 : l.stackTraces = false) (h0 rq oa pl dk rw : Nat) (ou : Nat) (x y : Int32) : Met l y_LW_protect w_LW_protect ({ frames := 9, cells := 1, slots := 6, locals := 155 }) (frP (dC, dI) [(h0, .inr (0, [.ref rq, .ref oa, .ref pl, .ref dk, .ref rw, .int 0, .int 0, .int (-1)]))] [] sz Bd [.ref h0, .int x, .int y]) (frQ (some (.int 1)) (fun t => va_P (dC, dI) cls_ [(h0, .inr (0, [.ref rq, .ref oa, .ref pl, .ref dk, .ref rw, .int 0, .int 0, .int (-1)]))] t.heap ∧ va_K (dC, dI) cls_ [] t ∧ va_D (va_A [(h0, .inr (0, [.ref rq, .ref oa, .ref pl, .ref dk, .ref rw, .int 0, .int 0, .int (-1)]))] sz) [(h0, .inr (0, [.ref rq, .ref oa, .ref pl, .ref dk, .ref rw, .int 0, .int 0, .int (-1)]))]) (va_A [(h0, .inr (0, [.ref rq, .ref oa, .ref pl, .ref dk, .ref rw, .int 0, .int 0, .int (-1)]))] sz)) 1 6 (va_A [(h0, .inr (0, [.ref rq, .ref oa, .ref pl, .ref dk, .ref rw, .int 0, .int 0, .int (-1)]))] sz) := by
  refine va_MetW (cc := c_LW_protect) (maxL := 4) (ret := (some .int)) (hh := [(0, 6, 9, 21), (0, 6, 12, 15)]) (by decide) rfl ?_
  intro p e s m args below meth c s₁ B hml hv
  obtain ⟨rfl, ⟨hsz, hBs⟩, hP, hK, hD0, hV⟩ := hv
  have hx := B.exec
  have hb := B.bytes
  have hr := B.returns
  have ht : ∀ w ∈ tb_, w.before _ s = true := fun w h => atoms_spec (ws := w_LW_protect) B.pre w (List.mem_cons_of_mem _ h)
  have hown : s.vm.findClass R_LW = some m.cls := findClass_of_methodNamed B.named
  have hlocks := B.notSynchronized
  subst hsz
  have hD := hD0.self (sz := s.heap.size)
  have hAB : ∀ q, va_A [(h0, .inr (0, [.ref rq, .ref oa, .ref pl, .ref dk, .ref rw, .int 0, .int 0, .int (-1)]))] s.heap.size q → Bd ≤ q := fr_AB hD0 hBs
  generalize hAe : va_A [(h0, .inr (0, [.ref rq, .ref oa, .ref pl, .ref dk, .ref rw, .int 0, .int 0, .int (-1)]))] s.heap.size = A at hD hAB ⊢
  have hA : ∀ q : Nat, s.heap.size ≤ q → A q := fun q h => by rw [← hAe]; exact Or.inr h
  have hS : va_S A s.heap s.heap [] := va_S.rf
  have hAO := hV.2.2.2.1
  have hN_PL := hV.2.2.1.1
  have hN_RW := hV.2.2.1.2
  have hP : va_P (dC, dI) cls_ [(h0, .inr (0, [.ref rq, .ref oa, .ref pl, .ref dk, .ref rw, .int 0, .int 0, .int (-1)]))] s.heap := hP
  have hl := lv_entry ([.ref h0, .int x, .int y]) (n := 4) (Nat.le_of_ble_eq_true rfl)
  rw [lg_entry_eq]
  generalize (lg_sl ([.ref h0, .int x, .int y]) ++ List.replicate (4 - (lg_sl ([.ref h0, .int x, .int y])).length) Slot.unset).toArray = ls at hl ⊢
  have hl : lv_has ls 4 [(0, .ref h0), (1, .int x), (2, .int y)] := hl
  refine lv_aload_n hx hb d_LW_protect_0 rfl (lv_at hl 0 rfl) ?_
  refine lv_iload_n hx hb d_LW_protect_1 rfl (lv_at hl 1 rfl) ?_
  refine lv_iload_n hx hb d_LW_protect_2 rfl (lv_at hl 2 rfl) ?_
  have hPc := hP.sub (ws' := [(h0, .inr (0, [.ref rq, .ref oa, .ref pl, .ref dk, .ref rw, .int 0, .int 0, .int (-1)]))]) [0] rfl
  have hKc := hK.sub (tys' := []) [] rfl
  have hDc := hD.sub (ws' := [(h0, .inr (0, [.ref rq, .ref oa, .ref pl, .ref dk, .ref rw, .int 0, .int 0, .int (-1)]))]) [0] (by decide) rfl
  refine tw_runV (C := R_TT) (As := [.int x, .int y]) (rest := []) ⟨hx, hb, hml, hown, ht⟩ (c_TT_protect_th l dC dI s.heap.size Bd hl9 h0 rq oa pl dk rw x y) (cwV 2 ht (gV tb_562 tb_563 tb_564 tb_1 tb_565) rfl rfl rfl (by decide +kernel) ⟨Nat.le_of_ble_eq_true rfl, Nat.le_of_ble_eq_true rfl⟩) ⟨frP_blind, va_recv (q := (R_TT, F_TT, 8)) hK hP rfl (show ([(h0, .inr (0, [.ref rq, .ref oa, .ref pl, .ref dk, .ref rw, .int 0, .int 0, .int (-1)]))] : va_W)[0]? = some (h0, .inr (0, [.ref rq, .ref oa, .ref pl, .ref dk, .ref rw, .int 0, .int 0, .int (-1)])) from rfl), fr_pre hPc hKc hDc hAB hBs hS hV⟩ rfl hl.1 rfl (Nat.le_of_ble_eq_true rfl) d_LW_protect_3 ⟨Nat.le_of_ble_eq_true rfl, Nat.le_of_ble_eq_true rfl⟩ (fun xa cellx H1 hx1 hx2 hx3 hx4 hx5 hx6 => ?_)
  refine tw_catch hown ⟨0, 6, 9, 21⟩ [⟨0, 6, 12, 15⟩] (tw_table B (atoms_spec (ws := w_LW_protect) B.pre _ List.mem_cons_self)) (by decide) (by decide) (ht _ tb_451) (va_Nw.use rfl hV.2.1.2) hx2 hx3 hx4 ?_
  have hP : va_P (dC, dI) cls_ [(h0, .inr (0, [.ref rq, .ref oa, .ref pl, .ref dk, .ref rw, .int 0, .int 0, .int (-1)]))] H1 := hP.kept (fun k q hq => hx6 q.1 ((hP k q hq).lt))
  have hS : va_S A s.heap H1 _ := ⟨Nat.le_trans hS.1 hx5, fun q h1 h2 => (hx6 q (Nat.lt_of_lt_of_le h1 hS.1)).trans (hS.2.1 q h1 h2), hS.2.2⟩
  generalize H1 = H at hP hS ⊢
  refine W.cs (cells' := 1) (slots' := 6) rfl rfl ?_
  refine lv_astore_n hx hb d_LW_protect_9 rfl hl (by decide) rfl (fun ls hl => ?_)
  have hl : lv_has ls 4 [(3, .ref xa), (0, .ref h0), (1, .int x), (2, .int y)] := hl
  refine lv_iconst (v := 1) hx hb d_LW_protect_10 (by decide) ?_
  have hP9 := hP.sub (ws' := [(h0, .inr (0, [.ref rq, .ref oa, .ref pl, .ref dk, .ref rw, .int 0, .int 0, .int (-1)]))]) [0] rfl
  have hD9 := hD.sub (ws' := [(h0, .inr (0, [.ref rq, .ref oa, .ref pl, .ref dk, .ref rw, .int 0, .int 0, .int (-1)]))]) [0] (by decide) rfl
  have hK9 := hK.sub (tys' := []) [] rfl
  exact W.iret (v := 1) hx hb hr (fun t ht9 hW => ⟨rfl, ⟨by rw [ht9]; exact hP9, va_K.moved hW.alike hK9, hD9⟩, hS.F ht9⟩) hS.2.2 d_LW_protect_11
set_option maxHeartbeats 4000000 in
set_option maxRecDepth 100000 in
theorem c_LW_seen_bad (l : Launch) (dC : Nat → ClassId) (dI : Nat → Nat → Nat) (sz Bd : Nat) (hl9 : l.stackTraces = false) (h0 rq oa pl dk rw : Nat) (ou : Nat) (x y : Int32) : Met l y_LW_seen w_LW_seen ({ frames := 9, cells := 1, slots := 6, locals := 155 }) (frP (dC, dI) [(h0, .inr (0, [.ref rq, .ref oa, .ref pl, .ref dk, .ref rw, .int 0, .int 0, .int (-1)]))] [] sz Bd [.ref h0, .int x, .int y]) (frQ (some (.int 1)) (fun t => va_P (dC, dI) cls_ [(h0, .inr (0, [.ref rq, .ref oa, .ref pl, .ref dk, .ref rw, .int 0, .int 0, .int (-1)]))] t.heap ∧ va_K (dC, dI) cls_ [] t ∧ va_D (va_A [(h0, .inr (0, [.ref rq, .ref oa, .ref pl, .ref dk, .ref rw, .int 0, .int 0, .int (-1)]))] sz) [(h0, .inr (0, [.ref rq, .ref oa, .ref pl, .ref dk, .ref rw, .int 0, .int 0, .int (-1)]))]) (va_A [(h0, .inr (0, [.ref rq, .ref oa, .ref pl, .ref dk, .ref rw, .int 0, .int 0, .int (-1)]))] sz)) 1 6 (va_A [(h0, .inr (0, [.ref rq, .ref oa, .ref pl, .ref dk, .ref rw, .int 0, .int 0, .int (-1)]))] sz) := by
  refine va_MetW (cc := c_LW_seen) (maxL := 4) (ret := (some .int)) (hh := [(0, 6, 9, 21), (0, 6, 12, 15)]) (by decide) rfl ?_
  intro p e s m args below meth c s₁ B hml hv
  obtain ⟨rfl, ⟨hsz, hBs⟩, hP, hK, hD0, hV⟩ := hv
  have hx := B.exec
  have hb := B.bytes
  have hr := B.returns
  have ht : ∀ w ∈ tb_, w.before _ s = true := fun w h => atoms_spec (ws := w_LW_seen) B.pre w (List.mem_cons_of_mem _ h)
  have hown : s.vm.findClass R_LW = some m.cls := findClass_of_methodNamed B.named
  have hlocks := B.notSynchronized
  subst hsz
  have hD := hD0.self (sz := s.heap.size)
  have hAB : ∀ q, va_A [(h0, .inr (0, [.ref rq, .ref oa, .ref pl, .ref dk, .ref rw, .int 0, .int 0, .int (-1)]))] s.heap.size q → Bd ≤ q := fr_AB hD0 hBs
  generalize hAe : va_A [(h0, .inr (0, [.ref rq, .ref oa, .ref pl, .ref dk, .ref rw, .int 0, .int 0, .int (-1)]))] s.heap.size = A at hD hAB ⊢
  have hA : ∀ q : Nat, s.heap.size ≤ q → A q := fun q h => by rw [← hAe]; exact Or.inr h
  have hS : va_S A s.heap s.heap [] := va_S.rf
  have hAO := hV.2.2.2.1
  have hN_PL := hV.2.2.1.1
  have hN_RW := hV.2.2.1.2
  have hP : va_P (dC, dI) cls_ [(h0, .inr (0, [.ref rq, .ref oa, .ref pl, .ref dk, .ref rw, .int 0, .int 0, .int (-1)]))] s.heap := hP
  have hl := lv_entry ([.ref h0, .int x, .int y]) (n := 4) (Nat.le_of_ble_eq_true rfl)
  rw [lg_entry_eq]
  generalize (lg_sl ([.ref h0, .int x, .int y]) ++ List.replicate (4 - (lg_sl ([.ref h0, .int x, .int y])).length) Slot.unset).toArray = ls at hl ⊢
  have hl : lv_has ls 4 [(0, .ref h0), (1, .int x), (2, .int y)] := hl
  refine lv_aload_n hx hb d_LW_seen_0 rfl (lv_at hl 0 rfl) ?_
  refine lv_iload_n hx hb d_LW_seen_1 rfl (lv_at hl 1 rfl) ?_
  refine lv_iload_n hx hb d_LW_seen_2 rfl (lv_at hl 2 rfl) ?_
  have hPc := hP.sub (ws' := [(h0, .inr (0, [.ref rq, .ref oa, .ref pl, .ref dk, .ref rw, .int 0, .int 0, .int (-1)]))]) [0] rfl
  have hKc := hK.sub (tys' := []) [] rfl
  have hDc := hD.sub (ws' := [(h0, .inr (0, [.ref rq, .ref oa, .ref pl, .ref dk, .ref rw, .int 0, .int 0, .int (-1)]))]) [0] (by decide) rfl
  refine tw_runV (C := R_TT) (As := [.int x, .int y]) (rest := []) ⟨hx, hb, hml, hown, ht⟩ (c_TT_seen_th l dC dI s.heap.size Bd hl9 h0 rq oa pl dk rw x y) (cwV 2 ht (gV tb_578 tb_579 tb_580 tb_1 tb_581) rfl rfl rfl (by decide +kernel) ⟨Nat.le_of_ble_eq_true rfl, Nat.le_of_ble_eq_true rfl⟩) ⟨frP_blind, va_recv (q := (R_TT, F_TT, 8)) hK hP rfl (show ([(h0, .inr (0, [.ref rq, .ref oa, .ref pl, .ref dk, .ref rw, .int 0, .int 0, .int (-1)]))] : va_W)[0]? = some (h0, .inr (0, [.ref rq, .ref oa, .ref pl, .ref dk, .ref rw, .int 0, .int 0, .int (-1)])) from rfl), fr_pre hPc hKc hDc hAB hBs hS hV⟩ rfl hl.1 rfl (Nat.le_of_ble_eq_true rfl) d_LW_seen_3 ⟨Nat.le_of_ble_eq_true rfl, Nat.le_of_ble_eq_true rfl⟩ (fun xa cellx H1 hx1 hx2 hx3 hx4 hx5 hx6 => ?_)
  refine tw_catch hown ⟨0, 6, 9, 21⟩ [⟨0, 6, 12, 15⟩] (tw_table B (atoms_spec (ws := w_LW_seen) B.pre _ List.mem_cons_self)) (by decide) (by decide) (ht _ tb_451) (va_Nw.use rfl hV.2.1.2) hx2 hx3 hx4 ?_
  have hP : va_P (dC, dI) cls_ [(h0, .inr (0, [.ref rq, .ref oa, .ref pl, .ref dk, .ref rw, .int 0, .int 0, .int (-1)]))] H1 := hP.kept (fun k q hq => hx6 q.1 ((hP k q hq).lt))
  have hS : va_S A s.heap H1 _ := ⟨Nat.le_trans hS.1 hx5, fun q h1 h2 => (hx6 q (Nat.lt_of_lt_of_le h1 hS.1)).trans (hS.2.1 q h1 h2), hS.2.2⟩
  generalize H1 = H at hP hS ⊢
  refine W.cs (cells' := 1) (slots' := 6) rfl rfl ?_
  refine lv_astore_n hx hb d_LW_seen_9 rfl hl (by decide) rfl (fun ls hl => ?_)
  have hl : lv_has ls 4 [(3, .ref xa), (0, .ref h0), (1, .int x), (2, .int y)] := hl
  refine lv_iconst (v := 1) hx hb d_LW_seen_10 (by decide) ?_
  have hP9 := hP.sub (ws' := [(h0, .inr (0, [.ref rq, .ref oa, .ref pl, .ref dk, .ref rw, .int 0, .int 0, .int (-1)]))]) [0] rfl
  have hD9 := hD.sub (ws' := [(h0, .inr (0, [.ref rq, .ref oa, .ref pl, .ref dk, .ref rw, .int 0, .int 0, .int (-1)]))]) [0] (by decide) rfl
  have hK9 := hK.sub (tys' := []) [] rfl
  exact W.iret (v := 1) hx hb hr (fun t ht9 hW => ⟨rfl, ⟨by rw [ht9]; exact hP9, va_K.moved hW.alike hK9, hD9⟩, hS.F ht9⟩) hS.2.2 d_LW_seen_11
set_option maxHeartbeats 4000000 in
set_option maxRecDepth 100000 in
theorem c_LW_air_bad (l : Launch) (dC : Nat → ClassId) (dI : Nat → Nat → Nat) (sz Bd : Nat) (hl9 : l.stackTraces = false) (h0 rq oa pl dk rw : Nat) (x y : Int32) (h : ¬ (0 ≤ x ∧ x ≤ 7)) : Met l y_LW_air w_LW_air ({ frames := 7, cells := 1, slots := 6, locals := 112 }) (frP (dC, dI) [(h0, .inr (0, [.ref rq, .ref oa, .ref pl, .ref dk, .ref rw, .int 0, .int 0, .int (-1)]))] [] sz Bd [.ref h0, .int x, .int y]) (frQ (some (.int 1)) (fun t => va_P (dC, dI) cls_ [(h0, .inr (0, [.ref rq, .ref oa, .ref pl, .ref dk, .ref rw, .int 0, .int 0, .int (-1)]))] t.heap ∧ va_K (dC, dI) cls_ [] t ∧ va_D (va_A [(h0, .inr (0, [.ref rq, .ref oa, .ref pl, .ref dk, .ref rw, .int 0, .int 0, .int (-1)]))] sz) [(h0, .inr (0, [.ref rq, .ref oa, .ref pl, .ref dk, .ref rw, .int 0, .int 0, .int (-1)]))]) (va_A [(h0, .inr (0, [.ref rq, .ref oa, .ref pl, .ref dk, .ref rw, .int 0, .int 0, .int (-1)]))] sz)) 1 6 (va_A [(h0, .inr (0, [.ref rq, .ref oa, .ref pl, .ref dk, .ref rw, .int 0, .int 0, .int (-1)]))] sz) := by
  refine va_MetW (cc := c_LW_air) (maxL := 4) (ret := (some .int)) (hh := [(0, 6, 9, 21)]) (by decide) rfl ?_
  intro p e s m args below meth c s₁ B hml hv
  obtain ⟨rfl, ⟨hsz, hBs⟩, hP, hK, hD0, hV⟩ := hv
  have hx := B.exec
  have hb := B.bytes
  have hr := B.returns
  have ht : ∀ w ∈ tb_, w.before _ s = true := fun w h => atoms_spec (ws := w_LW_air) B.pre w (List.mem_cons_of_mem _ h)
  have hown : s.vm.findClass R_LW = some m.cls := findClass_of_methodNamed B.named
  have hlocks := B.notSynchronized
  subst hsz
  have hD := hD0.self (sz := s.heap.size)
  have hAB : ∀ q, va_A [(h0, .inr (0, [.ref rq, .ref oa, .ref pl, .ref dk, .ref rw, .int 0, .int 0, .int (-1)]))] s.heap.size q → Bd ≤ q := fr_AB hD0 hBs
  generalize hAe : va_A [(h0, .inr (0, [.ref rq, .ref oa, .ref pl, .ref dk, .ref rw, .int 0, .int 0, .int (-1)]))] s.heap.size = A at hD hAB ⊢
  have hA : ∀ q : Nat, s.heap.size ≤ q → A q := fun q h => by rw [← hAe]; exact Or.inr h
  have hS : va_S A s.heap s.heap [] := va_S.rf
  have hAO := hV.2.2.2.1
  have hN_PL := hV.2.2.1.1
  have hN_RW := hV.2.2.1.2
  have hP : va_P (dC, dI) cls_ [(h0, .inr (0, [.ref rq, .ref oa, .ref pl, .ref dk, .ref rw, .int 0, .int 0, .int (-1)]))] s.heap := hP
  have hl := lv_entry ([.ref h0, .int x, .int y]) (n := 4) (Nat.le_of_ble_eq_true rfl)
  rw [lg_entry_eq]
  generalize (lg_sl ([.ref h0, .int x, .int y]) ++ List.replicate (4 - (lg_sl ([.ref h0, .int x, .int y])).length) Slot.unset).toArray = ls at hl ⊢
  have hl : lv_has ls 4 [(0, .ref h0), (1, .int x), (2, .int y)] := hl
  refine lv_aload_n hx hb d_LW_air_0 rfl (lv_at hl 0 rfl) ?_
  refine lv_iload_n hx hb d_LW_air_1 rfl (lv_at hl 1 rfl) ?_
  refine lv_iload_n hx hb d_LW_air_2 rfl (lv_at hl 2 rfl) ?_
  have hPc := hP.sub (ws' := [(h0, .inr (0, [.ref rq, .ref oa, .ref pl, .ref dk, .ref rw, .int 0, .int 0, .int (-1)]))]) [0] rfl
  have hKc := hK.sub (tys' := []) [] rfl
  have hDc := hD.sub (ws' := [(h0, .inr (0, [.ref rq, .ref oa, .ref pl, .ref dk, .ref rw, .int 0, .int 0, .int (-1)]))]) [0] (by decide) rfl
  refine tw_runV (C := R_TT) (As := [.int x, .int y]) (rest := []) ⟨hx, hb, hml, hown, ht⟩ (c_TT_air_th l dC dI s.heap.size Bd hl9 h0 rq oa pl dk rw x y h) (cwV 2 ht (gV tb_506 tb_507 tb_508 tb_1 tb_509) rfl rfl rfl (by decide +kernel) ⟨Nat.le_of_ble_eq_true rfl, Nat.le_of_ble_eq_true rfl⟩) ⟨frP_blind, va_recv (q := (R_TT, F_TT, 8)) hK hP rfl (show ([(h0, .inr (0, [.ref rq, .ref oa, .ref pl, .ref dk, .ref rw, .int 0, .int 0, .int (-1)]))] : va_W)[0]? = some (h0, .inr (0, [.ref rq, .ref oa, .ref pl, .ref dk, .ref rw, .int 0, .int 0, .int (-1)])) from rfl), fr_pre hPc hKc hDc hAB hBs hS hV⟩ rfl hl.1 rfl (Nat.le_of_ble_eq_true rfl) d_LW_air_3 ⟨Nat.le_of_ble_eq_true rfl, Nat.le_of_ble_eq_true rfl⟩ (fun xa cellx H1 hx1 hx2 hx3 hx4 hx5 hx6 => ?_)
  refine tw_catch hown ⟨0, 6, 9, 21⟩ [] (tw_table B (atoms_spec (ws := w_LW_air) B.pre _ List.mem_cons_self)) (by decide) (by decide) (ht _ tb_451) (va_Nw.use rfl hV.2.1.2) hx2 hx3 hx4 ?_
  have hP : va_P (dC, dI) cls_ [(h0, .inr (0, [.ref rq, .ref oa, .ref pl, .ref dk, .ref rw, .int 0, .int 0, .int (-1)]))] H1 := hP.kept (fun k q hq => hx6 q.1 ((hP k q hq).lt))
  have hS : va_S A s.heap H1 _ := ⟨Nat.le_trans hS.1 hx5, fun q h1 h2 => (hx6 q (Nat.lt_of_lt_of_le h1 hS.1)).trans (hS.2.1 q h1 h2), hS.2.2⟩
  generalize H1 = H at hP hS ⊢
  refine W.cs (cells' := 1) (slots' := 6) rfl rfl ?_
  refine lv_astore_n hx hb d_LW_air_9 rfl hl (by decide) rfl (fun ls hl => ?_)
  have hl : lv_has ls 4 [(3, .ref xa), (0, .ref h0), (1, .int x), (2, .int y)] := hl
  refine lv_iconst (v := 1) hx hb d_LW_air_10 (by decide) ?_
  have hP9 := hP.sub (ws' := [(h0, .inr (0, [.ref rq, .ref oa, .ref pl, .ref dk, .ref rw, .int 0, .int 0, .int (-1)]))]) [0] rfl
  have hD9 := hD.sub (ws' := [(h0, .inr (0, [.ref rq, .ref oa, .ref pl, .ref dk, .ref rw, .int 0, .int 0, .int (-1)]))]) [0] (by decide) rfl
  have hK9 := hK.sub (tys' := []) [] rfl
  exact W.iret (v := 1) hx hb hr (fun t ht9 hW => ⟨rfl, ⟨by rw [ht9]; exact hP9, va_K.moved hW.alike hK9, hD9⟩, hS.F ht9⟩) hS.2.2 d_LW_air_11
set_option maxHeartbeats 4000000 in
set_option maxRecDepth 100000 in
theorem c_LW_watch_bad (l : Launch) (dC : Nat → ClassId) (dI : Nat → Nat → Nat) (sz Bd : Nat) (hl9 : l.stackTraces = false) (h0 rq oa pl dk rw : Nat) (ou : Nat) (x : Int32) (h : ¬ (-1 ≤ x ∧ x ≤ 7)) : Met l y_LW_watch w_LW_watch ({ frames := 7, cells := 1, slots := 6, locals := 112 }) (frP (dC, dI) [(h0, .inr (0, [.ref rq, .ref oa, .ref pl, .ref dk, .ref rw, .int 0, .int 0, .int (-1)]))] [] sz Bd [.ref h0, .int x, .ref ou]) (frQ (some (.int 1)) (fun t => va_P (dC, dI) cls_ [(h0, .inr (0, [.ref rq, .ref oa, .ref pl, .ref dk, .ref rw, .int 0, .int 0, .int (-1)]))] t.heap ∧ va_K (dC, dI) cls_ [] t ∧ va_D (va_A [(h0, .inr (0, [.ref rq, .ref oa, .ref pl, .ref dk, .ref rw, .int 0, .int 0, .int (-1)]))] sz) [(h0, .inr (0, [.ref rq, .ref oa, .ref pl, .ref dk, .ref rw, .int 0, .int 0, .int (-1)]))]) (va_A [(h0, .inr (0, [.ref rq, .ref oa, .ref pl, .ref dk, .ref rw, .int 0, .int 0, .int (-1)]))] sz)) 1 6 (va_A [(h0, .inr (0, [.ref rq, .ref oa, .ref pl, .ref dk, .ref rw, .int 0, .int 0, .int (-1)]))] sz) := by
  refine va_MetW (cc := c_LW_watch) (maxL := 4) (ret := (some .int)) (hh := [(0, 9, 12, 21)]) (by decide) rfl ?_
  intro p e s m args below meth c s₁ B hml hv
  obtain ⟨rfl, ⟨hsz, hBs⟩, hP, hK, hD0, hV⟩ := hv
  have hx := B.exec
  have hb := B.bytes
  have hr := B.returns
  have ht : ∀ w ∈ tb_, w.before _ s = true := fun w h => atoms_spec (ws := w_LW_watch) B.pre w (List.mem_cons_of_mem _ h)
  have hown : s.vm.findClass R_LW = some m.cls := findClass_of_methodNamed B.named
  have hlocks := B.notSynchronized
  subst hsz
  have hD := hD0.self (sz := s.heap.size)
  have hAB : ∀ q, va_A [(h0, .inr (0, [.ref rq, .ref oa, .ref pl, .ref dk, .ref rw, .int 0, .int 0, .int (-1)]))] s.heap.size q → Bd ≤ q := fr_AB hD0 hBs
  generalize hAe : va_A [(h0, .inr (0, [.ref rq, .ref oa, .ref pl, .ref dk, .ref rw, .int 0, .int 0, .int (-1)]))] s.heap.size = A at hD hAB ⊢
  have hA : ∀ q : Nat, s.heap.size ≤ q → A q := fun q h => by rw [← hAe]; exact Or.inr h
  have hS : va_S A s.heap s.heap [] := va_S.rf
  have hAO := hV.2.2.2.1
  have hN_PL := hV.2.2.1.1
  have hN_RW := hV.2.2.1.2
  have hP : va_P (dC, dI) cls_ [(h0, .inr (0, [.ref rq, .ref oa, .ref pl, .ref dk, .ref rw, .int 0, .int 0, .int (-1)]))] s.heap := hP
  have hl := lv_entry ([.ref h0, .int x, .ref ou]) (n := 4) (Nat.le_of_ble_eq_true rfl)
  rw [lg_entry_eq]
  generalize (lg_sl ([.ref h0, .int x, .ref ou]) ++ List.replicate (4 - (lg_sl ([.ref h0, .int x, .ref ou])).length) Slot.unset).toArray = ls at hl ⊢
  have hl : lv_has ls 4 [(0, .ref h0), (1, .int x), (2, .ref ou)] := hl
  refine lv_aload_n hx hb d_LW_watch_0 rfl (lv_at hl 2 rfl) ?_
  refine lv_iconst (v := 0) hx hb d_LW_watch_1 (by decide) ?_
  refine lv_aload_n hx hb d_LW_watch_2 rfl (lv_at hl 0 rfl) ?_
  refine lv_iload_n hx hb d_LW_watch_3 rfl (lv_at hl 1 rfl) ?_
  have hPc := hP.sub (ws' := [(h0, .inr (0, [.ref rq, .ref oa, .ref pl, .ref dk, .ref rw, .int 0, .int 0, .int (-1)]))]) [0] rfl
  have hKc := hK.sub (tys' := []) [] rfl
  have hDc := hD.sub (ws' := [(h0, .inr (0, [.ref rq, .ref oa, .ref pl, .ref dk, .ref rw, .int 0, .int 0, .int (-1)]))]) [0] (by decide) rfl
  refine tw_runV (C := R_TT) (As := [.int x]) (rest := [.int 0, .ref ou]) ⟨hx, hb, hml, hown, ht⟩ (c_TT_watch_th l dC dI s.heap.size Bd hl9 h0 rq oa pl dk rw x ((ch_n h).1) ((ch_n h).2)) (cwV 1 ht (gV tb_522 tb_523 tb_524 tb_1 tb_525) rfl rfl rfl (by decide +kernel) ⟨Nat.le_of_ble_eq_true rfl, Nat.le_of_ble_eq_true rfl⟩) ⟨frP_blind, va_recv (q := (R_TT, F_TT, 8)) hK hP rfl (show ([(h0, .inr (0, [.ref rq, .ref oa, .ref pl, .ref dk, .ref rw, .int 0, .int 0, .int (-1)]))] : va_W)[0]? = some (h0, .inr (0, [.ref rq, .ref oa, .ref pl, .ref dk, .ref rw, .int 0, .int 0, .int (-1)])) from rfl), fr_pre hPc hKc hDc hAB hBs hS hV⟩ rfl hl.1 rfl (Nat.le_of_ble_eq_true rfl) d_LW_watch_4 ⟨Nat.le_of_ble_eq_true rfl, Nat.le_of_ble_eq_true rfl⟩ (fun xa cellx H1 hx1 hx2 hx3 hx4 hx5 hx6 => ?_)
  refine tw_catch hown ⟨0, 9, 12, 21⟩ [] (tw_table B (atoms_spec (ws := w_LW_watch) B.pre _ List.mem_cons_self)) (by decide) (by decide) (ht _ tb_451) (va_Nw.use rfl hV.2.1.2) hx2 hx3 hx4 ?_
  have hP : va_P (dC, dI) cls_ [(h0, .inr (0, [.ref rq, .ref oa, .ref pl, .ref dk, .ref rw, .int 0, .int 0, .int (-1)]))] H1 := hP.kept (fun k q hq => hx6 q.1 ((hP k q hq).lt))
  have hS : va_S A s.heap H1 _ := ⟨Nat.le_trans hS.1 hx5, fun q h1 h2 => (hx6 q (Nat.lt_of_lt_of_le h1 hS.1)).trans (hS.2.1 q h1 h2), hS.2.2⟩
  generalize H1 = H at hP hS ⊢
  refine W.cs (cells' := 1) (slots' := 6) rfl rfl ?_
  refine lv_astore_n hx hb d_LW_watch_12 rfl hl (by decide) rfl (fun ls hl => ?_)
  have hl : lv_has ls 4 [(3, .ref xa), (0, .ref h0), (1, .int x), (2, .ref ou)] := hl
  refine lv_iconst (v := 1) hx hb d_LW_watch_13 (by decide) ?_
  have hP9 := hP.sub (ws' := [(h0, .inr (0, [.ref rq, .ref oa, .ref pl, .ref dk, .ref rw, .int 0, .int 0, .int (-1)]))]) [0] rfl
  have hD9 := hD.sub (ws' := [(h0, .inr (0, [.ref rq, .ref oa, .ref pl, .ref dk, .ref rw, .int 0, .int 0, .int (-1)]))]) [0] (by decide) rfl
  have hK9 := hK.sub (tys' := []) [] rfl
  exact W.iret (v := 1) hx hb hr (fun t ht9 hW => ⟨rfl, ⟨by rw [ht9]; exact hP9, va_K.moved hW.alike hK9, hD9⟩, hS.F ht9⟩) hS.2.2 d_LW_watch_14
set_option maxHeartbeats 4000000 in
set_option maxRecDepth 100000 in
theorem c_LW_ticks_bad (l : Launch) (dC : Nat → ClassId) (dI : Nat → Nat → Nat) (sz Bd : Nat) (hl9 : l.stackTraces = false) (h0 rq oa pl dk rw : Nat) (ou : Nat) (x : Int32) (h : ¬ (1 ≤ x ∧ x ≤ 100)) : Met l y_LW_ticks w_LW_ticks ({ frames := 7, cells := 1, slots := 6, locals := 113 }) (frP (dC, dI) [(h0, .inr (0, [.ref rq, .ref oa, .ref pl, .ref dk, .ref rw, .int 0, .int 0, .int (-1)]))] [] sz Bd [.ref h0, .int x, .ref ou]) (frQ (some (.int 1)) (fun t => va_P (dC, dI) cls_ [(h0, .inr (0, [.ref rq, .ref oa, .ref pl, .ref dk, .ref rw, .int 0, .int 0, .int (-1)]))] t.heap ∧ va_K (dC, dI) cls_ [] t ∧ va_D (va_A [(h0, .inr (0, [.ref rq, .ref oa, .ref pl, .ref dk, .ref rw, .int 0, .int 0, .int (-1)]))] sz) [(h0, .inr (0, [.ref rq, .ref oa, .ref pl, .ref dk, .ref rw, .int 0, .int 0, .int (-1)]))]) (va_A [(h0, .inr (0, [.ref rq, .ref oa, .ref pl, .ref dk, .ref rw, .int 0, .int 0, .int (-1)]))] sz)) 1 6 (va_A [(h0, .inr (0, [.ref rq, .ref oa, .ref pl, .ref dk, .ref rw, .int 0, .int 0, .int (-1)]))] sz) := by
  refine va_MetW (cc := c_LW_ticks) (maxL := 4) (ret := (some .int)) (hh := [(0, 9, 12, 13)]) (by decide) rfl ?_
  intro p e s m args below meth c s₁ B hml hv
  obtain ⟨rfl, ⟨hsz, hBs⟩, hP, hK, hD0, hV⟩ := hv
  have hx := B.exec
  have hb := B.bytes
  have hr := B.returns
  have ht : ∀ w ∈ tb_, w.before _ s = true := fun w h => atoms_spec (ws := w_LW_ticks) B.pre w (List.mem_cons_of_mem _ h)
  have hown : s.vm.findClass R_LW = some m.cls := findClass_of_methodNamed B.named
  have hlocks := B.notSynchronized
  subst hsz
  have hD := hD0.self (sz := s.heap.size)
  have hAB : ∀ q, va_A [(h0, .inr (0, [.ref rq, .ref oa, .ref pl, .ref dk, .ref rw, .int 0, .int 0, .int (-1)]))] s.heap.size q → Bd ≤ q := fr_AB hD0 hBs
  generalize hAe : va_A [(h0, .inr (0, [.ref rq, .ref oa, .ref pl, .ref dk, .ref rw, .int 0, .int 0, .int (-1)]))] s.heap.size = A at hD hAB ⊢
  have hA : ∀ q : Nat, s.heap.size ≤ q → A q := fun q h => by rw [← hAe]; exact Or.inr h
  have hS : va_S A s.heap s.heap [] := va_S.rf
  have hAO := hV.2.2.2.1
  have hN_PL := hV.2.2.1.1
  have hN_RW := hV.2.2.1.2
  have hP : va_P (dC, dI) cls_ [(h0, .inr (0, [.ref rq, .ref oa, .ref pl, .ref dk, .ref rw, .int 0, .int 0, .int (-1)]))] s.heap := hP
  have hl := lv_entry ([.ref h0, .int x, .ref ou]) (n := 4) (Nat.le_of_ble_eq_true rfl)
  rw [lg_entry_eq]
  generalize (lg_sl ([.ref h0, .int x, .ref ou]) ++ List.replicate (4 - (lg_sl ([.ref h0, .int x, .ref ou])).length) Slot.unset).toArray = ls at hl ⊢
  have hl : lv_has ls 4 [(0, .ref h0), (1, .int x), (2, .ref ou)] := hl
  refine lv_aload_n hx hb d_LW_ticks_0 rfl (lv_at hl 2 rfl) ?_
  refine lv_iconst (v := 0) hx hb d_LW_ticks_1 (by decide) ?_
  refine lv_aload_n hx hb d_LW_ticks_2 rfl (lv_at hl 0 rfl) ?_
  refine lv_iload_n hx hb d_LW_ticks_3 rfl (lv_at hl 1 rfl) ?_
  have hPc := hP.sub (ws' := [(h0, .inr (0, [.ref rq, .ref oa, .ref pl, .ref dk, .ref rw, .int 0, .int 0, .int (-1)]))]) [0] rfl
  have hKc := hK.sub (tys' := []) [] rfl
  have hDc := hD.sub (ws' := [(h0, .inr (0, [.ref rq, .ref oa, .ref pl, .ref dk, .ref rw, .int 0, .int 0, .int (-1)]))]) [0] (by decide) rfl
  refine tw_runV (C := R_TT) (As := [.int x]) (rest := [.int 0, .ref ou]) ⟨hx, hb, hml, hown, ht⟩ (c_TT_ticks_th l dC dI s.heap.size Bd hl9 h0 rq oa pl dk rw x h) (cwV 1 ht (gV tb_514 tb_515 tb_516 tb_1 tb_517) rfl rfl rfl (by decide +kernel) ⟨Nat.le_of_ble_eq_true rfl, Nat.le_of_ble_eq_true rfl⟩) ⟨frP_blind, va_recv (q := (R_TT, F_TT, 8)) hK hP rfl (show ([(h0, .inr (0, [.ref rq, .ref oa, .ref pl, .ref dk, .ref rw, .int 0, .int 0, .int (-1)]))] : va_W)[0]? = some (h0, .inr (0, [.ref rq, .ref oa, .ref pl, .ref dk, .ref rw, .int 0, .int 0, .int (-1)])) from rfl), fr_pre hPc hKc hDc hAB hBs hS hV⟩ rfl hl.1 rfl (Nat.le_of_ble_eq_true rfl) d_LW_ticks_4 ⟨Nat.le_of_ble_eq_true rfl, Nat.le_of_ble_eq_true rfl⟩ (fun xa cellx H1 hx1 hx2 hx3 hx4 hx5 hx6 => ?_)
  refine tw_catch hown ⟨0, 9, 12, 13⟩ [] (tw_table B (atoms_spec (ws := w_LW_ticks) B.pre _ List.mem_cons_self)) (by decide) (by decide) (ht _ tb_264) (va_Nw.use rfl hV.2.1.1) hx2 hx3 hx4 ?_
  have hP : va_P (dC, dI) cls_ [(h0, .inr (0, [.ref rq, .ref oa, .ref pl, .ref dk, .ref rw, .int 0, .int 0, .int (-1)]))] H1 := hP.kept (fun k q hq => hx6 q.1 ((hP k q hq).lt))
  have hS : va_S A s.heap H1 _ := ⟨Nat.le_trans hS.1 hx5, fun q h1 h2 => (hx6 q (Nat.lt_of_lt_of_le h1 hS.1)).trans (hS.2.1 q h1 h2), hS.2.2⟩
  generalize H1 = H at hP hS ⊢
  refine W.cs (cells' := 1) (slots' := 6) rfl rfl ?_
  refine lv_astore_n hx hb d_LW_ticks_12 rfl hl (by decide) rfl (fun ls hl => ?_)
  have hl : lv_has ls 4 [(3, .ref xa), (0, .ref h0), (1, .int x), (2, .ref ou)] := hl
  refine lv_iconst (v := 1) hx hb d_LW_ticks_13 (by decide) ?_
  have hP9 := hP.sub (ws' := [(h0, .inr (0, [.ref rq, .ref oa, .ref pl, .ref dk, .ref rw, .int 0, .int 0, .int (-1)]))]) [0] rfl
  have hD9 := hD.sub (ws' := [(h0, .inr (0, [.ref rq, .ref oa, .ref pl, .ref dk, .ref rw, .int 0, .int 0, .int (-1)]))]) [0] (by decide) rfl
  have hK9 := hK.sub (tys' := []) [] rfl
  exact W.iret (v := 1) hx hb hr (fun t ht9 hW => ⟨rfl, ⟨by rw [ht9]; exact hP9, va_K.moved hW.alike hK9, hD9⟩, hS.F ht9⟩) hS.2.2 d_LW_ticks_14
set_option maxHeartbeats 4000000 in
set_option maxRecDepth 100000 in
theorem c_LW_cut_bad (l : Launch) (dC : Nat → ClassId) (dI : Nat → Nat → Nat) (sz Bd : Nat) (hl9 : l.stackTraces = false) (h0 rq oa pl dk rw : Nat) (ou : Nat) (x : Int32) (h : ¬ (0 ≤ x ∧ x ≤ 1000)) : Met l y_LW_cut w_LW_cut ({ frames := 7, cells := 1, slots := 6, locals := 114 }) (frP (dC, dI) [(h0, .inr (0, [.ref rq, .ref oa, .ref pl, .ref dk, .ref rw, .int 0, .int 0, .int (-1)]))] [] sz Bd [.ref h0, .int x, .ref ou]) (frQ (some (.int 1)) (fun t => va_P (dC, dI) cls_ [(h0, .inr (0, [.ref rq, .ref oa, .ref pl, .ref dk, .ref rw, .int 0, .int 0, .int (-1)]))] t.heap ∧ va_K (dC, dI) cls_ [] t ∧ va_D (va_A [(h0, .inr (0, [.ref rq, .ref oa, .ref pl, .ref dk, .ref rw, .int 0, .int 0, .int (-1)]))] sz) [(h0, .inr (0, [.ref rq, .ref oa, .ref pl, .ref dk, .ref rw, .int 0, .int 0, .int (-1)]))]) (va_A [(h0, .inr (0, [.ref rq, .ref oa, .ref pl, .ref dk, .ref rw, .int 0, .int 0, .int (-1)]))] sz)) 1 6 (va_A [(h0, .inr (0, [.ref rq, .ref oa, .ref pl, .ref dk, .ref rw, .int 0, .int 0, .int (-1)]))] sz) := by
  refine va_MetW (cc := c_LW_cut) (maxL := 4) (ret := (some .int)) (hh := [(0, 9, 12, 13)]) (by decide) rfl ?_
  intro p e s m args below meth c s₁ B hml hv
  obtain ⟨rfl, ⟨hsz, hBs⟩, hP, hK, hD0, hV⟩ := hv
  have hx := B.exec
  have hb := B.bytes
  have hr := B.returns
  have ht : ∀ w ∈ tb_, w.before _ s = true := fun w h => atoms_spec (ws := w_LW_cut) B.pre w (List.mem_cons_of_mem _ h)
  have hown : s.vm.findClass R_LW = some m.cls := findClass_of_methodNamed B.named
  have hlocks := B.notSynchronized
  subst hsz
  have hD := hD0.self (sz := s.heap.size)
  have hAB : ∀ q, va_A [(h0, .inr (0, [.ref rq, .ref oa, .ref pl, .ref dk, .ref rw, .int 0, .int 0, .int (-1)]))] s.heap.size q → Bd ≤ q := fr_AB hD0 hBs
  generalize hAe : va_A [(h0, .inr (0, [.ref rq, .ref oa, .ref pl, .ref dk, .ref rw, .int 0, .int 0, .int (-1)]))] s.heap.size = A at hD hAB ⊢
  have hA : ∀ q : Nat, s.heap.size ≤ q → A q := fun q h => by rw [← hAe]; exact Or.inr h
  have hS : va_S A s.heap s.heap [] := va_S.rf
  have hAO := hV.2.2.2.1
  have hN_PL := hV.2.2.1.1
  have hN_RW := hV.2.2.1.2
  have hP : va_P (dC, dI) cls_ [(h0, .inr (0, [.ref rq, .ref oa, .ref pl, .ref dk, .ref rw, .int 0, .int 0, .int (-1)]))] s.heap := hP
  have hl := lv_entry ([.ref h0, .int x, .ref ou]) (n := 4) (Nat.le_of_ble_eq_true rfl)
  rw [lg_entry_eq]
  generalize (lg_sl ([.ref h0, .int x, .ref ou]) ++ List.replicate (4 - (lg_sl ([.ref h0, .int x, .ref ou])).length) Slot.unset).toArray = ls at hl ⊢
  have hl : lv_has ls 4 [(0, .ref h0), (1, .int x), (2, .ref ou)] := hl
  refine lv_aload_n hx hb d_LW_cut_0 rfl (lv_at hl 2 rfl) ?_
  refine lv_iconst (v := 0) hx hb d_LW_cut_1 (by decide) ?_
  refine lv_aload_n hx hb d_LW_cut_2 rfl (lv_at hl 0 rfl) ?_
  refine lv_iload_n hx hb d_LW_cut_3 rfl (lv_at hl 1 rfl) ?_
  have hPc := hP.sub (ws' := [(h0, .inr (0, [.ref rq, .ref oa, .ref pl, .ref dk, .ref rw, .int 0, .int 0, .int (-1)]))]) [0] rfl
  have hKc := hK.sub (tys' := []) [] rfl
  have hDc := hD.sub (ws' := [(h0, .inr (0, [.ref rq, .ref oa, .ref pl, .ref dk, .ref rw, .int 0, .int 0, .int (-1)]))]) [0] (by decide) rfl
  refine tw_runV (C := R_TT) (As := [.int x]) (rest := [.int 0, .ref ou]) ⟨hx, hb, hml, hown, ht⟩ (c_TT_cut_th l dC dI s.heap.size Bd hl9 h0 rq oa pl dk rw x h) (cwV 1 ht (gV tb_613 tb_614 tb_615 tb_1 tb_616) rfl rfl rfl (by decide +kernel) ⟨Nat.le_of_ble_eq_true rfl, Nat.le_of_ble_eq_true rfl⟩) ⟨frP_blind, va_recv (q := (R_TT, F_TT, 8)) hK hP rfl (show ([(h0, .inr (0, [.ref rq, .ref oa, .ref pl, .ref dk, .ref rw, .int 0, .int 0, .int (-1)]))] : va_W)[0]? = some (h0, .inr (0, [.ref rq, .ref oa, .ref pl, .ref dk, .ref rw, .int 0, .int 0, .int (-1)])) from rfl), fr_pre hPc hKc hDc hAB hBs hS hV⟩ rfl hl.1 rfl (Nat.le_of_ble_eq_true rfl) d_LW_cut_4 ⟨Nat.le_of_ble_eq_true rfl, Nat.le_of_ble_eq_true rfl⟩ (fun xa cellx H1 hx1 hx2 hx3 hx4 hx5 hx6 => ?_)
  refine tw_catch hown ⟨0, 9, 12, 13⟩ [] (tw_table B (atoms_spec (ws := w_LW_cut) B.pre _ List.mem_cons_self)) (by decide) (by decide) (ht _ tb_264) (va_Nw.use rfl hV.2.1.1) hx2 hx3 hx4 ?_
  have hP : va_P (dC, dI) cls_ [(h0, .inr (0, [.ref rq, .ref oa, .ref pl, .ref dk, .ref rw, .int 0, .int 0, .int (-1)]))] H1 := hP.kept (fun k q hq => hx6 q.1 ((hP k q hq).lt))
  have hS : va_S A s.heap H1 _ := ⟨Nat.le_trans hS.1 hx5, fun q h1 h2 => (hx6 q (Nat.lt_of_lt_of_le h1 hS.1)).trans (hS.2.1 q h1 h2), hS.2.2⟩
  generalize H1 = H at hP hS ⊢
  refine W.cs (cells' := 1) (slots' := 6) rfl rfl ?_
  refine lv_astore_n hx hb d_LW_cut_12 rfl hl (by decide) rfl (fun ls hl => ?_)
  have hl : lv_has ls 4 [(3, .ref xa), (0, .ref h0), (1, .int x), (2, .ref ou)] := hl
  refine lv_iconst (v := 1) hx hb d_LW_cut_13 (by decide) ?_
  have hP9 := hP.sub (ws' := [(h0, .inr (0, [.ref rq, .ref oa, .ref pl, .ref dk, .ref rw, .int 0, .int 0, .int (-1)]))]) [0] rfl
  have hD9 := hD.sub (ws' := [(h0, .inr (0, [.ref rq, .ref oa, .ref pl, .ref dk, .ref rw, .int 0, .int 0, .int (-1)]))]) [0] (by decide) rfl
  have hK9 := hK.sub (tys' := []) [] rfl
  exact W.iret (v := 1) hx hb hr (fun t ht9 hW => ⟨rfl, ⟨by rw [ht9]; exact hP9, va_K.moved hW.alike hK9, hD9⟩, hS.F ht9⟩) hS.2.2 d_LW_cut_14
set_option maxHeartbeats 4000000 in
set_option maxRecDepth 100000 in
theorem c_LW_request_bad (l : Launch) (dC : Nat → ClassId) (dI : Nat → Nat → Nat) (sz Bd : Nat) (hl9 : l.stackTraces = false) (h0 rq oa pl dk rw : Nat) (ou : Nat) (ch st ln pr pd : Int32) (h : ¬ ((0 ≤ ch ∧ ch ≤ 7) ∧ (0 ≤ st ∧ st ≤ 1000) ∧ (1 ≤ ln ∧ ln ≤ 60) ∧ (1 ≤ pr ∧ pr ≤ 9) ∧ (0 ≤ pd ∧ pd ≤ 99))) : Met l y_LW_request w_LW_request ({ frames := 7, cells := 1, slots := 6, locals := 116 }) (frP (dC, dI) [(h0, .inr (0, [.ref rq, .ref oa, .ref pl, .ref dk, .ref rw, .int 0, .int 0, .int (-1)]))] [] sz Bd [.ref h0, .int ch, .int st, .int ln, .int pr, .int pd, .ref ou]) (frQ (some (.int 1)) (fun t => va_P (dC, dI) cls_ [(h0, .inr (0, [.ref rq, .ref oa, .ref pl, .ref dk, .ref rw, .int 0, .int 0, .int (-1)]))] t.heap ∧ va_K (dC, dI) cls_ [] t ∧ va_D (va_A [(h0, .inr (0, [.ref rq, .ref oa, .ref pl, .ref dk, .ref rw, .int 0, .int 0, .int (-1)]))] sz) [(h0, .inr (0, [.ref rq, .ref oa, .ref pl, .ref dk, .ref rw, .int 0, .int 0, .int (-1)]))]) (va_A [(h0, .inr (0, [.ref rq, .ref oa, .ref pl, .ref dk, .ref rw, .int 0, .int 0, .int (-1)]))] sz)) 1 6 (va_A [(h0, .inr (0, [.ref rq, .ref oa, .ref pl, .ref dk, .ref rw, .int 0, .int 0, .int (-1)]))] sz) := by
  refine va_MetW (cc := c_LW_request) (maxL := 8) (ret := (some .int)) (hh := [(0, 16, 19, 13), (0, 16, 23, 15)]) (by decide) rfl ?_
  intro p e s m args below meth c s₁ B hml hv
  obtain ⟨rfl, ⟨hsz, hBs⟩, hP, hK, hD0, hV⟩ := hv
  have hx := B.exec
  have hb := B.bytes
  have hr := B.returns
  have ht : ∀ w ∈ tb_, w.before _ s = true := fun w h => atoms_spec (ws := w_LW_request) B.pre w (List.mem_cons_of_mem _ h)
  have hown : s.vm.findClass R_LW = some m.cls := findClass_of_methodNamed B.named
  have hlocks := B.notSynchronized
  subst hsz
  have hD := hD0.self (sz := s.heap.size)
  have hAB : ∀ q, va_A [(h0, .inr (0, [.ref rq, .ref oa, .ref pl, .ref dk, .ref rw, .int 0, .int 0, .int (-1)]))] s.heap.size q → Bd ≤ q := fr_AB hD0 hBs
  generalize hAe : va_A [(h0, .inr (0, [.ref rq, .ref oa, .ref pl, .ref dk, .ref rw, .int 0, .int 0, .int (-1)]))] s.heap.size = A at hD hAB ⊢
  have hA : ∀ q : Nat, s.heap.size ≤ q → A q := fun q h => by rw [← hAe]; exact Or.inr h
  have hS : va_S A s.heap s.heap [] := va_S.rf
  have hAO := hV.2.2.2.1
  have hN_PL := hV.2.2.1.1
  have hN_RW := hV.2.2.1.2
  have hP : va_P (dC, dI) cls_ [(h0, .inr (0, [.ref rq, .ref oa, .ref pl, .ref dk, .ref rw, .int 0, .int 0, .int (-1)]))] s.heap := hP
  have hl := lv_entry ([.ref h0, .int ch, .int st, .int ln, .int pr, .int pd, .ref ou]) (n := 8) (Nat.le_of_ble_eq_true rfl)
  rw [lg_entry_eq]
  generalize (lg_sl ([.ref h0, .int ch, .int st, .int ln, .int pr, .int pd, .ref ou]) ++ List.replicate (8 - (lg_sl ([.ref h0, .int ch, .int st, .int ln, .int pr, .int pd, .ref ou])).length) Slot.unset).toArray = ls at hl ⊢
  have hl : lv_has ls 8 [(0, .ref h0), (1, .int ch), (2, .int st), (3, .int ln), (4, .int pr), (5, .int pd), (6, .ref ou)] := hl
  refine lv_aload hx hb d_LW_request_0 (lv_at hl 6 rfl) ?_
  refine lv_iconst (v := 0) hx hb d_LW_request_2 (by decide) ?_
  refine lv_aload_n hx hb d_LW_request_3 rfl (lv_at hl 0 rfl) ?_
  refine lv_iload_n hx hb d_LW_request_4 rfl (lv_at hl 1 rfl) ?_
  refine lv_iload_n hx hb d_LW_request_5 rfl (lv_at hl 2 rfl) ?_
  refine lv_iload_n hx hb d_LW_request_6 rfl (lv_at hl 3 rfl) ?_
  refine lv_iload hx hb d_LW_request_7 (lv_at hl 4 rfl) ?_
  refine lv_iload hx hb d_LW_request_9 (lv_at hl 5 rfl) ?_
  have hPc := hP.sub (ws' := [(h0, .inr (0, [.ref rq, .ref oa, .ref pl, .ref dk, .ref rw, .int 0, .int 0, .int (-1)]))]) [0] rfl
  have hKc := hK.sub (tys' := []) [] rfl
  have hDc := hD.sub (ws' := [(h0, .inr (0, [.ref rq, .ref oa, .ref pl, .ref dk, .ref rw, .int 0, .int 0, .int (-1)]))]) [0] (by decide) rfl
  refine tw_runV (C := R_TT) (As := [.int ch, .int st, .int ln, .int pr, .int pd]) (rest := [.int 0, .ref ou]) ⟨hx, hb, hml, hown, ht⟩ (c_TT_request_th l dC dI s.heap.size Bd hl9 h0 rq oa pl dk rw ch st ln pr pd h) (cwV 5 ht (gV tb_266 tb_267 tb_268 tb_1 tb_269) rfl rfl rfl (by decide +kernel) ⟨Nat.le_of_ble_eq_true rfl, Nat.le_of_ble_eq_true rfl⟩) ⟨frP_blind, va_recv (q := (R_TT, F_TT, 8)) hK hP rfl (show ([(h0, .inr (0, [.ref rq, .ref oa, .ref pl, .ref dk, .ref rw, .int 0, .int 0, .int (-1)]))] : va_W)[0]? = some (h0, .inr (0, [.ref rq, .ref oa, .ref pl, .ref dk, .ref rw, .int 0, .int 0, .int (-1)])) from rfl), fr_pre hPc hKc hDc hAB hBs hS hV⟩ rfl hl.1 rfl (Nat.le_of_ble_eq_true rfl) d_LW_request_11 ⟨Nat.le_of_ble_eq_true rfl, Nat.le_of_ble_eq_true rfl⟩ (fun xa cellx H1 hx1 hx2 hx3 hx4 hx5 hx6 => ?_)
  refine tw_catch hown ⟨0, 16, 19, 13⟩ [⟨0, 16, 23, 15⟩] (tw_table B (atoms_spec (ws := w_LW_request) B.pre _ List.mem_cons_self)) (by decide) (by decide) (ht _ tb_264) (va_Nw.use rfl hV.2.1.1) hx2 hx3 hx4 ?_
  have hP : va_P (dC, dI) cls_ [(h0, .inr (0, [.ref rq, .ref oa, .ref pl, .ref dk, .ref rw, .int 0, .int 0, .int (-1)]))] H1 := hP.kept (fun k q hq => hx6 q.1 ((hP k q hq).lt))
  have hS : va_S A s.heap H1 _ := ⟨Nat.le_trans hS.1 hx5, fun q h1 h2 => (hx6 q (Nat.lt_of_lt_of_le h1 hS.1)).trans (hS.2.1 q h1 h2), hS.2.2⟩
  generalize H1 = H at hP hS ⊢
  refine W.cs (cells' := 1) (slots' := 6) rfl rfl ?_
  refine lv_astore hx hb d_LW_request_19 hl (by decide) rfl (fun ls hl => ?_)
  have hl : lv_has ls 8 [(7, .ref xa), (0, .ref h0), (1, .int ch), (2, .int st), (3, .int ln), (4, .int pr), (5, .int pd), (6, .ref ou)] := hl
  refine lv_iconst (v := 1) hx hb d_LW_request_21 (by decide) ?_
  have hP9 := hP.sub (ws' := [(h0, .inr (0, [.ref rq, .ref oa, .ref pl, .ref dk, .ref rw, .int 0, .int 0, .int (-1)]))]) [0] rfl
  have hD9 := hD.sub (ws' := [(h0, .inr (0, [.ref rq, .ref oa, .ref pl, .ref dk, .ref rw, .int 0, .int 0, .int (-1)]))]) [0] (by decide) rfl
  have hK9 := hK.sub (tys' := []) [] rfl
  exact W.iret (v := 1) hx hb hr (fun t ht9 hW => ⟨rfl, ⟨by rw [ht9]; exact hP9, va_K.moved hW.alike hK9, hD9⟩, hS.F ht9⟩) hS.2.2 d_LW_request_22
set_option maxHeartbeats 4000000 in
set_option maxRecDepth 100000 in
theorem c_LW_request_good (l : Launch) (dC : Nat → ClassId) (dI : Nat → Nat → Nat) (sz Bd : Nat) (h0 rq oa pl dk rw : Nat) (ou : Nat) (k1 k4 : ClassId) (ch st ln pr pd : Int32) (h : ((0 ≤ ch ∧ ch ≤ 7) ∧ (0 ≤ st ∧ st ≤ 1000) ∧ (1 ≤ ln ∧ ln ≤ 60) ∧ (1 ≤ pr ∧ pr ≤ 9) ∧ (0 ≤ pd ∧ pd ≤ 99))) : Met l y_LW_request w_LW_request ({ frames := 3, cells := 2, slots := 23, locals := 72 }) (frP (dC, dI) [(h0, .inr (0, [.ref rq, .ref oa, .ref pl, .ref dk, .ref rw, .int 0, .int 0, .int (-1)])), (rq, .inl (k1, 40, .inr (.inr (.inr (.inr (fun _ => none)))))), (ou, .inl (k4, 1, .inr (.inl (fun _ => 0))))] [(k1, .object "TwinTuners$Request"), (k4, .long)] sz Bd [.ref h0, .int ch, .int st, .int ln, .int pr, .int pd, .ref ou]) (frQ (some (.int 0)) (fun t => va_P (dC, dI) cls_ [(ou, .inl (k4, 1, .inr (.inl (vp_updL (fun _ => 0) (0 : Int32).toNatClampNeg (0 : Int32).toInt64))))] t.heap ∧ va_K (dC, dI) cls_ [(k4, .long)] t ∧ va_D (va_A [(h0, .inr (0, [.ref rq, .ref oa, .ref pl, .ref dk, .ref rw, .int 0, .int 0, .int (-1)])), (rq, .inl (k1, 40, .inr (.inr (.inr (.inr (fun _ => none)))))), (ou, .inl (k4, 1, .inr (.inl (fun _ => 0))))] sz) [(ou, .inl (k4, 1, .inr (.inl (vp_updL (fun _ => 0) (0 : Int32).toNatClampNeg (0 : Int32).toInt64))))]) (va_A [(h0, .inr (0, [.ref rq, .ref oa, .ref pl, .ref dk, .ref rw, .int 0, .int 0, .int (-1)])), (rq, .inl (k1, 40, .inr (.inr (.inr (.inr (fun _ => none)))))), (ou, .inl (k4, 1, .inr (.inl (fun _ => 0))))] sz)) 2 23 (va_A [(h0, .inr (0, [.ref rq, .ref oa, .ref pl, .ref dk, .ref rw, .int 0, .int 0, .int (-1)])), (rq, .inl (k1, 40, .inr (.inr (.inr (.inr (fun _ => none)))))), (ou, .inl (k4, 1, .inr (.inl (fun _ => 0))))] sz) := by
  refine va_MetW (cc := c_LW_request) (maxL := 8) (ret := (some .int)) (hh := [(0, 16, 19, 13), (0, 16, 23, 15)]) (by decide) rfl ?_
  intro p e s m args below meth c s₁ B hml hv
  obtain ⟨rfl, ⟨hsz, hBs⟩, hP, hK, hD0, hV⟩ := hv
  have hx := B.exec
  have hb := B.bytes
  have hr := B.returns
  have ht : ∀ w ∈ tb_, w.before _ s = true := fun w h => atoms_spec (ws := w_LW_request) B.pre w (List.mem_cons_of_mem _ h)
  have hown : s.vm.findClass R_LW = some m.cls := findClass_of_methodNamed B.named
  have hlocks := B.notSynchronized
  subst hsz
  have hD := hD0.self (sz := s.heap.size)
  have hAB : ∀ q, va_A [(h0, .inr (0, [.ref rq, .ref oa, .ref pl, .ref dk, .ref rw, .int 0, .int 0, .int (-1)])), (rq, .inl (k1, 40, .inr (.inr (.inr (.inr (fun _ => none)))))), (ou, .inl (k4, 1, .inr (.inl (fun _ => 0))))] s.heap.size q → Bd ≤ q := fr_AB hD0 hBs
  generalize hAe : va_A [(h0, .inr (0, [.ref rq, .ref oa, .ref pl, .ref dk, .ref rw, .int 0, .int 0, .int (-1)])), (rq, .inl (k1, 40, .inr (.inr (.inr (.inr (fun _ => none)))))), (ou, .inl (k4, 1, .inr (.inl (fun _ => 0))))] s.heap.size = A at hD hAB ⊢
  have hA : ∀ q : Nat, s.heap.size ≤ q → A q := fun q h => by rw [← hAe]; exact Or.inr h
  have hS : va_S A s.heap s.heap [] := va_S.rf
  have hAO := hV.2.2.2.1
  have hN_PL := hV.2.2.1.1
  have hN_RW := hV.2.2.1.2
  have hP : va_P (dC, dI) cls_ [(h0, .inr (0, [.ref rq, .ref oa, .ref pl, .ref dk, .ref rw, .int 0, .int 0, .int (-1)])), (rq, .inl (k1, 40, .inr (.inr (.inr (.inr (fun _ => none)))))), (ou, .inl (k4, 1, .inr (.inl (fun _ => 0))))] s.heap := hP
  have hl := lv_entry ([.ref h0, .int ch, .int st, .int ln, .int pr, .int pd, .ref ou]) (n := 8) (Nat.le_of_ble_eq_true rfl)
  rw [lg_entry_eq]
  generalize (lg_sl ([.ref h0, .int ch, .int st, .int ln, .int pr, .int pd, .ref ou]) ++ List.replicate (8 - (lg_sl ([.ref h0, .int ch, .int st, .int ln, .int pr, .int pd, .ref ou])).length) Slot.unset).toArray = ls at hl ⊢
  have hl : lv_has ls 8 [(0, .ref h0), (1, .int ch), (2, .int st), (3, .int ln), (4, .int pr), (5, .int pd), (6, .ref ou)] := hl
  refine lv_aload hx hb d_LW_request_0 (lv_at hl 6 rfl) ?_
  refine lv_iconst (v := 0) hx hb d_LW_request_2 (by decide) ?_
  refine lv_aload_n hx hb d_LW_request_3 rfl (lv_at hl 0 rfl) ?_
  refine lv_iload_n hx hb d_LW_request_4 rfl (lv_at hl 1 rfl) ?_
  refine lv_iload_n hx hb d_LW_request_5 rfl (lv_at hl 2 rfl) ?_
  refine lv_iload_n hx hb d_LW_request_6 rfl (lv_at hl 3 rfl) ?_
  refine lv_iload hx hb d_LW_request_7 (lv_at hl 4 rfl) ?_
  refine lv_iload hx hb d_LW_request_9 (lv_at hl 5 rfl) ?_
  have hPc := hP.sub (ws' := [(h0, .inr (0, [.ref rq, .ref oa, .ref pl, .ref dk, .ref rw, .int 0, .int 0, .int (-1)])), (rq, .inl (k1, 40, .inr (.inr (.inr (.inr (fun _ => none))))))]) [0, 1] rfl
  have hKc := hK.sub (tys' := [(k1, .object "TwinTuners$Request")]) [0] rfl
  have hDc := hD.sub (ws' := [(h0, .inr (0, [.ref rq, .ref oa, .ref pl, .ref dk, .ref rw, .int 0, .int 0, .int (-1)])), (rq, .inl (k1, 40, .inr (.inr (.inr (.inr (fun _ => none))))))]) [0, 1] (by decide) rfl
  have hFc := va_free (wc := [(h0, .inr (0, [.ref rq, .ref oa, .ref pl, .ref dk, .ref rw, .int 0, .int 0, .int (-1)])), (rq, .inl (k1, 40, .inr (.inr (.inr (.inr (fun _ => none))))))]) hD hS hA [0, 1] rfl
  refine fr_call (va_runV (C := R_TT) (As := [.int ch, .int st, .int ln, .int pr, .int pd]) (rest := [.int 0, .ref ou]) ⟨hx, hb, hml, hown, ht⟩ (c_TT_request_ok l dC dI s.heap.size Bd h0 rq oa pl dk rw k1 ch st ln pr pd h) (cwV 5 ht (gV tb_266 tb_267 tb_268 tb_1 tb_269) rfl rfl rfl (by decide +kernel) ⟨Nat.le_of_ble_eq_true rfl, Nat.le_of_ble_eq_true rfl⟩) ⟨frP_blind, va_recv (q := (R_TT, F_TT, 8)) hK hP rfl (show ([(h0, .inr (0, [.ref rq, .ref oa, .ref pl, .ref dk, .ref rw, .int 0, .int 0, .int (-1)])), (rq, .inl (k1, 40, .inr (.inr (.inr (.inr (fun _ => none)))))), (ou, .inl (k4, 1, .inr (.inl (fun _ => 0))))] : va_W)[0]? = some (h0, .inr (0, [.ref rq, .ref oa, .ref pl, .ref dk, .ref rw, .int 0, .int 0, .int (-1)])) from rfl), fr_pre hPc hKc hDc hAB hBs hS hV⟩ rfl rfl hl.1 rfl (lv_room (Nat.le_of_ble_eq_true rfl)) d_LW_request_11 ⟨Nat.le_of_ble_eq_true rfl, Nat.le_of_ble_eq_true rfl⟩) hS (fun q _ h => hFc q h) hFc (fun t H1 locs ht1 hvm hB1 hz1 hk1 hS => ?_)
  obtain ⟨hP1, hK1, hD1⟩ := hB1
  rw [ht1] at hP1
  have hK1 := va_K.moved hvm.symm hK1
  obtain ⟨hP, hD⟩ := va_join (wr := [(ou, .inl (k4, 1, .inr (.inl (fun _ => 0))))]) (w1 := []) hP hD [0, 1] [2] rfl rfl (by decide) (by decide) hk1 hFc hP1 hD1
  have hK := hK.app hK1
  generalize H1 = H at hP hS ⊢
  have hP : va_P (dC, dI) cls_ [(ou, .inl (k4, 1, .inr (.inl (fun _ => 0))))] H := hP
  have hD : va_D A [(ou, .inl (k4, 1, .inr (.inl (fun _ => 0))))] := hD
  have hK : va_K (dC, dI) cls_ [(k1, .object "TwinTuners$Request"), (k4, .long)] s := hK
  refine W.eq (g2 := F0 m 14 ls [.int 0, .int 0, .ref ou]) rfl ?_
  refine W.cs (cells' := 2) (slots' := 23) rfl rfl ?_
  refine lv_i2l hx hb d_LW_request_14 rfl ?_
  refine va_last hx hb hK hP hD hS 0 1 rfl rfl (show vp_in (nI 0) 1 from vp_in_nI (by decide) (by decide)) d_LW_request_15 (fun H locs hP hD hS => ?_)
  have hP : va_P (dC, dI) cls_ [(ou, .inl (k4, 1, .inr (.inl (vp_updL (fun _ => 0) (0 : Int32).toNatClampNeg (0 : Int32).toInt64))))] H := hP
  have hD : va_D A [(ou, .inl (k4, 1, .inr (.inl (vp_updL (fun _ => 0) (0 : Int32).toNatClampNeg (0 : Int32).toInt64))))] := hD
  refine lv_goto (tgt := 27) hx hb d_LW_request_16 (by decide) ?_
  refine lv_iconst (v := 0) hx hb d_LW_request_27 (by decide) ?_
  have hP9 := hP.sub (ws' := [(ou, .inl (k4, 1, .inr (.inl (vp_updL (fun _ => 0) (0 : Int32).toNatClampNeg (0 : Int32).toInt64))))]) [0] rfl
  have hD9 := hD.sub (ws' := [(ou, .inl (k4, 1, .inr (.inl (vp_updL (fun _ => 0) (0 : Int32).toNatClampNeg (0 : Int32).toInt64))))]) [0] (by decide) rfl
  have hK9 := hK.sub (tys' := [(k4, .long)]) [1] rfl
  exact W.iret (v := 0) hx hb hr (fun t ht9 hW => ⟨rfl, ⟨by rw [ht9]; exact hP9, va_K.moved hW.alike hK9, hD9⟩, hS.F ht9⟩) hS.2.2 d_LW_request_28
set_option maxHeartbeats 4000000 in
set_option maxRecDepth 100000 in
theorem c_LW_air_good (l : Launch) (dC : Nat → ClassId) (dI : Nat → Nat → Nat) (sz Bd : Nat) (h0 rq oa pl dk rw : Nat) (k2 : ClassId) (x y : Int32) (h : 0 ≤ x ∧ x ≤ 7) : Met l y_LW_air w_LW_air ({ frames := 3, cells := 0, slots := 0, locals := 64 }) (frP (dC, dI) [(h0, .inr (0, [.ref rq, .ref oa, .ref pl, .ref dk, .ref rw, .int 0, .int 0, .int (-1)])), (oa, .inl (k2, 8, .inl (fun _ => 0)))] [(k2, .int)] sz Bd [.ref h0, .int x, .int y]) (frQ (some (.int 0)) (fun t => va_P (dC, dI) cls_ [] t.heap ∧ va_K (dC, dI) cls_ [] t ∧ va_D (va_A [(h0, .inr (0, [.ref rq, .ref oa, .ref pl, .ref dk, .ref rw, .int 0, .int 0, .int (-1)])), (oa, .inl (k2, 8, .inl (fun _ => 0)))] sz) []) (va_A [(h0, .inr (0, [.ref rq, .ref oa, .ref pl, .ref dk, .ref rw, .int 0, .int 0, .int (-1)])), (oa, .inl (k2, 8, .inl (fun _ => 0)))] sz)) 0 0 (va_A [(h0, .inr (0, [.ref rq, .ref oa, .ref pl, .ref dk, .ref rw, .int 0, .int 0, .int (-1)])), (oa, .inl (k2, 8, .inl (fun _ => 0)))] sz) := by
  refine va_MetW (cc := c_LW_air) (maxL := 4) (ret := (some .int)) (hh := [(0, 6, 9, 21)]) (by decide) rfl ?_
  intro p e s m args below meth c s₁ B hml hv
  obtain ⟨rfl, ⟨hsz, hBs⟩, hP, hK, hD0, hV⟩ := hv
  have hx := B.exec
  have hb := B.bytes
  have hr := B.returns
  have ht : ∀ w ∈ tb_, w.before _ s = true := fun w h => atoms_spec (ws := w_LW_air) B.pre w (List.mem_cons_of_mem _ h)
  have hown : s.vm.findClass R_LW = some m.cls := findClass_of_methodNamed B.named
  have hlocks := B.notSynchronized
  subst hsz
  have hD := hD0.self (sz := s.heap.size)
  have hAB : ∀ q, va_A [(h0, .inr (0, [.ref rq, .ref oa, .ref pl, .ref dk, .ref rw, .int 0, .int 0, .int (-1)])), (oa, .inl (k2, 8, .inl (fun _ => 0)))] s.heap.size q → Bd ≤ q := fr_AB hD0 hBs
  generalize hAe : va_A [(h0, .inr (0, [.ref rq, .ref oa, .ref pl, .ref dk, .ref rw, .int 0, .int 0, .int (-1)])), (oa, .inl (k2, 8, .inl (fun _ => 0)))] s.heap.size = A at hD hAB ⊢
  have hA : ∀ q : Nat, s.heap.size ≤ q → A q := fun q h => by rw [← hAe]; exact Or.inr h
  have hS : va_S A s.heap s.heap [] := va_S.rf
  have hAO := hV.2.2.2.1
  have hN_PL := hV.2.2.1.1
  have hN_RW := hV.2.2.1.2
  have hP : va_P (dC, dI) cls_ [(h0, .inr (0, [.ref rq, .ref oa, .ref pl, .ref dk, .ref rw, .int 0, .int 0, .int (-1)])), (oa, .inl (k2, 8, .inl (fun _ => 0)))] s.heap := hP
  have hl := lv_entry ([.ref h0, .int x, .int y]) (n := 4) (Nat.le_of_ble_eq_true rfl)
  rw [lg_entry_eq]
  generalize (lg_sl ([.ref h0, .int x, .int y]) ++ List.replicate (4 - (lg_sl ([.ref h0, .int x, .int y])).length) Slot.unset).toArray = ls at hl ⊢
  have hl : lv_has ls 4 [(0, .ref h0), (1, .int x), (2, .int y)] := hl
  refine lv_aload_n hx hb d_LW_air_0 rfl (lv_at hl 0 rfl) ?_
  refine lv_iload_n hx hb d_LW_air_1 rfl (lv_at hl 1 rfl) ?_
  refine lv_iload_n hx hb d_LW_air_2 rfl (lv_at hl 2 rfl) ?_
  have hPc := hP.sub (ws' := [(h0, .inr (0, [.ref rq, .ref oa, .ref pl, .ref dk, .ref rw, .int 0, .int 0, .int (-1)])), (oa, .inl (k2, 8, .inl (fun _ => 0)))]) [0, 1] rfl
  have hKc := hK.sub (tys' := [(k2, .int)]) [0] rfl
  have hDc := hD.sub (ws' := [(h0, .inr (0, [.ref rq, .ref oa, .ref pl, .ref dk, .ref rw, .int 0, .int 0, .int (-1)])), (oa, .inl (k2, 8, .inl (fun _ => 0)))]) [0, 1] (by decide) rfl
  have hFc := va_free (wc := [(h0, .inr (0, [.ref rq, .ref oa, .ref pl, .ref dk, .ref rw, .int 0, .int 0, .int (-1)])), (oa, .inl (k2, 8, .inl (fun _ => 0)))]) hD hS hA [0, 1] rfl
  refine fr_call (va_runV (C := R_TT) (As := [.int x, .int y]) (rest := []) ⟨hx, hb, hml, hown, ht⟩ (c_TT_air_ok l dC dI s.heap.size Bd h0 rq oa pl dk rw k2 x y h) (cwV 2 ht (gV tb_506 tb_507 tb_508 tb_1 tb_509) rfl rfl rfl (by decide +kernel) ⟨Nat.le_of_ble_eq_true rfl, Nat.le_of_ble_eq_true rfl⟩) ⟨frP_blind, va_recv (q := (R_TT, F_TT, 8)) hK hP rfl (show ([(h0, .inr (0, [.ref rq, .ref oa, .ref pl, .ref dk, .ref rw, .int 0, .int 0, .int (-1)])), (oa, .inl (k2, 8, .inl (fun _ => 0)))] : va_W)[0]? = some (h0, .inr (0, [.ref rq, .ref oa, .ref pl, .ref dk, .ref rw, .int 0, .int 0, .int (-1)])) from rfl), fr_pre hPc hKc hDc hAB hBs hS hV⟩ rfl rfl hl.1 rfl (lv_room (Nat.le_of_ble_eq_true rfl)) d_LW_air_3 ⟨Nat.le_of_ble_eq_true rfl, Nat.le_of_ble_eq_true rfl⟩) hS (fun q _ h => hFc q h) hFc (fun t H1 locs ht1 hvm hB1 hz1 hk1 hS => ?_)
  obtain ⟨hP1, hK1, hD1⟩ := hB1
  rw [ht1] at hP1
  have hK1 := va_K.moved hvm.symm hK1
  obtain ⟨hP, hD⟩ := va_join (wr := []) (w1 := []) hP hD [0, 1] [] rfl rfl (by decide) (by decide) hk1 hFc hP1 hD1
  have hK := hK.app hK1
  generalize H1 = H at hP hS ⊢
  have hP : va_P (dC, dI) cls_ [] H := hP
  have hD : va_D A [] := hD
  have hK : va_K (dC, dI) cls_ [(k2, .int)] s := hK
  refine W.eq (g2 := F0 m 6 ls []) rfl ?_
  refine W.cs (cells' := 0) (slots' := 0) rfl rfl ?_
  refine lv_goto (tgt := 12) hx hb d_LW_air_6 (by decide) ?_
  refine lv_iconst (v := 0) hx hb d_LW_air_12 (by decide) ?_
  have hP9 := hP.sub (ws' := []) [] rfl
  have hD9 := hD.sub (ws' := []) [] (by decide) rfl
  have hK9 := hK.sub (tys' := []) [] rfl
  exact W.iret (v := 0) hx hb hr (fun t ht9 hW => ⟨rfl, ⟨by rw [ht9]; exact hP9, va_K.moved hW.alike hK9, hD9⟩, hS.F ht9⟩) hS.2.2 d_LW_air_13
set_option maxHeartbeats 4000000 in
set_option maxRecDepth 100000 in
theorem c_LW_ticks_good (l : Launch) (dC : Nat → ClassId) (dI : Nat → Nat → Nat) (sz Bd : Nat) (h0 rq oa pl dk rw : Nat) (q9 ou : Nat) (k4 : ClassId) (N : Nat) (h : 1 ≤ N ∧ N ≤ 100) : Met l y_LW_ticks w_LW_ticks ({ frames := 4, cells := 0, slots := 0, locals := 93 }) (frP (dC, dI) [(h0, .inr (0, [.ref rq, .ref oa, .ref pl, .ref dk, .ref rw, .int 0, .int 0, .int (-1)])), (pl, .inr (1, [.ref q9, .int 0])), (ou, .inl (k4, 1, .inr (.inl (fun _ => 0))))] [(k4, .long)] sz Bd [.ref h0, .int (nI N), .ref ou]) (frQ (some (.int 0)) (fun t => va_P (dC, dI) cls_ [(ou, .inl (k4, 1, .inr (.inl (vp_updL (fun _ => 0) (0 : Int32).toNatClampNeg (0 : Int32).toInt64))))] t.heap ∧ va_K (dC, dI) cls_ [(k4, .long)] t ∧ va_D (va_A [(h0, .inr (0, [.ref rq, .ref oa, .ref pl, .ref dk, .ref rw, .int 0, .int 0, .int (-1)])), (pl, .inr (1, [.ref q9, .int 0])), (ou, .inl (k4, 1, .inr (.inl (fun _ => 0))))] sz) [(ou, .inl (k4, 1, .inr (.inl (vp_updL (fun _ => 0) (0 : Int32).toNatClampNeg (0 : Int32).toInt64))))]) (va_A [(h0, .inr (0, [.ref rq, .ref oa, .ref pl, .ref dk, .ref rw, .int 0, .int 0, .int (-1)])), (pl, .inr (1, [.ref q9, .int 0])), (ou, .inl (k4, 1, .inr (.inl (fun _ => 0))))] sz)) 0 0 (va_A [(h0, .inr (0, [.ref rq, .ref oa, .ref pl, .ref dk, .ref rw, .int 0, .int 0, .int (-1)])), (pl, .inr (1, [.ref q9, .int 0])), (ou, .inl (k4, 1, .inr (.inl (fun _ => 0))))] sz) := by
  refine va_MetW (cc := c_LW_ticks) (maxL := 4) (ret := (some .int)) (hh := [(0, 9, 12, 13)]) (by decide) rfl ?_
  intro p e s m args below meth c s₁ B hml hv
  obtain ⟨rfl, ⟨hsz, hBs⟩, hP, hK, hD0, hV⟩ := hv
  have hx := B.exec
  have hb := B.bytes
  have hr := B.returns
  have ht : ∀ w ∈ tb_, w.before _ s = true := fun w h => atoms_spec (ws := w_LW_ticks) B.pre w (List.mem_cons_of_mem _ h)
  have hown : s.vm.findClass R_LW = some m.cls := findClass_of_methodNamed B.named
  have hlocks := B.notSynchronized
  subst hsz
  have hD := hD0.self (sz := s.heap.size)
  have hAB : ∀ q, va_A [(h0, .inr (0, [.ref rq, .ref oa, .ref pl, .ref dk, .ref rw, .int 0, .int 0, .int (-1)])), (pl, .inr (1, [.ref q9, .int 0])), (ou, .inl (k4, 1, .inr (.inl (fun _ => 0))))] s.heap.size q → Bd ≤ q := fr_AB hD0 hBs
  generalize hAe : va_A [(h0, .inr (0, [.ref rq, .ref oa, .ref pl, .ref dk, .ref rw, .int 0, .int 0, .int (-1)])), (pl, .inr (1, [.ref q9, .int 0])), (ou, .inl (k4, 1, .inr (.inl (fun _ => 0))))] s.heap.size = A at hD hAB ⊢
  have hA : ∀ q : Nat, s.heap.size ≤ q → A q := fun q h => by rw [← hAe]; exact Or.inr h
  have hS : va_S A s.heap s.heap [] := va_S.rf
  have hAO := hV.2.2.2.1
  have hN_PL := hV.2.2.1.1
  have hN_RW := hV.2.2.1.2
  have hP : va_P (dC, dI) cls_ [(h0, .inr (0, [.ref rq, .ref oa, .ref pl, .ref dk, .ref rw, .int 0, .int 0, .int (-1)])), (pl, .inr (1, [.ref q9, .int 0])), (ou, .inl (k4, 1, .inr (.inl (fun _ => 0))))] s.heap := hP
  have hl := lv_entry ([.ref h0, .int (nI N), .ref ou]) (n := 4) (Nat.le_of_ble_eq_true rfl)
  rw [lg_entry_eq]
  generalize (lg_sl ([.ref h0, .int (nI N), .ref ou]) ++ List.replicate (4 - (lg_sl ([.ref h0, .int (nI N), .ref ou])).length) Slot.unset).toArray = ls at hl ⊢
  have hl : lv_has ls 4 [(0, .ref h0), (1, .int (nI N)), (2, .ref ou)] := hl
  refine lv_aload_n hx hb d_LW_ticks_0 rfl (lv_at hl 2 rfl) ?_
  refine lv_iconst (v := 0) hx hb d_LW_ticks_1 (by decide) ?_
  refine lv_aload_n hx hb d_LW_ticks_2 rfl (lv_at hl 0 rfl) ?_
  refine lv_iload_n hx hb d_LW_ticks_3 rfl (lv_at hl 1 rfl) ?_
  have hPc := hP.sub (ws' := [(h0, .inr (0, [.ref rq, .ref oa, .ref pl, .ref dk, .ref rw, .int 0, .int 0, .int (-1)])), (pl, .inr (1, [.ref q9, .int 0]))]) [0, 1] rfl
  have hKc := hK.sub (tys' := []) [] rfl
  have hDc := hD.sub (ws' := [(h0, .inr (0, [.ref rq, .ref oa, .ref pl, .ref dk, .ref rw, .int 0, .int 0, .int (-1)])), (pl, .inr (1, [.ref q9, .int 0]))]) [0, 1] (by decide) rfl
  have hFc := va_free (wc := [(h0, .inr (0, [.ref rq, .ref oa, .ref pl, .ref dk, .ref rw, .int 0, .int 0, .int (-1)])), (pl, .inr (1, [.ref q9, .int 0]))]) hD hS hA [0, 1] rfl
  refine fr_call (va_runV (C := R_TT) (As := [.int (nI N)]) (rest := [.int 0, .ref ou]) ⟨hx, hb, hml, hown, ht⟩ (c_TT_ticks_ok l dC dI s.heap.size Bd h0 rq oa pl dk rw q9 N h) (cwV 1 ht (gV tb_514 tb_515 tb_516 tb_1 tb_517) rfl rfl rfl (by decide +kernel) ⟨Nat.le_of_ble_eq_true rfl, Nat.le_of_ble_eq_true rfl⟩) ⟨frP_blind, va_recv (q := (R_TT, F_TT, 8)) hK hP rfl (show ([(h0, .inr (0, [.ref rq, .ref oa, .ref pl, .ref dk, .ref rw, .int 0, .int 0, .int (-1)])), (pl, .inr (1, [.ref q9, .int 0])), (ou, .inl (k4, 1, .inr (.inl (fun _ => 0))))] : va_W)[0]? = some (h0, .inr (0, [.ref rq, .ref oa, .ref pl, .ref dk, .ref rw, .int 0, .int 0, .int (-1)])) from rfl), fr_pre hPc hKc hDc hAB hBs hS hV⟩ rfl rfl hl.1 rfl (lv_room (Nat.le_of_ble_eq_true rfl)) d_LW_ticks_4 ⟨Nat.le_of_ble_eq_true rfl, Nat.le_of_ble_eq_true rfl⟩) hS (fun q _ h => hFc q h) hFc (fun t H1 locs ht1 hvm hB1 hz1 hk1 hS => ?_)
  obtain ⟨hP1, hK1, hD1⟩ := hB1
  rw [ht1] at hP1
  have hK1 := va_K.moved hvm.symm hK1
  obtain ⟨hP, hD⟩ := va_join (wr := [(ou, .inl (k4, 1, .inr (.inl (fun _ => 0))))]) (w1 := []) hP hD [0, 1] [2] rfl rfl (by decide) (by decide) hk1 hFc hP1 hD1
  have hK := hK.app hK1
  generalize H1 = H at hP hS ⊢
  have hP : va_P (dC, dI) cls_ [(ou, .inl (k4, 1, .inr (.inl (fun _ => 0))))] H := hP
  have hD : va_D A [(ou, .inl (k4, 1, .inr (.inl (fun _ => 0))))] := hD
  have hK : va_K (dC, dI) cls_ [(k4, .long)] s := hK
  refine W.eq (g2 := F0 m 7 ls [.int 0, .int 0, .ref ou]) rfl ?_
  refine W.cs (cells' := 0) (slots' := 0) rfl rfl ?_
  refine lv_i2l hx hb d_LW_ticks_7 rfl ?_
  refine va_last hx hb hK hP hD hS 0 0 rfl rfl (show vp_in (nI 0) 1 from vp_in_nI (by decide) (by decide)) d_LW_ticks_8 (fun H locs hP hD hS => ?_)
  have hP : va_P (dC, dI) cls_ [(ou, .inl (k4, 1, .inr (.inl (vp_updL (fun _ => 0) (0 : Int32).toNatClampNeg (0 : Int32).toInt64))))] H := hP
  have hD : va_D A [(ou, .inl (k4, 1, .inr (.inl (vp_updL (fun _ => 0) (0 : Int32).toNatClampNeg (0 : Int32).toInt64))))] := hD
  refine lv_goto (tgt := 15) hx hb d_LW_ticks_9 (by decide) ?_
  refine lv_iconst (v := 0) hx hb d_LW_ticks_15 (by decide) ?_
  have hP9 := hP.sub (ws' := [(ou, .inl (k4, 1, .inr (.inl (vp_updL (fun _ => 0) (0 : Int32).toNatClampNeg (0 : Int32).toInt64))))]) [0] rfl
  have hD9 := hD.sub (ws' := [(ou, .inl (k4, 1, .inr (.inl (vp_updL (fun _ => 0) (0 : Int32).toNatClampNeg (0 : Int32).toInt64))))]) [0] (by decide) rfl
  have hK9 := hK.sub (tys' := [(k4, .long)]) [0] rfl
  exact W.iret (v := 0) hx hb hr (fun t ht9 hW => ⟨rfl, ⟨by rw [ht9]; exact hP9, va_K.moved hW.alike hK9, hD9⟩, hS.F ht9⟩) hS.2.2 d_LW_ticks_16
set_option maxHeartbeats 4000000 in
set_option maxRecDepth 100000 in
theorem c_LW_watch_good (l : Launch) (dC : Nat → ClassId) (dI : Nat → Nat → Nat) (sz Bd : Nat) (h0 rq oa pl dk rw : Nat) (r1 ou : Nat) (k4 : ClassId) (x : Int32) (h : -1 ≤ x ∧ x ≤ 7) : Met l y_LW_watch w_LW_watch ({ frames := 3, cells := 0, slots := 0, locals := 64 }) (frP (dC, dI) [(h0, .inr (0, [.ref rq, .ref oa, .ref pl, .ref dk, .ref rw, .int 0, .int 0, .int (-1)])), (rw, .inr (3, [.ref r1, .int 0, .int 0])), (ou, .inl (k4, 1, .inr (.inl (fun _ => 0))))] [(k4, .long)] sz Bd [.ref h0, .int x, .ref ou]) (frQ (some (.int 0)) (fun t => va_P (dC, dI) cls_ [(ou, .inl (k4, 1, .inr (.inl (vp_updL (fun _ => 0) (0 : Int32).toNatClampNeg (-1 : Int32).toInt64))))] t.heap ∧ va_K (dC, dI) cls_ [(k4, .long)] t ∧ va_D (va_A [(h0, .inr (0, [.ref rq, .ref oa, .ref pl, .ref dk, .ref rw, .int 0, .int 0, .int (-1)])), (rw, .inr (3, [.ref r1, .int 0, .int 0])), (ou, .inl (k4, 1, .inr (.inl (fun _ => 0))))] sz) [(ou, .inl (k4, 1, .inr (.inl (vp_updL (fun _ => 0) (0 : Int32).toNatClampNeg (-1 : Int32).toInt64))))]) (va_A [(h0, .inr (0, [.ref rq, .ref oa, .ref pl, .ref dk, .ref rw, .int 0, .int 0, .int (-1)])), (rw, .inr (3, [.ref r1, .int 0, .int 0])), (ou, .inl (k4, 1, .inr (.inl (fun _ => 0))))] sz)) 0 0 (va_A [(h0, .inr (0, [.ref rq, .ref oa, .ref pl, .ref dk, .ref rw, .int 0, .int 0, .int (-1)])), (rw, .inr (3, [.ref r1, .int 0, .int 0])), (ou, .inl (k4, 1, .inr (.inl (fun _ => 0))))] sz) := by
  refine va_MetW (cc := c_LW_watch) (maxL := 4) (ret := (some .int)) (hh := [(0, 9, 12, 21)]) (by decide) rfl ?_
  intro p e s m args below meth c s₁ B hml hv
  obtain ⟨rfl, ⟨hsz, hBs⟩, hP, hK, hD0, hV⟩ := hv
  have hx := B.exec
  have hb := B.bytes
  have hr := B.returns
  have ht : ∀ w ∈ tb_, w.before _ s = true := fun w h => atoms_spec (ws := w_LW_watch) B.pre w (List.mem_cons_of_mem _ h)
  have hown : s.vm.findClass R_LW = some m.cls := findClass_of_methodNamed B.named
  have hlocks := B.notSynchronized
  subst hsz
  have hD := hD0.self (sz := s.heap.size)
  have hAB : ∀ q, va_A [(h0, .inr (0, [.ref rq, .ref oa, .ref pl, .ref dk, .ref rw, .int 0, .int 0, .int (-1)])), (rw, .inr (3, [.ref r1, .int 0, .int 0])), (ou, .inl (k4, 1, .inr (.inl (fun _ => 0))))] s.heap.size q → Bd ≤ q := fr_AB hD0 hBs
  generalize hAe : va_A [(h0, .inr (0, [.ref rq, .ref oa, .ref pl, .ref dk, .ref rw, .int 0, .int 0, .int (-1)])), (rw, .inr (3, [.ref r1, .int 0, .int 0])), (ou, .inl (k4, 1, .inr (.inl (fun _ => 0))))] s.heap.size = A at hD hAB ⊢
  have hA : ∀ q : Nat, s.heap.size ≤ q → A q := fun q h => by rw [← hAe]; exact Or.inr h
  have hS : va_S A s.heap s.heap [] := va_S.rf
  have hAO := hV.2.2.2.1
  have hN_PL := hV.2.2.1.1
  have hN_RW := hV.2.2.1.2
  have hP : va_P (dC, dI) cls_ [(h0, .inr (0, [.ref rq, .ref oa, .ref pl, .ref dk, .ref rw, .int 0, .int 0, .int (-1)])), (rw, .inr (3, [.ref r1, .int 0, .int 0])), (ou, .inl (k4, 1, .inr (.inl (fun _ => 0))))] s.heap := hP
  have hl := lv_entry ([.ref h0, .int x, .ref ou]) (n := 4) (Nat.le_of_ble_eq_true rfl)
  rw [lg_entry_eq]
  generalize (lg_sl ([.ref h0, .int x, .ref ou]) ++ List.replicate (4 - (lg_sl ([.ref h0, .int x, .ref ou])).length) Slot.unset).toArray = ls at hl ⊢
  have hl : lv_has ls 4 [(0, .ref h0), (1, .int x), (2, .ref ou)] := hl
  refine lv_aload_n hx hb d_LW_watch_0 rfl (lv_at hl 2 rfl) ?_
  refine lv_iconst (v := 0) hx hb d_LW_watch_1 (by decide) ?_
  refine lv_aload_n hx hb d_LW_watch_2 rfl (lv_at hl 0 rfl) ?_
  refine lv_iload_n hx hb d_LW_watch_3 rfl (lv_at hl 1 rfl) ?_
  have hPc := hP.sub (ws' := [(h0, .inr (0, [.ref rq, .ref oa, .ref pl, .ref dk, .ref rw, .int 0, .int 0, .int (-1)])), (rw, .inr (3, [.ref r1, .int 0, .int 0]))]) [0, 1] rfl
  have hKc := hK.sub (tys' := []) [] rfl
  have hDc := hD.sub (ws' := [(h0, .inr (0, [.ref rq, .ref oa, .ref pl, .ref dk, .ref rw, .int 0, .int 0, .int (-1)])), (rw, .inr (3, [.ref r1, .int 0, .int 0]))]) [0, 1] (by decide) rfl
  have hFc := va_free (wc := [(h0, .inr (0, [.ref rq, .ref oa, .ref pl, .ref dk, .ref rw, .int 0, .int 0, .int (-1)])), (rw, .inr (3, [.ref r1, .int 0, .int 0]))]) hD hS hA [0, 1] rfl
  refine fr_call (va_runV (C := R_TT) (As := [.int x]) (rest := [.int 0, .ref ou]) ⟨hx, hb, hml, hown, ht⟩ (c_TT_watch_ok l dC dI s.heap.size Bd h0 rq oa pl dk rw r1 x h) (cwV 1 ht (gV tb_522 tb_523 tb_524 tb_1 tb_525) rfl rfl rfl (by decide +kernel) ⟨Nat.le_of_ble_eq_true rfl, Nat.le_of_ble_eq_true rfl⟩) ⟨frP_blind, va_recv (q := (R_TT, F_TT, 8)) hK hP rfl (show ([(h0, .inr (0, [.ref rq, .ref oa, .ref pl, .ref dk, .ref rw, .int 0, .int 0, .int (-1)])), (rw, .inr (3, [.ref r1, .int 0, .int 0])), (ou, .inl (k4, 1, .inr (.inl (fun _ => 0))))] : va_W)[0]? = some (h0, .inr (0, [.ref rq, .ref oa, .ref pl, .ref dk, .ref rw, .int 0, .int 0, .int (-1)])) from rfl), fr_pre hPc hKc hDc hAB hBs hS hV⟩ rfl rfl hl.1 rfl (lv_room (Nat.le_of_ble_eq_true rfl)) d_LW_watch_4 ⟨Nat.le_of_ble_eq_true rfl, Nat.le_of_ble_eq_true rfl⟩) hS (fun q _ h => hFc q h) hFc (fun t H1 locs ht1 hvm hB1 hz1 hk1 hS => ?_)
  obtain ⟨hP1, hK1, hD1⟩ := hB1
  rw [ht1] at hP1
  have hK1 := va_K.moved hvm.symm hK1
  obtain ⟨hP, hD⟩ := va_join (wr := [(ou, .inl (k4, 1, .inr (.inl (fun _ => 0))))]) (w1 := []) hP hD [0, 1] [2] rfl rfl (by decide) (by decide) hk1 hFc hP1 hD1
  have hK := hK.app hK1
  generalize H1 = H at hP hS ⊢
  have hP : va_P (dC, dI) cls_ [(ou, .inl (k4, 1, .inr (.inl (fun _ => 0))))] H := hP
  have hD : va_D A [(ou, .inl (k4, 1, .inr (.inl (fun _ => 0))))] := hD
  have hK : va_K (dC, dI) cls_ [(k4, .long)] s := hK
  refine W.eq (g2 := F0 m 7 ls [.int (-1), .int 0, .ref ou]) rfl ?_
  refine W.cs (cells' := 0) (slots' := 0) rfl rfl ?_
  refine lv_i2l hx hb d_LW_watch_7 rfl ?_
  refine va_last hx hb hK hP hD hS 0 0 rfl rfl (show vp_in (nI 0) 1 from vp_in_nI (by decide) (by decide)) d_LW_watch_8 (fun H locs hP hD hS => ?_)
  have hP : va_P (dC, dI) cls_ [(ou, .inl (k4, 1, .inr (.inl (vp_updL (fun _ => 0) (0 : Int32).toNatClampNeg (-1 : Int32).toInt64))))] H := hP
  have hD : va_D A [(ou, .inl (k4, 1, .inr (.inl (vp_updL (fun _ => 0) (0 : Int32).toNatClampNeg (-1 : Int32).toInt64))))] := hD
  refine lv_goto (tgt := 15) hx hb d_LW_watch_9 (by decide) ?_
  refine lv_iconst (v := 0) hx hb d_LW_watch_15 (by decide) ?_
  have hP9 := hP.sub (ws' := [(ou, .inl (k4, 1, .inr (.inl (vp_updL (fun _ => 0) (0 : Int32).toNatClampNeg (-1 : Int32).toInt64))))]) [0] rfl
  have hD9 := hD.sub (ws' := [(ou, .inl (k4, 1, .inr (.inl (vp_updL (fun _ => 0) (0 : Int32).toNatClampNeg (-1 : Int32).toInt64))))]) [0] (by decide) rfl
  have hK9 := hK.sub (tys' := [(k4, .long)]) [0] rfl
  exact W.iret (v := 0) hx hb hr (fun t ht9 hW => ⟨rfl, ⟨by rw [ht9]; exact hP9, va_K.moved hW.alike hK9, hD9⟩, hS.F ht9⟩) hS.2.2 d_LW_watch_16
set_option maxHeartbeats 4000000 in
set_option maxRecDepth 100000 in
theorem c_LW_cut_good (l : Launch) (dC : Nat → ClassId) (dI : Nat → Nat → Nat) (sz Bd : Nat) (h0 rq oa pl dk rw : Nat) (r1 ou : Nat) (k4 : ClassId) (x : Int32) (h : 0 ≤ x ∧ x ≤ 1000) : Met l y_LW_cut w_LW_cut ({ frames := 3, cells := 0, slots := 0, locals := 67 }) (frP (dC, dI) [(h0, .inr (0, [.ref rq, .ref oa, .ref pl, .ref dk, .ref rw, .int 0, .int 0, .int (-1)])), (rw, .inr (3, [.ref r1, .int 0, .int 0])), (ou, .inl (k4, 1, .inr (.inl (fun _ => 0))))] [(k4, .long)] sz Bd [.ref h0, .int x, .ref ou]) (frQ (some (.int 0)) (fun t => va_P (dC, dI) cls_ [(ou, .inl (k4, 1, .inr (.inl (vp_updL (fun _ => 0) (0 : Int32).toNatClampNeg (0 : Int32).toInt64))))] t.heap ∧ va_K (dC, dI) cls_ [(k4, .long)] t ∧ va_D (va_A [(h0, .inr (0, [.ref rq, .ref oa, .ref pl, .ref dk, .ref rw, .int 0, .int 0, .int (-1)])), (rw, .inr (3, [.ref r1, .int 0, .int 0])), (ou, .inl (k4, 1, .inr (.inl (fun _ => 0))))] sz) [(ou, .inl (k4, 1, .inr (.inl (vp_updL (fun _ => 0) (0 : Int32).toNatClampNeg (0 : Int32).toInt64))))]) (va_A [(h0, .inr (0, [.ref rq, .ref oa, .ref pl, .ref dk, .ref rw, .int 0, .int 0, .int (-1)])), (rw, .inr (3, [.ref r1, .int 0, .int 0])), (ou, .inl (k4, 1, .inr (.inl (fun _ => 0))))] sz)) 0 0 (va_A [(h0, .inr (0, [.ref rq, .ref oa, .ref pl, .ref dk, .ref rw, .int 0, .int 0, .int (-1)])), (rw, .inr (3, [.ref r1, .int 0, .int 0])), (ou, .inl (k4, 1, .inr (.inl (fun _ => 0))))] sz) := by
  refine va_MetW (cc := c_LW_cut) (maxL := 4) (ret := (some .int)) (hh := [(0, 9, 12, 13)]) (by decide) rfl ?_
  intro p e s m args below meth c s₁ B hml hv
  obtain ⟨rfl, ⟨hsz, hBs⟩, hP, hK, hD0, hV⟩ := hv
  have hx := B.exec
  have hb := B.bytes
  have hr := B.returns
  have ht : ∀ w ∈ tb_, w.before _ s = true := fun w h => atoms_spec (ws := w_LW_cut) B.pre w (List.mem_cons_of_mem _ h)
  have hown : s.vm.findClass R_LW = some m.cls := findClass_of_methodNamed B.named
  have hlocks := B.notSynchronized
  subst hsz
  have hD := hD0.self (sz := s.heap.size)
  have hAB : ∀ q, va_A [(h0, .inr (0, [.ref rq, .ref oa, .ref pl, .ref dk, .ref rw, .int 0, .int 0, .int (-1)])), (rw, .inr (3, [.ref r1, .int 0, .int 0])), (ou, .inl (k4, 1, .inr (.inl (fun _ => 0))))] s.heap.size q → Bd ≤ q := fr_AB hD0 hBs
  generalize hAe : va_A [(h0, .inr (0, [.ref rq, .ref oa, .ref pl, .ref dk, .ref rw, .int 0, .int 0, .int (-1)])), (rw, .inr (3, [.ref r1, .int 0, .int 0])), (ou, .inl (k4, 1, .inr (.inl (fun _ => 0))))] s.heap.size = A at hD hAB ⊢
  have hA : ∀ q : Nat, s.heap.size ≤ q → A q := fun q h => by rw [← hAe]; exact Or.inr h
  have hS : va_S A s.heap s.heap [] := va_S.rf
  have hAO := hV.2.2.2.1
  have hN_PL := hV.2.2.1.1
  have hN_RW := hV.2.2.1.2
  have hP : va_P (dC, dI) cls_ [(h0, .inr (0, [.ref rq, .ref oa, .ref pl, .ref dk, .ref rw, .int 0, .int 0, .int (-1)])), (rw, .inr (3, [.ref r1, .int 0, .int 0])), (ou, .inl (k4, 1, .inr (.inl (fun _ => 0))))] s.heap := hP
  have hl := lv_entry ([.ref h0, .int x, .ref ou]) (n := 4) (Nat.le_of_ble_eq_true rfl)
  rw [lg_entry_eq]
  generalize (lg_sl ([.ref h0, .int x, .ref ou]) ++ List.replicate (4 - (lg_sl ([.ref h0, .int x, .ref ou])).length) Slot.unset).toArray = ls at hl ⊢
  have hl : lv_has ls 4 [(0, .ref h0), (1, .int x), (2, .ref ou)] := hl
  refine lv_aload_n hx hb d_LW_cut_0 rfl (lv_at hl 2 rfl) ?_
  refine lv_iconst (v := 0) hx hb d_LW_cut_1 (by decide) ?_
  refine lv_aload_n hx hb d_LW_cut_2 rfl (lv_at hl 0 rfl) ?_
  refine lv_iload_n hx hb d_LW_cut_3 rfl (lv_at hl 1 rfl) ?_
  have hPc := hP.sub (ws' := [(h0, .inr (0, [.ref rq, .ref oa, .ref pl, .ref dk, .ref rw, .int 0, .int 0, .int (-1)])), (rw, .inr (3, [.ref r1, .int 0, .int 0]))]) [0, 1] rfl
  have hKc := hK.sub (tys' := []) [] rfl
  have hDc := hD.sub (ws' := [(h0, .inr (0, [.ref rq, .ref oa, .ref pl, .ref dk, .ref rw, .int 0, .int 0, .int (-1)])), (rw, .inr (3, [.ref r1, .int 0, .int 0]))]) [0, 1] (by decide) rfl
  have hFc := va_free (wc := [(h0, .inr (0, [.ref rq, .ref oa, .ref pl, .ref dk, .ref rw, .int 0, .int 0, .int (-1)])), (rw, .inr (3, [.ref r1, .int 0, .int 0]))]) hD hS hA [0, 1] rfl
  refine fr_call (va_runV (C := R_TT) (As := [.int x]) (rest := [.int 0, .ref ou]) ⟨hx, hb, hml, hown, ht⟩ (c_TT_cut_ok l dC dI s.heap.size Bd h0 rq oa pl dk rw r1 x h) (cwV 1 ht (gV tb_613 tb_614 tb_615 tb_1 tb_616) rfl rfl rfl (by decide +kernel) ⟨Nat.le_of_ble_eq_true rfl, Nat.le_of_ble_eq_true rfl⟩) ⟨frP_blind, va_recv (q := (R_TT, F_TT, 8)) hK hP rfl (show ([(h0, .inr (0, [.ref rq, .ref oa, .ref pl, .ref dk, .ref rw, .int 0, .int 0, .int (-1)])), (rw, .inr (3, [.ref r1, .int 0, .int 0])), (ou, .inl (k4, 1, .inr (.inl (fun _ => 0))))] : va_W)[0]? = some (h0, .inr (0, [.ref rq, .ref oa, .ref pl, .ref dk, .ref rw, .int 0, .int 0, .int (-1)])) from rfl), fr_pre hPc hKc hDc hAB hBs hS hV⟩ rfl rfl hl.1 rfl (lv_room (Nat.le_of_ble_eq_true rfl)) d_LW_cut_4 ⟨Nat.le_of_ble_eq_true rfl, Nat.le_of_ble_eq_true rfl⟩) hS (fun q _ h => hFc q h) hFc (fun t H1 locs ht1 hvm hB1 hz1 hk1 hS => ?_)
  obtain ⟨hP1, hK1, hD1⟩ := hB1
  rw [ht1] at hP1
  have hK1 := va_K.moved hvm.symm hK1
  obtain ⟨hP, hD⟩ := va_join (wr := [(ou, .inl (k4, 1, .inr (.inl (fun _ => 0))))]) (w1 := []) hP hD [0, 1] [2] rfl rfl (by decide) (by decide) hk1 hFc hP1 hD1
  have hK := hK.app hK1
  generalize H1 = H at hP hS ⊢
  have hP : va_P (dC, dI) cls_ [(ou, .inl (k4, 1, .inr (.inl (fun _ => 0))))] H := hP
  have hD : va_D A [(ou, .inl (k4, 1, .inr (.inl (fun _ => 0))))] := hD
  have hK : va_K (dC, dI) cls_ [(k4, .long)] s := hK
  refine W.eq (g2 := F0 m 7 ls [.int 0, .int 0, .ref ou]) rfl ?_
  refine W.cs (cells' := 0) (slots' := 0) rfl rfl ?_
  refine lv_i2l hx hb d_LW_cut_7 rfl ?_
  refine va_last hx hb hK hP hD hS 0 0 rfl rfl (show vp_in (nI 0) 1 from vp_in_nI (by decide) (by decide)) d_LW_cut_8 (fun H locs hP hD hS => ?_)
  have hP : va_P (dC, dI) cls_ [(ou, .inl (k4, 1, .inr (.inl (vp_updL (fun _ => 0) (0 : Int32).toNatClampNeg (0 : Int32).toInt64))))] H := hP
  have hD : va_D A [(ou, .inl (k4, 1, .inr (.inl (vp_updL (fun _ => 0) (0 : Int32).toNatClampNeg (0 : Int32).toInt64))))] := hD
  refine lv_goto (tgt := 15) hx hb d_LW_cut_9 (by decide) ?_
  refine lv_iconst (v := 0) hx hb d_LW_cut_15 (by decide) ?_
  have hP9 := hP.sub (ws' := [(ou, .inl (k4, 1, .inr (.inl (vp_updL (fun _ => 0) (0 : Int32).toNatClampNeg (0 : Int32).toInt64))))]) [0] rfl
  have hD9 := hD.sub (ws' := [(ou, .inl (k4, 1, .inr (.inl (vp_updL (fun _ => 0) (0 : Int32).toNatClampNeg (0 : Int32).toInt64))))]) [0] (by decide) rfl
  have hK9 := hK.sub (tys' := [(k4, .long)]) [0] rfl
  exact W.iret (v := 0) hx hb hr (fun t ht9 hW => ⟨rfl, ⟨by rw [ht9]; exact hP9, va_K.moved hW.alike hK9, hD9⟩, hS.F ht9⟩) hS.2.2 d_LW_cut_16
