set_option maxRecDepth 100000 in
theorem tb_0 : (.initialized "TwinTunersLaw" : Cond) ∈ tb_ := tb_w 0 rfl rfl
set_option maxRecDepth 100000 in
theorem tb_100 : (.methodLink "TwinTunersLaw" 105 ⟨"TwinTuners", "tick", "()I"⟩ : Cond) ∈ tb_ := tb_w 100 rfl rfl
set_option maxRecDepth 100000 in
theorem tb_101 : (.instanceMethod ⟨"TwinTuners", "tick", "()I"⟩ : Cond) ∈ tb_ := tb_w 101 rfl rfl
set_option maxRecDepth 100000 in
theorem tb_102 : (.selects "TwinTuners" ⟨"TwinTuners", "tick", "()I"⟩ ⟨"TwinTuners", "tick", "()I"⟩ : Cond) ∈ tb_ := tb_w 102 rfl rfl
set_option maxRecDepth 100000 in
theorem tb_243 : (.methodLink "TwinTunersLaw" 112 ⟨"TwinTuners", "now", "()I"⟩ : Cond) ∈ tb_ := tb_w 243 rfl rfl
set_option maxRecDepth 100000 in
theorem tb_244 : (.instanceMethod ⟨"TwinTuners", "now", "()I"⟩ : Cond) ∈ tb_ := tb_w 244 rfl rfl
set_option maxRecDepth 100000 in
theorem tb_245 : (.selects "TwinTuners" ⟨"TwinTuners", "now", "()I"⟩ ⟨"TwinTuners", "now", "()I"⟩ : Cond) ∈ tb_ := tb_w 245 rfl rfl
set_option maxRecDepth 100000 in
theorem tb_247 : (.methodLink "TwinTunersLaw" 119 ⟨"TwinTuners", "back", "(I)J"⟩ : Cond) ∈ tb_ := tb_w 247 rfl rfl
set_option maxRecDepth 100000 in
theorem tb_248 : (.instanceMethod ⟨"TwinTuners", "back", "(I)J"⟩ : Cond) ∈ tb_ := tb_w 248 rfl rfl
set_option maxRecDepth 100000 in
theorem tb_249 : (.selects "TwinTuners" ⟨"TwinTuners", "back", "(I)J"⟩ ⟨"TwinTuners", "back", "(I)J"⟩ : Cond) ∈ tb_ := tb_w 249 rfl rfl
set_option maxRecDepth 100000 in
theorem tb_257 : (.methodLink "TwinTunersLaw" 144 ⟨"TwinTuners", "free", "()I"⟩ : Cond) ∈ tb_ := tb_w 257 rfl rfl
set_option maxRecDepth 100000 in
theorem tb_258 : (.instanceMethod ⟨"TwinTuners", "free", "()I"⟩ : Cond) ∈ tb_ := tb_w 258 rfl rfl
set_option maxRecDepth 100000 in
theorem tb_259 : (.selects "TwinTuners" ⟨"TwinTuners", "free", "()I"⟩ ⟨"TwinTuners", "free", "()I"⟩ : Cond) ∈ tb_ := tb_w 259 rfl rfl
set_option maxRecDepth 100000 in
theorem tb_261 : (.methodLink "TwinTunersLaw" 77 ⟨"TwinTunersLaw", "request", "(LTwinTuners;IIIII[J)I"⟩ : Cond) ∈ tb_ := tb_w 261 rfl rfl
set_option maxRecDepth 100000 in
theorem tb_262 : (.static ⟨"TwinTunersLaw", "request", "(LTwinTuners;IIIII[J)I"⟩ : Cond) ∈ tb_ := tb_w 262 rfl rfl
set_option maxRecDepth 100000 in
theorem tb_448 : (.methodLink "TwinTunersLaw" 87 ⟨"TwinTunersLaw", "cancel", "(LTwinTuners;I)I"⟩ : Cond) ∈ tb_ := tb_w 448 rfl rfl
set_option maxRecDepth 100000 in
theorem tb_449 : (.static ⟨"TwinTunersLaw", "cancel", "(LTwinTuners;I)I"⟩ : Cond) ∈ tb_ := tb_w 449 rfl rfl
set_option maxRecDepth 100000 in
theorem tb_481 : (.methodLink "TwinTunersLaw" 91 ⟨"TwinTunersLaw", "state", "(LTwinTuners;I[J)I"⟩ : Cond) ∈ tb_ := tb_w 481 rfl rfl
set_option maxRecDepth 100000 in
theorem tb_482 : (.static ⟨"TwinTunersLaw", "state", "(LTwinTuners;I[J)I"⟩ : Cond) ∈ tb_ := tb_w 482 rfl rfl
set_option maxRecDepth 100000 in
theorem tb_488 : (.methodLink "TwinTunersLaw" 95 ⟨"TwinTunersLaw", "planFrom", "(LTwinTuners;I[J)I"⟩ : Cond) ∈ tb_ := tb_w 488 rfl rfl
set_option maxRecDepth 100000 in
theorem tb_489 : (.static ⟨"TwinTunersLaw", "planFrom", "(LTwinTuners;I[J)I"⟩ : Cond) ∈ tb_ := tb_w 489 rfl rfl
set_option maxRecDepth 100000 in
theorem tb_496 : (.methodLink "TwinTunersLaw" 98 ⟨"TwinTunersLaw", "planTo", "(LTwinTuners;I[J)I"⟩ : Cond) ∈ tb_ := tb_w 496 rfl rfl
set_option maxRecDepth 100000 in
theorem tb_497 : (.static ⟨"TwinTunersLaw", "planTo", "(LTwinTuners;I[J)I"⟩ : Cond) ∈ tb_ := tb_w 497 rfl rfl
set_option maxRecDepth 100000 in
theorem tb_503 : (.methodLink "TwinTunersLaw" 101 ⟨"TwinTunersLaw", "air", "(LTwinTuners;II)I"⟩ : Cond) ∈ tb_ := tb_w 503 rfl rfl
set_option maxRecDepth 100000 in
theorem tb_504 : (.static ⟨"TwinTunersLaw", "air", "(LTwinTuners;II)I"⟩ : Cond) ∈ tb_ := tb_w 504 rfl rfl
set_option maxRecDepth 100000 in
theorem tb_511 : (.methodLink "TwinTunersLaw" 109 ⟨"TwinTunersLaw", "ticks", "(LTwinTuners;I[J)I"⟩ : Cond) ∈ tb_ := tb_w 511 rfl rfl
set_option maxRecDepth 100000 in
theorem tb_512 : (.static ⟨"TwinTunersLaw", "ticks", "(LTwinTuners;I[J)I"⟩ : Cond) ∈ tb_ := tb_w 512 rfl rfl
set_option maxRecDepth 100000 in
theorem tb_519 : (.methodLink "TwinTunersLaw" 116 ⟨"TwinTunersLaw", "watch", "(LTwinTuners;I[J)I"⟩ : Cond) ∈ tb_ := tb_w 519 rfl rfl
set_option maxRecDepth 100000 in
theorem tb_520 : (.static ⟨"TwinTunersLaw", "watch", "(LTwinTuners;I[J)I"⟩ : Cond) ∈ tb_ := tb_w 520 rfl rfl
set_option maxRecDepth 100000 in
theorem tb_526 : (.methodLink "TwinTunersLaw" 124 ⟨"TwinTunersLaw", "word", "(LTwinTuners;II[J)I"⟩ : Cond) ∈ tb_ := tb_w 526 rfl rfl
set_option maxRecDepth 100000 in
theorem tb_527 : (.static ⟨"TwinTunersLaw", "word", "(LTwinTuners;II[J)I"⟩ : Cond) ∈ tb_ := tb_w 527 rfl rfl
set_option maxRecDepth 100000 in
theorem tb_540 : (.methodLink "TwinTunersLaw" 128 ⟨"TwinTunersLaw", "recorded", "(LTwinTuners;I[J)I"⟩ : Cond) ∈ tb_ := tb_w 540 rfl rfl
set_option maxRecDepth 100000 in
theorem tb_541 : (.static ⟨"TwinTunersLaw", "recorded", "(LTwinTuners;I[J)I"⟩ : Cond) ∈ tb_ := tb_w 541 rfl rfl
set_option maxRecDepth 100000 in
theorem tb_552 : (.methodLink "TwinTunersLaw" 131 ⟨"TwinTunersLaw", "shortBy", "(LTwinTuners;I[J)I"⟩ : Cond) ∈ tb_ := tb_w 552 rfl rfl
set_option maxRecDepth 100000 in
theorem tb_553 : (.static ⟨"TwinTunersLaw", "shortBy", "(LTwinTuners;I[J)I"⟩ : Cond) ∈ tb_ := tb_w 553 rfl rfl
set_option maxRecDepth 100000 in
theorem tb_559 : (.methodLink "TwinTunersLaw" 134 ⟨"TwinTunersLaw", "protect", "(LTwinTuners;IZ)I"⟩ : Cond) ∈ tb_ := tb_w 559 rfl rfl
set_option maxRecDepth 100000 in
theorem tb_560 : (.static ⟨"TwinTunersLaw", "protect", "(LTwinTuners;IZ)I"⟩ : Cond) ∈ tb_ := tb_w 560 rfl rfl
set_option maxRecDepth 100000 in
theorem tb_575 : (.methodLink "TwinTunersLaw" 138 ⟨"TwinTunersLaw", "seen", "(LTwinTuners;IZ)I"⟩ : Cond) ∈ tb_ := tb_w 575 rfl rfl
set_option maxRecDepth 100000 in
theorem tb_576 : (.static ⟨"TwinTunersLaw", "seen", "(LTwinTuners;IZ)I"⟩ : Cond) ∈ tb_ := tb_w 576 rfl rfl
set_option maxRecDepth 100000 in
theorem tb_582 : (.methodLink "TwinTunersLaw" 141 ⟨"TwinTunersLaw", "erase", "(LTwinTuners;I[J)I"⟩ : Cond) ∈ tb_ := tb_w 582 rfl rfl
set_option maxRecDepth 100000 in
theorem tb_583 : (.static ⟨"TwinTunersLaw", "erase", "(LTwinTuners;I[J)I"⟩ : Cond) ∈ tb_ := tb_w 583 rfl rfl
set_option maxRecDepth 100000 in
theorem tb_590 : (.methodLink "TwinTunersLaw" 148 ⟨"TwinTunersLaw", "bookmark", "(LTwinTuners;II[J)I"⟩ : Cond) ∈ tb_ := tb_w 590 rfl rfl
set_option maxRecDepth 100000 in
theorem tb_591 : (.static ⟨"TwinTunersLaw", "bookmark", "(LTwinTuners;II[J)I"⟩ : Cond) ∈ tb_ := tb_w 591 rfl rfl
set_option maxRecDepth 100000 in
theorem tb_603 : (.methodLink "TwinTunersLaw" 151 ⟨"TwinTunersLaw", "bookmarkAt", "(LTwinTuners;II[J)I"⟩ : Cond) ∈ tb_ := tb_w 603 rfl rfl
set_option maxRecDepth 100000 in
theorem tb_604 : (.static ⟨"TwinTunersLaw", "bookmarkAt", "(LTwinTuners;II[J)I"⟩ : Cond) ∈ tb_ := tb_w 604 rfl rfl
set_option maxRecDepth 100000 in
theorem tb_610 : (.methodLink "TwinTunersLaw" 154 ⟨"TwinTunersLaw", "cut", "(LTwinTuners;I[J)I"⟩ : Cond) ∈ tb_ := tb_w 610 rfl rfl
set_option maxRecDepth 100000 in
theorem tb_611 : (.static ⟨"TwinTunersLaw", "cut", "(LTwinTuners;I[J)I"⟩ : Cond) ∈ tb_ := tb_w 611 rfl rfl
set_option maxRecDepth 100000 in
theorem tb_723 : (.methodLink "TwinTunersLaw" 83 ⟨"TwinTunersModel", "thrown", "()I"⟩ : Cond) ∈ tb_ := tb_w 723 rfl rfl
set_option maxRecDepth 100000 in
theorem tb_724 : (.instanceMethod ⟨"TwinTunersModel", "thrown", "()I"⟩ : Cond) ∈ tb_ := tb_w 724 rfl rfl
set_option maxRecDepth 100000 in
theorem tb_725 : (.selects "TwinTunersModel" ⟨"TwinTunersModel", "thrown", "()I"⟩ ⟨"TwinTunersModel", "thrown", "()I"⟩ : Cond) ∈ tb_ := tb_w 725 rfl rfl
set_option maxRecDepth 100000 in
theorem tb_727 : (.methodLink "TwinTunersLaw" 82 ⟨"TwinTunersModel", "request", "(IIIII)I"⟩ : Cond) ∈ tb_ := tb_w 727 rfl rfl
set_option maxRecDepth 100000 in
theorem tb_728 : (.instanceMethod ⟨"TwinTunersModel", "request", "(IIIII)I"⟩ : Cond) ∈ tb_ := tb_w 728 rfl rfl
set_option maxRecDepth 100000 in
theorem tb_729 : (.selects "TwinTunersModel" ⟨"TwinTunersModel", "request", "(IIIII)I"⟩ ⟨"TwinTunersModel", "request", "(IIIII)I"⟩ : Cond) ∈ tb_ := tb_w 729 rfl rfl
set_option maxRecDepth 100000 in
theorem tb_740 : (.methodLink "TwinTunersLaw" 90 ⟨"TwinTunersModel", "cancel", "(I)V"⟩ : Cond) ∈ tb_ := tb_w 740 rfl rfl
set_option maxRecDepth 100000 in
theorem tb_741 : (.instanceMethod ⟨"TwinTunersModel", "cancel", "(I)V"⟩ : Cond) ∈ tb_ := tb_w 741 rfl rfl
set_option maxRecDepth 100000 in
theorem tb_742 : (.selects "TwinTunersModel" ⟨"TwinTunersModel", "cancel", "(I)V"⟩ ⟨"TwinTunersModel", "cancel", "(I)V"⟩ : Cond) ∈ tb_ := tb_w 742 rfl rfl
set_option maxRecDepth 100000 in
theorem tb_748 : (.methodLink "TwinTunersLaw" 94 ⟨"TwinTunersModel", "state", "(I)I"⟩ : Cond) ∈ tb_ := tb_w 748 rfl rfl
set_option maxRecDepth 100000 in
theorem tb_749 : (.instanceMethod ⟨"TwinTunersModel", "state", "(I)I"⟩ : Cond) ∈ tb_ := tb_w 749 rfl rfl
set_option maxRecDepth 100000 in
theorem tb_750 : (.selects "TwinTunersModel" ⟨"TwinTunersModel", "state", "(I)I"⟩ ⟨"TwinTunersModel", "state", "(I)I"⟩ : Cond) ∈ tb_ := tb_w 750 rfl rfl
set_option maxRecDepth 100000 in
theorem tb_752 : (.methodLink "TwinTunersLaw" 97 ⟨"TwinTunersModel", "planFrom", "(I)I"⟩ : Cond) ∈ tb_ := tb_w 752 rfl rfl
set_option maxRecDepth 100000 in
theorem tb_753 : (.instanceMethod ⟨"TwinTunersModel", "planFrom", "(I)I"⟩ : Cond) ∈ tb_ := tb_w 753 rfl rfl
set_option maxRecDepth 100000 in
theorem tb_754 : (.selects "TwinTunersModel" ⟨"TwinTunersModel", "planFrom", "(I)I"⟩ ⟨"TwinTunersModel", "planFrom", "(I)I"⟩ : Cond) ∈ tb_ := tb_w 754 rfl rfl
set_option maxRecDepth 100000 in
theorem tb_796 : (.methodLink "TwinTunersLaw" 100 ⟨"TwinTunersModel", "planTo", "(I)I"⟩ : Cond) ∈ tb_ := tb_w 796 rfl rfl
set_option maxRecDepth 100000 in
theorem tb_797 : (.instanceMethod ⟨"TwinTunersModel", "planTo", "(I)I"⟩ : Cond) ∈ tb_ := tb_w 797 rfl rfl
set_option maxRecDepth 100000 in
theorem tb_798 : (.selects "TwinTunersModel" ⟨"TwinTunersModel", "planTo", "(I)I"⟩ ⟨"TwinTunersModel", "planTo", "(I)I"⟩ : Cond) ∈ tb_ := tb_w 798 rfl rfl
set_option maxRecDepth 100000 in
theorem tb_800 : (.methodLink "TwinTunersLaw" 104 ⟨"TwinTunersModel", "air", "(II)V"⟩ : Cond) ∈ tb_ := tb_w 800 rfl rfl
set_option maxRecDepth 100000 in
theorem tb_801 : (.instanceMethod ⟨"TwinTunersModel", "air", "(II)V"⟩ : Cond) ∈ tb_ := tb_w 801 rfl rfl
set_option maxRecDepth 100000 in
theorem tb_802 : (.selects "TwinTunersModel" ⟨"TwinTunersModel", "air", "(II)V"⟩ ⟨"TwinTunersModel", "air", "(II)V"⟩ : Cond) ∈ tb_ := tb_w 802 rfl rfl
set_option maxRecDepth 100000 in
theorem tb_804 : (.methodLink "TwinTunersLaw" 108 ⟨"TwinTunersModel", "tick", "()I"⟩ : Cond) ∈ tb_ := tb_w 804 rfl rfl
set_option maxRecDepth 100000 in
theorem tb_805 : (.instanceMethod ⟨"TwinTunersModel", "tick", "()I"⟩ : Cond) ∈ tb_ := tb_w 805 rfl rfl
set_option maxRecDepth 100000 in
theorem tb_806 : (.selects "TwinTunersModel" ⟨"TwinTunersModel", "tick", "()I"⟩ ⟨"TwinTunersModel", "tick", "()I"⟩ : Cond) ∈ tb_ := tb_w 806 rfl rfl
set_option maxRecDepth 100000 in
theorem tb_852 : (.methodLink "TwinTunersLaw" 111 ⟨"TwinTunersModel", "ticks", "(I)I"⟩ : Cond) ∈ tb_ := tb_w 852 rfl rfl
set_option maxRecDepth 100000 in
theorem tb_853 : (.instanceMethod ⟨"TwinTunersModel", "ticks", "(I)I"⟩ : Cond) ∈ tb_ := tb_w 853 rfl rfl
set_option maxRecDepth 100000 in
theorem tb_854 : (.selects "TwinTunersModel" ⟨"TwinTunersModel", "ticks", "(I)I"⟩ ⟨"TwinTunersModel", "ticks", "(I)I"⟩ : Cond) ∈ tb_ := tb_w 854 rfl rfl
set_option maxRecDepth 100000 in
theorem tb_856 : (.methodLink "TwinTunersLaw" 115 ⟨"TwinTunersModel", "now", "()I"⟩ : Cond) ∈ tb_ := tb_w 856 rfl rfl
set_option maxRecDepth 100000 in
theorem tb_857 : (.instanceMethod ⟨"TwinTunersModel", "now", "()I"⟩ : Cond) ∈ tb_ := tb_w 857 rfl rfl
set_option maxRecDepth 100000 in
theorem tb_858 : (.selects "TwinTunersModel" ⟨"TwinTunersModel", "now", "()I"⟩ ⟨"TwinTunersModel", "now", "()I"⟩ : Cond) ∈ tb_ := tb_w 858 rfl rfl
set_option maxRecDepth 100000 in
theorem tb_860 : (.methodLink "TwinTunersLaw" 118 ⟨"TwinTunersModel", "watch", "(I)I"⟩ : Cond) ∈ tb_ := tb_w 860 rfl rfl
set_option maxRecDepth 100000 in
theorem tb_861 : (.instanceMethod ⟨"TwinTunersModel", "watch", "(I)I"⟩ : Cond) ∈ tb_ := tb_w 861 rfl rfl
set_option maxRecDepth 100000 in
theorem tb_862 : (.selects "TwinTunersModel" ⟨"TwinTunersModel", "watch", "(I)I"⟩ ⟨"TwinTunersModel", "watch", "(I)I"⟩ : Cond) ∈ tb_ := tb_w 862 rfl rfl
set_option maxRecDepth 100000 in
theorem tb_864 : (.methodLink "TwinTunersLaw" 123 ⟨"TwinTunersModel", "back", "(I)J"⟩ : Cond) ∈ tb_ := tb_w 864 rfl rfl
set_option maxRecDepth 100000 in
theorem tb_865 : (.instanceMethod ⟨"TwinTunersModel", "back", "(I)J"⟩ : Cond) ∈ tb_ := tb_w 865 rfl rfl
set_option maxRecDepth 100000 in
theorem tb_866 : (.selects "TwinTunersModel" ⟨"TwinTunersModel", "back", "(I)J"⟩ ⟨"TwinTunersModel", "back", "(I)J"⟩ : Cond) ∈ tb_ := tb_w 866 rfl rfl
set_option maxRecDepth 100000 in
theorem tb_870 : (.methodLink "TwinTunersLaw" 127 ⟨"TwinTunersModel", "word", "(II)J"⟩ : Cond) ∈ tb_ := tb_w 870 rfl rfl
set_option maxRecDepth 100000 in
theorem tb_871 : (.instanceMethod ⟨"TwinTunersModel", "word", "(II)J"⟩ : Cond) ∈ tb_ := tb_w 871 rfl rfl
set_option maxRecDepth 100000 in
theorem tb_872 : (.selects "TwinTunersModel" ⟨"TwinTunersModel", "word", "(II)J"⟩ ⟨"TwinTunersModel", "word", "(II)J"⟩ : Cond) ∈ tb_ := tb_w 872 rfl rfl
set_option maxRecDepth 100000 in
theorem tb_874 : (.methodLink "TwinTunersLaw" 130 ⟨"TwinTunersModel", "recorded", "(I)I"⟩ : Cond) ∈ tb_ := tb_w 874 rfl rfl
set_option maxRecDepth 100000 in
theorem tb_875 : (.instanceMethod ⟨"TwinTunersModel", "recorded", "(I)I"⟩ : Cond) ∈ tb_ := tb_w 875 rfl rfl
set_option maxRecDepth 100000 in
theorem tb_876 : (.selects "TwinTunersModel" ⟨"TwinTunersModel", "recorded", "(I)I"⟩ ⟨"TwinTunersModel", "recorded", "(I)I"⟩ : Cond) ∈ tb_ := tb_w 876 rfl rfl
set_option maxRecDepth 100000 in
theorem tb_878 : (.methodLink "TwinTunersLaw" 133 ⟨"TwinTunersModel", "shortBy", "(I)I"⟩ : Cond) ∈ tb_ := tb_w 878 rfl rfl
set_option maxRecDepth 100000 in
theorem tb_879 : (.instanceMethod ⟨"TwinTunersModel", "shortBy", "(I)I"⟩ : Cond) ∈ tb_ := tb_w 879 rfl rfl
set_option maxRecDepth 100000 in
theorem tb_880 : (.selects "TwinTunersModel" ⟨"TwinTunersModel", "shortBy", "(I)I"⟩ ⟨"TwinTunersModel", "shortBy", "(I)I"⟩ : Cond) ∈ tb_ := tb_w 880 rfl rfl
set_option maxRecDepth 100000 in
theorem tb_882 : (.methodLink "TwinTunersLaw" 137 ⟨"TwinTunersModel", "protect", "(IZ)V"⟩ : Cond) ∈ tb_ := tb_w 882 rfl rfl
set_option maxRecDepth 100000 in
theorem tb_883 : (.instanceMethod ⟨"TwinTunersModel", "protect", "(IZ)V"⟩ : Cond) ∈ tb_ := tb_w 883 rfl rfl
set_option maxRecDepth 100000 in
theorem tb_884 : (.selects "TwinTunersModel" ⟨"TwinTunersModel", "protect", "(IZ)V"⟩ ⟨"TwinTunersModel", "protect", "(IZ)V"⟩ : Cond) ∈ tb_ := tb_w 884 rfl rfl
set_option maxRecDepth 100000 in
theorem tb_890 : (.methodLink "TwinTunersLaw" 140 ⟨"TwinTunersModel", "seen", "(IZ)V"⟩ : Cond) ∈ tb_ := tb_w 890 rfl rfl
set_option maxRecDepth 100000 in
theorem tb_891 : (.instanceMethod ⟨"TwinTunersModel", "seen", "(IZ)V"⟩ : Cond) ∈ tb_ := tb_w 891 rfl rfl
set_option maxRecDepth 100000 in
theorem tb_892 : (.selects "TwinTunersModel" ⟨"TwinTunersModel", "seen", "(IZ)V"⟩ ⟨"TwinTunersModel", "seen", "(IZ)V"⟩ : Cond) ∈ tb_ := tb_w 892 rfl rfl
set_option maxRecDepth 100000 in
theorem tb_894 : (.methodLink "TwinTunersLaw" 143 ⟨"TwinTunersModel", "erase", "(I)I"⟩ : Cond) ∈ tb_ := tb_w 894 rfl rfl
set_option maxRecDepth 100000 in
theorem tb_895 : (.instanceMethod ⟨"TwinTunersModel", "erase", "(I)I"⟩ : Cond) ∈ tb_ := tb_w 895 rfl rfl
set_option maxRecDepth 100000 in
theorem tb_896 : (.selects "TwinTunersModel" ⟨"TwinTunersModel", "erase", "(I)I"⟩ ⟨"TwinTunersModel", "erase", "(I)I"⟩ : Cond) ∈ tb_ := tb_w 896 rfl rfl
set_option maxRecDepth 100000 in
theorem tb_898 : (.methodLink "TwinTunersLaw" 147 ⟨"TwinTunersModel", "free", "()I"⟩ : Cond) ∈ tb_ := tb_w 898 rfl rfl
set_option maxRecDepth 100000 in
theorem tb_899 : (.instanceMethod ⟨"TwinTunersModel", "free", "()I"⟩ : Cond) ∈ tb_ := tb_w 899 rfl rfl
set_option maxRecDepth 100000 in
theorem tb_900 : (.selects "TwinTunersModel" ⟨"TwinTunersModel", "free", "()I"⟩ ⟨"TwinTunersModel", "free", "()I"⟩ : Cond) ∈ tb_ := tb_w 900 rfl rfl
set_option maxRecDepth 100000 in
theorem tb_902 : (.methodLink "TwinTunersLaw" 150 ⟨"TwinTunersModel", "bookmark", "(II)I"⟩ : Cond) ∈ tb_ := tb_w 902 rfl rfl
set_option maxRecDepth 100000 in
theorem tb_903 : (.instanceMethod ⟨"TwinTunersModel", "bookmark", "(II)I"⟩ : Cond) ∈ tb_ := tb_w 903 rfl rfl
set_option maxRecDepth 100000 in
theorem tb_904 : (.selects "TwinTunersModel" ⟨"TwinTunersModel", "bookmark", "(II)I"⟩ ⟨"TwinTunersModel", "bookmark", "(II)I"⟩ : Cond) ∈ tb_ := tb_w 904 rfl rfl
set_option maxRecDepth 100000 in
theorem tb_910 : (.methodLink "TwinTunersLaw" 153 ⟨"TwinTunersModel", "bookmarkAt", "(II)I"⟩ : Cond) ∈ tb_ := tb_w 910 rfl rfl
set_option maxRecDepth 100000 in
theorem tb_911 : (.instanceMethod ⟨"TwinTunersModel", "bookmarkAt", "(II)I"⟩ : Cond) ∈ tb_ := tb_w 911 rfl rfl
set_option maxRecDepth 100000 in
theorem tb_912 : (.selects "TwinTunersModel" ⟨"TwinTunersModel", "bookmarkAt", "(II)I"⟩ ⟨"TwinTunersModel", "bookmarkAt", "(II)I"⟩ : Cond) ∈ tb_ := tb_w 912 rfl rfl
set_option maxRecDepth 100000 in
theorem tb_914 : (.methodLink "TwinTunersLaw" 156 ⟨"TwinTunersModel", "cut", "(I)I"⟩ : Cond) ∈ tb_ := tb_w 914 rfl rfl
set_option maxRecDepth 100000 in
theorem tb_915 : (.instanceMethod ⟨"TwinTunersModel", "cut", "(I)I"⟩ : Cond) ∈ tb_ := tb_w 915 rfl rfl
set_option maxRecDepth 100000 in
theorem tb_916 : (.selects "TwinTunersModel" ⟨"TwinTunersModel", "cut", "(I)I"⟩ ⟨"TwinTunersModel", "cut", "(I)I"⟩ : Cond) ∈ tb_ := tb_w 916 rfl rfl
theorem d_LW_law_23 : decode code 23 = .ok (.iload 4, 2) := by decide +kernel
theorem d_LW_law_25 : decode code 25 = .ok (.aload_n 0, 1) := by decide +kernel
theorem d_LW_law_26 : decode code 26 = .ok (.arraylength, 1) := by decide +kernel
theorem d_LW_law_27 : decode code 27 = .ok (.bipush 6, 2) := by decide +kernel
theorem d_LW_law_29 : decode code 29 = .ok (.isub, 1) := by decide +kernel
theorem d_LW_law_30 : decode code 30 = .ok (.if_icmp .gt 1204, 3) := by decide +kernel
theorem d_LW_law_140 : decode code 140 = .ok (.aload_n 1, 1) := by decide +kernel
theorem d_LW_law_141 : decode code 141 = .ok (.aload_n 0, 1) := by decide +kernel
theorem d_LW_law_142 : decode code 142 = .ok (.iload 4, 2) := by decide +kernel
theorem d_LW_law_144 : decode code 144 = .ok (.iconst 1, 1) := by decide +kernel
theorem d_LW_law_145 : decode code 145 = .ok (.iadd, 1) := by decide +kernel
theorem d_LW_law_146 : decode code 146 = .ok (.iaload, 1) := by decide +kernel
theorem d_LW_law_147 : decode code 147 = .ok (.aload_n 0, 1) := by decide +kernel
theorem d_LW_law_148 : decode code 148 = .ok (.iload 4, 2) := by decide +kernel
theorem d_LW_law_150 : decode code 150 = .ok (.iconst 2, 1) := by decide +kernel
theorem d_LW_law_151 : decode code 151 = .ok (.iadd, 1) := by decide +kernel
theorem d_LW_law_152 : decode code 152 = .ok (.iaload, 1) := by decide +kernel
theorem d_LW_law_153 : decode code 153 = .ok (.aload_n 0, 1) := by decide +kernel
theorem d_LW_law_154 : decode code 154 = .ok (.iload 4, 2) := by decide +kernel
theorem d_LW_law_156 : decode code 156 = .ok (.iconst 3, 1) := by decide +kernel
theorem d_LW_law_157 : decode code 157 = .ok (.iadd, 1) := by decide +kernel
theorem d_LW_law_158 : decode code 158 = .ok (.iaload, 1) := by decide +kernel
theorem d_LW_law_159 : decode code 159 = .ok (.aload_n 0, 1) := by decide +kernel
theorem d_LW_law_160 : decode code 160 = .ok (.iload 4, 2) := by decide +kernel
theorem d_LW_law_162 : decode code 162 = .ok (.iconst 4, 1) := by decide +kernel
theorem d_LW_law_163 : decode code 163 = .ok (.iadd, 1) := by decide +kernel
theorem d_LW_law_164 : decode code 164 = .ok (.iaload, 1) := by decide +kernel
theorem d_LW_law_165 : decode code 165 = .ok (.aload_n 0, 1) := by decide +kernel
theorem d_LW_law_166 : decode code 166 = .ok (.iload 4, 2) := by decide +kernel
theorem d_LW_law_168 : decode code 168 = .ok (.iconst 5, 1) := by decide +kernel
theorem d_LW_law_169 : decode code 169 = .ok (.iadd, 1) := by decide +kernel
theorem d_LW_law_170 : decode code 170 = .ok (.iaload, 1) := by decide +kernel
theorem d_LW_law_171 : decode code 171 = .ok (.aload_n 3, 1) := by decide +kernel
theorem d_LW_law_172 : decode code 172 = .ok (.invokestatic 77, 3) := by decide +kernel
theorem d_LW_law_175 : decode code 175 = .ok (.istore 5, 2) := by decide +kernel
theorem d_LW_law_177 : decode code 177 = .ok (.aload_n 2, 1) := by decide +kernel
theorem d_LW_law_178 : decode code 178 = .ok (.aload_n 0, 1) := by decide +kernel
theorem d_LW_law_179 : decode code 179 = .ok (.iload 4, 2) := by decide +kernel
theorem d_LW_law_181 : decode code 181 = .ok (.iconst 1, 1) := by decide +kernel
theorem d_LW_law_182 : decode code 182 = .ok (.iadd, 1) := by decide +kernel
theorem d_LW_law_183 : decode code 183 = .ok (.iaload, 1) := by decide +kernel
theorem d_LW_law_184 : decode code 184 = .ok (.aload_n 0, 1) := by decide +kernel
theorem d_LW_law_185 : decode code 185 = .ok (.iload 4, 2) := by decide +kernel
theorem d_LW_law_187 : decode code 187 = .ok (.iconst 2, 1) := by decide +kernel
theorem d_LW_law_188 : decode code 188 = .ok (.iadd, 1) := by decide +kernel
theorem d_LW_law_189 : decode code 189 = .ok (.iaload, 1) := by decide +kernel
theorem d_LW_law_190 : decode code 190 = .ok (.aload_n 0, 1) := by decide +kernel
theorem d_LW_law_191 : decode code 191 = .ok (.iload 4, 2) := by decide +kernel
theorem d_LW_law_193 : decode code 193 = .ok (.iconst 3, 1) := by decide +kernel
theorem d_LW_law_194 : decode code 194 = .ok (.iadd, 1) := by decide +kernel
theorem d_LW_law_195 : decode code 195 = .ok (.iaload, 1) := by decide +kernel
theorem d_LW_law_196 : decode code 196 = .ok (.aload_n 0, 1) := by decide +kernel
theorem d_LW_law_197 : decode code 197 = .ok (.iload 4, 2) := by decide +kernel
theorem d_LW_law_199 : decode code 199 = .ok (.iconst 4, 1) := by decide +kernel
theorem d_LW_law_200 : decode code 200 = .ok (.iadd, 1) := by decide +kernel
theorem d_LW_law_201 : decode code 201 = .ok (.iaload, 1) := by decide +kernel
theorem d_LW_law_202 : decode code 202 = .ok (.aload_n 0, 1) := by decide +kernel
theorem d_LW_law_203 : decode code 203 = .ok (.iload 4, 2) := by decide +kernel
theorem d_LW_law_205 : decode code 205 = .ok (.iconst 5, 1) := by decide +kernel
theorem d_LW_law_206 : decode code 206 = .ok (.iadd, 1) := by decide +kernel
theorem d_LW_law_207 : decode code 207 = .ok (.iaload, 1) := by decide +kernel
theorem d_LW_law_208 : decode code 208 = .ok (.invokevirtual 82, 3) := by decide +kernel
theorem d_LW_law_211 : decode code 211 = .ok (.istore 6, 2) := by decide +kernel
theorem d_LW_law_213 : decode code 213 = .ok (.aload_n 2, 1) := by decide +kernel
theorem d_LW_law_214 : decode code 214 = .ok (.invokevirtual 83, 3) := by decide +kernel
theorem d_LW_law_217 : decode code 217 = .ok (.iload 5, 2) := by decide +kernel
theorem d_LW_law_219 : decode code 219 = .ok (.if_icmp .eq 5, 3) := by decide +kernel
theorem d_LW_law_224 : decode code 224 = .ok (.iload 5, 2) := by decide +kernel
theorem d_LW_law_226 : decode code 226 = .ok (.ifCond .ne 15, 3) := by decide +kernel
theorem d_LW_law_229 : decode code 229 = .ok (.aload_n 3, 1) := by decide +kernel
theorem d_LW_law_230 : decode code 230 = .ok (.iconst 0, 1) := by decide +kernel
theorem d_LW_law_231 : decode code 231 = .ok (.laload, 1) := by decide +kernel
theorem d_LW_law_232 : decode code 232 = .ok (.iload 6, 2) := by decide +kernel
theorem d_LW_law_234 : decode code 234 = .ok (.i2l, 1) := by decide +kernel
theorem d_LW_law_235 : decode code 235 = .ok (.lcmp, 1) := by decide +kernel
theorem d_LW_law_236 : decode code 236 = .ok (.ifCond .eq 5, 3) := by decide +kernel
theorem d_LW_law_241 : decode code 241 = .ok (.goto 987, 3) := by decide +kernel
theorem d_LW_law_244 : decode code 244 = .ok (.aload_n 1, 1) := by decide +kernel
theorem d_LW_law_245 : decode code 245 = .ok (.aload_n 0, 1) := by decide +kernel
theorem d_LW_law_246 : decode code 246 = .ok (.iload 4, 2) := by decide +kernel
theorem d_LW_law_248 : decode code 248 = .ok (.iconst 1, 1) := by decide +kernel
theorem d_LW_law_249 : decode code 249 = .ok (.iadd, 1) := by decide +kernel
theorem d_LW_law_250 : decode code 250 = .ok (.iaload, 1) := by decide +kernel
theorem d_LW_law_251 : decode code 251 = .ok (.invokestatic 87, 3) := by decide +kernel
theorem d_LW_law_254 : decode code 254 = .ok (.istore 5, 2) := by decide +kernel
theorem d_LW_law_256 : decode code 256 = .ok (.aload_n 2, 1) := by decide +kernel
theorem d_LW_law_257 : decode code 257 = .ok (.aload_n 0, 1) := by decide +kernel
theorem d_LW_law_258 : decode code 258 = .ok (.iload 4, 2) := by decide +kernel
theorem d_LW_law_260 : decode code 260 = .ok (.iconst 1, 1) := by decide +kernel
theorem d_LW_law_261 : decode code 261 = .ok (.iadd, 1) := by decide +kernel
theorem d_LW_law_262 : decode code 262 = .ok (.iaload, 1) := by decide +kernel
theorem d_LW_law_263 : decode code 263 = .ok (.invokevirtual 90, 3) := by decide +kernel
theorem d_LW_law_266 : decode code 266 = .ok (.aload_n 2, 1) := by decide +kernel
theorem d_LW_law_267 : decode code 267 = .ok (.invokevirtual 83, 3) := by decide +kernel
theorem d_LW_law_270 : decode code 270 = .ok (.iload 5, 2) := by decide +kernel
theorem d_LW_law_272 : decode code 272 = .ok (.if_icmp .eq 5, 3) := by decide +kernel
theorem d_LW_law_277 : decode code 277 = .ok (.goto 951, 3) := by decide +kernel
theorem d_LW_law_280 : decode code 280 = .ok (.aload_n 1, 1) := by decide +kernel
theorem d_LW_law_281 : decode code 281 = .ok (.aload_n 0, 1) := by decide +kernel
theorem d_LW_law_282 : decode code 282 = .ok (.iload 4, 2) := by decide +kernel
theorem d_LW_law_284 : decode code 284 = .ok (.iconst 1, 1) := by decide +kernel
theorem d_LW_law_285 : decode code 285 = .ok (.iadd, 1) := by decide +kernel
theorem d_LW_law_286 : decode code 286 = .ok (.iaload, 1) := by decide +kernel
theorem d_LW_law_287 : decode code 287 = .ok (.aload_n 3, 1) := by decide +kernel
theorem d_LW_law_288 : decode code 288 = .ok (.invokestatic 91, 3) := by decide +kernel
theorem d_LW_law_291 : decode code 291 = .ok (.istore 5, 2) := by decide +kernel
theorem d_LW_law_293 : decode code 293 = .ok (.aload_n 2, 1) := by decide +kernel
theorem d_LW_law_294 : decode code 294 = .ok (.aload_n 0, 1) := by decide +kernel
theorem d_LW_law_295 : decode code 295 = .ok (.iload 4, 2) := by decide +kernel
theorem d_LW_law_297 : decode code 297 = .ok (.iconst 1, 1) := by decide +kernel
theorem d_LW_law_298 : decode code 298 = .ok (.iadd, 1) := by decide +kernel
theorem d_LW_law_299 : decode code 299 = .ok (.iaload, 1) := by decide +kernel
theorem d_LW_law_300 : decode code 300 = .ok (.invokevirtual 94, 3) := by decide +kernel
theorem d_LW_law_303 : decode code 303 = .ok (.istore 6, 2) := by decide +kernel
theorem d_LW_law_305 : decode code 305 = .ok (.aload_n 2, 1) := by decide +kernel
theorem d_LW_law_306 : decode code 306 = .ok (.invokevirtual 83, 3) := by decide +kernel
theorem d_LW_law_309 : decode code 309 = .ok (.iload 5, 2) := by decide +kernel
theorem d_LW_law_311 : decode code 311 = .ok (.if_icmp .eq 5, 3) := by decide +kernel
theorem d_LW_law_316 : decode code 316 = .ok (.iload 5, 2) := by decide +kernel
theorem d_LW_law_318 : decode code 318 = .ok (.ifCond .ne 15, 3) := by decide +kernel
theorem d_LW_law_333 : decode code 333 = .ok (.goto 895, 3) := by decide +kernel
theorem d_LW_law_336 : decode code 336 = .ok (.aload_n 1, 1) := by decide +kernel
theorem d_LW_law_337 : decode code 337 = .ok (.aload_n 0, 1) := by decide +kernel
theorem d_LW_law_338 : decode code 338 = .ok (.iload 4, 2) := by decide +kernel
theorem d_LW_law_340 : decode code 340 = .ok (.iconst 1, 1) := by decide +kernel
theorem d_LW_law_341 : decode code 341 = .ok (.iadd, 1) := by decide +kernel
theorem d_LW_law_342 : decode code 342 = .ok (.iaload, 1) := by decide +kernel
theorem d_LW_law_343 : decode code 343 = .ok (.aload_n 3, 1) := by decide +kernel
theorem d_LW_law_344 : decode code 344 = .ok (.invokestatic 95, 3) := by decide +kernel
theorem d_LW_law_347 : decode code 347 = .ok (.istore 5, 2) := by decide +kernel
theorem d_LW_law_349 : decode code 349 = .ok (.aload_n 2, 1) := by decide +kernel
theorem d_LW_law_350 : decode code 350 = .ok (.aload_n 0, 1) := by decide +kernel
theorem d_LW_law_351 : decode code 351 = .ok (.iload 4, 2) := by decide +kernel
theorem d_LW_law_353 : decode code 353 = .ok (.iconst 1, 1) := by decide +kernel
theorem d_LW_law_354 : decode code 354 = .ok (.iadd, 1) := by decide +kernel
theorem d_LW_law_355 : decode code 355 = .ok (.iaload, 1) := by decide +kernel
theorem d_LW_law_356 : decode code 356 = .ok (.invokevirtual 97, 3) := by decide +kernel
theorem d_LW_law_359 : decode code 359 = .ok (.istore 6, 2) := by decide +kernel
theorem d_LW_law_361 : decode code 361 = .ok (.aload_n 2, 1) := by decide +kernel
theorem d_LW_law_362 : decode code 362 = .ok (.invokevirtual 83, 3) := by decide +kernel
theorem d_LW_law_365 : decode code 365 = .ok (.iload 5, 2) := by decide +kernel
theorem d_LW_law_367 : decode code 367 = .ok (.if_icmp .eq 5, 3) := by decide +kernel
theorem d_LW_law_372 : decode code 372 = .ok (.iload 5, 2) := by decide +kernel
theorem d_LW_law_374 : decode code 374 = .ok (.ifCond .ne 15, 3) := by decide +kernel
theorem d_LW_law_389 : decode code 389 = .ok (.goto 839, 3) := by decide +kernel
theorem d_LW_law_392 : decode code 392 = .ok (.aload_n 1, 1) := by decide +kernel
theorem d_LW_law_393 : decode code 393 = .ok (.aload_n 0, 1) := by decide +kernel
theorem d_LW_law_394 : decode code 394 = .ok (.iload 4, 2) := by decide +kernel
theorem d_LW_law_396 : decode code 396 = .ok (.iconst 1, 1) := by decide +kernel
theorem d_LW_law_397 : decode code 397 = .ok (.iadd, 1) := by decide +kernel
theorem d_LW_law_398 : decode code 398 = .ok (.iaload, 1) := by decide +kernel
theorem d_LW_law_399 : decode code 399 = .ok (.aload_n 3, 1) := by decide +kernel
theorem d_LW_law_400 : decode code 400 = .ok (.invokestatic 98, 3) := by decide +kernel
theorem d_LW_law_403 : decode code 403 = .ok (.istore 5, 2) := by decide +kernel
theorem d_LW_law_405 : decode code 405 = .ok (.aload_n 2, 1) := by decide +kernel
theorem d_LW_law_406 : decode code 406 = .ok (.aload_n 0, 1) := by decide +kernel
theorem d_LW_law_407 : decode code 407 = .ok (.iload 4, 2) := by decide +kernel
theorem d_LW_law_409 : decode code 409 = .ok (.iconst 1, 1) := by decide +kernel
theorem d_LW_law_410 : decode code 410 = .ok (.iadd, 1) := by decide +kernel
theorem d_LW_law_411 : decode code 411 = .ok (.iaload, 1) := by decide +kernel
theorem d_LW_law_412 : decode code 412 = .ok (.invokevirtual 100, 3) := by decide +kernel
theorem d_LW_law_415 : decode code 415 = .ok (.istore 6, 2) := by decide +kernel
theorem d_LW_law_417 : decode code 417 = .ok (.aload_n 2, 1) := by decide +kernel
theorem d_LW_law_418 : decode code 418 = .ok (.invokevirtual 83, 3) := by decide +kernel
theorem d_LW_law_421 : decode code 421 = .ok (.iload 5, 2) := by decide +kernel
theorem d_LW_law_423 : decode code 423 = .ok (.if_icmp .eq 5, 3) := by decide +kernel
theorem d_LW_law_428 : decode code 428 = .ok (.iload 5, 2) := by decide +kernel
theorem d_LW_law_430 : decode code 430 = .ok (.ifCond .ne 15, 3) := by decide +kernel
theorem d_LW_law_445 : decode code 445 = .ok (.goto 783, 3) := by decide +kernel
theorem d_LW_law_448 : decode code 448 = .ok (.aload_n 1, 1) := by decide +kernel
theorem d_LW_law_449 : decode code 449 = .ok (.aload_n 0, 1) := by decide +kernel
theorem d_LW_law_450 : decode code 450 = .ok (.iload 4, 2) := by decide +kernel
theorem d_LW_law_452 : decode code 452 = .ok (.iconst 1, 1) := by decide +kernel
theorem d_LW_law_453 : decode code 453 = .ok (.iadd, 1) := by decide +kernel
theorem d_LW_law_454 : decode code 454 = .ok (.iaload, 1) := by decide +kernel
theorem d_LW_law_455 : decode code 455 = .ok (.aload_n 0, 1) := by decide +kernel
theorem d_LW_law_456 : decode code 456 = .ok (.iload 4, 2) := by decide +kernel
theorem d_LW_law_458 : decode code 458 = .ok (.iconst 2, 1) := by decide +kernel
theorem d_LW_law_459 : decode code 459 = .ok (.iadd, 1) := by decide +kernel
theorem d_LW_law_460 : decode code 460 = .ok (.iaload, 1) := by decide +kernel
theorem d_LW_law_461 : decode code 461 = .ok (.invokestatic 101, 3) := by decide +kernel
theorem d_LW_law_464 : decode code 464 = .ok (.istore 5, 2) := by decide +kernel
theorem d_LW_law_466 : decode code 466 = .ok (.aload_n 2, 1) := by decide +kernel
theorem d_LW_law_467 : decode code 467 = .ok (.aload_n 0, 1) := by decide +kernel
theorem d_LW_law_468 : decode code 468 = .ok (.iload 4, 2) := by decide +kernel
theorem d_LW_law_470 : decode code 470 = .ok (.iconst 1, 1) := by decide +kernel
theorem d_LW_law_471 : decode code 471 = .ok (.iadd, 1) := by decide +kernel
theorem d_LW_law_472 : decode code 472 = .ok (.iaload, 1) := by decide +kernel
theorem d_LW_law_473 : decode code 473 = .ok (.aload_n 0, 1) := by decide +kernel
theorem d_LW_law_474 : decode code 474 = .ok (.iload 4, 2) := by decide +kernel
theorem d_LW_law_476 : decode code 476 = .ok (.iconst 2, 1) := by decide +kernel
theorem d_LW_law_477 : decode code 477 = .ok (.iadd, 1) := by decide +kernel
theorem d_LW_law_478 : decode code 478 = .ok (.iaload, 1) := by decide +kernel
theorem d_LW_law_479 : decode code 479 = .ok (.invokevirtual 104, 3) := by decide +kernel
theorem d_LW_law_482 : decode code 482 = .ok (.aload_n 2, 1) := by decide +kernel
theorem d_LW_law_483 : decode code 483 = .ok (.invokevirtual 83, 3) := by decide +kernel
theorem d_LW_law_486 : decode code 486 = .ok (.iload 5, 2) := by decide +kernel
theorem d_LW_law_488 : decode code 488 = .ok (.if_icmp .eq 5, 3) := by decide +kernel
theorem d_LW_law_493 : decode code 493 = .ok (.goto 735, 3) := by decide +kernel
theorem d_LW_law_496 : decode code 496 = .ok (.aload_n 1, 1) := by decide +kernel
theorem d_LW_law_497 : decode code 497 = .ok (.invokevirtual 105, 3) := by decide +kernel
theorem d_LW_law_500 : decode code 500 = .ok (.aload_n 2, 1) := by decide +kernel
theorem d_LW_law_501 : decode code 501 = .ok (.invokevirtual 108, 3) := by decide +kernel
theorem d_LW_law_504 : decode code 504 = .ok (.if_icmp .eq 724, 3) := by decide +kernel
theorem d_LW_law_509 : decode code 509 = .ok (.aload_n 1, 1) := by decide +kernel
theorem d_LW_law_510 : decode code 510 = .ok (.aload_n 0, 1) := by decide +kernel
theorem d_LW_law_511 : decode code 511 = .ok (.iload 4, 2) := by decide +kernel
theorem d_LW_law_513 : decode code 513 = .ok (.iconst 1, 1) := by decide +kernel
theorem d_LW_law_514 : decode code 514 = .ok (.iadd, 1) := by decide +kernel
theorem d_LW_law_515 : decode code 515 = .ok (.iaload, 1) := by decide +kernel
theorem d_LW_law_516 : decode code 516 = .ok (.aload_n 3, 1) := by decide +kernel
theorem d_LW_law_517 : decode code 517 = .ok (.invokestatic 109, 3) := by decide +kernel
theorem d_LW_law_520 : decode code 520 = .ok (.istore 5, 2) := by decide +kernel
theorem d_LW_law_522 : decode code 522 = .ok (.aload_n 2, 1) := by decide +kernel
theorem d_LW_law_523 : decode code 523 = .ok (.aload_n 0, 1) := by decide +kernel
theorem d_LW_law_524 : decode code 524 = .ok (.iload 4, 2) := by decide +kernel
theorem d_LW_law_526 : decode code 526 = .ok (.iconst 1, 1) := by decide +kernel
theorem d_LW_law_527 : decode code 527 = .ok (.iadd, 1) := by decide +kernel
theorem d_LW_law_528 : decode code 528 = .ok (.iaload, 1) := by decide +kernel
theorem d_LW_law_529 : decode code 529 = .ok (.invokevirtual 111, 3) := by decide +kernel
theorem d_LW_law_532 : decode code 532 = .ok (.istore 6, 2) := by decide +kernel
theorem d_LW_law_534 : decode code 534 = .ok (.aload_n 2, 1) := by decide +kernel
theorem d_LW_law_535 : decode code 535 = .ok (.invokevirtual 83, 3) := by decide +kernel
theorem d_LW_law_538 : decode code 538 = .ok (.iload 5, 2) := by decide +kernel
theorem d_LW_law_540 : decode code 540 = .ok (.if_icmp .eq 5, 3) := by decide +kernel
theorem d_LW_law_545 : decode code 545 = .ok (.iload 5, 2) := by decide +kernel
theorem d_LW_law_547 : decode code 547 = .ok (.ifCond .ne 15, 3) := by decide +kernel
theorem d_LW_law_550 : decode code 550 = .ok (.aload_n 3, 1) := by decide +kernel
theorem d_LW_law_551 : decode code 551 = .ok (.iconst 0, 1) := by decide +kernel
theorem d_LW_law_552 : decode code 552 = .ok (.laload, 1) := by decide +kernel
theorem d_LW_law_553 : decode code 553 = .ok (.iload 6, 2) := by decide +kernel
theorem d_LW_law_555 : decode code 555 = .ok (.i2l, 1) := by decide +kernel
theorem d_LW_law_556 : decode code 556 = .ok (.lcmp, 1) := by decide +kernel
theorem d_LW_law_557 : decode code 557 = .ok (.ifCond .eq 5, 3) := by decide +kernel
theorem d_LW_law_562 : decode code 562 = .ok (.goto 666, 3) := by decide +kernel
theorem d_LW_law_565 : decode code 565 = .ok (.aload_n 1, 1) := by decide +kernel
theorem d_LW_law_566 : decode code 566 = .ok (.invokevirtual 112, 3) := by decide +kernel
theorem d_LW_law_569 : decode code 569 = .ok (.aload_n 2, 1) := by decide +kernel
theorem d_LW_law_570 : decode code 570 = .ok (.invokevirtual 115, 3) := by decide +kernel
theorem d_LW_law_573 : decode code 573 = .ok (.if_icmp .eq 655, 3) := by decide +kernel
theorem d_LW_law_578 : decode code 578 = .ok (.aload_n 1, 1) := by decide +kernel
theorem d_LW_law_579 : decode code 579 = .ok (.aload_n 0, 1) := by decide +kernel
theorem d_LW_law_580 : decode code 580 = .ok (.iload 4, 2) := by decide +kernel
theorem d_LW_law_582 : decode code 582 = .ok (.iconst 1, 1) := by decide +kernel
theorem d_LW_law_583 : decode code 583 = .ok (.iadd, 1) := by decide +kernel
theorem d_LW_law_584 : decode code 584 = .ok (.iaload, 1) := by decide +kernel
theorem d_LW_law_585 : decode code 585 = .ok (.aload_n 3, 1) := by decide +kernel
theorem d_LW_law_586 : decode code 586 = .ok (.invokestatic 116, 3) := by decide +kernel
theorem d_LW_law_589 : decode code 589 = .ok (.istore 5, 2) := by decide +kernel
theorem d_LW_law_591 : decode code 591 = .ok (.aload_n 2, 1) := by decide +kernel
theorem d_LW_law_592 : decode code 592 = .ok (.aload_n 0, 1) := by decide +kernel
theorem d_LW_law_593 : decode code 593 = .ok (.iload 4, 2) := by decide +kernel
theorem d_LW_law_595 : decode code 595 = .ok (.iconst 1, 1) := by decide +kernel
theorem d_LW_law_596 : decode code 596 = .ok (.iadd, 1) := by decide +kernel
theorem d_LW_law_597 : decode code 597 = .ok (.iaload, 1) := by decide +kernel
theorem d_LW_law_598 : decode code 598 = .ok (.invokevirtual 118, 3) := by decide +kernel
theorem d_LW_law_601 : decode code 601 = .ok (.istore 6, 2) := by decide +kernel
theorem d_LW_law_603 : decode code 603 = .ok (.aload_n 2, 1) := by decide +kernel
theorem d_LW_law_604 : decode code 604 = .ok (.invokevirtual 83, 3) := by decide +kernel
theorem d_LW_law_607 : decode code 607 = .ok (.iload 5, 2) := by decide +kernel
theorem d_LW_law_609 : decode code 609 = .ok (.if_icmp .eq 5, 3) := by decide +kernel
theorem d_LW_law_614 : decode code 614 = .ok (.iload 5, 2) := by decide +kernel
theorem d_LW_law_616 : decode code 616 = .ok (.ifCond .ne 15, 3) := by decide +kernel
theorem d_LW_law_619 : decode code 619 = .ok (.aload_n 3, 1) := by decide +kernel
theorem d_LW_law_620 : decode code 620 = .ok (.iconst 0, 1) := by decide +kernel
theorem d_LW_law_621 : decode code 621 = .ok (.laload, 1) := by decide +kernel
theorem d_LW_law_622 : decode code 622 = .ok (.iload 6, 2) := by decide +kernel
theorem d_LW_law_624 : decode code 624 = .ok (.i2l, 1) := by decide +kernel
theorem d_LW_law_625 : decode code 625 = .ok (.lcmp, 1) := by decide +kernel
theorem d_LW_law_626 : decode code 626 = .ok (.ifCond .eq 5, 3) := by decide +kernel
theorem d_LW_law_631 : decode code 631 = .ok (.goto 597, 3) := by decide +kernel
theorem d_LW_law_634 : decode code 634 = .ok (.aload_n 1, 1) := by decide +kernel
theorem d_LW_law_635 : decode code 635 = .ok (.aload_n 0, 1) := by decide +kernel
theorem d_LW_law_636 : decode code 636 = .ok (.iload 4, 2) := by decide +kernel
theorem d_LW_law_638 : decode code 638 = .ok (.iconst 1, 1) := by decide +kernel
theorem d_LW_law_639 : decode code 639 = .ok (.iadd, 1) := by decide +kernel
theorem d_LW_law_640 : decode code 640 = .ok (.iaload, 1) := by decide +kernel
theorem d_LW_law_641 : decode code 641 = .ok (.invokevirtual 119, 3) := by decide +kernel
theorem d_LW_law_644 : decode code 644 = .ok (.aload_n 2, 1) := by decide +kernel
theorem d_LW_law_645 : decode code 645 = .ok (.aload_n 0, 1) := by decide +kernel
theorem d_LW_law_646 : decode code 646 = .ok (.iload 4, 2) := by decide +kernel
theorem d_LW_law_648 : decode code 648 = .ok (.iconst 1, 1) := by decide +kernel
theorem d_LW_law_649 : decode code 649 = .ok (.iadd, 1) := by decide +kernel
theorem d_LW_law_650 : decode code 650 = .ok (.iaload, 1) := by decide +kernel
theorem d_LW_law_651 : decode code 651 = .ok (.invokevirtual 123, 3) := by decide +kernel
theorem d_LW_law_654 : decode code 654 = .ok (.lcmp, 1) := by decide +kernel
theorem d_LW_law_655 : decode code 655 = .ok (.ifCond .eq 573, 3) := by decide +kernel
theorem d_LW_law_660 : decode code 660 = .ok (.aload_n 1, 1) := by decide +kernel
theorem d_LW_law_661 : decode code 661 = .ok (.aload_n 0, 1) := by decide +kernel
theorem d_LW_law_662 : decode code 662 = .ok (.iload 4, 2) := by decide +kernel
theorem d_LW_law_664 : decode code 664 = .ok (.iconst 1, 1) := by decide +kernel
theorem d_LW_law_665 : decode code 665 = .ok (.iadd, 1) := by decide +kernel
theorem d_LW_law_666 : decode code 666 = .ok (.iaload, 1) := by decide +kernel
theorem d_LW_law_667 : decode code 667 = .ok (.aload_n 0, 1) := by decide +kernel
theorem d_LW_law_668 : decode code 668 = .ok (.iload 4, 2) := by decide +kernel
theorem d_LW_law_670 : decode code 670 = .ok (.iconst 2, 1) := by decide +kernel
theorem d_LW_law_671 : decode code 671 = .ok (.iadd, 1) := by decide +kernel
theorem d_LW_law_672 : decode code 672 = .ok (.iaload, 1) := by decide +kernel
theorem d_LW_law_673 : decode code 673 = .ok (.aload_n 3, 1) := by decide +kernel
theorem d_LW_law_674 : decode code 674 = .ok (.invokestatic 124, 3) := by decide +kernel
theorem d_LW_law_677 : decode code 677 = .ok (.istore 5, 2) := by decide +kernel
theorem d_LW_law_679 : decode code 679 = .ok (.aload_n 2, 1) := by decide +kernel
theorem d_LW_law_680 : decode code 680 = .ok (.aload_n 0, 1) := by decide +kernel
theorem d_LW_law_681 : decode code 681 = .ok (.iload 4, 2) := by decide +kernel
theorem d_LW_law_683 : decode code 683 = .ok (.iconst 1, 1) := by decide +kernel
theorem d_LW_law_684 : decode code 684 = .ok (.iadd, 1) := by decide +kernel
theorem d_LW_law_685 : decode code 685 = .ok (.iaload, 1) := by decide +kernel
theorem d_LW_law_686 : decode code 686 = .ok (.aload_n 0, 1) := by decide +kernel
theorem d_LW_law_687 : decode code 687 = .ok (.iload 4, 2) := by decide +kernel
theorem d_LW_law_689 : decode code 689 = .ok (.iconst 2, 1) := by decide +kernel
theorem d_LW_law_690 : decode code 690 = .ok (.iadd, 1) := by decide +kernel
theorem d_LW_law_691 : decode code 691 = .ok (.iaload, 1) := by decide +kernel
theorem d_LW_law_692 : decode code 692 = .ok (.invokevirtual 127, 3) := by decide +kernel
theorem d_LW_law_695 : decode code 695 = .ok (.lstore 6, 2) := by decide +kernel
theorem d_LW_law_697 : decode code 697 = .ok (.aload_n 2, 1) := by decide +kernel
theorem d_LW_law_698 : decode code 698 = .ok (.invokevirtual 83, 3) := by decide +kernel
theorem d_LW_law_701 : decode code 701 = .ok (.iload 5, 2) := by decide +kernel
theorem d_LW_law_703 : decode code 703 = .ok (.if_icmp .eq 5, 3) := by decide +kernel
theorem d_LW_law_708 : decode code 708 = .ok (.iload 5, 2) := by decide +kernel
theorem d_LW_law_710 : decode code 710 = .ok (.ifCond .ne 14, 3) := by decide +kernel
theorem d_LW_law_724 : decode code 724 = .ok (.goto 504, 3) := by decide +kernel
theorem d_LW_law_727 : decode code 727 = .ok (.aload_n 1, 1) := by decide +kernel
theorem d_LW_law_728 : decode code 728 = .ok (.aload_n 0, 1) := by decide +kernel
theorem d_LW_law_729 : decode code 729 = .ok (.iload 4, 2) := by decide +kernel
theorem d_LW_law_731 : decode code 731 = .ok (.iconst 1, 1) := by decide +kernel
theorem d_LW_law_732 : decode code 732 = .ok (.iadd, 1) := by decide +kernel
theorem d_LW_law_733 : decode code 733 = .ok (.iaload, 1) := by decide +kernel
theorem d_LW_law_734 : decode code 734 = .ok (.aload_n 3, 1) := by decide +kernel
theorem d_LW_law_735 : decode code 735 = .ok (.invokestatic 128, 3) := by decide +kernel
theorem d_LW_law_738 : decode code 738 = .ok (.istore 5, 2) := by decide +kernel
theorem d_LW_law_740 : decode code 740 = .ok (.aload_n 2, 1) := by decide +kernel
theorem d_LW_law_741 : decode code 741 = .ok (.aload_n 0, 1) := by decide +kernel
theorem d_LW_law_742 : decode code 742 = .ok (.iload 4, 2) := by decide +kernel
theorem d_LW_law_744 : decode code 744 = .ok (.iconst 1, 1) := by decide +kernel
theorem d_LW_law_745 : decode code 745 = .ok (.iadd, 1) := by decide +kernel
theorem d_LW_law_746 : decode code 746 = .ok (.iaload, 1) := by decide +kernel
theorem d_LW_law_747 : decode code 747 = .ok (.invokevirtual 130, 3) := by decide +kernel
theorem d_LW_law_750 : decode code 750 = .ok (.istore 6, 2) := by decide +kernel
theorem d_LW_law_752 : decode code 752 = .ok (.aload_n 2, 1) := by decide +kernel
theorem d_LW_law_753 : decode code 753 = .ok (.invokevirtual 83, 3) := by decide +kernel
theorem d_LW_law_756 : decode code 756 = .ok (.iload 5, 2) := by decide +kernel
theorem d_LW_law_758 : decode code 758 = .ok (.if_icmp .eq 5, 3) := by decide +kernel
theorem d_LW_law_763 : decode code 763 = .ok (.iload 5, 2) := by decide +kernel
theorem d_LW_law_765 : decode code 765 = .ok (.ifCond .ne 15, 3) := by decide +kernel
theorem d_LW_law_780 : decode code 780 = .ok (.goto 448, 3) := by decide +kernel
theorem d_LW_law_783 : decode code 783 = .ok (.aload_n 1, 1) := by decide +kernel
theorem d_LW_law_784 : decode code 784 = .ok (.aload_n 0, 1) := by decide +kernel
theorem d_LW_law_785 : decode code 785 = .ok (.iload 4, 2) := by decide +kernel
theorem d_LW_law_787 : decode code 787 = .ok (.iconst 1, 1) := by decide +kernel
theorem d_LW_law_788 : decode code 788 = .ok (.iadd, 1) := by decide +kernel
theorem d_LW_law_789 : decode code 789 = .ok (.iaload, 1) := by decide +kernel
theorem d_LW_law_790 : decode code 790 = .ok (.aload_n 3, 1) := by decide +kernel
theorem d_LW_law_791 : decode code 791 = .ok (.invokestatic 131, 3) := by decide +kernel
theorem d_LW_law_794 : decode code 794 = .ok (.istore 5, 2) := by decide +kernel
theorem d_LW_law_796 : decode code 796 = .ok (.aload_n 2, 1) := by decide +kernel
theorem d_LW_law_797 : decode code 797 = .ok (.aload_n 0, 1) := by decide +kernel
theorem d_LW_law_798 : decode code 798 = .ok (.iload 4, 2) := by decide +kernel
theorem d_LW_law_800 : decode code 800 = .ok (.iconst 1, 1) := by decide +kernel
theorem d_LW_law_801 : decode code 801 = .ok (.iadd, 1) := by decide +kernel
theorem d_LW_law_802 : decode code 802 = .ok (.iaload, 1) := by decide +kernel
theorem d_LW_law_803 : decode code 803 = .ok (.invokevirtual 133, 3) := by decide +kernel
theorem d_LW_law_806 : decode code 806 = .ok (.istore 6, 2) := by decide +kernel
theorem d_LW_law_808 : decode code 808 = .ok (.aload_n 2, 1) := by decide +kernel
theorem d_LW_law_809 : decode code 809 = .ok (.invokevirtual 83, 3) := by decide +kernel
theorem d_LW_law_812 : decode code 812 = .ok (.iload 5, 2) := by decide +kernel
theorem d_LW_law_814 : decode code 814 = .ok (.if_icmp .eq 5, 3) := by decide +kernel
theorem d_LW_law_819 : decode code 819 = .ok (.iload 5, 2) := by decide +kernel
theorem d_LW_law_821 : decode code 821 = .ok (.ifCond .ne 15, 3) := by decide +kernel
theorem d_LW_law_836 : decode code 836 = .ok (.goto 392, 3) := by decide +kernel
theorem d_LW_law_839 : decode code 839 = .ok (.aload_n 1, 1) := by decide +kernel
theorem d_LW_law_840 : decode code 840 = .ok (.aload_n 0, 1) := by decide +kernel
theorem d_LW_law_841 : decode code 841 = .ok (.iload 4, 2) := by decide +kernel
theorem d_LW_law_843 : decode code 843 = .ok (.iconst 1, 1) := by decide +kernel
theorem d_LW_law_844 : decode code 844 = .ok (.iadd, 1) := by decide +kernel
theorem d_LW_law_845 : decode code 845 = .ok (.iaload, 1) := by decide +kernel
theorem d_LW_law_846 : decode code 846 = .ok (.aload_n 0, 1) := by decide +kernel
theorem d_LW_law_847 : decode code 847 = .ok (.iload 4, 2) := by decide +kernel
theorem d_LW_law_849 : decode code 849 = .ok (.iconst 2, 1) := by decide +kernel
theorem d_LW_law_850 : decode code 850 = .ok (.iadd, 1) := by decide +kernel
theorem d_LW_law_851 : decode code 851 = .ok (.iaload, 1) := by decide +kernel
theorem d_LW_law_852 : decode code 852 = .ok (.ifCond .eq 7, 3) := by decide +kernel
theorem d_LW_law_855 : decode code 855 = .ok (.iconst 1, 1) := by decide +kernel
theorem d_LW_law_856 : decode code 856 = .ok (.goto 4, 3) := by decide +kernel
theorem d_LW_law_859 : decode code 859 = .ok (.iconst 0, 1) := by decide +kernel
theorem d_LW_law_860 : decode code 860 = .ok (.invokestatic 134, 3) := by decide +kernel
theorem d_LW_law_863 : decode code 863 = .ok (.istore 5, 2) := by decide +kernel
theorem d_LW_law_865 : decode code 865 = .ok (.aload_n 2, 1) := by decide +kernel
theorem d_LW_law_866 : decode code 866 = .ok (.aload_n 0, 1) := by decide +kernel
theorem d_LW_law_867 : decode code 867 = .ok (.iload 4, 2) := by decide +kernel
theorem d_LW_law_869 : decode code 869 = .ok (.iconst 1, 1) := by decide +kernel
theorem d_LW_law_870 : decode code 870 = .ok (.iadd, 1) := by decide +kernel
theorem d_LW_law_871 : decode code 871 = .ok (.iaload, 1) := by decide +kernel
theorem d_LW_law_872 : decode code 872 = .ok (.aload_n 0, 1) := by decide +kernel
theorem d_LW_law_873 : decode code 873 = .ok (.iload 4, 2) := by decide +kernel
theorem d_LW_law_875 : decode code 875 = .ok (.iconst 2, 1) := by decide +kernel
theorem d_LW_law_876 : decode code 876 = .ok (.iadd, 1) := by decide +kernel
theorem d_LW_law_877 : decode code 877 = .ok (.iaload, 1) := by decide +kernel
theorem d_LW_law_878 : decode code 878 = .ok (.ifCond .eq 7, 3) := by decide +kernel
theorem d_LW_law_881 : decode code 881 = .ok (.iconst 1, 1) := by decide +kernel
theorem d_LW_law_882 : decode code 882 = .ok (.goto 4, 3) := by decide +kernel
theorem d_LW_law_885 : decode code 885 = .ok (.iconst 0, 1) := by decide +kernel
theorem d_LW_law_886 : decode code 886 = .ok (.invokevirtual 137, 3) := by decide +kernel
theorem d_LW_law_889 : decode code 889 = .ok (.aload_n 2, 1) := by decide +kernel
theorem d_LW_law_890 : decode code 890 = .ok (.invokevirtual 83, 3) := by decide +kernel
theorem d_LW_law_893 : decode code 893 = .ok (.iload 5, 2) := by decide +kernel
theorem d_LW_law_895 : decode code 895 = .ok (.if_icmp .eq 5, 3) := by decide +kernel
theorem d_LW_law_900 : decode code 900 = .ok (.goto 328, 3) := by decide +kernel
theorem d_LW_law_903 : decode code 903 = .ok (.aload_n 1, 1) := by decide +kernel
theorem d_LW_law_904 : decode code 904 = .ok (.aload_n 0, 1) := by decide +kernel
theorem d_LW_law_905 : decode code 905 = .ok (.iload 4, 2) := by decide +kernel
theorem d_LW_law_907 : decode code 907 = .ok (.iconst 1, 1) := by decide +kernel
theorem d_LW_law_908 : decode code 908 = .ok (.iadd, 1) := by decide +kernel
theorem d_LW_law_909 : decode code 909 = .ok (.iaload, 1) := by decide +kernel
theorem d_LW_law_910 : decode code 910 = .ok (.aload_n 0, 1) := by decide +kernel
theorem d_LW_law_911 : decode code 911 = .ok (.iload 4, 2) := by decide +kernel
theorem d_LW_law_913 : decode code 913 = .ok (.iconst 2, 1) := by decide +kernel
theorem d_LW_law_914 : decode code 914 = .ok (.iadd, 1) := by decide +kernel
theorem d_LW_law_915 : decode code 915 = .ok (.iaload, 1) := by decide +kernel
theorem d_LW_law_916 : decode code 916 = .ok (.ifCond .eq 7, 3) := by decide +kernel
theorem d_LW_law_919 : decode code 919 = .ok (.iconst 1, 1) := by decide +kernel
theorem d_LW_law_920 : decode code 920 = .ok (.goto 4, 3) := by decide +kernel
theorem d_LW_law_923 : decode code 923 = .ok (.iconst 0, 1) := by decide +kernel
theorem d_LW_law_924 : decode code 924 = .ok (.invokestatic 138, 3) := by decide +kernel
theorem d_LW_law_927 : decode code 927 = .ok (.istore 5, 2) := by decide +kernel
theorem d_LW_law_929 : decode code 929 = .ok (.aload_n 2, 1) := by decide +kernel
theorem d_LW_law_930 : decode code 930 = .ok (.aload_n 0, 1) := by decide +kernel
theorem d_LW_law_931 : decode code 931 = .ok (.iload 4, 2) := by decide +kernel
theorem d_LW_law_933 : decode code 933 = .ok (.iconst 1, 1) := by decide +kernel
theorem d_LW_law_934 : decode code 934 = .ok (.iadd, 1) := by decide +kernel
theorem d_LW_law_935 : decode code 935 = .ok (.iaload, 1) := by decide +kernel
theorem d_LW_law_936 : decode code 936 = .ok (.aload_n 0, 1) := by decide +kernel
theorem d_LW_law_937 : decode code 937 = .ok (.iload 4, 2) := by decide +kernel
theorem d_LW_law_939 : decode code 939 = .ok (.iconst 2, 1) := by decide +kernel
theorem d_LW_law_940 : decode code 940 = .ok (.iadd, 1) := by decide +kernel
theorem d_LW_law_941 : decode code 941 = .ok (.iaload, 1) := by decide +kernel
theorem d_LW_law_942 : decode code 942 = .ok (.ifCond .eq 7, 3) := by decide +kernel
theorem d_LW_law_945 : decode code 945 = .ok (.iconst 1, 1) := by decide +kernel
theorem d_LW_law_946 : decode code 946 = .ok (.goto 4, 3) := by decide +kernel
theorem d_LW_law_949 : decode code 949 = .ok (.iconst 0, 1) := by decide +kernel
theorem d_LW_law_950 : decode code 950 = .ok (.invokevirtual 140, 3) := by decide +kernel
theorem d_LW_law_953 : decode code 953 = .ok (.aload_n 2, 1) := by decide +kernel
theorem d_LW_law_954 : decode code 954 = .ok (.invokevirtual 83, 3) := by decide +kernel
theorem d_LW_law_957 : decode code 957 = .ok (.iload 5, 2) := by decide +kernel
theorem d_LW_law_959 : decode code 959 = .ok (.if_icmp .eq 5, 3) := by decide +kernel
theorem d_LW_law_964 : decode code 964 = .ok (.goto 264, 3) := by decide +kernel
theorem d_LW_law_967 : decode code 967 = .ok (.aload_n 1, 1) := by decide +kernel
theorem d_LW_law_968 : decode code 968 = .ok (.aload_n 0, 1) := by decide +kernel
theorem d_LW_law_969 : decode code 969 = .ok (.iload 4, 2) := by decide +kernel
theorem d_LW_law_971 : decode code 971 = .ok (.iconst 1, 1) := by decide +kernel
theorem d_LW_law_972 : decode code 972 = .ok (.iadd, 1) := by decide +kernel
theorem d_LW_law_973 : decode code 973 = .ok (.iaload, 1) := by decide +kernel
theorem d_LW_law_974 : decode code 974 = .ok (.aload_n 3, 1) := by decide +kernel
theorem d_LW_law_975 : decode code 975 = .ok (.invokestatic 141, 3) := by decide +kernel
theorem d_LW_law_978 : decode code 978 = .ok (.istore 5, 2) := by decide +kernel
theorem d_LW_law_980 : decode code 980 = .ok (.aload_n 2, 1) := by decide +kernel
theorem d_LW_law_981 : decode code 981 = .ok (.aload_n 0, 1) := by decide +kernel
theorem d_LW_law_982 : decode code 982 = .ok (.iload 4, 2) := by decide +kernel
theorem d_LW_law_984 : decode code 984 = .ok (.iconst 1, 1) := by decide +kernel
theorem d_LW_law_985 : decode code 985 = .ok (.iadd, 1) := by decide +kernel
theorem d_LW_law_986 : decode code 986 = .ok (.iaload, 1) := by decide +kernel
theorem d_LW_law_987 : decode code 987 = .ok (.invokevirtual 143, 3) := by decide +kernel
theorem d_LW_law_990 : decode code 990 = .ok (.istore 6, 2) := by decide +kernel
theorem d_LW_law_992 : decode code 992 = .ok (.aload_n 2, 1) := by decide +kernel
theorem d_LW_law_993 : decode code 993 = .ok (.invokevirtual 83, 3) := by decide +kernel
theorem d_LW_law_996 : decode code 996 = .ok (.iload 5, 2) := by decide +kernel
theorem d_LW_law_998 : decode code 998 = .ok (.if_icmp .eq 5, 3) := by decide +kernel
theorem d_LW_law_1003 : decode code 1003 = .ok (.iload 5, 2) := by decide +kernel
theorem d_LW_law_1005 : decode code 1005 = .ok (.ifCond .ne 15, 3) := by decide +kernel
theorem d_LW_law_1020 : decode code 1020 = .ok (.goto 208, 3) := by decide +kernel
theorem d_LW_law_1023 : decode code 1023 = .ok (.aload_n 1, 1) := by decide +kernel
theorem d_LW_law_1024 : decode code 1024 = .ok (.invokevirtual 144, 3) := by decide +kernel
theorem d_LW_law_1027 : decode code 1027 = .ok (.aload_n 2, 1) := by decide +kernel
theorem d_LW_law_1028 : decode code 1028 = .ok (.invokevirtual 147, 3) := by decide +kernel
theorem d_LW_law_1031 : decode code 1031 = .ok (.if_icmp .eq 197, 3) := by decide +kernel
theorem d_LW_law_1036 : decode code 1036 = .ok (.aload_n 1, 1) := by decide +kernel
theorem d_LW_law_1037 : decode code 1037 = .ok (.aload_n 0, 1) := by decide +kernel
theorem d_LW_law_1038 : decode code 1038 = .ok (.iload 4, 2) := by decide +kernel
theorem d_LW_law_1040 : decode code 1040 = .ok (.iconst 1, 1) := by decide +kernel
theorem d_LW_law_1041 : decode code 1041 = .ok (.iadd, 1) := by decide +kernel
theorem d_LW_law_1042 : decode code 1042 = .ok (.iaload, 1) := by decide +kernel
theorem d_LW_law_1043 : decode code 1043 = .ok (.aload_n 0, 1) := by decide +kernel
theorem d_LW_law_1044 : decode code 1044 = .ok (.iload 4, 2) := by decide +kernel
theorem d_LW_law_1046 : decode code 1046 = .ok (.iconst 2, 1) := by decide +kernel
theorem d_LW_law_1047 : decode code 1047 = .ok (.iadd, 1) := by decide +kernel
theorem d_LW_law_1048 : decode code 1048 = .ok (.iaload, 1) := by decide +kernel
theorem d_LW_law_1049 : decode code 1049 = .ok (.aload_n 3, 1) := by decide +kernel
theorem d_LW_law_1050 : decode code 1050 = .ok (.invokestatic 148, 3) := by decide +kernel
theorem d_LW_law_1053 : decode code 1053 = .ok (.istore 5, 2) := by decide +kernel
theorem d_LW_law_1055 : decode code 1055 = .ok (.aload_n 2, 1) := by decide +kernel
theorem d_LW_law_1056 : decode code 1056 = .ok (.aload_n 0, 1) := by decide +kernel
theorem d_LW_law_1057 : decode code 1057 = .ok (.iload 4, 2) := by decide +kernel
theorem d_LW_law_1059 : decode code 1059 = .ok (.iconst 1, 1) := by decide +kernel
theorem d_LW_law_1060 : decode code 1060 = .ok (.iadd, 1) := by decide +kernel
theorem d_LW_law_1061 : decode code 1061 = .ok (.iaload, 1) := by decide +kernel
theorem d_LW_law_1062 : decode code 1062 = .ok (.aload_n 0, 1) := by decide +kernel
theorem d_LW_law_1063 : decode code 1063 = .ok (.iload 4, 2) := by decide +kernel
theorem d_LW_law_1065 : decode code 1065 = .ok (.iconst 2, 1) := by decide +kernel
theorem d_LW_law_1066 : decode code 1066 = .ok (.iadd, 1) := by decide +kernel
theorem d_LW_law_1067 : decode code 1067 = .ok (.iaload, 1) := by decide +kernel
theorem d_LW_law_1068 : decode code 1068 = .ok (.invokevirtual 150, 3) := by decide +kernel
theorem d_LW_law_1071 : decode code 1071 = .ok (.istore 6, 2) := by decide +kernel
theorem d_LW_law_1073 : decode code 1073 = .ok (.aload_n 2, 1) := by decide +kernel
theorem d_LW_law_1074 : decode code 1074 = .ok (.invokevirtual 83, 3) := by decide +kernel
theorem d_LW_law_1077 : decode code 1077 = .ok (.iload 5, 2) := by decide +kernel
theorem d_LW_law_1079 : decode code 1079 = .ok (.if_icmp .eq 5, 3) := by decide +kernel
theorem d_LW_law_1084 : decode code 1084 = .ok (.iload 5, 2) := by decide +kernel
theorem d_LW_law_1086 : decode code 1086 = .ok (.ifCond .ne 15, 3) := by decide +kernel
theorem d_LW_law_1101 : decode code 1101 = .ok (.goto 127, 3) := by decide +kernel
theorem d_LW_law_1104 : decode code 1104 = .ok (.aload_n 1, 1) := by decide +kernel
theorem d_LW_law_1105 : decode code 1105 = .ok (.aload_n 0, 1) := by decide +kernel
theorem d_LW_law_1106 : decode code 1106 = .ok (.iload 4, 2) := by decide +kernel
theorem d_LW_law_1108 : decode code 1108 = .ok (.iconst 1, 1) := by decide +kernel
theorem d_LW_law_1109 : decode code 1109 = .ok (.iadd, 1) := by decide +kernel
theorem d_LW_law_1110 : decode code 1110 = .ok (.iaload, 1) := by decide +kernel
theorem d_LW_law_1111 : decode code 1111 = .ok (.aload_n 0, 1) := by decide +kernel
theorem d_LW_law_1112 : decode code 1112 = .ok (.iload 4, 2) := by decide +kernel
theorem d_LW_law_1114 : decode code 1114 = .ok (.iconst 2, 1) := by decide +kernel
theorem d_LW_law_1115 : decode code 1115 = .ok (.iadd, 1) := by decide +kernel
theorem d_LW_law_1116 : decode code 1116 = .ok (.iaload, 1) := by decide +kernel
theorem d_LW_law_1117 : decode code 1117 = .ok (.aload_n 3, 1) := by decide +kernel
theorem d_LW_law_1118 : decode code 1118 = .ok (.invokestatic 151, 3) := by decide +kernel
theorem d_LW_law_1121 : decode code 1121 = .ok (.istore 5, 2) := by decide +kernel
theorem d_LW_law_1123 : decode code 1123 = .ok (.aload_n 2, 1) := by decide +kernel
theorem d_LW_law_1124 : decode code 1124 = .ok (.aload_n 0, 1) := by decide +kernel
theorem d_LW_law_1125 : decode code 1125 = .ok (.iload 4, 2) := by decide +kernel
theorem d_LW_law_1127 : decode code 1127 = .ok (.iconst 1, 1) := by decide +kernel
theorem d_LW_law_1128 : decode code 1128 = .ok (.iadd, 1) := by decide +kernel
theorem d_LW_law_1129 : decode code 1129 = .ok (.iaload, 1) := by decide +kernel
theorem d_LW_law_1130 : decode code 1130 = .ok (.aload_n 0, 1) := by decide +kernel
theorem d_LW_law_1131 : decode code 1131 = .ok (.iload 4, 2) := by decide +kernel
theorem d_LW_law_1133 : decode code 1133 = .ok (.iconst 2, 1) := by decide +kernel
theorem d_LW_law_1134 : decode code 1134 = .ok (.iadd, 1) := by decide +kernel
theorem d_LW_law_1135 : decode code 1135 = .ok (.iaload, 1) := by decide +kernel
theorem d_LW_law_1136 : decode code 1136 = .ok (.invokevirtual 153, 3) := by decide +kernel
theorem d_LW_law_1139 : decode code 1139 = .ok (.istore 6, 2) := by decide +kernel
theorem d_LW_law_1141 : decode code 1141 = .ok (.aload_n 2, 1) := by decide +kernel
theorem d_LW_law_1142 : decode code 1142 = .ok (.invokevirtual 83, 3) := by decide +kernel
theorem d_LW_law_1145 : decode code 1145 = .ok (.iload 5, 2) := by decide +kernel
theorem d_LW_law_1147 : decode code 1147 = .ok (.if_icmp .eq 5, 3) := by decide +kernel
theorem d_LW_law_1152 : decode code 1152 = .ok (.iload 5, 2) := by decide +kernel
theorem d_LW_law_1154 : decode code 1154 = .ok (.ifCond .ne 15, 3) := by decide +kernel
theorem d_LW_law_1169 : decode code 1169 = .ok (.goto 59, 3) := by decide +kernel
theorem d_LW_law_1172 : decode code 1172 = .ok (.aload_n 1, 1) := by decide +kernel
theorem d_LW_law_1173 : decode code 1173 = .ok (.aload_n 0, 1) := by decide +kernel
theorem d_LW_law_1174 : decode code 1174 = .ok (.iload 4, 2) := by decide +kernel
theorem d_LW_law_1176 : decode code 1176 = .ok (.iconst 1, 1) := by decide +kernel
theorem d_LW_law_1177 : decode code 1177 = .ok (.iadd, 1) := by decide +kernel
theorem d_LW_law_1178 : decode code 1178 = .ok (.iaload, 1) := by decide +kernel
theorem d_LW_law_1179 : decode code 1179 = .ok (.aload_n 3, 1) := by decide +kernel
theorem d_LW_law_1180 : decode code 1180 = .ok (.invokestatic 154, 3) := by decide +kernel
theorem d_LW_law_1183 : decode code 1183 = .ok (.istore 5, 2) := by decide +kernel
theorem d_LW_law_1185 : decode code 1185 = .ok (.aload_n 2, 1) := by decide +kernel
theorem d_LW_law_1186 : decode code 1186 = .ok (.aload_n 0, 1) := by decide +kernel
theorem d_LW_law_1187 : decode code 1187 = .ok (.iload 4, 2) := by decide +kernel
theorem d_LW_law_1189 : decode code 1189 = .ok (.iconst 1, 1) := by decide +kernel
theorem d_LW_law_1190 : decode code 1190 = .ok (.iadd, 1) := by decide +kernel
theorem d_LW_law_1191 : decode code 1191 = .ok (.iaload, 1) := by decide +kernel
theorem d_LW_law_1192 : decode code 1192 = .ok (.invokevirtual 156, 3) := by decide +kernel
theorem d_LW_law_1195 : decode code 1195 = .ok (.istore 6, 2) := by decide +kernel
theorem d_LW_law_1197 : decode code 1197 = .ok (.aload_n 2, 1) := by decide +kernel
theorem d_LW_law_1198 : decode code 1198 = .ok (.invokevirtual 83, 3) := by decide +kernel
theorem d_LW_law_1201 : decode code 1201 = .ok (.iload 5, 2) := by decide +kernel
theorem d_LW_law_1203 : decode code 1203 = .ok (.if_icmp .eq 5, 3) := by decide +kernel
theorem d_LW_law_1208 : decode code 1208 = .ok (.iload 5, 2) := by decide +kernel
theorem d_LW_law_1210 : decode code 1210 = .ok (.ifCond .ne 15, 3) := by decide +kernel
theorem d_LW_law_1213 : decode code 1213 = .ok (.aload_n 3, 1) := by decide +kernel
theorem d_LW_law_1214 : decode code 1214 = .ok (.iconst 0, 1) := by decide +kernel
theorem d_LW_law_1215 : decode code 1215 = .ok (.laload, 1) := by decide +kernel
theorem d_LW_law_1216 : decode code 1216 = .ok (.iload 6, 2) := by decide +kernel
theorem d_LW_law_1218 : decode code 1218 = .ok (.i2l, 1) := by decide +kernel
theorem d_LW_law_1219 : decode code 1219 = .ok (.lcmp, 1) := by decide +kernel
theorem d_LW_law_1220 : decode code 1220 = .ok (.ifCond .eq 5, 3) := by decide +kernel
theorem d_LW_law_1225 : decode code 1225 = .ok (.goto 3, 3) := by decide +kernel
theorem d_LW_law_1228 : decode code 1228 = .ok (.iinc 4 6, 3) := by decide +kernel
theorem d_LW_law_1231 : decode code 1231 = .ok (.goto (-1208), 3) := by decide +kernel
theorem d_LW_law_1234 : decode code 1234 = .ok (.iconst 1, 1) := by decide +kernel
theorem d_LW_law_1235 : decode code 1235 = .ok (.ireturn, 1) := by decide +kernel
set_option maxHeartbeats 4000000 in
set_option maxRecDepth 100000 in
theorem tl_end {p : Program} {l : Launch} {e : Env} {s : State} {m : MethodId} {below : List Frame} {meth : Method} {c : Code} {A : Nat → Prop} {b : Nat} {H : Heap} {locs : List Loc} {ls : Array Slot} {xs : Nat → Int32} {cells slots : Nat} (hx : p.tables.exec = Jvm.exec) (hb : c.code = code) (hr : meth.sig.returnType = ret) (hlocks : meth.locks = false) (hbl : b < s.heap.size) (hbA : ¬ A b) (hAB : ∀ q, A q → s.heap.size ≤ q) (hX : va_X b 6 xs s s.heap) (hc : cells ≤ 600002) (hs : slots ≤ 7302232) (hS : va_S A s.heap H locs) (hl : lv_has ls 8 [(4, .int 0), (0, .ref b)]) : W p l e room_1 s m #[Value.ref b] below meth c H locs cells slots (lw_Z below #[Value.ref b] s) (F0 m 1228 ls []) := by
  refine lv_iinc (k := 0) (v := 6) hx hb d_LW_law_1228 hl rfl (by decide) (by decide) rfl (fun ls hl => ?_)
  have hl : lv_has ls 8 [(4, .int 6), (0, .ref b)] := hl
  refine lv_goto (tgt := 23) hx hb d_LW_law_1231 (by decide) ?_
  refine lv_iload hx hb d_LW_law_23 (lv_at hl 0 rfl) ?_
  refine lv_aload_n hx hb d_LW_law_25 rfl (lv_at hl 1 rfl) ?_
  refine va_slen hx hb hX hbl hbA hS d_LW_law_26 ?_
  refine lv_bipush (v := 6) hx hb d_LW_law_27 (by decide) ?_
  refine lv_isub hx hb d_LW_law_29 ?_
  refine lv_icmp_gt (tgt := 1234) hx hb d_LW_law_30 (by decide) (fun _ => ?_) (fun h9 => absurd (by decide) h9)
  refine lv_iconst (v := 1) hx hb d_LW_law_1234 (by decide) ?_
  refine va_forget (fun q h => hAB _ (hS.2.2 q h)) ?_
  refine W.widen (k := 600002) (n := 7302232) hc hs ?_
  exact lw_ret hx hb hr hlocks d_LW_law_1235
set_option maxHeartbeats 4000000 in
set_option maxRecDepth 100000 in
theorem cs_0 {p : Program} {l : Launch} {e : Env} {s : State} {m : MethodId} {below : List Frame} {meth : Method} {c : Code} {A : Nat → Prop} {b : Nat} {H : Heap} {locs : List Loc} {ls : Array Slot} {xs : Nat → Int32} (dC : Nat → ClassId) (dI : Nat → Nat → Nat) (h0 rq oa pl dk rw q9 d1 d2 d3 d4 r1 g0 m3 m5 m6 m7 m8 m9 m10 m11 m12 m13 m14 m15 m16 m17 m18 m19 m20 m22 m23 m24 m25 m26 m27 m29 ou : Nat) (k1 k2 k3 j3 j5 j6 j7 j8 j9 j10 k4 : ClassId) (hl9 : l.stackTraces = false) (hx : p.tables.exec = Jvm.exec) (hb : c.code = code) (hr : meth.sig.returnType = ret) (hlocks : meth.locks = false) (hbl : b < s.heap.size) (hbA : ¬ A b) (hAB : ∀ q, A q → s.heap.size ≤ q) (hX : va_X b 6 xs s s.heap) (hml : c.maxLocals = 8) (hown : s.vm.findClass R_LW = some m.cls) (ht : ∀ w ∈ tb_, w.before #[Value.ref b] s = true) (hA : ∀ q : Nat, s.heap.size ≤ q → A q) (hBs : s.heap.size ≤ s.heap.size) (hV : tw_V s.heap.size s s.heap)
    (hK : va_K (dC, dI) cls_ [(k1, .object "TwinTuners$Request"), (k2, .int), (k3, .int), (j3, .int), (j5, .int), (j6, .int), (j7, .int), (j8, .int), (j9, .int), (j10, .int), (k4, .long)] s) (hP : va_P (dC, dI) cls_ [(h0, .inr (0, [.ref rq, .ref oa, .ref pl, .ref dk, .ref rw, .int 0, .int 0, .int (-1)])), (rq, .inl (k1, 40, .inr (.inr (.inr (.inr (fun _ => none)))))), (oa, .inl (k2, 8, .inl (fun _ => 0))), (pl, .inr (1, [.ref q9, .int 0])), (dk, .inr (2, [.ref d1, .ref d2, .ref d3, .ref d4])), (d1, .inl (k3, 24, .inl (fun _ => -1))), (rw, .inr (3, [.ref r1, .int 0, .int 0])), (g0, .inr (5, [.int 0, .int 0, .int (-1), .ref m3, .int 0, .ref m5, .ref m6, .ref m7, .ref m8, .ref m9, .ref m10, .ref m11, .ref m12, .ref m13, .ref m14, .ref m15, .ref m16, .ref m17, .ref m18, .ref m19, .ref m20, .int 0, .ref m22, .ref m23, .ref m24, .ref m25, .ref m26, .ref m27, .int 0, .ref m29])), (m3, .inl (j3, 8, .inl (fun _ => 0))), (m5, .inl (j5, 40, .inl (fun _ => 0))), (m6, .inl (j6, 40, .inl (fun _ => 0))), (m7, .inl (j7, 40, .inl (fun _ => 0))), (m8, .inl (j8, 40, .inl (fun _ => 0))), (m9, .inl (j9, 40, .inl (fun _ => 0))), (m10, .inl (j10, 40, .inl (fun _ => 0))), (ou, .inl (k4, 1, .inr (.inl (fun _ => 0))))] H) (hD : va_D A [(h0, .inr (0, [.ref rq, .ref oa, .ref pl, .ref dk, .ref rw, .int 0, .int 0, .int (-1)])), (rq, .inl (k1, 40, .inr (.inr (.inr (.inr (fun _ => none)))))), (oa, .inl (k2, 8, .inl (fun _ => 0))), (pl, .inr (1, [.ref q9, .int 0])), (dk, .inr (2, [.ref d1, .ref d2, .ref d3, .ref d4])), (d1, .inl (k3, 24, .inl (fun _ => -1))), (rw, .inr (3, [.ref r1, .int 0, .int 0])), (g0, .inr (5, [.int 0, .int 0, .int (-1), .ref m3, .int 0, .ref m5, .ref m6, .ref m7, .ref m8, .ref m9, .ref m10, .ref m11, .ref m12, .ref m13, .ref m14, .ref m15, .ref m16, .ref m17, .ref m18, .ref m19, .ref m20, .int 0, .ref m22, .ref m23, .ref m24, .ref m25, .ref m26, .ref m27, .int 0, .ref m29])), (m3, .inl (j3, 8, .inl (fun _ => 0))), (m5, .inl (j5, 40, .inl (fun _ => 0))), (m6, .inl (j6, 40, .inl (fun _ => 0))), (m7, .inl (j7, 40, .inl (fun _ => 0))), (m8, .inl (j8, 40, .inl (fun _ => 0))), (m9, .inl (j9, 40, .inl (fun _ => 0))), (m10, .inl (j10, 40, .inl (fun _ => 0))), (ou, .inl (k4, 1, .inr (.inl (fun _ => 0))))]) (hS : va_S A s.heap H locs) (hl : lv_has ls 8 [(4, .int 0), (3, .ref ou), (2, .ref g0), (1, .ref h0), (0, .ref b)]) : W p l e room_1 s m #[Value.ref b] below meth c H locs 38 14124 (lw_Z below #[Value.ref b] s) (F0 m 140 ls []) := by
  by_cases hv : ((0 ≤ xs 1 ∧ xs 1 ≤ 7) ∧ (0 ≤ xs 2 ∧ xs 2 ≤ 1000) ∧ (1 ≤ xs 3 ∧ xs 3 ≤ 60) ∧ (1 ≤ xs 4 ∧ xs 4 ≤ 9) ∧ (0 ≤ xs 5 ∧ xs 5 ≤ 99))
  · refine lv_aload_n hx hb d_LW_law_140 rfl (lv_at hl 3 rfl) ?_
    refine lv_aload_n hx hb d_LW_law_141 rfl (lv_at hl 4 rfl) ?_
    refine lv_iload hx hb d_LW_law_142 (lv_at hl 0 rfl) ?_
    refine lv_iconst (v := 1) hx hb d_LW_law_144 (by decide) ?_
    refine lv_iadd hx hb d_LW_law_145 ?_
    refine lv_topi (fun v1 ev1 => ?_)
    obtain rfl : v1 = 1 := ev1.trans (by decide)
    refine va_sld hx hb hX hbl hbA hS (show vp_in (nI 1) 6 from vp_in_nI (by decide) (by decide)) d_LW_law_146 ?_
    refine W.eq (g2 := F0 m 147 ls [.int (xs 1), .ref h0]) rfl ?_
    refine lv_aload_n hx hb d_LW_law_147 rfl (lv_at hl 4 rfl) ?_
    refine lv_iload hx hb d_LW_law_148 (lv_at hl 0 rfl) ?_
    refine lv_iconst (v := 2) hx hb d_LW_law_150 (by decide) ?_
    refine lv_iadd hx hb d_LW_law_151 ?_
    refine lv_topi (fun v2 ev2 => ?_)
    obtain rfl : v2 = 2 := ev2.trans (by decide)
    refine va_sld hx hb hX hbl hbA hS (show vp_in (nI 2) 6 from vp_in_nI (by decide) (by decide)) d_LW_law_152 ?_
    refine W.eq (g2 := F0 m 153 ls [.int (xs 2), .int (xs 1), .ref h0]) rfl ?_
    refine lv_aload_n hx hb d_LW_law_153 rfl (lv_at hl 4 rfl) ?_
    refine lv_iload hx hb d_LW_law_154 (lv_at hl 0 rfl) ?_
    refine lv_iconst (v := 3) hx hb d_LW_law_156 (by decide) ?_
    refine lv_iadd hx hb d_LW_law_157 ?_
    refine lv_topi (fun v3 ev3 => ?_)
    obtain rfl : v3 = 3 := ev3.trans (by decide)
    refine va_sld hx hb hX hbl hbA hS (show vp_in (nI 3) 6 from vp_in_nI (by decide) (by decide)) d_LW_law_158 ?_
    refine W.eq (g2 := F0 m 159 ls [.int (xs 3), .int (xs 2), .int (xs 1), .ref h0]) rfl ?_
    refine lv_aload_n hx hb d_LW_law_159 rfl (lv_at hl 4 rfl) ?_
    refine lv_iload hx hb d_LW_law_160 (lv_at hl 0 rfl) ?_
    refine lv_iconst (v := 4) hx hb d_LW_law_162 (by decide) ?_
    refine lv_iadd hx hb d_LW_law_163 ?_
    refine lv_topi (fun v4 ev4 => ?_)
    obtain rfl : v4 = 4 := ev4.trans (by decide)
    refine va_sld hx hb hX hbl hbA hS (show vp_in (nI 4) 6 from vp_in_nI (by decide) (by decide)) d_LW_law_164 ?_
    refine W.eq (g2 := F0 m 165 ls [.int (xs 4), .int (xs 3), .int (xs 2), .int (xs 1), .ref h0]) rfl ?_
    refine lv_aload_n hx hb d_LW_law_165 rfl (lv_at hl 4 rfl) ?_
    refine lv_iload hx hb d_LW_law_166 (lv_at hl 0 rfl) ?_
    refine lv_iconst (v := 5) hx hb d_LW_law_168 (by decide) ?_
    refine lv_iadd hx hb d_LW_law_169 ?_
    refine lv_topi (fun v5 ev5 => ?_)
    obtain rfl : v5 = 5 := ev5.trans (by decide)
    refine va_sld hx hb hX hbl hbA hS (show vp_in (nI 5) 6 from vp_in_nI (by decide) (by decide)) d_LW_law_170 ?_
    refine W.eq (g2 := F0 m 171 ls [.int (xs 5), .int (xs 4), .int (xs 3), .int (xs 2), .int (xs 1), .ref h0]) rfl ?_
    refine lv_aload_n hx hb d_LW_law_171 rfl (lv_at hl 1 rfl) ?_
    have hPc := hP.sub (ws' := [(h0, .inr (0, [.ref rq, .ref oa, .ref pl, .ref dk, .ref rw, .int 0, .int 0, .int (-1)])), (rq, .inl (k1, 40, .inr (.inr (.inr (.inr (fun _ => none)))))), (ou, .inl (k4, 1, .inr (.inl (fun _ => 0))))]) [0, 1, 15] rfl
    have hKc := hK.sub (tys' := [(k1, .object "TwinTuners$Request"), (k4, .long)]) [0, 10] rfl
    have hDc := hD.sub (ws' := [(h0, .inr (0, [.ref rq, .ref oa, .ref pl, .ref dk, .ref rw, .int 0, .int 0, .int (-1)])), (rq, .inl (k1, 40, .inr (.inr (.inr (.inr (fun _ => none)))))), (ou, .inl (k4, 1, .inr (.inl (fun _ => 0))))]) [0, 1, 15] (by decide) rfl
    have hFc := va_free (wc := [(h0, .inr (0, [.ref rq, .ref oa, .ref pl, .ref dk, .ref rw, .int 0, .int 0, .int (-1)])), (rq, .inl (k1, 40, .inr (.inr (.inr (.inr (fun _ => none)))))), (ou, .inl (k4, 1, .inr (.inl (fun _ => 0))))]) hD hS hA [0, 1, 15] rfl
    refine fr_call (tw_runSW (As := [.ref h0, .int (xs 1), .int (xs 2), .int (xs 3), .int (xs 4), .int (xs 5), .ref ou]) (rest := []) ⟨hx, hb, hml, hown, ht⟩ (c_LW_request_good l dC dI H.size s.heap.size h0 rq oa pl dk rw ou k1 k4 (xs 1) (xs 2) (xs 3) (xs 4) (xs 5) hv) rfl rfl ⟨Nat.le_of_ble_eq_true rfl, Nat.le_of_ble_eq_true rfl⟩ (pay_in ht (gW tb_263)) (show _ ∈ w_LW_request from List.mem_cons_self) (ht _ tb_261) (ht _ tb_262) (ht _ tb_0) (n := 7) (by decide +kernel) ⟨frP_blind, fr_pre hPc hKc hDc hAB hBs hS hV⟩ rfl rfl hl.1 rfl (lv_room (Nat.le_of_ble_eq_true rfl)) d_LW_law_172 ⟨Nat.le_of_ble_eq_true rfl, Nat.le_of_ble_eq_true rfl⟩) hS (fun q _ h => hFc q h) hFc (fun t H1 locs ht1 hvm hB1 hz1 hk1 hS => ?_)
    obtain ⟨hP1, hK1, hD1⟩ := hB1
    rw [ht1] at hP1
    have hK1 := va_K.moved hvm.symm hK1
    obtain ⟨hP, hD⟩ := va_join (wr := [(oa, .inl (k2, 8, .inl (fun _ => 0))), (pl, .inr (1, [.ref q9, .int 0])), (dk, .inr (2, [.ref d1, .ref d2, .ref d3, .ref d4])), (d1, .inl (k3, 24, .inl (fun _ => -1))), (rw, .inr (3, [.ref r1, .int 0, .int 0])), (g0, .inr (5, [.int 0, .int 0, .int (-1), .ref m3, .int 0, .ref m5, .ref m6, .ref m7, .ref m8, .ref m9, .ref m10, .ref m11, .ref m12, .ref m13, .ref m14, .ref m15, .ref m16, .ref m17, .ref m18, .ref m19, .ref m20, .int 0, .ref m22, .ref m23, .ref m24, .ref m25, .ref m26, .ref m27, .int 0, .ref m29])), (m3, .inl (j3, 8, .inl (fun _ => 0))), (m5, .inl (j5, 40, .inl (fun _ => 0))), (m6, .inl (j6, 40, .inl (fun _ => 0))), (m7, .inl (j7, 40, .inl (fun _ => 0))), (m8, .inl (j8, 40, .inl (fun _ => 0))), (m9, .inl (j9, 40, .inl (fun _ => 0))), (m10, .inl (j10, 40, .inl (fun _ => 0)))]) (w1 := [(ou, .inl (k4, 1, .inr (.inl (vp_updL (fun _ => 0) (0 : Int32).toNatClampNeg (0 : Int32).toInt64))))]) hP hD [0, 1, 15] [2, 3, 4, 5, 6, 7, 8, 9, 10, 11, 12, 13, 14] rfl rfl (by decide) (by decide) hk1 hFc hP1 hD1
    have hK := hK.app hK1
    generalize H1 = H at hP hS ⊢
    have hP : va_P (dC, dI) cls_ [(oa, .inl (k2, 8, .inl (fun _ => 0))), (pl, .inr (1, [.ref q9, .int 0])), (dk, .inr (2, [.ref d1, .ref d2, .ref d3, .ref d4])), (d1, .inl (k3, 24, .inl (fun _ => -1))), (rw, .inr (3, [.ref r1, .int 0, .int 0])), (g0, .inr (5, [.int 0, .int 0, .int (-1), .ref m3, .int 0, .ref m5, .ref m6, .ref m7, .ref m8, .ref m9, .ref m10, .ref m11, .ref m12, .ref m13, .ref m14, .ref m15, .ref m16, .ref m17, .ref m18, .ref m19, .ref m20, .int 0, .ref m22, .ref m23, .ref m24, .ref m25, .ref m26, .ref m27, .int 0, .ref m29])), (m3, .inl (j3, 8, .inl (fun _ => 0))), (m5, .inl (j5, 40, .inl (fun _ => 0))), (m6, .inl (j6, 40, .inl (fun _ => 0))), (m7, .inl (j7, 40, .inl (fun _ => 0))), (m8, .inl (j8, 40, .inl (fun _ => 0))), (m9, .inl (j9, 40, .inl (fun _ => 0))), (m10, .inl (j10, 40, .inl (fun _ => 0))), (ou, .inl (k4, 1, .inr (.inl (vp_updL (fun _ => 0) (0 : Int32).toNatClampNeg (0 : Int32).toInt64))))] H := hP
    have hD : va_D A [(oa, .inl (k2, 8, .inl (fun _ => 0))), (pl, .inr (1, [.ref q9, .int 0])), (dk, .inr (2, [.ref d1, .ref d2, .ref d3, .ref d4])), (d1, .inl (k3, 24, .inl (fun _ => -1))), (rw, .inr (3, [.ref r1, .int 0, .int 0])), (g0, .inr (5, [.int 0, .int 0, .int (-1), .ref m3, .int 0, .ref m5, .ref m6, .ref m7, .ref m8, .ref m9, .ref m10, .ref m11, .ref m12, .ref m13, .ref m14, .ref m15, .ref m16, .ref m17, .ref m18, .ref m19, .ref m20, .int 0, .ref m22, .ref m23, .ref m24, .ref m25, .ref m26, .ref m27, .int 0, .ref m29])), (m3, .inl (j3, 8, .inl (fun _ => 0))), (m5, .inl (j5, 40, .inl (fun _ => 0))), (m6, .inl (j6, 40, .inl (fun _ => 0))), (m7, .inl (j7, 40, .inl (fun _ => 0))), (m8, .inl (j8, 40, .inl (fun _ => 0))), (m9, .inl (j9, 40, .inl (fun _ => 0))), (m10, .inl (j10, 40, .inl (fun _ => 0))), (ou, .inl (k4, 1, .inr (.inl (vp_updL (fun _ => 0) (0 : Int32).toNatClampNeg (0 : Int32).toInt64))))] := hD
    have hK : va_K (dC, dI) cls_ [(k1, .object "TwinTuners$Request"), (k2, .int), (k3, .int), (j3, .int), (j5, .int), (j6, .int), (j7, .int), (j8, .int), (j9, .int), (j10, .int), (k4, .long), (k4, .long)] s := hK
    refine W.eq (g2 := F0 m 175 ls [.int 0]) rfl ?_
    refine W.cs (cells' := 40) (slots' := 14147) rfl rfl ?_
    refine lv_istore hx hb d_LW_law_175 hl (by decide) rfl (fun ls hl => ?_)
    have hl : lv_has ls 8 [(5, .int 0), (4, .int 0), (3, .ref ou), (2, .ref g0), (1, .ref h0), (0, .ref b)] := hl
    refine lv_aload_n hx hb d_LW_law_177 rfl (lv_at hl 3 rfl) ?_
    refine lv_aload_n hx hb d_LW_law_178 rfl (lv_at hl 5 rfl) ?_
    refine lv_iload hx hb d_LW_law_179 (lv_at hl 1 rfl) ?_
    refine lv_iconst (v := 1) hx hb d_LW_law_181 (by decide) ?_
    refine lv_iadd hx hb d_LW_law_182 ?_
    refine lv_topi (fun v6 ev6 => ?_)
    obtain rfl : v6 = 1 := ev6.trans (by decide)
    refine va_sld hx hb hX hbl hbA hS (show vp_in (nI 1) 6 from vp_in_nI (by decide) (by decide)) d_LW_law_183 ?_
    refine W.eq (g2 := F0 m 184 ls [.int (xs 1), .ref g0]) rfl ?_
    refine lv_aload_n hx hb d_LW_law_184 rfl (lv_at hl 5 rfl) ?_
    refine lv_iload hx hb d_LW_law_185 (lv_at hl 1 rfl) ?_
    refine lv_iconst (v := 2) hx hb d_LW_law_187 (by decide) ?_
    refine lv_iadd hx hb d_LW_law_188 ?_
    refine lv_topi (fun v7 ev7 => ?_)
    obtain rfl : v7 = 2 := ev7.trans (by decide)
    refine va_sld hx hb hX hbl hbA hS (show vp_in (nI 2) 6 from vp_in_nI (by decide) (by decide)) d_LW_law_189 ?_
    refine W.eq (g2 := F0 m 190 ls [.int (xs 2), .int (xs 1), .ref g0]) rfl ?_
    refine lv_aload_n hx hb d_LW_law_190 rfl (lv_at hl 5 rfl) ?_
    refine lv_iload hx hb d_LW_law_191 (lv_at hl 1 rfl) ?_
    refine lv_iconst (v := 3) hx hb d_LW_law_193 (by decide) ?_
    refine lv_iadd hx hb d_LW_law_194 ?_
    refine lv_topi (fun v8 ev8 => ?_)
    obtain rfl : v8 = 3 := ev8.trans (by decide)
    refine va_sld hx hb hX hbl hbA hS (show vp_in (nI 3) 6 from vp_in_nI (by decide) (by decide)) d_LW_law_195 ?_
    refine W.eq (g2 := F0 m 196 ls [.int (xs 3), .int (xs 2), .int (xs 1), .ref g0]) rfl ?_
    refine lv_aload_n hx hb d_LW_law_196 rfl (lv_at hl 5 rfl) ?_
    refine lv_iload hx hb d_LW_law_197 (lv_at hl 1 rfl) ?_
    refine lv_iconst (v := 4) hx hb d_LW_law_199 (by decide) ?_
    refine lv_iadd hx hb d_LW_law_200 ?_
    refine lv_topi (fun v9 ev9 => ?_)
    obtain rfl : v9 = 4 := ev9.trans (by decide)
    refine va_sld hx hb hX hbl hbA hS (show vp_in (nI 4) 6 from vp_in_nI (by decide) (by decide)) d_LW_law_201 ?_
    refine W.eq (g2 := F0 m 202 ls [.int (xs 4), .int (xs 3), .int (xs 2), .int (xs 1), .ref g0]) rfl ?_
    refine lv_aload_n hx hb d_LW_law_202 rfl (lv_at hl 5 rfl) ?_
    refine lv_iload hx hb d_LW_law_203 (lv_at hl 1 rfl) ?_
    refine lv_iconst (v := 5) hx hb d_LW_law_205 (by decide) ?_
    refine lv_iadd hx hb d_LW_law_206 ?_
    refine lv_topi (fun v10 ev10 => ?_)
    obtain rfl : v10 = 5 := ev10.trans (by decide)
    refine va_sld hx hb hX hbl hbA hS (show vp_in (nI 5) 6 from vp_in_nI (by decide) (by decide)) d_LW_law_207 ?_
    refine W.eq (g2 := F0 m 208 ls [.int (xs 5), .int (xs 4), .int (xs 3), .int (xs 2), .int (xs 1), .ref g0]) rfl ?_
    have hPc := hP.sub (ws' := [(g0, .inr (5, [.int 0, .int 0, .int (-1), .ref m3, .int 0, .ref m5, .ref m6, .ref m7, .ref m8, .ref m9, .ref m10, .ref m11, .ref m12, .ref m13, .ref m14, .ref m15, .ref m16, .ref m17, .ref m18, .ref m19, .ref m20, .int 0, .ref m22, .ref m23, .ref m24, .ref m25, .ref m26, .ref m27, .int 0, .ref m29])), (m5, .inl (j5, 40, .inl (fun _ => 0))), (m6, .inl (j6, 40, .inl (fun _ => 0))), (m7, .inl (j7, 40, .inl (fun _ => 0))), (m8, .inl (j8, 40, .inl (fun _ => 0))), (m9, .inl (j9, 40, .inl (fun _ => 0))), (m10, .inl (j10, 40, .inl (fun _ => 0)))]) [5, 7, 8, 9, 10, 11, 12] rfl
    have hKc := hK.sub (tys' := [(j5, .int), (j6, .int), (j7, .int), (j8, .int), (j9, .int), (j10, .int)]) [4, 5, 6, 7, 8, 9] rfl
    have hDc := hD.sub (ws' := [(g0, .inr (5, [.int 0, .int 0, .int (-1), .ref m3, .int 0, .ref m5, .ref m6, .ref m7, .ref m8, .ref m9, .ref m10, .ref m11, .ref m12, .ref m13, .ref m14, .ref m15, .ref m16, .ref m17, .ref m18, .ref m19, .ref m20, .int 0, .ref m22, .ref m23, .ref m24, .ref m25, .ref m26, .ref m27, .int 0, .ref m29])), (m5, .inl (j5, 40, .inl (fun _ => 0))), (m6, .inl (j6, 40, .inl (fun _ => 0))), (m7, .inl (j7, 40, .inl (fun _ => 0))), (m8, .inl (j8, 40, .inl (fun _ => 0))), (m9, .inl (j9, 40, .inl (fun _ => 0))), (m10, .inl (j10, 40, .inl (fun _ => 0)))]) [5, 7, 8, 9, 10, 11, 12] (by decide) rfl
    have hFc := va_free (wc := [(g0, .inr (5, [.int 0, .int 0, .int (-1), .ref m3, .int 0, .ref m5, .ref m6, .ref m7, .ref m8, .ref m9, .ref m10, .ref m11, .ref m12, .ref m13, .ref m14, .ref m15, .ref m16, .ref m17, .ref m18, .ref m19, .ref m20, .int 0, .ref m22, .ref m23, .ref m24, .ref m25, .ref m26, .ref m27, .int 0, .ref m29])), (m5, .inl (j5, 40, .inl (fun _ => 0))), (m6, .inl (j6, 40, .inl (fun _ => 0))), (m7, .inl (j7, 40, .inl (fun _ => 0))), (m8, .inl (j8, 40, .inl (fun _ => 0))), (m9, .inl (j9, 40, .inl (fun _ => 0))), (m10, .inl (j10, 40, .inl (fun _ => 0)))]) hD hS hA [5, 7, 8, 9, 10, 11, 12] rfl
    refine fr_call (va_runV (C := R_MO) (As := [.int (xs 1), .int (xs 2), .int (xs 3), .int (xs 4), .int (xs 5)]) (rest := []) ⟨hx, hb, hml, hown, ht⟩ (c_MO_request_ok l dC dI H.size s.heap.size g0 m3 m5 m6 m7 m8 m9 m10 m11 m12 m13 m14 m15 m16 m17 m18 m19 m20 m22 m23 m24 m25 m26 m27 m29 j5 j6 j7 j8 j9 j10 (xs 1) (xs 2) (xs 3) (xs 4) (xs 5) hv) (cwV 5 ht (gV tb_727 tb_728 tb_729 tb_5 tb_730) rfl rfl rfl (by decide +kernel) ⟨Nat.le_of_ble_eq_true rfl, Nat.le_of_ble_eq_true rfl⟩) ⟨frP_blind, va_recv (q := (R_MO, F_MO, 30)) hK hP rfl (show ([(oa, .inl (k2, 8, .inl (fun _ => 0))), (pl, .inr (1, [.ref q9, .int 0])), (dk, .inr (2, [.ref d1, .ref d2, .ref d3, .ref d4])), (d1, .inl (k3, 24, .inl (fun _ => -1))), (rw, .inr (3, [.ref r1, .int 0, .int 0])), (g0, .inr (5, [.int 0, .int 0, .int (-1), .ref m3, .int 0, .ref m5, .ref m6, .ref m7, .ref m8, .ref m9, .ref m10, .ref m11, .ref m12, .ref m13, .ref m14, .ref m15, .ref m16, .ref m17, .ref m18, .ref m19, .ref m20, .int 0, .ref m22, .ref m23, .ref m24, .ref m25, .ref m26, .ref m27, .int 0, .ref m29])), (m3, .inl (j3, 8, .inl (fun _ => 0))), (m5, .inl (j5, 40, .inl (fun _ => 0))), (m6, .inl (j6, 40, .inl (fun _ => 0))), (m7, .inl (j7, 40, .inl (fun _ => 0))), (m8, .inl (j8, 40, .inl (fun _ => 0))), (m9, .inl (j9, 40, .inl (fun _ => 0))), (m10, .inl (j10, 40, .inl (fun _ => 0))), (ou, .inl (k4, 1, .inr (.inl (vp_updL (fun _ => 0) (0 : Int32).toNatClampNeg (0 : Int32).toInt64))))] : va_W)[5]? = some (g0, .inr (5, [.int 0, .int 0, .int (-1), .ref m3, .int 0, .ref m5, .ref m6, .ref m7, .ref m8, .ref m9, .ref m10, .ref m11, .ref m12, .ref m13, .ref m14, .ref m15, .ref m16, .ref m17, .ref m18, .ref m19, .ref m20, .int 0, .ref m22, .ref m23, .ref m24, .ref m25, .ref m26, .ref m27, .int 0, .ref m29])) from rfl), fr_pre hPc hKc hDc hAB hBs hS hV⟩ rfl rfl hl.1 rfl (lv_room (Nat.le_of_ble_eq_true rfl)) d_LW_law_208 ⟨Nat.le_of_ble_eq_true rfl, Nat.le_of_ble_eq_true rfl⟩) hS (fun q _ h => hFc q h) hFc (fun t H1 locs ht1 hvm hB1 hz1 hk1 hS => ?_)
    obtain ⟨hP1, hK1, hD1⟩ := hB1
    rw [ht1] at hP1
    have hK1 := va_K.moved hvm.symm hK1
    obtain ⟨hP, hD⟩ := va_join (wr := [(oa, .inl (k2, 8, .inl (fun _ => 0))), (pl, .inr (1, [.ref q9, .int 0])), (dk, .inr (2, [.ref d1, .ref d2, .ref d3, .ref d4])), (d1, .inl (k3, 24, .inl (fun _ => -1))), (rw, .inr (3, [.ref r1, .int 0, .int 0])), (m3, .inl (j3, 8, .inl (fun _ => 0))), (ou, .inl (k4, 1, .inr (.inl (vp_updL (fun _ => 0) (0 : Int32).toNatClampNeg (0 : Int32).toInt64))))]) (w1 := [(g0, .inr (5, [.int 0, .int 0, .int (-1), .ref m3, .int (0 + 1), .ref m5, .ref m6, .ref m7, .ref m8, .ref m9, .ref m10, .ref m11, .ref m12, .ref m13, .ref m14, .ref m15, .ref m16, .ref m17, .ref m18, .ref m19, .ref m20, .int 0, .ref m22, .ref m23, .ref m24, .ref m25, .ref m26, .ref m27, .int 0, .ref m29]))]) hP hD [5, 7, 8, 9, 10, 11, 12] [0, 1, 2, 3, 4, 6, 13] rfl rfl (by decide) (by decide) hk1 hFc hP1 hD1
    have hK := hK.app hK1
    generalize H1 = H at hP hS ⊢
    have hP : va_P (dC, dI) cls_ [(oa, .inl (k2, 8, .inl (fun _ => 0))), (pl, .inr (1, [.ref q9, .int 0])), (dk, .inr (2, [.ref d1, .ref d2, .ref d3, .ref d4])), (d1, .inl (k3, 24, .inl (fun _ => -1))), (rw, .inr (3, [.ref r1, .int 0, .int 0])), (m3, .inl (j3, 8, .inl (fun _ => 0))), (ou, .inl (k4, 1, .inr (.inl (vp_updL (fun _ => 0) (0 : Int32).toNatClampNeg (0 : Int32).toInt64)))), (g0, .inr (5, [.int 0, .int 0, .int (-1), .ref m3, .int (0 + 1), .ref m5, .ref m6, .ref m7, .ref m8, .ref m9, .ref m10, .ref m11, .ref m12, .ref m13, .ref m14, .ref m15, .ref m16, .ref m17, .ref m18, .ref m19, .ref m20, .int 0, .ref m22, .ref m23, .ref m24, .ref m25, .ref m26, .ref m27, .int 0, .ref m29]))] H := hP
    have hD : va_D A [(oa, .inl (k2, 8, .inl (fun _ => 0))), (pl, .inr (1, [.ref q9, .int 0])), (dk, .inr (2, [.ref d1, .ref d2, .ref d3, .ref d4])), (d1, .inl (k3, 24, .inl (fun _ => -1))), (rw, .inr (3, [.ref r1, .int 0, .int 0])), (m3, .inl (j3, 8, .inl (fun _ => 0))), (ou, .inl (k4, 1, .inr (.inl (vp_updL (fun _ => 0) (0 : Int32).toNatClampNeg (0 : Int32).toInt64)))), (g0, .inr (5, [.int 0, .int 0, .int (-1), .ref m3, .int (0 + 1), .ref m5, .ref m6, .ref m7, .ref m8, .ref m9, .ref m10, .ref m11, .ref m12, .ref m13, .ref m14, .ref m15, .ref m16, .ref m17, .ref m18, .ref m19, .ref m20, .int 0, .ref m22, .ref m23, .ref m24, .ref m25, .ref m26, .ref m27, .int 0, .ref m29]))] := hD
    have hK : va_K (dC, dI) cls_ [(k1, .object "TwinTuners$Request"), (k2, .int), (k3, .int), (j3, .int), (j5, .int), (j6, .int), (j7, .int), (j8, .int), (j9, .int), (j10, .int), (k4, .long), (k4, .long)] s := hK
    refine W.eq (g2 := F0 m 211 ls [.int 0]) rfl ?_
    refine W.cs (cells' := 40) (slots' := 14147) rfl rfl ?_
    refine lv_istore hx hb d_LW_law_211 hl (by decide) rfl (fun ls hl => ?_)
    have hl : lv_has ls 8 [(6, .int 0), (5, .int 0), (4, .int 0), (3, .ref ou), (2, .ref g0), (1, .ref h0), (0, .ref b)] := hl
    refine lv_aload_n hx hb d_LW_law_213 rfl (lv_at hl 4 rfl) ?_
    have hPc := hP.sub (ws' := [(g0, .inr (5, [.int 0, .int 0, .int (-1), .ref m3, .int (0 + 1), .ref m5, .ref m6, .ref m7, .ref m8, .ref m9, .ref m10, .ref m11, .ref m12, .ref m13, .ref m14, .ref m15, .ref m16, .ref m17, .ref m18, .ref m19, .ref m20, .int 0, .ref m22, .ref m23, .ref m24, .ref m25, .ref m26, .ref m27, .int 0, .ref m29]))]) [7] rfl
    have hKc := hK.sub (tys' := []) [] rfl
    refine rd_call (va_runV (C := R_MO) (As := []) (rest := []) ⟨hx, hb, hml, hown, ht⟩ (c_MO_thrown_v l dC dI g0 m3 m5 m6 m7 m8 m9 m10 m11 m12 m13 m14 m15 m16 m17 m18 m19 m20 m22 m23 m24 m25 m26 m27 m29 0 0 (-1) (0 + 1)) (cwV 0 ht (gV tb_723 tb_724 tb_725 tb_5 tb_726) rfl rfl rfl (by decide +kernel) ⟨Nat.le_of_ble_eq_true rfl, Nat.le_of_ble_eq_true rfl⟩) ⟨rdP_blind, va_recv (q := (R_MO, F_MO, 30)) hK hP rfl (show ([(oa, .inl (k2, 8, .inl (fun _ => 0))), (pl, .inr (1, [.ref q9, .int 0])), (dk, .inr (2, [.ref d1, .ref d2, .ref d3, .ref d4])), (d1, .inl (k3, 24, .inl (fun _ => -1))), (rw, .inr (3, [.ref r1, .int 0, .int 0])), (m3, .inl (j3, 8, .inl (fun _ => 0))), (ou, .inl (k4, 1, .inr (.inl (vp_updL (fun _ => 0) (0 : Int32).toNatClampNeg (0 : Int32).toInt64)))), (g0, .inr (5, [.int 0, .int 0, .int (-1), .ref m3, .int (0 + 1), .ref m5, .ref m6, .ref m7, .ref m8, .ref m9, .ref m10, .ref m11, .ref m12, .ref m13, .ref m14, .ref m15, .ref m16, .ref m17, .ref m18, .ref m19, .ref m20, .int 0, .ref m22, .ref m23, .ref m24, .ref m25, .ref m26, .ref m27, .int 0, .ref m29]))] : va_W)[7]? = some (g0, .inr (5, [.int 0, .int 0, .int (-1), .ref m3, .int (0 + 1), .ref m5, .ref m6, .ref m7, .ref m8, .ref m9, .ref m10, .ref m11, .ref m12, .ref m13, .ref m14, .ref m15, .ref m16, .ref m17, .ref m18, .ref m19, .ref m20, .int 0, .ref m22, .ref m23, .ref m24, .ref m25, .ref m26, .ref m27, .int 0, .ref m29])) from rfl), rd_pre hPc hKc⟩ rfl rfl hl.1 rfl (lv_room (Nat.le_of_ble_eq_true rfl)) d_LW_law_214 ⟨Nat.le_of_ble_eq_true rfl, Nat.le_of_ble_eq_true rfl⟩) ?_
    refine W.eq (g2 := F0 m 217 ls [.int 0]) rfl ?_
    refine lv_iload hx hb d_LW_law_217 (lv_at hl 1 rfl) ?_
    refine lv_icmp_eq (tgt := 224) hx hb d_LW_law_219 (by decide) (fun _ => ?_) (fun h9 => absurd (rfl) h9)
    refine lv_iload hx hb d_LW_law_224 (lv_at hl 1 rfl) ?_
    refine lv_if_ne (tgt := 241) hx hb d_LW_law_226 (by decide) (fun h9 => absurd (rfl) h9) (fun _ => ?_)
    refine lv_aload_n hx hb d_LW_law_229 rfl (lv_at hl 3 rfl) ?_
    refine lv_iconst (v := 0) hx hb d_LW_law_230 (by decide) ?_
    refine va_lald hx hb hK hP 6 10 rfl rfl (show vp_in (nI 0) 1 from vp_in_nI (by decide) (by decide)) d_LW_law_231 ?_
    refine W.eq (g2 := F0 m 232 ls [.long (((vp_updL (fun _ => 0) (0 : Int32).toNatClampNeg (0 : Int32).toInt64)) (0 : Int32).toNatClampNeg)]) rfl ?_
    refine lv_iload hx hb d_LW_law_232 (lv_at hl 0 rfl) ?_
    refine lv_i2l hx hb d_LW_law_234 rfl ?_
    refine W.lcmp hx hb d_LW_law_235 ?_
    refine lv_if_eq (tgt := 241) hx hb d_LW_law_236 (by decide) (fun _ => ?_) (fun h9 => absurd ((lg_cmp_eq _ _).mpr pk_uLs) h9)
    refine lv_goto (tgt := 1228) hx hb d_LW_law_241 (by decide) ?_
    have hl := lv_sub hl [2, 6] (l' := [(4, .int 0), (0, .ref b)]) rfl
    exact tl_end hx hb hr hlocks hbl hbA hAB hX (Nat.le_of_ble_eq_true rfl) (Nat.le_of_ble_eq_true rfl) hS hl
  · refine lv_aload_n hx hb d_LW_law_140 rfl (lv_at hl 3 rfl) ?_
    refine lv_aload_n hx hb d_LW_law_141 rfl (lv_at hl 4 rfl) ?_
    refine lv_iload hx hb d_LW_law_142 (lv_at hl 0 rfl) ?_
    refine lv_iconst (v := 1) hx hb d_LW_law_144 (by decide) ?_
    refine lv_iadd hx hb d_LW_law_145 ?_
    refine lv_topi (fun v11 ev11 => ?_)
    obtain rfl : v11 = 1 := ev11.trans (by decide)
    refine va_sld hx hb hX hbl hbA hS (show vp_in (nI 1) 6 from vp_in_nI (by decide) (by decide)) d_LW_law_146 ?_
    refine W.eq (g2 := F0 m 147 ls [.int (xs 1), .ref h0]) rfl ?_
    refine lv_aload_n hx hb d_LW_law_147 rfl (lv_at hl 4 rfl) ?_
    refine lv_iload hx hb d_LW_law_148 (lv_at hl 0 rfl) ?_
    refine lv_iconst (v := 2) hx hb d_LW_law_150 (by decide) ?_
    refine lv_iadd hx hb d_LW_law_151 ?_
    refine lv_topi (fun v12 ev12 => ?_)
    obtain rfl : v12 = 2 := ev12.trans (by decide)
    refine va_sld hx hb hX hbl hbA hS (show vp_in (nI 2) 6 from vp_in_nI (by decide) (by decide)) d_LW_law_152 ?_
    refine W.eq (g2 := F0 m 153 ls [.int (xs 2), .int (xs 1), .ref h0]) rfl ?_
    refine lv_aload_n hx hb d_LW_law_153 rfl (lv_at hl 4 rfl) ?_
    refine lv_iload hx hb d_LW_law_154 (lv_at hl 0 rfl) ?_
    refine lv_iconst (v := 3) hx hb d_LW_law_156 (by decide) ?_
    refine lv_iadd hx hb d_LW_law_157 ?_
    refine lv_topi (fun v13 ev13 => ?_)
    obtain rfl : v13 = 3 := ev13.trans (by decide)
    refine va_sld hx hb hX hbl hbA hS (show vp_in (nI 3) 6 from vp_in_nI (by decide) (by decide)) d_LW_law_158 ?_
    refine W.eq (g2 := F0 m 159 ls [.int (xs 3), .int (xs 2), .int (xs 1), .ref h0]) rfl ?_
    refine lv_aload_n hx hb d_LW_law_159 rfl (lv_at hl 4 rfl) ?_
    refine lv_iload hx hb d_LW_law_160 (lv_at hl 0 rfl) ?_
    refine lv_iconst (v := 4) hx hb d_LW_law_162 (by decide) ?_
    refine lv_iadd hx hb d_LW_law_163 ?_
    refine lv_topi (fun v14 ev14 => ?_)
    obtain rfl : v14 = 4 := ev14.trans (by decide)
    refine va_sld hx hb hX hbl hbA hS (show vp_in (nI 4) 6 from vp_in_nI (by decide) (by decide)) d_LW_law_164 ?_
    refine W.eq (g2 := F0 m 165 ls [.int (xs 4), .int (xs 3), .int (xs 2), .int (xs 1), .ref h0]) rfl ?_
    refine lv_aload_n hx hb d_LW_law_165 rfl (lv_at hl 4 rfl) ?_
    refine lv_iload hx hb d_LW_law_166 (lv_at hl 0 rfl) ?_
    refine lv_iconst (v := 5) hx hb d_LW_law_168 (by decide) ?_
    refine lv_iadd hx hb d_LW_law_169 ?_
    refine lv_topi (fun v15 ev15 => ?_)
    obtain rfl : v15 = 5 := ev15.trans (by decide)
    refine va_sld hx hb hX hbl hbA hS (show vp_in (nI 5) 6 from vp_in_nI (by decide) (by decide)) d_LW_law_170 ?_
    refine W.eq (g2 := F0 m 171 ls [.int (xs 5), .int (xs 4), .int (xs 3), .int (xs 2), .int (xs 1), .ref h0]) rfl ?_
    refine lv_aload_n hx hb d_LW_law_171 rfl (lv_at hl 1 rfl) ?_
    have hPc := hP.sub (ws' := [(h0, .inr (0, [.ref rq, .ref oa, .ref pl, .ref dk, .ref rw, .int 0, .int 0, .int (-1)]))]) [0] rfl
    have hKc := hK.sub (tys' := []) [] rfl
    have hDc := hD.sub (ws' := [(h0, .inr (0, [.ref rq, .ref oa, .ref pl, .ref dk, .ref rw, .int 0, .int 0, .int (-1)]))]) [0] (by decide) rfl
    have hFc := va_free (wc := [(h0, .inr (0, [.ref rq, .ref oa, .ref pl, .ref dk, .ref rw, .int 0, .int 0, .int (-1)]))]) hD hS hA [0] rfl
    refine fr_call (tw_runSW (As := [.ref h0, .int (xs 1), .int (xs 2), .int (xs 3), .int (xs 4), .int (xs 5), .ref ou]) (rest := []) ⟨hx, hb, hml, hown, ht⟩ (c_LW_request_bad l dC dI H.size s.heap.size hl9 h0 rq oa pl dk rw ou (xs 1) (xs 2) (xs 3) (xs 4) (xs 5) hv) rfl rfl ⟨Nat.le_of_ble_eq_true rfl, Nat.le_of_ble_eq_true rfl⟩ (pay_in ht (gW tb_263)) (show _ ∈ w_LW_request from List.mem_cons_self) (ht _ tb_261) (ht _ tb_262) (ht _ tb_0) (n := 7) (by decide +kernel) ⟨frP_blind, fr_pre hPc hKc hDc hAB hBs hS hV⟩ rfl rfl hl.1 rfl (lv_room (Nat.le_of_ble_eq_true rfl)) d_LW_law_172 ⟨Nat.le_of_ble_eq_true rfl, Nat.le_of_ble_eq_true rfl⟩) hS (fun q _ h => hFc q h) hFc (fun t H1 locs ht1 hvm hB1 hz1 hk1 hS => ?_)
    obtain ⟨hP1, hK1, hD1⟩ := hB1
    rw [ht1] at hP1
    have hK1 := va_K.moved hvm.symm hK1
    obtain ⟨hP, hD⟩ := va_join (wr := [(rq, .inl (k1, 40, .inr (.inr (.inr (.inr (fun _ => none)))))), (oa, .inl (k2, 8, .inl (fun _ => 0))), (pl, .inr (1, [.ref q9, .int 0])), (dk, .inr (2, [.ref d1, .ref d2, .ref d3, .ref d4])), (d1, .inl (k3, 24, .inl (fun _ => -1))), (rw, .inr (3, [.ref r1, .int 0, .int 0])), (g0, .inr (5, [.int 0, .int 0, .int (-1), .ref m3, .int 0, .ref m5, .ref m6, .ref m7, .ref m8, .ref m9, .ref m10, .ref m11, .ref m12, .ref m13, .ref m14, .ref m15, .ref m16, .ref m17, .ref m18, .ref m19, .ref m20, .int 0, .ref m22, .ref m23, .ref m24, .ref m25, .ref m26, .ref m27, .int 0, .ref m29])), (m3, .inl (j3, 8, .inl (fun _ => 0))), (m5, .inl (j5, 40, .inl (fun _ => 0))), (m6, .inl (j6, 40, .inl (fun _ => 0))), (m7, .inl (j7, 40, .inl (fun _ => 0))), (m8, .inl (j8, 40, .inl (fun _ => 0))), (m9, .inl (j9, 40, .inl (fun _ => 0))), (m10, .inl (j10, 40, .inl (fun _ => 0))), (ou, .inl (k4, 1, .inr (.inl (fun _ => 0))))]) (w1 := [(h0, .inr (0, [.ref rq, .ref oa, .ref pl, .ref dk, .ref rw, .int 0, .int 0, .int (-1)]))]) hP hD [0] [1, 2, 3, 4, 5, 6, 7, 8, 9, 10, 11, 12, 13, 14, 15] rfl rfl (by decide) (by decide) hk1 hFc hP1 hD1
    have hK := hK.app hK1
    generalize H1 = H at hP hS ⊢
    have hP : va_P (dC, dI) cls_ [(rq, .inl (k1, 40, .inr (.inr (.inr (.inr (fun _ => none)))))), (oa, .inl (k2, 8, .inl (fun _ => 0))), (pl, .inr (1, [.ref q9, .int 0])), (dk, .inr (2, [.ref d1, .ref d2, .ref d3, .ref d4])), (d1, .inl (k3, 24, .inl (fun _ => -1))), (rw, .inr (3, [.ref r1, .int 0, .int 0])), (g0, .inr (5, [.int 0, .int 0, .int (-1), .ref m3, .int 0, .ref m5, .ref m6, .ref m7, .ref m8, .ref m9, .ref m10, .ref m11, .ref m12, .ref m13, .ref m14, .ref m15, .ref m16, .ref m17, .ref m18, .ref m19, .ref m20, .int 0, .ref m22, .ref m23, .ref m24, .ref m25, .ref m26, .ref m27, .int 0, .ref m29])), (m3, .inl (j3, 8, .inl (fun _ => 0))), (m5, .inl (j5, 40, .inl (fun _ => 0))), (m6, .inl (j6, 40, .inl (fun _ => 0))), (m7, .inl (j7, 40, .inl (fun _ => 0))), (m8, .inl (j8, 40, .inl (fun _ => 0))), (m9, .inl (j9, 40, .inl (fun _ => 0))), (m10, .inl (j10, 40, .inl (fun _ => 0))), (ou, .inl (k4, 1, .inr (.inl (fun _ => 0)))), (h0, .inr (0, [.ref rq, .ref oa, .ref pl, .ref dk, .ref rw, .int 0, .int 0, .int (-1)]))] H := hP
    have hD : va_D A [(rq, .inl (k1, 40, .inr (.inr (.inr (.inr (fun _ => none)))))), (oa, .inl (k2, 8, .inl (fun _ => 0))), (pl, .inr (1, [.ref q9, .int 0])), (dk, .inr (2, [.ref d1, .ref d2, .ref d3, .ref d4])), (d1, .inl (k3, 24, .inl (fun _ => -1))), (rw, .inr (3, [.ref r1, .int 0, .int 0])), (g0, .inr (5, [.int 0, .int 0, .int (-1), .ref m3, .int 0, .ref m5, .ref m6, .ref m7, .ref m8, .ref m9, .ref m10, .ref m11, .ref m12, .ref m13, .ref m14, .ref m15, .ref m16, .ref m17, .ref m18, .ref m19, .ref m20, .int 0, .ref m22, .ref m23, .ref m24, .ref m25, .ref m26, .ref m27, .int 0, .ref m29])), (m3, .inl (j3, 8, .inl (fun _ => 0))), (m5, .inl (j5, 40, .inl (fun _ => 0))), (m6, .inl (j6, 40, .inl (fun _ => 0))), (m7, .inl (j7, 40, .inl (fun _ => 0))), (m8, .inl (j8, 40, .inl (fun _ => 0))), (m9, .inl (j9, 40, .inl (fun _ => 0))), (m10, .inl (j10, 40, .inl (fun _ => 0))), (ou, .inl (k4, 1, .inr (.inl (fun _ => 0)))), (h0, .inr (0, [.ref rq, .ref oa, .ref pl, .ref dk, .ref rw, .int 0, .int 0, .int (-1)]))] := hD
    have hK : va_K (dC, dI) cls_ [(k1, .object "TwinTuners$Request"), (k2, .int), (k3, .int), (j3, .int), (j5, .int), (j6, .int), (j7, .int), (j8, .int), (j9, .int), (j10, .int), (k4, .long)] s := hK
    refine W.eq (g2 := F0 m 175 ls [.int 1]) rfl ?_
    refine W.cs (cells' := 39) (slots' := 14130) rfl rfl ?_
    refine lv_istore hx hb d_LW_law_175 hl (by decide) rfl (fun ls hl => ?_)
    have hl : lv_has ls 8 [(5, .int 1), (4, .int 0), (3, .ref ou), (2, .ref g0), (1, .ref h0), (0, .ref b)] := hl
    refine lv_aload_n hx hb d_LW_law_177 rfl (lv_at hl 3 rfl) ?_
    refine lv_aload_n hx hb d_LW_law_178 rfl (lv_at hl 5 rfl) ?_
    refine lv_iload hx hb d_LW_law_179 (lv_at hl 1 rfl) ?_
    refine lv_iconst (v := 1) hx hb d_LW_law_181 (by decide) ?_
    refine lv_iadd hx hb d_LW_law_182 ?_
    refine lv_topi (fun v16 ev16 => ?_)
    obtain rfl : v16 = 1 := ev16.trans (by decide)
    refine va_sld hx hb hX hbl hbA hS (show vp_in (nI 1) 6 from vp_in_nI (by decide) (by decide)) d_LW_law_183 ?_
    refine W.eq (g2 := F0 m 184 ls [.int (xs 1), .ref g0]) rfl ?_
    refine lv_aload_n hx hb d_LW_law_184 rfl (lv_at hl 5 rfl) ?_
    refine lv_iload hx hb d_LW_law_185 (lv_at hl 1 rfl) ?_
    refine lv_iconst (v := 2) hx hb d_LW_law_187 (by decide) ?_
    refine lv_iadd hx hb d_LW_law_188 ?_
    refine lv_topi (fun v17 ev17 => ?_)
    obtain rfl : v17 = 2 := ev17.trans (by decide)
    refine va_sld hx hb hX hbl hbA hS (show vp_in (nI 2) 6 from vp_in_nI (by decide) (by decide)) d_LW_law_189 ?_
    refine W.eq (g2 := F0 m 190 ls [.int (xs 2), .int (xs 1), .ref g0]) rfl ?_
    refine lv_aload_n hx hb d_LW_law_190 rfl (lv_at hl 5 rfl) ?_
    refine lv_iload hx hb d_LW_law_191 (lv_at hl 1 rfl) ?_
    refine lv_iconst (v := 3) hx hb d_LW_law_193 (by decide) ?_
    refine lv_iadd hx hb d_LW_law_194 ?_
    refine lv_topi (fun v18 ev18 => ?_)
    obtain rfl : v18 = 3 := ev18.trans (by decide)
    refine va_sld hx hb hX hbl hbA hS (show vp_in (nI 3) 6 from vp_in_nI (by decide) (by decide)) d_LW_law_195 ?_
    refine W.eq (g2 := F0 m 196 ls [.int (xs 3), .int (xs 2), .int (xs 1), .ref g0]) rfl ?_
    refine lv_aload_n hx hb d_LW_law_196 rfl (lv_at hl 5 rfl) ?_
    refine lv_iload hx hb d_LW_law_197 (lv_at hl 1 rfl) ?_
    refine lv_iconst (v := 4) hx hb d_LW_law_199 (by decide) ?_
    refine lv_iadd hx hb d_LW_law_200 ?_
    refine lv_topi (fun v19 ev19 => ?_)
    obtain rfl : v19 = 4 := ev19.trans (by decide)
    refine va_sld hx hb hX hbl hbA hS (show vp_in (nI 4) 6 from vp_in_nI (by decide) (by decide)) d_LW_law_201 ?_
    refine W.eq (g2 := F0 m 202 ls [.int (xs 4), .int (xs 3), .int (xs 2), .int (xs 1), .ref g0]) rfl ?_
    refine lv_aload_n hx hb d_LW_law_202 rfl (lv_at hl 5 rfl) ?_
    refine lv_iload hx hb d_LW_law_203 (lv_at hl 1 rfl) ?_
    refine lv_iconst (v := 5) hx hb d_LW_law_205 (by decide) ?_
    refine lv_iadd hx hb d_LW_law_206 ?_
    refine lv_topi (fun v20 ev20 => ?_)
    obtain rfl : v20 = 5 := ev20.trans (by decide)
    refine va_sld hx hb hX hbl hbA hS (show vp_in (nI 5) 6 from vp_in_nI (by decide) (by decide)) d_LW_law_207 ?_
    refine W.eq (g2 := F0 m 208 ls [.int (xs 5), .int (xs 4), .int (xs 3), .int (xs 2), .int (xs 1), .ref g0]) rfl ?_
    have hPc := hP.sub (ws' := [(g0, .inr (5, [.int 0, .int 0, .int (-1), .ref m3, .int 0, .ref m5, .ref m6, .ref m7, .ref m8, .ref m9, .ref m10, .ref m11, .ref m12, .ref m13, .ref m14, .ref m15, .ref m16, .ref m17, .ref m18, .ref m19, .ref m20, .int 0, .ref m22, .ref m23, .ref m24, .ref m25, .ref m26, .ref m27, .int 0, .ref m29]))]) [6] rfl
    have hKc := hK.sub (tys' := []) [] rfl
    have hDc := hD.sub (ws' := [(g0, .inr (5, [.int 0, .int 0, .int (-1), .ref m3, .int 0, .ref m5, .ref m6, .ref m7, .ref m8, .ref m9, .ref m10, .ref m11, .ref m12, .ref m13, .ref m14, .ref m15, .ref m16, .ref m17, .ref m18, .ref m19, .ref m20, .int 0, .ref m22, .ref m23, .ref m24, .ref m25, .ref m26, .ref m27, .int 0, .ref m29]))]) [6] (by decide) rfl
    have hFc := va_free (wc := [(g0, .inr (5, [.int 0, .int 0, .int (-1), .ref m3, .int 0, .ref m5, .ref m6, .ref m7, .ref m8, .ref m9, .ref m10, .ref m11, .ref m12, .ref m13, .ref m14, .ref m15, .ref m16, .ref m17, .ref m18, .ref m19, .ref m20, .int 0, .ref m22, .ref m23, .ref m24, .ref m25, .ref m26, .ref m27, .int 0, .ref m29]))]) hD hS hA [6] rfl
    refine fr_call (va_runV (C := R_MO) (As := [.int (xs 1), .int (xs 2), .int (xs 3), .int (xs 4), .int (xs 5)]) (rest := []) ⟨hx, hb, hml, hown, ht⟩ (c_MO_request_bad l dC dI H.size s.heap.size g0 m3 m5 m6 m7 m8 m9 m10 m11 m12 m13 m14 m15 m16 m17 m18 m19 m20 m22 m23 m24 m25 m26 m27 m29 (xs 1) (xs 2) (xs 3) (xs 4) (xs 5) hv) (cwV 5 ht (gV tb_727 tb_728 tb_729 tb_5 tb_730) rfl rfl rfl (by decide +kernel) ⟨Nat.le_of_ble_eq_true rfl, Nat.le_of_ble_eq_true rfl⟩) ⟨frP_blind, va_recv (q := (R_MO, F_MO, 30)) hK hP rfl (show ([(rq, .inl (k1, 40, .inr (.inr (.inr (.inr (fun _ => none)))))), (oa, .inl (k2, 8, .inl (fun _ => 0))), (pl, .inr (1, [.ref q9, .int 0])), (dk, .inr (2, [.ref d1, .ref d2, .ref d3, .ref d4])), (d1, .inl (k3, 24, .inl (fun _ => -1))), (rw, .inr (3, [.ref r1, .int 0, .int 0])), (g0, .inr (5, [.int 0, .int 0, .int (-1), .ref m3, .int 0, .ref m5, .ref m6, .ref m7, .ref m8, .ref m9, .ref m10, .ref m11, .ref m12, .ref m13, .ref m14, .ref m15, .ref m16, .ref m17, .ref m18, .ref m19, .ref m20, .int 0, .ref m22, .ref m23, .ref m24, .ref m25, .ref m26, .ref m27, .int 0, .ref m29])), (m3, .inl (j3, 8, .inl (fun _ => 0))), (m5, .inl (j5, 40, .inl (fun _ => 0))), (m6, .inl (j6, 40, .inl (fun _ => 0))), (m7, .inl (j7, 40, .inl (fun _ => 0))), (m8, .inl (j8, 40, .inl (fun _ => 0))), (m9, .inl (j9, 40, .inl (fun _ => 0))), (m10, .inl (j10, 40, .inl (fun _ => 0))), (ou, .inl (k4, 1, .inr (.inl (fun _ => 0)))), (h0, .inr (0, [.ref rq, .ref oa, .ref pl, .ref dk, .ref rw, .int 0, .int 0, .int (-1)]))] : va_W)[6]? = some (g0, .inr (5, [.int 0, .int 0, .int (-1), .ref m3, .int 0, .ref m5, .ref m6, .ref m7, .ref m8, .ref m9, .ref m10, .ref m11, .ref m12, .ref m13, .ref m14, .ref m15, .ref m16, .ref m17, .ref m18, .ref m19, .ref m20, .int 0, .ref m22, .ref m23, .ref m24, .ref m25, .ref m26, .ref m27, .int 0, .ref m29])) from rfl), fr_pre hPc hKc hDc hAB hBs hS hV⟩ rfl rfl hl.1 rfl (lv_room (Nat.le_of_ble_eq_true rfl)) d_LW_law_208 ⟨Nat.le_of_ble_eq_true rfl, Nat.le_of_ble_eq_true rfl⟩) hS (fun q _ h => hFc q h) hFc (fun t H1 locs ht1 hvm hB1 hz1 hk1 hS => ?_)
    obtain ⟨hP1, hK1, hD1⟩ := hB1
    rw [ht1] at hP1
    have hK1 := va_K.moved hvm.symm hK1
    obtain ⟨hP, hD⟩ := va_join (wr := [(rq, .inl (k1, 40, .inr (.inr (.inr (.inr (fun _ => none)))))), (oa, .inl (k2, 8, .inl (fun _ => 0))), (pl, .inr (1, [.ref q9, .int 0])), (dk, .inr (2, [.ref d1, .ref d2, .ref d3, .ref d4])), (d1, .inl (k3, 24, .inl (fun _ => -1))), (rw, .inr (3, [.ref r1, .int 0, .int 0])), (m3, .inl (j3, 8, .inl (fun _ => 0))), (m5, .inl (j5, 40, .inl (fun _ => 0))), (m6, .inl (j6, 40, .inl (fun _ => 0))), (m7, .inl (j7, 40, .inl (fun _ => 0))), (m8, .inl (j8, 40, .inl (fun _ => 0))), (m9, .inl (j9, 40, .inl (fun _ => 0))), (m10, .inl (j10, 40, .inl (fun _ => 0))), (ou, .inl (k4, 1, .inr (.inl (fun _ => 0)))), (h0, .inr (0, [.ref rq, .ref oa, .ref pl, .ref dk, .ref rw, .int 0, .int 0, .int (-1)]))]) (w1 := [(g0, .inr (5, [.int 1, .int 0, .int (-1), .ref m3, .int 0, .ref m5, .ref m6, .ref m7, .ref m8, .ref m9, .ref m10, .ref m11, .ref m12, .ref m13, .ref m14, .ref m15, .ref m16, .ref m17, .ref m18, .ref m19, .ref m20, .int 0, .ref m22, .ref m23, .ref m24, .ref m25, .ref m26, .ref m27, .int 0, .ref m29]))]) hP hD [6] [0, 1, 2, 3, 4, 5, 7, 8, 9, 10, 11, 12, 13, 14, 15] rfl rfl (by decide) (by decide) hk1 hFc hP1 hD1
    have hK := hK.app hK1
    generalize H1 = H at hP hS ⊢
    have hP : va_P (dC, dI) cls_ [(rq, .inl (k1, 40, .inr (.inr (.inr (.inr (fun _ => none)))))), (oa, .inl (k2, 8, .inl (fun _ => 0))), (pl, .inr (1, [.ref q9, .int 0])), (dk, .inr (2, [.ref d1, .ref d2, .ref d3, .ref d4])), (d1, .inl (k3, 24, .inl (fun _ => -1))), (rw, .inr (3, [.ref r1, .int 0, .int 0])), (m3, .inl (j3, 8, .inl (fun _ => 0))), (m5, .inl (j5, 40, .inl (fun _ => 0))), (m6, .inl (j6, 40, .inl (fun _ => 0))), (m7, .inl (j7, 40, .inl (fun _ => 0))), (m8, .inl (j8, 40, .inl (fun _ => 0))), (m9, .inl (j9, 40, .inl (fun _ => 0))), (m10, .inl (j10, 40, .inl (fun _ => 0))), (ou, .inl (k4, 1, .inr (.inl (fun _ => 0)))), (h0, .inr (0, [.ref rq, .ref oa, .ref pl, .ref dk, .ref rw, .int 0, .int 0, .int (-1)])), (g0, .inr (5, [.int 1, .int 0, .int (-1), .ref m3, .int 0, .ref m5, .ref m6, .ref m7, .ref m8, .ref m9, .ref m10, .ref m11, .ref m12, .ref m13, .ref m14, .ref m15, .ref m16, .ref m17, .ref m18, .ref m19, .ref m20, .int 0, .ref m22, .ref m23, .ref m24, .ref m25, .ref m26, .ref m27, .int 0, .ref m29]))] H := hP
    have hD : va_D A [(rq, .inl (k1, 40, .inr (.inr (.inr (.inr (fun _ => none)))))), (oa, .inl (k2, 8, .inl (fun _ => 0))), (pl, .inr (1, [.ref q9, .int 0])), (dk, .inr (2, [.ref d1, .ref d2, .ref d3, .ref d4])), (d1, .inl (k3, 24, .inl (fun _ => -1))), (rw, .inr (3, [.ref r1, .int 0, .int 0])), (m3, .inl (j3, 8, .inl (fun _ => 0))), (m5, .inl (j5, 40, .inl (fun _ => 0))), (m6, .inl (j6, 40, .inl (fun _ => 0))), (m7, .inl (j7, 40, .inl (fun _ => 0))), (m8, .inl (j8, 40, .inl (fun _ => 0))), (m9, .inl (j9, 40, .inl (fun _ => 0))), (m10, .inl (j10, 40, .inl (fun _ => 0))), (ou, .inl (k4, 1, .inr (.inl (fun _ => 0)))), (h0, .inr (0, [.ref rq, .ref oa, .ref pl, .ref dk, .ref rw, .int 0, .int 0, .int (-1)])), (g0, .inr (5, [.int 1, .int 0, .int (-1), .ref m3, .int 0, .ref m5, .ref m6, .ref m7, .ref m8, .ref m9, .ref m10, .ref m11, .ref m12, .ref m13, .ref m14, .ref m15, .ref m16, .ref m17, .ref m18, .ref m19, .ref m20, .int 0, .ref m22, .ref m23, .ref m24, .ref m25, .ref m26, .ref m27, .int 0, .ref m29]))] := hD
    have hK : va_K (dC, dI) cls_ [(k1, .object "TwinTuners$Request"), (k2, .int), (k3, .int), (j3, .int), (j5, .int), (j6, .int), (j7, .int), (j8, .int), (j9, .int), (j10, .int), (k4, .long)] s := hK
    refine W.eq (g2 := F0 m 211 ls [.int 0]) rfl ?_
    refine W.cs (cells' := 39) (slots' := 14130) rfl rfl ?_
    refine lv_istore hx hb d_LW_law_211 hl (by decide) rfl (fun ls hl => ?_)
    have hl : lv_has ls 8 [(6, .int 0), (5, .int 1), (4, .int 0), (3, .ref ou), (2, .ref g0), (1, .ref h0), (0, .ref b)] := hl
    refine lv_aload_n hx hb d_LW_law_213 rfl (lv_at hl 4 rfl) ?_
    have hPc := hP.sub (ws' := [(g0, .inr (5, [.int 1, .int 0, .int (-1), .ref m3, .int 0, .ref m5, .ref m6, .ref m7, .ref m8, .ref m9, .ref m10, .ref m11, .ref m12, .ref m13, .ref m14, .ref m15, .ref m16, .ref m17, .ref m18, .ref m19, .ref m20, .int 0, .ref m22, .ref m23, .ref m24, .ref m25, .ref m26, .ref m27, .int 0, .ref m29]))]) [15] rfl
    have hKc := hK.sub (tys' := []) [] rfl
    refine rd_call (va_runV (C := R_MO) (As := []) (rest := []) ⟨hx, hb, hml, hown, ht⟩ (c_MO_thrown_v l dC dI g0 m3 m5 m6 m7 m8 m9 m10 m11 m12 m13 m14 m15 m16 m17 m18 m19 m20 m22 m23 m24 m25 m26 m27 m29 1 0 (-1) 0) (cwV 0 ht (gV tb_723 tb_724 tb_725 tb_5 tb_726) rfl rfl rfl (by decide +kernel) ⟨Nat.le_of_ble_eq_true rfl, Nat.le_of_ble_eq_true rfl⟩) ⟨rdP_blind, va_recv (q := (R_MO, F_MO, 30)) hK hP rfl (show ([(rq, .inl (k1, 40, .inr (.inr (.inr (.inr (fun _ => none)))))), (oa, .inl (k2, 8, .inl (fun _ => 0))), (pl, .inr (1, [.ref q9, .int 0])), (dk, .inr (2, [.ref d1, .ref d2, .ref d3, .ref d4])), (d1, .inl (k3, 24, .inl (fun _ => -1))), (rw, .inr (3, [.ref r1, .int 0, .int 0])), (m3, .inl (j3, 8, .inl (fun _ => 0))), (m5, .inl (j5, 40, .inl (fun _ => 0))), (m6, .inl (j6, 40, .inl (fun _ => 0))), (m7, .inl (j7, 40, .inl (fun _ => 0))), (m8, .inl (j8, 40, .inl (fun _ => 0))), (m9, .inl (j9, 40, .inl (fun _ => 0))), (m10, .inl (j10, 40, .inl (fun _ => 0))), (ou, .inl (k4, 1, .inr (.inl (fun _ => 0)))), (h0, .inr (0, [.ref rq, .ref oa, .ref pl, .ref dk, .ref rw, .int 0, .int 0, .int (-1)])), (g0, .inr (5, [.int 1, .int 0, .int (-1), .ref m3, .int 0, .ref m5, .ref m6, .ref m7, .ref m8, .ref m9, .ref m10, .ref m11, .ref m12, .ref m13, .ref m14, .ref m15, .ref m16, .ref m17, .ref m18, .ref m19, .ref m20, .int 0, .ref m22, .ref m23, .ref m24, .ref m25, .ref m26, .ref m27, .int 0, .ref m29]))] : va_W)[15]? = some (g0, .inr (5, [.int 1, .int 0, .int (-1), .ref m3, .int 0, .ref m5, .ref m6, .ref m7, .ref m8, .ref m9, .ref m10, .ref m11, .ref m12, .ref m13, .ref m14, .ref m15, .ref m16, .ref m17, .ref m18, .ref m19, .ref m20, .int 0, .ref m22, .ref m23, .ref m24, .ref m25, .ref m26, .ref m27, .int 0, .ref m29])) from rfl), rd_pre hPc hKc⟩ rfl rfl hl.1 rfl (lv_room (Nat.le_of_ble_eq_true rfl)) d_LW_law_214 ⟨Nat.le_of_ble_eq_true rfl, Nat.le_of_ble_eq_true rfl⟩) ?_
    refine W.eq (g2 := F0 m 217 ls [.int 1]) rfl ?_
    refine lv_iload hx hb d_LW_law_217 (lv_at hl 1 rfl) ?_
    refine lv_icmp_eq (tgt := 224) hx hb d_LW_law_219 (by decide) (fun _ => ?_) (fun h9 => absurd (rfl) h9)
    refine lv_iload hx hb d_LW_law_224 (lv_at hl 1 rfl) ?_
    refine lv_if_ne (tgt := 241) hx hb d_LW_law_226 (by decide) (fun _ => ?_) (fun h9 => absurd h9 (by decide))
    refine lv_goto (tgt := 1228) hx hb d_LW_law_241 (by decide) ?_
    have hl := lv_sub hl [2, 6] (l' := [(4, .int 0), (0, .ref b)]) rfl
    exact tl_end hx hb hr hlocks hbl hbA hAB hX (Nat.le_of_ble_eq_true rfl) (Nat.le_of_ble_eq_true rfl) hS hl
set_option maxHeartbeats 4000000 in
set_option maxRecDepth 100000 in
theorem cs_1 {p : Program} {l : Launch} {e : Env} {s : State} {m : MethodId} {below : List Frame} {meth : Method} {c : Code} {A : Nat → Prop} {b : Nat} {H : Heap} {locs : List Loc} {ls : Array Slot} {xs : Nat → Int32} (dC : Nat → ClassId) (dI : Nat → Nat → Nat) (h0 rq oa pl dk rw q9 d1 d2 d3 d4 r1 g0 m3 m5 m6 m7 m8 m9 m10 m11 m12 m13 m14 m15 m16 m17 m18 m19 m20 m22 m23 m24 m25 m26 m27 m29 ou : Nat) (k1 k2 k3 j3 j5 j6 j7 j8 j9 j10 k4 : ClassId) (hl9 : l.stackTraces = false) (hx : p.tables.exec = Jvm.exec) (hb : c.code = code) (hr : meth.sig.returnType = ret) (hlocks : meth.locks = false) (hbl : b < s.heap.size) (hbA : ¬ A b) (hAB : ∀ q, A q → s.heap.size ≤ q) (hX : va_X b 6 xs s s.heap) (hml : c.maxLocals = 8) (hown : s.vm.findClass R_LW = some m.cls) (ht : ∀ w ∈ tb_, w.before #[Value.ref b] s = true) (hA : ∀ q : Nat, s.heap.size ≤ q → A q) (hBs : s.heap.size ≤ s.heap.size) (hV : tw_V s.heap.size s s.heap)
    (hK : va_K (dC, dI) cls_ [(k1, .object "TwinTuners$Request"), (k2, .int), (k3, .int), (j3, .int), (j5, .int), (j6, .int), (j7, .int), (j8, .int), (j9, .int), (j10, .int), (k4, .long)] s) (hP : va_P (dC, dI) cls_ [(h0, .inr (0, [.ref rq, .ref oa, .ref pl, .ref dk, .ref rw, .int 0, .int 0, .int (-1)])), (rq, .inl (k1, 40, .inr (.inr (.inr (.inr (fun _ => none)))))), (oa, .inl (k2, 8, .inl (fun _ => 0))), (pl, .inr (1, [.ref q9, .int 0])), (dk, .inr (2, [.ref d1, .ref d2, .ref d3, .ref d4])), (d1, .inl (k3, 24, .inl (fun _ => -1))), (rw, .inr (3, [.ref r1, .int 0, .int 0])), (g0, .inr (5, [.int 0, .int 0, .int (-1), .ref m3, .int 0, .ref m5, .ref m6, .ref m7, .ref m8, .ref m9, .ref m10, .ref m11, .ref m12, .ref m13, .ref m14, .ref m15, .ref m16, .ref m17, .ref m18, .ref m19, .ref m20, .int 0, .ref m22, .ref m23, .ref m24, .ref m25, .ref m26, .ref m27, .int 0, .ref m29])), (m3, .inl (j3, 8, .inl (fun _ => 0))), (m5, .inl (j5, 40, .inl (fun _ => 0))), (m6, .inl (j6, 40, .inl (fun _ => 0))), (m7, .inl (j7, 40, .inl (fun _ => 0))), (m8, .inl (j8, 40, .inl (fun _ => 0))), (m9, .inl (j9, 40, .inl (fun _ => 0))), (m10, .inl (j10, 40, .inl (fun _ => 0))), (ou, .inl (k4, 1, .inr (.inl (fun _ => 0))))] H) (hD : va_D A [(h0, .inr (0, [.ref rq, .ref oa, .ref pl, .ref dk, .ref rw, .int 0, .int 0, .int (-1)])), (rq, .inl (k1, 40, .inr (.inr (.inr (.inr (fun _ => none)))))), (oa, .inl (k2, 8, .inl (fun _ => 0))), (pl, .inr (1, [.ref q9, .int 0])), (dk, .inr (2, [.ref d1, .ref d2, .ref d3, .ref d4])), (d1, .inl (k3, 24, .inl (fun _ => -1))), (rw, .inr (3, [.ref r1, .int 0, .int 0])), (g0, .inr (5, [.int 0, .int 0, .int (-1), .ref m3, .int 0, .ref m5, .ref m6, .ref m7, .ref m8, .ref m9, .ref m10, .ref m11, .ref m12, .ref m13, .ref m14, .ref m15, .ref m16, .ref m17, .ref m18, .ref m19, .ref m20, .int 0, .ref m22, .ref m23, .ref m24, .ref m25, .ref m26, .ref m27, .int 0, .ref m29])), (m3, .inl (j3, 8, .inl (fun _ => 0))), (m5, .inl (j5, 40, .inl (fun _ => 0))), (m6, .inl (j6, 40, .inl (fun _ => 0))), (m7, .inl (j7, 40, .inl (fun _ => 0))), (m8, .inl (j8, 40, .inl (fun _ => 0))), (m9, .inl (j9, 40, .inl (fun _ => 0))), (m10, .inl (j10, 40, .inl (fun _ => 0))), (ou, .inl (k4, 1, .inr (.inl (fun _ => 0))))]) (hS : va_S A s.heap H locs) (hl : lv_has ls 8 [(4, .int 0), (3, .ref ou), (2, .ref g0), (1, .ref h0), (0, .ref b)]) : W p l e room_1 s m #[Value.ref b] below meth c H locs 38 14124 (lw_Z below #[Value.ref b] s) (F0 m 244 ls []) := by
  refine lv_aload_n hx hb d_LW_law_244 rfl (lv_at hl 3 rfl) ?_
  refine lv_aload_n hx hb d_LW_law_245 rfl (lv_at hl 4 rfl) ?_
  refine lv_iload hx hb d_LW_law_246 (lv_at hl 0 rfl) ?_
  refine lv_iconst (v := 1) hx hb d_LW_law_248 (by decide) ?_
  refine lv_iadd hx hb d_LW_law_249 ?_
  refine lv_topi (fun v1 ev1 => ?_)
  obtain rfl : v1 = 1 := ev1.trans (by decide)
  refine va_sld hx hb hX hbl hbA hS (show vp_in (nI 1) 6 from vp_in_nI (by decide) (by decide)) d_LW_law_250 ?_
  refine W.eq (g2 := F0 m 251 ls [.int (xs 1), .ref h0]) rfl ?_
  have hPc := hP.sub (ws' := [(h0, .inr (0, [.ref rq, .ref oa, .ref pl, .ref dk, .ref rw, .int 0, .int 0, .int (-1)]))]) [0] rfl
  have hKc := hK.sub (tys' := []) [] rfl
  have hDc := hD.sub (ws' := [(h0, .inr (0, [.ref rq, .ref oa, .ref pl, .ref dk, .ref rw, .int 0, .int 0, .int (-1)]))]) [0] (by decide) rfl
  have hFc := va_free (wc := [(h0, .inr (0, [.ref rq, .ref oa, .ref pl, .ref dk, .ref rw, .int 0, .int 0, .int (-1)]))]) hD hS hA [0] rfl
  refine fr_call (tw_runSW (As := [.ref h0, .int (xs 1)]) (rest := []) ⟨hx, hb, hml, hown, ht⟩ (c_LW_cancel_bad l dC dI H.size s.heap.size hl9 h0 rq oa pl dk rw ou (xs 1)) rfl rfl ⟨Nat.le_of_ble_eq_true rfl, Nat.le_of_ble_eq_true rfl⟩ (pay_in ht (gW tb_450)) (show _ ∈ w_LW_cancel from List.mem_cons_self) (ht _ tb_448) (ht _ tb_449) (ht _ tb_0) (n := 2) (by decide +kernel) ⟨frP_blind, fr_pre hPc hKc hDc hAB hBs hS hV⟩ rfl rfl hl.1 rfl (lv_room (Nat.le_of_ble_eq_true rfl)) d_LW_law_251 ⟨Nat.le_of_ble_eq_true rfl, Nat.le_of_ble_eq_true rfl⟩) hS (fun q _ h => hFc q h) hFc (fun t H1 locs ht1 hvm hB1 hz1 hk1 hS => ?_)
  obtain ⟨hP1, hK1, hD1⟩ := hB1
  rw [ht1] at hP1
  have hK1 := va_K.moved hvm.symm hK1
  obtain ⟨hP, hD⟩ := va_join (wr := [(rq, .inl (k1, 40, .inr (.inr (.inr (.inr (fun _ => none)))))), (oa, .inl (k2, 8, .inl (fun _ => 0))), (pl, .inr (1, [.ref q9, .int 0])), (dk, .inr (2, [.ref d1, .ref d2, .ref d3, .ref d4])), (d1, .inl (k3, 24, .inl (fun _ => -1))), (rw, .inr (3, [.ref r1, .int 0, .int 0])), (g0, .inr (5, [.int 0, .int 0, .int (-1), .ref m3, .int 0, .ref m5, .ref m6, .ref m7, .ref m8, .ref m9, .ref m10, .ref m11, .ref m12, .ref m13, .ref m14, .ref m15, .ref m16, .ref m17, .ref m18, .ref m19, .ref m20, .int 0, .ref m22, .ref m23, .ref m24, .ref m25, .ref m26, .ref m27, .int 0, .ref m29])), (m3, .inl (j3, 8, .inl (fun _ => 0))), (m5, .inl (j5, 40, .inl (fun _ => 0))), (m6, .inl (j6, 40, .inl (fun _ => 0))), (m7, .inl (j7, 40, .inl (fun _ => 0))), (m8, .inl (j8, 40, .inl (fun _ => 0))), (m9, .inl (j9, 40, .inl (fun _ => 0))), (m10, .inl (j10, 40, .inl (fun _ => 0))), (ou, .inl (k4, 1, .inr (.inl (fun _ => 0))))]) (w1 := [(h0, .inr (0, [.ref rq, .ref oa, .ref pl, .ref dk, .ref rw, .int 0, .int 0, .int (-1)]))]) hP hD [0] [1, 2, 3, 4, 5, 6, 7, 8, 9, 10, 11, 12, 13, 14, 15] rfl rfl (by decide) (by decide) hk1 hFc hP1 hD1
  have hK := hK.app hK1
  generalize H1 = H at hP hS ⊢
  have hP : va_P (dC, dI) cls_ [(rq, .inl (k1, 40, .inr (.inr (.inr (.inr (fun _ => none)))))), (oa, .inl (k2, 8, .inl (fun _ => 0))), (pl, .inr (1, [.ref q9, .int 0])), (dk, .inr (2, [.ref d1, .ref d2, .ref d3, .ref d4])), (d1, .inl (k3, 24, .inl (fun _ => -1))), (rw, .inr (3, [.ref r1, .int 0, .int 0])), (g0, .inr (5, [.int 0, .int 0, .int (-1), .ref m3, .int 0, .ref m5, .ref m6, .ref m7, .ref m8, .ref m9, .ref m10, .ref m11, .ref m12, .ref m13, .ref m14, .ref m15, .ref m16, .ref m17, .ref m18, .ref m19, .ref m20, .int 0, .ref m22, .ref m23, .ref m24, .ref m25, .ref m26, .ref m27, .int 0, .ref m29])), (m3, .inl (j3, 8, .inl (fun _ => 0))), (m5, .inl (j5, 40, .inl (fun _ => 0))), (m6, .inl (j6, 40, .inl (fun _ => 0))), (m7, .inl (j7, 40, .inl (fun _ => 0))), (m8, .inl (j8, 40, .inl (fun _ => 0))), (m9, .inl (j9, 40, .inl (fun _ => 0))), (m10, .inl (j10, 40, .inl (fun _ => 0))), (ou, .inl (k4, 1, .inr (.inl (fun _ => 0)))), (h0, .inr (0, [.ref rq, .ref oa, .ref pl, .ref dk, .ref rw, .int 0, .int 0, .int (-1)]))] H := hP
  have hD : va_D A [(rq, .inl (k1, 40, .inr (.inr (.inr (.inr (fun _ => none)))))), (oa, .inl (k2, 8, .inl (fun _ => 0))), (pl, .inr (1, [.ref q9, .int 0])), (dk, .inr (2, [.ref d1, .ref d2, .ref d3, .ref d4])), (d1, .inl (k3, 24, .inl (fun _ => -1))), (rw, .inr (3, [.ref r1, .int 0, .int 0])), (g0, .inr (5, [.int 0, .int 0, .int (-1), .ref m3, .int 0, .ref m5, .ref m6, .ref m7, .ref m8, .ref m9, .ref m10, .ref m11, .ref m12, .ref m13, .ref m14, .ref m15, .ref m16, .ref m17, .ref m18, .ref m19, .ref m20, .int 0, .ref m22, .ref m23, .ref m24, .ref m25, .ref m26, .ref m27, .int 0, .ref m29])), (m3, .inl (j3, 8, .inl (fun _ => 0))), (m5, .inl (j5, 40, .inl (fun _ => 0))), (m6, .inl (j6, 40, .inl (fun _ => 0))), (m7, .inl (j7, 40, .inl (fun _ => 0))), (m8, .inl (j8, 40, .inl (fun _ => 0))), (m9, .inl (j9, 40, .inl (fun _ => 0))), (m10, .inl (j10, 40, .inl (fun _ => 0))), (ou, .inl (k4, 1, .inr (.inl (fun _ => 0)))), (h0, .inr (0, [.ref rq, .ref oa, .ref pl, .ref dk, .ref rw, .int 0, .int 0, .int (-1)]))] := hD
  have hK : va_K (dC, dI) cls_ [(k1, .object "TwinTuners$Request"), (k2, .int), (k3, .int), (j3, .int), (j5, .int), (j6, .int), (j7, .int), (j8, .int), (j9, .int), (j10, .int), (k4, .long)] s := hK
  refine W.eq (g2 := F0 m 254 ls [.int 1]) rfl ?_
  refine W.cs (cells' := 39) (slots' := 14130) rfl rfl ?_
  refine lv_istore hx hb d_LW_law_254 hl (by decide) rfl (fun ls hl => ?_)
  have hl : lv_has ls 8 [(5, .int 1), (4, .int 0), (3, .ref ou), (2, .ref g0), (1, .ref h0), (0, .ref b)] := hl
  refine lv_aload_n hx hb d_LW_law_256 rfl (lv_at hl 3 rfl) ?_
  refine lv_aload_n hx hb d_LW_law_257 rfl (lv_at hl 5 rfl) ?_
  refine lv_iload hx hb d_LW_law_258 (lv_at hl 1 rfl) ?_
  refine lv_iconst (v := 1) hx hb d_LW_law_260 (by decide) ?_
  refine lv_iadd hx hb d_LW_law_261 ?_
  refine lv_topi (fun v2 ev2 => ?_)
  obtain rfl : v2 = 1 := ev2.trans (by decide)
  refine va_sld hx hb hX hbl hbA hS (show vp_in (nI 1) 6 from vp_in_nI (by decide) (by decide)) d_LW_law_262 ?_
  refine W.eq (g2 := F0 m 263 ls [.int (xs 1), .ref g0]) rfl ?_
  have hPc := hP.sub (ws' := [(g0, .inr (5, [.int 0, .int 0, .int (-1), .ref m3, .int 0, .ref m5, .ref m6, .ref m7, .ref m8, .ref m9, .ref m10, .ref m11, .ref m12, .ref m13, .ref m14, .ref m15, .ref m16, .ref m17, .ref m18, .ref m19, .ref m20, .int 0, .ref m22, .ref m23, .ref m24, .ref m25, .ref m26, .ref m27, .int 0, .ref m29]))]) [6] rfl
  have hKc := hK.sub (tys' := []) [] rfl
  have hDc := hD.sub (ws' := [(g0, .inr (5, [.int 0, .int 0, .int (-1), .ref m3, .int 0, .ref m5, .ref m6, .ref m7, .ref m8, .ref m9, .ref m10, .ref m11, .ref m12, .ref m13, .ref m14, .ref m15, .ref m16, .ref m17, .ref m18, .ref m19, .ref m20, .int 0, .ref m22, .ref m23, .ref m24, .ref m25, .ref m26, .ref m27, .int 0, .ref m29]))]) [6] (by decide) rfl
  have hFc := va_free (wc := [(g0, .inr (5, [.int 0, .int 0, .int (-1), .ref m3, .int 0, .ref m5, .ref m6, .ref m7, .ref m8, .ref m9, .ref m10, .ref m11, .ref m12, .ref m13, .ref m14, .ref m15, .ref m16, .ref m17, .ref m18, .ref m19, .ref m20, .int 0, .ref m22, .ref m23, .ref m24, .ref m25, .ref m26, .ref m27, .int 0, .ref m29]))]) hD hS hA [6] rfl
  refine fr_call (va_runV (C := R_MO) (As := [.int (xs 1)]) (rest := []) ⟨hx, hb, hml, hown, ht⟩ (c_MO_cancel_bad l dC dI H.size s.heap.size g0 m3 m5 m6 m7 m8 m9 m10 m11 m12 m13 m14 m15 m16 m17 m18 m19 m20 m22 m23 m24 m25 m26 m27 m29 (xs 1)) (cwV 1 ht (gV tb_740 tb_741 tb_742 tb_5 tb_743) rfl rfl rfl (by decide +kernel) ⟨Nat.le_of_ble_eq_true rfl, Nat.le_of_ble_eq_true rfl⟩) ⟨frP_blind, va_recv (q := (R_MO, F_MO, 30)) hK hP rfl (show ([(rq, .inl (k1, 40, .inr (.inr (.inr (.inr (fun _ => none)))))), (oa, .inl (k2, 8, .inl (fun _ => 0))), (pl, .inr (1, [.ref q9, .int 0])), (dk, .inr (2, [.ref d1, .ref d2, .ref d3, .ref d4])), (d1, .inl (k3, 24, .inl (fun _ => -1))), (rw, .inr (3, [.ref r1, .int 0, .int 0])), (g0, .inr (5, [.int 0, .int 0, .int (-1), .ref m3, .int 0, .ref m5, .ref m6, .ref m7, .ref m8, .ref m9, .ref m10, .ref m11, .ref m12, .ref m13, .ref m14, .ref m15, .ref m16, .ref m17, .ref m18, .ref m19, .ref m20, .int 0, .ref m22, .ref m23, .ref m24, .ref m25, .ref m26, .ref m27, .int 0, .ref m29])), (m3, .inl (j3, 8, .inl (fun _ => 0))), (m5, .inl (j5, 40, .inl (fun _ => 0))), (m6, .inl (j6, 40, .inl (fun _ => 0))), (m7, .inl (j7, 40, .inl (fun _ => 0))), (m8, .inl (j8, 40, .inl (fun _ => 0))), (m9, .inl (j9, 40, .inl (fun _ => 0))), (m10, .inl (j10, 40, .inl (fun _ => 0))), (ou, .inl (k4, 1, .inr (.inl (fun _ => 0)))), (h0, .inr (0, [.ref rq, .ref oa, .ref pl, .ref dk, .ref rw, .int 0, .int 0, .int (-1)]))] : va_W)[6]? = some (g0, .inr (5, [.int 0, .int 0, .int (-1), .ref m3, .int 0, .ref m5, .ref m6, .ref m7, .ref m8, .ref m9, .ref m10, .ref m11, .ref m12, .ref m13, .ref m14, .ref m15, .ref m16, .ref m17, .ref m18, .ref m19, .ref m20, .int 0, .ref m22, .ref m23, .ref m24, .ref m25, .ref m26, .ref m27, .int 0, .ref m29])) from rfl), fr_pre hPc hKc hDc hAB hBs hS hV⟩ rfl rfl hl.1 rfl (lv_room (Nat.le_of_ble_eq_true rfl)) d_LW_law_263 ⟨Nat.le_of_ble_eq_true rfl, Nat.le_of_ble_eq_true rfl⟩) hS (fun q _ h => hFc q h) hFc (fun t H1 locs ht1 hvm hB1 hz1 hk1 hS => ?_)
  obtain ⟨hP1, hK1, hD1⟩ := hB1
  rw [ht1] at hP1
  have hK1 := va_K.moved hvm.symm hK1
  obtain ⟨hP, hD⟩ := va_join (wr := [(rq, .inl (k1, 40, .inr (.inr (.inr (.inr (fun _ => none)))))), (oa, .inl (k2, 8, .inl (fun _ => 0))), (pl, .inr (1, [.ref q9, .int 0])), (dk, .inr (2, [.ref d1, .ref d2, .ref d3, .ref d4])), (d1, .inl (k3, 24, .inl (fun _ => -1))), (rw, .inr (3, [.ref r1, .int 0, .int 0])), (m3, .inl (j3, 8, .inl (fun _ => 0))), (m5, .inl (j5, 40, .inl (fun _ => 0))), (m6, .inl (j6, 40, .inl (fun _ => 0))), (m7, .inl (j7, 40, .inl (fun _ => 0))), (m8, .inl (j8, 40, .inl (fun _ => 0))), (m9, .inl (j9, 40, .inl (fun _ => 0))), (m10, .inl (j10, 40, .inl (fun _ => 0))), (ou, .inl (k4, 1, .inr (.inl (fun _ => 0)))), (h0, .inr (0, [.ref rq, .ref oa, .ref pl, .ref dk, .ref rw, .int 0, .int 0, .int (-1)]))]) (w1 := [(g0, .inr (5, [.int 1, .int 0, .int (-1), .ref m3, .int 0, .ref m5, .ref m6, .ref m7, .ref m8, .ref m9, .ref m10, .ref m11, .ref m12, .ref m13, .ref m14, .ref m15, .ref m16, .ref m17, .ref m18, .ref m19, .ref m20, .int 0, .ref m22, .ref m23, .ref m24, .ref m25, .ref m26, .ref m27, .int 0, .ref m29]))]) hP hD [6] [0, 1, 2, 3, 4, 5, 7, 8, 9, 10, 11, 12, 13, 14, 15] rfl rfl (by decide) (by decide) hk1 hFc hP1 hD1
  have hK := hK.app hK1
  generalize H1 = H at hP hS ⊢
  have hP : va_P (dC, dI) cls_ [(rq, .inl (k1, 40, .inr (.inr (.inr (.inr (fun _ => none)))))), (oa, .inl (k2, 8, .inl (fun _ => 0))), (pl, .inr (1, [.ref q9, .int 0])), (dk, .inr (2, [.ref d1, .ref d2, .ref d3, .ref d4])), (d1, .inl (k3, 24, .inl (fun _ => -1))), (rw, .inr (3, [.ref r1, .int 0, .int 0])), (m3, .inl (j3, 8, .inl (fun _ => 0))), (m5, .inl (j5, 40, .inl (fun _ => 0))), (m6, .inl (j6, 40, .inl (fun _ => 0))), (m7, .inl (j7, 40, .inl (fun _ => 0))), (m8, .inl (j8, 40, .inl (fun _ => 0))), (m9, .inl (j9, 40, .inl (fun _ => 0))), (m10, .inl (j10, 40, .inl (fun _ => 0))), (ou, .inl (k4, 1, .inr (.inl (fun _ => 0)))), (h0, .inr (0, [.ref rq, .ref oa, .ref pl, .ref dk, .ref rw, .int 0, .int 0, .int (-1)])), (g0, .inr (5, [.int 1, .int 0, .int (-1), .ref m3, .int 0, .ref m5, .ref m6, .ref m7, .ref m8, .ref m9, .ref m10, .ref m11, .ref m12, .ref m13, .ref m14, .ref m15, .ref m16, .ref m17, .ref m18, .ref m19, .ref m20, .int 0, .ref m22, .ref m23, .ref m24, .ref m25, .ref m26, .ref m27, .int 0, .ref m29]))] H := hP
  have hD : va_D A [(rq, .inl (k1, 40, .inr (.inr (.inr (.inr (fun _ => none)))))), (oa, .inl (k2, 8, .inl (fun _ => 0))), (pl, .inr (1, [.ref q9, .int 0])), (dk, .inr (2, [.ref d1, .ref d2, .ref d3, .ref d4])), (d1, .inl (k3, 24, .inl (fun _ => -1))), (rw, .inr (3, [.ref r1, .int 0, .int 0])), (m3, .inl (j3, 8, .inl (fun _ => 0))), (m5, .inl (j5, 40, .inl (fun _ => 0))), (m6, .inl (j6, 40, .inl (fun _ => 0))), (m7, .inl (j7, 40, .inl (fun _ => 0))), (m8, .inl (j8, 40, .inl (fun _ => 0))), (m9, .inl (j9, 40, .inl (fun _ => 0))), (m10, .inl (j10, 40, .inl (fun _ => 0))), (ou, .inl (k4, 1, .inr (.inl (fun _ => 0)))), (h0, .inr (0, [.ref rq, .ref oa, .ref pl, .ref dk, .ref rw, .int 0, .int 0, .int (-1)])), (g0, .inr (5, [.int 1, .int 0, .int (-1), .ref m3, .int 0, .ref m5, .ref m6, .ref m7, .ref m8, .ref m9, .ref m10, .ref m11, .ref m12, .ref m13, .ref m14, .ref m15, .ref m16, .ref m17, .ref m18, .ref m19, .ref m20, .int 0, .ref m22, .ref m23, .ref m24, .ref m25, .ref m26, .ref m27, .int 0, .ref m29]))] := hD
  have hK : va_K (dC, dI) cls_ [(k1, .object "TwinTuners$Request"), (k2, .int), (k3, .int), (j3, .int), (j5, .int), (j6, .int), (j7, .int), (j8, .int), (j9, .int), (j10, .int), (k4, .long)] s := hK
  refine W.eq (g2 := F0 m 266 ls []) rfl ?_
  refine W.cs (cells' := 39) (slots' := 14130) rfl rfl ?_
  refine lv_aload_n hx hb d_LW_law_266 rfl (lv_at hl 3 rfl) ?_
  have hPc := hP.sub (ws' := [(g0, .inr (5, [.int 1, .int 0, .int (-1), .ref m3, .int 0, .ref m5, .ref m6, .ref m7, .ref m8, .ref m9, .ref m10, .ref m11, .ref m12, .ref m13, .ref m14, .ref m15, .ref m16, .ref m17, .ref m18, .ref m19, .ref m20, .int 0, .ref m22, .ref m23, .ref m24, .ref m25, .ref m26, .ref m27, .int 0, .ref m29]))]) [15] rfl
  have hKc := hK.sub (tys' := []) [] rfl
  refine rd_call (va_runV (C := R_MO) (As := []) (rest := []) ⟨hx, hb, hml, hown, ht⟩ (c_MO_thrown_v l dC dI g0 m3 m5 m6 m7 m8 m9 m10 m11 m12 m13 m14 m15 m16 m17 m18 m19 m20 m22 m23 m24 m25 m26 m27 m29 1 0 (-1) 0) (cwV 0 ht (gV tb_723 tb_724 tb_725 tb_5 tb_726) rfl rfl rfl (by decide +kernel) ⟨Nat.le_of_ble_eq_true rfl, Nat.le_of_ble_eq_true rfl⟩) ⟨rdP_blind, va_recv (q := (R_MO, F_MO, 30)) hK hP rfl (show ([(rq, .inl (k1, 40, .inr (.inr (.inr (.inr (fun _ => none)))))), (oa, .inl (k2, 8, .inl (fun _ => 0))), (pl, .inr (1, [.ref q9, .int 0])), (dk, .inr (2, [.ref d1, .ref d2, .ref d3, .ref d4])), (d1, .inl (k3, 24, .inl (fun _ => -1))), (rw, .inr (3, [.ref r1, .int 0, .int 0])), (m3, .inl (j3, 8, .inl (fun _ => 0))), (m5, .inl (j5, 40, .inl (fun _ => 0))), (m6, .inl (j6, 40, .inl (fun _ => 0))), (m7, .inl (j7, 40, .inl (fun _ => 0))), (m8, .inl (j8, 40, .inl (fun _ => 0))), (m9, .inl (j9, 40, .inl (fun _ => 0))), (m10, .inl (j10, 40, .inl (fun _ => 0))), (ou, .inl (k4, 1, .inr (.inl (fun _ => 0)))), (h0, .inr (0, [.ref rq, .ref oa, .ref pl, .ref dk, .ref rw, .int 0, .int 0, .int (-1)])), (g0, .inr (5, [.int 1, .int 0, .int (-1), .ref m3, .int 0, .ref m5, .ref m6, .ref m7, .ref m8, .ref m9, .ref m10, .ref m11, .ref m12, .ref m13, .ref m14, .ref m15, .ref m16, .ref m17, .ref m18, .ref m19, .ref m20, .int 0, .ref m22, .ref m23, .ref m24, .ref m25, .ref m26, .ref m27, .int 0, .ref m29]))] : va_W)[15]? = some (g0, .inr (5, [.int 1, .int 0, .int (-1), .ref m3, .int 0, .ref m5, .ref m6, .ref m7, .ref m8, .ref m9, .ref m10, .ref m11, .ref m12, .ref m13, .ref m14, .ref m15, .ref m16, .ref m17, .ref m18, .ref m19, .ref m20, .int 0, .ref m22, .ref m23, .ref m24, .ref m25, .ref m26, .ref m27, .int 0, .ref m29])) from rfl), rd_pre hPc hKc⟩ rfl rfl hl.1 rfl (lv_room (Nat.le_of_ble_eq_true rfl)) d_LW_law_267 ⟨Nat.le_of_ble_eq_true rfl, Nat.le_of_ble_eq_true rfl⟩) ?_
  refine W.eq (g2 := F0 m 270 ls [.int 1]) rfl ?_
  refine lv_iload hx hb d_LW_law_270 (lv_at hl 0 rfl) ?_
  refine lv_icmp_eq (tgt := 277) hx hb d_LW_law_272 (by decide) (fun _ => ?_) (fun h9 => absurd (rfl) h9)
  refine lv_goto (tgt := 1228) hx hb d_LW_law_277 (by decide) ?_
  have hl := lv_sub hl [1, 5] (l' := [(4, .int 0), (0, .ref b)]) rfl
  exact tl_end hx hb hr hlocks hbl hbA hAB hX (Nat.le_of_ble_eq_true rfl) (Nat.le_of_ble_eq_true rfl) hS hl
set_option maxHeartbeats 4000000 in
set_option maxRecDepth 100000 in
theorem cs_2 {p : Program} {l : Launch} {e : Env} {s : State} {m : MethodId} {below : List Frame} {meth : Method} {c : Code} {A : Nat → Prop} {b : Nat} {H : Heap} {locs : List Loc} {ls : Array Slot} {xs : Nat → Int32} (dC : Nat → ClassId) (dI : Nat → Nat → Nat) (h0 rq oa pl dk rw q9 d1 d2 d3 d4 r1 g0 m3 m5 m6 m7 m8 m9 m10 m11 m12 m13 m14 m15 m16 m17 m18 m19 m20 m22 m23 m24 m25 m26 m27 m29 ou : Nat) (k1 k2 k3 j3 j5 j6 j7 j8 j9 j10 k4 : ClassId) (hl9 : l.stackTraces = false) (hx : p.tables.exec = Jvm.exec) (hb : c.code = code) (hr : meth.sig.returnType = ret) (hlocks : meth.locks = false) (hbl : b < s.heap.size) (hbA : ¬ A b) (hAB : ∀ q, A q → s.heap.size ≤ q) (hX : va_X b 6 xs s s.heap) (hml : c.maxLocals = 8) (hown : s.vm.findClass R_LW = some m.cls) (ht : ∀ w ∈ tb_, w.before #[Value.ref b] s = true) (hA : ∀ q : Nat, s.heap.size ≤ q → A q) (hBs : s.heap.size ≤ s.heap.size) (hV : tw_V s.heap.size s s.heap)
    (hK : va_K (dC, dI) cls_ [(k1, .object "TwinTuners$Request"), (k2, .int), (k3, .int), (j3, .int), (j5, .int), (j6, .int), (j7, .int), (j8, .int), (j9, .int), (j10, .int), (k4, .long)] s) (hP : va_P (dC, dI) cls_ [(h0, .inr (0, [.ref rq, .ref oa, .ref pl, .ref dk, .ref rw, .int 0, .int 0, .int (-1)])), (rq, .inl (k1, 40, .inr (.inr (.inr (.inr (fun _ => none)))))), (oa, .inl (k2, 8, .inl (fun _ => 0))), (pl, .inr (1, [.ref q9, .int 0])), (dk, .inr (2, [.ref d1, .ref d2, .ref d3, .ref d4])), (d1, .inl (k3, 24, .inl (fun _ => -1))), (rw, .inr (3, [.ref r1, .int 0, .int 0])), (g0, .inr (5, [.int 0, .int 0, .int (-1), .ref m3, .int 0, .ref m5, .ref m6, .ref m7, .ref m8, .ref m9, .ref m10, .ref m11, .ref m12, .ref m13, .ref m14, .ref m15, .ref m16, .ref m17, .ref m18, .ref m19, .ref m20, .int 0, .ref m22, .ref m23, .ref m24, .ref m25, .ref m26, .ref m27, .int 0, .ref m29])), (m3, .inl (j3, 8, .inl (fun _ => 0))), (m5, .inl (j5, 40, .inl (fun _ => 0))), (m6, .inl (j6, 40, .inl (fun _ => 0))), (m7, .inl (j7, 40, .inl (fun _ => 0))), (m8, .inl (j8, 40, .inl (fun _ => 0))), (m9, .inl (j9, 40, .inl (fun _ => 0))), (m10, .inl (j10, 40, .inl (fun _ => 0))), (ou, .inl (k4, 1, .inr (.inl (fun _ => 0))))] H) (hD : va_D A [(h0, .inr (0, [.ref rq, .ref oa, .ref pl, .ref dk, .ref rw, .int 0, .int 0, .int (-1)])), (rq, .inl (k1, 40, .inr (.inr (.inr (.inr (fun _ => none)))))), (oa, .inl (k2, 8, .inl (fun _ => 0))), (pl, .inr (1, [.ref q9, .int 0])), (dk, .inr (2, [.ref d1, .ref d2, .ref d3, .ref d4])), (d1, .inl (k3, 24, .inl (fun _ => -1))), (rw, .inr (3, [.ref r1, .int 0, .int 0])), (g0, .inr (5, [.int 0, .int 0, .int (-1), .ref m3, .int 0, .ref m5, .ref m6, .ref m7, .ref m8, .ref m9, .ref m10, .ref m11, .ref m12, .ref m13, .ref m14, .ref m15, .ref m16, .ref m17, .ref m18, .ref m19, .ref m20, .int 0, .ref m22, .ref m23, .ref m24, .ref m25, .ref m26, .ref m27, .int 0, .ref m29])), (m3, .inl (j3, 8, .inl (fun _ => 0))), (m5, .inl (j5, 40, .inl (fun _ => 0))), (m6, .inl (j6, 40, .inl (fun _ => 0))), (m7, .inl (j7, 40, .inl (fun _ => 0))), (m8, .inl (j8, 40, .inl (fun _ => 0))), (m9, .inl (j9, 40, .inl (fun _ => 0))), (m10, .inl (j10, 40, .inl (fun _ => 0))), (ou, .inl (k4, 1, .inr (.inl (fun _ => 0))))]) (hS : va_S A s.heap H locs) (hl : lv_has ls 8 [(4, .int 0), (3, .ref ou), (2, .ref g0), (1, .ref h0), (0, .ref b)]) : W p l e room_1 s m #[Value.ref b] below meth c H locs 38 14124 (lw_Z below #[Value.ref b] s) (F0 m 280 ls []) := by
  refine lv_aload_n hx hb d_LW_law_280 rfl (lv_at hl 3 rfl) ?_
  refine lv_aload_n hx hb d_LW_law_281 rfl (lv_at hl 4 rfl) ?_
  refine lv_iload hx hb d_LW_law_282 (lv_at hl 0 rfl) ?_
  refine lv_iconst (v := 1) hx hb d_LW_law_284 (by decide) ?_
  refine lv_iadd hx hb d_LW_law_285 ?_
  refine lv_topi (fun v1 ev1 => ?_)
  obtain rfl : v1 = 1 := ev1.trans (by decide)
  refine va_sld hx hb hX hbl hbA hS (show vp_in (nI 1) 6 from vp_in_nI (by decide) (by decide)) d_LW_law_286 ?_
  refine W.eq (g2 := F0 m 287 ls [.int (xs 1), .ref h0]) rfl ?_
  refine lv_aload_n hx hb d_LW_law_287 rfl (lv_at hl 1 rfl) ?_
  have hPc := hP.sub (ws' := [(h0, .inr (0, [.ref rq, .ref oa, .ref pl, .ref dk, .ref rw, .int 0, .int 0, .int (-1)]))]) [0] rfl
  have hKc := hK.sub (tys' := []) [] rfl
  have hDc := hD.sub (ws' := [(h0, .inr (0, [.ref rq, .ref oa, .ref pl, .ref dk, .ref rw, .int 0, .int 0, .int (-1)]))]) [0] (by decide) rfl
  have hFc := va_free (wc := [(h0, .inr (0, [.ref rq, .ref oa, .ref pl, .ref dk, .ref rw, .int 0, .int 0, .int (-1)]))]) hD hS hA [0] rfl
  refine fr_call (tw_runSW (As := [.ref h0, .int (xs 1), .ref ou]) (rest := []) ⟨hx, hb, hml, hown, ht⟩ (c_LW_state_bad l dC dI H.size s.heap.size hl9 h0 rq oa pl dk rw ou (xs 1)) rfl rfl ⟨Nat.le_of_ble_eq_true rfl, Nat.le_of_ble_eq_true rfl⟩ (pay_in ht (gW tb_483)) (show _ ∈ w_LW_state from List.mem_cons_self) (ht _ tb_481) (ht _ tb_482) (ht _ tb_0) (n := 3) (by decide +kernel) ⟨frP_blind, fr_pre hPc hKc hDc hAB hBs hS hV⟩ rfl rfl hl.1 rfl (lv_room (Nat.le_of_ble_eq_true rfl)) d_LW_law_288 ⟨Nat.le_of_ble_eq_true rfl, Nat.le_of_ble_eq_true rfl⟩) hS (fun q _ h => hFc q h) hFc (fun t H1 locs ht1 hvm hB1 hz1 hk1 hS => ?_)
  obtain ⟨hP1, hK1, hD1⟩ := hB1
  rw [ht1] at hP1
  have hK1 := va_K.moved hvm.symm hK1
  obtain ⟨hP, hD⟩ := va_join (wr := [(rq, .inl (k1, 40, .inr (.inr (.inr (.inr (fun _ => none)))))), (oa, .inl (k2, 8, .inl (fun _ => 0))), (pl, .inr (1, [.ref q9, .int 0])), (dk, .inr (2, [.ref d1, .ref d2, .ref d3, .ref d4])), (d1, .inl (k3, 24, .inl (fun _ => -1))), (rw, .inr (3, [.ref r1, .int 0, .int 0])), (g0, .inr (5, [.int 0, .int 0, .int (-1), .ref m3, .int 0, .ref m5, .ref m6, .ref m7, .ref m8, .ref m9, .ref m10, .ref m11, .ref m12, .ref m13, .ref m14, .ref m15, .ref m16, .ref m17, .ref m18, .ref m19, .ref m20, .int 0, .ref m22, .ref m23, .ref m24, .ref m25, .ref m26, .ref m27, .int 0, .ref m29])), (m3, .inl (j3, 8, .inl (fun _ => 0))), (m5, .inl (j5, 40, .inl (fun _ => 0))), (m6, .inl (j6, 40, .inl (fun _ => 0))), (m7, .inl (j7, 40, .inl (fun _ => 0))), (m8, .inl (j8, 40, .inl (fun _ => 0))), (m9, .inl (j9, 40, .inl (fun _ => 0))), (m10, .inl (j10, 40, .inl (fun _ => 0))), (ou, .inl (k4, 1, .inr (.inl (fun _ => 0))))]) (w1 := [(h0, .inr (0, [.ref rq, .ref oa, .ref pl, .ref dk, .ref rw, .int 0, .int 0, .int (-1)]))]) hP hD [0] [1, 2, 3, 4, 5, 6, 7, 8, 9, 10, 11, 12, 13, 14, 15] rfl rfl (by decide) (by decide) hk1 hFc hP1 hD1
  have hK := hK.app hK1
  generalize H1 = H at hP hS ⊢
  have hP : va_P (dC, dI) cls_ [(rq, .inl (k1, 40, .inr (.inr (.inr (.inr (fun _ => none)))))), (oa, .inl (k2, 8, .inl (fun _ => 0))), (pl, .inr (1, [.ref q9, .int 0])), (dk, .inr (2, [.ref d1, .ref d2, .ref d3, .ref d4])), (d1, .inl (k3, 24, .inl (fun _ => -1))), (rw, .inr (3, [.ref r1, .int 0, .int 0])), (g0, .inr (5, [.int 0, .int 0, .int (-1), .ref m3, .int 0, .ref m5, .ref m6, .ref m7, .ref m8, .ref m9, .ref m10, .ref m11, .ref m12, .ref m13, .ref m14, .ref m15, .ref m16, .ref m17, .ref m18, .ref m19, .ref m20, .int 0, .ref m22, .ref m23, .ref m24, .ref m25, .ref m26, .ref m27, .int 0, .ref m29])), (m3, .inl (j3, 8, .inl (fun _ => 0))), (m5, .inl (j5, 40, .inl (fun _ => 0))), (m6, .inl (j6, 40, .inl (fun _ => 0))), (m7, .inl (j7, 40, .inl (fun _ => 0))), (m8, .inl (j8, 40, .inl (fun _ => 0))), (m9, .inl (j9, 40, .inl (fun _ => 0))), (m10, .inl (j10, 40, .inl (fun _ => 0))), (ou, .inl (k4, 1, .inr (.inl (fun _ => 0)))), (h0, .inr (0, [.ref rq, .ref oa, .ref pl, .ref dk, .ref rw, .int 0, .int 0, .int (-1)]))] H := hP
  have hD : va_D A [(rq, .inl (k1, 40, .inr (.inr (.inr (.inr (fun _ => none)))))), (oa, .inl (k2, 8, .inl (fun _ => 0))), (pl, .inr (1, [.ref q9, .int 0])), (dk, .inr (2, [.ref d1, .ref d2, .ref d3, .ref d4])), (d1, .inl (k3, 24, .inl (fun _ => -1))), (rw, .inr (3, [.ref r1, .int 0, .int 0])), (g0, .inr (5, [.int 0, .int 0, .int (-1), .ref m3, .int 0, .ref m5, .ref m6, .ref m7, .ref m8, .ref m9, .ref m10, .ref m11, .ref m12, .ref m13, .ref m14, .ref m15, .ref m16, .ref m17, .ref m18, .ref m19, .ref m20, .int 0, .ref m22, .ref m23, .ref m24, .ref m25, .ref m26, .ref m27, .int 0, .ref m29])), (m3, .inl (j3, 8, .inl (fun _ => 0))), (m5, .inl (j5, 40, .inl (fun _ => 0))), (m6, .inl (j6, 40, .inl (fun _ => 0))), (m7, .inl (j7, 40, .inl (fun _ => 0))), (m8, .inl (j8, 40, .inl (fun _ => 0))), (m9, .inl (j9, 40, .inl (fun _ => 0))), (m10, .inl (j10, 40, .inl (fun _ => 0))), (ou, .inl (k4, 1, .inr (.inl (fun _ => 0)))), (h0, .inr (0, [.ref rq, .ref oa, .ref pl, .ref dk, .ref rw, .int 0, .int 0, .int (-1)]))] := hD
  have hK : va_K (dC, dI) cls_ [(k1, .object "TwinTuners$Request"), (k2, .int), (k3, .int), (j3, .int), (j5, .int), (j6, .int), (j7, .int), (j8, .int), (j9, .int), (j10, .int), (k4, .long)] s := hK
  refine W.eq (g2 := F0 m 291 ls [.int 1]) rfl ?_
  refine W.cs (cells' := 39) (slots' := 14130) rfl rfl ?_
  refine lv_istore hx hb d_LW_law_291 hl (by decide) rfl (fun ls hl => ?_)
  have hl : lv_has ls 8 [(5, .int 1), (4, .int 0), (3, .ref ou), (2, .ref g0), (1, .ref h0), (0, .ref b)] := hl
  refine lv_aload_n hx hb d_LW_law_293 rfl (lv_at hl 3 rfl) ?_
  refine lv_aload_n hx hb d_LW_law_294 rfl (lv_at hl 5 rfl) ?_
  refine lv_iload hx hb d_LW_law_295 (lv_at hl 1 rfl) ?_
  refine lv_iconst (v := 1) hx hb d_LW_law_297 (by decide) ?_
  refine lv_iadd hx hb d_LW_law_298 ?_
  refine lv_topi (fun v2 ev2 => ?_)
  obtain rfl : v2 = 1 := ev2.trans (by decide)
  refine va_sld hx hb hX hbl hbA hS (show vp_in (nI 1) 6 from vp_in_nI (by decide) (by decide)) d_LW_law_299 ?_
  refine W.eq (g2 := F0 m 300 ls [.int (xs 1), .ref g0]) rfl ?_
  have hPc := hP.sub (ws' := [(g0, .inr (5, [.int 0, .int 0, .int (-1), .ref m3, .int 0, .ref m5, .ref m6, .ref m7, .ref m8, .ref m9, .ref m10, .ref m11, .ref m12, .ref m13, .ref m14, .ref m15, .ref m16, .ref m17, .ref m18, .ref m19, .ref m20, .int 0, .ref m22, .ref m23, .ref m24, .ref m25, .ref m26, .ref m27, .int 0, .ref m29]))]) [6] rfl
  have hKc := hK.sub (tys' := []) [] rfl
  have hDc := hD.sub (ws' := [(g0, .inr (5, [.int 0, .int 0, .int (-1), .ref m3, .int 0, .ref m5, .ref m6, .ref m7, .ref m8, .ref m9, .ref m10, .ref m11, .ref m12, .ref m13, .ref m14, .ref m15, .ref m16, .ref m17, .ref m18, .ref m19, .ref m20, .int 0, .ref m22, .ref m23, .ref m24, .ref m25, .ref m26, .ref m27, .int 0, .ref m29]))]) [6] (by decide) rfl
  have hFc := va_free (wc := [(g0, .inr (5, [.int 0, .int 0, .int (-1), .ref m3, .int 0, .ref m5, .ref m6, .ref m7, .ref m8, .ref m9, .ref m10, .ref m11, .ref m12, .ref m13, .ref m14, .ref m15, .ref m16, .ref m17, .ref m18, .ref m19, .ref m20, .int 0, .ref m22, .ref m23, .ref m24, .ref m25, .ref m26, .ref m27, .int 0, .ref m29]))]) hD hS hA [6] rfl
  refine fr_call (va_runV (C := R_MO) (As := [.int (xs 1)]) (rest := []) ⟨hx, hb, hml, hown, ht⟩ (c_MO_state_bad l dC dI H.size s.heap.size g0 m3 m5 m6 m7 m8 m9 m10 m11 m12 m13 m14 m15 m16 m17 m18 m19 m20 m22 m23 m24 m25 m26 m27 m29 (xs 1)) (cwV 1 ht (gV tb_748 tb_749 tb_750 tb_5 tb_751) rfl rfl rfl (by decide +kernel) ⟨Nat.le_of_ble_eq_true rfl, Nat.le_of_ble_eq_true rfl⟩) ⟨frP_blind, va_recv (q := (R_MO, F_MO, 30)) hK hP rfl (show ([(rq, .inl (k1, 40, .inr (.inr (.inr (.inr (fun _ => none)))))), (oa, .inl (k2, 8, .inl (fun _ => 0))), (pl, .inr (1, [.ref q9, .int 0])), (dk, .inr (2, [.ref d1, .ref d2, .ref d3, .ref d4])), (d1, .inl (k3, 24, .inl (fun _ => -1))), (rw, .inr (3, [.ref r1, .int 0, .int 0])), (g0, .inr (5, [.int 0, .int 0, .int (-1), .ref m3, .int 0, .ref m5, .ref m6, .ref m7, .ref m8, .ref m9, .ref m10, .ref m11, .ref m12, .ref m13, .ref m14, .ref m15, .ref m16, .ref m17, .ref m18, .ref m19, .ref m20, .int 0, .ref m22, .ref m23, .ref m24, .ref m25, .ref m26, .ref m27, .int 0, .ref m29])), (m3, .inl (j3, 8, .inl (fun _ => 0))), (m5, .inl (j5, 40, .inl (fun _ => 0))), (m6, .inl (j6, 40, .inl (fun _ => 0))), (m7, .inl (j7, 40, .inl (fun _ => 0))), (m8, .inl (j8, 40, .inl (fun _ => 0))), (m9, .inl (j9, 40, .inl (fun _ => 0))), (m10, .inl (j10, 40, .inl (fun _ => 0))), (ou, .inl (k4, 1, .inr (.inl (fun _ => 0)))), (h0, .inr (0, [.ref rq, .ref oa, .ref pl, .ref dk, .ref rw, .int 0, .int 0, .int (-1)]))] : va_W)[6]? = some (g0, .inr (5, [.int 0, .int 0, .int (-1), .ref m3, .int 0, .ref m5, .ref m6, .ref m7, .ref m8, .ref m9, .ref m10, .ref m11, .ref m12, .ref m13, .ref m14, .ref m15, .ref m16, .ref m17, .ref m18, .ref m19, .ref m20, .int 0, .ref m22, .ref m23, .ref m24, .ref m25, .ref m26, .ref m27, .int 0, .ref m29])) from rfl), fr_pre hPc hKc hDc hAB hBs hS hV⟩ rfl rfl hl.1 rfl (lv_room (Nat.le_of_ble_eq_true rfl)) d_LW_law_300 ⟨Nat.le_of_ble_eq_true rfl, Nat.le_of_ble_eq_true rfl⟩) hS (fun q _ h => hFc q h) hFc (fun t H1 locs ht1 hvm hB1 hz1 hk1 hS => ?_)
  obtain ⟨hP1, hK1, hD1⟩ := hB1
  rw [ht1] at hP1
  have hK1 := va_K.moved hvm.symm hK1
  obtain ⟨hP, hD⟩ := va_join (wr := [(rq, .inl (k1, 40, .inr (.inr (.inr (.inr (fun _ => none)))))), (oa, .inl (k2, 8, .inl (fun _ => 0))), (pl, .inr (1, [.ref q9, .int 0])), (dk, .inr (2, [.ref d1, .ref d2, .ref d3, .ref d4])), (d1, .inl (k3, 24, .inl (fun _ => -1))), (rw, .inr (3, [.ref r1, .int 0, .int 0])), (m3, .inl (j3, 8, .inl (fun _ => 0))), (m5, .inl (j5, 40, .inl (fun _ => 0))), (m6, .inl (j6, 40, .inl (fun _ => 0))), (m7, .inl (j7, 40, .inl (fun _ => 0))), (m8, .inl (j8, 40, .inl (fun _ => 0))), (m9, .inl (j9, 40, .inl (fun _ => 0))), (m10, .inl (j10, 40, .inl (fun _ => 0))), (ou, .inl (k4, 1, .inr (.inl (fun _ => 0)))), (h0, .inr (0, [.ref rq, .ref oa, .ref pl, .ref dk, .ref rw, .int 0, .int 0, .int (-1)]))]) (w1 := [(g0, .inr (5, [.int 1, .int 0, .int (-1), .ref m3, .int 0, .ref m5, .ref m6, .ref m7, .ref m8, .ref m9, .ref m10, .ref m11, .ref m12, .ref m13, .ref m14, .ref m15, .ref m16, .ref m17, .ref m18, .ref m19, .ref m20, .int 0, .ref m22, .ref m23, .ref m24, .ref m25, .ref m26, .ref m27, .int 0, .ref m29]))]) hP hD [6] [0, 1, 2, 3, 4, 5, 7, 8, 9, 10, 11, 12, 13, 14, 15] rfl rfl (by decide) (by decide) hk1 hFc hP1 hD1
  have hK := hK.app hK1
  generalize H1 = H at hP hS ⊢
  have hP : va_P (dC, dI) cls_ [(rq, .inl (k1, 40, .inr (.inr (.inr (.inr (fun _ => none)))))), (oa, .inl (k2, 8, .inl (fun _ => 0))), (pl, .inr (1, [.ref q9, .int 0])), (dk, .inr (2, [.ref d1, .ref d2, .ref d3, .ref d4])), (d1, .inl (k3, 24, .inl (fun _ => -1))), (rw, .inr (3, [.ref r1, .int 0, .int 0])), (m3, .inl (j3, 8, .inl (fun _ => 0))), (m5, .inl (j5, 40, .inl (fun _ => 0))), (m6, .inl (j6, 40, .inl (fun _ => 0))), (m7, .inl (j7, 40, .inl (fun _ => 0))), (m8, .inl (j8, 40, .inl (fun _ => 0))), (m9, .inl (j9, 40, .inl (fun _ => 0))), (m10, .inl (j10, 40, .inl (fun _ => 0))), (ou, .inl (k4, 1, .inr (.inl (fun _ => 0)))), (h0, .inr (0, [.ref rq, .ref oa, .ref pl, .ref dk, .ref rw, .int 0, .int 0, .int (-1)])), (g0, .inr (5, [.int 1, .int 0, .int (-1), .ref m3, .int 0, .ref m5, .ref m6, .ref m7, .ref m8, .ref m9, .ref m10, .ref m11, .ref m12, .ref m13, .ref m14, .ref m15, .ref m16, .ref m17, .ref m18, .ref m19, .ref m20, .int 0, .ref m22, .ref m23, .ref m24, .ref m25, .ref m26, .ref m27, .int 0, .ref m29]))] H := hP
  have hD : va_D A [(rq, .inl (k1, 40, .inr (.inr (.inr (.inr (fun _ => none)))))), (oa, .inl (k2, 8, .inl (fun _ => 0))), (pl, .inr (1, [.ref q9, .int 0])), (dk, .inr (2, [.ref d1, .ref d2, .ref d3, .ref d4])), (d1, .inl (k3, 24, .inl (fun _ => -1))), (rw, .inr (3, [.ref r1, .int 0, .int 0])), (m3, .inl (j3, 8, .inl (fun _ => 0))), (m5, .inl (j5, 40, .inl (fun _ => 0))), (m6, .inl (j6, 40, .inl (fun _ => 0))), (m7, .inl (j7, 40, .inl (fun _ => 0))), (m8, .inl (j8, 40, .inl (fun _ => 0))), (m9, .inl (j9, 40, .inl (fun _ => 0))), (m10, .inl (j10, 40, .inl (fun _ => 0))), (ou, .inl (k4, 1, .inr (.inl (fun _ => 0)))), (h0, .inr (0, [.ref rq, .ref oa, .ref pl, .ref dk, .ref rw, .int 0, .int 0, .int (-1)])), (g0, .inr (5, [.int 1, .int 0, .int (-1), .ref m3, .int 0, .ref m5, .ref m6, .ref m7, .ref m8, .ref m9, .ref m10, .ref m11, .ref m12, .ref m13, .ref m14, .ref m15, .ref m16, .ref m17, .ref m18, .ref m19, .ref m20, .int 0, .ref m22, .ref m23, .ref m24, .ref m25, .ref m26, .ref m27, .int 0, .ref m29]))] := hD
  have hK : va_K (dC, dI) cls_ [(k1, .object "TwinTuners$Request"), (k2, .int), (k3, .int), (j3, .int), (j5, .int), (j6, .int), (j7, .int), (j8, .int), (j9, .int), (j10, .int), (k4, .long)] s := hK
  refine W.eq (g2 := F0 m 303 ls [.int 0]) rfl ?_
  refine W.cs (cells' := 39) (slots' := 14130) rfl rfl ?_
  refine lv_istore hx hb d_LW_law_303 hl (by decide) rfl (fun ls hl => ?_)
  have hl : lv_has ls 8 [(6, .int 0), (5, .int 1), (4, .int 0), (3, .ref ou), (2, .ref g0), (1, .ref h0), (0, .ref b)] := hl
  refine lv_aload_n hx hb d_LW_law_305 rfl (lv_at hl 4 rfl) ?_
  have hPc := hP.sub (ws' := [(g0, .inr (5, [.int 1, .int 0, .int (-1), .ref m3, .int 0, .ref m5, .ref m6, .ref m7, .ref m8, .ref m9, .ref m10, .ref m11, .ref m12, .ref m13, .ref m14, .ref m15, .ref m16, .ref m17, .ref m18, .ref m19, .ref m20, .int 0, .ref m22, .ref m23, .ref m24, .ref m25, .ref m26, .ref m27, .int 0, .ref m29]))]) [15] rfl
  have hKc := hK.sub (tys' := []) [] rfl
  refine rd_call (va_runV (C := R_MO) (As := []) (rest := []) ⟨hx, hb, hml, hown, ht⟩ (c_MO_thrown_v l dC dI g0 m3 m5 m6 m7 m8 m9 m10 m11 m12 m13 m14 m15 m16 m17 m18 m19 m20 m22 m23 m24 m25 m26 m27 m29 1 0 (-1) 0) (cwV 0 ht (gV tb_723 tb_724 tb_725 tb_5 tb_726) rfl rfl rfl (by decide +kernel) ⟨Nat.le_of_ble_eq_true rfl, Nat.le_of_ble_eq_true rfl⟩) ⟨rdP_blind, va_recv (q := (R_MO, F_MO, 30)) hK hP rfl (show ([(rq, .inl (k1, 40, .inr (.inr (.inr (.inr (fun _ => none)))))), (oa, .inl (k2, 8, .inl (fun _ => 0))), (pl, .inr (1, [.ref q9, .int 0])), (dk, .inr (2, [.ref d1, .ref d2, .ref d3, .ref d4])), (d1, .inl (k3, 24, .inl (fun _ => -1))), (rw, .inr (3, [.ref r1, .int 0, .int 0])), (m3, .inl (j3, 8, .inl (fun _ => 0))), (m5, .inl (j5, 40, .inl (fun _ => 0))), (m6, .inl (j6, 40, .inl (fun _ => 0))), (m7, .inl (j7, 40, .inl (fun _ => 0))), (m8, .inl (j8, 40, .inl (fun _ => 0))), (m9, .inl (j9, 40, .inl (fun _ => 0))), (m10, .inl (j10, 40, .inl (fun _ => 0))), (ou, .inl (k4, 1, .inr (.inl (fun _ => 0)))), (h0, .inr (0, [.ref rq, .ref oa, .ref pl, .ref dk, .ref rw, .int 0, .int 0, .int (-1)])), (g0, .inr (5, [.int 1, .int 0, .int (-1), .ref m3, .int 0, .ref m5, .ref m6, .ref m7, .ref m8, .ref m9, .ref m10, .ref m11, .ref m12, .ref m13, .ref m14, .ref m15, .ref m16, .ref m17, .ref m18, .ref m19, .ref m20, .int 0, .ref m22, .ref m23, .ref m24, .ref m25, .ref m26, .ref m27, .int 0, .ref m29]))] : va_W)[15]? = some (g0, .inr (5, [.int 1, .int 0, .int (-1), .ref m3, .int 0, .ref m5, .ref m6, .ref m7, .ref m8, .ref m9, .ref m10, .ref m11, .ref m12, .ref m13, .ref m14, .ref m15, .ref m16, .ref m17, .ref m18, .ref m19, .ref m20, .int 0, .ref m22, .ref m23, .ref m24, .ref m25, .ref m26, .ref m27, .int 0, .ref m29])) from rfl), rd_pre hPc hKc⟩ rfl rfl hl.1 rfl (lv_room (Nat.le_of_ble_eq_true rfl)) d_LW_law_306 ⟨Nat.le_of_ble_eq_true rfl, Nat.le_of_ble_eq_true rfl⟩) ?_
  refine W.eq (g2 := F0 m 309 ls [.int 1]) rfl ?_
  refine lv_iload hx hb d_LW_law_309 (lv_at hl 1 rfl) ?_
  refine lv_icmp_eq (tgt := 316) hx hb d_LW_law_311 (by decide) (fun _ => ?_) (fun h9 => absurd (rfl) h9)
  refine lv_iload hx hb d_LW_law_316 (lv_at hl 1 rfl) ?_
  refine lv_if_ne (tgt := 333) hx hb d_LW_law_318 (by decide) (fun _ => ?_) (fun h9 => absurd h9 (by decide))
  refine lv_goto (tgt := 1228) hx hb d_LW_law_333 (by decide) ?_
  have hl := lv_sub hl [2, 6] (l' := [(4, .int 0), (0, .ref b)]) rfl
  exact tl_end hx hb hr hlocks hbl hbA hAB hX (Nat.le_of_ble_eq_true rfl) (Nat.le_of_ble_eq_true rfl) hS hl
set_option maxHeartbeats 4000000 in
set_option maxRecDepth 100000 in
theorem cs_3 {p : Program} {l : Launch} {e : Env} {s : State} {m : MethodId} {below : List Frame} {meth : Method} {c : Code} {A : Nat → Prop} {b : Nat} {H : Heap} {locs : List Loc} {ls : Array Slot} {xs : Nat → Int32} (dC : Nat → ClassId) (dI : Nat → Nat → Nat) (h0 rq oa pl dk rw q9 d1 d2 d3 d4 r1 g0 m3 m5 m6 m7 m8 m9 m10 m11 m12 m13 m14 m15 m16 m17 m18 m19 m20 m22 m23 m24 m25 m26 m27 m29 ou : Nat) (k1 k2 k3 j3 j5 j6 j7 j8 j9 j10 k4 : ClassId) (hl9 : l.stackTraces = false) (hx : p.tables.exec = Jvm.exec) (hb : c.code = code) (hr : meth.sig.returnType = ret) (hlocks : meth.locks = false) (hbl : b < s.heap.size) (hbA : ¬ A b) (hAB : ∀ q, A q → s.heap.size ≤ q) (hX : va_X b 6 xs s s.heap) (hml : c.maxLocals = 8) (hown : s.vm.findClass R_LW = some m.cls) (ht : ∀ w ∈ tb_, w.before #[Value.ref b] s = true) (hA : ∀ q : Nat, s.heap.size ≤ q → A q) (hBs : s.heap.size ≤ s.heap.size) (hV : tw_V s.heap.size s s.heap)
    (hK : va_K (dC, dI) cls_ [(k1, .object "TwinTuners$Request"), (k2, .int), (k3, .int), (j3, .int), (j5, .int), (j6, .int), (j7, .int), (j8, .int), (j9, .int), (j10, .int), (k4, .long)] s) (hP : va_P (dC, dI) cls_ [(h0, .inr (0, [.ref rq, .ref oa, .ref pl, .ref dk, .ref rw, .int 0, .int 0, .int (-1)])), (rq, .inl (k1, 40, .inr (.inr (.inr (.inr (fun _ => none)))))), (oa, .inl (k2, 8, .inl (fun _ => 0))), (pl, .inr (1, [.ref q9, .int 0])), (dk, .inr (2, [.ref d1, .ref d2, .ref d3, .ref d4])), (d1, .inl (k3, 24, .inl (fun _ => -1))), (rw, .inr (3, [.ref r1, .int 0, .int 0])), (g0, .inr (5, [.int 0, .int 0, .int (-1), .ref m3, .int 0, .ref m5, .ref m6, .ref m7, .ref m8, .ref m9, .ref m10, .ref m11, .ref m12, .ref m13, .ref m14, .ref m15, .ref m16, .ref m17, .ref m18, .ref m19, .ref m20, .int 0, .ref m22, .ref m23, .ref m24, .ref m25, .ref m26, .ref m27, .int 0, .ref m29])), (m3, .inl (j3, 8, .inl (fun _ => 0))), (m5, .inl (j5, 40, .inl (fun _ => 0))), (m6, .inl (j6, 40, .inl (fun _ => 0))), (m7, .inl (j7, 40, .inl (fun _ => 0))), (m8, .inl (j8, 40, .inl (fun _ => 0))), (m9, .inl (j9, 40, .inl (fun _ => 0))), (m10, .inl (j10, 40, .inl (fun _ => 0))), (ou, .inl (k4, 1, .inr (.inl (fun _ => 0))))] H) (hD : va_D A [(h0, .inr (0, [.ref rq, .ref oa, .ref pl, .ref dk, .ref rw, .int 0, .int 0, .int (-1)])), (rq, .inl (k1, 40, .inr (.inr (.inr (.inr (fun _ => none)))))), (oa, .inl (k2, 8, .inl (fun _ => 0))), (pl, .inr (1, [.ref q9, .int 0])), (dk, .inr (2, [.ref d1, .ref d2, .ref d3, .ref d4])), (d1, .inl (k3, 24, .inl (fun _ => -1))), (rw, .inr (3, [.ref r1, .int 0, .int 0])), (g0, .inr (5, [.int 0, .int 0, .int (-1), .ref m3, .int 0, .ref m5, .ref m6, .ref m7, .ref m8, .ref m9, .ref m10, .ref m11, .ref m12, .ref m13, .ref m14, .ref m15, .ref m16, .ref m17, .ref m18, .ref m19, .ref m20, .int 0, .ref m22, .ref m23, .ref m24, .ref m25, .ref m26, .ref m27, .int 0, .ref m29])), (m3, .inl (j3, 8, .inl (fun _ => 0))), (m5, .inl (j5, 40, .inl (fun _ => 0))), (m6, .inl (j6, 40, .inl (fun _ => 0))), (m7, .inl (j7, 40, .inl (fun _ => 0))), (m8, .inl (j8, 40, .inl (fun _ => 0))), (m9, .inl (j9, 40, .inl (fun _ => 0))), (m10, .inl (j10, 40, .inl (fun _ => 0))), (ou, .inl (k4, 1, .inr (.inl (fun _ => 0))))]) (hS : va_S A s.heap H locs) (hl : lv_has ls 8 [(4, .int 0), (3, .ref ou), (2, .ref g0), (1, .ref h0), (0, .ref b)]) : W p l e room_1 s m #[Value.ref b] below meth c H locs 38 14124 (lw_Z below #[Value.ref b] s) (F0 m 336 ls []) := by
  refine lv_aload_n hx hb d_LW_law_336 rfl (lv_at hl 3 rfl) ?_
  refine lv_aload_n hx hb d_LW_law_337 rfl (lv_at hl 4 rfl) ?_
  refine lv_iload hx hb d_LW_law_338 (lv_at hl 0 rfl) ?_
  refine lv_iconst (v := 1) hx hb d_LW_law_340 (by decide) ?_
  refine lv_iadd hx hb d_LW_law_341 ?_
  refine lv_topi (fun v1 ev1 => ?_)
  obtain rfl : v1 = 1 := ev1.trans (by decide)
  refine va_sld hx hb hX hbl hbA hS (show vp_in (nI 1) 6 from vp_in_nI (by decide) (by decide)) d_LW_law_342 ?_
  refine W.eq (g2 := F0 m 343 ls [.int (xs 1), .ref h0]) rfl ?_
  refine lv_aload_n hx hb d_LW_law_343 rfl (lv_at hl 1 rfl) ?_
  have hPc := hP.sub (ws' := [(h0, .inr (0, [.ref rq, .ref oa, .ref pl, .ref dk, .ref rw, .int 0, .int 0, .int (-1)]))]) [0] rfl
  have hKc := hK.sub (tys' := []) [] rfl
  have hDc := hD.sub (ws' := [(h0, .inr (0, [.ref rq, .ref oa, .ref pl, .ref dk, .ref rw, .int 0, .int 0, .int (-1)]))]) [0] (by decide) rfl
  have hFc := va_free (wc := [(h0, .inr (0, [.ref rq, .ref oa, .ref pl, .ref dk, .ref rw, .int 0, .int 0, .int (-1)]))]) hD hS hA [0] rfl
  refine fr_call (tw_runSW (As := [.ref h0, .int (xs 1), .ref ou]) (rest := []) ⟨hx, hb, hml, hown, ht⟩ (c_LW_planFrom_bad l dC dI H.size s.heap.size hl9 h0 rq oa pl dk rw ou (xs 1)) rfl rfl ⟨Nat.le_of_ble_eq_true rfl, Nat.le_of_ble_eq_true rfl⟩ (pay_in ht (gW tb_490)) (show _ ∈ w_LW_planFrom from List.mem_cons_self) (ht _ tb_488) (ht _ tb_489) (ht _ tb_0) (n := 3) (by decide +kernel) ⟨frP_blind, fr_pre hPc hKc hDc hAB hBs hS hV⟩ rfl rfl hl.1 rfl (lv_room (Nat.le_of_ble_eq_true rfl)) d_LW_law_344 ⟨Nat.le_of_ble_eq_true rfl, Nat.le_of_ble_eq_true rfl⟩) hS (fun q _ h => hFc q h) hFc (fun t H1 locs ht1 hvm hB1 hz1 hk1 hS => ?_)
  obtain ⟨hP1, hK1, hD1⟩ := hB1
  rw [ht1] at hP1
  have hK1 := va_K.moved hvm.symm hK1
  obtain ⟨hP, hD⟩ := va_join (wr := [(rq, .inl (k1, 40, .inr (.inr (.inr (.inr (fun _ => none)))))), (oa, .inl (k2, 8, .inl (fun _ => 0))), (pl, .inr (1, [.ref q9, .int 0])), (dk, .inr (2, [.ref d1, .ref d2, .ref d3, .ref d4])), (d1, .inl (k3, 24, .inl (fun _ => -1))), (rw, .inr (3, [.ref r1, .int 0, .int 0])), (g0, .inr (5, [.int 0, .int 0, .int (-1), .ref m3, .int 0, .ref m5, .ref m6, .ref m7, .ref m8, .ref m9, .ref m10, .ref m11, .ref m12, .ref m13, .ref m14, .ref m15, .ref m16, .ref m17, .ref m18, .ref m19, .ref m20, .int 0, .ref m22, .ref m23, .ref m24, .ref m25, .ref m26, .ref m27, .int 0, .ref m29])), (m3, .inl (j3, 8, .inl (fun _ => 0))), (m5, .inl (j5, 40, .inl (fun _ => 0))), (m6, .inl (j6, 40, .inl (fun _ => 0))), (m7, .inl (j7, 40, .inl (fun _ => 0))), (m8, .inl (j8, 40, .inl (fun _ => 0))), (m9, .inl (j9, 40, .inl (fun _ => 0))), (m10, .inl (j10, 40, .inl (fun _ => 0))), (ou, .inl (k4, 1, .inr (.inl (fun _ => 0))))]) (w1 := [(h0, .inr (0, [.ref rq, .ref oa, .ref pl, .ref dk, .ref rw, .int 0, .int 0, .int (-1)]))]) hP hD [0] [1, 2, 3, 4, 5, 6, 7, 8, 9, 10, 11, 12, 13, 14, 15] rfl rfl (by decide) (by decide) hk1 hFc hP1 hD1
  have hK := hK.app hK1
  generalize H1 = H at hP hS ⊢
  have hP : va_P (dC, dI) cls_ [(rq, .inl (k1, 40, .inr (.inr (.inr (.inr (fun _ => none)))))), (oa, .inl (k2, 8, .inl (fun _ => 0))), (pl, .inr (1, [.ref q9, .int 0])), (dk, .inr (2, [.ref d1, .ref d2, .ref d3, .ref d4])), (d1, .inl (k3, 24, .inl (fun _ => -1))), (rw, .inr (3, [.ref r1, .int 0, .int 0])), (g0, .inr (5, [.int 0, .int 0, .int (-1), .ref m3, .int 0, .ref m5, .ref m6, .ref m7, .ref m8, .ref m9, .ref m10, .ref m11, .ref m12, .ref m13, .ref m14, .ref m15, .ref m16, .ref m17, .ref m18, .ref m19, .ref m20, .int 0, .ref m22, .ref m23, .ref m24, .ref m25, .ref m26, .ref m27, .int 0, .ref m29])), (m3, .inl (j3, 8, .inl (fun _ => 0))), (m5, .inl (j5, 40, .inl (fun _ => 0))), (m6, .inl (j6, 40, .inl (fun _ => 0))), (m7, .inl (j7, 40, .inl (fun _ => 0))), (m8, .inl (j8, 40, .inl (fun _ => 0))), (m9, .inl (j9, 40, .inl (fun _ => 0))), (m10, .inl (j10, 40, .inl (fun _ => 0))), (ou, .inl (k4, 1, .inr (.inl (fun _ => 0)))), (h0, .inr (0, [.ref rq, .ref oa, .ref pl, .ref dk, .ref rw, .int 0, .int 0, .int (-1)]))] H := hP
  have hD : va_D A [(rq, .inl (k1, 40, .inr (.inr (.inr (.inr (fun _ => none)))))), (oa, .inl (k2, 8, .inl (fun _ => 0))), (pl, .inr (1, [.ref q9, .int 0])), (dk, .inr (2, [.ref d1, .ref d2, .ref d3, .ref d4])), (d1, .inl (k3, 24, .inl (fun _ => -1))), (rw, .inr (3, [.ref r1, .int 0, .int 0])), (g0, .inr (5, [.int 0, .int 0, .int (-1), .ref m3, .int 0, .ref m5, .ref m6, .ref m7, .ref m8, .ref m9, .ref m10, .ref m11, .ref m12, .ref m13, .ref m14, .ref m15, .ref m16, .ref m17, .ref m18, .ref m19, .ref m20, .int 0, .ref m22, .ref m23, .ref m24, .ref m25, .ref m26, .ref m27, .int 0, .ref m29])), (m3, .inl (j3, 8, .inl (fun _ => 0))), (m5, .inl (j5, 40, .inl (fun _ => 0))), (m6, .inl (j6, 40, .inl (fun _ => 0))), (m7, .inl (j7, 40, .inl (fun _ => 0))), (m8, .inl (j8, 40, .inl (fun _ => 0))), (m9, .inl (j9, 40, .inl (fun _ => 0))), (m10, .inl (j10, 40, .inl (fun _ => 0))), (ou, .inl (k4, 1, .inr (.inl (fun _ => 0)))), (h0, .inr (0, [.ref rq, .ref oa, .ref pl, .ref dk, .ref rw, .int 0, .int 0, .int (-1)]))] := hD
  have hK : va_K (dC, dI) cls_ [(k1, .object "TwinTuners$Request"), (k2, .int), (k3, .int), (j3, .int), (j5, .int), (j6, .int), (j7, .int), (j8, .int), (j9, .int), (j10, .int), (k4, .long)] s := hK
  refine W.eq (g2 := F0 m 347 ls [.int 1]) rfl ?_
  refine W.cs (cells' := 39) (slots' := 14130) rfl rfl ?_
  refine lv_istore hx hb d_LW_law_347 hl (by decide) rfl (fun ls hl => ?_)
  have hl : lv_has ls 8 [(5, .int 1), (4, .int 0), (3, .ref ou), (2, .ref g0), (1, .ref h0), (0, .ref b)] := hl
  refine lv_aload_n hx hb d_LW_law_349 rfl (lv_at hl 3 rfl) ?_
  refine lv_aload_n hx hb d_LW_law_350 rfl (lv_at hl 5 rfl) ?_
  refine lv_iload hx hb d_LW_law_351 (lv_at hl 1 rfl) ?_
  refine lv_iconst (v := 1) hx hb d_LW_law_353 (by decide) ?_
  refine lv_iadd hx hb d_LW_law_354 ?_
  refine lv_topi (fun v2 ev2 => ?_)
  obtain rfl : v2 = 1 := ev2.trans (by decide)
  refine va_sld hx hb hX hbl hbA hS (show vp_in (nI 1) 6 from vp_in_nI (by decide) (by decide)) d_LW_law_355 ?_
  refine W.eq (g2 := F0 m 356 ls [.int (xs 1), .ref g0]) rfl ?_
  have hPc := hP.sub (ws' := [(g0, .inr (5, [.int 0, .int 0, .int (-1), .ref m3, .int 0, .ref m5, .ref m6, .ref m7, .ref m8, .ref m9, .ref m10, .ref m11, .ref m12, .ref m13, .ref m14, .ref m15, .ref m16, .ref m17, .ref m18, .ref m19, .ref m20, .int 0, .ref m22, .ref m23, .ref m24, .ref m25, .ref m26, .ref m27, .int 0, .ref m29]))]) [6] rfl
  have hKc := hK.sub (tys' := []) [] rfl
  have hDc := hD.sub (ws' := [(g0, .inr (5, [.int 0, .int 0, .int (-1), .ref m3, .int 0, .ref m5, .ref m6, .ref m7, .ref m8, .ref m9, .ref m10, .ref m11, .ref m12, .ref m13, .ref m14, .ref m15, .ref m16, .ref m17, .ref m18, .ref m19, .ref m20, .int 0, .ref m22, .ref m23, .ref m24, .ref m25, .ref m26, .ref m27, .int 0, .ref m29]))]) [6] (by decide) rfl
  have hFc := va_free (wc := [(g0, .inr (5, [.int 0, .int 0, .int (-1), .ref m3, .int 0, .ref m5, .ref m6, .ref m7, .ref m8, .ref m9, .ref m10, .ref m11, .ref m12, .ref m13, .ref m14, .ref m15, .ref m16, .ref m17, .ref m18, .ref m19, .ref m20, .int 0, .ref m22, .ref m23, .ref m24, .ref m25, .ref m26, .ref m27, .int 0, .ref m29]))]) hD hS hA [6] rfl
  refine fr_call (va_runV (C := R_MO) (As := [.int (xs 1)]) (rest := []) ⟨hx, hb, hml, hown, ht⟩ (c_MO_planFrom_bad l dC dI H.size s.heap.size g0 m3 m5 m6 m7 m8 m9 m10 m11 m12 m13 m14 m15 m16 m17 m18 m19 m20 m22 m23 m24 m25 m26 m27 m29 (xs 1)) (cwV 1 ht (gV tb_752 tb_753 tb_754 tb_5 tb_755) rfl rfl rfl (by decide +kernel) ⟨Nat.le_of_ble_eq_true rfl, Nat.le_of_ble_eq_true rfl⟩) ⟨frP_blind, va_recv (q := (R_MO, F_MO, 30)) hK hP rfl (show ([(rq, .inl (k1, 40, .inr (.inr (.inr (.inr (fun _ => none)))))), (oa, .inl (k2, 8, .inl (fun _ => 0))), (pl, .inr (1, [.ref q9, .int 0])), (dk, .inr (2, [.ref d1, .ref d2, .ref d3, .ref d4])), (d1, .inl (k3, 24, .inl (fun _ => -1))), (rw, .inr (3, [.ref r1, .int 0, .int 0])), (g0, .inr (5, [.int 0, .int 0, .int (-1), .ref m3, .int 0, .ref m5, .ref m6, .ref m7, .ref m8, .ref m9, .ref m10, .ref m11, .ref m12, .ref m13, .ref m14, .ref m15, .ref m16, .ref m17, .ref m18, .ref m19, .ref m20, .int 0, .ref m22, .ref m23, .ref m24, .ref m25, .ref m26, .ref m27, .int 0, .ref m29])), (m3, .inl (j3, 8, .inl (fun _ => 0))), (m5, .inl (j5, 40, .inl (fun _ => 0))), (m6, .inl (j6, 40, .inl (fun _ => 0))), (m7, .inl (j7, 40, .inl (fun _ => 0))), (m8, .inl (j8, 40, .inl (fun _ => 0))), (m9, .inl (j9, 40, .inl (fun _ => 0))), (m10, .inl (j10, 40, .inl (fun _ => 0))), (ou, .inl (k4, 1, .inr (.inl (fun _ => 0)))), (h0, .inr (0, [.ref rq, .ref oa, .ref pl, .ref dk, .ref rw, .int 0, .int 0, .int (-1)]))] : va_W)[6]? = some (g0, .inr (5, [.int 0, .int 0, .int (-1), .ref m3, .int 0, .ref m5, .ref m6, .ref m7, .ref m8, .ref m9, .ref m10, .ref m11, .ref m12, .ref m13, .ref m14, .ref m15, .ref m16, .ref m17, .ref m18, .ref m19, .ref m20, .int 0, .ref m22, .ref m23, .ref m24, .ref m25, .ref m26, .ref m27, .int 0, .ref m29])) from rfl), fr_pre hPc hKc hDc hAB hBs hS hV⟩ rfl rfl hl.1 rfl (lv_room (Nat.le_of_ble_eq_true rfl)) d_LW_law_356 ⟨Nat.le_of_ble_eq_true rfl, Nat.le_of_ble_eq_true rfl⟩) hS (fun q _ h => hFc q h) hFc (fun t H1 locs ht1 hvm hB1 hz1 hk1 hS => ?_)
  obtain ⟨hP1, hK1, hD1⟩ := hB1
  rw [ht1] at hP1
  have hK1 := va_K.moved hvm.symm hK1
  obtain ⟨hP, hD⟩ := va_join (wr := [(rq, .inl (k1, 40, .inr (.inr (.inr (.inr (fun _ => none)))))), (oa, .inl (k2, 8, .inl (fun _ => 0))), (pl, .inr (1, [.ref q9, .int 0])), (dk, .inr (2, [.ref d1, .ref d2, .ref d3, .ref d4])), (d1, .inl (k3, 24, .inl (fun _ => -1))), (rw, .inr (3, [.ref r1, .int 0, .int 0])), (m3, .inl (j3, 8, .inl (fun _ => 0))), (m5, .inl (j5, 40, .inl (fun _ => 0))), (m6, .inl (j6, 40, .inl (fun _ => 0))), (m7, .inl (j7, 40, .inl (fun _ => 0))), (m8, .inl (j8, 40, .inl (fun _ => 0))), (m9, .inl (j9, 40, .inl (fun _ => 0))), (m10, .inl (j10, 40, .inl (fun _ => 0))), (ou, .inl (k4, 1, .inr (.inl (fun _ => 0)))), (h0, .inr (0, [.ref rq, .ref oa, .ref pl, .ref dk, .ref rw, .int 0, .int 0, .int (-1)]))]) (w1 := [(g0, .inr (5, [.int 1, .int 0, .int (-1), .ref m3, .int 0, .ref m5, .ref m6, .ref m7, .ref m8, .ref m9, .ref m10, .ref m11, .ref m12, .ref m13, .ref m14, .ref m15, .ref m16, .ref m17, .ref m18, .ref m19, .ref m20, .int 0, .ref m22, .ref m23, .ref m24, .ref m25, .ref m26, .ref m27, .int 0, .ref m29]))]) hP hD [6] [0, 1, 2, 3, 4, 5, 7, 8, 9, 10, 11, 12, 13, 14, 15] rfl rfl (by decide) (by decide) hk1 hFc hP1 hD1
  have hK := hK.app hK1
  generalize H1 = H at hP hS ⊢
  have hP : va_P (dC, dI) cls_ [(rq, .inl (k1, 40, .inr (.inr (.inr (.inr (fun _ => none)))))), (oa, .inl (k2, 8, .inl (fun _ => 0))), (pl, .inr (1, [.ref q9, .int 0])), (dk, .inr (2, [.ref d1, .ref d2, .ref d3, .ref d4])), (d1, .inl (k3, 24, .inl (fun _ => -1))), (rw, .inr (3, [.ref r1, .int 0, .int 0])), (m3, .inl (j3, 8, .inl (fun _ => 0))), (m5, .inl (j5, 40, .inl (fun _ => 0))), (m6, .inl (j6, 40, .inl (fun _ => 0))), (m7, .inl (j7, 40, .inl (fun _ => 0))), (m8, .inl (j8, 40, .inl (fun _ => 0))), (m9, .inl (j9, 40, .inl (fun _ => 0))), (m10, .inl (j10, 40, .inl (fun _ => 0))), (ou, .inl (k4, 1, .inr (.inl (fun _ => 0)))), (h0, .inr (0, [.ref rq, .ref oa, .ref pl, .ref dk, .ref rw, .int 0, .int 0, .int (-1)])), (g0, .inr (5, [.int 1, .int 0, .int (-1), .ref m3, .int 0, .ref m5, .ref m6, .ref m7, .ref m8, .ref m9, .ref m10, .ref m11, .ref m12, .ref m13, .ref m14, .ref m15, .ref m16, .ref m17, .ref m18, .ref m19, .ref m20, .int 0, .ref m22, .ref m23, .ref m24, .ref m25, .ref m26, .ref m27, .int 0, .ref m29]))] H := hP
  have hD : va_D A [(rq, .inl (k1, 40, .inr (.inr (.inr (.inr (fun _ => none)))))), (oa, .inl (k2, 8, .inl (fun _ => 0))), (pl, .inr (1, [.ref q9, .int 0])), (dk, .inr (2, [.ref d1, .ref d2, .ref d3, .ref d4])), (d1, .inl (k3, 24, .inl (fun _ => -1))), (rw, .inr (3, [.ref r1, .int 0, .int 0])), (m3, .inl (j3, 8, .inl (fun _ => 0))), (m5, .inl (j5, 40, .inl (fun _ => 0))), (m6, .inl (j6, 40, .inl (fun _ => 0))), (m7, .inl (j7, 40, .inl (fun _ => 0))), (m8, .inl (j8, 40, .inl (fun _ => 0))), (m9, .inl (j9, 40, .inl (fun _ => 0))), (m10, .inl (j10, 40, .inl (fun _ => 0))), (ou, .inl (k4, 1, .inr (.inl (fun _ => 0)))), (h0, .inr (0, [.ref rq, .ref oa, .ref pl, .ref dk, .ref rw, .int 0, .int 0, .int (-1)])), (g0, .inr (5, [.int 1, .int 0, .int (-1), .ref m3, .int 0, .ref m5, .ref m6, .ref m7, .ref m8, .ref m9, .ref m10, .ref m11, .ref m12, .ref m13, .ref m14, .ref m15, .ref m16, .ref m17, .ref m18, .ref m19, .ref m20, .int 0, .ref m22, .ref m23, .ref m24, .ref m25, .ref m26, .ref m27, .int 0, .ref m29]))] := hD
  have hK : va_K (dC, dI) cls_ [(k1, .object "TwinTuners$Request"), (k2, .int), (k3, .int), (j3, .int), (j5, .int), (j6, .int), (j7, .int), (j8, .int), (j9, .int), (j10, .int), (k4, .long)] s := hK
  refine W.eq (g2 := F0 m 359 ls [.int 0]) rfl ?_
  refine W.cs (cells' := 39) (slots' := 14130) rfl rfl ?_
  refine lv_istore hx hb d_LW_law_359 hl (by decide) rfl (fun ls hl => ?_)
  have hl : lv_has ls 8 [(6, .int 0), (5, .int 1), (4, .int 0), (3, .ref ou), (2, .ref g0), (1, .ref h0), (0, .ref b)] := hl
  refine lv_aload_n hx hb d_LW_law_361 rfl (lv_at hl 4 rfl) ?_
  have hPc := hP.sub (ws' := [(g0, .inr (5, [.int 1, .int 0, .int (-1), .ref m3, .int 0, .ref m5, .ref m6, .ref m7, .ref m8, .ref m9, .ref m10, .ref m11, .ref m12, .ref m13, .ref m14, .ref m15, .ref m16, .ref m17, .ref m18, .ref m19, .ref m20, .int 0, .ref m22, .ref m23, .ref m24, .ref m25, .ref m26, .ref m27, .int 0, .ref m29]))]) [15] rfl
  have hKc := hK.sub (tys' := []) [] rfl
  refine rd_call (va_runV (C := R_MO) (As := []) (rest := []) ⟨hx, hb, hml, hown, ht⟩ (c_MO_thrown_v l dC dI g0 m3 m5 m6 m7 m8 m9 m10 m11 m12 m13 m14 m15 m16 m17 m18 m19 m20 m22 m23 m24 m25 m26 m27 m29 1 0 (-1) 0) (cwV 0 ht (gV tb_723 tb_724 tb_725 tb_5 tb_726) rfl rfl rfl (by decide +kernel) ⟨Nat.le_of_ble_eq_true rfl, Nat.le_of_ble_eq_true rfl⟩) ⟨rdP_blind, va_recv (q := (R_MO, F_MO, 30)) hK hP rfl (show ([(rq, .inl (k1, 40, .inr (.inr (.inr (.inr (fun _ => none)))))), (oa, .inl (k2, 8, .inl (fun _ => 0))), (pl, .inr (1, [.ref q9, .int 0])), (dk, .inr (2, [.ref d1, .ref d2, .ref d3, .ref d4])), (d1, .inl (k3, 24, .inl (fun _ => -1))), (rw, .inr (3, [.ref r1, .int 0, .int 0])), (m3, .inl (j3, 8, .inl (fun _ => 0))), (m5, .inl (j5, 40, .inl (fun _ => 0))), (m6, .inl (j6, 40, .inl (fun _ => 0))), (m7, .inl (j7, 40, .inl (fun _ => 0))), (m8, .inl (j8, 40, .inl (fun _ => 0))), (m9, .inl (j9, 40, .inl (fun _ => 0))), (m10, .inl (j10, 40, .inl (fun _ => 0))), (ou, .inl (k4, 1, .inr (.inl (fun _ => 0)))), (h0, .inr (0, [.ref rq, .ref oa, .ref pl, .ref dk, .ref rw, .int 0, .int 0, .int (-1)])), (g0, .inr (5, [.int 1, .int 0, .int (-1), .ref m3, .int 0, .ref m5, .ref m6, .ref m7, .ref m8, .ref m9, .ref m10, .ref m11, .ref m12, .ref m13, .ref m14, .ref m15, .ref m16, .ref m17, .ref m18, .ref m19, .ref m20, .int 0, .ref m22, .ref m23, .ref m24, .ref m25, .ref m26, .ref m27, .int 0, .ref m29]))] : va_W)[15]? = some (g0, .inr (5, [.int 1, .int 0, .int (-1), .ref m3, .int 0, .ref m5, .ref m6, .ref m7, .ref m8, .ref m9, .ref m10, .ref m11, .ref m12, .ref m13, .ref m14, .ref m15, .ref m16, .ref m17, .ref m18, .ref m19, .ref m20, .int 0, .ref m22, .ref m23, .ref m24, .ref m25, .ref m26, .ref m27, .int 0, .ref m29])) from rfl), rd_pre hPc hKc⟩ rfl rfl hl.1 rfl (lv_room (Nat.le_of_ble_eq_true rfl)) d_LW_law_362 ⟨Nat.le_of_ble_eq_true rfl, Nat.le_of_ble_eq_true rfl⟩) ?_
  refine W.eq (g2 := F0 m 365 ls [.int 1]) rfl ?_
  refine lv_iload hx hb d_LW_law_365 (lv_at hl 1 rfl) ?_
  refine lv_icmp_eq (tgt := 372) hx hb d_LW_law_367 (by decide) (fun _ => ?_) (fun h9 => absurd (rfl) h9)
  refine lv_iload hx hb d_LW_law_372 (lv_at hl 1 rfl) ?_
  refine lv_if_ne (tgt := 389) hx hb d_LW_law_374 (by decide) (fun _ => ?_) (fun h9 => absurd h9 (by decide))
  refine lv_goto (tgt := 1228) hx hb d_LW_law_389 (by decide) ?_
  have hl := lv_sub hl [2, 6] (l' := [(4, .int 0), (0, .ref b)]) rfl
  exact tl_end hx hb hr hlocks hbl hbA hAB hX (Nat.le_of_ble_eq_true rfl) (Nat.le_of_ble_eq_true rfl) hS hl
set_option maxHeartbeats 4000000 in
set_option maxRecDepth 100000 in
theorem cs_4 {p : Program} {l : Launch} {e : Env} {s : State} {m : MethodId} {below : List Frame} {meth : Method} {c : Code} {A : Nat → Prop} {b : Nat} {H : Heap} {locs : List Loc} {ls : Array Slot} {xs : Nat → Int32} (dC : Nat → ClassId) (dI : Nat → Nat → Nat) (h0 rq oa pl dk rw q9 d1 d2 d3 d4 r1 g0 m3 m5 m6 m7 m8 m9 m10 m11 m12 m13 m14 m15 m16 m17 m18 m19 m20 m22 m23 m24 m25 m26 m27 m29 ou : Nat) (k1 k2 k3 j3 j5 j6 j7 j8 j9 j10 k4 : ClassId) (hl9 : l.stackTraces = false) (hx : p.tables.exec = Jvm.exec) (hb : c.code = code) (hr : meth.sig.returnType = ret) (hlocks : meth.locks = false) (hbl : b < s.heap.size) (hbA : ¬ A b) (hAB : ∀ q, A q → s.heap.size ≤ q) (hX : va_X b 6 xs s s.heap) (hml : c.maxLocals = 8) (hown : s.vm.findClass R_LW = some m.cls) (ht : ∀ w ∈ tb_, w.before #[Value.ref b] s = true) (hA : ∀ q : Nat, s.heap.size ≤ q → A q) (hBs : s.heap.size ≤ s.heap.size) (hV : tw_V s.heap.size s s.heap)
    (hK : va_K (dC, dI) cls_ [(k1, .object "TwinTuners$Request"), (k2, .int), (k3, .int), (j3, .int), (j5, .int), (j6, .int), (j7, .int), (j8, .int), (j9, .int), (j10, .int), (k4, .long)] s) (hP : va_P (dC, dI) cls_ [(h0, .inr (0, [.ref rq, .ref oa, .ref pl, .ref dk, .ref rw, .int 0, .int 0, .int (-1)])), (rq, .inl (k1, 40, .inr (.inr (.inr (.inr (fun _ => none)))))), (oa, .inl (k2, 8, .inl (fun _ => 0))), (pl, .inr (1, [.ref q9, .int 0])), (dk, .inr (2, [.ref d1, .ref d2, .ref d3, .ref d4])), (d1, .inl (k3, 24, .inl (fun _ => -1))), (rw, .inr (3, [.ref r1, .int 0, .int 0])), (g0, .inr (5, [.int 0, .int 0, .int (-1), .ref m3, .int 0, .ref m5, .ref m6, .ref m7, .ref m8, .ref m9, .ref m10, .ref m11, .ref m12, .ref m13, .ref m14, .ref m15, .ref m16, .ref m17, .ref m18, .ref m19, .ref m20, .int 0, .ref m22, .ref m23, .ref m24, .ref m25, .ref m26, .ref m27, .int 0, .ref m29])), (m3, .inl (j3, 8, .inl (fun _ => 0))), (m5, .inl (j5, 40, .inl (fun _ => 0))), (m6, .inl (j6, 40, .inl (fun _ => 0))), (m7, .inl (j7, 40, .inl (fun _ => 0))), (m8, .inl (j8, 40, .inl (fun _ => 0))), (m9, .inl (j9, 40, .inl (fun _ => 0))), (m10, .inl (j10, 40, .inl (fun _ => 0))), (ou, .inl (k4, 1, .inr (.inl (fun _ => 0))))] H) (hD : va_D A [(h0, .inr (0, [.ref rq, .ref oa, .ref pl, .ref dk, .ref rw, .int 0, .int 0, .int (-1)])), (rq, .inl (k1, 40, .inr (.inr (.inr (.inr (fun _ => none)))))), (oa, .inl (k2, 8, .inl (fun _ => 0))), (pl, .inr (1, [.ref q9, .int 0])), (dk, .inr (2, [.ref d1, .ref d2, .ref d3, .ref d4])), (d1, .inl (k3, 24, .inl (fun _ => -1))), (rw, .inr (3, [.ref r1, .int 0, .int 0])), (g0, .inr (5, [.int 0, .int 0, .int (-1), .ref m3, .int 0, .ref m5, .ref m6, .ref m7, .ref m8, .ref m9, .ref m10, .ref m11, .ref m12, .ref m13, .ref m14, .ref m15, .ref m16, .ref m17, .ref m18, .ref m19, .ref m20, .int 0, .ref m22, .ref m23, .ref m24, .ref m25, .ref m26, .ref m27, .int 0, .ref m29])), (m3, .inl (j3, 8, .inl (fun _ => 0))), (m5, .inl (j5, 40, .inl (fun _ => 0))), (m6, .inl (j6, 40, .inl (fun _ => 0))), (m7, .inl (j7, 40, .inl (fun _ => 0))), (m8, .inl (j8, 40, .inl (fun _ => 0))), (m9, .inl (j9, 40, .inl (fun _ => 0))), (m10, .inl (j10, 40, .inl (fun _ => 0))), (ou, .inl (k4, 1, .inr (.inl (fun _ => 0))))]) (hS : va_S A s.heap H locs) (hl : lv_has ls 8 [(4, .int 0), (3, .ref ou), (2, .ref g0), (1, .ref h0), (0, .ref b)]) : W p l e room_1 s m #[Value.ref b] below meth c H locs 38 14124 (lw_Z below #[Value.ref b] s) (F0 m 392 ls []) := by
  refine lv_aload_n hx hb d_LW_law_392 rfl (lv_at hl 3 rfl) ?_
  refine lv_aload_n hx hb d_LW_law_393 rfl (lv_at hl 4 rfl) ?_
  refine lv_iload hx hb d_LW_law_394 (lv_at hl 0 rfl) ?_
  refine lv_iconst (v := 1) hx hb d_LW_law_396 (by decide) ?_
  refine lv_iadd hx hb d_LW_law_397 ?_
  refine lv_topi (fun v1 ev1 => ?_)
  obtain rfl : v1 = 1 := ev1.trans (by decide)
  refine va_sld hx hb hX hbl hbA hS (show vp_in (nI 1) 6 from vp_in_nI (by decide) (by decide)) d_LW_law_398 ?_
  refine W.eq (g2 := F0 m 399 ls [.int (xs 1), .ref h0]) rfl ?_
  refine lv_aload_n hx hb d_LW_law_399 rfl (lv_at hl 1 rfl) ?_
  have hPc := hP.sub (ws' := [(h0, .inr (0, [.ref rq, .ref oa, .ref pl, .ref dk, .ref rw, .int 0, .int 0, .int (-1)]))]) [0] rfl
  have hKc := hK.sub (tys' := []) [] rfl
  have hDc := hD.sub (ws' := [(h0, .inr (0, [.ref rq, .ref oa, .ref pl, .ref dk, .ref rw, .int 0, .int 0, .int (-1)]))]) [0] (by decide) rfl
  have hFc := va_free (wc := [(h0, .inr (0, [.ref rq, .ref oa, .ref pl, .ref dk, .ref rw, .int 0, .int 0, .int (-1)]))]) hD hS hA [0] rfl
  refine fr_call (tw_runSW (As := [.ref h0, .int (xs 1), .ref ou]) (rest := []) ⟨hx, hb, hml, hown, ht⟩ (c_LW_planTo_bad l dC dI H.size s.heap.size hl9 h0 rq oa pl dk rw ou (xs 1)) rfl rfl ⟨Nat.le_of_ble_eq_true rfl, Nat.le_of_ble_eq_true rfl⟩ (pay_in ht (gW tb_498)) (show _ ∈ w_LW_planTo from List.mem_cons_self) (ht _ tb_496) (ht _ tb_497) (ht _ tb_0) (n := 3) (by decide +kernel) ⟨frP_blind, fr_pre hPc hKc hDc hAB hBs hS hV⟩ rfl rfl hl.1 rfl (lv_room (Nat.le_of_ble_eq_true rfl)) d_LW_law_400 ⟨Nat.le_of_ble_eq_true rfl, Nat.le_of_ble_eq_true rfl⟩) hS (fun q _ h => hFc q h) hFc (fun t H1 locs ht1 hvm hB1 hz1 hk1 hS => ?_)
  obtain ⟨hP1, hK1, hD1⟩ := hB1
  rw [ht1] at hP1
  have hK1 := va_K.moved hvm.symm hK1
  obtain ⟨hP, hD⟩ := va_join (wr := [(rq, .inl (k1, 40, .inr (.inr (.inr (.inr (fun _ => none)))))), (oa, .inl (k2, 8, .inl (fun _ => 0))), (pl, .inr (1, [.ref q9, .int 0])), (dk, .inr (2, [.ref d1, .ref d2, .ref d3, .ref d4])), (d1, .inl (k3, 24, .inl (fun _ => -1))), (rw, .inr (3, [.ref r1, .int 0, .int 0])), (g0, .inr (5, [.int 0, .int 0, .int (-1), .ref m3, .int 0, .ref m5, .ref m6, .ref m7, .ref m8, .ref m9, .ref m10, .ref m11, .ref m12, .ref m13, .ref m14, .ref m15, .ref m16, .ref m17, .ref m18, .ref m19, .ref m20, .int 0, .ref m22, .ref m23, .ref m24, .ref m25, .ref m26, .ref m27, .int 0, .ref m29])), (m3, .inl (j3, 8, .inl (fun _ => 0))), (m5, .inl (j5, 40, .inl (fun _ => 0))), (m6, .inl (j6, 40, .inl (fun _ => 0))), (m7, .inl (j7, 40, .inl (fun _ => 0))), (m8, .inl (j8, 40, .inl (fun _ => 0))), (m9, .inl (j9, 40, .inl (fun _ => 0))), (m10, .inl (j10, 40, .inl (fun _ => 0))), (ou, .inl (k4, 1, .inr (.inl (fun _ => 0))))]) (w1 := [(h0, .inr (0, [.ref rq, .ref oa, .ref pl, .ref dk, .ref rw, .int 0, .int 0, .int (-1)]))]) hP hD [0] [1, 2, 3, 4, 5, 6, 7, 8, 9, 10, 11, 12, 13, 14, 15] rfl rfl (by decide) (by decide) hk1 hFc hP1 hD1
  have hK := hK.app hK1
  generalize H1 = H at hP hS ⊢
  have hP : va_P (dC, dI) cls_ [(rq, .inl (k1, 40, .inr (.inr (.inr (.inr (fun _ => none)))))), (oa, .inl (k2, 8, .inl (fun _ => 0))), (pl, .inr (1, [.ref q9, .int 0])), (dk, .inr (2, [.ref d1, .ref d2, .ref d3, .ref d4])), (d1, .inl (k3, 24, .inl (fun _ => -1))), (rw, .inr (3, [.ref r1, .int 0, .int 0])), (g0, .inr (5, [.int 0, .int 0, .int (-1), .ref m3, .int 0, .ref m5, .ref m6, .ref m7, .ref m8, .ref m9, .ref m10, .ref m11, .ref m12, .ref m13, .ref m14, .ref m15, .ref m16, .ref m17, .ref m18, .ref m19, .ref m20, .int 0, .ref m22, .ref m23, .ref m24, .ref m25, .ref m26, .ref m27, .int 0, .ref m29])), (m3, .inl (j3, 8, .inl (fun _ => 0))), (m5, .inl (j5, 40, .inl (fun _ => 0))), (m6, .inl (j6, 40, .inl (fun _ => 0))), (m7, .inl (j7, 40, .inl (fun _ => 0))), (m8, .inl (j8, 40, .inl (fun _ => 0))), (m9, .inl (j9, 40, .inl (fun _ => 0))), (m10, .inl (j10, 40, .inl (fun _ => 0))), (ou, .inl (k4, 1, .inr (.inl (fun _ => 0)))), (h0, .inr (0, [.ref rq, .ref oa, .ref pl, .ref dk, .ref rw, .int 0, .int 0, .int (-1)]))] H := hP
  have hD : va_D A [(rq, .inl (k1, 40, .inr (.inr (.inr (.inr (fun _ => none)))))), (oa, .inl (k2, 8, .inl (fun _ => 0))), (pl, .inr (1, [.ref q9, .int 0])), (dk, .inr (2, [.ref d1, .ref d2, .ref d3, .ref d4])), (d1, .inl (k3, 24, .inl (fun _ => -1))), (rw, .inr (3, [.ref r1, .int 0, .int 0])), (g0, .inr (5, [.int 0, .int 0, .int (-1), .ref m3, .int 0, .ref m5, .ref m6, .ref m7, .ref m8, .ref m9, .ref m10, .ref m11, .ref m12, .ref m13, .ref m14, .ref m15, .ref m16, .ref m17, .ref m18, .ref m19, .ref m20, .int 0, .ref m22, .ref m23, .ref m24, .ref m25, .ref m26, .ref m27, .int 0, .ref m29])), (m3, .inl (j3, 8, .inl (fun _ => 0))), (m5, .inl (j5, 40, .inl (fun _ => 0))), (m6, .inl (j6, 40, .inl (fun _ => 0))), (m7, .inl (j7, 40, .inl (fun _ => 0))), (m8, .inl (j8, 40, .inl (fun _ => 0))), (m9, .inl (j9, 40, .inl (fun _ => 0))), (m10, .inl (j10, 40, .inl (fun _ => 0))), (ou, .inl (k4, 1, .inr (.inl (fun _ => 0)))), (h0, .inr (0, [.ref rq, .ref oa, .ref pl, .ref dk, .ref rw, .int 0, .int 0, .int (-1)]))] := hD
  have hK : va_K (dC, dI) cls_ [(k1, .object "TwinTuners$Request"), (k2, .int), (k3, .int), (j3, .int), (j5, .int), (j6, .int), (j7, .int), (j8, .int), (j9, .int), (j10, .int), (k4, .long)] s := hK
  refine W.eq (g2 := F0 m 403 ls [.int 1]) rfl ?_
  refine W.cs (cells' := 39) (slots' := 14130) rfl rfl ?_
  refine lv_istore hx hb d_LW_law_403 hl (by decide) rfl (fun ls hl => ?_)
  have hl : lv_has ls 8 [(5, .int 1), (4, .int 0), (3, .ref ou), (2, .ref g0), (1, .ref h0), (0, .ref b)] := hl
  refine lv_aload_n hx hb d_LW_law_405 rfl (lv_at hl 3 rfl) ?_
  refine lv_aload_n hx hb d_LW_law_406 rfl (lv_at hl 5 rfl) ?_
  refine lv_iload hx hb d_LW_law_407 (lv_at hl 1 rfl) ?_
  refine lv_iconst (v := 1) hx hb d_LW_law_409 (by decide) ?_
  refine lv_iadd hx hb d_LW_law_410 ?_
  refine lv_topi (fun v2 ev2 => ?_)
  obtain rfl : v2 = 1 := ev2.trans (by decide)
  refine va_sld hx hb hX hbl hbA hS (show vp_in (nI 1) 6 from vp_in_nI (by decide) (by decide)) d_LW_law_411 ?_
  refine W.eq (g2 := F0 m 412 ls [.int (xs 1), .ref g0]) rfl ?_
  have hPc := hP.sub (ws' := [(g0, .inr (5, [.int 0, .int 0, .int (-1), .ref m3, .int 0, .ref m5, .ref m6, .ref m7, .ref m8, .ref m9, .ref m10, .ref m11, .ref m12, .ref m13, .ref m14, .ref m15, .ref m16, .ref m17, .ref m18, .ref m19, .ref m20, .int 0, .ref m22, .ref m23, .ref m24, .ref m25, .ref m26, .ref m27, .int 0, .ref m29]))]) [6] rfl
  have hKc := hK.sub (tys' := []) [] rfl
  have hDc := hD.sub (ws' := [(g0, .inr (5, [.int 0, .int 0, .int (-1), .ref m3, .int 0, .ref m5, .ref m6, .ref m7, .ref m8, .ref m9, .ref m10, .ref m11, .ref m12, .ref m13, .ref m14, .ref m15, .ref m16, .ref m17, .ref m18, .ref m19, .ref m20, .int 0, .ref m22, .ref m23, .ref m24, .ref m25, .ref m26, .ref m27, .int 0, .ref m29]))]) [6] (by decide) rfl
  have hFc := va_free (wc := [(g0, .inr (5, [.int 0, .int 0, .int (-1), .ref m3, .int 0, .ref m5, .ref m6, .ref m7, .ref m8, .ref m9, .ref m10, .ref m11, .ref m12, .ref m13, .ref m14, .ref m15, .ref m16, .ref m17, .ref m18, .ref m19, .ref m20, .int 0, .ref m22, .ref m23, .ref m24, .ref m25, .ref m26, .ref m27, .int 0, .ref m29]))]) hD hS hA [6] rfl
  refine fr_call (va_runV (C := R_MO) (As := [.int (xs 1)]) (rest := []) ⟨hx, hb, hml, hown, ht⟩ (c_MO_planTo_bad l dC dI H.size s.heap.size g0 m3 m5 m6 m7 m8 m9 m10 m11 m12 m13 m14 m15 m16 m17 m18 m19 m20 m22 m23 m24 m25 m26 m27 m29 (xs 1)) (cwV 1 ht (gV tb_796 tb_797 tb_798 tb_5 tb_799) rfl rfl rfl (by decide +kernel) ⟨Nat.le_of_ble_eq_true rfl, Nat.le_of_ble_eq_true rfl⟩) ⟨frP_blind, va_recv (q := (R_MO, F_MO, 30)) hK hP rfl (show ([(rq, .inl (k1, 40, .inr (.inr (.inr (.inr (fun _ => none)))))), (oa, .inl (k2, 8, .inl (fun _ => 0))), (pl, .inr (1, [.ref q9, .int 0])), (dk, .inr (2, [.ref d1, .ref d2, .ref d3, .ref d4])), (d1, .inl (k3, 24, .inl (fun _ => -1))), (rw, .inr (3, [.ref r1, .int 0, .int 0])), (g0, .inr (5, [.int 0, .int 0, .int (-1), .ref m3, .int 0, .ref m5, .ref m6, .ref m7, .ref m8, .ref m9, .ref m10, .ref m11, .ref m12, .ref m13, .ref m14, .ref m15, .ref m16, .ref m17, .ref m18, .ref m19, .ref m20, .int 0, .ref m22, .ref m23, .ref m24, .ref m25, .ref m26, .ref m27, .int 0, .ref m29])), (m3, .inl (j3, 8, .inl (fun _ => 0))), (m5, .inl (j5, 40, .inl (fun _ => 0))), (m6, .inl (j6, 40, .inl (fun _ => 0))), (m7, .inl (j7, 40, .inl (fun _ => 0))), (m8, .inl (j8, 40, .inl (fun _ => 0))), (m9, .inl (j9, 40, .inl (fun _ => 0))), (m10, .inl (j10, 40, .inl (fun _ => 0))), (ou, .inl (k4, 1, .inr (.inl (fun _ => 0)))), (h0, .inr (0, [.ref rq, .ref oa, .ref pl, .ref dk, .ref rw, .int 0, .int 0, .int (-1)]))] : va_W)[6]? = some (g0, .inr (5, [.int 0, .int 0, .int (-1), .ref m3, .int 0, .ref m5, .ref m6, .ref m7, .ref m8, .ref m9, .ref m10, .ref m11, .ref m12, .ref m13, .ref m14, .ref m15, .ref m16, .ref m17, .ref m18, .ref m19, .ref m20, .int 0, .ref m22, .ref m23, .ref m24, .ref m25, .ref m26, .ref m27, .int 0, .ref m29])) from rfl), fr_pre hPc hKc hDc hAB hBs hS hV⟩ rfl rfl hl.1 rfl (lv_room (Nat.le_of_ble_eq_true rfl)) d_LW_law_412 ⟨Nat.le_of_ble_eq_true rfl, Nat.le_of_ble_eq_true rfl⟩) hS (fun q _ h => hFc q h) hFc (fun t H1 locs ht1 hvm hB1 hz1 hk1 hS => ?_)
  obtain ⟨hP1, hK1, hD1⟩ := hB1
  rw [ht1] at hP1
  have hK1 := va_K.moved hvm.symm hK1
  obtain ⟨hP, hD⟩ := va_join (wr := [(rq, .inl (k1, 40, .inr (.inr (.inr (.inr (fun _ => none)))))), (oa, .inl (k2, 8, .inl (fun _ => 0))), (pl, .inr (1, [.ref q9, .int 0])), (dk, .inr (2, [.ref d1, .ref d2, .ref d3, .ref d4])), (d1, .inl (k3, 24, .inl (fun _ => -1))), (rw, .inr (3, [.ref r1, .int 0, .int 0])), (m3, .inl (j3, 8, .inl (fun _ => 0))), (m5, .inl (j5, 40, .inl (fun _ => 0))), (m6, .inl (j6, 40, .inl (fun _ => 0))), (m7, .inl (j7, 40, .inl (fun _ => 0))), (m8, .inl (j8, 40, .inl (fun _ => 0))), (m9, .inl (j9, 40, .inl (fun _ => 0))), (m10, .inl (j10, 40, .inl (fun _ => 0))), (ou, .inl (k4, 1, .inr (.inl (fun _ => 0)))), (h0, .inr (0, [.ref rq, .ref oa, .ref pl, .ref dk, .ref rw, .int 0, .int 0, .int (-1)]))]) (w1 := [(g0, .inr (5, [.int 1, .int 0, .int (-1), .ref m3, .int 0, .ref m5, .ref m6, .ref m7, .ref m8, .ref m9, .ref m10, .ref m11, .ref m12, .ref m13, .ref m14, .ref m15, .ref m16, .ref m17, .ref m18, .ref m19, .ref m20, .int 0, .ref m22, .ref m23, .ref m24, .ref m25, .ref m26, .ref m27, .int 0, .ref m29]))]) hP hD [6] [0, 1, 2, 3, 4, 5, 7, 8, 9, 10, 11, 12, 13, 14, 15] rfl rfl (by decide) (by decide) hk1 hFc hP1 hD1
  have hK := hK.app hK1
  generalize H1 = H at hP hS ⊢
  have hP : va_P (dC, dI) cls_ [(rq, .inl (k1, 40, .inr (.inr (.inr (.inr (fun _ => none)))))), (oa, .inl (k2, 8, .inl (fun _ => 0))), (pl, .inr (1, [.ref q9, .int 0])), (dk, .inr (2, [.ref d1, .ref d2, .ref d3, .ref d4])), (d1, .inl (k3, 24, .inl (fun _ => -1))), (rw, .inr (3, [.ref r1, .int 0, .int 0])), (m3, .inl (j3, 8, .inl (fun _ => 0))), (m5, .inl (j5, 40, .inl (fun _ => 0))), (m6, .inl (j6, 40, .inl (fun _ => 0))), (m7, .inl (j7, 40, .inl (fun _ => 0))), (m8, .inl (j8, 40, .inl (fun _ => 0))), (m9, .inl (j9, 40, .inl (fun _ => 0))), (m10, .inl (j10, 40, .inl (fun _ => 0))), (ou, .inl (k4, 1, .inr (.inl (fun _ => 0)))), (h0, .inr (0, [.ref rq, .ref oa, .ref pl, .ref dk, .ref rw, .int 0, .int 0, .int (-1)])), (g0, .inr (5, [.int 1, .int 0, .int (-1), .ref m3, .int 0, .ref m5, .ref m6, .ref m7, .ref m8, .ref m9, .ref m10, .ref m11, .ref m12, .ref m13, .ref m14, .ref m15, .ref m16, .ref m17, .ref m18, .ref m19, .ref m20, .int 0, .ref m22, .ref m23, .ref m24, .ref m25, .ref m26, .ref m27, .int 0, .ref m29]))] H := hP
  have hD : va_D A [(rq, .inl (k1, 40, .inr (.inr (.inr (.inr (fun _ => none)))))), (oa, .inl (k2, 8, .inl (fun _ => 0))), (pl, .inr (1, [.ref q9, .int 0])), (dk, .inr (2, [.ref d1, .ref d2, .ref d3, .ref d4])), (d1, .inl (k3, 24, .inl (fun _ => -1))), (rw, .inr (3, [.ref r1, .int 0, .int 0])), (m3, .inl (j3, 8, .inl (fun _ => 0))), (m5, .inl (j5, 40, .inl (fun _ => 0))), (m6, .inl (j6, 40, .inl (fun _ => 0))), (m7, .inl (j7, 40, .inl (fun _ => 0))), (m8, .inl (j8, 40, .inl (fun _ => 0))), (m9, .inl (j9, 40, .inl (fun _ => 0))), (m10, .inl (j10, 40, .inl (fun _ => 0))), (ou, .inl (k4, 1, .inr (.inl (fun _ => 0)))), (h0, .inr (0, [.ref rq, .ref oa, .ref pl, .ref dk, .ref rw, .int 0, .int 0, .int (-1)])), (g0, .inr (5, [.int 1, .int 0, .int (-1), .ref m3, .int 0, .ref m5, .ref m6, .ref m7, .ref m8, .ref m9, .ref m10, .ref m11, .ref m12, .ref m13, .ref m14, .ref m15, .ref m16, .ref m17, .ref m18, .ref m19, .ref m20, .int 0, .ref m22, .ref m23, .ref m24, .ref m25, .ref m26, .ref m27, .int 0, .ref m29]))] := hD
  have hK : va_K (dC, dI) cls_ [(k1, .object "TwinTuners$Request"), (k2, .int), (k3, .int), (j3, .int), (j5, .int), (j6, .int), (j7, .int), (j8, .int), (j9, .int), (j10, .int), (k4, .long)] s := hK
  refine W.eq (g2 := F0 m 415 ls [.int 0]) rfl ?_
  refine W.cs (cells' := 39) (slots' := 14130) rfl rfl ?_
  refine lv_istore hx hb d_LW_law_415 hl (by decide) rfl (fun ls hl => ?_)
  have hl : lv_has ls 8 [(6, .int 0), (5, .int 1), (4, .int 0), (3, .ref ou), (2, .ref g0), (1, .ref h0), (0, .ref b)] := hl
  refine lv_aload_n hx hb d_LW_law_417 rfl (lv_at hl 4 rfl) ?_
  have hPc := hP.sub (ws' := [(g0, .inr (5, [.int 1, .int 0, .int (-1), .ref m3, .int 0, .ref m5, .ref m6, .ref m7, .ref m8, .ref m9, .ref m10, .ref m11, .ref m12, .ref m13, .ref m14, .ref m15, .ref m16, .ref m17, .ref m18, .ref m19, .ref m20, .int 0, .ref m22, .ref m23, .ref m24, .ref m25, .ref m26, .ref m27, .int 0, .ref m29]))]) [15] rfl
  have hKc := hK.sub (tys' := []) [] rfl
  refine rd_call (va_runV (C := R_MO) (As := []) (rest := []) ⟨hx, hb, hml, hown, ht⟩ (c_MO_thrown_v l dC dI g0 m3 m5 m6 m7 m8 m9 m10 m11 m12 m13 m14 m15 m16 m17 m18 m19 m20 m22 m23 m24 m25 m26 m27 m29 1 0 (-1) 0) (cwV 0 ht (gV tb_723 tb_724 tb_725 tb_5 tb_726) rfl rfl rfl (by decide +kernel) ⟨Nat.le_of_ble_eq_true rfl, Nat.le_of_ble_eq_true rfl⟩) ⟨rdP_blind, va_recv (q := (R_MO, F_MO, 30)) hK hP rfl (show ([(rq, .inl (k1, 40, .inr (.inr (.inr (.inr (fun _ => none)))))), (oa, .inl (k2, 8, .inl (fun _ => 0))), (pl, .inr (1, [.ref q9, .int 0])), (dk, .inr (2, [.ref d1, .ref d2, .ref d3, .ref d4])), (d1, .inl (k3, 24, .inl (fun _ => -1))), (rw, .inr (3, [.ref r1, .int 0, .int 0])), (m3, .inl (j3, 8, .inl (fun _ => 0))), (m5, .inl (j5, 40, .inl (fun _ => 0))), (m6, .inl (j6, 40, .inl (fun _ => 0))), (m7, .inl (j7, 40, .inl (fun _ => 0))), (m8, .inl (j8, 40, .inl (fun _ => 0))), (m9, .inl (j9, 40, .inl (fun _ => 0))), (m10, .inl (j10, 40, .inl (fun _ => 0))), (ou, .inl (k4, 1, .inr (.inl (fun _ => 0)))), (h0, .inr (0, [.ref rq, .ref oa, .ref pl, .ref dk, .ref rw, .int 0, .int 0, .int (-1)])), (g0, .inr (5, [.int 1, .int 0, .int (-1), .ref m3, .int 0, .ref m5, .ref m6, .ref m7, .ref m8, .ref m9, .ref m10, .ref m11, .ref m12, .ref m13, .ref m14, .ref m15, .ref m16, .ref m17, .ref m18, .ref m19, .ref m20, .int 0, .ref m22, .ref m23, .ref m24, .ref m25, .ref m26, .ref m27, .int 0, .ref m29]))] : va_W)[15]? = some (g0, .inr (5, [.int 1, .int 0, .int (-1), .ref m3, .int 0, .ref m5, .ref m6, .ref m7, .ref m8, .ref m9, .ref m10, .ref m11, .ref m12, .ref m13, .ref m14, .ref m15, .ref m16, .ref m17, .ref m18, .ref m19, .ref m20, .int 0, .ref m22, .ref m23, .ref m24, .ref m25, .ref m26, .ref m27, .int 0, .ref m29])) from rfl), rd_pre hPc hKc⟩ rfl rfl hl.1 rfl (lv_room (Nat.le_of_ble_eq_true rfl)) d_LW_law_418 ⟨Nat.le_of_ble_eq_true rfl, Nat.le_of_ble_eq_true rfl⟩) ?_
  refine W.eq (g2 := F0 m 421 ls [.int 1]) rfl ?_
  refine lv_iload hx hb d_LW_law_421 (lv_at hl 1 rfl) ?_
  refine lv_icmp_eq (tgt := 428) hx hb d_LW_law_423 (by decide) (fun _ => ?_) (fun h9 => absurd (rfl) h9)
  refine lv_iload hx hb d_LW_law_428 (lv_at hl 1 rfl) ?_
  refine lv_if_ne (tgt := 445) hx hb d_LW_law_430 (by decide) (fun _ => ?_) (fun h9 => absurd h9 (by decide))
  refine lv_goto (tgt := 1228) hx hb d_LW_law_445 (by decide) ?_
  have hl := lv_sub hl [2, 6] (l' := [(4, .int 0), (0, .ref b)]) rfl
  exact tl_end hx hb hr hlocks hbl hbA hAB hX (Nat.le_of_ble_eq_true rfl) (Nat.le_of_ble_eq_true rfl) hS hl
set_option maxHeartbeats 4000000 in
set_option maxRecDepth 100000 in
theorem cs_12 {p : Program} {l : Launch} {e : Env} {s : State} {m : MethodId} {below : List Frame} {meth : Method} {c : Code} {A : Nat → Prop} {b : Nat} {H : Heap} {locs : List Loc} {ls : Array Slot} {xs : Nat → Int32} (dC : Nat → ClassId) (dI : Nat → Nat → Nat) (h0 rq oa pl dk rw q9 d1 d2 d3 d4 r1 g0 m3 m5 m6 m7 m8 m9 m10 m11 m12 m13 m14 m15 m16 m17 m18 m19 m20 m22 m23 m24 m25 m26 m27 m29 ou : Nat) (k1 k2 k3 j3 j5 j6 j7 j8 j9 j10 k4 : ClassId) (hl9 : l.stackTraces = false) (hx : p.tables.exec = Jvm.exec) (hb : c.code = code) (hr : meth.sig.returnType = ret) (hlocks : meth.locks = false) (hbl : b < s.heap.size) (hbA : ¬ A b) (hAB : ∀ q, A q → s.heap.size ≤ q) (hX : va_X b 6 xs s s.heap) (hml : c.maxLocals = 8) (hown : s.vm.findClass R_LW = some m.cls) (ht : ∀ w ∈ tb_, w.before #[Value.ref b] s = true) (hA : ∀ q : Nat, s.heap.size ≤ q → A q) (hBs : s.heap.size ≤ s.heap.size) (hV : tw_V s.heap.size s s.heap)
    (hK : va_K (dC, dI) cls_ [(k1, .object "TwinTuners$Request"), (k2, .int), (k3, .int), (j3, .int), (j5, .int), (j6, .int), (j7, .int), (j8, .int), (j9, .int), (j10, .int), (k4, .long)] s) (hP : va_P (dC, dI) cls_ [(h0, .inr (0, [.ref rq, .ref oa, .ref pl, .ref dk, .ref rw, .int 0, .int 0, .int (-1)])), (rq, .inl (k1, 40, .inr (.inr (.inr (.inr (fun _ => none)))))), (oa, .inl (k2, 8, .inl (fun _ => 0))), (pl, .inr (1, [.ref q9, .int 0])), (dk, .inr (2, [.ref d1, .ref d2, .ref d3, .ref d4])), (d1, .inl (k3, 24, .inl (fun _ => -1))), (rw, .inr (3, [.ref r1, .int 0, .int 0])), (g0, .inr (5, [.int 0, .int 0, .int (-1), .ref m3, .int 0, .ref m5, .ref m6, .ref m7, .ref m8, .ref m9, .ref m10, .ref m11, .ref m12, .ref m13, .ref m14, .ref m15, .ref m16, .ref m17, .ref m18, .ref m19, .ref m20, .int 0, .ref m22, .ref m23, .ref m24, .ref m25, .ref m26, .ref m27, .int 0, .ref m29])), (m3, .inl (j3, 8, .inl (fun _ => 0))), (m5, .inl (j5, 40, .inl (fun _ => 0))), (m6, .inl (j6, 40, .inl (fun _ => 0))), (m7, .inl (j7, 40, .inl (fun _ => 0))), (m8, .inl (j8, 40, .inl (fun _ => 0))), (m9, .inl (j9, 40, .inl (fun _ => 0))), (m10, .inl (j10, 40, .inl (fun _ => 0))), (ou, .inl (k4, 1, .inr (.inl (fun _ => 0))))] H) (hD : va_D A [(h0, .inr (0, [.ref rq, .ref oa, .ref pl, .ref dk, .ref rw, .int 0, .int 0, .int (-1)])), (rq, .inl (k1, 40, .inr (.inr (.inr (.inr (fun _ => none)))))), (oa, .inl (k2, 8, .inl (fun _ => 0))), (pl, .inr (1, [.ref q9, .int 0])), (dk, .inr (2, [.ref d1, .ref d2, .ref d3, .ref d4])), (d1, .inl (k3, 24, .inl (fun _ => -1))), (rw, .inr (3, [.ref r1, .int 0, .int 0])), (g0, .inr (5, [.int 0, .int 0, .int (-1), .ref m3, .int 0, .ref m5, .ref m6, .ref m7, .ref m8, .ref m9, .ref m10, .ref m11, .ref m12, .ref m13, .ref m14, .ref m15, .ref m16, .ref m17, .ref m18, .ref m19, .ref m20, .int 0, .ref m22, .ref m23, .ref m24, .ref m25, .ref m26, .ref m27, .int 0, .ref m29])), (m3, .inl (j3, 8, .inl (fun _ => 0))), (m5, .inl (j5, 40, .inl (fun _ => 0))), (m6, .inl (j6, 40, .inl (fun _ => 0))), (m7, .inl (j7, 40, .inl (fun _ => 0))), (m8, .inl (j8, 40, .inl (fun _ => 0))), (m9, .inl (j9, 40, .inl (fun _ => 0))), (m10, .inl (j10, 40, .inl (fun _ => 0))), (ou, .inl (k4, 1, .inr (.inl (fun _ => 0))))]) (hS : va_S A s.heap H locs) (hl : lv_has ls 8 [(4, .int 0), (3, .ref ou), (2, .ref g0), (1, .ref h0), (0, .ref b)]) : W p l e room_1 s m #[Value.ref b] below meth c H locs 38 14124 (lw_Z below #[Value.ref b] s) (F0 m 727 ls []) := by
  refine lv_aload_n hx hb d_LW_law_727 rfl (lv_at hl 3 rfl) ?_
  refine lv_aload_n hx hb d_LW_law_728 rfl (lv_at hl 4 rfl) ?_
  refine lv_iload hx hb d_LW_law_729 (lv_at hl 0 rfl) ?_
  refine lv_iconst (v := 1) hx hb d_LW_law_731 (by decide) ?_
  refine lv_iadd hx hb d_LW_law_732 ?_
  refine lv_topi (fun v1 ev1 => ?_)
  obtain rfl : v1 = 1 := ev1.trans (by decide)
  refine va_sld hx hb hX hbl hbA hS (show vp_in (nI 1) 6 from vp_in_nI (by decide) (by decide)) d_LW_law_733 ?_
  refine W.eq (g2 := F0 m 734 ls [.int (xs 1), .ref h0]) rfl ?_
  refine lv_aload_n hx hb d_LW_law_734 rfl (lv_at hl 1 rfl) ?_
  have hPc := hP.sub (ws' := [(h0, .inr (0, [.ref rq, .ref oa, .ref pl, .ref dk, .ref rw, .int 0, .int 0, .int (-1)]))]) [0] rfl
  have hKc := hK.sub (tys' := []) [] rfl
  have hDc := hD.sub (ws' := [(h0, .inr (0, [.ref rq, .ref oa, .ref pl, .ref dk, .ref rw, .int 0, .int 0, .int (-1)]))]) [0] (by decide) rfl
  have hFc := va_free (wc := [(h0, .inr (0, [.ref rq, .ref oa, .ref pl, .ref dk, .ref rw, .int 0, .int 0, .int (-1)]))]) hD hS hA [0] rfl
  refine fr_call (tw_runSW (As := [.ref h0, .int (xs 1), .ref ou]) (rest := []) ⟨hx, hb, hml, hown, ht⟩ (c_LW_recorded_bad l dC dI H.size s.heap.size hl9 h0 rq oa pl dk rw ou (xs 1)) rfl rfl ⟨Nat.le_of_ble_eq_true rfl, Nat.le_of_ble_eq_true rfl⟩ (pay_in ht (gW tb_542)) (show _ ∈ w_LW_recorded from List.mem_cons_self) (ht _ tb_540) (ht _ tb_541) (ht _ tb_0) (n := 3) (by decide +kernel) ⟨frP_blind, fr_pre hPc hKc hDc hAB hBs hS hV⟩ rfl rfl hl.1 rfl (lv_room (Nat.le_of_ble_eq_true rfl)) d_LW_law_735 ⟨Nat.le_of_ble_eq_true rfl, Nat.le_of_ble_eq_true rfl⟩) hS (fun q _ h => hFc q h) hFc (fun t H1 locs ht1 hvm hB1 hz1 hk1 hS => ?_)
  obtain ⟨hP1, hK1, hD1⟩ := hB1
  rw [ht1] at hP1
  have hK1 := va_K.moved hvm.symm hK1
  obtain ⟨hP, hD⟩ := va_join (wr := [(rq, .inl (k1, 40, .inr (.inr (.inr (.inr (fun _ => none)))))), (oa, .inl (k2, 8, .inl (fun _ => 0))), (pl, .inr (1, [.ref q9, .int 0])), (dk, .inr (2, [.ref d1, .ref d2, .ref d3, .ref d4])), (d1, .inl (k3, 24, .inl (fun _ => -1))), (rw, .inr (3, [.ref r1, .int 0, .int 0])), (g0, .inr (5, [.int 0, .int 0, .int (-1), .ref m3, .int 0, .ref m5, .ref m6, .ref m7, .ref m8, .ref m9, .ref m10, .ref m11, .ref m12, .ref m13, .ref m14, .ref m15, .ref m16, .ref m17, .ref m18, .ref m19, .ref m20, .int 0, .ref m22, .ref m23, .ref m24, .ref m25, .ref m26, .ref m27, .int 0, .ref m29])), (m3, .inl (j3, 8, .inl (fun _ => 0))), (m5, .inl (j5, 40, .inl (fun _ => 0))), (m6, .inl (j6, 40, .inl (fun _ => 0))), (m7, .inl (j7, 40, .inl (fun _ => 0))), (m8, .inl (j8, 40, .inl (fun _ => 0))), (m9, .inl (j9, 40, .inl (fun _ => 0))), (m10, .inl (j10, 40, .inl (fun _ => 0))), (ou, .inl (k4, 1, .inr (.inl (fun _ => 0))))]) (w1 := [(h0, .inr (0, [.ref rq, .ref oa, .ref pl, .ref dk, .ref rw, .int 0, .int 0, .int (-1)]))]) hP hD [0] [1, 2, 3, 4, 5, 6, 7, 8, 9, 10, 11, 12, 13, 14, 15] rfl rfl (by decide) (by decide) hk1 hFc hP1 hD1
  have hK := hK.app hK1
  generalize H1 = H at hP hS ⊢
  have hP : va_P (dC, dI) cls_ [(rq, .inl (k1, 40, .inr (.inr (.inr (.inr (fun _ => none)))))), (oa, .inl (k2, 8, .inl (fun _ => 0))), (pl, .inr (1, [.ref q9, .int 0])), (dk, .inr (2, [.ref d1, .ref d2, .ref d3, .ref d4])), (d1, .inl (k3, 24, .inl (fun _ => -1))), (rw, .inr (3, [.ref r1, .int 0, .int 0])), (g0, .inr (5, [.int 0, .int 0, .int (-1), .ref m3, .int 0, .ref m5, .ref m6, .ref m7, .ref m8, .ref m9, .ref m10, .ref m11, .ref m12, .ref m13, .ref m14, .ref m15, .ref m16, .ref m17, .ref m18, .ref m19, .ref m20, .int 0, .ref m22, .ref m23, .ref m24, .ref m25, .ref m26, .ref m27, .int 0, .ref m29])), (m3, .inl (j3, 8, .inl (fun _ => 0))), (m5, .inl (j5, 40, .inl (fun _ => 0))), (m6, .inl (j6, 40, .inl (fun _ => 0))), (m7, .inl (j7, 40, .inl (fun _ => 0))), (m8, .inl (j8, 40, .inl (fun _ => 0))), (m9, .inl (j9, 40, .inl (fun _ => 0))), (m10, .inl (j10, 40, .inl (fun _ => 0))), (ou, .inl (k4, 1, .inr (.inl (fun _ => 0)))), (h0, .inr (0, [.ref rq, .ref oa, .ref pl, .ref dk, .ref rw, .int 0, .int 0, .int (-1)]))] H := hP
  have hD : va_D A [(rq, .inl (k1, 40, .inr (.inr (.inr (.inr (fun _ => none)))))), (oa, .inl (k2, 8, .inl (fun _ => 0))), (pl, .inr (1, [.ref q9, .int 0])), (dk, .inr (2, [.ref d1, .ref d2, .ref d3, .ref d4])), (d1, .inl (k3, 24, .inl (fun _ => -1))), (rw, .inr (3, [.ref r1, .int 0, .int 0])), (g0, .inr (5, [.int 0, .int 0, .int (-1), .ref m3, .int 0, .ref m5, .ref m6, .ref m7, .ref m8, .ref m9, .ref m10, .ref m11, .ref m12, .ref m13, .ref m14, .ref m15, .ref m16, .ref m17, .ref m18, .ref m19, .ref m20, .int 0, .ref m22, .ref m23, .ref m24, .ref m25, .ref m26, .ref m27, .int 0, .ref m29])), (m3, .inl (j3, 8, .inl (fun _ => 0))), (m5, .inl (j5, 40, .inl (fun _ => 0))), (m6, .inl (j6, 40, .inl (fun _ => 0))), (m7, .inl (j7, 40, .inl (fun _ => 0))), (m8, .inl (j8, 40, .inl (fun _ => 0))), (m9, .inl (j9, 40, .inl (fun _ => 0))), (m10, .inl (j10, 40, .inl (fun _ => 0))), (ou, .inl (k4, 1, .inr (.inl (fun _ => 0)))), (h0, .inr (0, [.ref rq, .ref oa, .ref pl, .ref dk, .ref rw, .int 0, .int 0, .int (-1)]))] := hD
  have hK : va_K (dC, dI) cls_ [(k1, .object "TwinTuners$Request"), (k2, .int), (k3, .int), (j3, .int), (j5, .int), (j6, .int), (j7, .int), (j8, .int), (j9, .int), (j10, .int), (k4, .long)] s := hK
  refine W.eq (g2 := F0 m 738 ls [.int 1]) rfl ?_
  refine W.cs (cells' := 39) (slots' := 14130) rfl rfl ?_
  refine lv_istore hx hb d_LW_law_738 hl (by decide) rfl (fun ls hl => ?_)
  have hl : lv_has ls 8 [(5, .int 1), (4, .int 0), (3, .ref ou), (2, .ref g0), (1, .ref h0), (0, .ref b)] := hl
  refine lv_aload_n hx hb d_LW_law_740 rfl (lv_at hl 3 rfl) ?_
  refine lv_aload_n hx hb d_LW_law_741 rfl (lv_at hl 5 rfl) ?_
  refine lv_iload hx hb d_LW_law_742 (lv_at hl 1 rfl) ?_
  refine lv_iconst (v := 1) hx hb d_LW_law_744 (by decide) ?_
  refine lv_iadd hx hb d_LW_law_745 ?_
  refine lv_topi (fun v2 ev2 => ?_)
  obtain rfl : v2 = 1 := ev2.trans (by decide)
  refine va_sld hx hb hX hbl hbA hS (show vp_in (nI 1) 6 from vp_in_nI (by decide) (by decide)) d_LW_law_746 ?_
  refine W.eq (g2 := F0 m 747 ls [.int (xs 1), .ref g0]) rfl ?_
  have hPc := hP.sub (ws' := [(g0, .inr (5, [.int 0, .int 0, .int (-1), .ref m3, .int 0, .ref m5, .ref m6, .ref m7, .ref m8, .ref m9, .ref m10, .ref m11, .ref m12, .ref m13, .ref m14, .ref m15, .ref m16, .ref m17, .ref m18, .ref m19, .ref m20, .int 0, .ref m22, .ref m23, .ref m24, .ref m25, .ref m26, .ref m27, .int 0, .ref m29]))]) [6] rfl
  have hKc := hK.sub (tys' := []) [] rfl
  have hDc := hD.sub (ws' := [(g0, .inr (5, [.int 0, .int 0, .int (-1), .ref m3, .int 0, .ref m5, .ref m6, .ref m7, .ref m8, .ref m9, .ref m10, .ref m11, .ref m12, .ref m13, .ref m14, .ref m15, .ref m16, .ref m17, .ref m18, .ref m19, .ref m20, .int 0, .ref m22, .ref m23, .ref m24, .ref m25, .ref m26, .ref m27, .int 0, .ref m29]))]) [6] (by decide) rfl
  have hFc := va_free (wc := [(g0, .inr (5, [.int 0, .int 0, .int (-1), .ref m3, .int 0, .ref m5, .ref m6, .ref m7, .ref m8, .ref m9, .ref m10, .ref m11, .ref m12, .ref m13, .ref m14, .ref m15, .ref m16, .ref m17, .ref m18, .ref m19, .ref m20, .int 0, .ref m22, .ref m23, .ref m24, .ref m25, .ref m26, .ref m27, .int 0, .ref m29]))]) hD hS hA [6] rfl
  refine fr_call (va_runV (C := R_MO) (As := [.int (xs 1)]) (rest := []) ⟨hx, hb, hml, hown, ht⟩ (c_MO_recorded_bad l dC dI H.size s.heap.size g0 m3 m5 m6 m7 m8 m9 m10 m11 m12 m13 m14 m15 m16 m17 m18 m19 m20 m22 m23 m24 m25 m26 m27 m29 (xs 1)) (cwV 1 ht (gV tb_874 tb_875 tb_876 tb_5 tb_877) rfl rfl rfl (by decide +kernel) ⟨Nat.le_of_ble_eq_true rfl, Nat.le_of_ble_eq_true rfl⟩) ⟨frP_blind, va_recv (q := (R_MO, F_MO, 30)) hK hP rfl (show ([(rq, .inl (k1, 40, .inr (.inr (.inr (.inr (fun _ => none)))))), (oa, .inl (k2, 8, .inl (fun _ => 0))), (pl, .inr (1, [.ref q9, .int 0])), (dk, .inr (2, [.ref d1, .ref d2, .ref d3, .ref d4])), (d1, .inl (k3, 24, .inl (fun _ => -1))), (rw, .inr (3, [.ref r1, .int 0, .int 0])), (g0, .inr (5, [.int 0, .int 0, .int (-1), .ref m3, .int 0, .ref m5, .ref m6, .ref m7, .ref m8, .ref m9, .ref m10, .ref m11, .ref m12, .ref m13, .ref m14, .ref m15, .ref m16, .ref m17, .ref m18, .ref m19, .ref m20, .int 0, .ref m22, .ref m23, .ref m24, .ref m25, .ref m26, .ref m27, .int 0, .ref m29])), (m3, .inl (j3, 8, .inl (fun _ => 0))), (m5, .inl (j5, 40, .inl (fun _ => 0))), (m6, .inl (j6, 40, .inl (fun _ => 0))), (m7, .inl (j7, 40, .inl (fun _ => 0))), (m8, .inl (j8, 40, .inl (fun _ => 0))), (m9, .inl (j9, 40, .inl (fun _ => 0))), (m10, .inl (j10, 40, .inl (fun _ => 0))), (ou, .inl (k4, 1, .inr (.inl (fun _ => 0)))), (h0, .inr (0, [.ref rq, .ref oa, .ref pl, .ref dk, .ref rw, .int 0, .int 0, .int (-1)]))] : va_W)[6]? = some (g0, .inr (5, [.int 0, .int 0, .int (-1), .ref m3, .int 0, .ref m5, .ref m6, .ref m7, .ref m8, .ref m9, .ref m10, .ref m11, .ref m12, .ref m13, .ref m14, .ref m15, .ref m16, .ref m17, .ref m18, .ref m19, .ref m20, .int 0, .ref m22, .ref m23, .ref m24, .ref m25, .ref m26, .ref m27, .int 0, .ref m29])) from rfl), fr_pre hPc hKc hDc hAB hBs hS hV⟩ rfl rfl hl.1 rfl (lv_room (Nat.le_of_ble_eq_true rfl)) d_LW_law_747 ⟨Nat.le_of_ble_eq_true rfl, Nat.le_of_ble_eq_true rfl⟩) hS (fun q _ h => hFc q h) hFc (fun t H1 locs ht1 hvm hB1 hz1 hk1 hS => ?_)
  obtain ⟨hP1, hK1, hD1⟩ := hB1
  rw [ht1] at hP1
  have hK1 := va_K.moved hvm.symm hK1
  obtain ⟨hP, hD⟩ := va_join (wr := [(rq, .inl (k1, 40, .inr (.inr (.inr (.inr (fun _ => none)))))), (oa, .inl (k2, 8, .inl (fun _ => 0))), (pl, .inr (1, [.ref q9, .int 0])), (dk, .inr (2, [.ref d1, .ref d2, .ref d3, .ref d4])), (d1, .inl (k3, 24, .inl (fun _ => -1))), (rw, .inr (3, [.ref r1, .int 0, .int 0])), (m3, .inl (j3, 8, .inl (fun _ => 0))), (m5, .inl (j5, 40, .inl (fun _ => 0))), (m6, .inl (j6, 40, .inl (fun _ => 0))), (m7, .inl (j7, 40, .inl (fun _ => 0))), (m8, .inl (j8, 40, .inl (fun _ => 0))), (m9, .inl (j9, 40, .inl (fun _ => 0))), (m10, .inl (j10, 40, .inl (fun _ => 0))), (ou, .inl (k4, 1, .inr (.inl (fun _ => 0)))), (h0, .inr (0, [.ref rq, .ref oa, .ref pl, .ref dk, .ref rw, .int 0, .int 0, .int (-1)]))]) (w1 := [(g0, .inr (5, [.int 1, .int 0, .int (-1), .ref m3, .int 0, .ref m5, .ref m6, .ref m7, .ref m8, .ref m9, .ref m10, .ref m11, .ref m12, .ref m13, .ref m14, .ref m15, .ref m16, .ref m17, .ref m18, .ref m19, .ref m20, .int 0, .ref m22, .ref m23, .ref m24, .ref m25, .ref m26, .ref m27, .int 0, .ref m29]))]) hP hD [6] [0, 1, 2, 3, 4, 5, 7, 8, 9, 10, 11, 12, 13, 14, 15] rfl rfl (by decide) (by decide) hk1 hFc hP1 hD1
  have hK := hK.app hK1
  generalize H1 = H at hP hS ⊢
  have hP : va_P (dC, dI) cls_ [(rq, .inl (k1, 40, .inr (.inr (.inr (.inr (fun _ => none)))))), (oa, .inl (k2, 8, .inl (fun _ => 0))), (pl, .inr (1, [.ref q9, .int 0])), (dk, .inr (2, [.ref d1, .ref d2, .ref d3, .ref d4])), (d1, .inl (k3, 24, .inl (fun _ => -1))), (rw, .inr (3, [.ref r1, .int 0, .int 0])), (m3, .inl (j3, 8, .inl (fun _ => 0))), (m5, .inl (j5, 40, .inl (fun _ => 0))), (m6, .inl (j6, 40, .inl (fun _ => 0))), (m7, .inl (j7, 40, .inl (fun _ => 0))), (m8, .inl (j8, 40, .inl (fun _ => 0))), (m9, .inl (j9, 40, .inl (fun _ => 0))), (m10, .inl (j10, 40, .inl (fun _ => 0))), (ou, .inl (k4, 1, .inr (.inl (fun _ => 0)))), (h0, .inr (0, [.ref rq, .ref oa, .ref pl, .ref dk, .ref rw, .int 0, .int 0, .int (-1)])), (g0, .inr (5, [.int 1, .int 0, .int (-1), .ref m3, .int 0, .ref m5, .ref m6, .ref m7, .ref m8, .ref m9, .ref m10, .ref m11, .ref m12, .ref m13, .ref m14, .ref m15, .ref m16, .ref m17, .ref m18, .ref m19, .ref m20, .int 0, .ref m22, .ref m23, .ref m24, .ref m25, .ref m26, .ref m27, .int 0, .ref m29]))] H := hP
  have hD : va_D A [(rq, .inl (k1, 40, .inr (.inr (.inr (.inr (fun _ => none)))))), (oa, .inl (k2, 8, .inl (fun _ => 0))), (pl, .inr (1, [.ref q9, .int 0])), (dk, .inr (2, [.ref d1, .ref d2, .ref d3, .ref d4])), (d1, .inl (k3, 24, .inl (fun _ => -1))), (rw, .inr (3, [.ref r1, .int 0, .int 0])), (m3, .inl (j3, 8, .inl (fun _ => 0))), (m5, .inl (j5, 40, .inl (fun _ => 0))), (m6, .inl (j6, 40, .inl (fun _ => 0))), (m7, .inl (j7, 40, .inl (fun _ => 0))), (m8, .inl (j8, 40, .inl (fun _ => 0))), (m9, .inl (j9, 40, .inl (fun _ => 0))), (m10, .inl (j10, 40, .inl (fun _ => 0))), (ou, .inl (k4, 1, .inr (.inl (fun _ => 0)))), (h0, .inr (0, [.ref rq, .ref oa, .ref pl, .ref dk, .ref rw, .int 0, .int 0, .int (-1)])), (g0, .inr (5, [.int 1, .int 0, .int (-1), .ref m3, .int 0, .ref m5, .ref m6, .ref m7, .ref m8, .ref m9, .ref m10, .ref m11, .ref m12, .ref m13, .ref m14, .ref m15, .ref m16, .ref m17, .ref m18, .ref m19, .ref m20, .int 0, .ref m22, .ref m23, .ref m24, .ref m25, .ref m26, .ref m27, .int 0, .ref m29]))] := hD
  have hK : va_K (dC, dI) cls_ [(k1, .object "TwinTuners$Request"), (k2, .int), (k3, .int), (j3, .int), (j5, .int), (j6, .int), (j7, .int), (j8, .int), (j9, .int), (j10, .int), (k4, .long)] s := hK
  refine W.eq (g2 := F0 m 750 ls [.int 0]) rfl ?_
  refine W.cs (cells' := 39) (slots' := 14130) rfl rfl ?_
  refine lv_istore hx hb d_LW_law_750 hl (by decide) rfl (fun ls hl => ?_)
  have hl : lv_has ls 8 [(6, .int 0), (5, .int 1), (4, .int 0), (3, .ref ou), (2, .ref g0), (1, .ref h0), (0, .ref b)] := hl
  refine lv_aload_n hx hb d_LW_law_752 rfl (lv_at hl 4 rfl) ?_
  have hPc := hP.sub (ws' := [(g0, .inr (5, [.int 1, .int 0, .int (-1), .ref m3, .int 0, .ref m5, .ref m6, .ref m7, .ref m8, .ref m9, .ref m10, .ref m11, .ref m12, .ref m13, .ref m14, .ref m15, .ref m16, .ref m17, .ref m18, .ref m19, .ref m20, .int 0, .ref m22, .ref m23, .ref m24, .ref m25, .ref m26, .ref m27, .int 0, .ref m29]))]) [15] rfl
  have hKc := hK.sub (tys' := []) [] rfl
  refine rd_call (va_runV (C := R_MO) (As := []) (rest := []) ⟨hx, hb, hml, hown, ht⟩ (c_MO_thrown_v l dC dI g0 m3 m5 m6 m7 m8 m9 m10 m11 m12 m13 m14 m15 m16 m17 m18 m19 m20 m22 m23 m24 m25 m26 m27 m29 1 0 (-1) 0) (cwV 0 ht (gV tb_723 tb_724 tb_725 tb_5 tb_726) rfl rfl rfl (by decide +kernel) ⟨Nat.le_of_ble_eq_true rfl, Nat.le_of_ble_eq_true rfl⟩) ⟨rdP_blind, va_recv (q := (R_MO, F_MO, 30)) hK hP rfl (show ([(rq, .inl (k1, 40, .inr (.inr (.inr (.inr (fun _ => none)))))), (oa, .inl (k2, 8, .inl (fun _ => 0))), (pl, .inr (1, [.ref q9, .int 0])), (dk, .inr (2, [.ref d1, .ref d2, .ref d3, .ref d4])), (d1, .inl (k3, 24, .inl (fun _ => -1))), (rw, .inr (3, [.ref r1, .int 0, .int 0])), (m3, .inl (j3, 8, .inl (fun _ => 0))), (m5, .inl (j5, 40, .inl (fun _ => 0))), (m6, .inl (j6, 40, .inl (fun _ => 0))), (m7, .inl (j7, 40, .inl (fun _ => 0))), (m8, .inl (j8, 40, .inl (fun _ => 0))), (m9, .inl (j9, 40, .inl (fun _ => 0))), (m10, .inl (j10, 40, .inl (fun _ => 0))), (ou, .inl (k4, 1, .inr (.inl (fun _ => 0)))), (h0, .inr (0, [.ref rq, .ref oa, .ref pl, .ref dk, .ref rw, .int 0, .int 0, .int (-1)])), (g0, .inr (5, [.int 1, .int 0, .int (-1), .ref m3, .int 0, .ref m5, .ref m6, .ref m7, .ref m8, .ref m9, .ref m10, .ref m11, .ref m12, .ref m13, .ref m14, .ref m15, .ref m16, .ref m17, .ref m18, .ref m19, .ref m20, .int 0, .ref m22, .ref m23, .ref m24, .ref m25, .ref m26, .ref m27, .int 0, .ref m29]))] : va_W)[15]? = some (g0, .inr (5, [.int 1, .int 0, .int (-1), .ref m3, .int 0, .ref m5, .ref m6, .ref m7, .ref m8, .ref m9, .ref m10, .ref m11, .ref m12, .ref m13, .ref m14, .ref m15, .ref m16, .ref m17, .ref m18, .ref m19, .ref m20, .int 0, .ref m22, .ref m23, .ref m24, .ref m25, .ref m26, .ref m27, .int 0, .ref m29])) from rfl), rd_pre hPc hKc⟩ rfl rfl hl.1 rfl (lv_room (Nat.le_of_ble_eq_true rfl)) d_LW_law_753 ⟨Nat.le_of_ble_eq_true rfl, Nat.le_of_ble_eq_true rfl⟩) ?_
  refine W.eq (g2 := F0 m 756 ls [.int 1]) rfl ?_
  refine lv_iload hx hb d_LW_law_756 (lv_at hl 1 rfl) ?_
  refine lv_icmp_eq (tgt := 763) hx hb d_LW_law_758 (by decide) (fun _ => ?_) (fun h9 => absurd (rfl) h9)
  refine lv_iload hx hb d_LW_law_763 (lv_at hl 1 rfl) ?_
  refine lv_if_ne (tgt := 780) hx hb d_LW_law_765 (by decide) (fun _ => ?_) (fun h9 => absurd h9 (by decide))
  refine lv_goto (tgt := 1228) hx hb d_LW_law_780 (by decide) ?_
  have hl := lv_sub hl [2, 6] (l' := [(4, .int 0), (0, .ref b)]) rfl
  exact tl_end hx hb hr hlocks hbl hbA hAB hX (Nat.le_of_ble_eq_true rfl) (Nat.le_of_ble_eq_true rfl) hS hl
set_option maxHeartbeats 4000000 in
set_option maxRecDepth 100000 in
theorem cs_13 {p : Program} {l : Launch} {e : Env} {s : State} {m : MethodId} {below : List Frame} {meth : Method} {c : Code} {A : Nat → Prop} {b : Nat} {H : Heap} {locs : List Loc} {ls : Array Slot} {xs : Nat → Int32} (dC : Nat → ClassId) (dI : Nat → Nat → Nat) (h0 rq oa pl dk rw q9 d1 d2 d3 d4 r1 g0 m3 m5 m6 m7 m8 m9 m10 m11 m12 m13 m14 m15 m16 m17 m18 m19 m20 m22 m23 m24 m25 m26 m27 m29 ou : Nat) (k1 k2 k3 j3 j5 j6 j7 j8 j9 j10 k4 : ClassId) (hl9 : l.stackTraces = false) (hx : p.tables.exec = Jvm.exec) (hb : c.code = code) (hr : meth.sig.returnType = ret) (hlocks : meth.locks = false) (hbl : b < s.heap.size) (hbA : ¬ A b) (hAB : ∀ q, A q → s.heap.size ≤ q) (hX : va_X b 6 xs s s.heap) (hml : c.maxLocals = 8) (hown : s.vm.findClass R_LW = some m.cls) (ht : ∀ w ∈ tb_, w.before #[Value.ref b] s = true) (hA : ∀ q : Nat, s.heap.size ≤ q → A q) (hBs : s.heap.size ≤ s.heap.size) (hV : tw_V s.heap.size s s.heap)
    (hK : va_K (dC, dI) cls_ [(k1, .object "TwinTuners$Request"), (k2, .int), (k3, .int), (j3, .int), (j5, .int), (j6, .int), (j7, .int), (j8, .int), (j9, .int), (j10, .int), (k4, .long)] s) (hP : va_P (dC, dI) cls_ [(h0, .inr (0, [.ref rq, .ref oa, .ref pl, .ref dk, .ref rw, .int 0, .int 0, .int (-1)])), (rq, .inl (k1, 40, .inr (.inr (.inr (.inr (fun _ => none)))))), (oa, .inl (k2, 8, .inl (fun _ => 0))), (pl, .inr (1, [.ref q9, .int 0])), (dk, .inr (2, [.ref d1, .ref d2, .ref d3, .ref d4])), (d1, .inl (k3, 24, .inl (fun _ => -1))), (rw, .inr (3, [.ref r1, .int 0, .int 0])), (g0, .inr (5, [.int 0, .int 0, .int (-1), .ref m3, .int 0, .ref m5, .ref m6, .ref m7, .ref m8, .ref m9, .ref m10, .ref m11, .ref m12, .ref m13, .ref m14, .ref m15, .ref m16, .ref m17, .ref m18, .ref m19, .ref m20, .int 0, .ref m22, .ref m23, .ref m24, .ref m25, .ref m26, .ref m27, .int 0, .ref m29])), (m3, .inl (j3, 8, .inl (fun _ => 0))), (m5, .inl (j5, 40, .inl (fun _ => 0))), (m6, .inl (j6, 40, .inl (fun _ => 0))), (m7, .inl (j7, 40, .inl (fun _ => 0))), (m8, .inl (j8, 40, .inl (fun _ => 0))), (m9, .inl (j9, 40, .inl (fun _ => 0))), (m10, .inl (j10, 40, .inl (fun _ => 0))), (ou, .inl (k4, 1, .inr (.inl (fun _ => 0))))] H) (hD : va_D A [(h0, .inr (0, [.ref rq, .ref oa, .ref pl, .ref dk, .ref rw, .int 0, .int 0, .int (-1)])), (rq, .inl (k1, 40, .inr (.inr (.inr (.inr (fun _ => none)))))), (oa, .inl (k2, 8, .inl (fun _ => 0))), (pl, .inr (1, [.ref q9, .int 0])), (dk, .inr (2, [.ref d1, .ref d2, .ref d3, .ref d4])), (d1, .inl (k3, 24, .inl (fun _ => -1))), (rw, .inr (3, [.ref r1, .int 0, .int 0])), (g0, .inr (5, [.int 0, .int 0, .int (-1), .ref m3, .int 0, .ref m5, .ref m6, .ref m7, .ref m8, .ref m9, .ref m10, .ref m11, .ref m12, .ref m13, .ref m14, .ref m15, .ref m16, .ref m17, .ref m18, .ref m19, .ref m20, .int 0, .ref m22, .ref m23, .ref m24, .ref m25, .ref m26, .ref m27, .int 0, .ref m29])), (m3, .inl (j3, 8, .inl (fun _ => 0))), (m5, .inl (j5, 40, .inl (fun _ => 0))), (m6, .inl (j6, 40, .inl (fun _ => 0))), (m7, .inl (j7, 40, .inl (fun _ => 0))), (m8, .inl (j8, 40, .inl (fun _ => 0))), (m9, .inl (j9, 40, .inl (fun _ => 0))), (m10, .inl (j10, 40, .inl (fun _ => 0))), (ou, .inl (k4, 1, .inr (.inl (fun _ => 0))))]) (hS : va_S A s.heap H locs) (hl : lv_has ls 8 [(4, .int 0), (3, .ref ou), (2, .ref g0), (1, .ref h0), (0, .ref b)]) : W p l e room_1 s m #[Value.ref b] below meth c H locs 38 14124 (lw_Z below #[Value.ref b] s) (F0 m 783 ls []) := by
  refine lv_aload_n hx hb d_LW_law_783 rfl (lv_at hl 3 rfl) ?_
  refine lv_aload_n hx hb d_LW_law_784 rfl (lv_at hl 4 rfl) ?_
  refine lv_iload hx hb d_LW_law_785 (lv_at hl 0 rfl) ?_
  refine lv_iconst (v := 1) hx hb d_LW_law_787 (by decide) ?_
  refine lv_iadd hx hb d_LW_law_788 ?_
  refine lv_topi (fun v1 ev1 => ?_)
  obtain rfl : v1 = 1 := ev1.trans (by decide)
  refine va_sld hx hb hX hbl hbA hS (show vp_in (nI 1) 6 from vp_in_nI (by decide) (by decide)) d_LW_law_789 ?_
  refine W.eq (g2 := F0 m 790 ls [.int (xs 1), .ref h0]) rfl ?_
  refine lv_aload_n hx hb d_LW_law_790 rfl (lv_at hl 1 rfl) ?_
  have hPc := hP.sub (ws' := [(h0, .inr (0, [.ref rq, .ref oa, .ref pl, .ref dk, .ref rw, .int 0, .int 0, .int (-1)]))]) [0] rfl
  have hKc := hK.sub (tys' := []) [] rfl
  have hDc := hD.sub (ws' := [(h0, .inr (0, [.ref rq, .ref oa, .ref pl, .ref dk, .ref rw, .int 0, .int 0, .int (-1)]))]) [0] (by decide) rfl
  have hFc := va_free (wc := [(h0, .inr (0, [.ref rq, .ref oa, .ref pl, .ref dk, .ref rw, .int 0, .int 0, .int (-1)]))]) hD hS hA [0] rfl
  refine fr_call (tw_runSW (As := [.ref h0, .int (xs 1), .ref ou]) (rest := []) ⟨hx, hb, hml, hown, ht⟩ (c_LW_shortBy_bad l dC dI H.size s.heap.size hl9 h0 rq oa pl dk rw ou (xs 1)) rfl rfl ⟨Nat.le_of_ble_eq_true rfl, Nat.le_of_ble_eq_true rfl⟩ (pay_in ht (gW tb_554)) (show _ ∈ w_LW_shortBy from List.mem_cons_self) (ht _ tb_552) (ht _ tb_553) (ht _ tb_0) (n := 3) (by decide +kernel) ⟨frP_blind, fr_pre hPc hKc hDc hAB hBs hS hV⟩ rfl rfl hl.1 rfl (lv_room (Nat.le_of_ble_eq_true rfl)) d_LW_law_791 ⟨Nat.le_of_ble_eq_true rfl, Nat.le_of_ble_eq_true rfl⟩) hS (fun q _ h => hFc q h) hFc (fun t H1 locs ht1 hvm hB1 hz1 hk1 hS => ?_)
  obtain ⟨hP1, hK1, hD1⟩ := hB1
  rw [ht1] at hP1
  have hK1 := va_K.moved hvm.symm hK1
  obtain ⟨hP, hD⟩ := va_join (wr := [(rq, .inl (k1, 40, .inr (.inr (.inr (.inr (fun _ => none)))))), (oa, .inl (k2, 8, .inl (fun _ => 0))), (pl, .inr (1, [.ref q9, .int 0])), (dk, .inr (2, [.ref d1, .ref d2, .ref d3, .ref d4])), (d1, .inl (k3, 24, .inl (fun _ => -1))), (rw, .inr (3, [.ref r1, .int 0, .int 0])), (g0, .inr (5, [.int 0, .int 0, .int (-1), .ref m3, .int 0, .ref m5, .ref m6, .ref m7, .ref m8, .ref m9, .ref m10, .ref m11, .ref m12, .ref m13, .ref m14, .ref m15, .ref m16, .ref m17, .ref m18, .ref m19, .ref m20, .int 0, .ref m22, .ref m23, .ref m24, .ref m25, .ref m26, .ref m27, .int 0, .ref m29])), (m3, .inl (j3, 8, .inl (fun _ => 0))), (m5, .inl (j5, 40, .inl (fun _ => 0))), (m6, .inl (j6, 40, .inl (fun _ => 0))), (m7, .inl (j7, 40, .inl (fun _ => 0))), (m8, .inl (j8, 40, .inl (fun _ => 0))), (m9, .inl (j9, 40, .inl (fun _ => 0))), (m10, .inl (j10, 40, .inl (fun _ => 0))), (ou, .inl (k4, 1, .inr (.inl (fun _ => 0))))]) (w1 := [(h0, .inr (0, [.ref rq, .ref oa, .ref pl, .ref dk, .ref rw, .int 0, .int 0, .int (-1)]))]) hP hD [0] [1, 2, 3, 4, 5, 6, 7, 8, 9, 10, 11, 12, 13, 14, 15] rfl rfl (by decide) (by decide) hk1 hFc hP1 hD1
  have hK := hK.app hK1
  generalize H1 = H at hP hS ⊢
  have hP : va_P (dC, dI) cls_ [(rq, .inl (k1, 40, .inr (.inr (.inr (.inr (fun _ => none)))))), (oa, .inl (k2, 8, .inl (fun _ => 0))), (pl, .inr (1, [.ref q9, .int 0])), (dk, .inr (2, [.ref d1, .ref d2, .ref d3, .ref d4])), (d1, .inl (k3, 24, .inl (fun _ => -1))), (rw, .inr (3, [.ref r1, .int 0, .int 0])), (g0, .inr (5, [.int 0, .int 0, .int (-1), .ref m3, .int 0, .ref m5, .ref m6, .ref m7, .ref m8, .ref m9, .ref m10, .ref m11, .ref m12, .ref m13, .ref m14, .ref m15, .ref m16, .ref m17, .ref m18, .ref m19, .ref m20, .int 0, .ref m22, .ref m23, .ref m24, .ref m25, .ref m26, .ref m27, .int 0, .ref m29])), (m3, .inl (j3, 8, .inl (fun _ => 0))), (m5, .inl (j5, 40, .inl (fun _ => 0))), (m6, .inl (j6, 40, .inl (fun _ => 0))), (m7, .inl (j7, 40, .inl (fun _ => 0))), (m8, .inl (j8, 40, .inl (fun _ => 0))), (m9, .inl (j9, 40, .inl (fun _ => 0))), (m10, .inl (j10, 40, .inl (fun _ => 0))), (ou, .inl (k4, 1, .inr (.inl (fun _ => 0)))), (h0, .inr (0, [.ref rq, .ref oa, .ref pl, .ref dk, .ref rw, .int 0, .int 0, .int (-1)]))] H := hP
  have hD : va_D A [(rq, .inl (k1, 40, .inr (.inr (.inr (.inr (fun _ => none)))))), (oa, .inl (k2, 8, .inl (fun _ => 0))), (pl, .inr (1, [.ref q9, .int 0])), (dk, .inr (2, [.ref d1, .ref d2, .ref d3, .ref d4])), (d1, .inl (k3, 24, .inl (fun _ => -1))), (rw, .inr (3, [.ref r1, .int 0, .int 0])), (g0, .inr (5, [.int 0, .int 0, .int (-1), .ref m3, .int 0, .ref m5, .ref m6, .ref m7, .ref m8, .ref m9, .ref m10, .ref m11, .ref m12, .ref m13, .ref m14, .ref m15, .ref m16, .ref m17, .ref m18, .ref m19, .ref m20, .int 0, .ref m22, .ref m23, .ref m24, .ref m25, .ref m26, .ref m27, .int 0, .ref m29])), (m3, .inl (j3, 8, .inl (fun _ => 0))), (m5, .inl (j5, 40, .inl (fun _ => 0))), (m6, .inl (j6, 40, .inl (fun _ => 0))), (m7, .inl (j7, 40, .inl (fun _ => 0))), (m8, .inl (j8, 40, .inl (fun _ => 0))), (m9, .inl (j9, 40, .inl (fun _ => 0))), (m10, .inl (j10, 40, .inl (fun _ => 0))), (ou, .inl (k4, 1, .inr (.inl (fun _ => 0)))), (h0, .inr (0, [.ref rq, .ref oa, .ref pl, .ref dk, .ref rw, .int 0, .int 0, .int (-1)]))] := hD
  have hK : va_K (dC, dI) cls_ [(k1, .object "TwinTuners$Request"), (k2, .int), (k3, .int), (j3, .int), (j5, .int), (j6, .int), (j7, .int), (j8, .int), (j9, .int), (j10, .int), (k4, .long)] s := hK
  refine W.eq (g2 := F0 m 794 ls [.int 1]) rfl ?_
  refine W.cs (cells' := 39) (slots' := 14130) rfl rfl ?_
  refine lv_istore hx hb d_LW_law_794 hl (by decide) rfl (fun ls hl => ?_)
  have hl : lv_has ls 8 [(5, .int 1), (4, .int 0), (3, .ref ou), (2, .ref g0), (1, .ref h0), (0, .ref b)] := hl
  refine lv_aload_n hx hb d_LW_law_796 rfl (lv_at hl 3 rfl) ?_
  refine lv_aload_n hx hb d_LW_law_797 rfl (lv_at hl 5 rfl) ?_
  refine lv_iload hx hb d_LW_law_798 (lv_at hl 1 rfl) ?_
  refine lv_iconst (v := 1) hx hb d_LW_law_800 (by decide) ?_
  refine lv_iadd hx hb d_LW_law_801 ?_
  refine lv_topi (fun v2 ev2 => ?_)
  obtain rfl : v2 = 1 := ev2.trans (by decide)
  refine va_sld hx hb hX hbl hbA hS (show vp_in (nI 1) 6 from vp_in_nI (by decide) (by decide)) d_LW_law_802 ?_
  refine W.eq (g2 := F0 m 803 ls [.int (xs 1), .ref g0]) rfl ?_
  have hPc := hP.sub (ws' := [(g0, .inr (5, [.int 0, .int 0, .int (-1), .ref m3, .int 0, .ref m5, .ref m6, .ref m7, .ref m8, .ref m9, .ref m10, .ref m11, .ref m12, .ref m13, .ref m14, .ref m15, .ref m16, .ref m17, .ref m18, .ref m19, .ref m20, .int 0, .ref m22, .ref m23, .ref m24, .ref m25, .ref m26, .ref m27, .int 0, .ref m29]))]) [6] rfl
  have hKc := hK.sub (tys' := []) [] rfl
  have hDc := hD.sub (ws' := [(g0, .inr (5, [.int 0, .int 0, .int (-1), .ref m3, .int 0, .ref m5, .ref m6, .ref m7, .ref m8, .ref m9, .ref m10, .ref m11, .ref m12, .ref m13, .ref m14, .ref m15, .ref m16, .ref m17, .ref m18, .ref m19, .ref m20, .int 0, .ref m22, .ref m23, .ref m24, .ref m25, .ref m26, .ref m27, .int 0, .ref m29]))]) [6] (by decide) rfl
  have hFc := va_free (wc := [(g0, .inr (5, [.int 0, .int 0, .int (-1), .ref m3, .int 0, .ref m5, .ref m6, .ref m7, .ref m8, .ref m9, .ref m10, .ref m11, .ref m12, .ref m13, .ref m14, .ref m15, .ref m16, .ref m17, .ref m18, .ref m19, .ref m20, .int 0, .ref m22, .ref m23, .ref m24, .ref m25, .ref m26, .ref m27, .int 0, .ref m29]))]) hD hS hA [6] rfl
  refine fr_call (va_runV (C := R_MO) (As := [.int (xs 1)]) (rest := []) ⟨hx, hb, hml, hown, ht⟩ (c_MO_shortBy_bad l dC dI H.size s.heap.size g0 m3 m5 m6 m7 m8 m9 m10 m11 m12 m13 m14 m15 m16 m17 m18 m19 m20 m22 m23 m24 m25 m26 m27 m29 (xs 1)) (cwV 1 ht (gV tb_878 tb_879 tb_880 tb_5 tb_881) rfl rfl rfl (by decide +kernel) ⟨Nat.le_of_ble_eq_true rfl, Nat.le_of_ble_eq_true rfl⟩) ⟨frP_blind, va_recv (q := (R_MO, F_MO, 30)) hK hP rfl (show ([(rq, .inl (k1, 40, .inr (.inr (.inr (.inr (fun _ => none)))))), (oa, .inl (k2, 8, .inl (fun _ => 0))), (pl, .inr (1, [.ref q9, .int 0])), (dk, .inr (2, [.ref d1, .ref d2, .ref d3, .ref d4])), (d1, .inl (k3, 24, .inl (fun _ => -1))), (rw, .inr (3, [.ref r1, .int 0, .int 0])), (g0, .inr (5, [.int 0, .int 0, .int (-1), .ref m3, .int 0, .ref m5, .ref m6, .ref m7, .ref m8, .ref m9, .ref m10, .ref m11, .ref m12, .ref m13, .ref m14, .ref m15, .ref m16, .ref m17, .ref m18, .ref m19, .ref m20, .int 0, .ref m22, .ref m23, .ref m24, .ref m25, .ref m26, .ref m27, .int 0, .ref m29])), (m3, .inl (j3, 8, .inl (fun _ => 0))), (m5, .inl (j5, 40, .inl (fun _ => 0))), (m6, .inl (j6, 40, .inl (fun _ => 0))), (m7, .inl (j7, 40, .inl (fun _ => 0))), (m8, .inl (j8, 40, .inl (fun _ => 0))), (m9, .inl (j9, 40, .inl (fun _ => 0))), (m10, .inl (j10, 40, .inl (fun _ => 0))), (ou, .inl (k4, 1, .inr (.inl (fun _ => 0)))), (h0, .inr (0, [.ref rq, .ref oa, .ref pl, .ref dk, .ref rw, .int 0, .int 0, .int (-1)]))] : va_W)[6]? = some (g0, .inr (5, [.int 0, .int 0, .int (-1), .ref m3, .int 0, .ref m5, .ref m6, .ref m7, .ref m8, .ref m9, .ref m10, .ref m11, .ref m12, .ref m13, .ref m14, .ref m15, .ref m16, .ref m17, .ref m18, .ref m19, .ref m20, .int 0, .ref m22, .ref m23, .ref m24, .ref m25, .ref m26, .ref m27, .int 0, .ref m29])) from rfl), fr_pre hPc hKc hDc hAB hBs hS hV⟩ rfl rfl hl.1 rfl (lv_room (Nat.le_of_ble_eq_true rfl)) d_LW_law_803 ⟨Nat.le_of_ble_eq_true rfl, Nat.le_of_ble_eq_true rfl⟩) hS (fun q _ h => hFc q h) hFc (fun t H1 locs ht1 hvm hB1 hz1 hk1 hS => ?_)
  obtain ⟨hP1, hK1, hD1⟩ := hB1
  rw [ht1] at hP1
  have hK1 := va_K.moved hvm.symm hK1
  obtain ⟨hP, hD⟩ := va_join (wr := [(rq, .inl (k1, 40, .inr (.inr (.inr (.inr (fun _ => none)))))), (oa, .inl (k2, 8, .inl (fun _ => 0))), (pl, .inr (1, [.ref q9, .int 0])), (dk, .inr (2, [.ref d1, .ref d2, .ref d3, .ref d4])), (d1, .inl (k3, 24, .inl (fun _ => -1))), (rw, .inr (3, [.ref r1, .int 0, .int 0])), (m3, .inl (j3, 8, .inl (fun _ => 0))), (m5, .inl (j5, 40, .inl (fun _ => 0))), (m6, .inl (j6, 40, .inl (fun _ => 0))), (m7, .inl (j7, 40, .inl (fun _ => 0))), (m8, .inl (j8, 40, .inl (fun _ => 0))), (m9, .inl (j9, 40, .inl (fun _ => 0))), (m10, .inl (j10, 40, .inl (fun _ => 0))), (ou, .inl (k4, 1, .inr (.inl (fun _ => 0)))), (h0, .inr (0, [.ref rq, .ref oa, .ref pl, .ref dk, .ref rw, .int 0, .int 0, .int (-1)]))]) (w1 := [(g0, .inr (5, [.int 1, .int 0, .int (-1), .ref m3, .int 0, .ref m5, .ref m6, .ref m7, .ref m8, .ref m9, .ref m10, .ref m11, .ref m12, .ref m13, .ref m14, .ref m15, .ref m16, .ref m17, .ref m18, .ref m19, .ref m20, .int 0, .ref m22, .ref m23, .ref m24, .ref m25, .ref m26, .ref m27, .int 0, .ref m29]))]) hP hD [6] [0, 1, 2, 3, 4, 5, 7, 8, 9, 10, 11, 12, 13, 14, 15] rfl rfl (by decide) (by decide) hk1 hFc hP1 hD1
  have hK := hK.app hK1
  generalize H1 = H at hP hS ⊢
  have hP : va_P (dC, dI) cls_ [(rq, .inl (k1, 40, .inr (.inr (.inr (.inr (fun _ => none)))))), (oa, .inl (k2, 8, .inl (fun _ => 0))), (pl, .inr (1, [.ref q9, .int 0])), (dk, .inr (2, [.ref d1, .ref d2, .ref d3, .ref d4])), (d1, .inl (k3, 24, .inl (fun _ => -1))), (rw, .inr (3, [.ref r1, .int 0, .int 0])), (m3, .inl (j3, 8, .inl (fun _ => 0))), (m5, .inl (j5, 40, .inl (fun _ => 0))), (m6, .inl (j6, 40, .inl (fun _ => 0))), (m7, .inl (j7, 40, .inl (fun _ => 0))), (m8, .inl (j8, 40, .inl (fun _ => 0))), (m9, .inl (j9, 40, .inl (fun _ => 0))), (m10, .inl (j10, 40, .inl (fun _ => 0))), (ou, .inl (k4, 1, .inr (.inl (fun _ => 0)))), (h0, .inr (0, [.ref rq, .ref oa, .ref pl, .ref dk, .ref rw, .int 0, .int 0, .int (-1)])), (g0, .inr (5, [.int 1, .int 0, .int (-1), .ref m3, .int 0, .ref m5, .ref m6, .ref m7, .ref m8, .ref m9, .ref m10, .ref m11, .ref m12, .ref m13, .ref m14, .ref m15, .ref m16, .ref m17, .ref m18, .ref m19, .ref m20, .int 0, .ref m22, .ref m23, .ref m24, .ref m25, .ref m26, .ref m27, .int 0, .ref m29]))] H := hP
  have hD : va_D A [(rq, .inl (k1, 40, .inr (.inr (.inr (.inr (fun _ => none)))))), (oa, .inl (k2, 8, .inl (fun _ => 0))), (pl, .inr (1, [.ref q9, .int 0])), (dk, .inr (2, [.ref d1, .ref d2, .ref d3, .ref d4])), (d1, .inl (k3, 24, .inl (fun _ => -1))), (rw, .inr (3, [.ref r1, .int 0, .int 0])), (m3, .inl (j3, 8, .inl (fun _ => 0))), (m5, .inl (j5, 40, .inl (fun _ => 0))), (m6, .inl (j6, 40, .inl (fun _ => 0))), (m7, .inl (j7, 40, .inl (fun _ => 0))), (m8, .inl (j8, 40, .inl (fun _ => 0))), (m9, .inl (j9, 40, .inl (fun _ => 0))), (m10, .inl (j10, 40, .inl (fun _ => 0))), (ou, .inl (k4, 1, .inr (.inl (fun _ => 0)))), (h0, .inr (0, [.ref rq, .ref oa, .ref pl, .ref dk, .ref rw, .int 0, .int 0, .int (-1)])), (g0, .inr (5, [.int 1, .int 0, .int (-1), .ref m3, .int 0, .ref m5, .ref m6, .ref m7, .ref m8, .ref m9, .ref m10, .ref m11, .ref m12, .ref m13, .ref m14, .ref m15, .ref m16, .ref m17, .ref m18, .ref m19, .ref m20, .int 0, .ref m22, .ref m23, .ref m24, .ref m25, .ref m26, .ref m27, .int 0, .ref m29]))] := hD
  have hK : va_K (dC, dI) cls_ [(k1, .object "TwinTuners$Request"), (k2, .int), (k3, .int), (j3, .int), (j5, .int), (j6, .int), (j7, .int), (j8, .int), (j9, .int), (j10, .int), (k4, .long)] s := hK
  refine W.eq (g2 := F0 m 806 ls [.int 0]) rfl ?_
  refine W.cs (cells' := 39) (slots' := 14130) rfl rfl ?_
  refine lv_istore hx hb d_LW_law_806 hl (by decide) rfl (fun ls hl => ?_)
  have hl : lv_has ls 8 [(6, .int 0), (5, .int 1), (4, .int 0), (3, .ref ou), (2, .ref g0), (1, .ref h0), (0, .ref b)] := hl
  refine lv_aload_n hx hb d_LW_law_808 rfl (lv_at hl 4 rfl) ?_
  have hPc := hP.sub (ws' := [(g0, .inr (5, [.int 1, .int 0, .int (-1), .ref m3, .int 0, .ref m5, .ref m6, .ref m7, .ref m8, .ref m9, .ref m10, .ref m11, .ref m12, .ref m13, .ref m14, .ref m15, .ref m16, .ref m17, .ref m18, .ref m19, .ref m20, .int 0, .ref m22, .ref m23, .ref m24, .ref m25, .ref m26, .ref m27, .int 0, .ref m29]))]) [15] rfl
  have hKc := hK.sub (tys' := []) [] rfl
  refine rd_call (va_runV (C := R_MO) (As := []) (rest := []) ⟨hx, hb, hml, hown, ht⟩ (c_MO_thrown_v l dC dI g0 m3 m5 m6 m7 m8 m9 m10 m11 m12 m13 m14 m15 m16 m17 m18 m19 m20 m22 m23 m24 m25 m26 m27 m29 1 0 (-1) 0) (cwV 0 ht (gV tb_723 tb_724 tb_725 tb_5 tb_726) rfl rfl rfl (by decide +kernel) ⟨Nat.le_of_ble_eq_true rfl, Nat.le_of_ble_eq_true rfl⟩) ⟨rdP_blind, va_recv (q := (R_MO, F_MO, 30)) hK hP rfl (show ([(rq, .inl (k1, 40, .inr (.inr (.inr (.inr (fun _ => none)))))), (oa, .inl (k2, 8, .inl (fun _ => 0))), (pl, .inr (1, [.ref q9, .int 0])), (dk, .inr (2, [.ref d1, .ref d2, .ref d3, .ref d4])), (d1, .inl (k3, 24, .inl (fun _ => -1))), (rw, .inr (3, [.ref r1, .int 0, .int 0])), (m3, .inl (j3, 8, .inl (fun _ => 0))), (m5, .inl (j5, 40, .inl (fun _ => 0))), (m6, .inl (j6, 40, .inl (fun _ => 0))), (m7, .inl (j7, 40, .inl (fun _ => 0))), (m8, .inl (j8, 40, .inl (fun _ => 0))), (m9, .inl (j9, 40, .inl (fun _ => 0))), (m10, .inl (j10, 40, .inl (fun _ => 0))), (ou, .inl (k4, 1, .inr (.inl (fun _ => 0)))), (h0, .inr (0, [.ref rq, .ref oa, .ref pl, .ref dk, .ref rw, .int 0, .int 0, .int (-1)])), (g0, .inr (5, [.int 1, .int 0, .int (-1), .ref m3, .int 0, .ref m5, .ref m6, .ref m7, .ref m8, .ref m9, .ref m10, .ref m11, .ref m12, .ref m13, .ref m14, .ref m15, .ref m16, .ref m17, .ref m18, .ref m19, .ref m20, .int 0, .ref m22, .ref m23, .ref m24, .ref m25, .ref m26, .ref m27, .int 0, .ref m29]))] : va_W)[15]? = some (g0, .inr (5, [.int 1, .int 0, .int (-1), .ref m3, .int 0, .ref m5, .ref m6, .ref m7, .ref m8, .ref m9, .ref m10, .ref m11, .ref m12, .ref m13, .ref m14, .ref m15, .ref m16, .ref m17, .ref m18, .ref m19, .ref m20, .int 0, .ref m22, .ref m23, .ref m24, .ref m25, .ref m26, .ref m27, .int 0, .ref m29])) from rfl), rd_pre hPc hKc⟩ rfl rfl hl.1 rfl (lv_room (Nat.le_of_ble_eq_true rfl)) d_LW_law_809 ⟨Nat.le_of_ble_eq_true rfl, Nat.le_of_ble_eq_true rfl⟩) ?_
  refine W.eq (g2 := F0 m 812 ls [.int 1]) rfl ?_
  refine lv_iload hx hb d_LW_law_812 (lv_at hl 1 rfl) ?_
  refine lv_icmp_eq (tgt := 819) hx hb d_LW_law_814 (by decide) (fun _ => ?_) (fun h9 => absurd (rfl) h9)
  refine lv_iload hx hb d_LW_law_819 (lv_at hl 1 rfl) ?_
  refine lv_if_ne (tgt := 836) hx hb d_LW_law_821 (by decide) (fun _ => ?_) (fun h9 => absurd h9 (by decide))
  refine lv_goto (tgt := 1228) hx hb d_LW_law_836 (by decide) ?_
  have hl := lv_sub hl [2, 6] (l' := [(4, .int 0), (0, .ref b)]) rfl
  exact tl_end hx hb hr hlocks hbl hbA hAB hX (Nat.le_of_ble_eq_true rfl) (Nat.le_of_ble_eq_true rfl) hS hl
set_option maxHeartbeats 4000000 in
set_option maxRecDepth 100000 in
theorem cs_16 {p : Program} {l : Launch} {e : Env} {s : State} {m : MethodId} {below : List Frame} {meth : Method} {c : Code} {A : Nat → Prop} {b : Nat} {H : Heap} {locs : List Loc} {ls : Array Slot} {xs : Nat → Int32} (dC : Nat → ClassId) (dI : Nat → Nat → Nat) (h0 rq oa pl dk rw q9 d1 d2 d3 d4 r1 g0 m3 m5 m6 m7 m8 m9 m10 m11 m12 m13 m14 m15 m16 m17 m18 m19 m20 m22 m23 m24 m25 m26 m27 m29 ou : Nat) (k1 k2 k3 j3 j5 j6 j7 j8 j9 j10 k4 : ClassId) (hl9 : l.stackTraces = false) (hx : p.tables.exec = Jvm.exec) (hb : c.code = code) (hr : meth.sig.returnType = ret) (hlocks : meth.locks = false) (hbl : b < s.heap.size) (hbA : ¬ A b) (hAB : ∀ q, A q → s.heap.size ≤ q) (hX : va_X b 6 xs s s.heap) (hml : c.maxLocals = 8) (hown : s.vm.findClass R_LW = some m.cls) (ht : ∀ w ∈ tb_, w.before #[Value.ref b] s = true) (hA : ∀ q : Nat, s.heap.size ≤ q → A q) (hBs : s.heap.size ≤ s.heap.size) (hV : tw_V s.heap.size s s.heap)
    (hK : va_K (dC, dI) cls_ [(k1, .object "TwinTuners$Request"), (k2, .int), (k3, .int), (j3, .int), (j5, .int), (j6, .int), (j7, .int), (j8, .int), (j9, .int), (j10, .int), (k4, .long)] s) (hP : va_P (dC, dI) cls_ [(h0, .inr (0, [.ref rq, .ref oa, .ref pl, .ref dk, .ref rw, .int 0, .int 0, .int (-1)])), (rq, .inl (k1, 40, .inr (.inr (.inr (.inr (fun _ => none)))))), (oa, .inl (k2, 8, .inl (fun _ => 0))), (pl, .inr (1, [.ref q9, .int 0])), (dk, .inr (2, [.ref d1, .ref d2, .ref d3, .ref d4])), (d1, .inl (k3, 24, .inl (fun _ => -1))), (rw, .inr (3, [.ref r1, .int 0, .int 0])), (g0, .inr (5, [.int 0, .int 0, .int (-1), .ref m3, .int 0, .ref m5, .ref m6, .ref m7, .ref m8, .ref m9, .ref m10, .ref m11, .ref m12, .ref m13, .ref m14, .ref m15, .ref m16, .ref m17, .ref m18, .ref m19, .ref m20, .int 0, .ref m22, .ref m23, .ref m24, .ref m25, .ref m26, .ref m27, .int 0, .ref m29])), (m3, .inl (j3, 8, .inl (fun _ => 0))), (m5, .inl (j5, 40, .inl (fun _ => 0))), (m6, .inl (j6, 40, .inl (fun _ => 0))), (m7, .inl (j7, 40, .inl (fun _ => 0))), (m8, .inl (j8, 40, .inl (fun _ => 0))), (m9, .inl (j9, 40, .inl (fun _ => 0))), (m10, .inl (j10, 40, .inl (fun _ => 0))), (ou, .inl (k4, 1, .inr (.inl (fun _ => 0))))] H) (hD : va_D A [(h0, .inr (0, [.ref rq, .ref oa, .ref pl, .ref dk, .ref rw, .int 0, .int 0, .int (-1)])), (rq, .inl (k1, 40, .inr (.inr (.inr (.inr (fun _ => none)))))), (oa, .inl (k2, 8, .inl (fun _ => 0))), (pl, .inr (1, [.ref q9, .int 0])), (dk, .inr (2, [.ref d1, .ref d2, .ref d3, .ref d4])), (d1, .inl (k3, 24, .inl (fun _ => -1))), (rw, .inr (3, [.ref r1, .int 0, .int 0])), (g0, .inr (5, [.int 0, .int 0, .int (-1), .ref m3, .int 0, .ref m5, .ref m6, .ref m7, .ref m8, .ref m9, .ref m10, .ref m11, .ref m12, .ref m13, .ref m14, .ref m15, .ref m16, .ref m17, .ref m18, .ref m19, .ref m20, .int 0, .ref m22, .ref m23, .ref m24, .ref m25, .ref m26, .ref m27, .int 0, .ref m29])), (m3, .inl (j3, 8, .inl (fun _ => 0))), (m5, .inl (j5, 40, .inl (fun _ => 0))), (m6, .inl (j6, 40, .inl (fun _ => 0))), (m7, .inl (j7, 40, .inl (fun _ => 0))), (m8, .inl (j8, 40, .inl (fun _ => 0))), (m9, .inl (j9, 40, .inl (fun _ => 0))), (m10, .inl (j10, 40, .inl (fun _ => 0))), (ou, .inl (k4, 1, .inr (.inl (fun _ => 0))))]) (hS : va_S A s.heap H locs) (hl : lv_has ls 8 [(4, .int 0), (3, .ref ou), (2, .ref g0), (1, .ref h0), (0, .ref b)]) : W p l e room_1 s m #[Value.ref b] below meth c H locs 38 14124 (lw_Z below #[Value.ref b] s) (F0 m 967 ls []) := by
  refine lv_aload_n hx hb d_LW_law_967 rfl (lv_at hl 3 rfl) ?_
  refine lv_aload_n hx hb d_LW_law_968 rfl (lv_at hl 4 rfl) ?_
  refine lv_iload hx hb d_LW_law_969 (lv_at hl 0 rfl) ?_
  refine lv_iconst (v := 1) hx hb d_LW_law_971 (by decide) ?_
  refine lv_iadd hx hb d_LW_law_972 ?_
  refine lv_topi (fun v1 ev1 => ?_)
  obtain rfl : v1 = 1 := ev1.trans (by decide)
  refine va_sld hx hb hX hbl hbA hS (show vp_in (nI 1) 6 from vp_in_nI (by decide) (by decide)) d_LW_law_973 ?_
  refine W.eq (g2 := F0 m 974 ls [.int (xs 1), .ref h0]) rfl ?_
  refine lv_aload_n hx hb d_LW_law_974 rfl (lv_at hl 1 rfl) ?_
  have hPc := hP.sub (ws' := [(h0, .inr (0, [.ref rq, .ref oa, .ref pl, .ref dk, .ref rw, .int 0, .int 0, .int (-1)]))]) [0] rfl
  have hKc := hK.sub (tys' := []) [] rfl
  have hDc := hD.sub (ws' := [(h0, .inr (0, [.ref rq, .ref oa, .ref pl, .ref dk, .ref rw, .int 0, .int 0, .int (-1)]))]) [0] (by decide) rfl
  have hFc := va_free (wc := [(h0, .inr (0, [.ref rq, .ref oa, .ref pl, .ref dk, .ref rw, .int 0, .int 0, .int (-1)]))]) hD hS hA [0] rfl
  refine fr_call (tw_runSW (As := [.ref h0, .int (xs 1), .ref ou]) (rest := []) ⟨hx, hb, hml, hown, ht⟩ (c_LW_erase_bad l dC dI H.size s.heap.size hl9 h0 rq oa pl dk rw ou (xs 1)) rfl rfl ⟨Nat.le_of_ble_eq_true rfl, Nat.le_of_ble_eq_true rfl⟩ (pay_in ht (gW tb_584)) (show _ ∈ w_LW_erase from List.mem_cons_self) (ht _ tb_582) (ht _ tb_583) (ht _ tb_0) (n := 3) (by decide +kernel) ⟨frP_blind, fr_pre hPc hKc hDc hAB hBs hS hV⟩ rfl rfl hl.1 rfl (lv_room (Nat.le_of_ble_eq_true rfl)) d_LW_law_975 ⟨Nat.le_of_ble_eq_true rfl, Nat.le_of_ble_eq_true rfl⟩) hS (fun q _ h => hFc q h) hFc (fun t H1 locs ht1 hvm hB1 hz1 hk1 hS => ?_)
  obtain ⟨hP1, hK1, hD1⟩ := hB1
  rw [ht1] at hP1
  have hK1 := va_K.moved hvm.symm hK1
  obtain ⟨hP, hD⟩ := va_join (wr := [(rq, .inl (k1, 40, .inr (.inr (.inr (.inr (fun _ => none)))))), (oa, .inl (k2, 8, .inl (fun _ => 0))), (pl, .inr (1, [.ref q9, .int 0])), (dk, .inr (2, [.ref d1, .ref d2, .ref d3, .ref d4])), (d1, .inl (k3, 24, .inl (fun _ => -1))), (rw, .inr (3, [.ref r1, .int 0, .int 0])), (g0, .inr (5, [.int 0, .int 0, .int (-1), .ref m3, .int 0, .ref m5, .ref m6, .ref m7, .ref m8, .ref m9, .ref m10, .ref m11, .ref m12, .ref m13, .ref m14, .ref m15, .ref m16, .ref m17, .ref m18, .ref m19, .ref m20, .int 0, .ref m22, .ref m23, .ref m24, .ref m25, .ref m26, .ref m27, .int 0, .ref m29])), (m3, .inl (j3, 8, .inl (fun _ => 0))), (m5, .inl (j5, 40, .inl (fun _ => 0))), (m6, .inl (j6, 40, .inl (fun _ => 0))), (m7, .inl (j7, 40, .inl (fun _ => 0))), (m8, .inl (j8, 40, .inl (fun _ => 0))), (m9, .inl (j9, 40, .inl (fun _ => 0))), (m10, .inl (j10, 40, .inl (fun _ => 0))), (ou, .inl (k4, 1, .inr (.inl (fun _ => 0))))]) (w1 := [(h0, .inr (0, [.ref rq, .ref oa, .ref pl, .ref dk, .ref rw, .int 0, .int 0, .int (-1)]))]) hP hD [0] [1, 2, 3, 4, 5, 6, 7, 8, 9, 10, 11, 12, 13, 14, 15] rfl rfl (by decide) (by decide) hk1 hFc hP1 hD1
  have hK := hK.app hK1
  generalize H1 = H at hP hS ⊢
  have hP : va_P (dC, dI) cls_ [(rq, .inl (k1, 40, .inr (.inr (.inr (.inr (fun _ => none)))))), (oa, .inl (k2, 8, .inl (fun _ => 0))), (pl, .inr (1, [.ref q9, .int 0])), (dk, .inr (2, [.ref d1, .ref d2, .ref d3, .ref d4])), (d1, .inl (k3, 24, .inl (fun _ => -1))), (rw, .inr (3, [.ref r1, .int 0, .int 0])), (g0, .inr (5, [.int 0, .int 0, .int (-1), .ref m3, .int 0, .ref m5, .ref m6, .ref m7, .ref m8, .ref m9, .ref m10, .ref m11, .ref m12, .ref m13, .ref m14, .ref m15, .ref m16, .ref m17, .ref m18, .ref m19, .ref m20, .int 0, .ref m22, .ref m23, .ref m24, .ref m25, .ref m26, .ref m27, .int 0, .ref m29])), (m3, .inl (j3, 8, .inl (fun _ => 0))), (m5, .inl (j5, 40, .inl (fun _ => 0))), (m6, .inl (j6, 40, .inl (fun _ => 0))), (m7, .inl (j7, 40, .inl (fun _ => 0))), (m8, .inl (j8, 40, .inl (fun _ => 0))), (m9, .inl (j9, 40, .inl (fun _ => 0))), (m10, .inl (j10, 40, .inl (fun _ => 0))), (ou, .inl (k4, 1, .inr (.inl (fun _ => 0)))), (h0, .inr (0, [.ref rq, .ref oa, .ref pl, .ref dk, .ref rw, .int 0, .int 0, .int (-1)]))] H := hP
  have hD : va_D A [(rq, .inl (k1, 40, .inr (.inr (.inr (.inr (fun _ => none)))))), (oa, .inl (k2, 8, .inl (fun _ => 0))), (pl, .inr (1, [.ref q9, .int 0])), (dk, .inr (2, [.ref d1, .ref d2, .ref d3, .ref d4])), (d1, .inl (k3, 24, .inl (fun _ => -1))), (rw, .inr (3, [.ref r1, .int 0, .int 0])), (g0, .inr (5, [.int 0, .int 0, .int (-1), .ref m3, .int 0, .ref m5, .ref m6, .ref m7, .ref m8, .ref m9, .ref m10, .ref m11, .ref m12, .ref m13, .ref m14, .ref m15, .ref m16, .ref m17, .ref m18, .ref m19, .ref m20, .int 0, .ref m22, .ref m23, .ref m24, .ref m25, .ref m26, .ref m27, .int 0, .ref m29])), (m3, .inl (j3, 8, .inl (fun _ => 0))), (m5, .inl (j5, 40, .inl (fun _ => 0))), (m6, .inl (j6, 40, .inl (fun _ => 0))), (m7, .inl (j7, 40, .inl (fun _ => 0))), (m8, .inl (j8, 40, .inl (fun _ => 0))), (m9, .inl (j9, 40, .inl (fun _ => 0))), (m10, .inl (j10, 40, .inl (fun _ => 0))), (ou, .inl (k4, 1, .inr (.inl (fun _ => 0)))), (h0, .inr (0, [.ref rq, .ref oa, .ref pl, .ref dk, .ref rw, .int 0, .int 0, .int (-1)]))] := hD
  have hK : va_K (dC, dI) cls_ [(k1, .object "TwinTuners$Request"), (k2, .int), (k3, .int), (j3, .int), (j5, .int), (j6, .int), (j7, .int), (j8, .int), (j9, .int), (j10, .int), (k4, .long)] s := hK
  refine W.eq (g2 := F0 m 978 ls [.int 1]) rfl ?_
  refine W.cs (cells' := 39) (slots' := 14130) rfl rfl ?_
  refine lv_istore hx hb d_LW_law_978 hl (by decide) rfl (fun ls hl => ?_)
  have hl : lv_has ls 8 [(5, .int 1), (4, .int 0), (3, .ref ou), (2, .ref g0), (1, .ref h0), (0, .ref b)] := hl
  refine lv_aload_n hx hb d_LW_law_980 rfl (lv_at hl 3 rfl) ?_
  refine lv_aload_n hx hb d_LW_law_981 rfl (lv_at hl 5 rfl) ?_
  refine lv_iload hx hb d_LW_law_982 (lv_at hl 1 rfl) ?_
  refine lv_iconst (v := 1) hx hb d_LW_law_984 (by decide) ?_
  refine lv_iadd hx hb d_LW_law_985 ?_
  refine lv_topi (fun v2 ev2 => ?_)
  obtain rfl : v2 = 1 := ev2.trans (by decide)
  refine va_sld hx hb hX hbl hbA hS (show vp_in (nI 1) 6 from vp_in_nI (by decide) (by decide)) d_LW_law_986 ?_
  refine W.eq (g2 := F0 m 987 ls [.int (xs 1), .ref g0]) rfl ?_
  have hPc := hP.sub (ws' := [(g0, .inr (5, [.int 0, .int 0, .int (-1), .ref m3, .int 0, .ref m5, .ref m6, .ref m7, .ref m8, .ref m9, .ref m10, .ref m11, .ref m12, .ref m13, .ref m14, .ref m15, .ref m16, .ref m17, .ref m18, .ref m19, .ref m20, .int 0, .ref m22, .ref m23, .ref m24, .ref m25, .ref m26, .ref m27, .int 0, .ref m29]))]) [6] rfl
  have hKc := hK.sub (tys' := []) [] rfl
  have hDc := hD.sub (ws' := [(g0, .inr (5, [.int 0, .int 0, .int (-1), .ref m3, .int 0, .ref m5, .ref m6, .ref m7, .ref m8, .ref m9, .ref m10, .ref m11, .ref m12, .ref m13, .ref m14, .ref m15, .ref m16, .ref m17, .ref m18, .ref m19, .ref m20, .int 0, .ref m22, .ref m23, .ref m24, .ref m25, .ref m26, .ref m27, .int 0, .ref m29]))]) [6] (by decide) rfl
  have hFc := va_free (wc := [(g0, .inr (5, [.int 0, .int 0, .int (-1), .ref m3, .int 0, .ref m5, .ref m6, .ref m7, .ref m8, .ref m9, .ref m10, .ref m11, .ref m12, .ref m13, .ref m14, .ref m15, .ref m16, .ref m17, .ref m18, .ref m19, .ref m20, .int 0, .ref m22, .ref m23, .ref m24, .ref m25, .ref m26, .ref m27, .int 0, .ref m29]))]) hD hS hA [6] rfl
  refine fr_call (va_runV (C := R_MO) (As := [.int (xs 1)]) (rest := []) ⟨hx, hb, hml, hown, ht⟩ (c_MO_erase_bad l dC dI H.size s.heap.size g0 m3 m5 m6 m7 m8 m9 m10 m11 m12 m13 m14 m15 m16 m17 m18 m19 m20 m22 m23 m24 m25 m26 m27 m29 (xs 1)) (cwV 1 ht (gV tb_894 tb_895 tb_896 tb_5 tb_897) rfl rfl rfl (by decide +kernel) ⟨Nat.le_of_ble_eq_true rfl, Nat.le_of_ble_eq_true rfl⟩) ⟨frP_blind, va_recv (q := (R_MO, F_MO, 30)) hK hP rfl (show ([(rq, .inl (k1, 40, .inr (.inr (.inr (.inr (fun _ => none)))))), (oa, .inl (k2, 8, .inl (fun _ => 0))), (pl, .inr (1, [.ref q9, .int 0])), (dk, .inr (2, [.ref d1, .ref d2, .ref d3, .ref d4])), (d1, .inl (k3, 24, .inl (fun _ => -1))), (rw, .inr (3, [.ref r1, .int 0, .int 0])), (g0, .inr (5, [.int 0, .int 0, .int (-1), .ref m3, .int 0, .ref m5, .ref m6, .ref m7, .ref m8, .ref m9, .ref m10, .ref m11, .ref m12, .ref m13, .ref m14, .ref m15, .ref m16, .ref m17, .ref m18, .ref m19, .ref m20, .int 0, .ref m22, .ref m23, .ref m24, .ref m25, .ref m26, .ref m27, .int 0, .ref m29])), (m3, .inl (j3, 8, .inl (fun _ => 0))), (m5, .inl (j5, 40, .inl (fun _ => 0))), (m6, .inl (j6, 40, .inl (fun _ => 0))), (m7, .inl (j7, 40, .inl (fun _ => 0))), (m8, .inl (j8, 40, .inl (fun _ => 0))), (m9, .inl (j9, 40, .inl (fun _ => 0))), (m10, .inl (j10, 40, .inl (fun _ => 0))), (ou, .inl (k4, 1, .inr (.inl (fun _ => 0)))), (h0, .inr (0, [.ref rq, .ref oa, .ref pl, .ref dk, .ref rw, .int 0, .int 0, .int (-1)]))] : va_W)[6]? = some (g0, .inr (5, [.int 0, .int 0, .int (-1), .ref m3, .int 0, .ref m5, .ref m6, .ref m7, .ref m8, .ref m9, .ref m10, .ref m11, .ref m12, .ref m13, .ref m14, .ref m15, .ref m16, .ref m17, .ref m18, .ref m19, .ref m20, .int 0, .ref m22, .ref m23, .ref m24, .ref m25, .ref m26, .ref m27, .int 0, .ref m29])) from rfl), fr_pre hPc hKc hDc hAB hBs hS hV⟩ rfl rfl hl.1 rfl (lv_room (Nat.le_of_ble_eq_true rfl)) d_LW_law_987 ⟨Nat.le_of_ble_eq_true rfl, Nat.le_of_ble_eq_true rfl⟩) hS (fun q _ h => hFc q h) hFc (fun t H1 locs ht1 hvm hB1 hz1 hk1 hS => ?_)
  obtain ⟨hP1, hK1, hD1⟩ := hB1
  rw [ht1] at hP1
  have hK1 := va_K.moved hvm.symm hK1
  obtain ⟨hP, hD⟩ := va_join (wr := [(rq, .inl (k1, 40, .inr (.inr (.inr (.inr (fun _ => none)))))), (oa, .inl (k2, 8, .inl (fun _ => 0))), (pl, .inr (1, [.ref q9, .int 0])), (dk, .inr (2, [.ref d1, .ref d2, .ref d3, .ref d4])), (d1, .inl (k3, 24, .inl (fun _ => -1))), (rw, .inr (3, [.ref r1, .int 0, .int 0])), (m3, .inl (j3, 8, .inl (fun _ => 0))), (m5, .inl (j5, 40, .inl (fun _ => 0))), (m6, .inl (j6, 40, .inl (fun _ => 0))), (m7, .inl (j7, 40, .inl (fun _ => 0))), (m8, .inl (j8, 40, .inl (fun _ => 0))), (m9, .inl (j9, 40, .inl (fun _ => 0))), (m10, .inl (j10, 40, .inl (fun _ => 0))), (ou, .inl (k4, 1, .inr (.inl (fun _ => 0)))), (h0, .inr (0, [.ref rq, .ref oa, .ref pl, .ref dk, .ref rw, .int 0, .int 0, .int (-1)]))]) (w1 := [(g0, .inr (5, [.int 1, .int 0, .int (-1), .ref m3, .int 0, .ref m5, .ref m6, .ref m7, .ref m8, .ref m9, .ref m10, .ref m11, .ref m12, .ref m13, .ref m14, .ref m15, .ref m16, .ref m17, .ref m18, .ref m19, .ref m20, .int 0, .ref m22, .ref m23, .ref m24, .ref m25, .ref m26, .ref m27, .int 0, .ref m29]))]) hP hD [6] [0, 1, 2, 3, 4, 5, 7, 8, 9, 10, 11, 12, 13, 14, 15] rfl rfl (by decide) (by decide) hk1 hFc hP1 hD1
  have hK := hK.app hK1
  generalize H1 = H at hP hS ⊢
  have hP : va_P (dC, dI) cls_ [(rq, .inl (k1, 40, .inr (.inr (.inr (.inr (fun _ => none)))))), (oa, .inl (k2, 8, .inl (fun _ => 0))), (pl, .inr (1, [.ref q9, .int 0])), (dk, .inr (2, [.ref d1, .ref d2, .ref d3, .ref d4])), (d1, .inl (k3, 24, .inl (fun _ => -1))), (rw, .inr (3, [.ref r1, .int 0, .int 0])), (m3, .inl (j3, 8, .inl (fun _ => 0))), (m5, .inl (j5, 40, .inl (fun _ => 0))), (m6, .inl (j6, 40, .inl (fun _ => 0))), (m7, .inl (j7, 40, .inl (fun _ => 0))), (m8, .inl (j8, 40, .inl (fun _ => 0))), (m9, .inl (j9, 40, .inl (fun _ => 0))), (m10, .inl (j10, 40, .inl (fun _ => 0))), (ou, .inl (k4, 1, .inr (.inl (fun _ => 0)))), (h0, .inr (0, [.ref rq, .ref oa, .ref pl, .ref dk, .ref rw, .int 0, .int 0, .int (-1)])), (g0, .inr (5, [.int 1, .int 0, .int (-1), .ref m3, .int 0, .ref m5, .ref m6, .ref m7, .ref m8, .ref m9, .ref m10, .ref m11, .ref m12, .ref m13, .ref m14, .ref m15, .ref m16, .ref m17, .ref m18, .ref m19, .ref m20, .int 0, .ref m22, .ref m23, .ref m24, .ref m25, .ref m26, .ref m27, .int 0, .ref m29]))] H := hP
  have hD : va_D A [(rq, .inl (k1, 40, .inr (.inr (.inr (.inr (fun _ => none)))))), (oa, .inl (k2, 8, .inl (fun _ => 0))), (pl, .inr (1, [.ref q9, .int 0])), (dk, .inr (2, [.ref d1, .ref d2, .ref d3, .ref d4])), (d1, .inl (k3, 24, .inl (fun _ => -1))), (rw, .inr (3, [.ref r1, .int 0, .int 0])), (m3, .inl (j3, 8, .inl (fun _ => 0))), (m5, .inl (j5, 40, .inl (fun _ => 0))), (m6, .inl (j6, 40, .inl (fun _ => 0))), (m7, .inl (j7, 40, .inl (fun _ => 0))), (m8, .inl (j8, 40, .inl (fun _ => 0))), (m9, .inl (j9, 40, .inl (fun _ => 0))), (m10, .inl (j10, 40, .inl (fun _ => 0))), (ou, .inl (k4, 1, .inr (.inl (fun _ => 0)))), (h0, .inr (0, [.ref rq, .ref oa, .ref pl, .ref dk, .ref rw, .int 0, .int 0, .int (-1)])), (g0, .inr (5, [.int 1, .int 0, .int (-1), .ref m3, .int 0, .ref m5, .ref m6, .ref m7, .ref m8, .ref m9, .ref m10, .ref m11, .ref m12, .ref m13, .ref m14, .ref m15, .ref m16, .ref m17, .ref m18, .ref m19, .ref m20, .int 0, .ref m22, .ref m23, .ref m24, .ref m25, .ref m26, .ref m27, .int 0, .ref m29]))] := hD
  have hK : va_K (dC, dI) cls_ [(k1, .object "TwinTuners$Request"), (k2, .int), (k3, .int), (j3, .int), (j5, .int), (j6, .int), (j7, .int), (j8, .int), (j9, .int), (j10, .int), (k4, .long)] s := hK
  refine W.eq (g2 := F0 m 990 ls [.int 0]) rfl ?_
  refine W.cs (cells' := 39) (slots' := 14130) rfl rfl ?_
  refine lv_istore hx hb d_LW_law_990 hl (by decide) rfl (fun ls hl => ?_)
  have hl : lv_has ls 8 [(6, .int 0), (5, .int 1), (4, .int 0), (3, .ref ou), (2, .ref g0), (1, .ref h0), (0, .ref b)] := hl
  refine lv_aload_n hx hb d_LW_law_992 rfl (lv_at hl 4 rfl) ?_
  have hPc := hP.sub (ws' := [(g0, .inr (5, [.int 1, .int 0, .int (-1), .ref m3, .int 0, .ref m5, .ref m6, .ref m7, .ref m8, .ref m9, .ref m10, .ref m11, .ref m12, .ref m13, .ref m14, .ref m15, .ref m16, .ref m17, .ref m18, .ref m19, .ref m20, .int 0, .ref m22, .ref m23, .ref m24, .ref m25, .ref m26, .ref m27, .int 0, .ref m29]))]) [15] rfl
  have hKc := hK.sub (tys' := []) [] rfl
  refine rd_call (va_runV (C := R_MO) (As := []) (rest := []) ⟨hx, hb, hml, hown, ht⟩ (c_MO_thrown_v l dC dI g0 m3 m5 m6 m7 m8 m9 m10 m11 m12 m13 m14 m15 m16 m17 m18 m19 m20 m22 m23 m24 m25 m26 m27 m29 1 0 (-1) 0) (cwV 0 ht (gV tb_723 tb_724 tb_725 tb_5 tb_726) rfl rfl rfl (by decide +kernel) ⟨Nat.le_of_ble_eq_true rfl, Nat.le_of_ble_eq_true rfl⟩) ⟨rdP_blind, va_recv (q := (R_MO, F_MO, 30)) hK hP rfl (show ([(rq, .inl (k1, 40, .inr (.inr (.inr (.inr (fun _ => none)))))), (oa, .inl (k2, 8, .inl (fun _ => 0))), (pl, .inr (1, [.ref q9, .int 0])), (dk, .inr (2, [.ref d1, .ref d2, .ref d3, .ref d4])), (d1, .inl (k3, 24, .inl (fun _ => -1))), (rw, .inr (3, [.ref r1, .int 0, .int 0])), (m3, .inl (j3, 8, .inl (fun _ => 0))), (m5, .inl (j5, 40, .inl (fun _ => 0))), (m6, .inl (j6, 40, .inl (fun _ => 0))), (m7, .inl (j7, 40, .inl (fun _ => 0))), (m8, .inl (j8, 40, .inl (fun _ => 0))), (m9, .inl (j9, 40, .inl (fun _ => 0))), (m10, .inl (j10, 40, .inl (fun _ => 0))), (ou, .inl (k4, 1, .inr (.inl (fun _ => 0)))), (h0, .inr (0, [.ref rq, .ref oa, .ref pl, .ref dk, .ref rw, .int 0, .int 0, .int (-1)])), (g0, .inr (5, [.int 1, .int 0, .int (-1), .ref m3, .int 0, .ref m5, .ref m6, .ref m7, .ref m8, .ref m9, .ref m10, .ref m11, .ref m12, .ref m13, .ref m14, .ref m15, .ref m16, .ref m17, .ref m18, .ref m19, .ref m20, .int 0, .ref m22, .ref m23, .ref m24, .ref m25, .ref m26, .ref m27, .int 0, .ref m29]))] : va_W)[15]? = some (g0, .inr (5, [.int 1, .int 0, .int (-1), .ref m3, .int 0, .ref m5, .ref m6, .ref m7, .ref m8, .ref m9, .ref m10, .ref m11, .ref m12, .ref m13, .ref m14, .ref m15, .ref m16, .ref m17, .ref m18, .ref m19, .ref m20, .int 0, .ref m22, .ref m23, .ref m24, .ref m25, .ref m26, .ref m27, .int 0, .ref m29])) from rfl), rd_pre hPc hKc⟩ rfl rfl hl.1 rfl (lv_room (Nat.le_of_ble_eq_true rfl)) d_LW_law_993 ⟨Nat.le_of_ble_eq_true rfl, Nat.le_of_ble_eq_true rfl⟩) ?_
  refine W.eq (g2 := F0 m 996 ls [.int 1]) rfl ?_
  refine lv_iload hx hb d_LW_law_996 (lv_at hl 1 rfl) ?_
  refine lv_icmp_eq (tgt := 1003) hx hb d_LW_law_998 (by decide) (fun _ => ?_) (fun h9 => absurd (rfl) h9)
  refine lv_iload hx hb d_LW_law_1003 (lv_at hl 1 rfl) ?_
  refine lv_if_ne (tgt := 1020) hx hb d_LW_law_1005 (by decide) (fun _ => ?_) (fun h9 => absurd h9 (by decide))
  refine lv_goto (tgt := 1228) hx hb d_LW_law_1020 (by decide) ?_
  have hl := lv_sub hl [2, 6] (l' := [(4, .int 0), (0, .ref b)]) rfl
  exact tl_end hx hb hr hlocks hbl hbA hAB hX (Nat.le_of_ble_eq_true rfl) (Nat.le_of_ble_eq_true rfl) hS hl
set_option maxHeartbeats 4000000 in
set_option maxRecDepth 100000 in
theorem cs_11 {p : Program} {l : Launch} {e : Env} {s : State} {m : MethodId} {below : List Frame} {meth : Method} {c : Code} {A : Nat → Prop} {b : Nat} {H : Heap} {locs : List Loc} {ls : Array Slot} {xs : Nat → Int32} (dC : Nat → ClassId) (dI : Nat → Nat → Nat) (h0 rq oa pl dk rw q9 d1 d2 d3 d4 r1 g0 m3 m5 m6 m7 m8 m9 m10 m11 m12 m13 m14 m15 m16 m17 m18 m19 m20 m22 m23 m24 m25 m26 m27 m29 ou : Nat) (k1 k2 k3 j3 j5 j6 j7 j8 j9 j10 k4 : ClassId) (hl9 : l.stackTraces = false) (hx : p.tables.exec = Jvm.exec) (hb : c.code = code) (hr : meth.sig.returnType = ret) (hlocks : meth.locks = false) (hbl : b < s.heap.size) (hbA : ¬ A b) (hAB : ∀ q, A q → s.heap.size ≤ q) (hX : va_X b 6 xs s s.heap) (hml : c.maxLocals = 8) (hown : s.vm.findClass R_LW = some m.cls) (ht : ∀ w ∈ tb_, w.before #[Value.ref b] s = true) (hA : ∀ q : Nat, s.heap.size ≤ q → A q) (hBs : s.heap.size ≤ s.heap.size) (hV : tw_V s.heap.size s s.heap)
    (hK : va_K (dC, dI) cls_ [(k1, .object "TwinTuners$Request"), (k2, .int), (k3, .int), (j3, .int), (j5, .int), (j6, .int), (j7, .int), (j8, .int), (j9, .int), (j10, .int), (k4, .long)] s) (hP : va_P (dC, dI) cls_ [(h0, .inr (0, [.ref rq, .ref oa, .ref pl, .ref dk, .ref rw, .int 0, .int 0, .int (-1)])), (rq, .inl (k1, 40, .inr (.inr (.inr (.inr (fun _ => none)))))), (oa, .inl (k2, 8, .inl (fun _ => 0))), (pl, .inr (1, [.ref q9, .int 0])), (dk, .inr (2, [.ref d1, .ref d2, .ref d3, .ref d4])), (d1, .inl (k3, 24, .inl (fun _ => -1))), (rw, .inr (3, [.ref r1, .int 0, .int 0])), (g0, .inr (5, [.int 0, .int 0, .int (-1), .ref m3, .int 0, .ref m5, .ref m6, .ref m7, .ref m8, .ref m9, .ref m10, .ref m11, .ref m12, .ref m13, .ref m14, .ref m15, .ref m16, .ref m17, .ref m18, .ref m19, .ref m20, .int 0, .ref m22, .ref m23, .ref m24, .ref m25, .ref m26, .ref m27, .int 0, .ref m29])), (m3, .inl (j3, 8, .inl (fun _ => 0))), (m5, .inl (j5, 40, .inl (fun _ => 0))), (m6, .inl (j6, 40, .inl (fun _ => 0))), (m7, .inl (j7, 40, .inl (fun _ => 0))), (m8, .inl (j8, 40, .inl (fun _ => 0))), (m9, .inl (j9, 40, .inl (fun _ => 0))), (m10, .inl (j10, 40, .inl (fun _ => 0))), (ou, .inl (k4, 1, .inr (.inl (fun _ => 0))))] H) (hD : va_D A [(h0, .inr (0, [.ref rq, .ref oa, .ref pl, .ref dk, .ref rw, .int 0, .int 0, .int (-1)])), (rq, .inl (k1, 40, .inr (.inr (.inr (.inr (fun _ => none)))))), (oa, .inl (k2, 8, .inl (fun _ => 0))), (pl, .inr (1, [.ref q9, .int 0])), (dk, .inr (2, [.ref d1, .ref d2, .ref d3, .ref d4])), (d1, .inl (k3, 24, .inl (fun _ => -1))), (rw, .inr (3, [.ref r1, .int 0, .int 0])), (g0, .inr (5, [.int 0, .int 0, .int (-1), .ref m3, .int 0, .ref m5, .ref m6, .ref m7, .ref m8, .ref m9, .ref m10, .ref m11, .ref m12, .ref m13, .ref m14, .ref m15, .ref m16, .ref m17, .ref m18, .ref m19, .ref m20, .int 0, .ref m22, .ref m23, .ref m24, .ref m25, .ref m26, .ref m27, .int 0, .ref m29])), (m3, .inl (j3, 8, .inl (fun _ => 0))), (m5, .inl (j5, 40, .inl (fun _ => 0))), (m6, .inl (j6, 40, .inl (fun _ => 0))), (m7, .inl (j7, 40, .inl (fun _ => 0))), (m8, .inl (j8, 40, .inl (fun _ => 0))), (m9, .inl (j9, 40, .inl (fun _ => 0))), (m10, .inl (j10, 40, .inl (fun _ => 0))), (ou, .inl (k4, 1, .inr (.inl (fun _ => 0))))]) (hS : va_S A s.heap H locs) (hl : lv_has ls 8 [(4, .int 0), (3, .ref ou), (2, .ref g0), (1, .ref h0), (0, .ref b)]) : W p l e room_1 s m #[Value.ref b] below meth c H locs 38 14124 (lw_Z below #[Value.ref b] s) (F0 m 660 ls []) := by
  refine lv_aload_n hx hb d_LW_law_660 rfl (lv_at hl 3 rfl) ?_
  refine lv_aload_n hx hb d_LW_law_661 rfl (lv_at hl 4 rfl) ?_
  refine lv_iload hx hb d_LW_law_662 (lv_at hl 0 rfl) ?_
  refine lv_iconst (v := 1) hx hb d_LW_law_664 (by decide) ?_
  refine lv_iadd hx hb d_LW_law_665 ?_
  refine lv_topi (fun v1 ev1 => ?_)
  obtain rfl : v1 = 1 := ev1.trans (by decide)
  refine va_sld hx hb hX hbl hbA hS (show vp_in (nI 1) 6 from vp_in_nI (by decide) (by decide)) d_LW_law_666 ?_
  refine W.eq (g2 := F0 m 667 ls [.int (xs 1), .ref h0]) rfl ?_
  refine lv_aload_n hx hb d_LW_law_667 rfl (lv_at hl 4 rfl) ?_
  refine lv_iload hx hb d_LW_law_668 (lv_at hl 0 rfl) ?_
  refine lv_iconst (v := 2) hx hb d_LW_law_670 (by decide) ?_
  refine lv_iadd hx hb d_LW_law_671 ?_
  refine lv_topi (fun v2 ev2 => ?_)
  obtain rfl : v2 = 2 := ev2.trans (by decide)
  refine va_sld hx hb hX hbl hbA hS (show vp_in (nI 2) 6 from vp_in_nI (by decide) (by decide)) d_LW_law_672 ?_
  refine W.eq (g2 := F0 m 673 ls [.int (xs 2), .int (xs 1), .ref h0]) rfl ?_
  refine lv_aload_n hx hb d_LW_law_673 rfl (lv_at hl 1 rfl) ?_
  have hPc := hP.sub (ws' := [(h0, .inr (0, [.ref rq, .ref oa, .ref pl, .ref dk, .ref rw, .int 0, .int 0, .int (-1)]))]) [0] rfl
  have hKc := hK.sub (tys' := []) [] rfl
  have hDc := hD.sub (ws' := [(h0, .inr (0, [.ref rq, .ref oa, .ref pl, .ref dk, .ref rw, .int 0, .int 0, .int (-1)]))]) [0] (by decide) rfl
  have hFc := va_free (wc := [(h0, .inr (0, [.ref rq, .ref oa, .ref pl, .ref dk, .ref rw, .int 0, .int 0, .int (-1)]))]) hD hS hA [0] rfl
  refine fr_call (tw_runSW (As := [.ref h0, .int (xs 1), .int (xs 2), .ref ou]) (rest := []) ⟨hx, hb, hml, hown, ht⟩ (c_LW_word_bad l dC dI H.size s.heap.size hl9 h0 rq oa pl dk rw ou (xs 1) (xs 2)) rfl rfl ⟨Nat.le_of_ble_eq_true rfl, Nat.le_of_ble_eq_true rfl⟩ (pay_in ht (gW tb_528)) (show _ ∈ w_LW_word from List.mem_cons_self) (ht _ tb_526) (ht _ tb_527) (ht _ tb_0) (n := 4) (by decide +kernel) ⟨frP_blind, fr_pre hPc hKc hDc hAB hBs hS hV⟩ rfl rfl hl.1 rfl (lv_room (Nat.le_of_ble_eq_true rfl)) d_LW_law_674 ⟨Nat.le_of_ble_eq_true rfl, Nat.le_of_ble_eq_true rfl⟩) hS (fun q _ h => hFc q h) hFc (fun t H1 locs ht1 hvm hB1 hz1 hk1 hS => ?_)
  obtain ⟨hP1, hK1, hD1⟩ := hB1
  rw [ht1] at hP1
  have hK1 := va_K.moved hvm.symm hK1
  obtain ⟨hP, hD⟩ := va_join (wr := [(rq, .inl (k1, 40, .inr (.inr (.inr (.inr (fun _ => none)))))), (oa, .inl (k2, 8, .inl (fun _ => 0))), (pl, .inr (1, [.ref q9, .int 0])), (dk, .inr (2, [.ref d1, .ref d2, .ref d3, .ref d4])), (d1, .inl (k3, 24, .inl (fun _ => -1))), (rw, .inr (3, [.ref r1, .int 0, .int 0])), (g0, .inr (5, [.int 0, .int 0, .int (-1), .ref m3, .int 0, .ref m5, .ref m6, .ref m7, .ref m8, .ref m9, .ref m10, .ref m11, .ref m12, .ref m13, .ref m14, .ref m15, .ref m16, .ref m17, .ref m18, .ref m19, .ref m20, .int 0, .ref m22, .ref m23, .ref m24, .ref m25, .ref m26, .ref m27, .int 0, .ref m29])), (m3, .inl (j3, 8, .inl (fun _ => 0))), (m5, .inl (j5, 40, .inl (fun _ => 0))), (m6, .inl (j6, 40, .inl (fun _ => 0))), (m7, .inl (j7, 40, .inl (fun _ => 0))), (m8, .inl (j8, 40, .inl (fun _ => 0))), (m9, .inl (j9, 40, .inl (fun _ => 0))), (m10, .inl (j10, 40, .inl (fun _ => 0))), (ou, .inl (k4, 1, .inr (.inl (fun _ => 0))))]) (w1 := [(h0, .inr (0, [.ref rq, .ref oa, .ref pl, .ref dk, .ref rw, .int 0, .int 0, .int (-1)]))]) hP hD [0] [1, 2, 3, 4, 5, 6, 7, 8, 9, 10, 11, 12, 13, 14, 15] rfl rfl (by decide) (by decide) hk1 hFc hP1 hD1
  have hK := hK.app hK1
  generalize H1 = H at hP hS ⊢
  have hP : va_P (dC, dI) cls_ [(rq, .inl (k1, 40, .inr (.inr (.inr (.inr (fun _ => none)))))), (oa, .inl (k2, 8, .inl (fun _ => 0))), (pl, .inr (1, [.ref q9, .int 0])), (dk, .inr (2, [.ref d1, .ref d2, .ref d3, .ref d4])), (d1, .inl (k3, 24, .inl (fun _ => -1))), (rw, .inr (3, [.ref r1, .int 0, .int 0])), (g0, .inr (5, [.int 0, .int 0, .int (-1), .ref m3, .int 0, .ref m5, .ref m6, .ref m7, .ref m8, .ref m9, .ref m10, .ref m11, .ref m12, .ref m13, .ref m14, .ref m15, .ref m16, .ref m17, .ref m18, .ref m19, .ref m20, .int 0, .ref m22, .ref m23, .ref m24, .ref m25, .ref m26, .ref m27, .int 0, .ref m29])), (m3, .inl (j3, 8, .inl (fun _ => 0))), (m5, .inl (j5, 40, .inl (fun _ => 0))), (m6, .inl (j6, 40, .inl (fun _ => 0))), (m7, .inl (j7, 40, .inl (fun _ => 0))), (m8, .inl (j8, 40, .inl (fun _ => 0))), (m9, .inl (j9, 40, .inl (fun _ => 0))), (m10, .inl (j10, 40, .inl (fun _ => 0))), (ou, .inl (k4, 1, .inr (.inl (fun _ => 0)))), (h0, .inr (0, [.ref rq, .ref oa, .ref pl, .ref dk, .ref rw, .int 0, .int 0, .int (-1)]))] H := hP
  have hD : va_D A [(rq, .inl (k1, 40, .inr (.inr (.inr (.inr (fun _ => none)))))), (oa, .inl (k2, 8, .inl (fun _ => 0))), (pl, .inr (1, [.ref q9, .int 0])), (dk, .inr (2, [.ref d1, .ref d2, .ref d3, .ref d4])), (d1, .inl (k3, 24, .inl (fun _ => -1))), (rw, .inr (3, [.ref r1, .int 0, .int 0])), (g0, .inr (5, [.int 0, .int 0, .int (-1), .ref m3, .int 0, .ref m5, .ref m6, .ref m7, .ref m8, .ref m9, .ref m10, .ref m11, .ref m12, .ref m13, .ref m14, .ref m15, .ref m16, .ref m17, .ref m18, .ref m19, .ref m20, .int 0, .ref m22, .ref m23, .ref m24, .ref m25, .ref m26, .ref m27, .int 0, .ref m29])), (m3, .inl (j3, 8, .inl (fun _ => 0))), (m5, .inl (j5, 40, .inl (fun _ => 0))), (m6, .inl (j6, 40, .inl (fun _ => 0))), (m7, .inl (j7, 40, .inl (fun _ => 0))), (m8, .inl (j8, 40, .inl (fun _ => 0))), (m9, .inl (j9, 40, .inl (fun _ => 0))), (m10, .inl (j10, 40, .inl (fun _ => 0))), (ou, .inl (k4, 1, .inr (.inl (fun _ => 0)))), (h0, .inr (0, [.ref rq, .ref oa, .ref pl, .ref dk, .ref rw, .int 0, .int 0, .int (-1)]))] := hD
  have hK : va_K (dC, dI) cls_ [(k1, .object "TwinTuners$Request"), (k2, .int), (k3, .int), (j3, .int), (j5, .int), (j6, .int), (j7, .int), (j8, .int), (j9, .int), (j10, .int), (k4, .long)] s := hK
  refine W.eq (g2 := F0 m 677 ls [.int 1]) rfl ?_
  refine W.cs (cells' := 39) (slots' := 14130) rfl rfl ?_
  refine lv_istore hx hb d_LW_law_677 hl (by decide) rfl (fun ls hl => ?_)
  have hl : lv_has ls 8 [(5, .int 1), (4, .int 0), (3, .ref ou), (2, .ref g0), (1, .ref h0), (0, .ref b)] := hl
  refine lv_aload_n hx hb d_LW_law_679 rfl (lv_at hl 3 rfl) ?_
  refine lv_aload_n hx hb d_LW_law_680 rfl (lv_at hl 5 rfl) ?_
  refine lv_iload hx hb d_LW_law_681 (lv_at hl 1 rfl) ?_
  refine lv_iconst (v := 1) hx hb d_LW_law_683 (by decide) ?_
  refine lv_iadd hx hb d_LW_law_684 ?_
  refine lv_topi (fun v3 ev3 => ?_)
  obtain rfl : v3 = 1 := ev3.trans (by decide)
  refine va_sld hx hb hX hbl hbA hS (show vp_in (nI 1) 6 from vp_in_nI (by decide) (by decide)) d_LW_law_685 ?_
  refine W.eq (g2 := F0 m 686 ls [.int (xs 1), .ref g0]) rfl ?_
  refine lv_aload_n hx hb d_LW_law_686 rfl (lv_at hl 5 rfl) ?_
  refine lv_iload hx hb d_LW_law_687 (lv_at hl 1 rfl) ?_
  refine lv_iconst (v := 2) hx hb d_LW_law_689 (by decide) ?_
  refine lv_iadd hx hb d_LW_law_690 ?_
  refine lv_topi (fun v4 ev4 => ?_)
  obtain rfl : v4 = 2 := ev4.trans (by decide)
  refine va_sld hx hb hX hbl hbA hS (show vp_in (nI 2) 6 from vp_in_nI (by decide) (by decide)) d_LW_law_691 ?_
  refine W.eq (g2 := F0 m 692 ls [.int (xs 2), .int (xs 1), .ref g0]) rfl ?_
  have hPc := hP.sub (ws' := [(g0, .inr (5, [.int 0, .int 0, .int (-1), .ref m3, .int 0, .ref m5, .ref m6, .ref m7, .ref m8, .ref m9, .ref m10, .ref m11, .ref m12, .ref m13, .ref m14, .ref m15, .ref m16, .ref m17, .ref m18, .ref m19, .ref m20, .int 0, .ref m22, .ref m23, .ref m24, .ref m25, .ref m26, .ref m27, .int 0, .ref m29]))]) [6] rfl
  have hKc := hK.sub (tys' := []) [] rfl
  have hDc := hD.sub (ws' := [(g0, .inr (5, [.int 0, .int 0, .int (-1), .ref m3, .int 0, .ref m5, .ref m6, .ref m7, .ref m8, .ref m9, .ref m10, .ref m11, .ref m12, .ref m13, .ref m14, .ref m15, .ref m16, .ref m17, .ref m18, .ref m19, .ref m20, .int 0, .ref m22, .ref m23, .ref m24, .ref m25, .ref m26, .ref m27, .int 0, .ref m29]))]) [6] (by decide) rfl
  have hFc := va_free (wc := [(g0, .inr (5, [.int 0, .int 0, .int (-1), .ref m3, .int 0, .ref m5, .ref m6, .ref m7, .ref m8, .ref m9, .ref m10, .ref m11, .ref m12, .ref m13, .ref m14, .ref m15, .ref m16, .ref m17, .ref m18, .ref m19, .ref m20, .int 0, .ref m22, .ref m23, .ref m24, .ref m25, .ref m26, .ref m27, .int 0, .ref m29]))]) hD hS hA [6] rfl
  refine fr_call (va_runV (C := R_MO) (As := [.int (xs 1), .int (xs 2)]) (rest := []) ⟨hx, hb, hml, hown, ht⟩ (c_MO_word_bad l dC dI H.size s.heap.size g0 m3 m5 m6 m7 m8 m9 m10 m11 m12 m13 m14 m15 m16 m17 m18 m19 m20 m22 m23 m24 m25 m26 m27 m29 (xs 1) (xs 2)) (cwV 2 ht (gV tb_870 tb_871 tb_872 tb_5 tb_873) rfl rfl rfl (by decide +kernel) ⟨Nat.le_of_ble_eq_true rfl, Nat.le_of_ble_eq_true rfl⟩) ⟨frP_blind, va_recv (q := (R_MO, F_MO, 30)) hK hP rfl (show ([(rq, .inl (k1, 40, .inr (.inr (.inr (.inr (fun _ => none)))))), (oa, .inl (k2, 8, .inl (fun _ => 0))), (pl, .inr (1, [.ref q9, .int 0])), (dk, .inr (2, [.ref d1, .ref d2, .ref d3, .ref d4])), (d1, .inl (k3, 24, .inl (fun _ => -1))), (rw, .inr (3, [.ref r1, .int 0, .int 0])), (g0, .inr (5, [.int 0, .int 0, .int (-1), .ref m3, .int 0, .ref m5, .ref m6, .ref m7, .ref m8, .ref m9, .ref m10, .ref m11, .ref m12, .ref m13, .ref m14, .ref m15, .ref m16, .ref m17, .ref m18, .ref m19, .ref m20, .int 0, .ref m22, .ref m23, .ref m24, .ref m25, .ref m26, .ref m27, .int 0, .ref m29])), (m3, .inl (j3, 8, .inl (fun _ => 0))), (m5, .inl (j5, 40, .inl (fun _ => 0))), (m6, .inl (j6, 40, .inl (fun _ => 0))), (m7, .inl (j7, 40, .inl (fun _ => 0))), (m8, .inl (j8, 40, .inl (fun _ => 0))), (m9, .inl (j9, 40, .inl (fun _ => 0))), (m10, .inl (j10, 40, .inl (fun _ => 0))), (ou, .inl (k4, 1, .inr (.inl (fun _ => 0)))), (h0, .inr (0, [.ref rq, .ref oa, .ref pl, .ref dk, .ref rw, .int 0, .int 0, .int (-1)]))] : va_W)[6]? = some (g0, .inr (5, [.int 0, .int 0, .int (-1), .ref m3, .int 0, .ref m5, .ref m6, .ref m7, .ref m8, .ref m9, .ref m10, .ref m11, .ref m12, .ref m13, .ref m14, .ref m15, .ref m16, .ref m17, .ref m18, .ref m19, .ref m20, .int 0, .ref m22, .ref m23, .ref m24, .ref m25, .ref m26, .ref m27, .int 0, .ref m29])) from rfl), fr_pre hPc hKc hDc hAB hBs hS hV⟩ rfl rfl hl.1 rfl (lv_room (Nat.le_of_ble_eq_true rfl)) d_LW_law_692 ⟨Nat.le_of_ble_eq_true rfl, Nat.le_of_ble_eq_true rfl⟩) hS (fun q _ h => hFc q h) hFc (fun t H1 locs ht1 hvm hB1 hz1 hk1 hS => ?_)
  obtain ⟨hP1, hK1, hD1⟩ := hB1
  rw [ht1] at hP1
  have hK1 := va_K.moved hvm.symm hK1
  obtain ⟨hP, hD⟩ := va_join (wr := [(rq, .inl (k1, 40, .inr (.inr (.inr (.inr (fun _ => none)))))), (oa, .inl (k2, 8, .inl (fun _ => 0))), (pl, .inr (1, [.ref q9, .int 0])), (dk, .inr (2, [.ref d1, .ref d2, .ref d3, .ref d4])), (d1, .inl (k3, 24, .inl (fun _ => -1))), (rw, .inr (3, [.ref r1, .int 0, .int 0])), (m3, .inl (j3, 8, .inl (fun _ => 0))), (m5, .inl (j5, 40, .inl (fun _ => 0))), (m6, .inl (j6, 40, .inl (fun _ => 0))), (m7, .inl (j7, 40, .inl (fun _ => 0))), (m8, .inl (j8, 40, .inl (fun _ => 0))), (m9, .inl (j9, 40, .inl (fun _ => 0))), (m10, .inl (j10, 40, .inl (fun _ => 0))), (ou, .inl (k4, 1, .inr (.inl (fun _ => 0)))), (h0, .inr (0, [.ref rq, .ref oa, .ref pl, .ref dk, .ref rw, .int 0, .int 0, .int (-1)]))]) (w1 := [(g0, .inr (5, [.int 1, .int 0, .int (-1), .ref m3, .int 0, .ref m5, .ref m6, .ref m7, .ref m8, .ref m9, .ref m10, .ref m11, .ref m12, .ref m13, .ref m14, .ref m15, .ref m16, .ref m17, .ref m18, .ref m19, .ref m20, .int 0, .ref m22, .ref m23, .ref m24, .ref m25, .ref m26, .ref m27, .int 0, .ref m29]))]) hP hD [6] [0, 1, 2, 3, 4, 5, 7, 8, 9, 10, 11, 12, 13, 14, 15] rfl rfl (by decide) (by decide) hk1 hFc hP1 hD1
  have hK := hK.app hK1
  generalize H1 = H at hP hS ⊢
  have hP : va_P (dC, dI) cls_ [(rq, .inl (k1, 40, .inr (.inr (.inr (.inr (fun _ => none)))))), (oa, .inl (k2, 8, .inl (fun _ => 0))), (pl, .inr (1, [.ref q9, .int 0])), (dk, .inr (2, [.ref d1, .ref d2, .ref d3, .ref d4])), (d1, .inl (k3, 24, .inl (fun _ => -1))), (rw, .inr (3, [.ref r1, .int 0, .int 0])), (m3, .inl (j3, 8, .inl (fun _ => 0))), (m5, .inl (j5, 40, .inl (fun _ => 0))), (m6, .inl (j6, 40, .inl (fun _ => 0))), (m7, .inl (j7, 40, .inl (fun _ => 0))), (m8, .inl (j8, 40, .inl (fun _ => 0))), (m9, .inl (j9, 40, .inl (fun _ => 0))), (m10, .inl (j10, 40, .inl (fun _ => 0))), (ou, .inl (k4, 1, .inr (.inl (fun _ => 0)))), (h0, .inr (0, [.ref rq, .ref oa, .ref pl, .ref dk, .ref rw, .int 0, .int 0, .int (-1)])), (g0, .inr (5, [.int 1, .int 0, .int (-1), .ref m3, .int 0, .ref m5, .ref m6, .ref m7, .ref m8, .ref m9, .ref m10, .ref m11, .ref m12, .ref m13, .ref m14, .ref m15, .ref m16, .ref m17, .ref m18, .ref m19, .ref m20, .int 0, .ref m22, .ref m23, .ref m24, .ref m25, .ref m26, .ref m27, .int 0, .ref m29]))] H := hP
  have hD : va_D A [(rq, .inl (k1, 40, .inr (.inr (.inr (.inr (fun _ => none)))))), (oa, .inl (k2, 8, .inl (fun _ => 0))), (pl, .inr (1, [.ref q9, .int 0])), (dk, .inr (2, [.ref d1, .ref d2, .ref d3, .ref d4])), (d1, .inl (k3, 24, .inl (fun _ => -1))), (rw, .inr (3, [.ref r1, .int 0, .int 0])), (m3, .inl (j3, 8, .inl (fun _ => 0))), (m5, .inl (j5, 40, .inl (fun _ => 0))), (m6, .inl (j6, 40, .inl (fun _ => 0))), (m7, .inl (j7, 40, .inl (fun _ => 0))), (m8, .inl (j8, 40, .inl (fun _ => 0))), (m9, .inl (j9, 40, .inl (fun _ => 0))), (m10, .inl (j10, 40, .inl (fun _ => 0))), (ou, .inl (k4, 1, .inr (.inl (fun _ => 0)))), (h0, .inr (0, [.ref rq, .ref oa, .ref pl, .ref dk, .ref rw, .int 0, .int 0, .int (-1)])), (g0, .inr (5, [.int 1, .int 0, .int (-1), .ref m3, .int 0, .ref m5, .ref m6, .ref m7, .ref m8, .ref m9, .ref m10, .ref m11, .ref m12, .ref m13, .ref m14, .ref m15, .ref m16, .ref m17, .ref m18, .ref m19, .ref m20, .int 0, .ref m22, .ref m23, .ref m24, .ref m25, .ref m26, .ref m27, .int 0, .ref m29]))] := hD
  have hK : va_K (dC, dI) cls_ [(k1, .object "TwinTuners$Request"), (k2, .int), (k3, .int), (j3, .int), (j5, .int), (j6, .int), (j7, .int), (j8, .int), (j9, .int), (j10, .int), (k4, .long)] s := hK
  refine W.eq (g2 := F0 m 695 ls [.long 0]) rfl ?_
  refine W.cs (cells' := 39) (slots' := 14130) rfl rfl ?_
  refine lv_lstore hx hb d_LW_law_695 hl (by decide) rfl (fun ls hl => ?_)
  have hl : lv_has ls 8 [(6, .long 0), (5, .int 1), (4, .int 0), (3, .ref ou), (2, .ref g0), (1, .ref h0), (0, .ref b)] := hl
  refine lv_aload_n hx hb d_LW_law_697 rfl (lv_at hl 4 rfl) ?_
  have hPc := hP.sub (ws' := [(g0, .inr (5, [.int 1, .int 0, .int (-1), .ref m3, .int 0, .ref m5, .ref m6, .ref m7, .ref m8, .ref m9, .ref m10, .ref m11, .ref m12, .ref m13, .ref m14, .ref m15, .ref m16, .ref m17, .ref m18, .ref m19, .ref m20, .int 0, .ref m22, .ref m23, .ref m24, .ref m25, .ref m26, .ref m27, .int 0, .ref m29]))]) [15] rfl
  have hKc := hK.sub (tys' := []) [] rfl
  refine rd_call (va_runV (C := R_MO) (As := []) (rest := []) ⟨hx, hb, hml, hown, ht⟩ (c_MO_thrown_v l dC dI g0 m3 m5 m6 m7 m8 m9 m10 m11 m12 m13 m14 m15 m16 m17 m18 m19 m20 m22 m23 m24 m25 m26 m27 m29 1 0 (-1) 0) (cwV 0 ht (gV tb_723 tb_724 tb_725 tb_5 tb_726) rfl rfl rfl (by decide +kernel) ⟨Nat.le_of_ble_eq_true rfl, Nat.le_of_ble_eq_true rfl⟩) ⟨rdP_blind, va_recv (q := (R_MO, F_MO, 30)) hK hP rfl (show ([(rq, .inl (k1, 40, .inr (.inr (.inr (.inr (fun _ => none)))))), (oa, .inl (k2, 8, .inl (fun _ => 0))), (pl, .inr (1, [.ref q9, .int 0])), (dk, .inr (2, [.ref d1, .ref d2, .ref d3, .ref d4])), (d1, .inl (k3, 24, .inl (fun _ => -1))), (rw, .inr (3, [.ref r1, .int 0, .int 0])), (m3, .inl (j3, 8, .inl (fun _ => 0))), (m5, .inl (j5, 40, .inl (fun _ => 0))), (m6, .inl (j6, 40, .inl (fun _ => 0))), (m7, .inl (j7, 40, .inl (fun _ => 0))), (m8, .inl (j8, 40, .inl (fun _ => 0))), (m9, .inl (j9, 40, .inl (fun _ => 0))), (m10, .inl (j10, 40, .inl (fun _ => 0))), (ou, .inl (k4, 1, .inr (.inl (fun _ => 0)))), (h0, .inr (0, [.ref rq, .ref oa, .ref pl, .ref dk, .ref rw, .int 0, .int 0, .int (-1)])), (g0, .inr (5, [.int 1, .int 0, .int (-1), .ref m3, .int 0, .ref m5, .ref m6, .ref m7, .ref m8, .ref m9, .ref m10, .ref m11, .ref m12, .ref m13, .ref m14, .ref m15, .ref m16, .ref m17, .ref m18, .ref m19, .ref m20, .int 0, .ref m22, .ref m23, .ref m24, .ref m25, .ref m26, .ref m27, .int 0, .ref m29]))] : va_W)[15]? = some (g0, .inr (5, [.int 1, .int 0, .int (-1), .ref m3, .int 0, .ref m5, .ref m6, .ref m7, .ref m8, .ref m9, .ref m10, .ref m11, .ref m12, .ref m13, .ref m14, .ref m15, .ref m16, .ref m17, .ref m18, .ref m19, .ref m20, .int 0, .ref m22, .ref m23, .ref m24, .ref m25, .ref m26, .ref m27, .int 0, .ref m29])) from rfl), rd_pre hPc hKc⟩ rfl rfl hl.1 rfl (lv_room (Nat.le_of_ble_eq_true rfl)) d_LW_law_698 ⟨Nat.le_of_ble_eq_true rfl, Nat.le_of_ble_eq_true rfl⟩) ?_
  refine W.eq (g2 := F0 m 701 ls [.int 1]) rfl ?_
  refine lv_iload hx hb d_LW_law_701 (lv_at hl 1 rfl) ?_
  refine lv_icmp_eq (tgt := 708) hx hb d_LW_law_703 (by decide) (fun _ => ?_) (fun h9 => absurd (rfl) h9)
  refine lv_iload hx hb d_LW_law_708 (lv_at hl 1 rfl) ?_
  refine lv_if_ne (tgt := 724) hx hb d_LW_law_710 (by decide) (fun _ => ?_) (fun h9 => absurd h9 (by decide))
  refine lv_goto (tgt := 1228) hx hb d_LW_law_724 (by decide) ?_
  have hl := lv_sub hl [2, 6] (l' := [(4, .int 0), (0, .ref b)]) rfl
  exact tl_end hx hb hr hlocks hbl hbA hAB hX (Nat.le_of_ble_eq_true rfl) (Nat.le_of_ble_eq_true rfl) hS hl
set_option maxHeartbeats 4000000 in
set_option maxRecDepth 100000 in
theorem cs_18 {p : Program} {l : Launch} {e : Env} {s : State} {m : MethodId} {below : List Frame} {meth : Method} {c : Code} {A : Nat → Prop} {b : Nat} {H : Heap} {locs : List Loc} {ls : Array Slot} {xs : Nat → Int32} (dC : Nat → ClassId) (dI : Nat → Nat → Nat) (h0 rq oa pl dk rw q9 d1 d2 d3 d4 r1 g0 m3 m5 m6 m7 m8 m9 m10 m11 m12 m13 m14 m15 m16 m17 m18 m19 m20 m22 m23 m24 m25 m26 m27 m29 ou : Nat) (k1 k2 k3 j3 j5 j6 j7 j8 j9 j10 k4 : ClassId) (hl9 : l.stackTraces = false) (hx : p.tables.exec = Jvm.exec) (hb : c.code = code) (hr : meth.sig.returnType = ret) (hlocks : meth.locks = false) (hbl : b < s.heap.size) (hbA : ¬ A b) (hAB : ∀ q, A q → s.heap.size ≤ q) (hX : va_X b 6 xs s s.heap) (hml : c.maxLocals = 8) (hown : s.vm.findClass R_LW = some m.cls) (ht : ∀ w ∈ tb_, w.before #[Value.ref b] s = true) (hA : ∀ q : Nat, s.heap.size ≤ q → A q) (hBs : s.heap.size ≤ s.heap.size) (hV : tw_V s.heap.size s s.heap)
    (hK : va_K (dC, dI) cls_ [(k1, .object "TwinTuners$Request"), (k2, .int), (k3, .int), (j3, .int), (j5, .int), (j6, .int), (j7, .int), (j8, .int), (j9, .int), (j10, .int), (k4, .long)] s) (hP : va_P (dC, dI) cls_ [(h0, .inr (0, [.ref rq, .ref oa, .ref pl, .ref dk, .ref rw, .int 0, .int 0, .int (-1)])), (rq, .inl (k1, 40, .inr (.inr (.inr (.inr (fun _ => none)))))), (oa, .inl (k2, 8, .inl (fun _ => 0))), (pl, .inr (1, [.ref q9, .int 0])), (dk, .inr (2, [.ref d1, .ref d2, .ref d3, .ref d4])), (d1, .inl (k3, 24, .inl (fun _ => -1))), (rw, .inr (3, [.ref r1, .int 0, .int 0])), (g0, .inr (5, [.int 0, .int 0, .int (-1), .ref m3, .int 0, .ref m5, .ref m6, .ref m7, .ref m8, .ref m9, .ref m10, .ref m11, .ref m12, .ref m13, .ref m14, .ref m15, .ref m16, .ref m17, .ref m18, .ref m19, .ref m20, .int 0, .ref m22, .ref m23, .ref m24, .ref m25, .ref m26, .ref m27, .int 0, .ref m29])), (m3, .inl (j3, 8, .inl (fun _ => 0))), (m5, .inl (j5, 40, .inl (fun _ => 0))), (m6, .inl (j6, 40, .inl (fun _ => 0))), (m7, .inl (j7, 40, .inl (fun _ => 0))), (m8, .inl (j8, 40, .inl (fun _ => 0))), (m9, .inl (j9, 40, .inl (fun _ => 0))), (m10, .inl (j10, 40, .inl (fun _ => 0))), (ou, .inl (k4, 1, .inr (.inl (fun _ => 0))))] H) (hD : va_D A [(h0, .inr (0, [.ref rq, .ref oa, .ref pl, .ref dk, .ref rw, .int 0, .int 0, .int (-1)])), (rq, .inl (k1, 40, .inr (.inr (.inr (.inr (fun _ => none)))))), (oa, .inl (k2, 8, .inl (fun _ => 0))), (pl, .inr (1, [.ref q9, .int 0])), (dk, .inr (2, [.ref d1, .ref d2, .ref d3, .ref d4])), (d1, .inl (k3, 24, .inl (fun _ => -1))), (rw, .inr (3, [.ref r1, .int 0, .int 0])), (g0, .inr (5, [.int 0, .int 0, .int (-1), .ref m3, .int 0, .ref m5, .ref m6, .ref m7, .ref m8, .ref m9, .ref m10, .ref m11, .ref m12, .ref m13, .ref m14, .ref m15, .ref m16, .ref m17, .ref m18, .ref m19, .ref m20, .int 0, .ref m22, .ref m23, .ref m24, .ref m25, .ref m26, .ref m27, .int 0, .ref m29])), (m3, .inl (j3, 8, .inl (fun _ => 0))), (m5, .inl (j5, 40, .inl (fun _ => 0))), (m6, .inl (j6, 40, .inl (fun _ => 0))), (m7, .inl (j7, 40, .inl (fun _ => 0))), (m8, .inl (j8, 40, .inl (fun _ => 0))), (m9, .inl (j9, 40, .inl (fun _ => 0))), (m10, .inl (j10, 40, .inl (fun _ => 0))), (ou, .inl (k4, 1, .inr (.inl (fun _ => 0))))]) (hS : va_S A s.heap H locs) (hl : lv_has ls 8 [(4, .int 0), (3, .ref ou), (2, .ref g0), (1, .ref h0), (0, .ref b)]) : W p l e room_1 s m #[Value.ref b] below meth c H locs 38 14124 (lw_Z below #[Value.ref b] s) (F0 m 1036 ls []) := by
  refine lv_aload_n hx hb d_LW_law_1036 rfl (lv_at hl 3 rfl) ?_
  refine lv_aload_n hx hb d_LW_law_1037 rfl (lv_at hl 4 rfl) ?_
  refine lv_iload hx hb d_LW_law_1038 (lv_at hl 0 rfl) ?_
  refine lv_iconst (v := 1) hx hb d_LW_law_1040 (by decide) ?_
  refine lv_iadd hx hb d_LW_law_1041 ?_
  refine lv_topi (fun v1 ev1 => ?_)
  obtain rfl : v1 = 1 := ev1.trans (by decide)
  refine va_sld hx hb hX hbl hbA hS (show vp_in (nI 1) 6 from vp_in_nI (by decide) (by decide)) d_LW_law_1042 ?_
  refine W.eq (g2 := F0 m 1043 ls [.int (xs 1), .ref h0]) rfl ?_
  refine lv_aload_n hx hb d_LW_law_1043 rfl (lv_at hl 4 rfl) ?_
  refine lv_iload hx hb d_LW_law_1044 (lv_at hl 0 rfl) ?_
  refine lv_iconst (v := 2) hx hb d_LW_law_1046 (by decide) ?_
  refine lv_iadd hx hb d_LW_law_1047 ?_
  refine lv_topi (fun v2 ev2 => ?_)
  obtain rfl : v2 = 2 := ev2.trans (by decide)
  refine va_sld hx hb hX hbl hbA hS (show vp_in (nI 2) 6 from vp_in_nI (by decide) (by decide)) d_LW_law_1048 ?_
  refine W.eq (g2 := F0 m 1049 ls [.int (xs 2), .int (xs 1), .ref h0]) rfl ?_
  refine lv_aload_n hx hb d_LW_law_1049 rfl (lv_at hl 1 rfl) ?_
  have hPc := hP.sub (ws' := [(h0, .inr (0, [.ref rq, .ref oa, .ref pl, .ref dk, .ref rw, .int 0, .int 0, .int (-1)]))]) [0] rfl
  have hKc := hK.sub (tys' := []) [] rfl
  have hDc := hD.sub (ws' := [(h0, .inr (0, [.ref rq, .ref oa, .ref pl, .ref dk, .ref rw, .int 0, .int 0, .int (-1)]))]) [0] (by decide) rfl
  have hFc := va_free (wc := [(h0, .inr (0, [.ref rq, .ref oa, .ref pl, .ref dk, .ref rw, .int 0, .int 0, .int (-1)]))]) hD hS hA [0] rfl
  refine fr_call (tw_runSW (As := [.ref h0, .int (xs 1), .int (xs 2), .ref ou]) (rest := []) ⟨hx, hb, hml, hown, ht⟩ (c_LW_bookmark_bad l dC dI H.size s.heap.size hl9 h0 rq oa pl dk rw ou (xs 1) (xs 2)) rfl rfl ⟨Nat.le_of_ble_eq_true rfl, Nat.le_of_ble_eq_true rfl⟩ (pay_in ht (gW tb_592)) (show _ ∈ w_LW_bookmark from List.mem_cons_self) (ht _ tb_590) (ht _ tb_591) (ht _ tb_0) (n := 4) (by decide +kernel) ⟨frP_blind, fr_pre hPc hKc hDc hAB hBs hS hV⟩ rfl rfl hl.1 rfl (lv_room (Nat.le_of_ble_eq_true rfl)) d_LW_law_1050 ⟨Nat.le_of_ble_eq_true rfl, Nat.le_of_ble_eq_true rfl⟩) hS (fun q _ h => hFc q h) hFc (fun t H1 locs ht1 hvm hB1 hz1 hk1 hS => ?_)
  obtain ⟨hP1, hK1, hD1⟩ := hB1
  rw [ht1] at hP1
  have hK1 := va_K.moved hvm.symm hK1
  obtain ⟨hP, hD⟩ := va_join (wr := [(rq, .inl (k1, 40, .inr (.inr (.inr (.inr (fun _ => none)))))), (oa, .inl (k2, 8, .inl (fun _ => 0))), (pl, .inr (1, [.ref q9, .int 0])), (dk, .inr (2, [.ref d1, .ref d2, .ref d3, .ref d4])), (d1, .inl (k3, 24, .inl (fun _ => -1))), (rw, .inr (3, [.ref r1, .int 0, .int 0])), (g0, .inr (5, [.int 0, .int 0, .int (-1), .ref m3, .int 0, .ref m5, .ref m6, .ref m7, .ref m8, .ref m9, .ref m10, .ref m11, .ref m12, .ref m13, .ref m14, .ref m15, .ref m16, .ref m17, .ref m18, .ref m19, .ref m20, .int 0, .ref m22, .ref m23, .ref m24, .ref m25, .ref m26, .ref m27, .int 0, .ref m29])), (m3, .inl (j3, 8, .inl (fun _ => 0))), (m5, .inl (j5, 40, .inl (fun _ => 0))), (m6, .inl (j6, 40, .inl (fun _ => 0))), (m7, .inl (j7, 40, .inl (fun _ => 0))), (m8, .inl (j8, 40, .inl (fun _ => 0))), (m9, .inl (j9, 40, .inl (fun _ => 0))), (m10, .inl (j10, 40, .inl (fun _ => 0))), (ou, .inl (k4, 1, .inr (.inl (fun _ => 0))))]) (w1 := [(h0, .inr (0, [.ref rq, .ref oa, .ref pl, .ref dk, .ref rw, .int 0, .int 0, .int (-1)]))]) hP hD [0] [1, 2, 3, 4, 5, 6, 7, 8, 9, 10, 11, 12, 13, 14, 15] rfl rfl (by decide) (by decide) hk1 hFc hP1 hD1
  have hK := hK.app hK1
  generalize H1 = H at hP hS ⊢
  have hP : va_P (dC, dI) cls_ [(rq, .inl (k1, 40, .inr (.inr (.inr (.inr (fun _ => none)))))), (oa, .inl (k2, 8, .inl (fun _ => 0))), (pl, .inr (1, [.ref q9, .int 0])), (dk, .inr (2, [.ref d1, .ref d2, .ref d3, .ref d4])), (d1, .inl (k3, 24, .inl (fun _ => -1))), (rw, .inr (3, [.ref r1, .int 0, .int 0])), (g0, .inr (5, [.int 0, .int 0, .int (-1), .ref m3, .int 0, .ref m5, .ref m6, .ref m7, .ref m8, .ref m9, .ref m10, .ref m11, .ref m12, .ref m13, .ref m14, .ref m15, .ref m16, .ref m17, .ref m18, .ref m19, .ref m20, .int 0, .ref m22, .ref m23, .ref m24, .ref m25, .ref m26, .ref m27, .int 0, .ref m29])), (m3, .inl (j3, 8, .inl (fun _ => 0))), (m5, .inl (j5, 40, .inl (fun _ => 0))), (m6, .inl (j6, 40, .inl (fun _ => 0))), (m7, .inl (j7, 40, .inl (fun _ => 0))), (m8, .inl (j8, 40, .inl (fun _ => 0))), (m9, .inl (j9, 40, .inl (fun _ => 0))), (m10, .inl (j10, 40, .inl (fun _ => 0))), (ou, .inl (k4, 1, .inr (.inl (fun _ => 0)))), (h0, .inr (0, [.ref rq, .ref oa, .ref pl, .ref dk, .ref rw, .int 0, .int 0, .int (-1)]))] H := hP
  have hD : va_D A [(rq, .inl (k1, 40, .inr (.inr (.inr (.inr (fun _ => none)))))), (oa, .inl (k2, 8, .inl (fun _ => 0))), (pl, .inr (1, [.ref q9, .int 0])), (dk, .inr (2, [.ref d1, .ref d2, .ref d3, .ref d4])), (d1, .inl (k3, 24, .inl (fun _ => -1))), (rw, .inr (3, [.ref r1, .int 0, .int 0])), (g0, .inr (5, [.int 0, .int 0, .int (-1), .ref m3, .int 0, .ref m5, .ref m6, .ref m7, .ref m8, .ref m9, .ref m10, .ref m11, .ref m12, .ref m13, .ref m14, .ref m15, .ref m16, .ref m17, .ref m18, .ref m19, .ref m20, .int 0, .ref m22, .ref m23, .ref m24, .ref m25, .ref m26, .ref m27, .int 0, .ref m29])), (m3, .inl (j3, 8, .inl (fun _ => 0))), (m5, .inl (j5, 40, .inl (fun _ => 0))), (m6, .inl (j6, 40, .inl (fun _ => 0))), (m7, .inl (j7, 40, .inl (fun _ => 0))), (m8, .inl (j8, 40, .inl (fun _ => 0))), (m9, .inl (j9, 40, .inl (fun _ => 0))), (m10, .inl (j10, 40, .inl (fun _ => 0))), (ou, .inl (k4, 1, .inr (.inl (fun _ => 0)))), (h0, .inr (0, [.ref rq, .ref oa, .ref pl, .ref dk, .ref rw, .int 0, .int 0, .int (-1)]))] := hD
  have hK : va_K (dC, dI) cls_ [(k1, .object "TwinTuners$Request"), (k2, .int), (k3, .int), (j3, .int), (j5, .int), (j6, .int), (j7, .int), (j8, .int), (j9, .int), (j10, .int), (k4, .long)] s := hK
  refine W.eq (g2 := F0 m 1053 ls [.int 1]) rfl ?_
  refine W.cs (cells' := 39) (slots' := 14130) rfl rfl ?_
  refine lv_istore hx hb d_LW_law_1053 hl (by decide) rfl (fun ls hl => ?_)
  have hl : lv_has ls 8 [(5, .int 1), (4, .int 0), (3, .ref ou), (2, .ref g0), (1, .ref h0), (0, .ref b)] := hl
  refine lv_aload_n hx hb d_LW_law_1055 rfl (lv_at hl 3 rfl) ?_
  refine lv_aload_n hx hb d_LW_law_1056 rfl (lv_at hl 5 rfl) ?_
  refine lv_iload hx hb d_LW_law_1057 (lv_at hl 1 rfl) ?_
  refine lv_iconst (v := 1) hx hb d_LW_law_1059 (by decide) ?_
  refine lv_iadd hx hb d_LW_law_1060 ?_
  refine lv_topi (fun v3 ev3 => ?_)
  obtain rfl : v3 = 1 := ev3.trans (by decide)
  refine va_sld hx hb hX hbl hbA hS (show vp_in (nI 1) 6 from vp_in_nI (by decide) (by decide)) d_LW_law_1061 ?_
  refine W.eq (g2 := F0 m 1062 ls [.int (xs 1), .ref g0]) rfl ?_
  refine lv_aload_n hx hb d_LW_law_1062 rfl (lv_at hl 5 rfl) ?_
  refine lv_iload hx hb d_LW_law_1063 (lv_at hl 1 rfl) ?_
  refine lv_iconst (v := 2) hx hb d_LW_law_1065 (by decide) ?_
  refine lv_iadd hx hb d_LW_law_1066 ?_
  refine lv_topi (fun v4 ev4 => ?_)
  obtain rfl : v4 = 2 := ev4.trans (by decide)
  refine va_sld hx hb hX hbl hbA hS (show vp_in (nI 2) 6 from vp_in_nI (by decide) (by decide)) d_LW_law_1067 ?_
  refine W.eq (g2 := F0 m 1068 ls [.int (xs 2), .int (xs 1), .ref g0]) rfl ?_
  have hPc := hP.sub (ws' := [(g0, .inr (5, [.int 0, .int 0, .int (-1), .ref m3, .int 0, .ref m5, .ref m6, .ref m7, .ref m8, .ref m9, .ref m10, .ref m11, .ref m12, .ref m13, .ref m14, .ref m15, .ref m16, .ref m17, .ref m18, .ref m19, .ref m20, .int 0, .ref m22, .ref m23, .ref m24, .ref m25, .ref m26, .ref m27, .int 0, .ref m29]))]) [6] rfl
  have hKc := hK.sub (tys' := []) [] rfl
  have hDc := hD.sub (ws' := [(g0, .inr (5, [.int 0, .int 0, .int (-1), .ref m3, .int 0, .ref m5, .ref m6, .ref m7, .ref m8, .ref m9, .ref m10, .ref m11, .ref m12, .ref m13, .ref m14, .ref m15, .ref m16, .ref m17, .ref m18, .ref m19, .ref m20, .int 0, .ref m22, .ref m23, .ref m24, .ref m25, .ref m26, .ref m27, .int 0, .ref m29]))]) [6] (by decide) rfl
  have hFc := va_free (wc := [(g0, .inr (5, [.int 0, .int 0, .int (-1), .ref m3, .int 0, .ref m5, .ref m6, .ref m7, .ref m8, .ref m9, .ref m10, .ref m11, .ref m12, .ref m13, .ref m14, .ref m15, .ref m16, .ref m17, .ref m18, .ref m19, .ref m20, .int 0, .ref m22, .ref m23, .ref m24, .ref m25, .ref m26, .ref m27, .int 0, .ref m29]))]) hD hS hA [6] rfl
  refine fr_call (va_runV (C := R_MO) (As := [.int (xs 1), .int (xs 2)]) (rest := []) ⟨hx, hb, hml, hown, ht⟩ (c_MO_bookmark_bad l dC dI H.size s.heap.size g0 m3 m5 m6 m7 m8 m9 m10 m11 m12 m13 m14 m15 m16 m17 m18 m19 m20 m22 m23 m24 m25 m26 m27 m29 (xs 1) (xs 2)) (cwV 2 ht (gV tb_902 tb_903 tb_904 tb_5 tb_905) rfl rfl rfl (by decide +kernel) ⟨Nat.le_of_ble_eq_true rfl, Nat.le_of_ble_eq_true rfl⟩) ⟨frP_blind, va_recv (q := (R_MO, F_MO, 30)) hK hP rfl (show ([(rq, .inl (k1, 40, .inr (.inr (.inr (.inr (fun _ => none)))))), (oa, .inl (k2, 8, .inl (fun _ => 0))), (pl, .inr (1, [.ref q9, .int 0])), (dk, .inr (2, [.ref d1, .ref d2, .ref d3, .ref d4])), (d1, .inl (k3, 24, .inl (fun _ => -1))), (rw, .inr (3, [.ref r1, .int 0, .int 0])), (g0, .inr (5, [.int 0, .int 0, .int (-1), .ref m3, .int 0, .ref m5, .ref m6, .ref m7, .ref m8, .ref m9, .ref m10, .ref m11, .ref m12, .ref m13, .ref m14, .ref m15, .ref m16, .ref m17, .ref m18, .ref m19, .ref m20, .int 0, .ref m22, .ref m23, .ref m24, .ref m25, .ref m26, .ref m27, .int 0, .ref m29])), (m3, .inl (j3, 8, .inl (fun _ => 0))), (m5, .inl (j5, 40, .inl (fun _ => 0))), (m6, .inl (j6, 40, .inl (fun _ => 0))), (m7, .inl (j7, 40, .inl (fun _ => 0))), (m8, .inl (j8, 40, .inl (fun _ => 0))), (m9, .inl (j9, 40, .inl (fun _ => 0))), (m10, .inl (j10, 40, .inl (fun _ => 0))), (ou, .inl (k4, 1, .inr (.inl (fun _ => 0)))), (h0, .inr (0, [.ref rq, .ref oa, .ref pl, .ref dk, .ref rw, .int 0, .int 0, .int (-1)]))] : va_W)[6]? = some (g0, .inr (5, [.int 0, .int 0, .int (-1), .ref m3, .int 0, .ref m5, .ref m6, .ref m7, .ref m8, .ref m9, .ref m10, .ref m11, .ref m12, .ref m13, .ref m14, .ref m15, .ref m16, .ref m17, .ref m18, .ref m19, .ref m20, .int 0, .ref m22, .ref m23, .ref m24, .ref m25, .ref m26, .ref m27, .int 0, .ref m29])) from rfl), fr_pre hPc hKc hDc hAB hBs hS hV⟩ rfl rfl hl.1 rfl (lv_room (Nat.le_of_ble_eq_true rfl)) d_LW_law_1068 ⟨Nat.le_of_ble_eq_true rfl, Nat.le_of_ble_eq_true rfl⟩) hS (fun q _ h => hFc q h) hFc (fun t H1 locs ht1 hvm hB1 hz1 hk1 hS => ?_)
  obtain ⟨hP1, hK1, hD1⟩ := hB1
  rw [ht1] at hP1
  have hK1 := va_K.moved hvm.symm hK1
  obtain ⟨hP, hD⟩ := va_join (wr := [(rq, .inl (k1, 40, .inr (.inr (.inr (.inr (fun _ => none)))))), (oa, .inl (k2, 8, .inl (fun _ => 0))), (pl, .inr (1, [.ref q9, .int 0])), (dk, .inr (2, [.ref d1, .ref d2, .ref d3, .ref d4])), (d1, .inl (k3, 24, .inl (fun _ => -1))), (rw, .inr (3, [.ref r1, .int 0, .int 0])), (m3, .inl (j3, 8, .inl (fun _ => 0))), (m5, .inl (j5, 40, .inl (fun _ => 0))), (m6, .inl (j6, 40, .inl (fun _ => 0))), (m7, .inl (j7, 40, .inl (fun _ => 0))), (m8, .inl (j8, 40, .inl (fun _ => 0))), (m9, .inl (j9, 40, .inl (fun _ => 0))), (m10, .inl (j10, 40, .inl (fun _ => 0))), (ou, .inl (k4, 1, .inr (.inl (fun _ => 0)))), (h0, .inr (0, [.ref rq, .ref oa, .ref pl, .ref dk, .ref rw, .int 0, .int 0, .int (-1)]))]) (w1 := [(g0, .inr (5, [.int 1, .int 0, .int (-1), .ref m3, .int 0, .ref m5, .ref m6, .ref m7, .ref m8, .ref m9, .ref m10, .ref m11, .ref m12, .ref m13, .ref m14, .ref m15, .ref m16, .ref m17, .ref m18, .ref m19, .ref m20, .int 0, .ref m22, .ref m23, .ref m24, .ref m25, .ref m26, .ref m27, .int 0, .ref m29]))]) hP hD [6] [0, 1, 2, 3, 4, 5, 7, 8, 9, 10, 11, 12, 13, 14, 15] rfl rfl (by decide) (by decide) hk1 hFc hP1 hD1
  have hK := hK.app hK1
  generalize H1 = H at hP hS ⊢
  have hP : va_P (dC, dI) cls_ [(rq, .inl (k1, 40, .inr (.inr (.inr (.inr (fun _ => none)))))), (oa, .inl (k2, 8, .inl (fun _ => 0))), (pl, .inr (1, [.ref q9, .int 0])), (dk, .inr (2, [.ref d1, .ref d2, .ref d3, .ref d4])), (d1, .inl (k3, 24, .inl (fun _ => -1))), (rw, .inr (3, [.ref r1, .int 0, .int 0])), (m3, .inl (j3, 8, .inl (fun _ => 0))), (m5, .inl (j5, 40, .inl (fun _ => 0))), (m6, .inl (j6, 40, .inl (fun _ => 0))), (m7, .inl (j7, 40, .inl (fun _ => 0))), (m8, .inl (j8, 40, .inl (fun _ => 0))), (m9, .inl (j9, 40, .inl (fun _ => 0))), (m10, .inl (j10, 40, .inl (fun _ => 0))), (ou, .inl (k4, 1, .inr (.inl (fun _ => 0)))), (h0, .inr (0, [.ref rq, .ref oa, .ref pl, .ref dk, .ref rw, .int 0, .int 0, .int (-1)])), (g0, .inr (5, [.int 1, .int 0, .int (-1), .ref m3, .int 0, .ref m5, .ref m6, .ref m7, .ref m8, .ref m9, .ref m10, .ref m11, .ref m12, .ref m13, .ref m14, .ref m15, .ref m16, .ref m17, .ref m18, .ref m19, .ref m20, .int 0, .ref m22, .ref m23, .ref m24, .ref m25, .ref m26, .ref m27, .int 0, .ref m29]))] H := hP
  have hD : va_D A [(rq, .inl (k1, 40, .inr (.inr (.inr (.inr (fun _ => none)))))), (oa, .inl (k2, 8, .inl (fun _ => 0))), (pl, .inr (1, [.ref q9, .int 0])), (dk, .inr (2, [.ref d1, .ref d2, .ref d3, .ref d4])), (d1, .inl (k3, 24, .inl (fun _ => -1))), (rw, .inr (3, [.ref r1, .int 0, .int 0])), (m3, .inl (j3, 8, .inl (fun _ => 0))), (m5, .inl (j5, 40, .inl (fun _ => 0))), (m6, .inl (j6, 40, .inl (fun _ => 0))), (m7, .inl (j7, 40, .inl (fun _ => 0))), (m8, .inl (j8, 40, .inl (fun _ => 0))), (m9, .inl (j9, 40, .inl (fun _ => 0))), (m10, .inl (j10, 40, .inl (fun _ => 0))), (ou, .inl (k4, 1, .inr (.inl (fun _ => 0)))), (h0, .inr (0, [.ref rq, .ref oa, .ref pl, .ref dk, .ref rw, .int 0, .int 0, .int (-1)])), (g0, .inr (5, [.int 1, .int 0, .int (-1), .ref m3, .int 0, .ref m5, .ref m6, .ref m7, .ref m8, .ref m9, .ref m10, .ref m11, .ref m12, .ref m13, .ref m14, .ref m15, .ref m16, .ref m17, .ref m18, .ref m19, .ref m20, .int 0, .ref m22, .ref m23, .ref m24, .ref m25, .ref m26, .ref m27, .int 0, .ref m29]))] := hD
  have hK : va_K (dC, dI) cls_ [(k1, .object "TwinTuners$Request"), (k2, .int), (k3, .int), (j3, .int), (j5, .int), (j6, .int), (j7, .int), (j8, .int), (j9, .int), (j10, .int), (k4, .long)] s := hK
  refine W.eq (g2 := F0 m 1071 ls [.int 0]) rfl ?_
  refine W.cs (cells' := 39) (slots' := 14130) rfl rfl ?_
  refine lv_istore hx hb d_LW_law_1071 hl (by decide) rfl (fun ls hl => ?_)
  have hl : lv_has ls 8 [(6, .int 0), (5, .int 1), (4, .int 0), (3, .ref ou), (2, .ref g0), (1, .ref h0), (0, .ref b)] := hl
  refine lv_aload_n hx hb d_LW_law_1073 rfl (lv_at hl 4 rfl) ?_
  have hPc := hP.sub (ws' := [(g0, .inr (5, [.int 1, .int 0, .int (-1), .ref m3, .int 0, .ref m5, .ref m6, .ref m7, .ref m8, .ref m9, .ref m10, .ref m11, .ref m12, .ref m13, .ref m14, .ref m15, .ref m16, .ref m17, .ref m18, .ref m19, .ref m20, .int 0, .ref m22, .ref m23, .ref m24, .ref m25, .ref m26, .ref m27, .int 0, .ref m29]))]) [15] rfl
  have hKc := hK.sub (tys' := []) [] rfl
  refine rd_call (va_runV (C := R_MO) (As := []) (rest := []) ⟨hx, hb, hml, hown, ht⟩ (c_MO_thrown_v l dC dI g0 m3 m5 m6 m7 m8 m9 m10 m11 m12 m13 m14 m15 m16 m17 m18 m19 m20 m22 m23 m24 m25 m26 m27 m29 1 0 (-1) 0) (cwV 0 ht (gV tb_723 tb_724 tb_725 tb_5 tb_726) rfl rfl rfl (by decide +kernel) ⟨Nat.le_of_ble_eq_true rfl, Nat.le_of_ble_eq_true rfl⟩) ⟨rdP_blind, va_recv (q := (R_MO, F_MO, 30)) hK hP rfl (show ([(rq, .inl (k1, 40, .inr (.inr (.inr (.inr (fun _ => none)))))), (oa, .inl (k2, 8, .inl (fun _ => 0))), (pl, .inr (1, [.ref q9, .int 0])), (dk, .inr (2, [.ref d1, .ref d2, .ref d3, .ref d4])), (d1, .inl (k3, 24, .inl (fun _ => -1))), (rw, .inr (3, [.ref r1, .int 0, .int 0])), (m3, .inl (j3, 8, .inl (fun _ => 0))), (m5, .inl (j5, 40, .inl (fun _ => 0))), (m6, .inl (j6, 40, .inl (fun _ => 0))), (m7, .inl (j7, 40, .inl (fun _ => 0))), (m8, .inl (j8, 40, .inl (fun _ => 0))), (m9, .inl (j9, 40, .inl (fun _ => 0))), (m10, .inl (j10, 40, .inl (fun _ => 0))), (ou, .inl (k4, 1, .inr (.inl (fun _ => 0)))), (h0, .inr (0, [.ref rq, .ref oa, .ref pl, .ref dk, .ref rw, .int 0, .int 0, .int (-1)])), (g0, .inr (5, [.int 1, .int 0, .int (-1), .ref m3, .int 0, .ref m5, .ref m6, .ref m7, .ref m8, .ref m9, .ref m10, .ref m11, .ref m12, .ref m13, .ref m14, .ref m15, .ref m16, .ref m17, .ref m18, .ref m19, .ref m20, .int 0, .ref m22, .ref m23, .ref m24, .ref m25, .ref m26, .ref m27, .int 0, .ref m29]))] : va_W)[15]? = some (g0, .inr (5, [.int 1, .int 0, .int (-1), .ref m3, .int 0, .ref m5, .ref m6, .ref m7, .ref m8, .ref m9, .ref m10, .ref m11, .ref m12, .ref m13, .ref m14, .ref m15, .ref m16, .ref m17, .ref m18, .ref m19, .ref m20, .int 0, .ref m22, .ref m23, .ref m24, .ref m25, .ref m26, .ref m27, .int 0, .ref m29])) from rfl), rd_pre hPc hKc⟩ rfl rfl hl.1 rfl (lv_room (Nat.le_of_ble_eq_true rfl)) d_LW_law_1074 ⟨Nat.le_of_ble_eq_true rfl, Nat.le_of_ble_eq_true rfl⟩) ?_
  refine W.eq (g2 := F0 m 1077 ls [.int 1]) rfl ?_
  refine lv_iload hx hb d_LW_law_1077 (lv_at hl 1 rfl) ?_
  refine lv_icmp_eq (tgt := 1084) hx hb d_LW_law_1079 (by decide) (fun _ => ?_) (fun h9 => absurd (rfl) h9)
  refine lv_iload hx hb d_LW_law_1084 (lv_at hl 1 rfl) ?_
  refine lv_if_ne (tgt := 1101) hx hb d_LW_law_1086 (by decide) (fun _ => ?_) (fun h9 => absurd h9 (by decide))
  refine lv_goto (tgt := 1228) hx hb d_LW_law_1101 (by decide) ?_
  have hl := lv_sub hl [2, 6] (l' := [(4, .int 0), (0, .ref b)]) rfl
  exact tl_end hx hb hr hlocks hbl hbA hAB hX (Nat.le_of_ble_eq_true rfl) (Nat.le_of_ble_eq_true rfl) hS hl
set_option maxHeartbeats 4000000 in
set_option maxRecDepth 100000 in
theorem cs_19 {p : Program} {l : Launch} {e : Env} {s : State} {m : MethodId} {below : List Frame} {meth : Method} {c : Code} {A : Nat → Prop} {b : Nat} {H : Heap} {locs : List Loc} {ls : Array Slot} {xs : Nat → Int32} (dC : Nat → ClassId) (dI : Nat → Nat → Nat) (h0 rq oa pl dk rw q9 d1 d2 d3 d4 r1 g0 m3 m5 m6 m7 m8 m9 m10 m11 m12 m13 m14 m15 m16 m17 m18 m19 m20 m22 m23 m24 m25 m26 m27 m29 ou : Nat) (k1 k2 k3 j3 j5 j6 j7 j8 j9 j10 k4 : ClassId) (hl9 : l.stackTraces = false) (hx : p.tables.exec = Jvm.exec) (hb : c.code = code) (hr : meth.sig.returnType = ret) (hlocks : meth.locks = false) (hbl : b < s.heap.size) (hbA : ¬ A b) (hAB : ∀ q, A q → s.heap.size ≤ q) (hX : va_X b 6 xs s s.heap) (hml : c.maxLocals = 8) (hown : s.vm.findClass R_LW = some m.cls) (ht : ∀ w ∈ tb_, w.before #[Value.ref b] s = true) (hA : ∀ q : Nat, s.heap.size ≤ q → A q) (hBs : s.heap.size ≤ s.heap.size) (hV : tw_V s.heap.size s s.heap)
    (hK : va_K (dC, dI) cls_ [(k1, .object "TwinTuners$Request"), (k2, .int), (k3, .int), (j3, .int), (j5, .int), (j6, .int), (j7, .int), (j8, .int), (j9, .int), (j10, .int), (k4, .long)] s) (hP : va_P (dC, dI) cls_ [(h0, .inr (0, [.ref rq, .ref oa, .ref pl, .ref dk, .ref rw, .int 0, .int 0, .int (-1)])), (rq, .inl (k1, 40, .inr (.inr (.inr (.inr (fun _ => none)))))), (oa, .inl (k2, 8, .inl (fun _ => 0))), (pl, .inr (1, [.ref q9, .int 0])), (dk, .inr (2, [.ref d1, .ref d2, .ref d3, .ref d4])), (d1, .inl (k3, 24, .inl (fun _ => -1))), (rw, .inr (3, [.ref r1, .int 0, .int 0])), (g0, .inr (5, [.int 0, .int 0, .int (-1), .ref m3, .int 0, .ref m5, .ref m6, .ref m7, .ref m8, .ref m9, .ref m10, .ref m11, .ref m12, .ref m13, .ref m14, .ref m15, .ref m16, .ref m17, .ref m18, .ref m19, .ref m20, .int 0, .ref m22, .ref m23, .ref m24, .ref m25, .ref m26, .ref m27, .int 0, .ref m29])), (m3, .inl (j3, 8, .inl (fun _ => 0))), (m5, .inl (j5, 40, .inl (fun _ => 0))), (m6, .inl (j6, 40, .inl (fun _ => 0))), (m7, .inl (j7, 40, .inl (fun _ => 0))), (m8, .inl (j8, 40, .inl (fun _ => 0))), (m9, .inl (j9, 40, .inl (fun _ => 0))), (m10, .inl (j10, 40, .inl (fun _ => 0))), (ou, .inl (k4, 1, .inr (.inl (fun _ => 0))))] H) (hD : va_D A [(h0, .inr (0, [.ref rq, .ref oa, .ref pl, .ref dk, .ref rw, .int 0, .int 0, .int (-1)])), (rq, .inl (k1, 40, .inr (.inr (.inr (.inr (fun _ => none)))))), (oa, .inl (k2, 8, .inl (fun _ => 0))), (pl, .inr (1, [.ref q9, .int 0])), (dk, .inr (2, [.ref d1, .ref d2, .ref d3, .ref d4])), (d1, .inl (k3, 24, .inl (fun _ => -1))), (rw, .inr (3, [.ref r1, .int 0, .int 0])), (g0, .inr (5, [.int 0, .int 0, .int (-1), .ref m3, .int 0, .ref m5, .ref m6, .ref m7, .ref m8, .ref m9, .ref m10, .ref m11, .ref m12, .ref m13, .ref m14, .ref m15, .ref m16, .ref m17, .ref m18, .ref m19, .ref m20, .int 0, .ref m22, .ref m23, .ref m24, .ref m25, .ref m26, .ref m27, .int 0, .ref m29])), (m3, .inl (j3, 8, .inl (fun _ => 0))), (m5, .inl (j5, 40, .inl (fun _ => 0))), (m6, .inl (j6, 40, .inl (fun _ => 0))), (m7, .inl (j7, 40, .inl (fun _ => 0))), (m8, .inl (j8, 40, .inl (fun _ => 0))), (m9, .inl (j9, 40, .inl (fun _ => 0))), (m10, .inl (j10, 40, .inl (fun _ => 0))), (ou, .inl (k4, 1, .inr (.inl (fun _ => 0))))]) (hS : va_S A s.heap H locs) (hl : lv_has ls 8 [(4, .int 0), (3, .ref ou), (2, .ref g0), (1, .ref h0), (0, .ref b)]) : W p l e room_1 s m #[Value.ref b] below meth c H locs 38 14124 (lw_Z below #[Value.ref b] s) (F0 m 1104 ls []) := by
  refine lv_aload_n hx hb d_LW_law_1104 rfl (lv_at hl 3 rfl) ?_
  refine lv_aload_n hx hb d_LW_law_1105 rfl (lv_at hl 4 rfl) ?_
  refine lv_iload hx hb d_LW_law_1106 (lv_at hl 0 rfl) ?_
  refine lv_iconst (v := 1) hx hb d_LW_law_1108 (by decide) ?_
  refine lv_iadd hx hb d_LW_law_1109 ?_
  refine lv_topi (fun v1 ev1 => ?_)
  obtain rfl : v1 = 1 := ev1.trans (by decide)
  refine va_sld hx hb hX hbl hbA hS (show vp_in (nI 1) 6 from vp_in_nI (by decide) (by decide)) d_LW_law_1110 ?_
  refine W.eq (g2 := F0 m 1111 ls [.int (xs 1), .ref h0]) rfl ?_
  refine lv_aload_n hx hb d_LW_law_1111 rfl (lv_at hl 4 rfl) ?_
  refine lv_iload hx hb d_LW_law_1112 (lv_at hl 0 rfl) ?_
  refine lv_iconst (v := 2) hx hb d_LW_law_1114 (by decide) ?_
  refine lv_iadd hx hb d_LW_law_1115 ?_
  refine lv_topi (fun v2 ev2 => ?_)
  obtain rfl : v2 = 2 := ev2.trans (by decide)
  refine va_sld hx hb hX hbl hbA hS (show vp_in (nI 2) 6 from vp_in_nI (by decide) (by decide)) d_LW_law_1116 ?_
  refine W.eq (g2 := F0 m 1117 ls [.int (xs 2), .int (xs 1), .ref h0]) rfl ?_
  refine lv_aload_n hx hb d_LW_law_1117 rfl (lv_at hl 1 rfl) ?_
  have hPc := hP.sub (ws' := [(h0, .inr (0, [.ref rq, .ref oa, .ref pl, .ref dk, .ref rw, .int 0, .int 0, .int (-1)]))]) [0] rfl
  have hKc := hK.sub (tys' := []) [] rfl
  have hDc := hD.sub (ws' := [(h0, .inr (0, [.ref rq, .ref oa, .ref pl, .ref dk, .ref rw, .int 0, .int 0, .int (-1)]))]) [0] (by decide) rfl
  have hFc := va_free (wc := [(h0, .inr (0, [.ref rq, .ref oa, .ref pl, .ref dk, .ref rw, .int 0, .int 0, .int (-1)]))]) hD hS hA [0] rfl
  refine fr_call (tw_runSW (As := [.ref h0, .int (xs 1), .int (xs 2), .ref ou]) (rest := []) ⟨hx, hb, hml, hown, ht⟩ (c_LW_bookmarkAt_bad l dC dI H.size s.heap.size hl9 h0 rq oa pl dk rw ou (xs 1) (xs 2)) rfl rfl ⟨Nat.le_of_ble_eq_true rfl, Nat.le_of_ble_eq_true rfl⟩ (pay_in ht (gW tb_605)) (show _ ∈ w_LW_bookmarkAt from List.mem_cons_self) (ht _ tb_603) (ht _ tb_604) (ht _ tb_0) (n := 4) (by decide +kernel) ⟨frP_blind, fr_pre hPc hKc hDc hAB hBs hS hV⟩ rfl rfl hl.1 rfl (lv_room (Nat.le_of_ble_eq_true rfl)) d_LW_law_1118 ⟨Nat.le_of_ble_eq_true rfl, Nat.le_of_ble_eq_true rfl⟩) hS (fun q _ h => hFc q h) hFc (fun t H1 locs ht1 hvm hB1 hz1 hk1 hS => ?_)
  obtain ⟨hP1, hK1, hD1⟩ := hB1
  rw [ht1] at hP1
  have hK1 := va_K.moved hvm.symm hK1
  obtain ⟨hP, hD⟩ := va_join (wr := [(rq, .inl (k1, 40, .inr (.inr (.inr (.inr (fun _ => none)))))), (oa, .inl (k2, 8, .inl (fun _ => 0))), (pl, .inr (1, [.ref q9, .int 0])), (dk, .inr (2, [.ref d1, .ref d2, .ref d3, .ref d4])), (d1, .inl (k3, 24, .inl (fun _ => -1))), (rw, .inr (3, [.ref r1, .int 0, .int 0])), (g0, .inr (5, [.int 0, .int 0, .int (-1), .ref m3, .int 0, .ref m5, .ref m6, .ref m7, .ref m8, .ref m9, .ref m10, .ref m11, .ref m12, .ref m13, .ref m14, .ref m15, .ref m16, .ref m17, .ref m18, .ref m19, .ref m20, .int 0, .ref m22, .ref m23, .ref m24, .ref m25, .ref m26, .ref m27, .int 0, .ref m29])), (m3, .inl (j3, 8, .inl (fun _ => 0))), (m5, .inl (j5, 40, .inl (fun _ => 0))), (m6, .inl (j6, 40, .inl (fun _ => 0))), (m7, .inl (j7, 40, .inl (fun _ => 0))), (m8, .inl (j8, 40, .inl (fun _ => 0))), (m9, .inl (j9, 40, .inl (fun _ => 0))), (m10, .inl (j10, 40, .inl (fun _ => 0))), (ou, .inl (k4, 1, .inr (.inl (fun _ => 0))))]) (w1 := [(h0, .inr (0, [.ref rq, .ref oa, .ref pl, .ref dk, .ref rw, .int 0, .int 0, .int (-1)]))]) hP hD [0] [1, 2, 3, 4, 5, 6, 7, 8, 9, 10, 11, 12, 13, 14, 15] rfl rfl (by decide) (by decide) hk1 hFc hP1 hD1
  have hK := hK.app hK1
  generalize H1 = H at hP hS ⊢
  have hP : va_P (dC, dI) cls_ [(rq, .inl (k1, 40, .inr (.inr (.inr (.inr (fun _ => none)))))), (oa, .inl (k2, 8, .inl (fun _ => 0))), (pl, .inr (1, [.ref q9, .int 0])), (dk, .inr (2, [.ref d1, .ref d2, .ref d3, .ref d4])), (d1, .inl (k3, 24, .inl (fun _ => -1))), (rw, .inr (3, [.ref r1, .int 0, .int 0])), (g0, .inr (5, [.int 0, .int 0, .int (-1), .ref m3, .int 0, .ref m5, .ref m6, .ref m7, .ref m8, .ref m9, .ref m10, .ref m11, .ref m12, .ref m13, .ref m14, .ref m15, .ref m16, .ref m17, .ref m18, .ref m19, .ref m20, .int 0, .ref m22, .ref m23, .ref m24, .ref m25, .ref m26, .ref m27, .int 0, .ref m29])), (m3, .inl (j3, 8, .inl (fun _ => 0))), (m5, .inl (j5, 40, .inl (fun _ => 0))), (m6, .inl (j6, 40, .inl (fun _ => 0))), (m7, .inl (j7, 40, .inl (fun _ => 0))), (m8, .inl (j8, 40, .inl (fun _ => 0))), (m9, .inl (j9, 40, .inl (fun _ => 0))), (m10, .inl (j10, 40, .inl (fun _ => 0))), (ou, .inl (k4, 1, .inr (.inl (fun _ => 0)))), (h0, .inr (0, [.ref rq, .ref oa, .ref pl, .ref dk, .ref rw, .int 0, .int 0, .int (-1)]))] H := hP
  have hD : va_D A [(rq, .inl (k1, 40, .inr (.inr (.inr (.inr (fun _ => none)))))), (oa, .inl (k2, 8, .inl (fun _ => 0))), (pl, .inr (1, [.ref q9, .int 0])), (dk, .inr (2, [.ref d1, .ref d2, .ref d3, .ref d4])), (d1, .inl (k3, 24, .inl (fun _ => -1))), (rw, .inr (3, [.ref r1, .int 0, .int 0])), (g0, .inr (5, [.int 0, .int 0, .int (-1), .ref m3, .int 0, .ref m5, .ref m6, .ref m7, .ref m8, .ref m9, .ref m10, .ref m11, .ref m12, .ref m13, .ref m14, .ref m15, .ref m16, .ref m17, .ref m18, .ref m19, .ref m20, .int 0, .ref m22, .ref m23, .ref m24, .ref m25, .ref m26, .ref m27, .int 0, .ref m29])), (m3, .inl (j3, 8, .inl (fun _ => 0))), (m5, .inl (j5, 40, .inl (fun _ => 0))), (m6, .inl (j6, 40, .inl (fun _ => 0))), (m7, .inl (j7, 40, .inl (fun _ => 0))), (m8, .inl (j8, 40, .inl (fun _ => 0))), (m9, .inl (j9, 40, .inl (fun _ => 0))), (m10, .inl (j10, 40, .inl (fun _ => 0))), (ou, .inl (k4, 1, .inr (.inl (fun _ => 0)))), (h0, .inr (0, [.ref rq, .ref oa, .ref pl, .ref dk, .ref rw, .int 0, .int 0, .int (-1)]))] := hD
  have hK : va_K (dC, dI) cls_ [(k1, .object "TwinTuners$Request"), (k2, .int), (k3, .int), (j3, .int), (j5, .int), (j6, .int), (j7, .int), (j8, .int), (j9, .int), (j10, .int), (k4, .long)] s := hK
  refine W.eq (g2 := F0 m 1121 ls [.int 1]) rfl ?_
  refine W.cs (cells' := 39) (slots' := 14130) rfl rfl ?_
  refine lv_istore hx hb d_LW_law_1121 hl (by decide) rfl (fun ls hl => ?_)
  have hl : lv_has ls 8 [(5, .int 1), (4, .int 0), (3, .ref ou), (2, .ref g0), (1, .ref h0), (0, .ref b)] := hl
  refine lv_aload_n hx hb d_LW_law_1123 rfl (lv_at hl 3 rfl) ?_
  refine lv_aload_n hx hb d_LW_law_1124 rfl (lv_at hl 5 rfl) ?_
  refine lv_iload hx hb d_LW_law_1125 (lv_at hl 1 rfl) ?_
  refine lv_iconst (v := 1) hx hb d_LW_law_1127 (by decide) ?_
  refine lv_iadd hx hb d_LW_law_1128 ?_
  refine lv_topi (fun v3 ev3 => ?_)
  obtain rfl : v3 = 1 := ev3.trans (by decide)
  refine va_sld hx hb hX hbl hbA hS (show vp_in (nI 1) 6 from vp_in_nI (by decide) (by decide)) d_LW_law_1129 ?_
  refine W.eq (g2 := F0 m 1130 ls [.int (xs 1), .ref g0]) rfl ?_
  refine lv_aload_n hx hb d_LW_law_1130 rfl (lv_at hl 5 rfl) ?_
  refine lv_iload hx hb d_LW_law_1131 (lv_at hl 1 rfl) ?_
  refine lv_iconst (v := 2) hx hb d_LW_law_1133 (by decide) ?_
  refine lv_iadd hx hb d_LW_law_1134 ?_
  refine lv_topi (fun v4 ev4 => ?_)
  obtain rfl : v4 = 2 := ev4.trans (by decide)
  refine va_sld hx hb hX hbl hbA hS (show vp_in (nI 2) 6 from vp_in_nI (by decide) (by decide)) d_LW_law_1135 ?_
  refine W.eq (g2 := F0 m 1136 ls [.int (xs 2), .int (xs 1), .ref g0]) rfl ?_
  have hPc := hP.sub (ws' := [(g0, .inr (5, [.int 0, .int 0, .int (-1), .ref m3, .int 0, .ref m5, .ref m6, .ref m7, .ref m8, .ref m9, .ref m10, .ref m11, .ref m12, .ref m13, .ref m14, .ref m15, .ref m16, .ref m17, .ref m18, .ref m19, .ref m20, .int 0, .ref m22, .ref m23, .ref m24, .ref m25, .ref m26, .ref m27, .int 0, .ref m29]))]) [6] rfl
  have hKc := hK.sub (tys' := []) [] rfl
  have hDc := hD.sub (ws' := [(g0, .inr (5, [.int 0, .int 0, .int (-1), .ref m3, .int 0, .ref m5, .ref m6, .ref m7, .ref m8, .ref m9, .ref m10, .ref m11, .ref m12, .ref m13, .ref m14, .ref m15, .ref m16, .ref m17, .ref m18, .ref m19, .ref m20, .int 0, .ref m22, .ref m23, .ref m24, .ref m25, .ref m26, .ref m27, .int 0, .ref m29]))]) [6] (by decide) rfl
  have hFc := va_free (wc := [(g0, .inr (5, [.int 0, .int 0, .int (-1), .ref m3, .int 0, .ref m5, .ref m6, .ref m7, .ref m8, .ref m9, .ref m10, .ref m11, .ref m12, .ref m13, .ref m14, .ref m15, .ref m16, .ref m17, .ref m18, .ref m19, .ref m20, .int 0, .ref m22, .ref m23, .ref m24, .ref m25, .ref m26, .ref m27, .int 0, .ref m29]))]) hD hS hA [6] rfl
  refine fr_call (va_runV (C := R_MO) (As := [.int (xs 1), .int (xs 2)]) (rest := []) ⟨hx, hb, hml, hown, ht⟩ (c_MO_bookmarkAt_bad l dC dI H.size s.heap.size g0 m3 m5 m6 m7 m8 m9 m10 m11 m12 m13 m14 m15 m16 m17 m18 m19 m20 m22 m23 m24 m25 m26 m27 m29 (xs 1) (xs 2)) (cwV 2 ht (gV tb_910 tb_911 tb_912 tb_5 tb_913) rfl rfl rfl (by decide +kernel) ⟨Nat.le_of_ble_eq_true rfl, Nat.le_of_ble_eq_true rfl⟩) ⟨frP_blind, va_recv (q := (R_MO, F_MO, 30)) hK hP rfl (show ([(rq, .inl (k1, 40, .inr (.inr (.inr (.inr (fun _ => none)))))), (oa, .inl (k2, 8, .inl (fun _ => 0))), (pl, .inr (1, [.ref q9, .int 0])), (dk, .inr (2, [.ref d1, .ref d2, .ref d3, .ref d4])), (d1, .inl (k3, 24, .inl (fun _ => -1))), (rw, .inr (3, [.ref r1, .int 0, .int 0])), (g0, .inr (5, [.int 0, .int 0, .int (-1), .ref m3, .int 0, .ref m5, .ref m6, .ref m7, .ref m8, .ref m9, .ref m10, .ref m11, .ref m12, .ref m13, .ref m14, .ref m15, .ref m16, .ref m17, .ref m18, .ref m19, .ref m20, .int 0, .ref m22, .ref m23, .ref m24, .ref m25, .ref m26, .ref m27, .int 0, .ref m29])), (m3, .inl (j3, 8, .inl (fun _ => 0))), (m5, .inl (j5, 40, .inl (fun _ => 0))), (m6, .inl (j6, 40, .inl (fun _ => 0))), (m7, .inl (j7, 40, .inl (fun _ => 0))), (m8, .inl (j8, 40, .inl (fun _ => 0))), (m9, .inl (j9, 40, .inl (fun _ => 0))), (m10, .inl (j10, 40, .inl (fun _ => 0))), (ou, .inl (k4, 1, .inr (.inl (fun _ => 0)))), (h0, .inr (0, [.ref rq, .ref oa, .ref pl, .ref dk, .ref rw, .int 0, .int 0, .int (-1)]))] : va_W)[6]? = some (g0, .inr (5, [.int 0, .int 0, .int (-1), .ref m3, .int 0, .ref m5, .ref m6, .ref m7, .ref m8, .ref m9, .ref m10, .ref m11, .ref m12, .ref m13, .ref m14, .ref m15, .ref m16, .ref m17, .ref m18, .ref m19, .ref m20, .int 0, .ref m22, .ref m23, .ref m24, .ref m25, .ref m26, .ref m27, .int 0, .ref m29])) from rfl), fr_pre hPc hKc hDc hAB hBs hS hV⟩ rfl rfl hl.1 rfl (lv_room (Nat.le_of_ble_eq_true rfl)) d_LW_law_1136 ⟨Nat.le_of_ble_eq_true rfl, Nat.le_of_ble_eq_true rfl⟩) hS (fun q _ h => hFc q h) hFc (fun t H1 locs ht1 hvm hB1 hz1 hk1 hS => ?_)
  obtain ⟨hP1, hK1, hD1⟩ := hB1
  rw [ht1] at hP1
  have hK1 := va_K.moved hvm.symm hK1
  obtain ⟨hP, hD⟩ := va_join (wr := [(rq, .inl (k1, 40, .inr (.inr (.inr (.inr (fun _ => none)))))), (oa, .inl (k2, 8, .inl (fun _ => 0))), (pl, .inr (1, [.ref q9, .int 0])), (dk, .inr (2, [.ref d1, .ref d2, .ref d3, .ref d4])), (d1, .inl (k3, 24, .inl (fun _ => -1))), (rw, .inr (3, [.ref r1, .int 0, .int 0])), (m3, .inl (j3, 8, .inl (fun _ => 0))), (m5, .inl (j5, 40, .inl (fun _ => 0))), (m6, .inl (j6, 40, .inl (fun _ => 0))), (m7, .inl (j7, 40, .inl (fun _ => 0))), (m8, .inl (j8, 40, .inl (fun _ => 0))), (m9, .inl (j9, 40, .inl (fun _ => 0))), (m10, .inl (j10, 40, .inl (fun _ => 0))), (ou, .inl (k4, 1, .inr (.inl (fun _ => 0)))), (h0, .inr (0, [.ref rq, .ref oa, .ref pl, .ref dk, .ref rw, .int 0, .int 0, .int (-1)]))]) (w1 := [(g0, .inr (5, [.int 1, .int 0, .int (-1), .ref m3, .int 0, .ref m5, .ref m6, .ref m7, .ref m8, .ref m9, .ref m10, .ref m11, .ref m12, .ref m13, .ref m14, .ref m15, .ref m16, .ref m17, .ref m18, .ref m19, .ref m20, .int 0, .ref m22, .ref m23, .ref m24, .ref m25, .ref m26, .ref m27, .int 0, .ref m29]))]) hP hD [6] [0, 1, 2, 3, 4, 5, 7, 8, 9, 10, 11, 12, 13, 14, 15] rfl rfl (by decide) (by decide) hk1 hFc hP1 hD1
  have hK := hK.app hK1
  generalize H1 = H at hP hS ⊢
  have hP : va_P (dC, dI) cls_ [(rq, .inl (k1, 40, .inr (.inr (.inr (.inr (fun _ => none)))))), (oa, .inl (k2, 8, .inl (fun _ => 0))), (pl, .inr (1, [.ref q9, .int 0])), (dk, .inr (2, [.ref d1, .ref d2, .ref d3, .ref d4])), (d1, .inl (k3, 24, .inl (fun _ => -1))), (rw, .inr (3, [.ref r1, .int 0, .int 0])), (m3, .inl (j3, 8, .inl (fun _ => 0))), (m5, .inl (j5, 40, .inl (fun _ => 0))), (m6, .inl (j6, 40, .inl (fun _ => 0))), (m7, .inl (j7, 40, .inl (fun _ => 0))), (m8, .inl (j8, 40, .inl (fun _ => 0))), (m9, .inl (j9, 40, .inl (fun _ => 0))), (m10, .inl (j10, 40, .inl (fun _ => 0))), (ou, .inl (k4, 1, .inr (.inl (fun _ => 0)))), (h0, .inr (0, [.ref rq, .ref oa, .ref pl, .ref dk, .ref rw, .int 0, .int 0, .int (-1)])), (g0, .inr (5, [.int 1, .int 0, .int (-1), .ref m3, .int 0, .ref m5, .ref m6, .ref m7, .ref m8, .ref m9, .ref m10, .ref m11, .ref m12, .ref m13, .ref m14, .ref m15, .ref m16, .ref m17, .ref m18, .ref m19, .ref m20, .int 0, .ref m22, .ref m23, .ref m24, .ref m25, .ref m26, .ref m27, .int 0, .ref m29]))] H := hP
  have hD : va_D A [(rq, .inl (k1, 40, .inr (.inr (.inr (.inr (fun _ => none)))))), (oa, .inl (k2, 8, .inl (fun _ => 0))), (pl, .inr (1, [.ref q9, .int 0])), (dk, .inr (2, [.ref d1, .ref d2, .ref d3, .ref d4])), (d1, .inl (k3, 24, .inl (fun _ => -1))), (rw, .inr (3, [.ref r1, .int 0, .int 0])), (m3, .inl (j3, 8, .inl (fun _ => 0))), (m5, .inl (j5, 40, .inl (fun _ => 0))), (m6, .inl (j6, 40, .inl (fun _ => 0))), (m7, .inl (j7, 40, .inl (fun _ => 0))), (m8, .inl (j8, 40, .inl (fun _ => 0))), (m9, .inl (j9, 40, .inl (fun _ => 0))), (m10, .inl (j10, 40, .inl (fun _ => 0))), (ou, .inl (k4, 1, .inr (.inl (fun _ => 0)))), (h0, .inr (0, [.ref rq, .ref oa, .ref pl, .ref dk, .ref rw, .int 0, .int 0, .int (-1)])), (g0, .inr (5, [.int 1, .int 0, .int (-1), .ref m3, .int 0, .ref m5, .ref m6, .ref m7, .ref m8, .ref m9, .ref m10, .ref m11, .ref m12, .ref m13, .ref m14, .ref m15, .ref m16, .ref m17, .ref m18, .ref m19, .ref m20, .int 0, .ref m22, .ref m23, .ref m24, .ref m25, .ref m26, .ref m27, .int 0, .ref m29]))] := hD
  have hK : va_K (dC, dI) cls_ [(k1, .object "TwinTuners$Request"), (k2, .int), (k3, .int), (j3, .int), (j5, .int), (j6, .int), (j7, .int), (j8, .int), (j9, .int), (j10, .int), (k4, .long)] s := hK
  refine W.eq (g2 := F0 m 1139 ls [.int 0]) rfl ?_
  refine W.cs (cells' := 39) (slots' := 14130) rfl rfl ?_
  refine lv_istore hx hb d_LW_law_1139 hl (by decide) rfl (fun ls hl => ?_)
  have hl : lv_has ls 8 [(6, .int 0), (5, .int 1), (4, .int 0), (3, .ref ou), (2, .ref g0), (1, .ref h0), (0, .ref b)] := hl
  refine lv_aload_n hx hb d_LW_law_1141 rfl (lv_at hl 4 rfl) ?_
  have hPc := hP.sub (ws' := [(g0, .inr (5, [.int 1, .int 0, .int (-1), .ref m3, .int 0, .ref m5, .ref m6, .ref m7, .ref m8, .ref m9, .ref m10, .ref m11, .ref m12, .ref m13, .ref m14, .ref m15, .ref m16, .ref m17, .ref m18, .ref m19, .ref m20, .int 0, .ref m22, .ref m23, .ref m24, .ref m25, .ref m26, .ref m27, .int 0, .ref m29]))]) [15] rfl
  have hKc := hK.sub (tys' := []) [] rfl
  refine rd_call (va_runV (C := R_MO) (As := []) (rest := []) ⟨hx, hb, hml, hown, ht⟩ (c_MO_thrown_v l dC dI g0 m3 m5 m6 m7 m8 m9 m10 m11 m12 m13 m14 m15 m16 m17 m18 m19 m20 m22 m23 m24 m25 m26 m27 m29 1 0 (-1) 0) (cwV 0 ht (gV tb_723 tb_724 tb_725 tb_5 tb_726) rfl rfl rfl (by decide +kernel) ⟨Nat.le_of_ble_eq_true rfl, Nat.le_of_ble_eq_true rfl⟩) ⟨rdP_blind, va_recv (q := (R_MO, F_MO, 30)) hK hP rfl (show ([(rq, .inl (k1, 40, .inr (.inr (.inr (.inr (fun _ => none)))))), (oa, .inl (k2, 8, .inl (fun _ => 0))), (pl, .inr (1, [.ref q9, .int 0])), (dk, .inr (2, [.ref d1, .ref d2, .ref d3, .ref d4])), (d1, .inl (k3, 24, .inl (fun _ => -1))), (rw, .inr (3, [.ref r1, .int 0, .int 0])), (m3, .inl (j3, 8, .inl (fun _ => 0))), (m5, .inl (j5, 40, .inl (fun _ => 0))), (m6, .inl (j6, 40, .inl (fun _ => 0))), (m7, .inl (j7, 40, .inl (fun _ => 0))), (m8, .inl (j8, 40, .inl (fun _ => 0))), (m9, .inl (j9, 40, .inl (fun _ => 0))), (m10, .inl (j10, 40, .inl (fun _ => 0))), (ou, .inl (k4, 1, .inr (.inl (fun _ => 0)))), (h0, .inr (0, [.ref rq, .ref oa, .ref pl, .ref dk, .ref rw, .int 0, .int 0, .int (-1)])), (g0, .inr (5, [.int 1, .int 0, .int (-1), .ref m3, .int 0, .ref m5, .ref m6, .ref m7, .ref m8, .ref m9, .ref m10, .ref m11, .ref m12, .ref m13, .ref m14, .ref m15, .ref m16, .ref m17, .ref m18, .ref m19, .ref m20, .int 0, .ref m22, .ref m23, .ref m24, .ref m25, .ref m26, .ref m27, .int 0, .ref m29]))] : va_W)[15]? = some (g0, .inr (5, [.int 1, .int 0, .int (-1), .ref m3, .int 0, .ref m5, .ref m6, .ref m7, .ref m8, .ref m9, .ref m10, .ref m11, .ref m12, .ref m13, .ref m14, .ref m15, .ref m16, .ref m17, .ref m18, .ref m19, .ref m20, .int 0, .ref m22, .ref m23, .ref m24, .ref m25, .ref m26, .ref m27, .int 0, .ref m29])) from rfl), rd_pre hPc hKc⟩ rfl rfl hl.1 rfl (lv_room (Nat.le_of_ble_eq_true rfl)) d_LW_law_1142 ⟨Nat.le_of_ble_eq_true rfl, Nat.le_of_ble_eq_true rfl⟩) ?_
  refine W.eq (g2 := F0 m 1145 ls [.int 1]) rfl ?_
  refine lv_iload hx hb d_LW_law_1145 (lv_at hl 1 rfl) ?_
  refine lv_icmp_eq (tgt := 1152) hx hb d_LW_law_1147 (by decide) (fun _ => ?_) (fun h9 => absurd (rfl) h9)
  refine lv_iload hx hb d_LW_law_1152 (lv_at hl 1 rfl) ?_
  refine lv_if_ne (tgt := 1169) hx hb d_LW_law_1154 (by decide) (fun _ => ?_) (fun h9 => absurd h9 (by decide))
  refine lv_goto (tgt := 1228) hx hb d_LW_law_1169 (by decide) ?_
  have hl := lv_sub hl [2, 6] (l' := [(4, .int 0), (0, .ref b)]) rfl
  exact tl_end hx hb hr hlocks hbl hbA hAB hX (Nat.le_of_ble_eq_true rfl) (Nat.le_of_ble_eq_true rfl) hS hl
set_option maxHeartbeats 4000000 in
set_option maxRecDepth 100000 in
theorem cs_14 {p : Program} {l : Launch} {e : Env} {s : State} {m : MethodId} {below : List Frame} {meth : Method} {c : Code} {A : Nat → Prop} {b : Nat} {H : Heap} {locs : List Loc} {ls : Array Slot} {xs : Nat → Int32} (dC : Nat → ClassId) (dI : Nat → Nat → Nat) (h0 rq oa pl dk rw q9 d1 d2 d3 d4 r1 g0 m3 m5 m6 m7 m8 m9 m10 m11 m12 m13 m14 m15 m16 m17 m18 m19 m20 m22 m23 m24 m25 m26 m27 m29 ou : Nat) (k1 k2 k3 j3 j5 j6 j7 j8 j9 j10 k4 : ClassId) (hl9 : l.stackTraces = false) (hx : p.tables.exec = Jvm.exec) (hb : c.code = code) (hr : meth.sig.returnType = ret) (hlocks : meth.locks = false) (hbl : b < s.heap.size) (hbA : ¬ A b) (hAB : ∀ q, A q → s.heap.size ≤ q) (hX : va_X b 6 xs s s.heap) (hml : c.maxLocals = 8) (hown : s.vm.findClass R_LW = some m.cls) (ht : ∀ w ∈ tb_, w.before #[Value.ref b] s = true) (hA : ∀ q : Nat, s.heap.size ≤ q → A q) (hBs : s.heap.size ≤ s.heap.size) (hV : tw_V s.heap.size s s.heap)
    (hK : va_K (dC, dI) cls_ [(k1, .object "TwinTuners$Request"), (k2, .int), (k3, .int), (j3, .int), (j5, .int), (j6, .int), (j7, .int), (j8, .int), (j9, .int), (j10, .int), (k4, .long)] s) (hP : va_P (dC, dI) cls_ [(h0, .inr (0, [.ref rq, .ref oa, .ref pl, .ref dk, .ref rw, .int 0, .int 0, .int (-1)])), (rq, .inl (k1, 40, .inr (.inr (.inr (.inr (fun _ => none)))))), (oa, .inl (k2, 8, .inl (fun _ => 0))), (pl, .inr (1, [.ref q9, .int 0])), (dk, .inr (2, [.ref d1, .ref d2, .ref d3, .ref d4])), (d1, .inl (k3, 24, .inl (fun _ => -1))), (rw, .inr (3, [.ref r1, .int 0, .int 0])), (g0, .inr (5, [.int 0, .int 0, .int (-1), .ref m3, .int 0, .ref m5, .ref m6, .ref m7, .ref m8, .ref m9, .ref m10, .ref m11, .ref m12, .ref m13, .ref m14, .ref m15, .ref m16, .ref m17, .ref m18, .ref m19, .ref m20, .int 0, .ref m22, .ref m23, .ref m24, .ref m25, .ref m26, .ref m27, .int 0, .ref m29])), (m3, .inl (j3, 8, .inl (fun _ => 0))), (m5, .inl (j5, 40, .inl (fun _ => 0))), (m6, .inl (j6, 40, .inl (fun _ => 0))), (m7, .inl (j7, 40, .inl (fun _ => 0))), (m8, .inl (j8, 40, .inl (fun _ => 0))), (m9, .inl (j9, 40, .inl (fun _ => 0))), (m10, .inl (j10, 40, .inl (fun _ => 0))), (ou, .inl (k4, 1, .inr (.inl (fun _ => 0))))] H) (hD : va_D A [(h0, .inr (0, [.ref rq, .ref oa, .ref pl, .ref dk, .ref rw, .int 0, .int 0, .int (-1)])), (rq, .inl (k1, 40, .inr (.inr (.inr (.inr (fun _ => none)))))), (oa, .inl (k2, 8, .inl (fun _ => 0))), (pl, .inr (1, [.ref q9, .int 0])), (dk, .inr (2, [.ref d1, .ref d2, .ref d3, .ref d4])), (d1, .inl (k3, 24, .inl (fun _ => -1))), (rw, .inr (3, [.ref r1, .int 0, .int 0])), (g0, .inr (5, [.int 0, .int 0, .int (-1), .ref m3, .int 0, .ref m5, .ref m6, .ref m7, .ref m8, .ref m9, .ref m10, .ref m11, .ref m12, .ref m13, .ref m14, .ref m15, .ref m16, .ref m17, .ref m18, .ref m19, .ref m20, .int 0, .ref m22, .ref m23, .ref m24, .ref m25, .ref m26, .ref m27, .int 0, .ref m29])), (m3, .inl (j3, 8, .inl (fun _ => 0))), (m5, .inl (j5, 40, .inl (fun _ => 0))), (m6, .inl (j6, 40, .inl (fun _ => 0))), (m7, .inl (j7, 40, .inl (fun _ => 0))), (m8, .inl (j8, 40, .inl (fun _ => 0))), (m9, .inl (j9, 40, .inl (fun _ => 0))), (m10, .inl (j10, 40, .inl (fun _ => 0))), (ou, .inl (k4, 1, .inr (.inl (fun _ => 0))))]) (hS : va_S A s.heap H locs) (hl : lv_has ls 8 [(4, .int 0), (3, .ref ou), (2, .ref g0), (1, .ref h0), (0, .ref b)]) : W p l e room_1 s m #[Value.ref b] below meth c H locs 38 14124 (lw_Z below #[Value.ref b] s) (F0 m 839 ls []) := by
  by_cases hv : xs 2 = 0
  · refine lv_aload_n hx hb d_LW_law_839 rfl (lv_at hl 3 rfl) ?_
    refine lv_aload_n hx hb d_LW_law_840 rfl (lv_at hl 4 rfl) ?_
    refine lv_iload hx hb d_LW_law_841 (lv_at hl 0 rfl) ?_
    refine lv_iconst (v := 1) hx hb d_LW_law_843 (by decide) ?_
    refine lv_iadd hx hb d_LW_law_844 ?_
    refine lv_topi (fun v1 ev1 => ?_)
    obtain rfl : v1 = 1 := ev1.trans (by decide)
    refine va_sld hx hb hX hbl hbA hS (show vp_in (nI 1) 6 from vp_in_nI (by decide) (by decide)) d_LW_law_845 ?_
    refine W.eq (g2 := F0 m 846 ls [.int (xs 1), .ref h0]) rfl ?_
    refine lv_aload_n hx hb d_LW_law_846 rfl (lv_at hl 4 rfl) ?_
    refine lv_iload hx hb d_LW_law_847 (lv_at hl 0 rfl) ?_
    refine lv_iconst (v := 2) hx hb d_LW_law_849 (by decide) ?_
    refine lv_iadd hx hb d_LW_law_850 ?_
    refine lv_topi (fun v2 ev2 => ?_)
    obtain rfl : v2 = 2 := ev2.trans (by decide)
    refine va_sld hx hb hX hbl hbA hS (show vp_in (nI 2) 6 from vp_in_nI (by decide) (by decide)) d_LW_law_851 ?_
    refine W.eq (g2 := F0 m 852 ls [.int (xs 2), .int (xs 1), .ref h0]) rfl ?_
    refine lv_if_eq (tgt := 859) hx hb d_LW_law_852 (by decide) (fun _ => ?_) (fun h9 => absurd (hv) h9)
    refine lv_iconst (v := 0) hx hb d_LW_law_859 (by decide) ?_
    have hPc := hP.sub (ws' := [(h0, .inr (0, [.ref rq, .ref oa, .ref pl, .ref dk, .ref rw, .int 0, .int 0, .int (-1)]))]) [0] rfl
    have hKc := hK.sub (tys' := []) [] rfl
    have hDc := hD.sub (ws' := [(h0, .inr (0, [.ref rq, .ref oa, .ref pl, .ref dk, .ref rw, .int 0, .int 0, .int (-1)]))]) [0] (by decide) rfl
    have hFc := va_free (wc := [(h0, .inr (0, [.ref rq, .ref oa, .ref pl, .ref dk, .ref rw, .int 0, .int 0, .int (-1)]))]) hD hS hA [0] rfl
    refine fr_call (tw_runSW (As := [.ref h0, .int (xs 1), .int 0]) (rest := []) ⟨hx, hb, hml, hown, ht⟩ (c_LW_protect_bad l dC dI H.size s.heap.size hl9 h0 rq oa pl dk rw ou (xs 1) 0) rfl rfl ⟨Nat.le_of_ble_eq_true rfl, Nat.le_of_ble_eq_true rfl⟩ (pay_in ht (gW tb_561)) (show _ ∈ w_LW_protect from List.mem_cons_self) (ht _ tb_559) (ht _ tb_560) (ht _ tb_0) (n := 3) (by decide +kernel) ⟨frP_blind, fr_pre hPc hKc hDc hAB hBs hS hV⟩ rfl rfl hl.1 rfl (lv_room (Nat.le_of_ble_eq_true rfl)) d_LW_law_860 ⟨Nat.le_of_ble_eq_true rfl, Nat.le_of_ble_eq_true rfl⟩) hS (fun q _ h => hFc q h) hFc (fun t H1 locs ht1 hvm hB1 hz1 hk1 hS => ?_)
    obtain ⟨hP1, hK1, hD1⟩ := hB1
    rw [ht1] at hP1
    have hK1 := va_K.moved hvm.symm hK1
    obtain ⟨hP, hD⟩ := va_join (wr := [(rq, .inl (k1, 40, .inr (.inr (.inr (.inr (fun _ => none)))))), (oa, .inl (k2, 8, .inl (fun _ => 0))), (pl, .inr (1, [.ref q9, .int 0])), (dk, .inr (2, [.ref d1, .ref d2, .ref d3, .ref d4])), (d1, .inl (k3, 24, .inl (fun _ => -1))), (rw, .inr (3, [.ref r1, .int 0, .int 0])), (g0, .inr (5, [.int 0, .int 0, .int (-1), .ref m3, .int 0, .ref m5, .ref m6, .ref m7, .ref m8, .ref m9, .ref m10, .ref m11, .ref m12, .ref m13, .ref m14, .ref m15, .ref m16, .ref m17, .ref m18, .ref m19, .ref m20, .int 0, .ref m22, .ref m23, .ref m24, .ref m25, .ref m26, .ref m27, .int 0, .ref m29])), (m3, .inl (j3, 8, .inl (fun _ => 0))), (m5, .inl (j5, 40, .inl (fun _ => 0))), (m6, .inl (j6, 40, .inl (fun _ => 0))), (m7, .inl (j7, 40, .inl (fun _ => 0))), (m8, .inl (j8, 40, .inl (fun _ => 0))), (m9, .inl (j9, 40, .inl (fun _ => 0))), (m10, .inl (j10, 40, .inl (fun _ => 0))), (ou, .inl (k4, 1, .inr (.inl (fun _ => 0))))]) (w1 := [(h0, .inr (0, [.ref rq, .ref oa, .ref pl, .ref dk, .ref rw, .int 0, .int 0, .int (-1)]))]) hP hD [0] [1, 2, 3, 4, 5, 6, 7, 8, 9, 10, 11, 12, 13, 14, 15] rfl rfl (by decide) (by decide) hk1 hFc hP1 hD1
    have hK := hK.app hK1
    generalize H1 = H at hP hS ⊢
    have hP : va_P (dC, dI) cls_ [(rq, .inl (k1, 40, .inr (.inr (.inr (.inr (fun _ => none)))))), (oa, .inl (k2, 8, .inl (fun _ => 0))), (pl, .inr (1, [.ref q9, .int 0])), (dk, .inr (2, [.ref d1, .ref d2, .ref d3, .ref d4])), (d1, .inl (k3, 24, .inl (fun _ => -1))), (rw, .inr (3, [.ref r1, .int 0, .int 0])), (g0, .inr (5, [.int 0, .int 0, .int (-1), .ref m3, .int 0, .ref m5, .ref m6, .ref m7, .ref m8, .ref m9, .ref m10, .ref m11, .ref m12, .ref m13, .ref m14, .ref m15, .ref m16, .ref m17, .ref m18, .ref m19, .ref m20, .int 0, .ref m22, .ref m23, .ref m24, .ref m25, .ref m26, .ref m27, .int 0, .ref m29])), (m3, .inl (j3, 8, .inl (fun _ => 0))), (m5, .inl (j5, 40, .inl (fun _ => 0))), (m6, .inl (j6, 40, .inl (fun _ => 0))), (m7, .inl (j7, 40, .inl (fun _ => 0))), (m8, .inl (j8, 40, .inl (fun _ => 0))), (m9, .inl (j9, 40, .inl (fun _ => 0))), (m10, .inl (j10, 40, .inl (fun _ => 0))), (ou, .inl (k4, 1, .inr (.inl (fun _ => 0)))), (h0, .inr (0, [.ref rq, .ref oa, .ref pl, .ref dk, .ref rw, .int 0, .int 0, .int (-1)]))] H := hP
    have hD : va_D A [(rq, .inl (k1, 40, .inr (.inr (.inr (.inr (fun _ => none)))))), (oa, .inl (k2, 8, .inl (fun _ => 0))), (pl, .inr (1, [.ref q9, .int 0])), (dk, .inr (2, [.ref d1, .ref d2, .ref d3, .ref d4])), (d1, .inl (k3, 24, .inl (fun _ => -1))), (rw, .inr (3, [.ref r1, .int 0, .int 0])), (g0, .inr (5, [.int 0, .int 0, .int (-1), .ref m3, .int 0, .ref m5, .ref m6, .ref m7, .ref m8, .ref m9, .ref m10, .ref m11, .ref m12, .ref m13, .ref m14, .ref m15, .ref m16, .ref m17, .ref m18, .ref m19, .ref m20, .int 0, .ref m22, .ref m23, .ref m24, .ref m25, .ref m26, .ref m27, .int 0, .ref m29])), (m3, .inl (j3, 8, .inl (fun _ => 0))), (m5, .inl (j5, 40, .inl (fun _ => 0))), (m6, .inl (j6, 40, .inl (fun _ => 0))), (m7, .inl (j7, 40, .inl (fun _ => 0))), (m8, .inl (j8, 40, .inl (fun _ => 0))), (m9, .inl (j9, 40, .inl (fun _ => 0))), (m10, .inl (j10, 40, .inl (fun _ => 0))), (ou, .inl (k4, 1, .inr (.inl (fun _ => 0)))), (h0, .inr (0, [.ref rq, .ref oa, .ref pl, .ref dk, .ref rw, .int 0, .int 0, .int (-1)]))] := hD
    have hK : va_K (dC, dI) cls_ [(k1, .object "TwinTuners$Request"), (k2, .int), (k3, .int), (j3, .int), (j5, .int), (j6, .int), (j7, .int), (j8, .int), (j9, .int), (j10, .int), (k4, .long)] s := hK
    refine W.eq (g2 := F0 m 863 ls [.int 1]) rfl ?_
    refine W.cs (cells' := 39) (slots' := 14130) rfl rfl ?_
    refine lv_istore hx hb d_LW_law_863 hl (by decide) rfl (fun ls hl => ?_)
    have hl : lv_has ls 8 [(5, .int 1), (4, .int 0), (3, .ref ou), (2, .ref g0), (1, .ref h0), (0, .ref b)] := hl
    refine lv_aload_n hx hb d_LW_law_865 rfl (lv_at hl 3 rfl) ?_
    refine lv_aload_n hx hb d_LW_law_866 rfl (lv_at hl 5 rfl) ?_
    refine lv_iload hx hb d_LW_law_867 (lv_at hl 1 rfl) ?_
    refine lv_iconst (v := 1) hx hb d_LW_law_869 (by decide) ?_
    refine lv_iadd hx hb d_LW_law_870 ?_
    refine lv_topi (fun v3 ev3 => ?_)
    obtain rfl : v3 = 1 := ev3.trans (by decide)
    refine va_sld hx hb hX hbl hbA hS (show vp_in (nI 1) 6 from vp_in_nI (by decide) (by decide)) d_LW_law_871 ?_
    refine W.eq (g2 := F0 m 872 ls [.int (xs 1), .ref g0]) rfl ?_
    refine lv_aload_n hx hb d_LW_law_872 rfl (lv_at hl 5 rfl) ?_
    refine lv_iload hx hb d_LW_law_873 (lv_at hl 1 rfl) ?_
    refine lv_iconst (v := 2) hx hb d_LW_law_875 (by decide) ?_
    refine lv_iadd hx hb d_LW_law_876 ?_
    refine lv_topi (fun v4 ev4 => ?_)
    obtain rfl : v4 = 2 := ev4.trans (by decide)
    refine va_sld hx hb hX hbl hbA hS (show vp_in (nI 2) 6 from vp_in_nI (by decide) (by decide)) d_LW_law_877 ?_
    refine W.eq (g2 := F0 m 878 ls [.int (xs 2), .int (xs 1), .ref g0]) rfl ?_
    refine lv_if_eq (tgt := 885) hx hb d_LW_law_878 (by decide) (fun _ => ?_) (fun h9 => absurd (hv) h9)
    refine lv_iconst (v := 0) hx hb d_LW_law_885 (by decide) ?_
    have hPc := hP.sub (ws' := [(g0, .inr (5, [.int 0, .int 0, .int (-1), .ref m3, .int 0, .ref m5, .ref m6, .ref m7, .ref m8, .ref m9, .ref m10, .ref m11, .ref m12, .ref m13, .ref m14, .ref m15, .ref m16, .ref m17, .ref m18, .ref m19, .ref m20, .int 0, .ref m22, .ref m23, .ref m24, .ref m25, .ref m26, .ref m27, .int 0, .ref m29]))]) [6] rfl
    have hKc := hK.sub (tys' := []) [] rfl
    have hDc := hD.sub (ws' := [(g0, .inr (5, [.int 0, .int 0, .int (-1), .ref m3, .int 0, .ref m5, .ref m6, .ref m7, .ref m8, .ref m9, .ref m10, .ref m11, .ref m12, .ref m13, .ref m14, .ref m15, .ref m16, .ref m17, .ref m18, .ref m19, .ref m20, .int 0, .ref m22, .ref m23, .ref m24, .ref m25, .ref m26, .ref m27, .int 0, .ref m29]))]) [6] (by decide) rfl
    have hFc := va_free (wc := [(g0, .inr (5, [.int 0, .int 0, .int (-1), .ref m3, .int 0, .ref m5, .ref m6, .ref m7, .ref m8, .ref m9, .ref m10, .ref m11, .ref m12, .ref m13, .ref m14, .ref m15, .ref m16, .ref m17, .ref m18, .ref m19, .ref m20, .int 0, .ref m22, .ref m23, .ref m24, .ref m25, .ref m26, .ref m27, .int 0, .ref m29]))]) hD hS hA [6] rfl
    refine fr_call (va_runV (C := R_MO) (As := [.int (xs 1), .int 0]) (rest := []) ⟨hx, hb, hml, hown, ht⟩ (c_MO_protect_bad l dC dI H.size s.heap.size g0 m3 m5 m6 m7 m8 m9 m10 m11 m12 m13 m14 m15 m16 m17 m18 m19 m20 m22 m23 m24 m25 m26 m27 m29 (xs 1) 0) (cwV 2 ht (gV tb_882 tb_883 tb_884 tb_5 tb_885) rfl rfl rfl (by decide +kernel) ⟨Nat.le_of_ble_eq_true rfl, Nat.le_of_ble_eq_true rfl⟩) ⟨frP_blind, va_recv (q := (R_MO, F_MO, 30)) hK hP rfl (show ([(rq, .inl (k1, 40, .inr (.inr (.inr (.inr (fun _ => none)))))), (oa, .inl (k2, 8, .inl (fun _ => 0))), (pl, .inr (1, [.ref q9, .int 0])), (dk, .inr (2, [.ref d1, .ref d2, .ref d3, .ref d4])), (d1, .inl (k3, 24, .inl (fun _ => -1))), (rw, .inr (3, [.ref r1, .int 0, .int 0])), (g0, .inr (5, [.int 0, .int 0, .int (-1), .ref m3, .int 0, .ref m5, .ref m6, .ref m7, .ref m8, .ref m9, .ref m10, .ref m11, .ref m12, .ref m13, .ref m14, .ref m15, .ref m16, .ref m17, .ref m18, .ref m19, .ref m20, .int 0, .ref m22, .ref m23, .ref m24, .ref m25, .ref m26, .ref m27, .int 0, .ref m29])), (m3, .inl (j3, 8, .inl (fun _ => 0))), (m5, .inl (j5, 40, .inl (fun _ => 0))), (m6, .inl (j6, 40, .inl (fun _ => 0))), (m7, .inl (j7, 40, .inl (fun _ => 0))), (m8, .inl (j8, 40, .inl (fun _ => 0))), (m9, .inl (j9, 40, .inl (fun _ => 0))), (m10, .inl (j10, 40, .inl (fun _ => 0))), (ou, .inl (k4, 1, .inr (.inl (fun _ => 0)))), (h0, .inr (0, [.ref rq, .ref oa, .ref pl, .ref dk, .ref rw, .int 0, .int 0, .int (-1)]))] : va_W)[6]? = some (g0, .inr (5, [.int 0, .int 0, .int (-1), .ref m3, .int 0, .ref m5, .ref m6, .ref m7, .ref m8, .ref m9, .ref m10, .ref m11, .ref m12, .ref m13, .ref m14, .ref m15, .ref m16, .ref m17, .ref m18, .ref m19, .ref m20, .int 0, .ref m22, .ref m23, .ref m24, .ref m25, .ref m26, .ref m27, .int 0, .ref m29])) from rfl), fr_pre hPc hKc hDc hAB hBs hS hV⟩ rfl rfl hl.1 rfl (lv_room (Nat.le_of_ble_eq_true rfl)) d_LW_law_886 ⟨Nat.le_of_ble_eq_true rfl, Nat.le_of_ble_eq_true rfl⟩) hS (fun q _ h => hFc q h) hFc (fun t H1 locs ht1 hvm hB1 hz1 hk1 hS => ?_)
    obtain ⟨hP1, hK1, hD1⟩ := hB1
    rw [ht1] at hP1
    have hK1 := va_K.moved hvm.symm hK1
    obtain ⟨hP, hD⟩ := va_join (wr := [(rq, .inl (k1, 40, .inr (.inr (.inr (.inr (fun _ => none)))))), (oa, .inl (k2, 8, .inl (fun _ => 0))), (pl, .inr (1, [.ref q9, .int 0])), (dk, .inr (2, [.ref d1, .ref d2, .ref d3, .ref d4])), (d1, .inl (k3, 24, .inl (fun _ => -1))), (rw, .inr (3, [.ref r1, .int 0, .int 0])), (m3, .inl (j3, 8, .inl (fun _ => 0))), (m5, .inl (j5, 40, .inl (fun _ => 0))), (m6, .inl (j6, 40, .inl (fun _ => 0))), (m7, .inl (j7, 40, .inl (fun _ => 0))), (m8, .inl (j8, 40, .inl (fun _ => 0))), (m9, .inl (j9, 40, .inl (fun _ => 0))), (m10, .inl (j10, 40, .inl (fun _ => 0))), (ou, .inl (k4, 1, .inr (.inl (fun _ => 0)))), (h0, .inr (0, [.ref rq, .ref oa, .ref pl, .ref dk, .ref rw, .int 0, .int 0, .int (-1)]))]) (w1 := [(g0, .inr (5, [.int 1, .int 0, .int (-1), .ref m3, .int 0, .ref m5, .ref m6, .ref m7, .ref m8, .ref m9, .ref m10, .ref m11, .ref m12, .ref m13, .ref m14, .ref m15, .ref m16, .ref m17, .ref m18, .ref m19, .ref m20, .int 0, .ref m22, .ref m23, .ref m24, .ref m25, .ref m26, .ref m27, .int 0, .ref m29]))]) hP hD [6] [0, 1, 2, 3, 4, 5, 7, 8, 9, 10, 11, 12, 13, 14, 15] rfl rfl (by decide) (by decide) hk1 hFc hP1 hD1
    have hK := hK.app hK1
    generalize H1 = H at hP hS ⊢
    have hP : va_P (dC, dI) cls_ [(rq, .inl (k1, 40, .inr (.inr (.inr (.inr (fun _ => none)))))), (oa, .inl (k2, 8, .inl (fun _ => 0))), (pl, .inr (1, [.ref q9, .int 0])), (dk, .inr (2, [.ref d1, .ref d2, .ref d3, .ref d4])), (d1, .inl (k3, 24, .inl (fun _ => -1))), (rw, .inr (3, [.ref r1, .int 0, .int 0])), (m3, .inl (j3, 8, .inl (fun _ => 0))), (m5, .inl (j5, 40, .inl (fun _ => 0))), (m6, .inl (j6, 40, .inl (fun _ => 0))), (m7, .inl (j7, 40, .inl (fun _ => 0))), (m8, .inl (j8, 40, .inl (fun _ => 0))), (m9, .inl (j9, 40, .inl (fun _ => 0))), (m10, .inl (j10, 40, .inl (fun _ => 0))), (ou, .inl (k4, 1, .inr (.inl (fun _ => 0)))), (h0, .inr (0, [.ref rq, .ref oa, .ref pl, .ref dk, .ref rw, .int 0, .int 0, .int (-1)])), (g0, .inr (5, [.int 1, .int 0, .int (-1), .ref m3, .int 0, .ref m5, .ref m6, .ref m7, .ref m8, .ref m9, .ref m10, .ref m11, .ref m12, .ref m13, .ref m14, .ref m15, .ref m16, .ref m17, .ref m18, .ref m19, .ref m20, .int 0, .ref m22, .ref m23, .ref m24, .ref m25, .ref m26, .ref m27, .int 0, .ref m29]))] H := hP
    have hD : va_D A [(rq, .inl (k1, 40, .inr (.inr (.inr (.inr (fun _ => none)))))), (oa, .inl (k2, 8, .inl (fun _ => 0))), (pl, .inr (1, [.ref q9, .int 0])), (dk, .inr (2, [.ref d1, .ref d2, .ref d3, .ref d4])), (d1, .inl (k3, 24, .inl (fun _ => -1))), (rw, .inr (3, [.ref r1, .int 0, .int 0])), (m3, .inl (j3, 8, .inl (fun _ => 0))), (m5, .inl (j5, 40, .inl (fun _ => 0))), (m6, .inl (j6, 40, .inl (fun _ => 0))), (m7, .inl (j7, 40, .inl (fun _ => 0))), (m8, .inl (j8, 40, .inl (fun _ => 0))), (m9, .inl (j9, 40, .inl (fun _ => 0))), (m10, .inl (j10, 40, .inl (fun _ => 0))), (ou, .inl (k4, 1, .inr (.inl (fun _ => 0)))), (h0, .inr (0, [.ref rq, .ref oa, .ref pl, .ref dk, .ref rw, .int 0, .int 0, .int (-1)])), (g0, .inr (5, [.int 1, .int 0, .int (-1), .ref m3, .int 0, .ref m5, .ref m6, .ref m7, .ref m8, .ref m9, .ref m10, .ref m11, .ref m12, .ref m13, .ref m14, .ref m15, .ref m16, .ref m17, .ref m18, .ref m19, .ref m20, .int 0, .ref m22, .ref m23, .ref m24, .ref m25, .ref m26, .ref m27, .int 0, .ref m29]))] := hD
    have hK : va_K (dC, dI) cls_ [(k1, .object "TwinTuners$Request"), (k2, .int), (k3, .int), (j3, .int), (j5, .int), (j6, .int), (j7, .int), (j8, .int), (j9, .int), (j10, .int), (k4, .long)] s := hK
    refine W.eq (g2 := F0 m 889 ls []) rfl ?_
    refine W.cs (cells' := 39) (slots' := 14130) rfl rfl ?_
    refine lv_aload_n hx hb d_LW_law_889 rfl (lv_at hl 3 rfl) ?_
    have hPc := hP.sub (ws' := [(g0, .inr (5, [.int 1, .int 0, .int (-1), .ref m3, .int 0, .ref m5, .ref m6, .ref m7, .ref m8, .ref m9, .ref m10, .ref m11, .ref m12, .ref m13, .ref m14, .ref m15, .ref m16, .ref m17, .ref m18, .ref m19, .ref m20, .int 0, .ref m22, .ref m23, .ref m24, .ref m25, .ref m26, .ref m27, .int 0, .ref m29]))]) [15] rfl
    have hKc := hK.sub (tys' := []) [] rfl
    refine rd_call (va_runV (C := R_MO) (As := []) (rest := []) ⟨hx, hb, hml, hown, ht⟩ (c_MO_thrown_v l dC dI g0 m3 m5 m6 m7 m8 m9 m10 m11 m12 m13 m14 m15 m16 m17 m18 m19 m20 m22 m23 m24 m25 m26 m27 m29 1 0 (-1) 0) (cwV 0 ht (gV tb_723 tb_724 tb_725 tb_5 tb_726) rfl rfl rfl (by decide +kernel) ⟨Nat.le_of_ble_eq_true rfl, Nat.le_of_ble_eq_true rfl⟩) ⟨rdP_blind, va_recv (q := (R_MO, F_MO, 30)) hK hP rfl (show ([(rq, .inl (k1, 40, .inr (.inr (.inr (.inr (fun _ => none)))))), (oa, .inl (k2, 8, .inl (fun _ => 0))), (pl, .inr (1, [.ref q9, .int 0])), (dk, .inr (2, [.ref d1, .ref d2, .ref d3, .ref d4])), (d1, .inl (k3, 24, .inl (fun _ => -1))), (rw, .inr (3, [.ref r1, .int 0, .int 0])), (m3, .inl (j3, 8, .inl (fun _ => 0))), (m5, .inl (j5, 40, .inl (fun _ => 0))), (m6, .inl (j6, 40, .inl (fun _ => 0))), (m7, .inl (j7, 40, .inl (fun _ => 0))), (m8, .inl (j8, 40, .inl (fun _ => 0))), (m9, .inl (j9, 40, .inl (fun _ => 0))), (m10, .inl (j10, 40, .inl (fun _ => 0))), (ou, .inl (k4, 1, .inr (.inl (fun _ => 0)))), (h0, .inr (0, [.ref rq, .ref oa, .ref pl, .ref dk, .ref rw, .int 0, .int 0, .int (-1)])), (g0, .inr (5, [.int 1, .int 0, .int (-1), .ref m3, .int 0, .ref m5, .ref m6, .ref m7, .ref m8, .ref m9, .ref m10, .ref m11, .ref m12, .ref m13, .ref m14, .ref m15, .ref m16, .ref m17, .ref m18, .ref m19, .ref m20, .int 0, .ref m22, .ref m23, .ref m24, .ref m25, .ref m26, .ref m27, .int 0, .ref m29]))] : va_W)[15]? = some (g0, .inr (5, [.int 1, .int 0, .int (-1), .ref m3, .int 0, .ref m5, .ref m6, .ref m7, .ref m8, .ref m9, .ref m10, .ref m11, .ref m12, .ref m13, .ref m14, .ref m15, .ref m16, .ref m17, .ref m18, .ref m19, .ref m20, .int 0, .ref m22, .ref m23, .ref m24, .ref m25, .ref m26, .ref m27, .int 0, .ref m29])) from rfl), rd_pre hPc hKc⟩ rfl rfl hl.1 rfl (lv_room (Nat.le_of_ble_eq_true rfl)) d_LW_law_890 ⟨Nat.le_of_ble_eq_true rfl, Nat.le_of_ble_eq_true rfl⟩) ?_
    refine W.eq (g2 := F0 m 893 ls [.int 1]) rfl ?_
    refine lv_iload hx hb d_LW_law_893 (lv_at hl 0 rfl) ?_
    refine lv_icmp_eq (tgt := 900) hx hb d_LW_law_895 (by decide) (fun _ => ?_) (fun h9 => absurd (rfl) h9)
    refine lv_goto (tgt := 1228) hx hb d_LW_law_900 (by decide) ?_
    have hl := lv_sub hl [1, 5] (l' := [(4, .int 0), (0, .ref b)]) rfl
    exact tl_end hx hb hr hlocks hbl hbA hAB hX (Nat.le_of_ble_eq_true rfl) (Nat.le_of_ble_eq_true rfl) hS hl
  · refine lv_aload_n hx hb d_LW_law_839 rfl (lv_at hl 3 rfl) ?_
    refine lv_aload_n hx hb d_LW_law_840 rfl (lv_at hl 4 rfl) ?_
    refine lv_iload hx hb d_LW_law_841 (lv_at hl 0 rfl) ?_
    refine lv_iconst (v := 1) hx hb d_LW_law_843 (by decide) ?_
    refine lv_iadd hx hb d_LW_law_844 ?_
    refine lv_topi (fun v5 ev5 => ?_)
    obtain rfl : v5 = 1 := ev5.trans (by decide)
    refine va_sld hx hb hX hbl hbA hS (show vp_in (nI 1) 6 from vp_in_nI (by decide) (by decide)) d_LW_law_845 ?_
    refine W.eq (g2 := F0 m 846 ls [.int (xs 1), .ref h0]) rfl ?_
    refine lv_aload_n hx hb d_LW_law_846 rfl (lv_at hl 4 rfl) ?_
    refine lv_iload hx hb d_LW_law_847 (lv_at hl 0 rfl) ?_
    refine lv_iconst (v := 2) hx hb d_LW_law_849 (by decide) ?_
    refine lv_iadd hx hb d_LW_law_850 ?_
    refine lv_topi (fun v6 ev6 => ?_)
    obtain rfl : v6 = 2 := ev6.trans (by decide)
    refine va_sld hx hb hX hbl hbA hS (show vp_in (nI 2) 6 from vp_in_nI (by decide) (by decide)) d_LW_law_851 ?_
    refine W.eq (g2 := F0 m 852 ls [.int (xs 2), .int (xs 1), .ref h0]) rfl ?_
    refine lv_if_eq (tgt := 859) hx hb d_LW_law_852 (by decide) (fun h9 => absurd h9 (hv)) (fun _ => ?_)
    refine lv_iconst (v := 1) hx hb d_LW_law_855 (by decide) ?_
    refine lv_goto (tgt := 860) hx hb d_LW_law_856 (by decide) ?_
    have hPc := hP.sub (ws' := [(h0, .inr (0, [.ref rq, .ref oa, .ref pl, .ref dk, .ref rw, .int 0, .int 0, .int (-1)]))]) [0] rfl
    have hKc := hK.sub (tys' := []) [] rfl
    have hDc := hD.sub (ws' := [(h0, .inr (0, [.ref rq, .ref oa, .ref pl, .ref dk, .ref rw, .int 0, .int 0, .int (-1)]))]) [0] (by decide) rfl
    have hFc := va_free (wc := [(h0, .inr (0, [.ref rq, .ref oa, .ref pl, .ref dk, .ref rw, .int 0, .int 0, .int (-1)]))]) hD hS hA [0] rfl
    refine fr_call (tw_runSW (As := [.ref h0, .int (xs 1), .int 1]) (rest := []) ⟨hx, hb, hml, hown, ht⟩ (c_LW_protect_bad l dC dI H.size s.heap.size hl9 h0 rq oa pl dk rw ou (xs 1) 1) rfl rfl ⟨Nat.le_of_ble_eq_true rfl, Nat.le_of_ble_eq_true rfl⟩ (pay_in ht (gW tb_561)) (show _ ∈ w_LW_protect from List.mem_cons_self) (ht _ tb_559) (ht _ tb_560) (ht _ tb_0) (n := 3) (by decide +kernel) ⟨frP_blind, fr_pre hPc hKc hDc hAB hBs hS hV⟩ rfl rfl hl.1 rfl (lv_room (Nat.le_of_ble_eq_true rfl)) d_LW_law_860 ⟨Nat.le_of_ble_eq_true rfl, Nat.le_of_ble_eq_true rfl⟩) hS (fun q _ h => hFc q h) hFc (fun t H1 locs ht1 hvm hB1 hz1 hk1 hS => ?_)
    obtain ⟨hP1, hK1, hD1⟩ := hB1
    rw [ht1] at hP1
    have hK1 := va_K.moved hvm.symm hK1
    obtain ⟨hP, hD⟩ := va_join (wr := [(rq, .inl (k1, 40, .inr (.inr (.inr (.inr (fun _ => none)))))), (oa, .inl (k2, 8, .inl (fun _ => 0))), (pl, .inr (1, [.ref q9, .int 0])), (dk, .inr (2, [.ref d1, .ref d2, .ref d3, .ref d4])), (d1, .inl (k3, 24, .inl (fun _ => -1))), (rw, .inr (3, [.ref r1, .int 0, .int 0])), (g0, .inr (5, [.int 0, .int 0, .int (-1), .ref m3, .int 0, .ref m5, .ref m6, .ref m7, .ref m8, .ref m9, .ref m10, .ref m11, .ref m12, .ref m13, .ref m14, .ref m15, .ref m16, .ref m17, .ref m18, .ref m19, .ref m20, .int 0, .ref m22, .ref m23, .ref m24, .ref m25, .ref m26, .ref m27, .int 0, .ref m29])), (m3, .inl (j3, 8, .inl (fun _ => 0))), (m5, .inl (j5, 40, .inl (fun _ => 0))), (m6, .inl (j6, 40, .inl (fun _ => 0))), (m7, .inl (j7, 40, .inl (fun _ => 0))), (m8, .inl (j8, 40, .inl (fun _ => 0))), (m9, .inl (j9, 40, .inl (fun _ => 0))), (m10, .inl (j10, 40, .inl (fun _ => 0))), (ou, .inl (k4, 1, .inr (.inl (fun _ => 0))))]) (w1 := [(h0, .inr (0, [.ref rq, .ref oa, .ref pl, .ref dk, .ref rw, .int 0, .int 0, .int (-1)]))]) hP hD [0] [1, 2, 3, 4, 5, 6, 7, 8, 9, 10, 11, 12, 13, 14, 15] rfl rfl (by decide) (by decide) hk1 hFc hP1 hD1
    have hK := hK.app hK1
    generalize H1 = H at hP hS ⊢
    have hP : va_P (dC, dI) cls_ [(rq, .inl (k1, 40, .inr (.inr (.inr (.inr (fun _ => none)))))), (oa, .inl (k2, 8, .inl (fun _ => 0))), (pl, .inr (1, [.ref q9, .int 0])), (dk, .inr (2, [.ref d1, .ref d2, .ref d3, .ref d4])), (d1, .inl (k3, 24, .inl (fun _ => -1))), (rw, .inr (3, [.ref r1, .int 0, .int 0])), (g0, .inr (5, [.int 0, .int 0, .int (-1), .ref m3, .int 0, .ref m5, .ref m6, .ref m7, .ref m8, .ref m9, .ref m10, .ref m11, .ref m12, .ref m13, .ref m14, .ref m15, .ref m16, .ref m17, .ref m18, .ref m19, .ref m20, .int 0, .ref m22, .ref m23, .ref m24, .ref m25, .ref m26, .ref m27, .int 0, .ref m29])), (m3, .inl (j3, 8, .inl (fun _ => 0))), (m5, .inl (j5, 40, .inl (fun _ => 0))), (m6, .inl (j6, 40, .inl (fun _ => 0))), (m7, .inl (j7, 40, .inl (fun _ => 0))), (m8, .inl (j8, 40, .inl (fun _ => 0))), (m9, .inl (j9, 40, .inl (fun _ => 0))), (m10, .inl (j10, 40, .inl (fun _ => 0))), (ou, .inl (k4, 1, .inr (.inl (fun _ => 0)))), (h0, .inr (0, [.ref rq, .ref oa, .ref pl, .ref dk, .ref rw, .int 0, .int 0, .int (-1)]))] H := hP
    have hD : va_D A [(rq, .inl (k1, 40, .inr (.inr (.inr (.inr (fun _ => none)))))), (oa, .inl (k2, 8, .inl (fun _ => 0))), (pl, .inr (1, [.ref q9, .int 0])), (dk, .inr (2, [.ref d1, .ref d2, .ref d3, .ref d4])), (d1, .inl (k3, 24, .inl (fun _ => -1))), (rw, .inr (3, [.ref r1, .int 0, .int 0])), (g0, .inr (5, [.int 0, .int 0, .int (-1), .ref m3, .int 0, .ref m5, .ref m6, .ref m7, .ref m8, .ref m9, .ref m10, .ref m11, .ref m12, .ref m13, .ref m14, .ref m15, .ref m16, .ref m17, .ref m18, .ref m19, .ref m20, .int 0, .ref m22, .ref m23, .ref m24, .ref m25, .ref m26, .ref m27, .int 0, .ref m29])), (m3, .inl (j3, 8, .inl (fun _ => 0))), (m5, .inl (j5, 40, .inl (fun _ => 0))), (m6, .inl (j6, 40, .inl (fun _ => 0))), (m7, .inl (j7, 40, .inl (fun _ => 0))), (m8, .inl (j8, 40, .inl (fun _ => 0))), (m9, .inl (j9, 40, .inl (fun _ => 0))), (m10, .inl (j10, 40, .inl (fun _ => 0))), (ou, .inl (k4, 1, .inr (.inl (fun _ => 0)))), (h0, .inr (0, [.ref rq, .ref oa, .ref pl, .ref dk, .ref rw, .int 0, .int 0, .int (-1)]))] := hD
    have hK : va_K (dC, dI) cls_ [(k1, .object "TwinTuners$Request"), (k2, .int), (k3, .int), (j3, .int), (j5, .int), (j6, .int), (j7, .int), (j8, .int), (j9, .int), (j10, .int), (k4, .long)] s := hK
    refine W.eq (g2 := F0 m 863 ls [.int 1]) rfl ?_
    refine W.cs (cells' := 39) (slots' := 14130) rfl rfl ?_
    refine lv_istore hx hb d_LW_law_863 hl (by decide) rfl (fun ls hl => ?_)
    have hl : lv_has ls 8 [(5, .int 1), (4, .int 0), (3, .ref ou), (2, .ref g0), (1, .ref h0), (0, .ref b)] := hl
    refine lv_aload_n hx hb d_LW_law_865 rfl (lv_at hl 3 rfl) ?_
    refine lv_aload_n hx hb d_LW_law_866 rfl (lv_at hl 5 rfl) ?_
    refine lv_iload hx hb d_LW_law_867 (lv_at hl 1 rfl) ?_
    refine lv_iconst (v := 1) hx hb d_LW_law_869 (by decide) ?_
    refine lv_iadd hx hb d_LW_law_870 ?_
    refine lv_topi (fun v7 ev7 => ?_)
    obtain rfl : v7 = 1 := ev7.trans (by decide)
    refine va_sld hx hb hX hbl hbA hS (show vp_in (nI 1) 6 from vp_in_nI (by decide) (by decide)) d_LW_law_871 ?_
    refine W.eq (g2 := F0 m 872 ls [.int (xs 1), .ref g0]) rfl ?_
    refine lv_aload_n hx hb d_LW_law_872 rfl (lv_at hl 5 rfl) ?_
    refine lv_iload hx hb d_LW_law_873 (lv_at hl 1 rfl) ?_
    refine lv_iconst (v := 2) hx hb d_LW_law_875 (by decide) ?_
    refine lv_iadd hx hb d_LW_law_876 ?_
    refine lv_topi (fun v8 ev8 => ?_)
    obtain rfl : v8 = 2 := ev8.trans (by decide)
    refine va_sld hx hb hX hbl hbA hS (show vp_in (nI 2) 6 from vp_in_nI (by decide) (by decide)) d_LW_law_877 ?_
    refine W.eq (g2 := F0 m 878 ls [.int (xs 2), .int (xs 1), .ref g0]) rfl ?_
    refine lv_if_eq (tgt := 885) hx hb d_LW_law_878 (by decide) (fun h9 => absurd h9 (hv)) (fun _ => ?_)
    refine lv_iconst (v := 1) hx hb d_LW_law_881 (by decide) ?_
    refine lv_goto (tgt := 886) hx hb d_LW_law_882 (by decide) ?_
    have hPc := hP.sub (ws' := [(g0, .inr (5, [.int 0, .int 0, .int (-1), .ref m3, .int 0, .ref m5, .ref m6, .ref m7, .ref m8, .ref m9, .ref m10, .ref m11, .ref m12, .ref m13, .ref m14, .ref m15, .ref m16, .ref m17, .ref m18, .ref m19, .ref m20, .int 0, .ref m22, .ref m23, .ref m24, .ref m25, .ref m26, .ref m27, .int 0, .ref m29]))]) [6] rfl
    have hKc := hK.sub (tys' := []) [] rfl
    have hDc := hD.sub (ws' := [(g0, .inr (5, [.int 0, .int 0, .int (-1), .ref m3, .int 0, .ref m5, .ref m6, .ref m7, .ref m8, .ref m9, .ref m10, .ref m11, .ref m12, .ref m13, .ref m14, .ref m15, .ref m16, .ref m17, .ref m18, .ref m19, .ref m20, .int 0, .ref m22, .ref m23, .ref m24, .ref m25, .ref m26, .ref m27, .int 0, .ref m29]))]) [6] (by decide) rfl
    have hFc := va_free (wc := [(g0, .inr (5, [.int 0, .int 0, .int (-1), .ref m3, .int 0, .ref m5, .ref m6, .ref m7, .ref m8, .ref m9, .ref m10, .ref m11, .ref m12, .ref m13, .ref m14, .ref m15, .ref m16, .ref m17, .ref m18, .ref m19, .ref m20, .int 0, .ref m22, .ref m23, .ref m24, .ref m25, .ref m26, .ref m27, .int 0, .ref m29]))]) hD hS hA [6] rfl
    refine fr_call (va_runV (C := R_MO) (As := [.int (xs 1), .int 1]) (rest := []) ⟨hx, hb, hml, hown, ht⟩ (c_MO_protect_bad l dC dI H.size s.heap.size g0 m3 m5 m6 m7 m8 m9 m10 m11 m12 m13 m14 m15 m16 m17 m18 m19 m20 m22 m23 m24 m25 m26 m27 m29 (xs 1) 1) (cwV 2 ht (gV tb_882 tb_883 tb_884 tb_5 tb_885) rfl rfl rfl (by decide +kernel) ⟨Nat.le_of_ble_eq_true rfl, Nat.le_of_ble_eq_true rfl⟩) ⟨frP_blind, va_recv (q := (R_MO, F_MO, 30)) hK hP rfl (show ([(rq, .inl (k1, 40, .inr (.inr (.inr (.inr (fun _ => none)))))), (oa, .inl (k2, 8, .inl (fun _ => 0))), (pl, .inr (1, [.ref q9, .int 0])), (dk, .inr (2, [.ref d1, .ref d2, .ref d3, .ref d4])), (d1, .inl (k3, 24, .inl (fun _ => -1))), (rw, .inr (3, [.ref r1, .int 0, .int 0])), (g0, .inr (5, [.int 0, .int 0, .int (-1), .ref m3, .int 0, .ref m5, .ref m6, .ref m7, .ref m8, .ref m9, .ref m10, .ref m11, .ref m12, .ref m13, .ref m14, .ref m15, .ref m16, .ref m17, .ref m18, .ref m19, .ref m20, .int 0, .ref m22, .ref m23, .ref m24, .ref m25, .ref m26, .ref m27, .int 0, .ref m29])), (m3, .inl (j3, 8, .inl (fun _ => 0))), (m5, .inl (j5, 40, .inl (fun _ => 0))), (m6, .inl (j6, 40, .inl (fun _ => 0))), (m7, .inl (j7, 40, .inl (fun _ => 0))), (m8, .inl (j8, 40, .inl (fun _ => 0))), (m9, .inl (j9, 40, .inl (fun _ => 0))), (m10, .inl (j10, 40, .inl (fun _ => 0))), (ou, .inl (k4, 1, .inr (.inl (fun _ => 0)))), (h0, .inr (0, [.ref rq, .ref oa, .ref pl, .ref dk, .ref rw, .int 0, .int 0, .int (-1)]))] : va_W)[6]? = some (g0, .inr (5, [.int 0, .int 0, .int (-1), .ref m3, .int 0, .ref m5, .ref m6, .ref m7, .ref m8, .ref m9, .ref m10, .ref m11, .ref m12, .ref m13, .ref m14, .ref m15, .ref m16, .ref m17, .ref m18, .ref m19, .ref m20, .int 0, .ref m22, .ref m23, .ref m24, .ref m25, .ref m26, .ref m27, .int 0, .ref m29])) from rfl), fr_pre hPc hKc hDc hAB hBs hS hV⟩ rfl rfl hl.1 rfl (lv_room (Nat.le_of_ble_eq_true rfl)) d_LW_law_886 ⟨Nat.le_of_ble_eq_true rfl, Nat.le_of_ble_eq_true rfl⟩) hS (fun q _ h => hFc q h) hFc (fun t H1 locs ht1 hvm hB1 hz1 hk1 hS => ?_)
    obtain ⟨hP1, hK1, hD1⟩ := hB1
    rw [ht1] at hP1
    have hK1 := va_K.moved hvm.symm hK1
    obtain ⟨hP, hD⟩ := va_join (wr := [(rq, .inl (k1, 40, .inr (.inr (.inr (.inr (fun _ => none)))))), (oa, .inl (k2, 8, .inl (fun _ => 0))), (pl, .inr (1, [.ref q9, .int 0])), (dk, .inr (2, [.ref d1, .ref d2, .ref d3, .ref d4])), (d1, .inl (k3, 24, .inl (fun _ => -1))), (rw, .inr (3, [.ref r1, .int 0, .int 0])), (m3, .inl (j3, 8, .inl (fun _ => 0))), (m5, .inl (j5, 40, .inl (fun _ => 0))), (m6, .inl (j6, 40, .inl (fun _ => 0))), (m7, .inl (j7, 40, .inl (fun _ => 0))), (m8, .inl (j8, 40, .inl (fun _ => 0))), (m9, .inl (j9, 40, .inl (fun _ => 0))), (m10, .inl (j10, 40, .inl (fun _ => 0))), (ou, .inl (k4, 1, .inr (.inl (fun _ => 0)))), (h0, .inr (0, [.ref rq, .ref oa, .ref pl, .ref dk, .ref rw, .int 0, .int 0, .int (-1)]))]) (w1 := [(g0, .inr (5, [.int 1, .int 0, .int (-1), .ref m3, .int 0, .ref m5, .ref m6, .ref m7, .ref m8, .ref m9, .ref m10, .ref m11, .ref m12, .ref m13, .ref m14, .ref m15, .ref m16, .ref m17, .ref m18, .ref m19, .ref m20, .int 0, .ref m22, .ref m23, .ref m24, .ref m25, .ref m26, .ref m27, .int 0, .ref m29]))]) hP hD [6] [0, 1, 2, 3, 4, 5, 7, 8, 9, 10, 11, 12, 13, 14, 15] rfl rfl (by decide) (by decide) hk1 hFc hP1 hD1
    have hK := hK.app hK1
    generalize H1 = H at hP hS ⊢
    have hP : va_P (dC, dI) cls_ [(rq, .inl (k1, 40, .inr (.inr (.inr (.inr (fun _ => none)))))), (oa, .inl (k2, 8, .inl (fun _ => 0))), (pl, .inr (1, [.ref q9, .int 0])), (dk, .inr (2, [.ref d1, .ref d2, .ref d3, .ref d4])), (d1, .inl (k3, 24, .inl (fun _ => -1))), (rw, .inr (3, [.ref r1, .int 0, .int 0])), (m3, .inl (j3, 8, .inl (fun _ => 0))), (m5, .inl (j5, 40, .inl (fun _ => 0))), (m6, .inl (j6, 40, .inl (fun _ => 0))), (m7, .inl (j7, 40, .inl (fun _ => 0))), (m8, .inl (j8, 40, .inl (fun _ => 0))), (m9, .inl (j9, 40, .inl (fun _ => 0))), (m10, .inl (j10, 40, .inl (fun _ => 0))), (ou, .inl (k4, 1, .inr (.inl (fun _ => 0)))), (h0, .inr (0, [.ref rq, .ref oa, .ref pl, .ref dk, .ref rw, .int 0, .int 0, .int (-1)])), (g0, .inr (5, [.int 1, .int 0, .int (-1), .ref m3, .int 0, .ref m5, .ref m6, .ref m7, .ref m8, .ref m9, .ref m10, .ref m11, .ref m12, .ref m13, .ref m14, .ref m15, .ref m16, .ref m17, .ref m18, .ref m19, .ref m20, .int 0, .ref m22, .ref m23, .ref m24, .ref m25, .ref m26, .ref m27, .int 0, .ref m29]))] H := hP
    have hD : va_D A [(rq, .inl (k1, 40, .inr (.inr (.inr (.inr (fun _ => none)))))), (oa, .inl (k2, 8, .inl (fun _ => 0))), (pl, .inr (1, [.ref q9, .int 0])), (dk, .inr (2, [.ref d1, .ref d2, .ref d3, .ref d4])), (d1, .inl (k3, 24, .inl (fun _ => -1))), (rw, .inr (3, [.ref r1, .int 0, .int 0])), (m3, .inl (j3, 8, .inl (fun _ => 0))), (m5, .inl (j5, 40, .inl (fun _ => 0))), (m6, .inl (j6, 40, .inl (fun _ => 0))), (m7, .inl (j7, 40, .inl (fun _ => 0))), (m8, .inl (j8, 40, .inl (fun _ => 0))), (m9, .inl (j9, 40, .inl (fun _ => 0))), (m10, .inl (j10, 40, .inl (fun _ => 0))), (ou, .inl (k4, 1, .inr (.inl (fun _ => 0)))), (h0, .inr (0, [.ref rq, .ref oa, .ref pl, .ref dk, .ref rw, .int 0, .int 0, .int (-1)])), (g0, .inr (5, [.int 1, .int 0, .int (-1), .ref m3, .int 0, .ref m5, .ref m6, .ref m7, .ref m8, .ref m9, .ref m10, .ref m11, .ref m12, .ref m13, .ref m14, .ref m15, .ref m16, .ref m17, .ref m18, .ref m19, .ref m20, .int 0, .ref m22, .ref m23, .ref m24, .ref m25, .ref m26, .ref m27, .int 0, .ref m29]))] := hD
    have hK : va_K (dC, dI) cls_ [(k1, .object "TwinTuners$Request"), (k2, .int), (k3, .int), (j3, .int), (j5, .int), (j6, .int), (j7, .int), (j8, .int), (j9, .int), (j10, .int), (k4, .long)] s := hK
    refine W.eq (g2 := F0 m 889 ls []) rfl ?_
    refine W.cs (cells' := 39) (slots' := 14130) rfl rfl ?_
    refine lv_aload_n hx hb d_LW_law_889 rfl (lv_at hl 3 rfl) ?_
    have hPc := hP.sub (ws' := [(g0, .inr (5, [.int 1, .int 0, .int (-1), .ref m3, .int 0, .ref m5, .ref m6, .ref m7, .ref m8, .ref m9, .ref m10, .ref m11, .ref m12, .ref m13, .ref m14, .ref m15, .ref m16, .ref m17, .ref m18, .ref m19, .ref m20, .int 0, .ref m22, .ref m23, .ref m24, .ref m25, .ref m26, .ref m27, .int 0, .ref m29]))]) [15] rfl
    have hKc := hK.sub (tys' := []) [] rfl
    refine rd_call (va_runV (C := R_MO) (As := []) (rest := []) ⟨hx, hb, hml, hown, ht⟩ (c_MO_thrown_v l dC dI g0 m3 m5 m6 m7 m8 m9 m10 m11 m12 m13 m14 m15 m16 m17 m18 m19 m20 m22 m23 m24 m25 m26 m27 m29 1 0 (-1) 0) (cwV 0 ht (gV tb_723 tb_724 tb_725 tb_5 tb_726) rfl rfl rfl (by decide +kernel) ⟨Nat.le_of_ble_eq_true rfl, Nat.le_of_ble_eq_true rfl⟩) ⟨rdP_blind, va_recv (q := (R_MO, F_MO, 30)) hK hP rfl (show ([(rq, .inl (k1, 40, .inr (.inr (.inr (.inr (fun _ => none)))))), (oa, .inl (k2, 8, .inl (fun _ => 0))), (pl, .inr (1, [.ref q9, .int 0])), (dk, .inr (2, [.ref d1, .ref d2, .ref d3, .ref d4])), (d1, .inl (k3, 24, .inl (fun _ => -1))), (rw, .inr (3, [.ref r1, .int 0, .int 0])), (m3, .inl (j3, 8, .inl (fun _ => 0))), (m5, .inl (j5, 40, .inl (fun _ => 0))), (m6, .inl (j6, 40, .inl (fun _ => 0))), (m7, .inl (j7, 40, .inl (fun _ => 0))), (m8, .inl (j8, 40, .inl (fun _ => 0))), (m9, .inl (j9, 40, .inl (fun _ => 0))), (m10, .inl (j10, 40, .inl (fun _ => 0))), (ou, .inl (k4, 1, .inr (.inl (fun _ => 0)))), (h0, .inr (0, [.ref rq, .ref oa, .ref pl, .ref dk, .ref rw, .int 0, .int 0, .int (-1)])), (g0, .inr (5, [.int 1, .int 0, .int (-1), .ref m3, .int 0, .ref m5, .ref m6, .ref m7, .ref m8, .ref m9, .ref m10, .ref m11, .ref m12, .ref m13, .ref m14, .ref m15, .ref m16, .ref m17, .ref m18, .ref m19, .ref m20, .int 0, .ref m22, .ref m23, .ref m24, .ref m25, .ref m26, .ref m27, .int 0, .ref m29]))] : va_W)[15]? = some (g0, .inr (5, [.int 1, .int 0, .int (-1), .ref m3, .int 0, .ref m5, .ref m6, .ref m7, .ref m8, .ref m9, .ref m10, .ref m11, .ref m12, .ref m13, .ref m14, .ref m15, .ref m16, .ref m17, .ref m18, .ref m19, .ref m20, .int 0, .ref m22, .ref m23, .ref m24, .ref m25, .ref m26, .ref m27, .int 0, .ref m29])) from rfl), rd_pre hPc hKc⟩ rfl rfl hl.1 rfl (lv_room (Nat.le_of_ble_eq_true rfl)) d_LW_law_890 ⟨Nat.le_of_ble_eq_true rfl, Nat.le_of_ble_eq_true rfl⟩) ?_
    refine W.eq (g2 := F0 m 893 ls [.int 1]) rfl ?_
    refine lv_iload hx hb d_LW_law_893 (lv_at hl 0 rfl) ?_
    refine lv_icmp_eq (tgt := 900) hx hb d_LW_law_895 (by decide) (fun _ => ?_) (fun h9 => absurd (rfl) h9)
    refine lv_goto (tgt := 1228) hx hb d_LW_law_900 (by decide) ?_
    have hl := lv_sub hl [1, 5] (l' := [(4, .int 0), (0, .ref b)]) rfl
    exact tl_end hx hb hr hlocks hbl hbA hAB hX (Nat.le_of_ble_eq_true rfl) (Nat.le_of_ble_eq_true rfl) hS hl
set_option maxHeartbeats 4000000 in
set_option maxRecDepth 100000 in
theorem cs_15 {p : Program} {l : Launch} {e : Env} {s : State} {m : MethodId} {below : List Frame} {meth : Method} {c : Code} {A : Nat → Prop} {b : Nat} {H : Heap} {locs : List Loc} {ls : Array Slot} {xs : Nat → Int32} (dC : Nat → ClassId) (dI : Nat → Nat → Nat) (h0 rq oa pl dk rw q9 d1 d2 d3 d4 r1 g0 m3 m5 m6 m7 m8 m9 m10 m11 m12 m13 m14 m15 m16 m17 m18 m19 m20 m22 m23 m24 m25 m26 m27 m29 ou : Nat) (k1 k2 k3 j3 j5 j6 j7 j8 j9 j10 k4 : ClassId) (hl9 : l.stackTraces = false) (hx : p.tables.exec = Jvm.exec) (hb : c.code = code) (hr : meth.sig.returnType = ret) (hlocks : meth.locks = false) (hbl : b < s.heap.size) (hbA : ¬ A b) (hAB : ∀ q, A q → s.heap.size ≤ q) (hX : va_X b 6 xs s s.heap) (hml : c.maxLocals = 8) (hown : s.vm.findClass R_LW = some m.cls) (ht : ∀ w ∈ tb_, w.before #[Value.ref b] s = true) (hA : ∀ q : Nat, s.heap.size ≤ q → A q) (hBs : s.heap.size ≤ s.heap.size) (hV : tw_V s.heap.size s s.heap)
    (hK : va_K (dC, dI) cls_ [(k1, .object "TwinTuners$Request"), (k2, .int), (k3, .int), (j3, .int), (j5, .int), (j6, .int), (j7, .int), (j8, .int), (j9, .int), (j10, .int), (k4, .long)] s) (hP : va_P (dC, dI) cls_ [(h0, .inr (0, [.ref rq, .ref oa, .ref pl, .ref dk, .ref rw, .int 0, .int 0, .int (-1)])), (rq, .inl (k1, 40, .inr (.inr (.inr (.inr (fun _ => none)))))), (oa, .inl (k2, 8, .inl (fun _ => 0))), (pl, .inr (1, [.ref q9, .int 0])), (dk, .inr (2, [.ref d1, .ref d2, .ref d3, .ref d4])), (d1, .inl (k3, 24, .inl (fun _ => -1))), (rw, .inr (3, [.ref r1, .int 0, .int 0])), (g0, .inr (5, [.int 0, .int 0, .int (-1), .ref m3, .int 0, .ref m5, .ref m6, .ref m7, .ref m8, .ref m9, .ref m10, .ref m11, .ref m12, .ref m13, .ref m14, .ref m15, .ref m16, .ref m17, .ref m18, .ref m19, .ref m20, .int 0, .ref m22, .ref m23, .ref m24, .ref m25, .ref m26, .ref m27, .int 0, .ref m29])), (m3, .inl (j3, 8, .inl (fun _ => 0))), (m5, .inl (j5, 40, .inl (fun _ => 0))), (m6, .inl (j6, 40, .inl (fun _ => 0))), (m7, .inl (j7, 40, .inl (fun _ => 0))), (m8, .inl (j8, 40, .inl (fun _ => 0))), (m9, .inl (j9, 40, .inl (fun _ => 0))), (m10, .inl (j10, 40, .inl (fun _ => 0))), (ou, .inl (k4, 1, .inr (.inl (fun _ => 0))))] H) (hD : va_D A [(h0, .inr (0, [.ref rq, .ref oa, .ref pl, .ref dk, .ref rw, .int 0, .int 0, .int (-1)])), (rq, .inl (k1, 40, .inr (.inr (.inr (.inr (fun _ => none)))))), (oa, .inl (k2, 8, .inl (fun _ => 0))), (pl, .inr (1, [.ref q9, .int 0])), (dk, .inr (2, [.ref d1, .ref d2, .ref d3, .ref d4])), (d1, .inl (k3, 24, .inl (fun _ => -1))), (rw, .inr (3, [.ref r1, .int 0, .int 0])), (g0, .inr (5, [.int 0, .int 0, .int (-1), .ref m3, .int 0, .ref m5, .ref m6, .ref m7, .ref m8, .ref m9, .ref m10, .ref m11, .ref m12, .ref m13, .ref m14, .ref m15, .ref m16, .ref m17, .ref m18, .ref m19, .ref m20, .int 0, .ref m22, .ref m23, .ref m24, .ref m25, .ref m26, .ref m27, .int 0, .ref m29])), (m3, .inl (j3, 8, .inl (fun _ => 0))), (m5, .inl (j5, 40, .inl (fun _ => 0))), (m6, .inl (j6, 40, .inl (fun _ => 0))), (m7, .inl (j7, 40, .inl (fun _ => 0))), (m8, .inl (j8, 40, .inl (fun _ => 0))), (m9, .inl (j9, 40, .inl (fun _ => 0))), (m10, .inl (j10, 40, .inl (fun _ => 0))), (ou, .inl (k4, 1, .inr (.inl (fun _ => 0))))]) (hS : va_S A s.heap H locs) (hl : lv_has ls 8 [(4, .int 0), (3, .ref ou), (2, .ref g0), (1, .ref h0), (0, .ref b)]) : W p l e room_1 s m #[Value.ref b] below meth c H locs 38 14124 (lw_Z below #[Value.ref b] s) (F0 m 903 ls []) := by
  by_cases hv : xs 2 = 0
  · refine lv_aload_n hx hb d_LW_law_903 rfl (lv_at hl 3 rfl) ?_
    refine lv_aload_n hx hb d_LW_law_904 rfl (lv_at hl 4 rfl) ?_
    refine lv_iload hx hb d_LW_law_905 (lv_at hl 0 rfl) ?_
    refine lv_iconst (v := 1) hx hb d_LW_law_907 (by decide) ?_
    refine lv_iadd hx hb d_LW_law_908 ?_
    refine lv_topi (fun v1 ev1 => ?_)
    obtain rfl : v1 = 1 := ev1.trans (by decide)
    refine va_sld hx hb hX hbl hbA hS (show vp_in (nI 1) 6 from vp_in_nI (by decide) (by decide)) d_LW_law_909 ?_
    refine W.eq (g2 := F0 m 910 ls [.int (xs 1), .ref h0]) rfl ?_
    refine lv_aload_n hx hb d_LW_law_910 rfl (lv_at hl 4 rfl) ?_
    refine lv_iload hx hb d_LW_law_911 (lv_at hl 0 rfl) ?_
    refine lv_iconst (v := 2) hx hb d_LW_law_913 (by decide) ?_
    refine lv_iadd hx hb d_LW_law_914 ?_
    refine lv_topi (fun v2 ev2 => ?_)
    obtain rfl : v2 = 2 := ev2.trans (by decide)
    refine va_sld hx hb hX hbl hbA hS (show vp_in (nI 2) 6 from vp_in_nI (by decide) (by decide)) d_LW_law_915 ?_
    refine W.eq (g2 := F0 m 916 ls [.int (xs 2), .int (xs 1), .ref h0]) rfl ?_
    refine lv_if_eq (tgt := 923) hx hb d_LW_law_916 (by decide) (fun _ => ?_) (fun h9 => absurd (hv) h9)
    refine lv_iconst (v := 0) hx hb d_LW_law_923 (by decide) ?_
    have hPc := hP.sub (ws' := [(h0, .inr (0, [.ref rq, .ref oa, .ref pl, .ref dk, .ref rw, .int 0, .int 0, .int (-1)]))]) [0] rfl
    have hKc := hK.sub (tys' := []) [] rfl
    have hDc := hD.sub (ws' := [(h0, .inr (0, [.ref rq, .ref oa, .ref pl, .ref dk, .ref rw, .int 0, .int 0, .int (-1)]))]) [0] (by decide) rfl
    have hFc := va_free (wc := [(h0, .inr (0, [.ref rq, .ref oa, .ref pl, .ref dk, .ref rw, .int 0, .int 0, .int (-1)]))]) hD hS hA [0] rfl
    refine fr_call (tw_runSW (As := [.ref h0, .int (xs 1), .int 0]) (rest := []) ⟨hx, hb, hml, hown, ht⟩ (c_LW_seen_bad l dC dI H.size s.heap.size hl9 h0 rq oa pl dk rw ou (xs 1) 0) rfl rfl ⟨Nat.le_of_ble_eq_true rfl, Nat.le_of_ble_eq_true rfl⟩ (pay_in ht (gW tb_577)) (show _ ∈ w_LW_seen from List.mem_cons_self) (ht _ tb_575) (ht _ tb_576) (ht _ tb_0) (n := 3) (by decide +kernel) ⟨frP_blind, fr_pre hPc hKc hDc hAB hBs hS hV⟩ rfl rfl hl.1 rfl (lv_room (Nat.le_of_ble_eq_true rfl)) d_LW_law_924 ⟨Nat.le_of_ble_eq_true rfl, Nat.le_of_ble_eq_true rfl⟩) hS (fun q _ h => hFc q h) hFc (fun t H1 locs ht1 hvm hB1 hz1 hk1 hS => ?_)
    obtain ⟨hP1, hK1, hD1⟩ := hB1
    rw [ht1] at hP1
    have hK1 := va_K.moved hvm.symm hK1
    obtain ⟨hP, hD⟩ := va_join (wr := [(rq, .inl (k1, 40, .inr (.inr (.inr (.inr (fun _ => none)))))), (oa, .inl (k2, 8, .inl (fun _ => 0))), (pl, .inr (1, [.ref q9, .int 0])), (dk, .inr (2, [.ref d1, .ref d2, .ref d3, .ref d4])), (d1, .inl (k3, 24, .inl (fun _ => -1))), (rw, .inr (3, [.ref r1, .int 0, .int 0])), (g0, .inr (5, [.int 0, .int 0, .int (-1), .ref m3, .int 0, .ref m5, .ref m6, .ref m7, .ref m8, .ref m9, .ref m10, .ref m11, .ref m12, .ref m13, .ref m14, .ref m15, .ref m16, .ref m17, .ref m18, .ref m19, .ref m20, .int 0, .ref m22, .ref m23, .ref m24, .ref m25, .ref m26, .ref m27, .int 0, .ref m29])), (m3, .inl (j3, 8, .inl (fun _ => 0))), (m5, .inl (j5, 40, .inl (fun _ => 0))), (m6, .inl (j6, 40, .inl (fun _ => 0))), (m7, .inl (j7, 40, .inl (fun _ => 0))), (m8, .inl (j8, 40, .inl (fun _ => 0))), (m9, .inl (j9, 40, .inl (fun _ => 0))), (m10, .inl (j10, 40, .inl (fun _ => 0))), (ou, .inl (k4, 1, .inr (.inl (fun _ => 0))))]) (w1 := [(h0, .inr (0, [.ref rq, .ref oa, .ref pl, .ref dk, .ref rw, .int 0, .int 0, .int (-1)]))]) hP hD [0] [1, 2, 3, 4, 5, 6, 7, 8, 9, 10, 11, 12, 13, 14, 15] rfl rfl (by decide) (by decide) hk1 hFc hP1 hD1
    have hK := hK.app hK1
    generalize H1 = H at hP hS ⊢
    have hP : va_P (dC, dI) cls_ [(rq, .inl (k1, 40, .inr (.inr (.inr (.inr (fun _ => none)))))), (oa, .inl (k2, 8, .inl (fun _ => 0))), (pl, .inr (1, [.ref q9, .int 0])), (dk, .inr (2, [.ref d1, .ref d2, .ref d3, .ref d4])), (d1, .inl (k3, 24, .inl (fun _ => -1))), (rw, .inr (3, [.ref r1, .int 0, .int 0])), (g0, .inr (5, [.int 0, .int 0, .int (-1), .ref m3, .int 0, .ref m5, .ref m6, .ref m7, .ref m8, .ref m9, .ref m10, .ref m11, .ref m12, .ref m13, .ref m14, .ref m15, .ref m16, .ref m17, .ref m18, .ref m19, .ref m20, .int 0, .ref m22, .ref m23, .ref m24, .ref m25, .ref m26, .ref m27, .int 0, .ref m29])), (m3, .inl (j3, 8, .inl (fun _ => 0))), (m5, .inl (j5, 40, .inl (fun _ => 0))), (m6, .inl (j6, 40, .inl (fun _ => 0))), (m7, .inl (j7, 40, .inl (fun _ => 0))), (m8, .inl (j8, 40, .inl (fun _ => 0))), (m9, .inl (j9, 40, .inl (fun _ => 0))), (m10, .inl (j10, 40, .inl (fun _ => 0))), (ou, .inl (k4, 1, .inr (.inl (fun _ => 0)))), (h0, .inr (0, [.ref rq, .ref oa, .ref pl, .ref dk, .ref rw, .int 0, .int 0, .int (-1)]))] H := hP
    have hD : va_D A [(rq, .inl (k1, 40, .inr (.inr (.inr (.inr (fun _ => none)))))), (oa, .inl (k2, 8, .inl (fun _ => 0))), (pl, .inr (1, [.ref q9, .int 0])), (dk, .inr (2, [.ref d1, .ref d2, .ref d3, .ref d4])), (d1, .inl (k3, 24, .inl (fun _ => -1))), (rw, .inr (3, [.ref r1, .int 0, .int 0])), (g0, .inr (5, [.int 0, .int 0, .int (-1), .ref m3, .int 0, .ref m5, .ref m6, .ref m7, .ref m8, .ref m9, .ref m10, .ref m11, .ref m12, .ref m13, .ref m14, .ref m15, .ref m16, .ref m17, .ref m18, .ref m19, .ref m20, .int 0, .ref m22, .ref m23, .ref m24, .ref m25, .ref m26, .ref m27, .int 0, .ref m29])), (m3, .inl (j3, 8, .inl (fun _ => 0))), (m5, .inl (j5, 40, .inl (fun _ => 0))), (m6, .inl (j6, 40, .inl (fun _ => 0))), (m7, .inl (j7, 40, .inl (fun _ => 0))), (m8, .inl (j8, 40, .inl (fun _ => 0))), (m9, .inl (j9, 40, .inl (fun _ => 0))), (m10, .inl (j10, 40, .inl (fun _ => 0))), (ou, .inl (k4, 1, .inr (.inl (fun _ => 0)))), (h0, .inr (0, [.ref rq, .ref oa, .ref pl, .ref dk, .ref rw, .int 0, .int 0, .int (-1)]))] := hD
    have hK : va_K (dC, dI) cls_ [(k1, .object "TwinTuners$Request"), (k2, .int), (k3, .int), (j3, .int), (j5, .int), (j6, .int), (j7, .int), (j8, .int), (j9, .int), (j10, .int), (k4, .long)] s := hK
    refine W.eq (g2 := F0 m 927 ls [.int 1]) rfl ?_
    refine W.cs (cells' := 39) (slots' := 14130) rfl rfl ?_
    refine lv_istore hx hb d_LW_law_927 hl (by decide) rfl (fun ls hl => ?_)
    have hl : lv_has ls 8 [(5, .int 1), (4, .int 0), (3, .ref ou), (2, .ref g0), (1, .ref h0), (0, .ref b)] := hl
    refine lv_aload_n hx hb d_LW_law_929 rfl (lv_at hl 3 rfl) ?_
    refine lv_aload_n hx hb d_LW_law_930 rfl (lv_at hl 5 rfl) ?_
    refine lv_iload hx hb d_LW_law_931 (lv_at hl 1 rfl) ?_
    refine lv_iconst (v := 1) hx hb d_LW_law_933 (by decide) ?_
    refine lv_iadd hx hb d_LW_law_934 ?_
    refine lv_topi (fun v3 ev3 => ?_)
    obtain rfl : v3 = 1 := ev3.trans (by decide)
    refine va_sld hx hb hX hbl hbA hS (show vp_in (nI 1) 6 from vp_in_nI (by decide) (by decide)) d_LW_law_935 ?_
    refine W.eq (g2 := F0 m 936 ls [.int (xs 1), .ref g0]) rfl ?_
    refine lv_aload_n hx hb d_LW_law_936 rfl (lv_at hl 5 rfl) ?_
    refine lv_iload hx hb d_LW_law_937 (lv_at hl 1 rfl) ?_
    refine lv_iconst (v := 2) hx hb d_LW_law_939 (by decide) ?_
    refine lv_iadd hx hb d_LW_law_940 ?_
    refine lv_topi (fun v4 ev4 => ?_)
    obtain rfl : v4 = 2 := ev4.trans (by decide)
    refine va_sld hx hb hX hbl hbA hS (show vp_in (nI 2) 6 from vp_in_nI (by decide) (by decide)) d_LW_law_941 ?_
    refine W.eq (g2 := F0 m 942 ls [.int (xs 2), .int (xs 1), .ref g0]) rfl ?_
    refine lv_if_eq (tgt := 949) hx hb d_LW_law_942 (by decide) (fun _ => ?_) (fun h9 => absurd (hv) h9)
    refine lv_iconst (v := 0) hx hb d_LW_law_949 (by decide) ?_
    have hPc := hP.sub (ws' := [(g0, .inr (5, [.int 0, .int 0, .int (-1), .ref m3, .int 0, .ref m5, .ref m6, .ref m7, .ref m8, .ref m9, .ref m10, .ref m11, .ref m12, .ref m13, .ref m14, .ref m15, .ref m16, .ref m17, .ref m18, .ref m19, .ref m20, .int 0, .ref m22, .ref m23, .ref m24, .ref m25, .ref m26, .ref m27, .int 0, .ref m29]))]) [6] rfl
    have hKc := hK.sub (tys' := []) [] rfl
    have hDc := hD.sub (ws' := [(g0, .inr (5, [.int 0, .int 0, .int (-1), .ref m3, .int 0, .ref m5, .ref m6, .ref m7, .ref m8, .ref m9, .ref m10, .ref m11, .ref m12, .ref m13, .ref m14, .ref m15, .ref m16, .ref m17, .ref m18, .ref m19, .ref m20, .int 0, .ref m22, .ref m23, .ref m24, .ref m25, .ref m26, .ref m27, .int 0, .ref m29]))]) [6] (by decide) rfl
    have hFc := va_free (wc := [(g0, .inr (5, [.int 0, .int 0, .int (-1), .ref m3, .int 0, .ref m5, .ref m6, .ref m7, .ref m8, .ref m9, .ref m10, .ref m11, .ref m12, .ref m13, .ref m14, .ref m15, .ref m16, .ref m17, .ref m18, .ref m19, .ref m20, .int 0, .ref m22, .ref m23, .ref m24, .ref m25, .ref m26, .ref m27, .int 0, .ref m29]))]) hD hS hA [6] rfl
    refine fr_call (va_runV (C := R_MO) (As := [.int (xs 1), .int 0]) (rest := []) ⟨hx, hb, hml, hown, ht⟩ (c_MO_seen_bad l dC dI H.size s.heap.size g0 m3 m5 m6 m7 m8 m9 m10 m11 m12 m13 m14 m15 m16 m17 m18 m19 m20 m22 m23 m24 m25 m26 m27 m29 (xs 1) 0) (cwV 2 ht (gV tb_890 tb_891 tb_892 tb_5 tb_893) rfl rfl rfl (by decide +kernel) ⟨Nat.le_of_ble_eq_true rfl, Nat.le_of_ble_eq_true rfl⟩) ⟨frP_blind, va_recv (q := (R_MO, F_MO, 30)) hK hP rfl (show ([(rq, .inl (k1, 40, .inr (.inr (.inr (.inr (fun _ => none)))))), (oa, .inl (k2, 8, .inl (fun _ => 0))), (pl, .inr (1, [.ref q9, .int 0])), (dk, .inr (2, [.ref d1, .ref d2, .ref d3, .ref d4])), (d1, .inl (k3, 24, .inl (fun _ => -1))), (rw, .inr (3, [.ref r1, .int 0, .int 0])), (g0, .inr (5, [.int 0, .int 0, .int (-1), .ref m3, .int 0, .ref m5, .ref m6, .ref m7, .ref m8, .ref m9, .ref m10, .ref m11, .ref m12, .ref m13, .ref m14, .ref m15, .ref m16, .ref m17, .ref m18, .ref m19, .ref m20, .int 0, .ref m22, .ref m23, .ref m24, .ref m25, .ref m26, .ref m27, .int 0, .ref m29])), (m3, .inl (j3, 8, .inl (fun _ => 0))), (m5, .inl (j5, 40, .inl (fun _ => 0))), (m6, .inl (j6, 40, .inl (fun _ => 0))), (m7, .inl (j7, 40, .inl (fun _ => 0))), (m8, .inl (j8, 40, .inl (fun _ => 0))), (m9, .inl (j9, 40, .inl (fun _ => 0))), (m10, .inl (j10, 40, .inl (fun _ => 0))), (ou, .inl (k4, 1, .inr (.inl (fun _ => 0)))), (h0, .inr (0, [.ref rq, .ref oa, .ref pl, .ref dk, .ref rw, .int 0, .int 0, .int (-1)]))] : va_W)[6]? = some (g0, .inr (5, [.int 0, .int 0, .int (-1), .ref m3, .int 0, .ref m5, .ref m6, .ref m7, .ref m8, .ref m9, .ref m10, .ref m11, .ref m12, .ref m13, .ref m14, .ref m15, .ref m16, .ref m17, .ref m18, .ref m19, .ref m20, .int 0, .ref m22, .ref m23, .ref m24, .ref m25, .ref m26, .ref m27, .int 0, .ref m29])) from rfl), fr_pre hPc hKc hDc hAB hBs hS hV⟩ rfl rfl hl.1 rfl (lv_room (Nat.le_of_ble_eq_true rfl)) d_LW_law_950 ⟨Nat.le_of_ble_eq_true rfl, Nat.le_of_ble_eq_true rfl⟩) hS (fun q _ h => hFc q h) hFc (fun t H1 locs ht1 hvm hB1 hz1 hk1 hS => ?_)
    obtain ⟨hP1, hK1, hD1⟩ := hB1
    rw [ht1] at hP1
    have hK1 := va_K.moved hvm.symm hK1
    obtain ⟨hP, hD⟩ := va_join (wr := [(rq, .inl (k1, 40, .inr (.inr (.inr (.inr (fun _ => none)))))), (oa, .inl (k2, 8, .inl (fun _ => 0))), (pl, .inr (1, [.ref q9, .int 0])), (dk, .inr (2, [.ref d1, .ref d2, .ref d3, .ref d4])), (d1, .inl (k3, 24, .inl (fun _ => -1))), (rw, .inr (3, [.ref r1, .int 0, .int 0])), (m3, .inl (j3, 8, .inl (fun _ => 0))), (m5, .inl (j5, 40, .inl (fun _ => 0))), (m6, .inl (j6, 40, .inl (fun _ => 0))), (m7, .inl (j7, 40, .inl (fun _ => 0))), (m8, .inl (j8, 40, .inl (fun _ => 0))), (m9, .inl (j9, 40, .inl (fun _ => 0))), (m10, .inl (j10, 40, .inl (fun _ => 0))), (ou, .inl (k4, 1, .inr (.inl (fun _ => 0)))), (h0, .inr (0, [.ref rq, .ref oa, .ref pl, .ref dk, .ref rw, .int 0, .int 0, .int (-1)]))]) (w1 := [(g0, .inr (5, [.int 1, .int 0, .int (-1), .ref m3, .int 0, .ref m5, .ref m6, .ref m7, .ref m8, .ref m9, .ref m10, .ref m11, .ref m12, .ref m13, .ref m14, .ref m15, .ref m16, .ref m17, .ref m18, .ref m19, .ref m20, .int 0, .ref m22, .ref m23, .ref m24, .ref m25, .ref m26, .ref m27, .int 0, .ref m29]))]) hP hD [6] [0, 1, 2, 3, 4, 5, 7, 8, 9, 10, 11, 12, 13, 14, 15] rfl rfl (by decide) (by decide) hk1 hFc hP1 hD1
    have hK := hK.app hK1
    generalize H1 = H at hP hS ⊢
    have hP : va_P (dC, dI) cls_ [(rq, .inl (k1, 40, .inr (.inr (.inr (.inr (fun _ => none)))))), (oa, .inl (k2, 8, .inl (fun _ => 0))), (pl, .inr (1, [.ref q9, .int 0])), (dk, .inr (2, [.ref d1, .ref d2, .ref d3, .ref d4])), (d1, .inl (k3, 24, .inl (fun _ => -1))), (rw, .inr (3, [.ref r1, .int 0, .int 0])), (m3, .inl (j3, 8, .inl (fun _ => 0))), (m5, .inl (j5, 40, .inl (fun _ => 0))), (m6, .inl (j6, 40, .inl (fun _ => 0))), (m7, .inl (j7, 40, .inl (fun _ => 0))), (m8, .inl (j8, 40, .inl (fun _ => 0))), (m9, .inl (j9, 40, .inl (fun _ => 0))), (m10, .inl (j10, 40, .inl (fun _ => 0))), (ou, .inl (k4, 1, .inr (.inl (fun _ => 0)))), (h0, .inr (0, [.ref rq, .ref oa, .ref pl, .ref dk, .ref rw, .int 0, .int 0, .int (-1)])), (g0, .inr (5, [.int 1, .int 0, .int (-1), .ref m3, .int 0, .ref m5, .ref m6, .ref m7, .ref m8, .ref m9, .ref m10, .ref m11, .ref m12, .ref m13, .ref m14, .ref m15, .ref m16, .ref m17, .ref m18, .ref m19, .ref m20, .int 0, .ref m22, .ref m23, .ref m24, .ref m25, .ref m26, .ref m27, .int 0, .ref m29]))] H := hP
    have hD : va_D A [(rq, .inl (k1, 40, .inr (.inr (.inr (.inr (fun _ => none)))))), (oa, .inl (k2, 8, .inl (fun _ => 0))), (pl, .inr (1, [.ref q9, .int 0])), (dk, .inr (2, [.ref d1, .ref d2, .ref d3, .ref d4])), (d1, .inl (k3, 24, .inl (fun _ => -1))), (rw, .inr (3, [.ref r1, .int 0, .int 0])), (m3, .inl (j3, 8, .inl (fun _ => 0))), (m5, .inl (j5, 40, .inl (fun _ => 0))), (m6, .inl (j6, 40, .inl (fun _ => 0))), (m7, .inl (j7, 40, .inl (fun _ => 0))), (m8, .inl (j8, 40, .inl (fun _ => 0))), (m9, .inl (j9, 40, .inl (fun _ => 0))), (m10, .inl (j10, 40, .inl (fun _ => 0))), (ou, .inl (k4, 1, .inr (.inl (fun _ => 0)))), (h0, .inr (0, [.ref rq, .ref oa, .ref pl, .ref dk, .ref rw, .int 0, .int 0, .int (-1)])), (g0, .inr (5, [.int 1, .int 0, .int (-1), .ref m3, .int 0, .ref m5, .ref m6, .ref m7, .ref m8, .ref m9, .ref m10, .ref m11, .ref m12, .ref m13, .ref m14, .ref m15, .ref m16, .ref m17, .ref m18, .ref m19, .ref m20, .int 0, .ref m22, .ref m23, .ref m24, .ref m25, .ref m26, .ref m27, .int 0, .ref m29]))] := hD
    have hK : va_K (dC, dI) cls_ [(k1, .object "TwinTuners$Request"), (k2, .int), (k3, .int), (j3, .int), (j5, .int), (j6, .int), (j7, .int), (j8, .int), (j9, .int), (j10, .int), (k4, .long)] s := hK
    refine W.eq (g2 := F0 m 953 ls []) rfl ?_
    refine W.cs (cells' := 39) (slots' := 14130) rfl rfl ?_
    refine lv_aload_n hx hb d_LW_law_953 rfl (lv_at hl 3 rfl) ?_
    have hPc := hP.sub (ws' := [(g0, .inr (5, [.int 1, .int 0, .int (-1), .ref m3, .int 0, .ref m5, .ref m6, .ref m7, .ref m8, .ref m9, .ref m10, .ref m11, .ref m12, .ref m13, .ref m14, .ref m15, .ref m16, .ref m17, .ref m18, .ref m19, .ref m20, .int 0, .ref m22, .ref m23, .ref m24, .ref m25, .ref m26, .ref m27, .int 0, .ref m29]))]) [15] rfl
    have hKc := hK.sub (tys' := []) [] rfl
    refine rd_call (va_runV (C := R_MO) (As := []) (rest := []) ⟨hx, hb, hml, hown, ht⟩ (c_MO_thrown_v l dC dI g0 m3 m5 m6 m7 m8 m9 m10 m11 m12 m13 m14 m15 m16 m17 m18 m19 m20 m22 m23 m24 m25 m26 m27 m29 1 0 (-1) 0) (cwV 0 ht (gV tb_723 tb_724 tb_725 tb_5 tb_726) rfl rfl rfl (by decide +kernel) ⟨Nat.le_of_ble_eq_true rfl, Nat.le_of_ble_eq_true rfl⟩) ⟨rdP_blind, va_recv (q := (R_MO, F_MO, 30)) hK hP rfl (show ([(rq, .inl (k1, 40, .inr (.inr (.inr (.inr (fun _ => none)))))), (oa, .inl (k2, 8, .inl (fun _ => 0))), (pl, .inr (1, [.ref q9, .int 0])), (dk, .inr (2, [.ref d1, .ref d2, .ref d3, .ref d4])), (d1, .inl (k3, 24, .inl (fun _ => -1))), (rw, .inr (3, [.ref r1, .int 0, .int 0])), (m3, .inl (j3, 8, .inl (fun _ => 0))), (m5, .inl (j5, 40, .inl (fun _ => 0))), (m6, .inl (j6, 40, .inl (fun _ => 0))), (m7, .inl (j7, 40, .inl (fun _ => 0))), (m8, .inl (j8, 40, .inl (fun _ => 0))), (m9, .inl (j9, 40, .inl (fun _ => 0))), (m10, .inl (j10, 40, .inl (fun _ => 0))), (ou, .inl (k4, 1, .inr (.inl (fun _ => 0)))), (h0, .inr (0, [.ref rq, .ref oa, .ref pl, .ref dk, .ref rw, .int 0, .int 0, .int (-1)])), (g0, .inr (5, [.int 1, .int 0, .int (-1), .ref m3, .int 0, .ref m5, .ref m6, .ref m7, .ref m8, .ref m9, .ref m10, .ref m11, .ref m12, .ref m13, .ref m14, .ref m15, .ref m16, .ref m17, .ref m18, .ref m19, .ref m20, .int 0, .ref m22, .ref m23, .ref m24, .ref m25, .ref m26, .ref m27, .int 0, .ref m29]))] : va_W)[15]? = some (g0, .inr (5, [.int 1, .int 0, .int (-1), .ref m3, .int 0, .ref m5, .ref m6, .ref m7, .ref m8, .ref m9, .ref m10, .ref m11, .ref m12, .ref m13, .ref m14, .ref m15, .ref m16, .ref m17, .ref m18, .ref m19, .ref m20, .int 0, .ref m22, .ref m23, .ref m24, .ref m25, .ref m26, .ref m27, .int 0, .ref m29])) from rfl), rd_pre hPc hKc⟩ rfl rfl hl.1 rfl (lv_room (Nat.le_of_ble_eq_true rfl)) d_LW_law_954 ⟨Nat.le_of_ble_eq_true rfl, Nat.le_of_ble_eq_true rfl⟩) ?_
    refine W.eq (g2 := F0 m 957 ls [.int 1]) rfl ?_
    refine lv_iload hx hb d_LW_law_957 (lv_at hl 0 rfl) ?_
    refine lv_icmp_eq (tgt := 964) hx hb d_LW_law_959 (by decide) (fun _ => ?_) (fun h9 => absurd (rfl) h9)
    refine lv_goto (tgt := 1228) hx hb d_LW_law_964 (by decide) ?_
    have hl := lv_sub hl [1, 5] (l' := [(4, .int 0), (0, .ref b)]) rfl
    exact tl_end hx hb hr hlocks hbl hbA hAB hX (Nat.le_of_ble_eq_true rfl) (Nat.le_of_ble_eq_true rfl) hS hl
  · refine lv_aload_n hx hb d_LW_law_903 rfl (lv_at hl 3 rfl) ?_
    refine lv_aload_n hx hb d_LW_law_904 rfl (lv_at hl 4 rfl) ?_
    refine lv_iload hx hb d_LW_law_905 (lv_at hl 0 rfl) ?_
    refine lv_iconst (v := 1) hx hb d_LW_law_907 (by decide) ?_
    refine lv_iadd hx hb d_LW_law_908 ?_
    refine lv_topi (fun v5 ev5 => ?_)
    obtain rfl : v5 = 1 := ev5.trans (by decide)
    refine va_sld hx hb hX hbl hbA hS (show vp_in (nI 1) 6 from vp_in_nI (by decide) (by decide)) d_LW_law_909 ?_
    refine W.eq (g2 := F0 m 910 ls [.int (xs 1), .ref h0]) rfl ?_
    refine lv_aload_n hx hb d_LW_law_910 rfl (lv_at hl 4 rfl) ?_
    refine lv_iload hx hb d_LW_law_911 (lv_at hl 0 rfl) ?_
    refine lv_iconst (v := 2) hx hb d_LW_law_913 (by decide) ?_
    refine lv_iadd hx hb d_LW_law_914 ?_
    refine lv_topi (fun v6 ev6 => ?_)
    obtain rfl : v6 = 2 := ev6.trans (by decide)
    refine va_sld hx hb hX hbl hbA hS (show vp_in (nI 2) 6 from vp_in_nI (by decide) (by decide)) d_LW_law_915 ?_
    refine W.eq (g2 := F0 m 916 ls [.int (xs 2), .int (xs 1), .ref h0]) rfl ?_
    refine lv_if_eq (tgt := 923) hx hb d_LW_law_916 (by decide) (fun h9 => absurd h9 (hv)) (fun _ => ?_)
    refine lv_iconst (v := 1) hx hb d_LW_law_919 (by decide) ?_
    refine lv_goto (tgt := 924) hx hb d_LW_law_920 (by decide) ?_
    have hPc := hP.sub (ws' := [(h0, .inr (0, [.ref rq, .ref oa, .ref pl, .ref dk, .ref rw, .int 0, .int 0, .int (-1)]))]) [0] rfl
    have hKc := hK.sub (tys' := []) [] rfl
    have hDc := hD.sub (ws' := [(h0, .inr (0, [.ref rq, .ref oa, .ref pl, .ref dk, .ref rw, .int 0, .int 0, .int (-1)]))]) [0] (by decide) rfl
    have hFc := va_free (wc := [(h0, .inr (0, [.ref rq, .ref oa, .ref pl, .ref dk, .ref rw, .int 0, .int 0, .int (-1)]))]) hD hS hA [0] rfl
    refine fr_call (tw_runSW (As := [.ref h0, .int (xs 1), .int 1]) (rest := []) ⟨hx, hb, hml, hown, ht⟩ (c_LW_seen_bad l dC dI H.size s.heap.size hl9 h0 rq oa pl dk rw ou (xs 1) 1) rfl rfl ⟨Nat.le_of_ble_eq_true rfl, Nat.le_of_ble_eq_true rfl⟩ (pay_in ht (gW tb_577)) (show _ ∈ w_LW_seen from List.mem_cons_self) (ht _ tb_575) (ht _ tb_576) (ht _ tb_0) (n := 3) (by decide +kernel) ⟨frP_blind, fr_pre hPc hKc hDc hAB hBs hS hV⟩ rfl rfl hl.1 rfl (lv_room (Nat.le_of_ble_eq_true rfl)) d_LW_law_924 ⟨Nat.le_of_ble_eq_true rfl, Nat.le_of_ble_eq_true rfl⟩) hS (fun q _ h => hFc q h) hFc (fun t H1 locs ht1 hvm hB1 hz1 hk1 hS => ?_)
    obtain ⟨hP1, hK1, hD1⟩ := hB1
    rw [ht1] at hP1
    have hK1 := va_K.moved hvm.symm hK1
    obtain ⟨hP, hD⟩ := va_join (wr := [(rq, .inl (k1, 40, .inr (.inr (.inr (.inr (fun _ => none)))))), (oa, .inl (k2, 8, .inl (fun _ => 0))), (pl, .inr (1, [.ref q9, .int 0])), (dk, .inr (2, [.ref d1, .ref d2, .ref d3, .ref d4])), (d1, .inl (k3, 24, .inl (fun _ => -1))), (rw, .inr (3, [.ref r1, .int 0, .int 0])), (g0, .inr (5, [.int 0, .int 0, .int (-1), .ref m3, .int 0, .ref m5, .ref m6, .ref m7, .ref m8, .ref m9, .ref m10, .ref m11, .ref m12, .ref m13, .ref m14, .ref m15, .ref m16, .ref m17, .ref m18, .ref m19, .ref m20, .int 0, .ref m22, .ref m23, .ref m24, .ref m25, .ref m26, .ref m27, .int 0, .ref m29])), (m3, .inl (j3, 8, .inl (fun _ => 0))), (m5, .inl (j5, 40, .inl (fun _ => 0))), (m6, .inl (j6, 40, .inl (fun _ => 0))), (m7, .inl (j7, 40, .inl (fun _ => 0))), (m8, .inl (j8, 40, .inl (fun _ => 0))), (m9, .inl (j9, 40, .inl (fun _ => 0))), (m10, .inl (j10, 40, .inl (fun _ => 0))), (ou, .inl (k4, 1, .inr (.inl (fun _ => 0))))]) (w1 := [(h0, .inr (0, [.ref rq, .ref oa, .ref pl, .ref dk, .ref rw, .int 0, .int 0, .int (-1)]))]) hP hD [0] [1, 2, 3, 4, 5, 6, 7, 8, 9, 10, 11, 12, 13, 14, 15] rfl rfl (by decide) (by decide) hk1 hFc hP1 hD1
    have hK := hK.app hK1
    generalize H1 = H at hP hS ⊢
    have hP : va_P (dC, dI) cls_ [(rq, .inl (k1, 40, .inr (.inr (.inr (.inr (fun _ => none)))))), (oa, .inl (k2, 8, .inl (fun _ => 0))), (pl, .inr (1, [.ref q9, .int 0])), (dk, .inr (2, [.ref d1, .ref d2, .ref d3, .ref d4])), (d1, .inl (k3, 24, .inl (fun _ => -1))), (rw, .inr (3, [.ref r1, .int 0, .int 0])), (g0, .inr (5, [.int 0, .int 0, .int (-1), .ref m3, .int 0, .ref m5, .ref m6, .ref m7, .ref m8, .ref m9, .ref m10, .ref m11, .ref m12, .ref m13, .ref m14, .ref m15, .ref m16, .ref m17, .ref m18, .ref m19, .ref m20, .int 0, .ref m22, .ref m23, .ref m24, .ref m25, .ref m26, .ref m27, .int 0, .ref m29])), (m3, .inl (j3, 8, .inl (fun _ => 0))), (m5, .inl (j5, 40, .inl (fun _ => 0))), (m6, .inl (j6, 40, .inl (fun _ => 0))), (m7, .inl (j7, 40, .inl (fun _ => 0))), (m8, .inl (j8, 40, .inl (fun _ => 0))), (m9, .inl (j9, 40, .inl (fun _ => 0))), (m10, .inl (j10, 40, .inl (fun _ => 0))), (ou, .inl (k4, 1, .inr (.inl (fun _ => 0)))), (h0, .inr (0, [.ref rq, .ref oa, .ref pl, .ref dk, .ref rw, .int 0, .int 0, .int (-1)]))] H := hP
    have hD : va_D A [(rq, .inl (k1, 40, .inr (.inr (.inr (.inr (fun _ => none)))))), (oa, .inl (k2, 8, .inl (fun _ => 0))), (pl, .inr (1, [.ref q9, .int 0])), (dk, .inr (2, [.ref d1, .ref d2, .ref d3, .ref d4])), (d1, .inl (k3, 24, .inl (fun _ => -1))), (rw, .inr (3, [.ref r1, .int 0, .int 0])), (g0, .inr (5, [.int 0, .int 0, .int (-1), .ref m3, .int 0, .ref m5, .ref m6, .ref m7, .ref m8, .ref m9, .ref m10, .ref m11, .ref m12, .ref m13, .ref m14, .ref m15, .ref m16, .ref m17, .ref m18, .ref m19, .ref m20, .int 0, .ref m22, .ref m23, .ref m24, .ref m25, .ref m26, .ref m27, .int 0, .ref m29])), (m3, .inl (j3, 8, .inl (fun _ => 0))), (m5, .inl (j5, 40, .inl (fun _ => 0))), (m6, .inl (j6, 40, .inl (fun _ => 0))), (m7, .inl (j7, 40, .inl (fun _ => 0))), (m8, .inl (j8, 40, .inl (fun _ => 0))), (m9, .inl (j9, 40, .inl (fun _ => 0))), (m10, .inl (j10, 40, .inl (fun _ => 0))), (ou, .inl (k4, 1, .inr (.inl (fun _ => 0)))), (h0, .inr (0, [.ref rq, .ref oa, .ref pl, .ref dk, .ref rw, .int 0, .int 0, .int (-1)]))] := hD
    have hK : va_K (dC, dI) cls_ [(k1, .object "TwinTuners$Request"), (k2, .int), (k3, .int), (j3, .int), (j5, .int), (j6, .int), (j7, .int), (j8, .int), (j9, .int), (j10, .int), (k4, .long)] s := hK
    refine W.eq (g2 := F0 m 927 ls [.int 1]) rfl ?_
    refine W.cs (cells' := 39) (slots' := 14130) rfl rfl ?_
    refine lv_istore hx hb d_LW_law_927 hl (by decide) rfl (fun ls hl => ?_)
    have hl : lv_has ls 8 [(5, .int 1), (4, .int 0), (3, .ref ou), (2, .ref g0), (1, .ref h0), (0, .ref b)] := hl
    refine lv_aload_n hx hb d_LW_law_929 rfl (lv_at hl 3 rfl) ?_
    refine lv_aload_n hx hb d_LW_law_930 rfl (lv_at hl 5 rfl) ?_
    refine lv_iload hx hb d_LW_law_931 (lv_at hl 1 rfl) ?_
    refine lv_iconst (v := 1) hx hb d_LW_law_933 (by decide) ?_
    refine lv_iadd hx hb d_LW_law_934 ?_
    refine lv_topi (fun v7 ev7 => ?_)
    obtain rfl : v7 = 1 := ev7.trans (by decide)
    refine va_sld hx hb hX hbl hbA hS (show vp_in (nI 1) 6 from vp_in_nI (by decide) (by decide)) d_LW_law_935 ?_
    refine W.eq (g2 := F0 m 936 ls [.int (xs 1), .ref g0]) rfl ?_
    refine lv_aload_n hx hb d_LW_law_936 rfl (lv_at hl 5 rfl) ?_
    refine lv_iload hx hb d_LW_law_937 (lv_at hl 1 rfl) ?_
    refine lv_iconst (v := 2) hx hb d_LW_law_939 (by decide) ?_
    refine lv_iadd hx hb d_LW_law_940 ?_
    refine lv_topi (fun v8 ev8 => ?_)
    obtain rfl : v8 = 2 := ev8.trans (by decide)
    refine va_sld hx hb hX hbl hbA hS (show vp_in (nI 2) 6 from vp_in_nI (by decide) (by decide)) d_LW_law_941 ?_
    refine W.eq (g2 := F0 m 942 ls [.int (xs 2), .int (xs 1), .ref g0]) rfl ?_
    refine lv_if_eq (tgt := 949) hx hb d_LW_law_942 (by decide) (fun h9 => absurd h9 (hv)) (fun _ => ?_)
    refine lv_iconst (v := 1) hx hb d_LW_law_945 (by decide) ?_
    refine lv_goto (tgt := 950) hx hb d_LW_law_946 (by decide) ?_
    have hPc := hP.sub (ws' := [(g0, .inr (5, [.int 0, .int 0, .int (-1), .ref m3, .int 0, .ref m5, .ref m6, .ref m7, .ref m8, .ref m9, .ref m10, .ref m11, .ref m12, .ref m13, .ref m14, .ref m15, .ref m16, .ref m17, .ref m18, .ref m19, .ref m20, .int 0, .ref m22, .ref m23, .ref m24, .ref m25, .ref m26, .ref m27, .int 0, .ref m29]))]) [6] rfl
    have hKc := hK.sub (tys' := []) [] rfl
    have hDc := hD.sub (ws' := [(g0, .inr (5, [.int 0, .int 0, .int (-1), .ref m3, .int 0, .ref m5, .ref m6, .ref m7, .ref m8, .ref m9, .ref m10, .ref m11, .ref m12, .ref m13, .ref m14, .ref m15, .ref m16, .ref m17, .ref m18, .ref m19, .ref m20, .int 0, .ref m22, .ref m23, .ref m24, .ref m25, .ref m26, .ref m27, .int 0, .ref m29]))]) [6] (by decide) rfl
    have hFc := va_free (wc := [(g0, .inr (5, [.int 0, .int 0, .int (-1), .ref m3, .int 0, .ref m5, .ref m6, .ref m7, .ref m8, .ref m9, .ref m10, .ref m11, .ref m12, .ref m13, .ref m14, .ref m15, .ref m16, .ref m17, .ref m18, .ref m19, .ref m20, .int 0, .ref m22, .ref m23, .ref m24, .ref m25, .ref m26, .ref m27, .int 0, .ref m29]))]) hD hS hA [6] rfl
    refine fr_call (va_runV (C := R_MO) (As := [.int (xs 1), .int 1]) (rest := []) ⟨hx, hb, hml, hown, ht⟩ (c_MO_seen_bad l dC dI H.size s.heap.size g0 m3 m5 m6 m7 m8 m9 m10 m11 m12 m13 m14 m15 m16 m17 m18 m19 m20 m22 m23 m24 m25 m26 m27 m29 (xs 1) 1) (cwV 2 ht (gV tb_890 tb_891 tb_892 tb_5 tb_893) rfl rfl rfl (by decide +kernel) ⟨Nat.le_of_ble_eq_true rfl, Nat.le_of_ble_eq_true rfl⟩) ⟨frP_blind, va_recv (q := (R_MO, F_MO, 30)) hK hP rfl (show ([(rq, .inl (k1, 40, .inr (.inr (.inr (.inr (fun _ => none)))))), (oa, .inl (k2, 8, .inl (fun _ => 0))), (pl, .inr (1, [.ref q9, .int 0])), (dk, .inr (2, [.ref d1, .ref d2, .ref d3, .ref d4])), (d1, .inl (k3, 24, .inl (fun _ => -1))), (rw, .inr (3, [.ref r1, .int 0, .int 0])), (g0, .inr (5, [.int 0, .int 0, .int (-1), .ref m3, .int 0, .ref m5, .ref m6, .ref m7, .ref m8, .ref m9, .ref m10, .ref m11, .ref m12, .ref m13, .ref m14, .ref m15, .ref m16, .ref m17, .ref m18, .ref m19, .ref m20, .int 0, .ref m22, .ref m23, .ref m24, .ref m25, .ref m26, .ref m27, .int 0, .ref m29])), (m3, .inl (j3, 8, .inl (fun _ => 0))), (m5, .inl (j5, 40, .inl (fun _ => 0))), (m6, .inl (j6, 40, .inl (fun _ => 0))), (m7, .inl (j7, 40, .inl (fun _ => 0))), (m8, .inl (j8, 40, .inl (fun _ => 0))), (m9, .inl (j9, 40, .inl (fun _ => 0))), (m10, .inl (j10, 40, .inl (fun _ => 0))), (ou, .inl (k4, 1, .inr (.inl (fun _ => 0)))), (h0, .inr (0, [.ref rq, .ref oa, .ref pl, .ref dk, .ref rw, .int 0, .int 0, .int (-1)]))] : va_W)[6]? = some (g0, .inr (5, [.int 0, .int 0, .int (-1), .ref m3, .int 0, .ref m5, .ref m6, .ref m7, .ref m8, .ref m9, .ref m10, .ref m11, .ref m12, .ref m13, .ref m14, .ref m15, .ref m16, .ref m17, .ref m18, .ref m19, .ref m20, .int 0, .ref m22, .ref m23, .ref m24, .ref m25, .ref m26, .ref m27, .int 0, .ref m29])) from rfl), fr_pre hPc hKc hDc hAB hBs hS hV⟩ rfl rfl hl.1 rfl (lv_room (Nat.le_of_ble_eq_true rfl)) d_LW_law_950 ⟨Nat.le_of_ble_eq_true rfl, Nat.le_of_ble_eq_true rfl⟩) hS (fun q _ h => hFc q h) hFc (fun t H1 locs ht1 hvm hB1 hz1 hk1 hS => ?_)
    obtain ⟨hP1, hK1, hD1⟩ := hB1
    rw [ht1] at hP1
    have hK1 := va_K.moved hvm.symm hK1
    obtain ⟨hP, hD⟩ := va_join (wr := [(rq, .inl (k1, 40, .inr (.inr (.inr (.inr (fun _ => none)))))), (oa, .inl (k2, 8, .inl (fun _ => 0))), (pl, .inr (1, [.ref q9, .int 0])), (dk, .inr (2, [.ref d1, .ref d2, .ref d3, .ref d4])), (d1, .inl (k3, 24, .inl (fun _ => -1))), (rw, .inr (3, [.ref r1, .int 0, .int 0])), (m3, .inl (j3, 8, .inl (fun _ => 0))), (m5, .inl (j5, 40, .inl (fun _ => 0))), (m6, .inl (j6, 40, .inl (fun _ => 0))), (m7, .inl (j7, 40, .inl (fun _ => 0))), (m8, .inl (j8, 40, .inl (fun _ => 0))), (m9, .inl (j9, 40, .inl (fun _ => 0))), (m10, .inl (j10, 40, .inl (fun _ => 0))), (ou, .inl (k4, 1, .inr (.inl (fun _ => 0)))), (h0, .inr (0, [.ref rq, .ref oa, .ref pl, .ref dk, .ref rw, .int 0, .int 0, .int (-1)]))]) (w1 := [(g0, .inr (5, [.int 1, .int 0, .int (-1), .ref m3, .int 0, .ref m5, .ref m6, .ref m7, .ref m8, .ref m9, .ref m10, .ref m11, .ref m12, .ref m13, .ref m14, .ref m15, .ref m16, .ref m17, .ref m18, .ref m19, .ref m20, .int 0, .ref m22, .ref m23, .ref m24, .ref m25, .ref m26, .ref m27, .int 0, .ref m29]))]) hP hD [6] [0, 1, 2, 3, 4, 5, 7, 8, 9, 10, 11, 12, 13, 14, 15] rfl rfl (by decide) (by decide) hk1 hFc hP1 hD1
    have hK := hK.app hK1
    generalize H1 = H at hP hS ⊢
    have hP : va_P (dC, dI) cls_ [(rq, .inl (k1, 40, .inr (.inr (.inr (.inr (fun _ => none)))))), (oa, .inl (k2, 8, .inl (fun _ => 0))), (pl, .inr (1, [.ref q9, .int 0])), (dk, .inr (2, [.ref d1, .ref d2, .ref d3, .ref d4])), (d1, .inl (k3, 24, .inl (fun _ => -1))), (rw, .inr (3, [.ref r1, .int 0, .int 0])), (m3, .inl (j3, 8, .inl (fun _ => 0))), (m5, .inl (j5, 40, .inl (fun _ => 0))), (m6, .inl (j6, 40, .inl (fun _ => 0))), (m7, .inl (j7, 40, .inl (fun _ => 0))), (m8, .inl (j8, 40, .inl (fun _ => 0))), (m9, .inl (j9, 40, .inl (fun _ => 0))), (m10, .inl (j10, 40, .inl (fun _ => 0))), (ou, .inl (k4, 1, .inr (.inl (fun _ => 0)))), (h0, .inr (0, [.ref rq, .ref oa, .ref pl, .ref dk, .ref rw, .int 0, .int 0, .int (-1)])), (g0, .inr (5, [.int 1, .int 0, .int (-1), .ref m3, .int 0, .ref m5, .ref m6, .ref m7, .ref m8, .ref m9, .ref m10, .ref m11, .ref m12, .ref m13, .ref m14, .ref m15, .ref m16, .ref m17, .ref m18, .ref m19, .ref m20, .int 0, .ref m22, .ref m23, .ref m24, .ref m25, .ref m26, .ref m27, .int 0, .ref m29]))] H := hP
    have hD : va_D A [(rq, .inl (k1, 40, .inr (.inr (.inr (.inr (fun _ => none)))))), (oa, .inl (k2, 8, .inl (fun _ => 0))), (pl, .inr (1, [.ref q9, .int 0])), (dk, .inr (2, [.ref d1, .ref d2, .ref d3, .ref d4])), (d1, .inl (k3, 24, .inl (fun _ => -1))), (rw, .inr (3, [.ref r1, .int 0, .int 0])), (m3, .inl (j3, 8, .inl (fun _ => 0))), (m5, .inl (j5, 40, .inl (fun _ => 0))), (m6, .inl (j6, 40, .inl (fun _ => 0))), (m7, .inl (j7, 40, .inl (fun _ => 0))), (m8, .inl (j8, 40, .inl (fun _ => 0))), (m9, .inl (j9, 40, .inl (fun _ => 0))), (m10, .inl (j10, 40, .inl (fun _ => 0))), (ou, .inl (k4, 1, .inr (.inl (fun _ => 0)))), (h0, .inr (0, [.ref rq, .ref oa, .ref pl, .ref dk, .ref rw, .int 0, .int 0, .int (-1)])), (g0, .inr (5, [.int 1, .int 0, .int (-1), .ref m3, .int 0, .ref m5, .ref m6, .ref m7, .ref m8, .ref m9, .ref m10, .ref m11, .ref m12, .ref m13, .ref m14, .ref m15, .ref m16, .ref m17, .ref m18, .ref m19, .ref m20, .int 0, .ref m22, .ref m23, .ref m24, .ref m25, .ref m26, .ref m27, .int 0, .ref m29]))] := hD
    have hK : va_K (dC, dI) cls_ [(k1, .object "TwinTuners$Request"), (k2, .int), (k3, .int), (j3, .int), (j5, .int), (j6, .int), (j7, .int), (j8, .int), (j9, .int), (j10, .int), (k4, .long)] s := hK
    refine W.eq (g2 := F0 m 953 ls []) rfl ?_
    refine W.cs (cells' := 39) (slots' := 14130) rfl rfl ?_
    refine lv_aload_n hx hb d_LW_law_953 rfl (lv_at hl 3 rfl) ?_
    have hPc := hP.sub (ws' := [(g0, .inr (5, [.int 1, .int 0, .int (-1), .ref m3, .int 0, .ref m5, .ref m6, .ref m7, .ref m8, .ref m9, .ref m10, .ref m11, .ref m12, .ref m13, .ref m14, .ref m15, .ref m16, .ref m17, .ref m18, .ref m19, .ref m20, .int 0, .ref m22, .ref m23, .ref m24, .ref m25, .ref m26, .ref m27, .int 0, .ref m29]))]) [15] rfl
    have hKc := hK.sub (tys' := []) [] rfl
    refine rd_call (va_runV (C := R_MO) (As := []) (rest := []) ⟨hx, hb, hml, hown, ht⟩ (c_MO_thrown_v l dC dI g0 m3 m5 m6 m7 m8 m9 m10 m11 m12 m13 m14 m15 m16 m17 m18 m19 m20 m22 m23 m24 m25 m26 m27 m29 1 0 (-1) 0) (cwV 0 ht (gV tb_723 tb_724 tb_725 tb_5 tb_726) rfl rfl rfl (by decide +kernel) ⟨Nat.le_of_ble_eq_true rfl, Nat.le_of_ble_eq_true rfl⟩) ⟨rdP_blind, va_recv (q := (R_MO, F_MO, 30)) hK hP rfl (show ([(rq, .inl (k1, 40, .inr (.inr (.inr (.inr (fun _ => none)))))), (oa, .inl (k2, 8, .inl (fun _ => 0))), (pl, .inr (1, [.ref q9, .int 0])), (dk, .inr (2, [.ref d1, .ref d2, .ref d3, .ref d4])), (d1, .inl (k3, 24, .inl (fun _ => -1))), (rw, .inr (3, [.ref r1, .int 0, .int 0])), (m3, .inl (j3, 8, .inl (fun _ => 0))), (m5, .inl (j5, 40, .inl (fun _ => 0))), (m6, .inl (j6, 40, .inl (fun _ => 0))), (m7, .inl (j7, 40, .inl (fun _ => 0))), (m8, .inl (j8, 40, .inl (fun _ => 0))), (m9, .inl (j9, 40, .inl (fun _ => 0))), (m10, .inl (j10, 40, .inl (fun _ => 0))), (ou, .inl (k4, 1, .inr (.inl (fun _ => 0)))), (h0, .inr (0, [.ref rq, .ref oa, .ref pl, .ref dk, .ref rw, .int 0, .int 0, .int (-1)])), (g0, .inr (5, [.int 1, .int 0, .int (-1), .ref m3, .int 0, .ref m5, .ref m6, .ref m7, .ref m8, .ref m9, .ref m10, .ref m11, .ref m12, .ref m13, .ref m14, .ref m15, .ref m16, .ref m17, .ref m18, .ref m19, .ref m20, .int 0, .ref m22, .ref m23, .ref m24, .ref m25, .ref m26, .ref m27, .int 0, .ref m29]))] : va_W)[15]? = some (g0, .inr (5, [.int 1, .int 0, .int (-1), .ref m3, .int 0, .ref m5, .ref m6, .ref m7, .ref m8, .ref m9, .ref m10, .ref m11, .ref m12, .ref m13, .ref m14, .ref m15, .ref m16, .ref m17, .ref m18, .ref m19, .ref m20, .int 0, .ref m22, .ref m23, .ref m24, .ref m25, .ref m26, .ref m27, .int 0, .ref m29])) from rfl), rd_pre hPc hKc⟩ rfl rfl hl.1 rfl (lv_room (Nat.le_of_ble_eq_true rfl)) d_LW_law_954 ⟨Nat.le_of_ble_eq_true rfl, Nat.le_of_ble_eq_true rfl⟩) ?_
    refine W.eq (g2 := F0 m 957 ls [.int 1]) rfl ?_
    refine lv_iload hx hb d_LW_law_957 (lv_at hl 0 rfl) ?_
    refine lv_icmp_eq (tgt := 964) hx hb d_LW_law_959 (by decide) (fun _ => ?_) (fun h9 => absurd (rfl) h9)
    refine lv_goto (tgt := 1228) hx hb d_LW_law_964 (by decide) ?_
    have hl := lv_sub hl [1, 5] (l' := [(4, .int 0), (0, .ref b)]) rfl
    exact tl_end hx hb hr hlocks hbl hbA hAB hX (Nat.le_of_ble_eq_true rfl) (Nat.le_of_ble_eq_true rfl) hS hl
set_option maxHeartbeats 4000000 in
set_option maxRecDepth 100000 in
theorem cs_5 {p : Program} {l : Launch} {e : Env} {s : State} {m : MethodId} {below : List Frame} {meth : Method} {c : Code} {A : Nat → Prop} {b : Nat} {H : Heap} {locs : List Loc} {ls : Array Slot} {xs : Nat → Int32} (dC : Nat → ClassId) (dI : Nat → Nat → Nat) (h0 rq oa pl dk rw q9 d1 d2 d3 d4 r1 g0 m3 m5 m6 m7 m8 m9 m10 m11 m12 m13 m14 m15 m16 m17 m18 m19 m20 m22 m23 m24 m25 m26 m27 m29 ou : Nat) (k1 k2 k3 j3 j5 j6 j7 j8 j9 j10 k4 : ClassId) (hl9 : l.stackTraces = false) (hx : p.tables.exec = Jvm.exec) (hb : c.code = code) (hr : meth.sig.returnType = ret) (hlocks : meth.locks = false) (hbl : b < s.heap.size) (hbA : ¬ A b) (hAB : ∀ q, A q → s.heap.size ≤ q) (hX : va_X b 6 xs s s.heap) (hml : c.maxLocals = 8) (hown : s.vm.findClass R_LW = some m.cls) (ht : ∀ w ∈ tb_, w.before #[Value.ref b] s = true) (hA : ∀ q : Nat, s.heap.size ≤ q → A q) (hBs : s.heap.size ≤ s.heap.size) (hV : tw_V s.heap.size s s.heap)
    (hK : va_K (dC, dI) cls_ [(k1, .object "TwinTuners$Request"), (k2, .int), (k3, .int), (j3, .int), (j5, .int), (j6, .int), (j7, .int), (j8, .int), (j9, .int), (j10, .int), (k4, .long)] s) (hP : va_P (dC, dI) cls_ [(h0, .inr (0, [.ref rq, .ref oa, .ref pl, .ref dk, .ref rw, .int 0, .int 0, .int (-1)])), (rq, .inl (k1, 40, .inr (.inr (.inr (.inr (fun _ => none)))))), (oa, .inl (k2, 8, .inl (fun _ => 0))), (pl, .inr (1, [.ref q9, .int 0])), (dk, .inr (2, [.ref d1, .ref d2, .ref d3, .ref d4])), (d1, .inl (k3, 24, .inl (fun _ => -1))), (rw, .inr (3, [.ref r1, .int 0, .int 0])), (g0, .inr (5, [.int 0, .int 0, .int (-1), .ref m3, .int 0, .ref m5, .ref m6, .ref m7, .ref m8, .ref m9, .ref m10, .ref m11, .ref m12, .ref m13, .ref m14, .ref m15, .ref m16, .ref m17, .ref m18, .ref m19, .ref m20, .int 0, .ref m22, .ref m23, .ref m24, .ref m25, .ref m26, .ref m27, .int 0, .ref m29])), (m3, .inl (j3, 8, .inl (fun _ => 0))), (m5, .inl (j5, 40, .inl (fun _ => 0))), (m6, .inl (j6, 40, .inl (fun _ => 0))), (m7, .inl (j7, 40, .inl (fun _ => 0))), (m8, .inl (j8, 40, .inl (fun _ => 0))), (m9, .inl (j9, 40, .inl (fun _ => 0))), (m10, .inl (j10, 40, .inl (fun _ => 0))), (ou, .inl (k4, 1, .inr (.inl (fun _ => 0))))] H) (hD : va_D A [(h0, .inr (0, [.ref rq, .ref oa, .ref pl, .ref dk, .ref rw, .int 0, .int 0, .int (-1)])), (rq, .inl (k1, 40, .inr (.inr (.inr (.inr (fun _ => none)))))), (oa, .inl (k2, 8, .inl (fun _ => 0))), (pl, .inr (1, [.ref q9, .int 0])), (dk, .inr (2, [.ref d1, .ref d2, .ref d3, .ref d4])), (d1, .inl (k3, 24, .inl (fun _ => -1))), (rw, .inr (3, [.ref r1, .int 0, .int 0])), (g0, .inr (5, [.int 0, .int 0, .int (-1), .ref m3, .int 0, .ref m5, .ref m6, .ref m7, .ref m8, .ref m9, .ref m10, .ref m11, .ref m12, .ref m13, .ref m14, .ref m15, .ref m16, .ref m17, .ref m18, .ref m19, .ref m20, .int 0, .ref m22, .ref m23, .ref m24, .ref m25, .ref m26, .ref m27, .int 0, .ref m29])), (m3, .inl (j3, 8, .inl (fun _ => 0))), (m5, .inl (j5, 40, .inl (fun _ => 0))), (m6, .inl (j6, 40, .inl (fun _ => 0))), (m7, .inl (j7, 40, .inl (fun _ => 0))), (m8, .inl (j8, 40, .inl (fun _ => 0))), (m9, .inl (j9, 40, .inl (fun _ => 0))), (m10, .inl (j10, 40, .inl (fun _ => 0))), (ou, .inl (k4, 1, .inr (.inl (fun _ => 0))))]) (hS : va_S A s.heap H locs) (hl : lv_has ls 8 [(4, .int 0), (3, .ref ou), (2, .ref g0), (1, .ref h0), (0, .ref b)]) : W p l e room_1 s m #[Value.ref b] below meth c H locs 38 14124 (lw_Z below #[Value.ref b] s) (F0 m 448 ls []) := by
  by_cases hv : 0 ≤ xs 1 ∧ xs 1 ≤ 7
  · refine lv_aload_n hx hb d_LW_law_448 rfl (lv_at hl 3 rfl) ?_
    refine lv_aload_n hx hb d_LW_law_449 rfl (lv_at hl 4 rfl) ?_
    refine lv_iload hx hb d_LW_law_450 (lv_at hl 0 rfl) ?_
    refine lv_iconst (v := 1) hx hb d_LW_law_452 (by decide) ?_
    refine lv_iadd hx hb d_LW_law_453 ?_
    refine lv_topi (fun v1 ev1 => ?_)
    obtain rfl : v1 = 1 := ev1.trans (by decide)
    refine va_sld hx hb hX hbl hbA hS (show vp_in (nI 1) 6 from vp_in_nI (by decide) (by decide)) d_LW_law_454 ?_
    refine W.eq (g2 := F0 m 455 ls [.int (xs 1), .ref h0]) rfl ?_
    refine lv_aload_n hx hb d_LW_law_455 rfl (lv_at hl 4 rfl) ?_
    refine lv_iload hx hb d_LW_law_456 (lv_at hl 0 rfl) ?_
    refine lv_iconst (v := 2) hx hb d_LW_law_458 (by decide) ?_
    refine lv_iadd hx hb d_LW_law_459 ?_
    refine lv_topi (fun v2 ev2 => ?_)
    obtain rfl : v2 = 2 := ev2.trans (by decide)
    refine va_sld hx hb hX hbl hbA hS (show vp_in (nI 2) 6 from vp_in_nI (by decide) (by decide)) d_LW_law_460 ?_
    refine W.eq (g2 := F0 m 461 ls [.int (xs 2), .int (xs 1), .ref h0]) rfl ?_
    have hPc := hP.sub (ws' := [(h0, .inr (0, [.ref rq, .ref oa, .ref pl, .ref dk, .ref rw, .int 0, .int 0, .int (-1)])), (oa, .inl (k2, 8, .inl (fun _ => 0)))]) [0, 2] rfl
    have hKc := hK.sub (tys' := [(k2, .int)]) [1] rfl
    have hDc := hD.sub (ws' := [(h0, .inr (0, [.ref rq, .ref oa, .ref pl, .ref dk, .ref rw, .int 0, .int 0, .int (-1)])), (oa, .inl (k2, 8, .inl (fun _ => 0)))]) [0, 2] (by decide) rfl
    have hFc := va_free (wc := [(h0, .inr (0, [.ref rq, .ref oa, .ref pl, .ref dk, .ref rw, .int 0, .int 0, .int (-1)])), (oa, .inl (k2, 8, .inl (fun _ => 0)))]) hD hS hA [0, 2] rfl
    refine fr_call (tw_runSW (As := [.ref h0, .int (xs 1), .int (xs 2)]) (rest := []) ⟨hx, hb, hml, hown, ht⟩ (c_LW_air_good l dC dI H.size s.heap.size h0 rq oa pl dk rw k2 (xs 1) (xs 2) hv) rfl rfl ⟨Nat.le_of_ble_eq_true rfl, Nat.le_of_ble_eq_true rfl⟩ (pay_in ht (gW tb_505)) (show _ ∈ w_LW_air from List.mem_cons_self) (ht _ tb_503) (ht _ tb_504) (ht _ tb_0) (n := 3) (by decide +kernel) ⟨frP_blind, fr_pre hPc hKc hDc hAB hBs hS hV⟩ rfl rfl hl.1 rfl (lv_room (Nat.le_of_ble_eq_true rfl)) d_LW_law_461 ⟨Nat.le_of_ble_eq_true rfl, Nat.le_of_ble_eq_true rfl⟩) hS (fun q _ h => hFc q h) hFc (fun t H1 locs ht1 hvm hB1 hz1 hk1 hS => ?_)
    obtain ⟨hP1, hK1, hD1⟩ := hB1
    rw [ht1] at hP1
    have hK1 := va_K.moved hvm.symm hK1
    obtain ⟨hP, hD⟩ := va_join (wr := [(rq, .inl (k1, 40, .inr (.inr (.inr (.inr (fun _ => none)))))), (pl, .inr (1, [.ref q9, .int 0])), (dk, .inr (2, [.ref d1, .ref d2, .ref d3, .ref d4])), (d1, .inl (k3, 24, .inl (fun _ => -1))), (rw, .inr (3, [.ref r1, .int 0, .int 0])), (g0, .inr (5, [.int 0, .int 0, .int (-1), .ref m3, .int 0, .ref m5, .ref m6, .ref m7, .ref m8, .ref m9, .ref m10, .ref m11, .ref m12, .ref m13, .ref m14, .ref m15, .ref m16, .ref m17, .ref m18, .ref m19, .ref m20, .int 0, .ref m22, .ref m23, .ref m24, .ref m25, .ref m26, .ref m27, .int 0, .ref m29])), (m3, .inl (j3, 8, .inl (fun _ => 0))), (m5, .inl (j5, 40, .inl (fun _ => 0))), (m6, .inl (j6, 40, .inl (fun _ => 0))), (m7, .inl (j7, 40, .inl (fun _ => 0))), (m8, .inl (j8, 40, .inl (fun _ => 0))), (m9, .inl (j9, 40, .inl (fun _ => 0))), (m10, .inl (j10, 40, .inl (fun _ => 0))), (ou, .inl (k4, 1, .inr (.inl (fun _ => 0))))]) (w1 := []) hP hD [0, 2] [1, 3, 4, 5, 6, 7, 8, 9, 10, 11, 12, 13, 14, 15] rfl rfl (by decide) (by decide) hk1 hFc hP1 hD1
    have hK := hK.app hK1
    generalize H1 = H at hP hS ⊢
    have hP : va_P (dC, dI) cls_ [(rq, .inl (k1, 40, .inr (.inr (.inr (.inr (fun _ => none)))))), (pl, .inr (1, [.ref q9, .int 0])), (dk, .inr (2, [.ref d1, .ref d2, .ref d3, .ref d4])), (d1, .inl (k3, 24, .inl (fun _ => -1))), (rw, .inr (3, [.ref r1, .int 0, .int 0])), (g0, .inr (5, [.int 0, .int 0, .int (-1), .ref m3, .int 0, .ref m5, .ref m6, .ref m7, .ref m8, .ref m9, .ref m10, .ref m11, .ref m12, .ref m13, .ref m14, .ref m15, .ref m16, .ref m17, .ref m18, .ref m19, .ref m20, .int 0, .ref m22, .ref m23, .ref m24, .ref m25, .ref m26, .ref m27, .int 0, .ref m29])), (m3, .inl (j3, 8, .inl (fun _ => 0))), (m5, .inl (j5, 40, .inl (fun _ => 0))), (m6, .inl (j6, 40, .inl (fun _ => 0))), (m7, .inl (j7, 40, .inl (fun _ => 0))), (m8, .inl (j8, 40, .inl (fun _ => 0))), (m9, .inl (j9, 40, .inl (fun _ => 0))), (m10, .inl (j10, 40, .inl (fun _ => 0))), (ou, .inl (k4, 1, .inr (.inl (fun _ => 0))))] H := hP
    have hD : va_D A [(rq, .inl (k1, 40, .inr (.inr (.inr (.inr (fun _ => none)))))), (pl, .inr (1, [.ref q9, .int 0])), (dk, .inr (2, [.ref d1, .ref d2, .ref d3, .ref d4])), (d1, .inl (k3, 24, .inl (fun _ => -1))), (rw, .inr (3, [.ref r1, .int 0, .int 0])), (g0, .inr (5, [.int 0, .int 0, .int (-1), .ref m3, .int 0, .ref m5, .ref m6, .ref m7, .ref m8, .ref m9, .ref m10, .ref m11, .ref m12, .ref m13, .ref m14, .ref m15, .ref m16, .ref m17, .ref m18, .ref m19, .ref m20, .int 0, .ref m22, .ref m23, .ref m24, .ref m25, .ref m26, .ref m27, .int 0, .ref m29])), (m3, .inl (j3, 8, .inl (fun _ => 0))), (m5, .inl (j5, 40, .inl (fun _ => 0))), (m6, .inl (j6, 40, .inl (fun _ => 0))), (m7, .inl (j7, 40, .inl (fun _ => 0))), (m8, .inl (j8, 40, .inl (fun _ => 0))), (m9, .inl (j9, 40, .inl (fun _ => 0))), (m10, .inl (j10, 40, .inl (fun _ => 0))), (ou, .inl (k4, 1, .inr (.inl (fun _ => 0))))] := hD
    have hK : va_K (dC, dI) cls_ [(k1, .object "TwinTuners$Request"), (k2, .int), (k3, .int), (j3, .int), (j5, .int), (j6, .int), (j7, .int), (j8, .int), (j9, .int), (j10, .int), (k4, .long)] s := hK
    refine W.eq (g2 := F0 m 464 ls [.int 0]) rfl ?_
    refine W.cs (cells' := 38) (slots' := 14124) rfl rfl ?_
    refine lv_istore hx hb d_LW_law_464 hl (by decide) rfl (fun ls hl => ?_)
    have hl : lv_has ls 8 [(5, .int 0), (4, .int 0), (3, .ref ou), (2, .ref g0), (1, .ref h0), (0, .ref b)] := hl
    refine lv_aload_n hx hb d_LW_law_466 rfl (lv_at hl 3 rfl) ?_
    refine lv_aload_n hx hb d_LW_law_467 rfl (lv_at hl 5 rfl) ?_
    refine lv_iload hx hb d_LW_law_468 (lv_at hl 1 rfl) ?_
    refine lv_iconst (v := 1) hx hb d_LW_law_470 (by decide) ?_
    refine lv_iadd hx hb d_LW_law_471 ?_
    refine lv_topi (fun v3 ev3 => ?_)
    obtain rfl : v3 = 1 := ev3.trans (by decide)
    refine va_sld hx hb hX hbl hbA hS (show vp_in (nI 1) 6 from vp_in_nI (by decide) (by decide)) d_LW_law_472 ?_
    refine W.eq (g2 := F0 m 473 ls [.int (xs 1), .ref g0]) rfl ?_
    refine lv_aload_n hx hb d_LW_law_473 rfl (lv_at hl 5 rfl) ?_
    refine lv_iload hx hb d_LW_law_474 (lv_at hl 1 rfl) ?_
    refine lv_iconst (v := 2) hx hb d_LW_law_476 (by decide) ?_
    refine lv_iadd hx hb d_LW_law_477 ?_
    refine lv_topi (fun v4 ev4 => ?_)
    obtain rfl : v4 = 2 := ev4.trans (by decide)
    refine va_sld hx hb hX hbl hbA hS (show vp_in (nI 2) 6 from vp_in_nI (by decide) (by decide)) d_LW_law_478 ?_
    refine W.eq (g2 := F0 m 479 ls [.int (xs 2), .int (xs 1), .ref g0]) rfl ?_
    have hPc := hP.sub (ws' := [(g0, .inr (5, [.int 0, .int 0, .int (-1), .ref m3, .int 0, .ref m5, .ref m6, .ref m7, .ref m8, .ref m9, .ref m10, .ref m11, .ref m12, .ref m13, .ref m14, .ref m15, .ref m16, .ref m17, .ref m18, .ref m19, .ref m20, .int 0, .ref m22, .ref m23, .ref m24, .ref m25, .ref m26, .ref m27, .int 0, .ref m29])), (m3, .inl (j3, 8, .inl (fun _ => 0)))]) [5, 6] rfl
    have hKc := hK.sub (tys' := [(j3, .int)]) [3] rfl
    have hDc := hD.sub (ws' := [(g0, .inr (5, [.int 0, .int 0, .int (-1), .ref m3, .int 0, .ref m5, .ref m6, .ref m7, .ref m8, .ref m9, .ref m10, .ref m11, .ref m12, .ref m13, .ref m14, .ref m15, .ref m16, .ref m17, .ref m18, .ref m19, .ref m20, .int 0, .ref m22, .ref m23, .ref m24, .ref m25, .ref m26, .ref m27, .int 0, .ref m29])), (m3, .inl (j3, 8, .inl (fun _ => 0)))]) [5, 6] (by decide) rfl
    have hFc := va_free (wc := [(g0, .inr (5, [.int 0, .int 0, .int (-1), .ref m3, .int 0, .ref m5, .ref m6, .ref m7, .ref m8, .ref m9, .ref m10, .ref m11, .ref m12, .ref m13, .ref m14, .ref m15, .ref m16, .ref m17, .ref m18, .ref m19, .ref m20, .int 0, .ref m22, .ref m23, .ref m24, .ref m25, .ref m26, .ref m27, .int 0, .ref m29])), (m3, .inl (j3, 8, .inl (fun _ => 0)))]) hD hS hA [5, 6] rfl
    refine fr_call (va_runV (C := R_MO) (As := [.int (xs 1), .int (xs 2)]) (rest := []) ⟨hx, hb, hml, hown, ht⟩ (c_MO_air_ok l dC dI H.size s.heap.size g0 m3 m5 m6 m7 m8 m9 m10 m11 m12 m13 m14 m15 m16 m17 m18 m19 m20 m22 m23 m24 m25 m26 m27 m29 j3 (xs 1) (xs 2) hv) (cwV 2 ht (gV tb_800 tb_801 tb_802 tb_5 tb_803) rfl rfl rfl (by decide +kernel) ⟨Nat.le_of_ble_eq_true rfl, Nat.le_of_ble_eq_true rfl⟩) ⟨frP_blind, va_recv (q := (R_MO, F_MO, 30)) hK hP rfl (show ([(rq, .inl (k1, 40, .inr (.inr (.inr (.inr (fun _ => none)))))), (pl, .inr (1, [.ref q9, .int 0])), (dk, .inr (2, [.ref d1, .ref d2, .ref d3, .ref d4])), (d1, .inl (k3, 24, .inl (fun _ => -1))), (rw, .inr (3, [.ref r1, .int 0, .int 0])), (g0, .inr (5, [.int 0, .int 0, .int (-1), .ref m3, .int 0, .ref m5, .ref m6, .ref m7, .ref m8, .ref m9, .ref m10, .ref m11, .ref m12, .ref m13, .ref m14, .ref m15, .ref m16, .ref m17, .ref m18, .ref m19, .ref m20, .int 0, .ref m22, .ref m23, .ref m24, .ref m25, .ref m26, .ref m27, .int 0, .ref m29])), (m3, .inl (j3, 8, .inl (fun _ => 0))), (m5, .inl (j5, 40, .inl (fun _ => 0))), (m6, .inl (j6, 40, .inl (fun _ => 0))), (m7, .inl (j7, 40, .inl (fun _ => 0))), (m8, .inl (j8, 40, .inl (fun _ => 0))), (m9, .inl (j9, 40, .inl (fun _ => 0))), (m10, .inl (j10, 40, .inl (fun _ => 0))), (ou, .inl (k4, 1, .inr (.inl (fun _ => 0))))] : va_W)[5]? = some (g0, .inr (5, [.int 0, .int 0, .int (-1), .ref m3, .int 0, .ref m5, .ref m6, .ref m7, .ref m8, .ref m9, .ref m10, .ref m11, .ref m12, .ref m13, .ref m14, .ref m15, .ref m16, .ref m17, .ref m18, .ref m19, .ref m20, .int 0, .ref m22, .ref m23, .ref m24, .ref m25, .ref m26, .ref m27, .int 0, .ref m29])) from rfl), fr_pre hPc hKc hDc hAB hBs hS hV⟩ rfl rfl hl.1 rfl (lv_room (Nat.le_of_ble_eq_true rfl)) d_LW_law_479 ⟨Nat.le_of_ble_eq_true rfl, Nat.le_of_ble_eq_true rfl⟩) hS (fun q _ h => hFc q h) hFc (fun t H1 locs ht1 hvm hB1 hz1 hk1 hS => ?_)
    obtain ⟨hP1, hK1, hD1⟩ := hB1
    rw [ht1] at hP1
    have hK1 := va_K.moved hvm.symm hK1
    obtain ⟨hP, hD⟩ := va_join (wr := [(rq, .inl (k1, 40, .inr (.inr (.inr (.inr (fun _ => none)))))), (pl, .inr (1, [.ref q9, .int 0])), (dk, .inr (2, [.ref d1, .ref d2, .ref d3, .ref d4])), (d1, .inl (k3, 24, .inl (fun _ => -1))), (rw, .inr (3, [.ref r1, .int 0, .int 0])), (m5, .inl (j5, 40, .inl (fun _ => 0))), (m6, .inl (j6, 40, .inl (fun _ => 0))), (m7, .inl (j7, 40, .inl (fun _ => 0))), (m8, .inl (j8, 40, .inl (fun _ => 0))), (m9, .inl (j9, 40, .inl (fun _ => 0))), (m10, .inl (j10, 40, .inl (fun _ => 0))), (ou, .inl (k4, 1, .inr (.inl (fun _ => 0))))]) (w1 := [(g0, .inr (5, [.int 0, .int 0, .int (-1), .ref m3, .int 0, .ref m5, .ref m6, .ref m7, .ref m8, .ref m9, .ref m10, .ref m11, .ref m12, .ref m13, .ref m14, .ref m15, .ref m16, .ref m17, .ref m18, .ref m19, .ref m20, .int 0, .ref m22, .ref m23, .ref m24, .ref m25, .ref m26, .ref m27, .int 0, .ref m29]))]) hP hD [5, 6] [0, 1, 2, 3, 4, 7, 8, 9, 10, 11, 12, 13] rfl rfl (by decide) (by decide) hk1 hFc hP1 hD1
    have hK := hK.app hK1
    generalize H1 = H at hP hS ⊢
    have hP : va_P (dC, dI) cls_ [(rq, .inl (k1, 40, .inr (.inr (.inr (.inr (fun _ => none)))))), (pl, .inr (1, [.ref q9, .int 0])), (dk, .inr (2, [.ref d1, .ref d2, .ref d3, .ref d4])), (d1, .inl (k3, 24, .inl (fun _ => -1))), (rw, .inr (3, [.ref r1, .int 0, .int 0])), (m5, .inl (j5, 40, .inl (fun _ => 0))), (m6, .inl (j6, 40, .inl (fun _ => 0))), (m7, .inl (j7, 40, .inl (fun _ => 0))), (m8, .inl (j8, 40, .inl (fun _ => 0))), (m9, .inl (j9, 40, .inl (fun _ => 0))), (m10, .inl (j10, 40, .inl (fun _ => 0))), (ou, .inl (k4, 1, .inr (.inl (fun _ => 0)))), (g0, .inr (5, [.int 0, .int 0, .int (-1), .ref m3, .int 0, .ref m5, .ref m6, .ref m7, .ref m8, .ref m9, .ref m10, .ref m11, .ref m12, .ref m13, .ref m14, .ref m15, .ref m16, .ref m17, .ref m18, .ref m19, .ref m20, .int 0, .ref m22, .ref m23, .ref m24, .ref m25, .ref m26, .ref m27, .int 0, .ref m29]))] H := hP
    have hD : va_D A [(rq, .inl (k1, 40, .inr (.inr (.inr (.inr (fun _ => none)))))), (pl, .inr (1, [.ref q9, .int 0])), (dk, .inr (2, [.ref d1, .ref d2, .ref d3, .ref d4])), (d1, .inl (k3, 24, .inl (fun _ => -1))), (rw, .inr (3, [.ref r1, .int 0, .int 0])), (m5, .inl (j5, 40, .inl (fun _ => 0))), (m6, .inl (j6, 40, .inl (fun _ => 0))), (m7, .inl (j7, 40, .inl (fun _ => 0))), (m8, .inl (j8, 40, .inl (fun _ => 0))), (m9, .inl (j9, 40, .inl (fun _ => 0))), (m10, .inl (j10, 40, .inl (fun _ => 0))), (ou, .inl (k4, 1, .inr (.inl (fun _ => 0)))), (g0, .inr (5, [.int 0, .int 0, .int (-1), .ref m3, .int 0, .ref m5, .ref m6, .ref m7, .ref m8, .ref m9, .ref m10, .ref m11, .ref m12, .ref m13, .ref m14, .ref m15, .ref m16, .ref m17, .ref m18, .ref m19, .ref m20, .int 0, .ref m22, .ref m23, .ref m24, .ref m25, .ref m26, .ref m27, .int 0, .ref m29]))] := hD
    have hK : va_K (dC, dI) cls_ [(k1, .object "TwinTuners$Request"), (k2, .int), (k3, .int), (j3, .int), (j5, .int), (j6, .int), (j7, .int), (j8, .int), (j9, .int), (j10, .int), (k4, .long)] s := hK
    refine W.eq (g2 := F0 m 482 ls []) rfl ?_
    refine W.cs (cells' := 38) (slots' := 14124) rfl rfl ?_
    refine lv_aload_n hx hb d_LW_law_482 rfl (lv_at hl 3 rfl) ?_
    have hPc := hP.sub (ws' := [(g0, .inr (5, [.int 0, .int 0, .int (-1), .ref m3, .int 0, .ref m5, .ref m6, .ref m7, .ref m8, .ref m9, .ref m10, .ref m11, .ref m12, .ref m13, .ref m14, .ref m15, .ref m16, .ref m17, .ref m18, .ref m19, .ref m20, .int 0, .ref m22, .ref m23, .ref m24, .ref m25, .ref m26, .ref m27, .int 0, .ref m29]))]) [12] rfl
    have hKc := hK.sub (tys' := []) [] rfl
    refine rd_call (va_runV (C := R_MO) (As := []) (rest := []) ⟨hx, hb, hml, hown, ht⟩ (c_MO_thrown_v l dC dI g0 m3 m5 m6 m7 m8 m9 m10 m11 m12 m13 m14 m15 m16 m17 m18 m19 m20 m22 m23 m24 m25 m26 m27 m29 0 0 (-1) 0) (cwV 0 ht (gV tb_723 tb_724 tb_725 tb_5 tb_726) rfl rfl rfl (by decide +kernel) ⟨Nat.le_of_ble_eq_true rfl, Nat.le_of_ble_eq_true rfl⟩) ⟨rdP_blind, va_recv (q := (R_MO, F_MO, 30)) hK hP rfl (show ([(rq, .inl (k1, 40, .inr (.inr (.inr (.inr (fun _ => none)))))), (pl, .inr (1, [.ref q9, .int 0])), (dk, .inr (2, [.ref d1, .ref d2, .ref d3, .ref d4])), (d1, .inl (k3, 24, .inl (fun _ => -1))), (rw, .inr (3, [.ref r1, .int 0, .int 0])), (m5, .inl (j5, 40, .inl (fun _ => 0))), (m6, .inl (j6, 40, .inl (fun _ => 0))), (m7, .inl (j7, 40, .inl (fun _ => 0))), (m8, .inl (j8, 40, .inl (fun _ => 0))), (m9, .inl (j9, 40, .inl (fun _ => 0))), (m10, .inl (j10, 40, .inl (fun _ => 0))), (ou, .inl (k4, 1, .inr (.inl (fun _ => 0)))), (g0, .inr (5, [.int 0, .int 0, .int (-1), .ref m3, .int 0, .ref m5, .ref m6, .ref m7, .ref m8, .ref m9, .ref m10, .ref m11, .ref m12, .ref m13, .ref m14, .ref m15, .ref m16, .ref m17, .ref m18, .ref m19, .ref m20, .int 0, .ref m22, .ref m23, .ref m24, .ref m25, .ref m26, .ref m27, .int 0, .ref m29]))] : va_W)[12]? = some (g0, .inr (5, [.int 0, .int 0, .int (-1), .ref m3, .int 0, .ref m5, .ref m6, .ref m7, .ref m8, .ref m9, .ref m10, .ref m11, .ref m12, .ref m13, .ref m14, .ref m15, .ref m16, .ref m17, .ref m18, .ref m19, .ref m20, .int 0, .ref m22, .ref m23, .ref m24, .ref m25, .ref m26, .ref m27, .int 0, .ref m29])) from rfl), rd_pre hPc hKc⟩ rfl rfl hl.1 rfl (lv_room (Nat.le_of_ble_eq_true rfl)) d_LW_law_483 ⟨Nat.le_of_ble_eq_true rfl, Nat.le_of_ble_eq_true rfl⟩) ?_
    refine W.eq (g2 := F0 m 486 ls [.int 0]) rfl ?_
    refine lv_iload hx hb d_LW_law_486 (lv_at hl 0 rfl) ?_
    refine lv_icmp_eq (tgt := 493) hx hb d_LW_law_488 (by decide) (fun _ => ?_) (fun h9 => absurd (rfl) h9)
    refine lv_goto (tgt := 1228) hx hb d_LW_law_493 (by decide) ?_
    have hl := lv_sub hl [1, 5] (l' := [(4, .int 0), (0, .ref b)]) rfl
    exact tl_end hx hb hr hlocks hbl hbA hAB hX (Nat.le_of_ble_eq_true rfl) (Nat.le_of_ble_eq_true rfl) hS hl
  · refine lv_aload_n hx hb d_LW_law_448 rfl (lv_at hl 3 rfl) ?_
    refine lv_aload_n hx hb d_LW_law_449 rfl (lv_at hl 4 rfl) ?_
    refine lv_iload hx hb d_LW_law_450 (lv_at hl 0 rfl) ?_
    refine lv_iconst (v := 1) hx hb d_LW_law_452 (by decide) ?_
    refine lv_iadd hx hb d_LW_law_453 ?_
    refine lv_topi (fun v5 ev5 => ?_)
    obtain rfl : v5 = 1 := ev5.trans (by decide)
    refine va_sld hx hb hX hbl hbA hS (show vp_in (nI 1) 6 from vp_in_nI (by decide) (by decide)) d_LW_law_454 ?_
    refine W.eq (g2 := F0 m 455 ls [.int (xs 1), .ref h0]) rfl ?_
    refine lv_aload_n hx hb d_LW_law_455 rfl (lv_at hl 4 rfl) ?_
    refine lv_iload hx hb d_LW_law_456 (lv_at hl 0 rfl) ?_
    refine lv_iconst (v := 2) hx hb d_LW_law_458 (by decide) ?_
    refine lv_iadd hx hb d_LW_law_459 ?_
    refine lv_topi (fun v6 ev6 => ?_)
    obtain rfl : v6 = 2 := ev6.trans (by decide)
    refine va_sld hx hb hX hbl hbA hS (show vp_in (nI 2) 6 from vp_in_nI (by decide) (by decide)) d_LW_law_460 ?_
    refine W.eq (g2 := F0 m 461 ls [.int (xs 2), .int (xs 1), .ref h0]) rfl ?_
    have hPc := hP.sub (ws' := [(h0, .inr (0, [.ref rq, .ref oa, .ref pl, .ref dk, .ref rw, .int 0, .int 0, .int (-1)]))]) [0] rfl
    have hKc := hK.sub (tys' := []) [] rfl
    have hDc := hD.sub (ws' := [(h0, .inr (0, [.ref rq, .ref oa, .ref pl, .ref dk, .ref rw, .int 0, .int 0, .int (-1)]))]) [0] (by decide) rfl
    have hFc := va_free (wc := [(h0, .inr (0, [.ref rq, .ref oa, .ref pl, .ref dk, .ref rw, .int 0, .int 0, .int (-1)]))]) hD hS hA [0] rfl
    refine fr_call (tw_runSW (As := [.ref h0, .int (xs 1), .int (xs 2)]) (rest := []) ⟨hx, hb, hml, hown, ht⟩ (c_LW_air_bad l dC dI H.size s.heap.size hl9 h0 rq oa pl dk rw (xs 1) (xs 2) hv) rfl rfl ⟨Nat.le_of_ble_eq_true rfl, Nat.le_of_ble_eq_true rfl⟩ (pay_in ht (gW tb_505)) (show _ ∈ w_LW_air from List.mem_cons_self) (ht _ tb_503) (ht _ tb_504) (ht _ tb_0) (n := 3) (by decide +kernel) ⟨frP_blind, fr_pre hPc hKc hDc hAB hBs hS hV⟩ rfl rfl hl.1 rfl (lv_room (Nat.le_of_ble_eq_true rfl)) d_LW_law_461 ⟨Nat.le_of_ble_eq_true rfl, Nat.le_of_ble_eq_true rfl⟩) hS (fun q _ h => hFc q h) hFc (fun t H1 locs ht1 hvm hB1 hz1 hk1 hS => ?_)
    obtain ⟨hP1, hK1, hD1⟩ := hB1
    rw [ht1] at hP1
    have hK1 := va_K.moved hvm.symm hK1
    obtain ⟨hP, hD⟩ := va_join (wr := [(rq, .inl (k1, 40, .inr (.inr (.inr (.inr (fun _ => none)))))), (oa, .inl (k2, 8, .inl (fun _ => 0))), (pl, .inr (1, [.ref q9, .int 0])), (dk, .inr (2, [.ref d1, .ref d2, .ref d3, .ref d4])), (d1, .inl (k3, 24, .inl (fun _ => -1))), (rw, .inr (3, [.ref r1, .int 0, .int 0])), (g0, .inr (5, [.int 0, .int 0, .int (-1), .ref m3, .int 0, .ref m5, .ref m6, .ref m7, .ref m8, .ref m9, .ref m10, .ref m11, .ref m12, .ref m13, .ref m14, .ref m15, .ref m16, .ref m17, .ref m18, .ref m19, .ref m20, .int 0, .ref m22, .ref m23, .ref m24, .ref m25, .ref m26, .ref m27, .int 0, .ref m29])), (m3, .inl (j3, 8, .inl (fun _ => 0))), (m5, .inl (j5, 40, .inl (fun _ => 0))), (m6, .inl (j6, 40, .inl (fun _ => 0))), (m7, .inl (j7, 40, .inl (fun _ => 0))), (m8, .inl (j8, 40, .inl (fun _ => 0))), (m9, .inl (j9, 40, .inl (fun _ => 0))), (m10, .inl (j10, 40, .inl (fun _ => 0))), (ou, .inl (k4, 1, .inr (.inl (fun _ => 0))))]) (w1 := [(h0, .inr (0, [.ref rq, .ref oa, .ref pl, .ref dk, .ref rw, .int 0, .int 0, .int (-1)]))]) hP hD [0] [1, 2, 3, 4, 5, 6, 7, 8, 9, 10, 11, 12, 13, 14, 15] rfl rfl (by decide) (by decide) hk1 hFc hP1 hD1
    have hK := hK.app hK1
    generalize H1 = H at hP hS ⊢
    have hP : va_P (dC, dI) cls_ [(rq, .inl (k1, 40, .inr (.inr (.inr (.inr (fun _ => none)))))), (oa, .inl (k2, 8, .inl (fun _ => 0))), (pl, .inr (1, [.ref q9, .int 0])), (dk, .inr (2, [.ref d1, .ref d2, .ref d3, .ref d4])), (d1, .inl (k3, 24, .inl (fun _ => -1))), (rw, .inr (3, [.ref r1, .int 0, .int 0])), (g0, .inr (5, [.int 0, .int 0, .int (-1), .ref m3, .int 0, .ref m5, .ref m6, .ref m7, .ref m8, .ref m9, .ref m10, .ref m11, .ref m12, .ref m13, .ref m14, .ref m15, .ref m16, .ref m17, .ref m18, .ref m19, .ref m20, .int 0, .ref m22, .ref m23, .ref m24, .ref m25, .ref m26, .ref m27, .int 0, .ref m29])), (m3, .inl (j3, 8, .inl (fun _ => 0))), (m5, .inl (j5, 40, .inl (fun _ => 0))), (m6, .inl (j6, 40, .inl (fun _ => 0))), (m7, .inl (j7, 40, .inl (fun _ => 0))), (m8, .inl (j8, 40, .inl (fun _ => 0))), (m9, .inl (j9, 40, .inl (fun _ => 0))), (m10, .inl (j10, 40, .inl (fun _ => 0))), (ou, .inl (k4, 1, .inr (.inl (fun _ => 0)))), (h0, .inr (0, [.ref rq, .ref oa, .ref pl, .ref dk, .ref rw, .int 0, .int 0, .int (-1)]))] H := hP
    have hD : va_D A [(rq, .inl (k1, 40, .inr (.inr (.inr (.inr (fun _ => none)))))), (oa, .inl (k2, 8, .inl (fun _ => 0))), (pl, .inr (1, [.ref q9, .int 0])), (dk, .inr (2, [.ref d1, .ref d2, .ref d3, .ref d4])), (d1, .inl (k3, 24, .inl (fun _ => -1))), (rw, .inr (3, [.ref r1, .int 0, .int 0])), (g0, .inr (5, [.int 0, .int 0, .int (-1), .ref m3, .int 0, .ref m5, .ref m6, .ref m7, .ref m8, .ref m9, .ref m10, .ref m11, .ref m12, .ref m13, .ref m14, .ref m15, .ref m16, .ref m17, .ref m18, .ref m19, .ref m20, .int 0, .ref m22, .ref m23, .ref m24, .ref m25, .ref m26, .ref m27, .int 0, .ref m29])), (m3, .inl (j3, 8, .inl (fun _ => 0))), (m5, .inl (j5, 40, .inl (fun _ => 0))), (m6, .inl (j6, 40, .inl (fun _ => 0))), (m7, .inl (j7, 40, .inl (fun _ => 0))), (m8, .inl (j8, 40, .inl (fun _ => 0))), (m9, .inl (j9, 40, .inl (fun _ => 0))), (m10, .inl (j10, 40, .inl (fun _ => 0))), (ou, .inl (k4, 1, .inr (.inl (fun _ => 0)))), (h0, .inr (0, [.ref rq, .ref oa, .ref pl, .ref dk, .ref rw, .int 0, .int 0, .int (-1)]))] := hD
    have hK : va_K (dC, dI) cls_ [(k1, .object "TwinTuners$Request"), (k2, .int), (k3, .int), (j3, .int), (j5, .int), (j6, .int), (j7, .int), (j8, .int), (j9, .int), (j10, .int), (k4, .long)] s := hK
    refine W.eq (g2 := F0 m 464 ls [.int 1]) rfl ?_
    refine W.cs (cells' := 39) (slots' := 14130) rfl rfl ?_
    refine lv_istore hx hb d_LW_law_464 hl (by decide) rfl (fun ls hl => ?_)
    have hl : lv_has ls 8 [(5, .int 1), (4, .int 0), (3, .ref ou), (2, .ref g0), (1, .ref h0), (0, .ref b)] := hl
    refine lv_aload_n hx hb d_LW_law_466 rfl (lv_at hl 3 rfl) ?_
    refine lv_aload_n hx hb d_LW_law_467 rfl (lv_at hl 5 rfl) ?_
    refine lv_iload hx hb d_LW_law_468 (lv_at hl 1 rfl) ?_
    refine lv_iconst (v := 1) hx hb d_LW_law_470 (by decide) ?_
    refine lv_iadd hx hb d_LW_law_471 ?_
    refine lv_topi (fun v7 ev7 => ?_)
    obtain rfl : v7 = 1 := ev7.trans (by decide)
    refine va_sld hx hb hX hbl hbA hS (show vp_in (nI 1) 6 from vp_in_nI (by decide) (by decide)) d_LW_law_472 ?_
    refine W.eq (g2 := F0 m 473 ls [.int (xs 1), .ref g0]) rfl ?_
    refine lv_aload_n hx hb d_LW_law_473 rfl (lv_at hl 5 rfl) ?_
    refine lv_iload hx hb d_LW_law_474 (lv_at hl 1 rfl) ?_
    refine lv_iconst (v := 2) hx hb d_LW_law_476 (by decide) ?_
    refine lv_iadd hx hb d_LW_law_477 ?_
    refine lv_topi (fun v8 ev8 => ?_)
    obtain rfl : v8 = 2 := ev8.trans (by decide)
    refine va_sld hx hb hX hbl hbA hS (show vp_in (nI 2) 6 from vp_in_nI (by decide) (by decide)) d_LW_law_478 ?_
    refine W.eq (g2 := F0 m 479 ls [.int (xs 2), .int (xs 1), .ref g0]) rfl ?_
    have hPc := hP.sub (ws' := [(g0, .inr (5, [.int 0, .int 0, .int (-1), .ref m3, .int 0, .ref m5, .ref m6, .ref m7, .ref m8, .ref m9, .ref m10, .ref m11, .ref m12, .ref m13, .ref m14, .ref m15, .ref m16, .ref m17, .ref m18, .ref m19, .ref m20, .int 0, .ref m22, .ref m23, .ref m24, .ref m25, .ref m26, .ref m27, .int 0, .ref m29]))]) [6] rfl
    have hKc := hK.sub (tys' := []) [] rfl
    have hDc := hD.sub (ws' := [(g0, .inr (5, [.int 0, .int 0, .int (-1), .ref m3, .int 0, .ref m5, .ref m6, .ref m7, .ref m8, .ref m9, .ref m10, .ref m11, .ref m12, .ref m13, .ref m14, .ref m15, .ref m16, .ref m17, .ref m18, .ref m19, .ref m20, .int 0, .ref m22, .ref m23, .ref m24, .ref m25, .ref m26, .ref m27, .int 0, .ref m29]))]) [6] (by decide) rfl
    have hFc := va_free (wc := [(g0, .inr (5, [.int 0, .int 0, .int (-1), .ref m3, .int 0, .ref m5, .ref m6, .ref m7, .ref m8, .ref m9, .ref m10, .ref m11, .ref m12, .ref m13, .ref m14, .ref m15, .ref m16, .ref m17, .ref m18, .ref m19, .ref m20, .int 0, .ref m22, .ref m23, .ref m24, .ref m25, .ref m26, .ref m27, .int 0, .ref m29]))]) hD hS hA [6] rfl
    refine fr_call (va_runV (C := R_MO) (As := [.int (xs 1), .int (xs 2)]) (rest := []) ⟨hx, hb, hml, hown, ht⟩ (c_MO_air_bad l dC dI H.size s.heap.size g0 m3 m5 m6 m7 m8 m9 m10 m11 m12 m13 m14 m15 m16 m17 m18 m19 m20 m22 m23 m24 m25 m26 m27 m29 (xs 1) (xs 2) hv) (cwV 2 ht (gV tb_800 tb_801 tb_802 tb_5 tb_803) rfl rfl rfl (by decide +kernel) ⟨Nat.le_of_ble_eq_true rfl, Nat.le_of_ble_eq_true rfl⟩) ⟨frP_blind, va_recv (q := (R_MO, F_MO, 30)) hK hP rfl (show ([(rq, .inl (k1, 40, .inr (.inr (.inr (.inr (fun _ => none)))))), (oa, .inl (k2, 8, .inl (fun _ => 0))), (pl, .inr (1, [.ref q9, .int 0])), (dk, .inr (2, [.ref d1, .ref d2, .ref d3, .ref d4])), (d1, .inl (k3, 24, .inl (fun _ => -1))), (rw, .inr (3, [.ref r1, .int 0, .int 0])), (g0, .inr (5, [.int 0, .int 0, .int (-1), .ref m3, .int 0, .ref m5, .ref m6, .ref m7, .ref m8, .ref m9, .ref m10, .ref m11, .ref m12, .ref m13, .ref m14, .ref m15, .ref m16, .ref m17, .ref m18, .ref m19, .ref m20, .int 0, .ref m22, .ref m23, .ref m24, .ref m25, .ref m26, .ref m27, .int 0, .ref m29])), (m3, .inl (j3, 8, .inl (fun _ => 0))), (m5, .inl (j5, 40, .inl (fun _ => 0))), (m6, .inl (j6, 40, .inl (fun _ => 0))), (m7, .inl (j7, 40, .inl (fun _ => 0))), (m8, .inl (j8, 40, .inl (fun _ => 0))), (m9, .inl (j9, 40, .inl (fun _ => 0))), (m10, .inl (j10, 40, .inl (fun _ => 0))), (ou, .inl (k4, 1, .inr (.inl (fun _ => 0)))), (h0, .inr (0, [.ref rq, .ref oa, .ref pl, .ref dk, .ref rw, .int 0, .int 0, .int (-1)]))] : va_W)[6]? = some (g0, .inr (5, [.int 0, .int 0, .int (-1), .ref m3, .int 0, .ref m5, .ref m6, .ref m7, .ref m8, .ref m9, .ref m10, .ref m11, .ref m12, .ref m13, .ref m14, .ref m15, .ref m16, .ref m17, .ref m18, .ref m19, .ref m20, .int 0, .ref m22, .ref m23, .ref m24, .ref m25, .ref m26, .ref m27, .int 0, .ref m29])) from rfl), fr_pre hPc hKc hDc hAB hBs hS hV⟩ rfl rfl hl.1 rfl (lv_room (Nat.le_of_ble_eq_true rfl)) d_LW_law_479 ⟨Nat.le_of_ble_eq_true rfl, Nat.le_of_ble_eq_true rfl⟩) hS (fun q _ h => hFc q h) hFc (fun t H1 locs ht1 hvm hB1 hz1 hk1 hS => ?_)
    obtain ⟨hP1, hK1, hD1⟩ := hB1
    rw [ht1] at hP1
    have hK1 := va_K.moved hvm.symm hK1
    obtain ⟨hP, hD⟩ := va_join (wr := [(rq, .inl (k1, 40, .inr (.inr (.inr (.inr (fun _ => none)))))), (oa, .inl (k2, 8, .inl (fun _ => 0))), (pl, .inr (1, [.ref q9, .int 0])), (dk, .inr (2, [.ref d1, .ref d2, .ref d3, .ref d4])), (d1, .inl (k3, 24, .inl (fun _ => -1))), (rw, .inr (3, [.ref r1, .int 0, .int 0])), (m3, .inl (j3, 8, .inl (fun _ => 0))), (m5, .inl (j5, 40, .inl (fun _ => 0))), (m6, .inl (j6, 40, .inl (fun _ => 0))), (m7, .inl (j7, 40, .inl (fun _ => 0))), (m8, .inl (j8, 40, .inl (fun _ => 0))), (m9, .inl (j9, 40, .inl (fun _ => 0))), (m10, .inl (j10, 40, .inl (fun _ => 0))), (ou, .inl (k4, 1, .inr (.inl (fun _ => 0)))), (h0, .inr (0, [.ref rq, .ref oa, .ref pl, .ref dk, .ref rw, .int 0, .int 0, .int (-1)]))]) (w1 := [(g0, .inr (5, [.int 1, .int 0, .int (-1), .ref m3, .int 0, .ref m5, .ref m6, .ref m7, .ref m8, .ref m9, .ref m10, .ref m11, .ref m12, .ref m13, .ref m14, .ref m15, .ref m16, .ref m17, .ref m18, .ref m19, .ref m20, .int 0, .ref m22, .ref m23, .ref m24, .ref m25, .ref m26, .ref m27, .int 0, .ref m29]))]) hP hD [6] [0, 1, 2, 3, 4, 5, 7, 8, 9, 10, 11, 12, 13, 14, 15] rfl rfl (by decide) (by decide) hk1 hFc hP1 hD1
    have hK := hK.app hK1
    generalize H1 = H at hP hS ⊢
    have hP : va_P (dC, dI) cls_ [(rq, .inl (k1, 40, .inr (.inr (.inr (.inr (fun _ => none)))))), (oa, .inl (k2, 8, .inl (fun _ => 0))), (pl, .inr (1, [.ref q9, .int 0])), (dk, .inr (2, [.ref d1, .ref d2, .ref d3, .ref d4])), (d1, .inl (k3, 24, .inl (fun _ => -1))), (rw, .inr (3, [.ref r1, .int 0, .int 0])), (m3, .inl (j3, 8, .inl (fun _ => 0))), (m5, .inl (j5, 40, .inl (fun _ => 0))), (m6, .inl (j6, 40, .inl (fun _ => 0))), (m7, .inl (j7, 40, .inl (fun _ => 0))), (m8, .inl (j8, 40, .inl (fun _ => 0))), (m9, .inl (j9, 40, .inl (fun _ => 0))), (m10, .inl (j10, 40, .inl (fun _ => 0))), (ou, .inl (k4, 1, .inr (.inl (fun _ => 0)))), (h0, .inr (0, [.ref rq, .ref oa, .ref pl, .ref dk, .ref rw, .int 0, .int 0, .int (-1)])), (g0, .inr (5, [.int 1, .int 0, .int (-1), .ref m3, .int 0, .ref m5, .ref m6, .ref m7, .ref m8, .ref m9, .ref m10, .ref m11, .ref m12, .ref m13, .ref m14, .ref m15, .ref m16, .ref m17, .ref m18, .ref m19, .ref m20, .int 0, .ref m22, .ref m23, .ref m24, .ref m25, .ref m26, .ref m27, .int 0, .ref m29]))] H := hP
    have hD : va_D A [(rq, .inl (k1, 40, .inr (.inr (.inr (.inr (fun _ => none)))))), (oa, .inl (k2, 8, .inl (fun _ => 0))), (pl, .inr (1, [.ref q9, .int 0])), (dk, .inr (2, [.ref d1, .ref d2, .ref d3, .ref d4])), (d1, .inl (k3, 24, .inl (fun _ => -1))), (rw, .inr (3, [.ref r1, .int 0, .int 0])), (m3, .inl (j3, 8, .inl (fun _ => 0))), (m5, .inl (j5, 40, .inl (fun _ => 0))), (m6, .inl (j6, 40, .inl (fun _ => 0))), (m7, .inl (j7, 40, .inl (fun _ => 0))), (m8, .inl (j8, 40, .inl (fun _ => 0))), (m9, .inl (j9, 40, .inl (fun _ => 0))), (m10, .inl (j10, 40, .inl (fun _ => 0))), (ou, .inl (k4, 1, .inr (.inl (fun _ => 0)))), (h0, .inr (0, [.ref rq, .ref oa, .ref pl, .ref dk, .ref rw, .int 0, .int 0, .int (-1)])), (g0, .inr (5, [.int 1, .int 0, .int (-1), .ref m3, .int 0, .ref m5, .ref m6, .ref m7, .ref m8, .ref m9, .ref m10, .ref m11, .ref m12, .ref m13, .ref m14, .ref m15, .ref m16, .ref m17, .ref m18, .ref m19, .ref m20, .int 0, .ref m22, .ref m23, .ref m24, .ref m25, .ref m26, .ref m27, .int 0, .ref m29]))] := hD
    have hK : va_K (dC, dI) cls_ [(k1, .object "TwinTuners$Request"), (k2, .int), (k3, .int), (j3, .int), (j5, .int), (j6, .int), (j7, .int), (j8, .int), (j9, .int), (j10, .int), (k4, .long)] s := hK
    refine W.eq (g2 := F0 m 482 ls []) rfl ?_
    refine W.cs (cells' := 39) (slots' := 14130) rfl rfl ?_
    refine lv_aload_n hx hb d_LW_law_482 rfl (lv_at hl 3 rfl) ?_
    have hPc := hP.sub (ws' := [(g0, .inr (5, [.int 1, .int 0, .int (-1), .ref m3, .int 0, .ref m5, .ref m6, .ref m7, .ref m8, .ref m9, .ref m10, .ref m11, .ref m12, .ref m13, .ref m14, .ref m15, .ref m16, .ref m17, .ref m18, .ref m19, .ref m20, .int 0, .ref m22, .ref m23, .ref m24, .ref m25, .ref m26, .ref m27, .int 0, .ref m29]))]) [15] rfl
    have hKc := hK.sub (tys' := []) [] rfl
    refine rd_call (va_runV (C := R_MO) (As := []) (rest := []) ⟨hx, hb, hml, hown, ht⟩ (c_MO_thrown_v l dC dI g0 m3 m5 m6 m7 m8 m9 m10 m11 m12 m13 m14 m15 m16 m17 m18 m19 m20 m22 m23 m24 m25 m26 m27 m29 1 0 (-1) 0) (cwV 0 ht (gV tb_723 tb_724 tb_725 tb_5 tb_726) rfl rfl rfl (by decide +kernel) ⟨Nat.le_of_ble_eq_true rfl, Nat.le_of_ble_eq_true rfl⟩) ⟨rdP_blind, va_recv (q := (R_MO, F_MO, 30)) hK hP rfl (show ([(rq, .inl (k1, 40, .inr (.inr (.inr (.inr (fun _ => none)))))), (oa, .inl (k2, 8, .inl (fun _ => 0))), (pl, .inr (1, [.ref q9, .int 0])), (dk, .inr (2, [.ref d1, .ref d2, .ref d3, .ref d4])), (d1, .inl (k3, 24, .inl (fun _ => -1))), (rw, .inr (3, [.ref r1, .int 0, .int 0])), (m3, .inl (j3, 8, .inl (fun _ => 0))), (m5, .inl (j5, 40, .inl (fun _ => 0))), (m6, .inl (j6, 40, .inl (fun _ => 0))), (m7, .inl (j7, 40, .inl (fun _ => 0))), (m8, .inl (j8, 40, .inl (fun _ => 0))), (m9, .inl (j9, 40, .inl (fun _ => 0))), (m10, .inl (j10, 40, .inl (fun _ => 0))), (ou, .inl (k4, 1, .inr (.inl (fun _ => 0)))), (h0, .inr (0, [.ref rq, .ref oa, .ref pl, .ref dk, .ref rw, .int 0, .int 0, .int (-1)])), (g0, .inr (5, [.int 1, .int 0, .int (-1), .ref m3, .int 0, .ref m5, .ref m6, .ref m7, .ref m8, .ref m9, .ref m10, .ref m11, .ref m12, .ref m13, .ref m14, .ref m15, .ref m16, .ref m17, .ref m18, .ref m19, .ref m20, .int 0, .ref m22, .ref m23, .ref m24, .ref m25, .ref m26, .ref m27, .int 0, .ref m29]))] : va_W)[15]? = some (g0, .inr (5, [.int 1, .int 0, .int (-1), .ref m3, .int 0, .ref m5, .ref m6, .ref m7, .ref m8, .ref m9, .ref m10, .ref m11, .ref m12, .ref m13, .ref m14, .ref m15, .ref m16, .ref m17, .ref m18, .ref m19, .ref m20, .int 0, .ref m22, .ref m23, .ref m24, .ref m25, .ref m26, .ref m27, .int 0, .ref m29])) from rfl), rd_pre hPc hKc⟩ rfl rfl hl.1 rfl (lv_room (Nat.le_of_ble_eq_true rfl)) d_LW_law_483 ⟨Nat.le_of_ble_eq_true rfl, Nat.le_of_ble_eq_true rfl⟩) ?_
    refine W.eq (g2 := F0 m 486 ls [.int 1]) rfl ?_
    refine lv_iload hx hb d_LW_law_486 (lv_at hl 0 rfl) ?_
    refine lv_icmp_eq (tgt := 493) hx hb d_LW_law_488 (by decide) (fun _ => ?_) (fun h9 => absurd (rfl) h9)
    refine lv_goto (tgt := 1228) hx hb d_LW_law_493 (by decide) ?_
    have hl := lv_sub hl [1, 5] (l' := [(4, .int 0), (0, .ref b)]) rfl
    exact tl_end hx hb hr hlocks hbl hbA hAB hX (Nat.le_of_ble_eq_true rfl) (Nat.le_of_ble_eq_true rfl) hS hl
set_option maxHeartbeats 4000000 in
set_option maxRecDepth 100000 in
theorem cs_6 {p : Program} {l : Launch} {e : Env} {s : State} {m : MethodId} {below : List Frame} {meth : Method} {c : Code} {A : Nat → Prop} {b : Nat} {H : Heap} {locs : List Loc} {ls : Array Slot} {xs : Nat → Int32} (dC : Nat → ClassId) (dI : Nat → Nat → Nat) (h0 rq oa pl dk rw q9 d1 d2 d3 d4 r1 g0 m3 m5 m6 m7 m8 m9 m10 m11 m12 m13 m14 m15 m16 m17 m18 m19 m20 m22 m23 m24 m25 m26 m27 m29 ou : Nat) (k1 k2 k3 j3 j5 j6 j7 j8 j9 j10 k4 : ClassId) (hl9 : l.stackTraces = false) (hx : p.tables.exec = Jvm.exec) (hb : c.code = code) (hr : meth.sig.returnType = ret) (hlocks : meth.locks = false) (hbl : b < s.heap.size) (hbA : ¬ A b) (hAB : ∀ q, A q → s.heap.size ≤ q) (hX : va_X b 6 xs s s.heap) (hml : c.maxLocals = 8) (hown : s.vm.findClass R_LW = some m.cls) (ht : ∀ w ∈ tb_, w.before #[Value.ref b] s = true) (hA : ∀ q : Nat, s.heap.size ≤ q → A q) (hBs : s.heap.size ≤ s.heap.size) (hV : tw_V s.heap.size s s.heap)
    (hK : va_K (dC, dI) cls_ [(k1, .object "TwinTuners$Request"), (k2, .int), (k3, .int), (j3, .int), (j5, .int), (j6, .int), (j7, .int), (j8, .int), (j9, .int), (j10, .int), (k4, .long)] s) (hP : va_P (dC, dI) cls_ [(h0, .inr (0, [.ref rq, .ref oa, .ref pl, .ref dk, .ref rw, .int 0, .int 0, .int (-1)])), (rq, .inl (k1, 40, .inr (.inr (.inr (.inr (fun _ => none)))))), (oa, .inl (k2, 8, .inl (fun _ => 0))), (pl, .inr (1, [.ref q9, .int 0])), (dk, .inr (2, [.ref d1, .ref d2, .ref d3, .ref d4])), (d1, .inl (k3, 24, .inl (fun _ => -1))), (rw, .inr (3, [.ref r1, .int 0, .int 0])), (g0, .inr (5, [.int 0, .int 0, .int (-1), .ref m3, .int 0, .ref m5, .ref m6, .ref m7, .ref m8, .ref m9, .ref m10, .ref m11, .ref m12, .ref m13, .ref m14, .ref m15, .ref m16, .ref m17, .ref m18, .ref m19, .ref m20, .int 0, .ref m22, .ref m23, .ref m24, .ref m25, .ref m26, .ref m27, .int 0, .ref m29])), (m3, .inl (j3, 8, .inl (fun _ => 0))), (m5, .inl (j5, 40, .inl (fun _ => 0))), (m6, .inl (j6, 40, .inl (fun _ => 0))), (m7, .inl (j7, 40, .inl (fun _ => 0))), (m8, .inl (j8, 40, .inl (fun _ => 0))), (m9, .inl (j9, 40, .inl (fun _ => 0))), (m10, .inl (j10, 40, .inl (fun _ => 0))), (ou, .inl (k4, 1, .inr (.inl (fun _ => 0))))] H) (hD : va_D A [(h0, .inr (0, [.ref rq, .ref oa, .ref pl, .ref dk, .ref rw, .int 0, .int 0, .int (-1)])), (rq, .inl (k1, 40, .inr (.inr (.inr (.inr (fun _ => none)))))), (oa, .inl (k2, 8, .inl (fun _ => 0))), (pl, .inr (1, [.ref q9, .int 0])), (dk, .inr (2, [.ref d1, .ref d2, .ref d3, .ref d4])), (d1, .inl (k3, 24, .inl (fun _ => -1))), (rw, .inr (3, [.ref r1, .int 0, .int 0])), (g0, .inr (5, [.int 0, .int 0, .int (-1), .ref m3, .int 0, .ref m5, .ref m6, .ref m7, .ref m8, .ref m9, .ref m10, .ref m11, .ref m12, .ref m13, .ref m14, .ref m15, .ref m16, .ref m17, .ref m18, .ref m19, .ref m20, .int 0, .ref m22, .ref m23, .ref m24, .ref m25, .ref m26, .ref m27, .int 0, .ref m29])), (m3, .inl (j3, 8, .inl (fun _ => 0))), (m5, .inl (j5, 40, .inl (fun _ => 0))), (m6, .inl (j6, 40, .inl (fun _ => 0))), (m7, .inl (j7, 40, .inl (fun _ => 0))), (m8, .inl (j8, 40, .inl (fun _ => 0))), (m9, .inl (j9, 40, .inl (fun _ => 0))), (m10, .inl (j10, 40, .inl (fun _ => 0))), (ou, .inl (k4, 1, .inr (.inl (fun _ => 0))))]) (hS : va_S A s.heap H locs) (hl : lv_has ls 8 [(4, .int 0), (3, .ref ou), (2, .ref g0), (1, .ref h0), (0, .ref b)]) : W p l e room_1 s m #[Value.ref b] below meth c H locs 38 14124 (lw_Z below #[Value.ref b] s) (F0 m 496 ls []) := by
  refine lv_aload_n hx hb d_LW_law_496 rfl (lv_at hl 3 rfl) ?_
  have hPc := hP.sub (ws' := [(h0, .inr (0, [.ref rq, .ref oa, .ref pl, .ref dk, .ref rw, .int 0, .int 0, .int (-1)])), (pl, .inr (1, [.ref q9, .int 0]))]) [0, 3] rfl
  have hKc := hK.sub (tys' := []) [] rfl
  have hDc := hD.sub (ws' := [(h0, .inr (0, [.ref rq, .ref oa, .ref pl, .ref dk, .ref rw, .int 0, .int 0, .int (-1)])), (pl, .inr (1, [.ref q9, .int 0]))]) [0, 3] (by decide) rfl
  have hFc := va_free (wc := [(h0, .inr (0, [.ref rq, .ref oa, .ref pl, .ref dk, .ref rw, .int 0, .int 0, .int (-1)])), (pl, .inr (1, [.ref q9, .int 0]))]) hD hS hA [0, 3] rfl
  refine fr_call (va_runV (C := R_TT) (As := []) (rest := []) ⟨hx, hb, hml, hown, ht⟩ (c_TT_tick_0 l dC dI H.size s.heap.size h0 rq oa pl dk rw q9 0) (cwV 0 ht (gV tb_100 tb_101 tb_102 tb_1 tb_103) rfl rfl rfl (by decide +kernel) ⟨Nat.le_of_ble_eq_true rfl, Nat.le_of_ble_eq_true rfl⟩) ⟨frP_blind, va_recv (q := (R_TT, F_TT, 8)) hK hP rfl (show ([(h0, .inr (0, [.ref rq, .ref oa, .ref pl, .ref dk, .ref rw, .int 0, .int 0, .int (-1)])), (rq, .inl (k1, 40, .inr (.inr (.inr (.inr (fun _ => none)))))), (oa, .inl (k2, 8, .inl (fun _ => 0))), (pl, .inr (1, [.ref q9, .int 0])), (dk, .inr (2, [.ref d1, .ref d2, .ref d3, .ref d4])), (d1, .inl (k3, 24, .inl (fun _ => -1))), (rw, .inr (3, [.ref r1, .int 0, .int 0])), (g0, .inr (5, [.int 0, .int 0, .int (-1), .ref m3, .int 0, .ref m5, .ref m6, .ref m7, .ref m8, .ref m9, .ref m10, .ref m11, .ref m12, .ref m13, .ref m14, .ref m15, .ref m16, .ref m17, .ref m18, .ref m19, .ref m20, .int 0, .ref m22, .ref m23, .ref m24, .ref m25, .ref m26, .ref m27, .int 0, .ref m29])), (m3, .inl (j3, 8, .inl (fun _ => 0))), (m5, .inl (j5, 40, .inl (fun _ => 0))), (m6, .inl (j6, 40, .inl (fun _ => 0))), (m7, .inl (j7, 40, .inl (fun _ => 0))), (m8, .inl (j8, 40, .inl (fun _ => 0))), (m9, .inl (j9, 40, .inl (fun _ => 0))), (m10, .inl (j10, 40, .inl (fun _ => 0))), (ou, .inl (k4, 1, .inr (.inl (fun _ => 0))))] : va_W)[0]? = some (h0, .inr (0, [.ref rq, .ref oa, .ref pl, .ref dk, .ref rw, .int 0, .int 0, .int (-1)])) from rfl), fr_pre hPc hKc hDc hAB hBs hS hV⟩ rfl rfl hl.1 rfl (lv_room (Nat.le_of_ble_eq_true rfl)) d_LW_law_497 ⟨Nat.le_of_ble_eq_true rfl, Nat.le_of_ble_eq_true rfl⟩) hS (fun q _ h => hFc q h) hFc (fun t H1 locs ht1 hvm hB1 hz1 hk1 hS => ?_)
  obtain ⟨hP1, hK1, hD1⟩ := hB1
  rw [ht1] at hP1
  have hK1 := va_K.moved hvm.symm hK1
  obtain ⟨hP, hD⟩ := va_join (wr := [(rq, .inl (k1, 40, .inr (.inr (.inr (.inr (fun _ => none)))))), (oa, .inl (k2, 8, .inl (fun _ => 0))), (dk, .inr (2, [.ref d1, .ref d2, .ref d3, .ref d4])), (d1, .inl (k3, 24, .inl (fun _ => -1))), (rw, .inr (3, [.ref r1, .int 0, .int 0])), (g0, .inr (5, [.int 0, .int 0, .int (-1), .ref m3, .int 0, .ref m5, .ref m6, .ref m7, .ref m8, .ref m9, .ref m10, .ref m11, .ref m12, .ref m13, .ref m14, .ref m15, .ref m16, .ref m17, .ref m18, .ref m19, .ref m20, .int 0, .ref m22, .ref m23, .ref m24, .ref m25, .ref m26, .ref m27, .int 0, .ref m29])), (m3, .inl (j3, 8, .inl (fun _ => 0))), (m5, .inl (j5, 40, .inl (fun _ => 0))), (m6, .inl (j6, 40, .inl (fun _ => 0))), (m7, .inl (j7, 40, .inl (fun _ => 0))), (m8, .inl (j8, 40, .inl (fun _ => 0))), (m9, .inl (j9, 40, .inl (fun _ => 0))), (m10, .inl (j10, 40, .inl (fun _ => 0))), (ou, .inl (k4, 1, .inr (.inl (fun _ => 0))))]) (w1 := []) hP hD [0, 3] [1, 2, 4, 5, 6, 7, 8, 9, 10, 11, 12, 13, 14, 15] rfl rfl (by decide) (by decide) hk1 hFc hP1 hD1
  have hK := hK.app hK1
  generalize H1 = H at hP hS ⊢
  have hP : va_P (dC, dI) cls_ [(rq, .inl (k1, 40, .inr (.inr (.inr (.inr (fun _ => none)))))), (oa, .inl (k2, 8, .inl (fun _ => 0))), (dk, .inr (2, [.ref d1, .ref d2, .ref d3, .ref d4])), (d1, .inl (k3, 24, .inl (fun _ => -1))), (rw, .inr (3, [.ref r1, .int 0, .int 0])), (g0, .inr (5, [.int 0, .int 0, .int (-1), .ref m3, .int 0, .ref m5, .ref m6, .ref m7, .ref m8, .ref m9, .ref m10, .ref m11, .ref m12, .ref m13, .ref m14, .ref m15, .ref m16, .ref m17, .ref m18, .ref m19, .ref m20, .int 0, .ref m22, .ref m23, .ref m24, .ref m25, .ref m26, .ref m27, .int 0, .ref m29])), (m3, .inl (j3, 8, .inl (fun _ => 0))), (m5, .inl (j5, 40, .inl (fun _ => 0))), (m6, .inl (j6, 40, .inl (fun _ => 0))), (m7, .inl (j7, 40, .inl (fun _ => 0))), (m8, .inl (j8, 40, .inl (fun _ => 0))), (m9, .inl (j9, 40, .inl (fun _ => 0))), (m10, .inl (j10, 40, .inl (fun _ => 0))), (ou, .inl (k4, 1, .inr (.inl (fun _ => 0))))] H := hP
  have hD : va_D A [(rq, .inl (k1, 40, .inr (.inr (.inr (.inr (fun _ => none)))))), (oa, .inl (k2, 8, .inl (fun _ => 0))), (dk, .inr (2, [.ref d1, .ref d2, .ref d3, .ref d4])), (d1, .inl (k3, 24, .inl (fun _ => -1))), (rw, .inr (3, [.ref r1, .int 0, .int 0])), (g0, .inr (5, [.int 0, .int 0, .int (-1), .ref m3, .int 0, .ref m5, .ref m6, .ref m7, .ref m8, .ref m9, .ref m10, .ref m11, .ref m12, .ref m13, .ref m14, .ref m15, .ref m16, .ref m17, .ref m18, .ref m19, .ref m20, .int 0, .ref m22, .ref m23, .ref m24, .ref m25, .ref m26, .ref m27, .int 0, .ref m29])), (m3, .inl (j3, 8, .inl (fun _ => 0))), (m5, .inl (j5, 40, .inl (fun _ => 0))), (m6, .inl (j6, 40, .inl (fun _ => 0))), (m7, .inl (j7, 40, .inl (fun _ => 0))), (m8, .inl (j8, 40, .inl (fun _ => 0))), (m9, .inl (j9, 40, .inl (fun _ => 0))), (m10, .inl (j10, 40, .inl (fun _ => 0))), (ou, .inl (k4, 1, .inr (.inl (fun _ => 0))))] := hD
  have hK : va_K (dC, dI) cls_ [(k1, .object "TwinTuners$Request"), (k2, .int), (k3, .int), (j3, .int), (j5, .int), (j6, .int), (j7, .int), (j8, .int), (j9, .int), (j10, .int), (k4, .long)] s := hK
  refine W.eq (g2 := F0 m 500 ls [.int 0]) rfl ?_
  refine W.cs (cells' := 38) (slots' := 14124) rfl rfl ?_
  refine lv_aload_n hx hb d_LW_law_500 rfl (lv_at hl 2 rfl) ?_
  have hPc := hP.sub (ws' := [(g0, .inr (5, [.int 0, .int 0, .int (-1), .ref m3, .int 0, .ref m5, .ref m6, .ref m7, .ref m8, .ref m9, .ref m10, .ref m11, .ref m12, .ref m13, .ref m14, .ref m15, .ref m16, .ref m17, .ref m18, .ref m19, .ref m20, .int 0, .ref m22, .ref m23, .ref m24, .ref m25, .ref m26, .ref m27, .int 0, .ref m29]))]) [5] rfl
  have hKc := hK.sub (tys' := []) [] rfl
  have hDc := hD.sub (ws' := [(g0, .inr (5, [.int 0, .int 0, .int (-1), .ref m3, .int 0, .ref m5, .ref m6, .ref m7, .ref m8, .ref m9, .ref m10, .ref m11, .ref m12, .ref m13, .ref m14, .ref m15, .ref m16, .ref m17, .ref m18, .ref m19, .ref m20, .int 0, .ref m22, .ref m23, .ref m24, .ref m25, .ref m26, .ref m27, .int 0, .ref m29]))]) [5] (by decide) rfl
  have hFc := va_free (wc := [(g0, .inr (5, [.int 0, .int 0, .int (-1), .ref m3, .int 0, .ref m5, .ref m6, .ref m7, .ref m8, .ref m9, .ref m10, .ref m11, .ref m12, .ref m13, .ref m14, .ref m15, .ref m16, .ref m17, .ref m18, .ref m19, .ref m20, .int 0, .ref m22, .ref m23, .ref m24, .ref m25, .ref m26, .ref m27, .int 0, .ref m29]))]) hD hS hA [5] rfl
  refine fr_call (va_runV (C := R_MO) (As := []) (rest := [.int 0]) ⟨hx, hb, hml, hown, ht⟩ (c_MO_tick_0 l dC dI H.size s.heap.size g0 m3 m5 m6 m7 m8 m9 m10 m11 m12 m13 m14 m15 m16 m17 m18 m19 m20 m22 m23 m24 m25 m26 m27 m29) (cwV 0 ht (gV tb_804 tb_805 tb_806 tb_5 tb_807) rfl rfl rfl (by decide +kernel) ⟨Nat.le_of_ble_eq_true rfl, Nat.le_of_ble_eq_true rfl⟩) ⟨frP_blind, va_recv (q := (R_MO, F_MO, 30)) hK hP rfl (show ([(rq, .inl (k1, 40, .inr (.inr (.inr (.inr (fun _ => none)))))), (oa, .inl (k2, 8, .inl (fun _ => 0))), (dk, .inr (2, [.ref d1, .ref d2, .ref d3, .ref d4])), (d1, .inl (k3, 24, .inl (fun _ => -1))), (rw, .inr (3, [.ref r1, .int 0, .int 0])), (g0, .inr (5, [.int 0, .int 0, .int (-1), .ref m3, .int 0, .ref m5, .ref m6, .ref m7, .ref m8, .ref m9, .ref m10, .ref m11, .ref m12, .ref m13, .ref m14, .ref m15, .ref m16, .ref m17, .ref m18, .ref m19, .ref m20, .int 0, .ref m22, .ref m23, .ref m24, .ref m25, .ref m26, .ref m27, .int 0, .ref m29])), (m3, .inl (j3, 8, .inl (fun _ => 0))), (m5, .inl (j5, 40, .inl (fun _ => 0))), (m6, .inl (j6, 40, .inl (fun _ => 0))), (m7, .inl (j7, 40, .inl (fun _ => 0))), (m8, .inl (j8, 40, .inl (fun _ => 0))), (m9, .inl (j9, 40, .inl (fun _ => 0))), (m10, .inl (j10, 40, .inl (fun _ => 0))), (ou, .inl (k4, 1, .inr (.inl (fun _ => 0))))] : va_W)[5]? = some (g0, .inr (5, [.int 0, .int 0, .int (-1), .ref m3, .int 0, .ref m5, .ref m6, .ref m7, .ref m8, .ref m9, .ref m10, .ref m11, .ref m12, .ref m13, .ref m14, .ref m15, .ref m16, .ref m17, .ref m18, .ref m19, .ref m20, .int 0, .ref m22, .ref m23, .ref m24, .ref m25, .ref m26, .ref m27, .int 0, .ref m29])) from rfl), fr_pre hPc hKc hDc hAB hBs hS hV⟩ rfl rfl hl.1 rfl (lv_room (Nat.le_of_ble_eq_true rfl)) d_LW_law_501 ⟨Nat.le_of_ble_eq_true rfl, Nat.le_of_ble_eq_true rfl⟩) hS (fun q _ h => hFc q h) hFc (fun t H1 locs ht1 hvm hB1 hz1 hk1 hS => ?_)
  obtain ⟨hP1, hK1, hD1⟩ := hB1
  rw [ht1] at hP1
  have hK1 := va_K.moved hvm.symm hK1
  obtain ⟨hP, hD⟩ := va_join (wr := [(rq, .inl (k1, 40, .inr (.inr (.inr (.inr (fun _ => none)))))), (oa, .inl (k2, 8, .inl (fun _ => 0))), (dk, .inr (2, [.ref d1, .ref d2, .ref d3, .ref d4])), (d1, .inl (k3, 24, .inl (fun _ => -1))), (rw, .inr (3, [.ref r1, .int 0, .int 0])), (m3, .inl (j3, 8, .inl (fun _ => 0))), (m5, .inl (j5, 40, .inl (fun _ => 0))), (m6, .inl (j6, 40, .inl (fun _ => 0))), (m7, .inl (j7, 40, .inl (fun _ => 0))), (m8, .inl (j8, 40, .inl (fun _ => 0))), (m9, .inl (j9, 40, .inl (fun _ => 0))), (m10, .inl (j10, 40, .inl (fun _ => 0))), (ou, .inl (k4, 1, .inr (.inl (fun _ => 0))))]) (w1 := []) hP hD [5] [0, 1, 2, 3, 4, 6, 7, 8, 9, 10, 11, 12, 13] rfl rfl (by decide) (by decide) hk1 hFc hP1 hD1
  have hK := hK.app hK1
  generalize H1 = H at hP hS ⊢
  have hP : va_P (dC, dI) cls_ [(rq, .inl (k1, 40, .inr (.inr (.inr (.inr (fun _ => none)))))), (oa, .inl (k2, 8, .inl (fun _ => 0))), (dk, .inr (2, [.ref d1, .ref d2, .ref d3, .ref d4])), (d1, .inl (k3, 24, .inl (fun _ => -1))), (rw, .inr (3, [.ref r1, .int 0, .int 0])), (m3, .inl (j3, 8, .inl (fun _ => 0))), (m5, .inl (j5, 40, .inl (fun _ => 0))), (m6, .inl (j6, 40, .inl (fun _ => 0))), (m7, .inl (j7, 40, .inl (fun _ => 0))), (m8, .inl (j8, 40, .inl (fun _ => 0))), (m9, .inl (j9, 40, .inl (fun _ => 0))), (m10, .inl (j10, 40, .inl (fun _ => 0))), (ou, .inl (k4, 1, .inr (.inl (fun _ => 0))))] H := hP
  have hD : va_D A [(rq, .inl (k1, 40, .inr (.inr (.inr (.inr (fun _ => none)))))), (oa, .inl (k2, 8, .inl (fun _ => 0))), (dk, .inr (2, [.ref d1, .ref d2, .ref d3, .ref d4])), (d1, .inl (k3, 24, .inl (fun _ => -1))), (rw, .inr (3, [.ref r1, .int 0, .int 0])), (m3, .inl (j3, 8, .inl (fun _ => 0))), (m5, .inl (j5, 40, .inl (fun _ => 0))), (m6, .inl (j6, 40, .inl (fun _ => 0))), (m7, .inl (j7, 40, .inl (fun _ => 0))), (m8, .inl (j8, 40, .inl (fun _ => 0))), (m9, .inl (j9, 40, .inl (fun _ => 0))), (m10, .inl (j10, 40, .inl (fun _ => 0))), (ou, .inl (k4, 1, .inr (.inl (fun _ => 0))))] := hD
  have hK : va_K (dC, dI) cls_ [(k1, .object "TwinTuners$Request"), (k2, .int), (k3, .int), (j3, .int), (j5, .int), (j6, .int), (j7, .int), (j8, .int), (j9, .int), (j10, .int), (k4, .long)] s := hK
  refine W.eq (g2 := F0 m 504 ls [.int 0, .int 0]) rfl ?_
  refine W.cs (cells' := 38) (slots' := 14124) rfl rfl ?_
  refine lv_icmp_eq (tgt := 1228) hx hb d_LW_law_504 (by decide) (fun _ => ?_) (fun h9 => absurd (rfl) h9)
  have hl := lv_sub hl [0, 4] (l' := [(4, .int 0), (0, .ref b)]) rfl
  exact tl_end hx hb hr hlocks hbl hbA hAB hX (Nat.le_of_ble_eq_true rfl) (Nat.le_of_ble_eq_true rfl) hS hl
set_option maxHeartbeats 4000000 in
set_option maxRecDepth 100000 in
theorem cs_8 {p : Program} {l : Launch} {e : Env} {s : State} {m : MethodId} {below : List Frame} {meth : Method} {c : Code} {A : Nat → Prop} {b : Nat} {H : Heap} {locs : List Loc} {ls : Array Slot} {xs : Nat → Int32} (dC : Nat → ClassId) (dI : Nat → Nat → Nat) (h0 rq oa pl dk rw q9 d1 d2 d3 d4 r1 g0 m3 m5 m6 m7 m8 m9 m10 m11 m12 m13 m14 m15 m16 m17 m18 m19 m20 m22 m23 m24 m25 m26 m27 m29 ou : Nat) (k1 k2 k3 j3 j5 j6 j7 j8 j9 j10 k4 : ClassId) (hl9 : l.stackTraces = false) (hx : p.tables.exec = Jvm.exec) (hb : c.code = code) (hr : meth.sig.returnType = ret) (hlocks : meth.locks = false) (hbl : b < s.heap.size) (hbA : ¬ A b) (hAB : ∀ q, A q → s.heap.size ≤ q) (hX : va_X b 6 xs s s.heap) (hml : c.maxLocals = 8) (hown : s.vm.findClass R_LW = some m.cls) (ht : ∀ w ∈ tb_, w.before #[Value.ref b] s = true) (hA : ∀ q : Nat, s.heap.size ≤ q → A q) (hBs : s.heap.size ≤ s.heap.size) (hV : tw_V s.heap.size s s.heap)
    (hK : va_K (dC, dI) cls_ [(k1, .object "TwinTuners$Request"), (k2, .int), (k3, .int), (j3, .int), (j5, .int), (j6, .int), (j7, .int), (j8, .int), (j9, .int), (j10, .int), (k4, .long)] s) (hP : va_P (dC, dI) cls_ [(h0, .inr (0, [.ref rq, .ref oa, .ref pl, .ref dk, .ref rw, .int 0, .int 0, .int (-1)])), (rq, .inl (k1, 40, .inr (.inr (.inr (.inr (fun _ => none)))))), (oa, .inl (k2, 8, .inl (fun _ => 0))), (pl, .inr (1, [.ref q9, .int 0])), (dk, .inr (2, [.ref d1, .ref d2, .ref d3, .ref d4])), (d1, .inl (k3, 24, .inl (fun _ => -1))), (rw, .inr (3, [.ref r1, .int 0, .int 0])), (g0, .inr (5, [.int 0, .int 0, .int (-1), .ref m3, .int 0, .ref m5, .ref m6, .ref m7, .ref m8, .ref m9, .ref m10, .ref m11, .ref m12, .ref m13, .ref m14, .ref m15, .ref m16, .ref m17, .ref m18, .ref m19, .ref m20, .int 0, .ref m22, .ref m23, .ref m24, .ref m25, .ref m26, .ref m27, .int 0, .ref m29])), (m3, .inl (j3, 8, .inl (fun _ => 0))), (m5, .inl (j5, 40, .inl (fun _ => 0))), (m6, .inl (j6, 40, .inl (fun _ => 0))), (m7, .inl (j7, 40, .inl (fun _ => 0))), (m8, .inl (j8, 40, .inl (fun _ => 0))), (m9, .inl (j9, 40, .inl (fun _ => 0))), (m10, .inl (j10, 40, .inl (fun _ => 0))), (ou, .inl (k4, 1, .inr (.inl (fun _ => 0))))] H) (hD : va_D A [(h0, .inr (0, [.ref rq, .ref oa, .ref pl, .ref dk, .ref rw, .int 0, .int 0, .int (-1)])), (rq, .inl (k1, 40, .inr (.inr (.inr (.inr (fun _ => none)))))), (oa, .inl (k2, 8, .inl (fun _ => 0))), (pl, .inr (1, [.ref q9, .int 0])), (dk, .inr (2, [.ref d1, .ref d2, .ref d3, .ref d4])), (d1, .inl (k3, 24, .inl (fun _ => -1))), (rw, .inr (3, [.ref r1, .int 0, .int 0])), (g0, .inr (5, [.int 0, .int 0, .int (-1), .ref m3, .int 0, .ref m5, .ref m6, .ref m7, .ref m8, .ref m9, .ref m10, .ref m11, .ref m12, .ref m13, .ref m14, .ref m15, .ref m16, .ref m17, .ref m18, .ref m19, .ref m20, .int 0, .ref m22, .ref m23, .ref m24, .ref m25, .ref m26, .ref m27, .int 0, .ref m29])), (m3, .inl (j3, 8, .inl (fun _ => 0))), (m5, .inl (j5, 40, .inl (fun _ => 0))), (m6, .inl (j6, 40, .inl (fun _ => 0))), (m7, .inl (j7, 40, .inl (fun _ => 0))), (m8, .inl (j8, 40, .inl (fun _ => 0))), (m9, .inl (j9, 40, .inl (fun _ => 0))), (m10, .inl (j10, 40, .inl (fun _ => 0))), (ou, .inl (k4, 1, .inr (.inl (fun _ => 0))))]) (hS : va_S A s.heap H locs) (hl : lv_has ls 8 [(4, .int 0), (3, .ref ou), (2, .ref g0), (1, .ref h0), (0, .ref b)]) : W p l e room_1 s m #[Value.ref b] below meth c H locs 38 14124 (lw_Z below #[Value.ref b] s) (F0 m 565 ls []) := by
  refine lv_aload_n hx hb d_LW_law_565 rfl (lv_at hl 3 rfl) ?_
  have hPc := hP.sub (ws' := [(h0, .inr (0, [.ref rq, .ref oa, .ref pl, .ref dk, .ref rw, .int 0, .int 0, .int (-1)]))]) [0] rfl
  have hKc := hK.sub (tys' := []) [] rfl
  refine rd_call (va_runV (C := R_TT) (As := []) (rest := []) ⟨hx, hb, hml, hown, ht⟩ (c_TT_now_0 l dC dI h0 rq oa pl dk rw) (cwV 0 ht (gV tb_243 tb_244 tb_245 tb_1 tb_246) rfl rfl rfl (by decide +kernel) ⟨Nat.le_of_ble_eq_true rfl, Nat.le_of_ble_eq_true rfl⟩) ⟨rdP_blind, va_recv (q := (R_TT, F_TT, 8)) hK hP rfl (show ([(h0, .inr (0, [.ref rq, .ref oa, .ref pl, .ref dk, .ref rw, .int 0, .int 0, .int (-1)])), (rq, .inl (k1, 40, .inr (.inr (.inr (.inr (fun _ => none)))))), (oa, .inl (k2, 8, .inl (fun _ => 0))), (pl, .inr (1, [.ref q9, .int 0])), (dk, .inr (2, [.ref d1, .ref d2, .ref d3, .ref d4])), (d1, .inl (k3, 24, .inl (fun _ => -1))), (rw, .inr (3, [.ref r1, .int 0, .int 0])), (g0, .inr (5, [.int 0, .int 0, .int (-1), .ref m3, .int 0, .ref m5, .ref m6, .ref m7, .ref m8, .ref m9, .ref m10, .ref m11, .ref m12, .ref m13, .ref m14, .ref m15, .ref m16, .ref m17, .ref m18, .ref m19, .ref m20, .int 0, .ref m22, .ref m23, .ref m24, .ref m25, .ref m26, .ref m27, .int 0, .ref m29])), (m3, .inl (j3, 8, .inl (fun _ => 0))), (m5, .inl (j5, 40, .inl (fun _ => 0))), (m6, .inl (j6, 40, .inl (fun _ => 0))), (m7, .inl (j7, 40, .inl (fun _ => 0))), (m8, .inl (j8, 40, .inl (fun _ => 0))), (m9, .inl (j9, 40, .inl (fun _ => 0))), (m10, .inl (j10, 40, .inl (fun _ => 0))), (ou, .inl (k4, 1, .inr (.inl (fun _ => 0))))] : va_W)[0]? = some (h0, .inr (0, [.ref rq, .ref oa, .ref pl, .ref dk, .ref rw, .int 0, .int 0, .int (-1)])) from rfl), rd_pre hPc hKc⟩ rfl rfl hl.1 rfl (lv_room (Nat.le_of_ble_eq_true rfl)) d_LW_law_566 ⟨Nat.le_of_ble_eq_true rfl, Nat.le_of_ble_eq_true rfl⟩) ?_
  refine W.eq (g2 := F0 m 569 ls [.int 0]) rfl ?_
  refine lv_aload_n hx hb d_LW_law_569 rfl (lv_at hl 2 rfl) ?_
  have hPc := hP.sub (ws' := [(g0, .inr (5, [.int 0, .int 0, .int (-1), .ref m3, .int 0, .ref m5, .ref m6, .ref m7, .ref m8, .ref m9, .ref m10, .ref m11, .ref m12, .ref m13, .ref m14, .ref m15, .ref m16, .ref m17, .ref m18, .ref m19, .ref m20, .int 0, .ref m22, .ref m23, .ref m24, .ref m25, .ref m26, .ref m27, .int 0, .ref m29]))]) [7] rfl
  have hKc := hK.sub (tys' := []) [] rfl
  have hDc := hD.sub (ws' := [(g0, .inr (5, [.int 0, .int 0, .int (-1), .ref m3, .int 0, .ref m5, .ref m6, .ref m7, .ref m8, .ref m9, .ref m10, .ref m11, .ref m12, .ref m13, .ref m14, .ref m15, .ref m16, .ref m17, .ref m18, .ref m19, .ref m20, .int 0, .ref m22, .ref m23, .ref m24, .ref m25, .ref m26, .ref m27, .int 0, .ref m29]))]) [7] (by decide) rfl
  have hFc := va_free (wc := [(g0, .inr (5, [.int 0, .int 0, .int (-1), .ref m3, .int 0, .ref m5, .ref m6, .ref m7, .ref m8, .ref m9, .ref m10, .ref m11, .ref m12, .ref m13, .ref m14, .ref m15, .ref m16, .ref m17, .ref m18, .ref m19, .ref m20, .int 0, .ref m22, .ref m23, .ref m24, .ref m25, .ref m26, .ref m27, .int 0, .ref m29]))]) hD hS hA [7] rfl
  refine fr_call (va_runV (C := R_MO) (As := []) (rest := [.int 0]) ⟨hx, hb, hml, hown, ht⟩ (c_MO_now_0 l dC dI H.size s.heap.size g0 m3 m5 m6 m7 m8 m9 m10 m11 m12 m13 m14 m15 m16 m17 m18 m19 m20 m22 m23 m24 m25 m26 m27 m29) (cwV 0 ht (gV tb_856 tb_857 tb_858 tb_5 tb_859) rfl rfl rfl (by decide +kernel) ⟨Nat.le_of_ble_eq_true rfl, Nat.le_of_ble_eq_true rfl⟩) ⟨frP_blind, va_recv (q := (R_MO, F_MO, 30)) hK hP rfl (show ([(h0, .inr (0, [.ref rq, .ref oa, .ref pl, .ref dk, .ref rw, .int 0, .int 0, .int (-1)])), (rq, .inl (k1, 40, .inr (.inr (.inr (.inr (fun _ => none)))))), (oa, .inl (k2, 8, .inl (fun _ => 0))), (pl, .inr (1, [.ref q9, .int 0])), (dk, .inr (2, [.ref d1, .ref d2, .ref d3, .ref d4])), (d1, .inl (k3, 24, .inl (fun _ => -1))), (rw, .inr (3, [.ref r1, .int 0, .int 0])), (g0, .inr (5, [.int 0, .int 0, .int (-1), .ref m3, .int 0, .ref m5, .ref m6, .ref m7, .ref m8, .ref m9, .ref m10, .ref m11, .ref m12, .ref m13, .ref m14, .ref m15, .ref m16, .ref m17, .ref m18, .ref m19, .ref m20, .int 0, .ref m22, .ref m23, .ref m24, .ref m25, .ref m26, .ref m27, .int 0, .ref m29])), (m3, .inl (j3, 8, .inl (fun _ => 0))), (m5, .inl (j5, 40, .inl (fun _ => 0))), (m6, .inl (j6, 40, .inl (fun _ => 0))), (m7, .inl (j7, 40, .inl (fun _ => 0))), (m8, .inl (j8, 40, .inl (fun _ => 0))), (m9, .inl (j9, 40, .inl (fun _ => 0))), (m10, .inl (j10, 40, .inl (fun _ => 0))), (ou, .inl (k4, 1, .inr (.inl (fun _ => 0))))] : va_W)[7]? = some (g0, .inr (5, [.int 0, .int 0, .int (-1), .ref m3, .int 0, .ref m5, .ref m6, .ref m7, .ref m8, .ref m9, .ref m10, .ref m11, .ref m12, .ref m13, .ref m14, .ref m15, .ref m16, .ref m17, .ref m18, .ref m19, .ref m20, .int 0, .ref m22, .ref m23, .ref m24, .ref m25, .ref m26, .ref m27, .int 0, .ref m29])) from rfl), fr_pre hPc hKc hDc hAB hBs hS hV⟩ rfl rfl hl.1 rfl (lv_room (Nat.le_of_ble_eq_true rfl)) d_LW_law_570 ⟨Nat.le_of_ble_eq_true rfl, Nat.le_of_ble_eq_true rfl⟩) hS (fun q _ h => hFc q h) hFc (fun t H1 locs ht1 hvm hB1 hz1 hk1 hS => ?_)
  obtain ⟨hP1, hK1, hD1⟩ := hB1
  rw [ht1] at hP1
  have hK1 := va_K.moved hvm.symm hK1
  obtain ⟨hP, hD⟩ := va_join (wr := [(h0, .inr (0, [.ref rq, .ref oa, .ref pl, .ref dk, .ref rw, .int 0, .int 0, .int (-1)])), (rq, .inl (k1, 40, .inr (.inr (.inr (.inr (fun _ => none)))))), (oa, .inl (k2, 8, .inl (fun _ => 0))), (pl, .inr (1, [.ref q9, .int 0])), (dk, .inr (2, [.ref d1, .ref d2, .ref d3, .ref d4])), (d1, .inl (k3, 24, .inl (fun _ => -1))), (rw, .inr (3, [.ref r1, .int 0, .int 0])), (m3, .inl (j3, 8, .inl (fun _ => 0))), (m5, .inl (j5, 40, .inl (fun _ => 0))), (m6, .inl (j6, 40, .inl (fun _ => 0))), (m7, .inl (j7, 40, .inl (fun _ => 0))), (m8, .inl (j8, 40, .inl (fun _ => 0))), (m9, .inl (j9, 40, .inl (fun _ => 0))), (m10, .inl (j10, 40, .inl (fun _ => 0))), (ou, .inl (k4, 1, .inr (.inl (fun _ => 0))))]) (w1 := [(g0, .inr (5, [.int 0, .int 0, .int (-1), .ref m3, .int 0, .ref m5, .ref m6, .ref m7, .ref m8, .ref m9, .ref m10, .ref m11, .ref m12, .ref m13, .ref m14, .ref m15, .ref m16, .ref m17, .ref m18, .ref m19, .ref m20, .int 0, .ref m22, .ref m23, .ref m24, .ref m25, .ref m26, .ref m27, .int 0, .ref m29]))]) hP hD [7] [0, 1, 2, 3, 4, 5, 6, 8, 9, 10, 11, 12, 13, 14, 15] rfl rfl (by decide) (by decide) hk1 hFc hP1 hD1
  have hK := hK.app hK1
  generalize H1 = H at hP hS ⊢
  have hP : va_P (dC, dI) cls_ [(h0, .inr (0, [.ref rq, .ref oa, .ref pl, .ref dk, .ref rw, .int 0, .int 0, .int (-1)])), (rq, .inl (k1, 40, .inr (.inr (.inr (.inr (fun _ => none)))))), (oa, .inl (k2, 8, .inl (fun _ => 0))), (pl, .inr (1, [.ref q9, .int 0])), (dk, .inr (2, [.ref d1, .ref d2, .ref d3, .ref d4])), (d1, .inl (k3, 24, .inl (fun _ => -1))), (rw, .inr (3, [.ref r1, .int 0, .int 0])), (m3, .inl (j3, 8, .inl (fun _ => 0))), (m5, .inl (j5, 40, .inl (fun _ => 0))), (m6, .inl (j6, 40, .inl (fun _ => 0))), (m7, .inl (j7, 40, .inl (fun _ => 0))), (m8, .inl (j8, 40, .inl (fun _ => 0))), (m9, .inl (j9, 40, .inl (fun _ => 0))), (m10, .inl (j10, 40, .inl (fun _ => 0))), (ou, .inl (k4, 1, .inr (.inl (fun _ => 0)))), (g0, .inr (5, [.int 0, .int 0, .int (-1), .ref m3, .int 0, .ref m5, .ref m6, .ref m7, .ref m8, .ref m9, .ref m10, .ref m11, .ref m12, .ref m13, .ref m14, .ref m15, .ref m16, .ref m17, .ref m18, .ref m19, .ref m20, .int 0, .ref m22, .ref m23, .ref m24, .ref m25, .ref m26, .ref m27, .int 0, .ref m29]))] H := hP
  have hD : va_D A [(h0, .inr (0, [.ref rq, .ref oa, .ref pl, .ref dk, .ref rw, .int 0, .int 0, .int (-1)])), (rq, .inl (k1, 40, .inr (.inr (.inr (.inr (fun _ => none)))))), (oa, .inl (k2, 8, .inl (fun _ => 0))), (pl, .inr (1, [.ref q9, .int 0])), (dk, .inr (2, [.ref d1, .ref d2, .ref d3, .ref d4])), (d1, .inl (k3, 24, .inl (fun _ => -1))), (rw, .inr (3, [.ref r1, .int 0, .int 0])), (m3, .inl (j3, 8, .inl (fun _ => 0))), (m5, .inl (j5, 40, .inl (fun _ => 0))), (m6, .inl (j6, 40, .inl (fun _ => 0))), (m7, .inl (j7, 40, .inl (fun _ => 0))), (m8, .inl (j8, 40, .inl (fun _ => 0))), (m9, .inl (j9, 40, .inl (fun _ => 0))), (m10, .inl (j10, 40, .inl (fun _ => 0))), (ou, .inl (k4, 1, .inr (.inl (fun _ => 0)))), (g0, .inr (5, [.int 0, .int 0, .int (-1), .ref m3, .int 0, .ref m5, .ref m6, .ref m7, .ref m8, .ref m9, .ref m10, .ref m11, .ref m12, .ref m13, .ref m14, .ref m15, .ref m16, .ref m17, .ref m18, .ref m19, .ref m20, .int 0, .ref m22, .ref m23, .ref m24, .ref m25, .ref m26, .ref m27, .int 0, .ref m29]))] := hD
  have hK : va_K (dC, dI) cls_ [(k1, .object "TwinTuners$Request"), (k2, .int), (k3, .int), (j3, .int), (j5, .int), (j6, .int), (j7, .int), (j8, .int), (j9, .int), (j10, .int), (k4, .long)] s := hK
  refine W.eq (g2 := F0 m 573 ls [.int 0, .int 0]) rfl ?_
  refine W.cs (cells' := 38) (slots' := 14124) rfl rfl ?_
  refine lv_icmp_eq (tgt := 1228) hx hb d_LW_law_573 (by decide) (fun _ => ?_) (fun h9 => absurd (rfl) h9)
  have hl := lv_sub hl [0, 4] (l' := [(4, .int 0), (0, .ref b)]) rfl
  exact tl_end hx hb hr hlocks hbl hbA hAB hX (Nat.le_of_ble_eq_true rfl) (Nat.le_of_ble_eq_true rfl) hS hl
set_option maxHeartbeats 4000000 in
set_option maxRecDepth 100000 in
theorem cs_17 {p : Program} {l : Launch} {e : Env} {s : State} {m : MethodId} {below : List Frame} {meth : Method} {c : Code} {A : Nat → Prop} {b : Nat} {H : Heap} {locs : List Loc} {ls : Array Slot} {xs : Nat → Int32} (dC : Nat → ClassId) (dI : Nat → Nat → Nat) (h0 rq oa pl dk rw q9 d1 d2 d3 d4 r1 g0 m3 m5 m6 m7 m8 m9 m10 m11 m12 m13 m14 m15 m16 m17 m18 m19 m20 m22 m23 m24 m25 m26 m27 m29 ou : Nat) (k1 k2 k3 j3 j5 j6 j7 j8 j9 j10 k4 : ClassId) (hl9 : l.stackTraces = false) (hx : p.tables.exec = Jvm.exec) (hb : c.code = code) (hr : meth.sig.returnType = ret) (hlocks : meth.locks = false) (hbl : b < s.heap.size) (hbA : ¬ A b) (hAB : ∀ q, A q → s.heap.size ≤ q) (hX : va_X b 6 xs s s.heap) (hml : c.maxLocals = 8) (hown : s.vm.findClass R_LW = some m.cls) (ht : ∀ w ∈ tb_, w.before #[Value.ref b] s = true) (hA : ∀ q : Nat, s.heap.size ≤ q → A q) (hBs : s.heap.size ≤ s.heap.size) (hV : tw_V s.heap.size s s.heap)
    (hK : va_K (dC, dI) cls_ [(k1, .object "TwinTuners$Request"), (k2, .int), (k3, .int), (j3, .int), (j5, .int), (j6, .int), (j7, .int), (j8, .int), (j9, .int), (j10, .int), (k4, .long)] s) (hP : va_P (dC, dI) cls_ [(h0, .inr (0, [.ref rq, .ref oa, .ref pl, .ref dk, .ref rw, .int 0, .int 0, .int (-1)])), (rq, .inl (k1, 40, .inr (.inr (.inr (.inr (fun _ => none)))))), (oa, .inl (k2, 8, .inl (fun _ => 0))), (pl, .inr (1, [.ref q9, .int 0])), (dk, .inr (2, [.ref d1, .ref d2, .ref d3, .ref d4])), (d1, .inl (k3, 24, .inl (fun _ => -1))), (rw, .inr (3, [.ref r1, .int 0, .int 0])), (g0, .inr (5, [.int 0, .int 0, .int (-1), .ref m3, .int 0, .ref m5, .ref m6, .ref m7, .ref m8, .ref m9, .ref m10, .ref m11, .ref m12, .ref m13, .ref m14, .ref m15, .ref m16, .ref m17, .ref m18, .ref m19, .ref m20, .int 0, .ref m22, .ref m23, .ref m24, .ref m25, .ref m26, .ref m27, .int 0, .ref m29])), (m3, .inl (j3, 8, .inl (fun _ => 0))), (m5, .inl (j5, 40, .inl (fun _ => 0))), (m6, .inl (j6, 40, .inl (fun _ => 0))), (m7, .inl (j7, 40, .inl (fun _ => 0))), (m8, .inl (j8, 40, .inl (fun _ => 0))), (m9, .inl (j9, 40, .inl (fun _ => 0))), (m10, .inl (j10, 40, .inl (fun _ => 0))), (ou, .inl (k4, 1, .inr (.inl (fun _ => 0))))] H) (hD : va_D A [(h0, .inr (0, [.ref rq, .ref oa, .ref pl, .ref dk, .ref rw, .int 0, .int 0, .int (-1)])), (rq, .inl (k1, 40, .inr (.inr (.inr (.inr (fun _ => none)))))), (oa, .inl (k2, 8, .inl (fun _ => 0))), (pl, .inr (1, [.ref q9, .int 0])), (dk, .inr (2, [.ref d1, .ref d2, .ref d3, .ref d4])), (d1, .inl (k3, 24, .inl (fun _ => -1))), (rw, .inr (3, [.ref r1, .int 0, .int 0])), (g0, .inr (5, [.int 0, .int 0, .int (-1), .ref m3, .int 0, .ref m5, .ref m6, .ref m7, .ref m8, .ref m9, .ref m10, .ref m11, .ref m12, .ref m13, .ref m14, .ref m15, .ref m16, .ref m17, .ref m18, .ref m19, .ref m20, .int 0, .ref m22, .ref m23, .ref m24, .ref m25, .ref m26, .ref m27, .int 0, .ref m29])), (m3, .inl (j3, 8, .inl (fun _ => 0))), (m5, .inl (j5, 40, .inl (fun _ => 0))), (m6, .inl (j6, 40, .inl (fun _ => 0))), (m7, .inl (j7, 40, .inl (fun _ => 0))), (m8, .inl (j8, 40, .inl (fun _ => 0))), (m9, .inl (j9, 40, .inl (fun _ => 0))), (m10, .inl (j10, 40, .inl (fun _ => 0))), (ou, .inl (k4, 1, .inr (.inl (fun _ => 0))))]) (hS : va_S A s.heap H locs) (hl : lv_has ls 8 [(4, .int 0), (3, .ref ou), (2, .ref g0), (1, .ref h0), (0, .ref b)]) : W p l e room_1 s m #[Value.ref b] below meth c H locs 38 14124 (lw_Z below #[Value.ref b] s) (F0 m 1023 ls []) := by
  refine lv_aload_n hx hb d_LW_law_1023 rfl (lv_at hl 3 rfl) ?_
  have hPc := hP.sub (ws' := [(h0, .inr (0, [.ref rq, .ref oa, .ref pl, .ref dk, .ref rw, .int 0, .int 0, .int (-1)])), (dk, .inr (2, [.ref d1, .ref d2, .ref d3, .ref d4])), (d1, .inl (k3, 24, .inl (fun _ => -1)))]) [0, 4, 5] rfl
  have hKc := hK.sub (tys' := [(k3, .int)]) [2] rfl
  refine rd_call (va_runV (C := R_TT) (As := []) (rest := []) ⟨hx, hb, hml, hown, ht⟩ (c_TT_free_0 l dC dI h0 rq oa pl rw dk d1 d2 d3 d4 k3) (cwV 0 ht (gV tb_257 tb_258 tb_259 tb_1 tb_260) rfl rfl rfl (by decide +kernel) ⟨Nat.le_of_ble_eq_true rfl, Nat.le_of_ble_eq_true rfl⟩) ⟨rdP_blind, va_recv (q := (R_TT, F_TT, 8)) hK hP rfl (show ([(h0, .inr (0, [.ref rq, .ref oa, .ref pl, .ref dk, .ref rw, .int 0, .int 0, .int (-1)])), (rq, .inl (k1, 40, .inr (.inr (.inr (.inr (fun _ => none)))))), (oa, .inl (k2, 8, .inl (fun _ => 0))), (pl, .inr (1, [.ref q9, .int 0])), (dk, .inr (2, [.ref d1, .ref d2, .ref d3, .ref d4])), (d1, .inl (k3, 24, .inl (fun _ => -1))), (rw, .inr (3, [.ref r1, .int 0, .int 0])), (g0, .inr (5, [.int 0, .int 0, .int (-1), .ref m3, .int 0, .ref m5, .ref m6, .ref m7, .ref m8, .ref m9, .ref m10, .ref m11, .ref m12, .ref m13, .ref m14, .ref m15, .ref m16, .ref m17, .ref m18, .ref m19, .ref m20, .int 0, .ref m22, .ref m23, .ref m24, .ref m25, .ref m26, .ref m27, .int 0, .ref m29])), (m3, .inl (j3, 8, .inl (fun _ => 0))), (m5, .inl (j5, 40, .inl (fun _ => 0))), (m6, .inl (j6, 40, .inl (fun _ => 0))), (m7, .inl (j7, 40, .inl (fun _ => 0))), (m8, .inl (j8, 40, .inl (fun _ => 0))), (m9, .inl (j9, 40, .inl (fun _ => 0))), (m10, .inl (j10, 40, .inl (fun _ => 0))), (ou, .inl (k4, 1, .inr (.inl (fun _ => 0))))] : va_W)[0]? = some (h0, .inr (0, [.ref rq, .ref oa, .ref pl, .ref dk, .ref rw, .int 0, .int 0, .int (-1)])) from rfl), rd_pre hPc hKc⟩ rfl rfl hl.1 rfl (lv_room (Nat.le_of_ble_eq_true rfl)) d_LW_law_1024 ⟨Nat.le_of_ble_eq_true rfl, Nat.le_of_ble_eq_true rfl⟩) ?_
  refine W.eq (g2 := F0 m 1027 ls [.int (nI 24)]) rfl ?_
  refine lv_aload_n hx hb d_LW_law_1027 rfl (lv_at hl 2 rfl) ?_
  have hPc := hP.sub (ws' := [(g0, .inr (5, [.int 0, .int 0, .int (-1), .ref m3, .int 0, .ref m5, .ref m6, .ref m7, .ref m8, .ref m9, .ref m10, .ref m11, .ref m12, .ref m13, .ref m14, .ref m15, .ref m16, .ref m17, .ref m18, .ref m19, .ref m20, .int 0, .ref m22, .ref m23, .ref m24, .ref m25, .ref m26, .ref m27, .int 0, .ref m29]))]) [7] rfl
  have hKc := hK.sub (tys' := []) [] rfl
  have hDc := hD.sub (ws' := [(g0, .inr (5, [.int 0, .int 0, .int (-1), .ref m3, .int 0, .ref m5, .ref m6, .ref m7, .ref m8, .ref m9, .ref m10, .ref m11, .ref m12, .ref m13, .ref m14, .ref m15, .ref m16, .ref m17, .ref m18, .ref m19, .ref m20, .int 0, .ref m22, .ref m23, .ref m24, .ref m25, .ref m26, .ref m27, .int 0, .ref m29]))]) [7] (by decide) rfl
  have hFc := va_free (wc := [(g0, .inr (5, [.int 0, .int 0, .int (-1), .ref m3, .int 0, .ref m5, .ref m6, .ref m7, .ref m8, .ref m9, .ref m10, .ref m11, .ref m12, .ref m13, .ref m14, .ref m15, .ref m16, .ref m17, .ref m18, .ref m19, .ref m20, .int 0, .ref m22, .ref m23, .ref m24, .ref m25, .ref m26, .ref m27, .int 0, .ref m29]))]) hD hS hA [7] rfl
  refine fr_call (va_runV (C := R_MO) (As := []) (rest := [.int (nI 24)]) ⟨hx, hb, hml, hown, ht⟩ (c_MO_free_0 l dC dI H.size s.heap.size g0 m3 m5 m6 m7 m8 m9 m10 m11 m12 m13 m14 m15 m16 m17 m18 m19 m20 m22 m23 m24 m25 m26 m27 m29) (cwV 0 ht (gV tb_898 tb_899 tb_900 tb_5 tb_901) rfl rfl rfl (by decide +kernel) ⟨Nat.le_of_ble_eq_true rfl, Nat.le_of_ble_eq_true rfl⟩) ⟨frP_blind, va_recv (q := (R_MO, F_MO, 30)) hK hP rfl (show ([(h0, .inr (0, [.ref rq, .ref oa, .ref pl, .ref dk, .ref rw, .int 0, .int 0, .int (-1)])), (rq, .inl (k1, 40, .inr (.inr (.inr (.inr (fun _ => none)))))), (oa, .inl (k2, 8, .inl (fun _ => 0))), (pl, .inr (1, [.ref q9, .int 0])), (dk, .inr (2, [.ref d1, .ref d2, .ref d3, .ref d4])), (d1, .inl (k3, 24, .inl (fun _ => -1))), (rw, .inr (3, [.ref r1, .int 0, .int 0])), (g0, .inr (5, [.int 0, .int 0, .int (-1), .ref m3, .int 0, .ref m5, .ref m6, .ref m7, .ref m8, .ref m9, .ref m10, .ref m11, .ref m12, .ref m13, .ref m14, .ref m15, .ref m16, .ref m17, .ref m18, .ref m19, .ref m20, .int 0, .ref m22, .ref m23, .ref m24, .ref m25, .ref m26, .ref m27, .int 0, .ref m29])), (m3, .inl (j3, 8, .inl (fun _ => 0))), (m5, .inl (j5, 40, .inl (fun _ => 0))), (m6, .inl (j6, 40, .inl (fun _ => 0))), (m7, .inl (j7, 40, .inl (fun _ => 0))), (m8, .inl (j8, 40, .inl (fun _ => 0))), (m9, .inl (j9, 40, .inl (fun _ => 0))), (m10, .inl (j10, 40, .inl (fun _ => 0))), (ou, .inl (k4, 1, .inr (.inl (fun _ => 0))))] : va_W)[7]? = some (g0, .inr (5, [.int 0, .int 0, .int (-1), .ref m3, .int 0, .ref m5, .ref m6, .ref m7, .ref m8, .ref m9, .ref m10, .ref m11, .ref m12, .ref m13, .ref m14, .ref m15, .ref m16, .ref m17, .ref m18, .ref m19, .ref m20, .int 0, .ref m22, .ref m23, .ref m24, .ref m25, .ref m26, .ref m27, .int 0, .ref m29])) from rfl), fr_pre hPc hKc hDc hAB hBs hS hV⟩ rfl rfl hl.1 rfl (lv_room (Nat.le_of_ble_eq_true rfl)) d_LW_law_1028 ⟨Nat.le_of_ble_eq_true rfl, Nat.le_of_ble_eq_true rfl⟩) hS (fun q _ h => hFc q h) hFc (fun t H1 locs ht1 hvm hB1 hz1 hk1 hS => ?_)
  obtain ⟨hP1, hK1, hD1⟩ := hB1
  rw [ht1] at hP1
  have hK1 := va_K.moved hvm.symm hK1
  obtain ⟨hP, hD⟩ := va_join (wr := [(h0, .inr (0, [.ref rq, .ref oa, .ref pl, .ref dk, .ref rw, .int 0, .int 0, .int (-1)])), (rq, .inl (k1, 40, .inr (.inr (.inr (.inr (fun _ => none)))))), (oa, .inl (k2, 8, .inl (fun _ => 0))), (pl, .inr (1, [.ref q9, .int 0])), (dk, .inr (2, [.ref d1, .ref d2, .ref d3, .ref d4])), (d1, .inl (k3, 24, .inl (fun _ => -1))), (rw, .inr (3, [.ref r1, .int 0, .int 0])), (m3, .inl (j3, 8, .inl (fun _ => 0))), (m5, .inl (j5, 40, .inl (fun _ => 0))), (m6, .inl (j6, 40, .inl (fun _ => 0))), (m7, .inl (j7, 40, .inl (fun _ => 0))), (m8, .inl (j8, 40, .inl (fun _ => 0))), (m9, .inl (j9, 40, .inl (fun _ => 0))), (m10, .inl (j10, 40, .inl (fun _ => 0))), (ou, .inl (k4, 1, .inr (.inl (fun _ => 0))))]) (w1 := [(g0, .inr (5, [.int 0, .int 0, .int (-1), .ref m3, .int 0, .ref m5, .ref m6, .ref m7, .ref m8, .ref m9, .ref m10, .ref m11, .ref m12, .ref m13, .ref m14, .ref m15, .ref m16, .ref m17, .ref m18, .ref m19, .ref m20, .int 0, .ref m22, .ref m23, .ref m24, .ref m25, .ref m26, .ref m27, .int 0, .ref m29]))]) hP hD [7] [0, 1, 2, 3, 4, 5, 6, 8, 9, 10, 11, 12, 13, 14, 15] rfl rfl (by decide) (by decide) hk1 hFc hP1 hD1
  have hK := hK.app hK1
  generalize H1 = H at hP hS ⊢
  have hP : va_P (dC, dI) cls_ [(h0, .inr (0, [.ref rq, .ref oa, .ref pl, .ref dk, .ref rw, .int 0, .int 0, .int (-1)])), (rq, .inl (k1, 40, .inr (.inr (.inr (.inr (fun _ => none)))))), (oa, .inl (k2, 8, .inl (fun _ => 0))), (pl, .inr (1, [.ref q9, .int 0])), (dk, .inr (2, [.ref d1, .ref d2, .ref d3, .ref d4])), (d1, .inl (k3, 24, .inl (fun _ => -1))), (rw, .inr (3, [.ref r1, .int 0, .int 0])), (m3, .inl (j3, 8, .inl (fun _ => 0))), (m5, .inl (j5, 40, .inl (fun _ => 0))), (m6, .inl (j6, 40, .inl (fun _ => 0))), (m7, .inl (j7, 40, .inl (fun _ => 0))), (m8, .inl (j8, 40, .inl (fun _ => 0))), (m9, .inl (j9, 40, .inl (fun _ => 0))), (m10, .inl (j10, 40, .inl (fun _ => 0))), (ou, .inl (k4, 1, .inr (.inl (fun _ => 0)))), (g0, .inr (5, [.int 0, .int 0, .int (-1), .ref m3, .int 0, .ref m5, .ref m6, .ref m7, .ref m8, .ref m9, .ref m10, .ref m11, .ref m12, .ref m13, .ref m14, .ref m15, .ref m16, .ref m17, .ref m18, .ref m19, .ref m20, .int 0, .ref m22, .ref m23, .ref m24, .ref m25, .ref m26, .ref m27, .int 0, .ref m29]))] H := hP
  have hD : va_D A [(h0, .inr (0, [.ref rq, .ref oa, .ref pl, .ref dk, .ref rw, .int 0, .int 0, .int (-1)])), (rq, .inl (k1, 40, .inr (.inr (.inr (.inr (fun _ => none)))))), (oa, .inl (k2, 8, .inl (fun _ => 0))), (pl, .inr (1, [.ref q9, .int 0])), (dk, .inr (2, [.ref d1, .ref d2, .ref d3, .ref d4])), (d1, .inl (k3, 24, .inl (fun _ => -1))), (rw, .inr (3, [.ref r1, .int 0, .int 0])), (m3, .inl (j3, 8, .inl (fun _ => 0))), (m5, .inl (j5, 40, .inl (fun _ => 0))), (m6, .inl (j6, 40, .inl (fun _ => 0))), (m7, .inl (j7, 40, .inl (fun _ => 0))), (m8, .inl (j8, 40, .inl (fun _ => 0))), (m9, .inl (j9, 40, .inl (fun _ => 0))), (m10, .inl (j10, 40, .inl (fun _ => 0))), (ou, .inl (k4, 1, .inr (.inl (fun _ => 0)))), (g0, .inr (5, [.int 0, .int 0, .int (-1), .ref m3, .int 0, .ref m5, .ref m6, .ref m7, .ref m8, .ref m9, .ref m10, .ref m11, .ref m12, .ref m13, .ref m14, .ref m15, .ref m16, .ref m17, .ref m18, .ref m19, .ref m20, .int 0, .ref m22, .ref m23, .ref m24, .ref m25, .ref m26, .ref m27, .int 0, .ref m29]))] := hD
  have hK : va_K (dC, dI) cls_ [(k1, .object "TwinTuners$Request"), (k2, .int), (k3, .int), (j3, .int), (j5, .int), (j6, .int), (j7, .int), (j8, .int), (j9, .int), (j10, .int), (k4, .long)] s := hK
  refine W.eq (g2 := F0 m 1031 ls [.int 24, .int (nI 24)]) rfl ?_
  refine W.cs (cells' := 38) (slots' := 14124) rfl rfl ?_
  refine lv_icmp_eq (tgt := 1228) hx hb d_LW_law_1031 (by decide) (fun _ => ?_) (fun h9 => absurd (show nI 24 = 24 by decide) h9)
  have hl := lv_sub hl [0, 4] (l' := [(4, .int 0), (0, .ref b)]) rfl
  exact tl_end hx hb hr hlocks hbl hbA hAB hX (Nat.le_of_ble_eq_true rfl) (Nat.le_of_ble_eq_true rfl) hS hl
set_option maxHeartbeats 4000000 in
set_option maxRecDepth 100000 in
theorem cs_10 {p : Program} {l : Launch} {e : Env} {s : State} {m : MethodId} {below : List Frame} {meth : Method} {c : Code} {A : Nat → Prop} {b : Nat} {H : Heap} {locs : List Loc} {ls : Array Slot} {xs : Nat → Int32} (dC : Nat → ClassId) (dI : Nat → Nat → Nat) (h0 rq oa pl dk rw q9 d1 d2 d3 d4 r1 g0 m3 m5 m6 m7 m8 m9 m10 m11 m12 m13 m14 m15 m16 m17 m18 m19 m20 m22 m23 m24 m25 m26 m27 m29 ou : Nat) (k1 k2 k3 j3 j5 j6 j7 j8 j9 j10 k4 : ClassId) (hl9 : l.stackTraces = false) (hx : p.tables.exec = Jvm.exec) (hb : c.code = code) (hr : meth.sig.returnType = ret) (hlocks : meth.locks = false) (hbl : b < s.heap.size) (hbA : ¬ A b) (hAB : ∀ q, A q → s.heap.size ≤ q) (hX : va_X b 6 xs s s.heap) (hml : c.maxLocals = 8) (hown : s.vm.findClass R_LW = some m.cls) (ht : ∀ w ∈ tb_, w.before #[Value.ref b] s = true) (hA : ∀ q : Nat, s.heap.size ≤ q → A q) (hBs : s.heap.size ≤ s.heap.size) (hV : tw_V s.heap.size s s.heap)
    (hK : va_K (dC, dI) cls_ [(k1, .object "TwinTuners$Request"), (k2, .int), (k3, .int), (j3, .int), (j5, .int), (j6, .int), (j7, .int), (j8, .int), (j9, .int), (j10, .int), (k4, .long)] s) (hP : va_P (dC, dI) cls_ [(h0, .inr (0, [.ref rq, .ref oa, .ref pl, .ref dk, .ref rw, .int 0, .int 0, .int (-1)])), (rq, .inl (k1, 40, .inr (.inr (.inr (.inr (fun _ => none)))))), (oa, .inl (k2, 8, .inl (fun _ => 0))), (pl, .inr (1, [.ref q9, .int 0])), (dk, .inr (2, [.ref d1, .ref d2, .ref d3, .ref d4])), (d1, .inl (k3, 24, .inl (fun _ => -1))), (rw, .inr (3, [.ref r1, .int 0, .int 0])), (g0, .inr (5, [.int 0, .int 0, .int (-1), .ref m3, .int 0, .ref m5, .ref m6, .ref m7, .ref m8, .ref m9, .ref m10, .ref m11, .ref m12, .ref m13, .ref m14, .ref m15, .ref m16, .ref m17, .ref m18, .ref m19, .ref m20, .int 0, .ref m22, .ref m23, .ref m24, .ref m25, .ref m26, .ref m27, .int 0, .ref m29])), (m3, .inl (j3, 8, .inl (fun _ => 0))), (m5, .inl (j5, 40, .inl (fun _ => 0))), (m6, .inl (j6, 40, .inl (fun _ => 0))), (m7, .inl (j7, 40, .inl (fun _ => 0))), (m8, .inl (j8, 40, .inl (fun _ => 0))), (m9, .inl (j9, 40, .inl (fun _ => 0))), (m10, .inl (j10, 40, .inl (fun _ => 0))), (ou, .inl (k4, 1, .inr (.inl (fun _ => 0))))] H) (hD : va_D A [(h0, .inr (0, [.ref rq, .ref oa, .ref pl, .ref dk, .ref rw, .int 0, .int 0, .int (-1)])), (rq, .inl (k1, 40, .inr (.inr (.inr (.inr (fun _ => none)))))), (oa, .inl (k2, 8, .inl (fun _ => 0))), (pl, .inr (1, [.ref q9, .int 0])), (dk, .inr (2, [.ref d1, .ref d2, .ref d3, .ref d4])), (d1, .inl (k3, 24, .inl (fun _ => -1))), (rw, .inr (3, [.ref r1, .int 0, .int 0])), (g0, .inr (5, [.int 0, .int 0, .int (-1), .ref m3, .int 0, .ref m5, .ref m6, .ref m7, .ref m8, .ref m9, .ref m10, .ref m11, .ref m12, .ref m13, .ref m14, .ref m15, .ref m16, .ref m17, .ref m18, .ref m19, .ref m20, .int 0, .ref m22, .ref m23, .ref m24, .ref m25, .ref m26, .ref m27, .int 0, .ref m29])), (m3, .inl (j3, 8, .inl (fun _ => 0))), (m5, .inl (j5, 40, .inl (fun _ => 0))), (m6, .inl (j6, 40, .inl (fun _ => 0))), (m7, .inl (j7, 40, .inl (fun _ => 0))), (m8, .inl (j8, 40, .inl (fun _ => 0))), (m9, .inl (j9, 40, .inl (fun _ => 0))), (m10, .inl (j10, 40, .inl (fun _ => 0))), (ou, .inl (k4, 1, .inr (.inl (fun _ => 0))))]) (hS : va_S A s.heap H locs) (hl : lv_has ls 8 [(4, .int 0), (3, .ref ou), (2, .ref g0), (1, .ref h0), (0, .ref b)]) : W p l e room_1 s m #[Value.ref b] below meth c H locs 38 14124 (lw_Z below #[Value.ref b] s) (F0 m 634 ls []) := by
  refine lv_aload_n hx hb d_LW_law_634 rfl (lv_at hl 3 rfl) ?_
  refine lv_aload_n hx hb d_LW_law_635 rfl (lv_at hl 4 rfl) ?_
  refine lv_iload hx hb d_LW_law_636 (lv_at hl 0 rfl) ?_
  refine lv_iconst (v := 1) hx hb d_LW_law_638 (by decide) ?_
  refine lv_iadd hx hb d_LW_law_639 ?_
  refine lv_topi (fun v1 ev1 => ?_)
  obtain rfl : v1 = 1 := ev1.trans (by decide)
  refine va_sld hx hb hX hbl hbA hS (show vp_in (nI 1) 6 from vp_in_nI (by decide) (by decide)) d_LW_law_640 ?_
  refine W.eq (g2 := F0 m 641 ls [.int (xs 1), .ref h0]) rfl ?_
  have hPc := hP.sub (ws' := [(h0, .inr (0, [.ref rq, .ref oa, .ref pl, .ref dk, .ref rw, .int 0, .int 0, .int (-1)])), (rw, .inr (3, [.ref r1, .int 0, .int 0]))]) [0, 6] rfl
  have hKc := hK.sub (tys' := []) [] rfl
  refine rd_call (va_runV (C := R_TT) (As := [.int (xs 1)]) (rest := []) ⟨hx, hb, hml, hown, ht⟩ (c_TT_back_0 l dC dI h0 rq oa pl dk rw r1 (xs 1)) (cwV 1 ht (gV tb_247 tb_248 tb_249 tb_1 tb_250) rfl rfl rfl (by decide +kernel) ⟨Nat.le_of_ble_eq_true rfl, Nat.le_of_ble_eq_true rfl⟩) ⟨rdP_blind, va_recv (q := (R_TT, F_TT, 8)) hK hP rfl (show ([(h0, .inr (0, [.ref rq, .ref oa, .ref pl, .ref dk, .ref rw, .int 0, .int 0, .int (-1)])), (rq, .inl (k1, 40, .inr (.inr (.inr (.inr (fun _ => none)))))), (oa, .inl (k2, 8, .inl (fun _ => 0))), (pl, .inr (1, [.ref q9, .int 0])), (dk, .inr (2, [.ref d1, .ref d2, .ref d3, .ref d4])), (d1, .inl (k3, 24, .inl (fun _ => -1))), (rw, .inr (3, [.ref r1, .int 0, .int 0])), (g0, .inr (5, [.int 0, .int 0, .int (-1), .ref m3, .int 0, .ref m5, .ref m6, .ref m7, .ref m8, .ref m9, .ref m10, .ref m11, .ref m12, .ref m13, .ref m14, .ref m15, .ref m16, .ref m17, .ref m18, .ref m19, .ref m20, .int 0, .ref m22, .ref m23, .ref m24, .ref m25, .ref m26, .ref m27, .int 0, .ref m29])), (m3, .inl (j3, 8, .inl (fun _ => 0))), (m5, .inl (j5, 40, .inl (fun _ => 0))), (m6, .inl (j6, 40, .inl (fun _ => 0))), (m7, .inl (j7, 40, .inl (fun _ => 0))), (m8, .inl (j8, 40, .inl (fun _ => 0))), (m9, .inl (j9, 40, .inl (fun _ => 0))), (m10, .inl (j10, 40, .inl (fun _ => 0))), (ou, .inl (k4, 1, .inr (.inl (fun _ => 0))))] : va_W)[0]? = some (h0, .inr (0, [.ref rq, .ref oa, .ref pl, .ref dk, .ref rw, .int 0, .int 0, .int (-1)])) from rfl), rd_pre hPc hKc⟩ rfl rfl hl.1 rfl (lv_room (Nat.le_of_ble_eq_true rfl)) d_LW_law_641 ⟨Nat.le_of_ble_eq_true rfl, Nat.le_of_ble_eq_true rfl⟩) ?_
  refine W.eq (g2 := F0 m 644 ls [.long (-1)]) rfl ?_
  refine lv_aload_n hx hb d_LW_law_644 rfl (lv_at hl 2 rfl) ?_
  refine lv_aload_n hx hb d_LW_law_645 rfl (lv_at hl 4 rfl) ?_
  refine lv_iload hx hb d_LW_law_646 (lv_at hl 0 rfl) ?_
  refine lv_iconst (v := 1) hx hb d_LW_law_648 (by decide) ?_
  refine lv_iadd hx hb d_LW_law_649 ?_
  refine lv_topi (fun v2 ev2 => ?_)
  obtain rfl : v2 = 1 := ev2.trans (by decide)
  refine va_sld hx hb hX hbl hbA hS (show vp_in (nI 1) 6 from vp_in_nI (by decide) (by decide)) d_LW_law_650 ?_
  refine W.eq (g2 := F0 m 651 ls [.int (xs 1), .ref g0, .long (-1)]) rfl ?_
  have hPc := hP.sub (ws' := [(g0, .inr (5, [.int 0, .int 0, .int (-1), .ref m3, .int 0, .ref m5, .ref m6, .ref m7, .ref m8, .ref m9, .ref m10, .ref m11, .ref m12, .ref m13, .ref m14, .ref m15, .ref m16, .ref m17, .ref m18, .ref m19, .ref m20, .int 0, .ref m22, .ref m23, .ref m24, .ref m25, .ref m26, .ref m27, .int 0, .ref m29]))]) [7] rfl
  have hKc := hK.sub (tys' := []) [] rfl
  have hDc := hD.sub (ws' := [(g0, .inr (5, [.int 0, .int 0, .int (-1), .ref m3, .int 0, .ref m5, .ref m6, .ref m7, .ref m8, .ref m9, .ref m10, .ref m11, .ref m12, .ref m13, .ref m14, .ref m15, .ref m16, .ref m17, .ref m18, .ref m19, .ref m20, .int 0, .ref m22, .ref m23, .ref m24, .ref m25, .ref m26, .ref m27, .int 0, .ref m29]))]) [7] (by decide) rfl
  have hFc := va_free (wc := [(g0, .inr (5, [.int 0, .int 0, .int (-1), .ref m3, .int 0, .ref m5, .ref m6, .ref m7, .ref m8, .ref m9, .ref m10, .ref m11, .ref m12, .ref m13, .ref m14, .ref m15, .ref m16, .ref m17, .ref m18, .ref m19, .ref m20, .int 0, .ref m22, .ref m23, .ref m24, .ref m25, .ref m26, .ref m27, .int 0, .ref m29]))]) hD hS hA [7] rfl
  refine fr_call (va_runV (C := R_MO) (As := [.int (xs 1)]) (rest := [.long (-1)]) ⟨hx, hb, hml, hown, ht⟩ (c_MO_back_0 l dC dI H.size s.heap.size g0 m3 m5 m6 m7 m8 m9 m10 m11 m12 m13 m14 m15 m16 m17 m18 m19 m20 m22 m23 m24 m25 m26 m27 m29 (xs 1)) (cwV 1 ht (gV tb_864 tb_865 tb_866 tb_5 tb_867) rfl rfl rfl (by decide +kernel) ⟨Nat.le_of_ble_eq_true rfl, Nat.le_of_ble_eq_true rfl⟩) ⟨frP_blind, va_recv (q := (R_MO, F_MO, 30)) hK hP rfl (show ([(h0, .inr (0, [.ref rq, .ref oa, .ref pl, .ref dk, .ref rw, .int 0, .int 0, .int (-1)])), (rq, .inl (k1, 40, .inr (.inr (.inr (.inr (fun _ => none)))))), (oa, .inl (k2, 8, .inl (fun _ => 0))), (pl, .inr (1, [.ref q9, .int 0])), (dk, .inr (2, [.ref d1, .ref d2, .ref d3, .ref d4])), (d1, .inl (k3, 24, .inl (fun _ => -1))), (rw, .inr (3, [.ref r1, .int 0, .int 0])), (g0, .inr (5, [.int 0, .int 0, .int (-1), .ref m3, .int 0, .ref m5, .ref m6, .ref m7, .ref m8, .ref m9, .ref m10, .ref m11, .ref m12, .ref m13, .ref m14, .ref m15, .ref m16, .ref m17, .ref m18, .ref m19, .ref m20, .int 0, .ref m22, .ref m23, .ref m24, .ref m25, .ref m26, .ref m27, .int 0, .ref m29])), (m3, .inl (j3, 8, .inl (fun _ => 0))), (m5, .inl (j5, 40, .inl (fun _ => 0))), (m6, .inl (j6, 40, .inl (fun _ => 0))), (m7, .inl (j7, 40, .inl (fun _ => 0))), (m8, .inl (j8, 40, .inl (fun _ => 0))), (m9, .inl (j9, 40, .inl (fun _ => 0))), (m10, .inl (j10, 40, .inl (fun _ => 0))), (ou, .inl (k4, 1, .inr (.inl (fun _ => 0))))] : va_W)[7]? = some (g0, .inr (5, [.int 0, .int 0, .int (-1), .ref m3, .int 0, .ref m5, .ref m6, .ref m7, .ref m8, .ref m9, .ref m10, .ref m11, .ref m12, .ref m13, .ref m14, .ref m15, .ref m16, .ref m17, .ref m18, .ref m19, .ref m20, .int 0, .ref m22, .ref m23, .ref m24, .ref m25, .ref m26, .ref m27, .int 0, .ref m29])) from rfl), fr_pre hPc hKc hDc hAB hBs hS hV⟩ rfl rfl hl.1 rfl (lv_room (Nat.le_of_ble_eq_true rfl)) d_LW_law_651 ⟨Nat.le_of_ble_eq_true rfl, Nat.le_of_ble_eq_true rfl⟩) hS (fun q _ h => hFc q h) hFc (fun t H1 locs ht1 hvm hB1 hz1 hk1 hS => ?_)
  obtain ⟨hP1, hK1, hD1⟩ := hB1
  rw [ht1] at hP1
  have hK1 := va_K.moved hvm.symm hK1
  obtain ⟨hP, hD⟩ := va_join (wr := [(h0, .inr (0, [.ref rq, .ref oa, .ref pl, .ref dk, .ref rw, .int 0, .int 0, .int (-1)])), (rq, .inl (k1, 40, .inr (.inr (.inr (.inr (fun _ => none)))))), (oa, .inl (k2, 8, .inl (fun _ => 0))), (pl, .inr (1, [.ref q9, .int 0])), (dk, .inr (2, [.ref d1, .ref d2, .ref d3, .ref d4])), (d1, .inl (k3, 24, .inl (fun _ => -1))), (rw, .inr (3, [.ref r1, .int 0, .int 0])), (m3, .inl (j3, 8, .inl (fun _ => 0))), (m5, .inl (j5, 40, .inl (fun _ => 0))), (m6, .inl (j6, 40, .inl (fun _ => 0))), (m7, .inl (j7, 40, .inl (fun _ => 0))), (m8, .inl (j8, 40, .inl (fun _ => 0))), (m9, .inl (j9, 40, .inl (fun _ => 0))), (m10, .inl (j10, 40, .inl (fun _ => 0))), (ou, .inl (k4, 1, .inr (.inl (fun _ => 0))))]) (w1 := [(g0, .inr (5, [.int 0, .int 0, .int (-1), .ref m3, .int 0, .ref m5, .ref m6, .ref m7, .ref m8, .ref m9, .ref m10, .ref m11, .ref m12, .ref m13, .ref m14, .ref m15, .ref m16, .ref m17, .ref m18, .ref m19, .ref m20, .int 0, .ref m22, .ref m23, .ref m24, .ref m25, .ref m26, .ref m27, .int 0, .ref m29]))]) hP hD [7] [0, 1, 2, 3, 4, 5, 6, 8, 9, 10, 11, 12, 13, 14, 15] rfl rfl (by decide) (by decide) hk1 hFc hP1 hD1
  have hK := hK.app hK1
  generalize H1 = H at hP hS ⊢
  have hP : va_P (dC, dI) cls_ [(h0, .inr (0, [.ref rq, .ref oa, .ref pl, .ref dk, .ref rw, .int 0, .int 0, .int (-1)])), (rq, .inl (k1, 40, .inr (.inr (.inr (.inr (fun _ => none)))))), (oa, .inl (k2, 8, .inl (fun _ => 0))), (pl, .inr (1, [.ref q9, .int 0])), (dk, .inr (2, [.ref d1, .ref d2, .ref d3, .ref d4])), (d1, .inl (k3, 24, .inl (fun _ => -1))), (rw, .inr (3, [.ref r1, .int 0, .int 0])), (m3, .inl (j3, 8, .inl (fun _ => 0))), (m5, .inl (j5, 40, .inl (fun _ => 0))), (m6, .inl (j6, 40, .inl (fun _ => 0))), (m7, .inl (j7, 40, .inl (fun _ => 0))), (m8, .inl (j8, 40, .inl (fun _ => 0))), (m9, .inl (j9, 40, .inl (fun _ => 0))), (m10, .inl (j10, 40, .inl (fun _ => 0))), (ou, .inl (k4, 1, .inr (.inl (fun _ => 0)))), (g0, .inr (5, [.int 0, .int 0, .int (-1), .ref m3, .int 0, .ref m5, .ref m6, .ref m7, .ref m8, .ref m9, .ref m10, .ref m11, .ref m12, .ref m13, .ref m14, .ref m15, .ref m16, .ref m17, .ref m18, .ref m19, .ref m20, .int 0, .ref m22, .ref m23, .ref m24, .ref m25, .ref m26, .ref m27, .int 0, .ref m29]))] H := hP
  have hD : va_D A [(h0, .inr (0, [.ref rq, .ref oa, .ref pl, .ref dk, .ref rw, .int 0, .int 0, .int (-1)])), (rq, .inl (k1, 40, .inr (.inr (.inr (.inr (fun _ => none)))))), (oa, .inl (k2, 8, .inl (fun _ => 0))), (pl, .inr (1, [.ref q9, .int 0])), (dk, .inr (2, [.ref d1, .ref d2, .ref d3, .ref d4])), (d1, .inl (k3, 24, .inl (fun _ => -1))), (rw, .inr (3, [.ref r1, .int 0, .int 0])), (m3, .inl (j3, 8, .inl (fun _ => 0))), (m5, .inl (j5, 40, .inl (fun _ => 0))), (m6, .inl (j6, 40, .inl (fun _ => 0))), (m7, .inl (j7, 40, .inl (fun _ => 0))), (m8, .inl (j8, 40, .inl (fun _ => 0))), (m9, .inl (j9, 40, .inl (fun _ => 0))), (m10, .inl (j10, 40, .inl (fun _ => 0))), (ou, .inl (k4, 1, .inr (.inl (fun _ => 0)))), (g0, .inr (5, [.int 0, .int 0, .int (-1), .ref m3, .int 0, .ref m5, .ref m6, .ref m7, .ref m8, .ref m9, .ref m10, .ref m11, .ref m12, .ref m13, .ref m14, .ref m15, .ref m16, .ref m17, .ref m18, .ref m19, .ref m20, .int 0, .ref m22, .ref m23, .ref m24, .ref m25, .ref m26, .ref m27, .int 0, .ref m29]))] := hD
  have hK : va_K (dC, dI) cls_ [(k1, .object "TwinTuners$Request"), (k2, .int), (k3, .int), (j3, .int), (j5, .int), (j6, .int), (j7, .int), (j8, .int), (j9, .int), (j10, .int), (k4, .long)] s := hK
  refine W.eq (g2 := F0 m 654 ls [.long (-1), .long (-1)]) rfl ?_
  refine W.cs (cells' := 38) (slots' := 14124) rfl rfl ?_
  refine W.lcmp hx hb d_LW_law_654 ?_
  refine lv_if_eq (tgt := 1228) hx hb d_LW_law_655 (by decide) (fun _ => ?_) (fun h9 => absurd ((lg_cmp_eq _ _).mpr rfl) h9)
  have hl := lv_sub hl [0, 4] (l' := [(4, .int 0), (0, .ref b)]) rfl
  exact tl_end hx hb hr hlocks hbl hbA hAB hX (Nat.le_of_ble_eq_true rfl) (Nat.le_of_ble_eq_true rfl) hS hl
set_option maxHeartbeats 4000000 in
set_option maxRecDepth 100000 in
theorem cs_7 {p : Program} {l : Launch} {e : Env} {s : State} {m : MethodId} {below : List Frame} {meth : Method} {c : Code} {A : Nat → Prop} {b : Nat} {H : Heap} {locs : List Loc} {ls : Array Slot} {xs : Nat → Int32} (dC : Nat → ClassId) (dI : Nat → Nat → Nat) (h0 rq oa pl dk rw q9 d1 d2 d3 d4 r1 g0 m3 m5 m6 m7 m8 m9 m10 m11 m12 m13 m14 m15 m16 m17 m18 m19 m20 m22 m23 m24 m25 m26 m27 m29 ou : Nat) (k1 k2 k3 j3 j5 j6 j7 j8 j9 j10 k4 : ClassId) (hl9 : l.stackTraces = false) (hx : p.tables.exec = Jvm.exec) (hb : c.code = code) (hr : meth.sig.returnType = ret) (hlocks : meth.locks = false) (hbl : b < s.heap.size) (hbA : ¬ A b) (hAB : ∀ q, A q → s.heap.size ≤ q) (hX : va_X b 6 xs s s.heap) (hml : c.maxLocals = 8) (hown : s.vm.findClass R_LW = some m.cls) (ht : ∀ w ∈ tb_, w.before #[Value.ref b] s = true) (hA : ∀ q : Nat, s.heap.size ≤ q → A q) (hBs : s.heap.size ≤ s.heap.size) (hV : tw_V s.heap.size s s.heap)
    (hK : va_K (dC, dI) cls_ [(k1, .object "TwinTuners$Request"), (k2, .int), (k3, .int), (j3, .int), (j5, .int), (j6, .int), (j7, .int), (j8, .int), (j9, .int), (j10, .int), (k4, .long)] s) (hP : va_P (dC, dI) cls_ [(h0, .inr (0, [.ref rq, .ref oa, .ref pl, .ref dk, .ref rw, .int 0, .int 0, .int (-1)])), (rq, .inl (k1, 40, .inr (.inr (.inr (.inr (fun _ => none)))))), (oa, .inl (k2, 8, .inl (fun _ => 0))), (pl, .inr (1, [.ref q9, .int 0])), (dk, .inr (2, [.ref d1, .ref d2, .ref d3, .ref d4])), (d1, .inl (k3, 24, .inl (fun _ => -1))), (rw, .inr (3, [.ref r1, .int 0, .int 0])), (g0, .inr (5, [.int 0, .int 0, .int (-1), .ref m3, .int 0, .ref m5, .ref m6, .ref m7, .ref m8, .ref m9, .ref m10, .ref m11, .ref m12, .ref m13, .ref m14, .ref m15, .ref m16, .ref m17, .ref m18, .ref m19, .ref m20, .int 0, .ref m22, .ref m23, .ref m24, .ref m25, .ref m26, .ref m27, .int 0, .ref m29])), (m3, .inl (j3, 8, .inl (fun _ => 0))), (m5, .inl (j5, 40, .inl (fun _ => 0))), (m6, .inl (j6, 40, .inl (fun _ => 0))), (m7, .inl (j7, 40, .inl (fun _ => 0))), (m8, .inl (j8, 40, .inl (fun _ => 0))), (m9, .inl (j9, 40, .inl (fun _ => 0))), (m10, .inl (j10, 40, .inl (fun _ => 0))), (ou, .inl (k4, 1, .inr (.inl (fun _ => 0))))] H) (hD : va_D A [(h0, .inr (0, [.ref rq, .ref oa, .ref pl, .ref dk, .ref rw, .int 0, .int 0, .int (-1)])), (rq, .inl (k1, 40, .inr (.inr (.inr (.inr (fun _ => none)))))), (oa, .inl (k2, 8, .inl (fun _ => 0))), (pl, .inr (1, [.ref q9, .int 0])), (dk, .inr (2, [.ref d1, .ref d2, .ref d3, .ref d4])), (d1, .inl (k3, 24, .inl (fun _ => -1))), (rw, .inr (3, [.ref r1, .int 0, .int 0])), (g0, .inr (5, [.int 0, .int 0, .int (-1), .ref m3, .int 0, .ref m5, .ref m6, .ref m7, .ref m8, .ref m9, .ref m10, .ref m11, .ref m12, .ref m13, .ref m14, .ref m15, .ref m16, .ref m17, .ref m18, .ref m19, .ref m20, .int 0, .ref m22, .ref m23, .ref m24, .ref m25, .ref m26, .ref m27, .int 0, .ref m29])), (m3, .inl (j3, 8, .inl (fun _ => 0))), (m5, .inl (j5, 40, .inl (fun _ => 0))), (m6, .inl (j6, 40, .inl (fun _ => 0))), (m7, .inl (j7, 40, .inl (fun _ => 0))), (m8, .inl (j8, 40, .inl (fun _ => 0))), (m9, .inl (j9, 40, .inl (fun _ => 0))), (m10, .inl (j10, 40, .inl (fun _ => 0))), (ou, .inl (k4, 1, .inr (.inl (fun _ => 0))))]) (hS : va_S A s.heap H locs) (hl : lv_has ls 8 [(4, .int 0), (3, .ref ou), (2, .ref g0), (1, .ref h0), (0, .ref b)]) : W p l e room_1 s m #[Value.ref b] below meth c H locs 38 14124 (lw_Z below #[Value.ref b] s) (F0 m 509 ls []) := by
  by_cases hv : 1 ≤ xs 1 ∧ xs 1 ≤ 100
  · obtain ⟨N, hN1, hN2, eN⟩ := of_100 hv.1 hv.2
    refine lv_aload_n hx hb d_LW_law_509 rfl (lv_at hl 3 rfl) ?_
    refine lv_aload_n hx hb d_LW_law_510 rfl (lv_at hl 4 rfl) ?_
    refine lv_iload hx hb d_LW_law_511 (lv_at hl 0 rfl) ?_
    refine lv_iconst (v := 1) hx hb d_LW_law_513 (by decide) ?_
    refine lv_iadd hx hb d_LW_law_514 ?_
    refine lv_topi (fun v1 ev1 => ?_)
    obtain rfl : v1 = 1 := ev1.trans (by decide)
    refine va_sld hx hb hX hbl hbA hS (show vp_in (nI 1) 6 from vp_in_nI (by decide) (by decide)) d_LW_law_515 ?_
    refine W.eq (g2 := F0 m 516 ls [.int (xs 1), .ref h0]) rfl ?_
    refine lv_topi (fun v2 ev2 => ?_)
    obtain rfl : v2 = nI N := ev2.trans (eN)
    refine lv_aload_n hx hb d_LW_law_516 rfl (lv_at hl 1 rfl) ?_
    have hPc := hP.sub (ws' := [(h0, .inr (0, [.ref rq, .ref oa, .ref pl, .ref dk, .ref rw, .int 0, .int 0, .int (-1)])), (pl, .inr (1, [.ref q9, .int 0])), (ou, .inl (k4, 1, .inr (.inl (fun _ => 0))))]) [0, 3, 15] rfl
    have hKc := hK.sub (tys' := [(k4, .long)]) [10] rfl
    have hDc := hD.sub (ws' := [(h0, .inr (0, [.ref rq, .ref oa, .ref pl, .ref dk, .ref rw, .int 0, .int 0, .int (-1)])), (pl, .inr (1, [.ref q9, .int 0])), (ou, .inl (k4, 1, .inr (.inl (fun _ => 0))))]) [0, 3, 15] (by decide) rfl
    have hFc := va_free (wc := [(h0, .inr (0, [.ref rq, .ref oa, .ref pl, .ref dk, .ref rw, .int 0, .int 0, .int (-1)])), (pl, .inr (1, [.ref q9, .int 0])), (ou, .inl (k4, 1, .inr (.inl (fun _ => 0))))]) hD hS hA [0, 3, 15] rfl
    refine fr_call (tw_runSW (As := [.ref h0, .int (nI N), .ref ou]) (rest := []) ⟨hx, hb, hml, hown, ht⟩ (c_LW_ticks_good l dC dI H.size s.heap.size h0 rq oa pl dk rw q9 ou k4 N (⟨hN1, hN2⟩)) rfl rfl ⟨Nat.le_of_ble_eq_true rfl, Nat.le_of_ble_eq_true rfl⟩ (pay_in ht (gW tb_513)) (show _ ∈ w_LW_ticks from List.mem_cons_self) (ht _ tb_511) (ht _ tb_512) (ht _ tb_0) (n := 3) (by decide +kernel) ⟨frP_blind, fr_pre hPc hKc hDc hAB hBs hS hV⟩ rfl rfl hl.1 rfl (lv_room (Nat.le_of_ble_eq_true rfl)) d_LW_law_517 ⟨Nat.le_of_ble_eq_true rfl, Nat.le_of_ble_eq_true rfl⟩) hS (fun q _ h => hFc q h) hFc (fun t H1 locs ht1 hvm hB1 hz1 hk1 hS => ?_)
    obtain ⟨hP1, hK1, hD1⟩ := hB1
    rw [ht1] at hP1
    have hK1 := va_K.moved hvm.symm hK1
    obtain ⟨hP, hD⟩ := va_join (wr := [(rq, .inl (k1, 40, .inr (.inr (.inr (.inr (fun _ => none)))))), (oa, .inl (k2, 8, .inl (fun _ => 0))), (dk, .inr (2, [.ref d1, .ref d2, .ref d3, .ref d4])), (d1, .inl (k3, 24, .inl (fun _ => -1))), (rw, .inr (3, [.ref r1, .int 0, .int 0])), (g0, .inr (5, [.int 0, .int 0, .int (-1), .ref m3, .int 0, .ref m5, .ref m6, .ref m7, .ref m8, .ref m9, .ref m10, .ref m11, .ref m12, .ref m13, .ref m14, .ref m15, .ref m16, .ref m17, .ref m18, .ref m19, .ref m20, .int 0, .ref m22, .ref m23, .ref m24, .ref m25, .ref m26, .ref m27, .int 0, .ref m29])), (m3, .inl (j3, 8, .inl (fun _ => 0))), (m5, .inl (j5, 40, .inl (fun _ => 0))), (m6, .inl (j6, 40, .inl (fun _ => 0))), (m7, .inl (j7, 40, .inl (fun _ => 0))), (m8, .inl (j8, 40, .inl (fun _ => 0))), (m9, .inl (j9, 40, .inl (fun _ => 0))), (m10, .inl (j10, 40, .inl (fun _ => 0)))]) (w1 := [(ou, .inl (k4, 1, .inr (.inl (vp_updL (fun _ => 0) (0 : Int32).toNatClampNeg (0 : Int32).toInt64))))]) hP hD [0, 3, 15] [1, 2, 4, 5, 6, 7, 8, 9, 10, 11, 12, 13, 14] rfl rfl (by decide) (by decide) hk1 hFc hP1 hD1
    have hK := hK.app hK1
    generalize H1 = H at hP hS ⊢
    have hP : va_P (dC, dI) cls_ [(rq, .inl (k1, 40, .inr (.inr (.inr (.inr (fun _ => none)))))), (oa, .inl (k2, 8, .inl (fun _ => 0))), (dk, .inr (2, [.ref d1, .ref d2, .ref d3, .ref d4])), (d1, .inl (k3, 24, .inl (fun _ => -1))), (rw, .inr (3, [.ref r1, .int 0, .int 0])), (g0, .inr (5, [.int 0, .int 0, .int (-1), .ref m3, .int 0, .ref m5, .ref m6, .ref m7, .ref m8, .ref m9, .ref m10, .ref m11, .ref m12, .ref m13, .ref m14, .ref m15, .ref m16, .ref m17, .ref m18, .ref m19, .ref m20, .int 0, .ref m22, .ref m23, .ref m24, .ref m25, .ref m26, .ref m27, .int 0, .ref m29])), (m3, .inl (j3, 8, .inl (fun _ => 0))), (m5, .inl (j5, 40, .inl (fun _ => 0))), (m6, .inl (j6, 40, .inl (fun _ => 0))), (m7, .inl (j7, 40, .inl (fun _ => 0))), (m8, .inl (j8, 40, .inl (fun _ => 0))), (m9, .inl (j9, 40, .inl (fun _ => 0))), (m10, .inl (j10, 40, .inl (fun _ => 0))), (ou, .inl (k4, 1, .inr (.inl (vp_updL (fun _ => 0) (0 : Int32).toNatClampNeg (0 : Int32).toInt64))))] H := hP
    have hD : va_D A [(rq, .inl (k1, 40, .inr (.inr (.inr (.inr (fun _ => none)))))), (oa, .inl (k2, 8, .inl (fun _ => 0))), (dk, .inr (2, [.ref d1, .ref d2, .ref d3, .ref d4])), (d1, .inl (k3, 24, .inl (fun _ => -1))), (rw, .inr (3, [.ref r1, .int 0, .int 0])), (g0, .inr (5, [.int 0, .int 0, .int (-1), .ref m3, .int 0, .ref m5, .ref m6, .ref m7, .ref m8, .ref m9, .ref m10, .ref m11, .ref m12, .ref m13, .ref m14, .ref m15, .ref m16, .ref m17, .ref m18, .ref m19, .ref m20, .int 0, .ref m22, .ref m23, .ref m24, .ref m25, .ref m26, .ref m27, .int 0, .ref m29])), (m3, .inl (j3, 8, .inl (fun _ => 0))), (m5, .inl (j5, 40, .inl (fun _ => 0))), (m6, .inl (j6, 40, .inl (fun _ => 0))), (m7, .inl (j7, 40, .inl (fun _ => 0))), (m8, .inl (j8, 40, .inl (fun _ => 0))), (m9, .inl (j9, 40, .inl (fun _ => 0))), (m10, .inl (j10, 40, .inl (fun _ => 0))), (ou, .inl (k4, 1, .inr (.inl (vp_updL (fun _ => 0) (0 : Int32).toNatClampNeg (0 : Int32).toInt64))))] := hD
    have hK : va_K (dC, dI) cls_ [(k1, .object "TwinTuners$Request"), (k2, .int), (k3, .int), (j3, .int), (j5, .int), (j6, .int), (j7, .int), (j8, .int), (j9, .int), (j10, .int), (k4, .long), (k4, .long)] s := hK
    refine W.eq (g2 := F0 m 520 ls [.int 0]) rfl ?_
    refine W.cs (cells' := 38) (slots' := 14124) rfl rfl ?_
    refine lv_istore hx hb d_LW_law_520 hl (by decide) rfl (fun ls hl => ?_)
    have hl : lv_has ls 8 [(5, .int 0), (4, .int 0), (3, .ref ou), (2, .ref g0), (1, .ref h0), (0, .ref b)] := hl
    refine lv_aload_n hx hb d_LW_law_522 rfl (lv_at hl 3 rfl) ?_
    refine lv_aload_n hx hb d_LW_law_523 rfl (lv_at hl 5 rfl) ?_
    refine lv_iload hx hb d_LW_law_524 (lv_at hl 1 rfl) ?_
    refine lv_iconst (v := 1) hx hb d_LW_law_526 (by decide) ?_
    refine lv_iadd hx hb d_LW_law_527 ?_
    refine lv_topi (fun v3 ev3 => ?_)
    obtain rfl : v3 = 1 := ev3.trans (by decide)
    refine va_sld hx hb hX hbl hbA hS (show vp_in (nI 1) 6 from vp_in_nI (by decide) (by decide)) d_LW_law_528 ?_
    refine W.eq (g2 := F0 m 529 ls [.int (xs 1), .ref g0]) rfl ?_
    refine lv_topi (fun v4 ev4 => ?_)
    obtain rfl : v4 = nI N := ev4.trans (eN)
    have hPc := hP.sub (ws' := [(g0, .inr (5, [.int 0, .int 0, .int (-1), .ref m3, .int 0, .ref m5, .ref m6, .ref m7, .ref m8, .ref m9, .ref m10, .ref m11, .ref m12, .ref m13, .ref m14, .ref m15, .ref m16, .ref m17, .ref m18, .ref m19, .ref m20, .int 0, .ref m22, .ref m23, .ref m24, .ref m25, .ref m26, .ref m27, .int 0, .ref m29]))]) [5] rfl
    have hKc := hK.sub (tys' := []) [] rfl
    have hDc := hD.sub (ws' := [(g0, .inr (5, [.int 0, .int 0, .int (-1), .ref m3, .int 0, .ref m5, .ref m6, .ref m7, .ref m8, .ref m9, .ref m10, .ref m11, .ref m12, .ref m13, .ref m14, .ref m15, .ref m16, .ref m17, .ref m18, .ref m19, .ref m20, .int 0, .ref m22, .ref m23, .ref m24, .ref m25, .ref m26, .ref m27, .int 0, .ref m29]))]) [5] (by decide) rfl
    have hFc := va_free (wc := [(g0, .inr (5, [.int 0, .int 0, .int (-1), .ref m3, .int 0, .ref m5, .ref m6, .ref m7, .ref m8, .ref m9, .ref m10, .ref m11, .ref m12, .ref m13, .ref m14, .ref m15, .ref m16, .ref m17, .ref m18, .ref m19, .ref m20, .int 0, .ref m22, .ref m23, .ref m24, .ref m25, .ref m26, .ref m27, .int 0, .ref m29]))]) hD hS hA [5] rfl
    refine fr_call (va_runV (C := R_MO) (As := [.int (nI N)]) (rest := []) ⟨hx, hb, hml, hown, ht⟩ (c_MO_ticks_ok l dC dI H.size s.heap.size g0 m3 m5 m6 m7 m8 m9 m10 m11 m12 m13 m14 m15 m16 m17 m18 m19 m20 m22 m23 m24 m25 m26 m27 m29 N (⟨hN1, hN2⟩)) (cwV 1 ht (gV tb_852 tb_853 tb_854 tb_5 tb_855) rfl rfl rfl (by decide +kernel) ⟨Nat.le_of_ble_eq_true rfl, Nat.le_of_ble_eq_true rfl⟩) ⟨frP_blind, va_recv (q := (R_MO, F_MO, 30)) hK hP rfl (show ([(rq, .inl (k1, 40, .inr (.inr (.inr (.inr (fun _ => none)))))), (oa, .inl (k2, 8, .inl (fun _ => 0))), (dk, .inr (2, [.ref d1, .ref d2, .ref d3, .ref d4])), (d1, .inl (k3, 24, .inl (fun _ => -1))), (rw, .inr (3, [.ref r1, .int 0, .int 0])), (g0, .inr (5, [.int 0, .int 0, .int (-1), .ref m3, .int 0, .ref m5, .ref m6, .ref m7, .ref m8, .ref m9, .ref m10, .ref m11, .ref m12, .ref m13, .ref m14, .ref m15, .ref m16, .ref m17, .ref m18, .ref m19, .ref m20, .int 0, .ref m22, .ref m23, .ref m24, .ref m25, .ref m26, .ref m27, .int 0, .ref m29])), (m3, .inl (j3, 8, .inl (fun _ => 0))), (m5, .inl (j5, 40, .inl (fun _ => 0))), (m6, .inl (j6, 40, .inl (fun _ => 0))), (m7, .inl (j7, 40, .inl (fun _ => 0))), (m8, .inl (j8, 40, .inl (fun _ => 0))), (m9, .inl (j9, 40, .inl (fun _ => 0))), (m10, .inl (j10, 40, .inl (fun _ => 0))), (ou, .inl (k4, 1, .inr (.inl (vp_updL (fun _ => 0) (0 : Int32).toNatClampNeg (0 : Int32).toInt64))))] : va_W)[5]? = some (g0, .inr (5, [.int 0, .int 0, .int (-1), .ref m3, .int 0, .ref m5, .ref m6, .ref m7, .ref m8, .ref m9, .ref m10, .ref m11, .ref m12, .ref m13, .ref m14, .ref m15, .ref m16, .ref m17, .ref m18, .ref m19, .ref m20, .int 0, .ref m22, .ref m23, .ref m24, .ref m25, .ref m26, .ref m27, .int 0, .ref m29])) from rfl), fr_pre hPc hKc hDc hAB hBs hS hV⟩ rfl rfl hl.1 rfl (lv_room (Nat.le_of_ble_eq_true rfl)) d_LW_law_529 ⟨Nat.le_of_ble_eq_true rfl, Nat.le_of_ble_eq_true rfl⟩) hS (fun q _ h => hFc q h) hFc (fun t H1 locs ht1 hvm hB1 hz1 hk1 hS => ?_)
    obtain ⟨nw5, hP1, hK1, hD1⟩ := hB1
    rw [ht1] at hP1
    have hK1 := va_K.moved hvm.symm hK1
    obtain ⟨hP, hD⟩ := va_join (wr := [(rq, .inl (k1, 40, .inr (.inr (.inr (.inr (fun _ => none)))))), (oa, .inl (k2, 8, .inl (fun _ => 0))), (dk, .inr (2, [.ref d1, .ref d2, .ref d3, .ref d4])), (d1, .inl (k3, 24, .inl (fun _ => -1))), (rw, .inr (3, [.ref r1, .int 0, .int 0])), (m3, .inl (j3, 8, .inl (fun _ => 0))), (m5, .inl (j5, 40, .inl (fun _ => 0))), (m6, .inl (j6, 40, .inl (fun _ => 0))), (m7, .inl (j7, 40, .inl (fun _ => 0))), (m8, .inl (j8, 40, .inl (fun _ => 0))), (m9, .inl (j9, 40, .inl (fun _ => 0))), (m10, .inl (j10, 40, .inl (fun _ => 0))), (ou, .inl (k4, 1, .inr (.inl (vp_updL (fun _ => 0) (0 : Int32).toNatClampNeg (0 : Int32).toInt64))))]) (w1 := [(g0, .inr (5, [.int 0, .int nw5, .int (-1), .ref m3, .int 0, .ref m5, .ref m6, .ref m7, .ref m8, .ref m9, .ref m10, .ref m11, .ref m12, .ref m13, .ref m14, .ref m15, .ref m16, .ref m17, .ref m18, .ref m19, .ref m20, .int 0, .ref m22, .ref m23, .ref m24, .ref m25, .ref m26, .ref m27, .int 0, .ref m29]))]) hP hD [5] [0, 1, 2, 3, 4, 6, 7, 8, 9, 10, 11, 12, 13] rfl rfl (by decide) (by decide) hk1 hFc hP1 hD1
    have hK := hK.app hK1
    generalize H1 = H at hP hS ⊢
    have hP : va_P (dC, dI) cls_ [(rq, .inl (k1, 40, .inr (.inr (.inr (.inr (fun _ => none)))))), (oa, .inl (k2, 8, .inl (fun _ => 0))), (dk, .inr (2, [.ref d1, .ref d2, .ref d3, .ref d4])), (d1, .inl (k3, 24, .inl (fun _ => -1))), (rw, .inr (3, [.ref r1, .int 0, .int 0])), (m3, .inl (j3, 8, .inl (fun _ => 0))), (m5, .inl (j5, 40, .inl (fun _ => 0))), (m6, .inl (j6, 40, .inl (fun _ => 0))), (m7, .inl (j7, 40, .inl (fun _ => 0))), (m8, .inl (j8, 40, .inl (fun _ => 0))), (m9, .inl (j9, 40, .inl (fun _ => 0))), (m10, .inl (j10, 40, .inl (fun _ => 0))), (ou, .inl (k4, 1, .inr (.inl (vp_updL (fun _ => 0) (0 : Int32).toNatClampNeg (0 : Int32).toInt64)))), (g0, .inr (5, [.int 0, .int nw5, .int (-1), .ref m3, .int 0, .ref m5, .ref m6, .ref m7, .ref m8, .ref m9, .ref m10, .ref m11, .ref m12, .ref m13, .ref m14, .ref m15, .ref m16, .ref m17, .ref m18, .ref m19, .ref m20, .int 0, .ref m22, .ref m23, .ref m24, .ref m25, .ref m26, .ref m27, .int 0, .ref m29]))] H := hP
    have hD : va_D A [(rq, .inl (k1, 40, .inr (.inr (.inr (.inr (fun _ => none)))))), (oa, .inl (k2, 8, .inl (fun _ => 0))), (dk, .inr (2, [.ref d1, .ref d2, .ref d3, .ref d4])), (d1, .inl (k3, 24, .inl (fun _ => -1))), (rw, .inr (3, [.ref r1, .int 0, .int 0])), (m3, .inl (j3, 8, .inl (fun _ => 0))), (m5, .inl (j5, 40, .inl (fun _ => 0))), (m6, .inl (j6, 40, .inl (fun _ => 0))), (m7, .inl (j7, 40, .inl (fun _ => 0))), (m8, .inl (j8, 40, .inl (fun _ => 0))), (m9, .inl (j9, 40, .inl (fun _ => 0))), (m10, .inl (j10, 40, .inl (fun _ => 0))), (ou, .inl (k4, 1, .inr (.inl (vp_updL (fun _ => 0) (0 : Int32).toNatClampNeg (0 : Int32).toInt64)))), (g0, .inr (5, [.int 0, .int nw5, .int (-1), .ref m3, .int 0, .ref m5, .ref m6, .ref m7, .ref m8, .ref m9, .ref m10, .ref m11, .ref m12, .ref m13, .ref m14, .ref m15, .ref m16, .ref m17, .ref m18, .ref m19, .ref m20, .int 0, .ref m22, .ref m23, .ref m24, .ref m25, .ref m26, .ref m27, .int 0, .ref m29]))] := hD
    have hK : va_K (dC, dI) cls_ [(k1, .object "TwinTuners$Request"), (k2, .int), (k3, .int), (j3, .int), (j5, .int), (j6, .int), (j7, .int), (j8, .int), (j9, .int), (j10, .int), (k4, .long), (k4, .long)] s := hK
    refine W.eq (g2 := F0 m 532 ls [.int 0]) rfl ?_
    refine W.cs (cells' := 38) (slots' := 14124) rfl rfl ?_
    refine lv_istore hx hb d_LW_law_532 hl (by decide) rfl (fun ls hl => ?_)
    have hl : lv_has ls 8 [(6, .int 0), (5, .int 0), (4, .int 0), (3, .ref ou), (2, .ref g0), (1, .ref h0), (0, .ref b)] := hl
    refine lv_aload_n hx hb d_LW_law_534 rfl (lv_at hl 4 rfl) ?_
    have hPc := hP.sub (ws' := [(g0, .inr (5, [.int 0, .int nw5, .int (-1), .ref m3, .int 0, .ref m5, .ref m6, .ref m7, .ref m8, .ref m9, .ref m10, .ref m11, .ref m12, .ref m13, .ref m14, .ref m15, .ref m16, .ref m17, .ref m18, .ref m19, .ref m20, .int 0, .ref m22, .ref m23, .ref m24, .ref m25, .ref m26, .ref m27, .int 0, .ref m29]))]) [13] rfl
    have hKc := hK.sub (tys' := []) [] rfl
    refine rd_call (va_runV (C := R_MO) (As := []) (rest := []) ⟨hx, hb, hml, hown, ht⟩ (c_MO_thrown_v l dC dI g0 m3 m5 m6 m7 m8 m9 m10 m11 m12 m13 m14 m15 m16 m17 m18 m19 m20 m22 m23 m24 m25 m26 m27 m29 0 nw5 (-1) 0) (cwV 0 ht (gV tb_723 tb_724 tb_725 tb_5 tb_726) rfl rfl rfl (by decide +kernel) ⟨Nat.le_of_ble_eq_true rfl, Nat.le_of_ble_eq_true rfl⟩) ⟨rdP_blind, va_recv (q := (R_MO, F_MO, 30)) hK hP rfl (show ([(rq, .inl (k1, 40, .inr (.inr (.inr (.inr (fun _ => none)))))), (oa, .inl (k2, 8, .inl (fun _ => 0))), (dk, .inr (2, [.ref d1, .ref d2, .ref d3, .ref d4])), (d1, .inl (k3, 24, .inl (fun _ => -1))), (rw, .inr (3, [.ref r1, .int 0, .int 0])), (m3, .inl (j3, 8, .inl (fun _ => 0))), (m5, .inl (j5, 40, .inl (fun _ => 0))), (m6, .inl (j6, 40, .inl (fun _ => 0))), (m7, .inl (j7, 40, .inl (fun _ => 0))), (m8, .inl (j8, 40, .inl (fun _ => 0))), (m9, .inl (j9, 40, .inl (fun _ => 0))), (m10, .inl (j10, 40, .inl (fun _ => 0))), (ou, .inl (k4, 1, .inr (.inl (vp_updL (fun _ => 0) (0 : Int32).toNatClampNeg (0 : Int32).toInt64)))), (g0, .inr (5, [.int 0, .int nw5, .int (-1), .ref m3, .int 0, .ref m5, .ref m6, .ref m7, .ref m8, .ref m9, .ref m10, .ref m11, .ref m12, .ref m13, .ref m14, .ref m15, .ref m16, .ref m17, .ref m18, .ref m19, .ref m20, .int 0, .ref m22, .ref m23, .ref m24, .ref m25, .ref m26, .ref m27, .int 0, .ref m29]))] : va_W)[13]? = some (g0, .inr (5, [.int 0, .int nw5, .int (-1), .ref m3, .int 0, .ref m5, .ref m6, .ref m7, .ref m8, .ref m9, .ref m10, .ref m11, .ref m12, .ref m13, .ref m14, .ref m15, .ref m16, .ref m17, .ref m18, .ref m19, .ref m20, .int 0, .ref m22, .ref m23, .ref m24, .ref m25, .ref m26, .ref m27, .int 0, .ref m29])) from rfl), rd_pre hPc hKc⟩ rfl rfl hl.1 rfl (lv_room (Nat.le_of_ble_eq_true rfl)) d_LW_law_535 ⟨Nat.le_of_ble_eq_true rfl, Nat.le_of_ble_eq_true rfl⟩) ?_
    refine W.eq (g2 := F0 m 538 ls [.int 0]) rfl ?_
    refine lv_iload hx hb d_LW_law_538 (lv_at hl 1 rfl) ?_
    refine lv_icmp_eq (tgt := 545) hx hb d_LW_law_540 (by decide) (fun _ => ?_) (fun h9 => absurd (rfl) h9)
    refine lv_iload hx hb d_LW_law_545 (lv_at hl 1 rfl) ?_
    refine lv_if_ne (tgt := 562) hx hb d_LW_law_547 (by decide) (fun h9 => absurd (rfl) h9) (fun _ => ?_)
    refine lv_aload_n hx hb d_LW_law_550 rfl (lv_at hl 3 rfl) ?_
    refine lv_iconst (v := 0) hx hb d_LW_law_551 (by decide) ?_
    refine va_lald hx hb hK hP 12 10 rfl rfl (show vp_in (nI 0) 1 from vp_in_nI (by decide) (by decide)) d_LW_law_552 ?_
    refine W.eq (g2 := F0 m 553 ls [.long (((vp_updL (fun _ => 0) (0 : Int32).toNatClampNeg (0 : Int32).toInt64)) (0 : Int32).toNatClampNeg)]) rfl ?_
    refine lv_iload hx hb d_LW_law_553 (lv_at hl 0 rfl) ?_
    refine lv_i2l hx hb d_LW_law_555 rfl ?_
    refine W.lcmp hx hb d_LW_law_556 ?_
    refine lv_if_eq (tgt := 562) hx hb d_LW_law_557 (by decide) (fun _ => ?_) (fun h9 => absurd ((lg_cmp_eq _ _).mpr pk_uLs) h9)
    refine lv_goto (tgt := 1228) hx hb d_LW_law_562 (by decide) ?_
    have hl := lv_sub hl [2, 6] (l' := [(4, .int 0), (0, .ref b)]) rfl
    exact tl_end hx hb hr hlocks hbl hbA hAB hX (Nat.le_of_ble_eq_true rfl) (Nat.le_of_ble_eq_true rfl) hS hl
  · refine lv_aload_n hx hb d_LW_law_509 rfl (lv_at hl 3 rfl) ?_
    refine lv_aload_n hx hb d_LW_law_510 rfl (lv_at hl 4 rfl) ?_
    refine lv_iload hx hb d_LW_law_511 (lv_at hl 0 rfl) ?_
    refine lv_iconst (v := 1) hx hb d_LW_law_513 (by decide) ?_
    refine lv_iadd hx hb d_LW_law_514 ?_
    refine lv_topi (fun v6 ev6 => ?_)
    obtain rfl : v6 = 1 := ev6.trans (by decide)
    refine va_sld hx hb hX hbl hbA hS (show vp_in (nI 1) 6 from vp_in_nI (by decide) (by decide)) d_LW_law_515 ?_
    refine W.eq (g2 := F0 m 516 ls [.int (xs 1), .ref h0]) rfl ?_
    refine lv_aload_n hx hb d_LW_law_516 rfl (lv_at hl 1 rfl) ?_
    have hPc := hP.sub (ws' := [(h0, .inr (0, [.ref rq, .ref oa, .ref pl, .ref dk, .ref rw, .int 0, .int 0, .int (-1)]))]) [0] rfl
    have hKc := hK.sub (tys' := []) [] rfl
    have hDc := hD.sub (ws' := [(h0, .inr (0, [.ref rq, .ref oa, .ref pl, .ref dk, .ref rw, .int 0, .int 0, .int (-1)]))]) [0] (by decide) rfl
    have hFc := va_free (wc := [(h0, .inr (0, [.ref rq, .ref oa, .ref pl, .ref dk, .ref rw, .int 0, .int 0, .int (-1)]))]) hD hS hA [0] rfl
    refine fr_call (tw_runSW (As := [.ref h0, .int (xs 1), .ref ou]) (rest := []) ⟨hx, hb, hml, hown, ht⟩ (c_LW_ticks_bad l dC dI H.size s.heap.size hl9 h0 rq oa pl dk rw ou (xs 1) hv) rfl rfl ⟨Nat.le_of_ble_eq_true rfl, Nat.le_of_ble_eq_true rfl⟩ (pay_in ht (gW tb_513)) (show _ ∈ w_LW_ticks from List.mem_cons_self) (ht _ tb_511) (ht _ tb_512) (ht _ tb_0) (n := 3) (by decide +kernel) ⟨frP_blind, fr_pre hPc hKc hDc hAB hBs hS hV⟩ rfl rfl hl.1 rfl (lv_room (Nat.le_of_ble_eq_true rfl)) d_LW_law_517 ⟨Nat.le_of_ble_eq_true rfl, Nat.le_of_ble_eq_true rfl⟩) hS (fun q _ h => hFc q h) hFc (fun t H1 locs ht1 hvm hB1 hz1 hk1 hS => ?_)
    obtain ⟨hP1, hK1, hD1⟩ := hB1
    rw [ht1] at hP1
    have hK1 := va_K.moved hvm.symm hK1
    obtain ⟨hP, hD⟩ := va_join (wr := [(rq, .inl (k1, 40, .inr (.inr (.inr (.inr (fun _ => none)))))), (oa, .inl (k2, 8, .inl (fun _ => 0))), (pl, .inr (1, [.ref q9, .int 0])), (dk, .inr (2, [.ref d1, .ref d2, .ref d3, .ref d4])), (d1, .inl (k3, 24, .inl (fun _ => -1))), (rw, .inr (3, [.ref r1, .int 0, .int 0])), (g0, .inr (5, [.int 0, .int 0, .int (-1), .ref m3, .int 0, .ref m5, .ref m6, .ref m7, .ref m8, .ref m9, .ref m10, .ref m11, .ref m12, .ref m13, .ref m14, .ref m15, .ref m16, .ref m17, .ref m18, .ref m19, .ref m20, .int 0, .ref m22, .ref m23, .ref m24, .ref m25, .ref m26, .ref m27, .int 0, .ref m29])), (m3, .inl (j3, 8, .inl (fun _ => 0))), (m5, .inl (j5, 40, .inl (fun _ => 0))), (m6, .inl (j6, 40, .inl (fun _ => 0))), (m7, .inl (j7, 40, .inl (fun _ => 0))), (m8, .inl (j8, 40, .inl (fun _ => 0))), (m9, .inl (j9, 40, .inl (fun _ => 0))), (m10, .inl (j10, 40, .inl (fun _ => 0))), (ou, .inl (k4, 1, .inr (.inl (fun _ => 0))))]) (w1 := [(h0, .inr (0, [.ref rq, .ref oa, .ref pl, .ref dk, .ref rw, .int 0, .int 0, .int (-1)]))]) hP hD [0] [1, 2, 3, 4, 5, 6, 7, 8, 9, 10, 11, 12, 13, 14, 15] rfl rfl (by decide) (by decide) hk1 hFc hP1 hD1
    have hK := hK.app hK1
    generalize H1 = H at hP hS ⊢
    have hP : va_P (dC, dI) cls_ [(rq, .inl (k1, 40, .inr (.inr (.inr (.inr (fun _ => none)))))), (oa, .inl (k2, 8, .inl (fun _ => 0))), (pl, .inr (1, [.ref q9, .int 0])), (dk, .inr (2, [.ref d1, .ref d2, .ref d3, .ref d4])), (d1, .inl (k3, 24, .inl (fun _ => -1))), (rw, .inr (3, [.ref r1, .int 0, .int 0])), (g0, .inr (5, [.int 0, .int 0, .int (-1), .ref m3, .int 0, .ref m5, .ref m6, .ref m7, .ref m8, .ref m9, .ref m10, .ref m11, .ref m12, .ref m13, .ref m14, .ref m15, .ref m16, .ref m17, .ref m18, .ref m19, .ref m20, .int 0, .ref m22, .ref m23, .ref m24, .ref m25, .ref m26, .ref m27, .int 0, .ref m29])), (m3, .inl (j3, 8, .inl (fun _ => 0))), (m5, .inl (j5, 40, .inl (fun _ => 0))), (m6, .inl (j6, 40, .inl (fun _ => 0))), (m7, .inl (j7, 40, .inl (fun _ => 0))), (m8, .inl (j8, 40, .inl (fun _ => 0))), (m9, .inl (j9, 40, .inl (fun _ => 0))), (m10, .inl (j10, 40, .inl (fun _ => 0))), (ou, .inl (k4, 1, .inr (.inl (fun _ => 0)))), (h0, .inr (0, [.ref rq, .ref oa, .ref pl, .ref dk, .ref rw, .int 0, .int 0, .int (-1)]))] H := hP
    have hD : va_D A [(rq, .inl (k1, 40, .inr (.inr (.inr (.inr (fun _ => none)))))), (oa, .inl (k2, 8, .inl (fun _ => 0))), (pl, .inr (1, [.ref q9, .int 0])), (dk, .inr (2, [.ref d1, .ref d2, .ref d3, .ref d4])), (d1, .inl (k3, 24, .inl (fun _ => -1))), (rw, .inr (3, [.ref r1, .int 0, .int 0])), (g0, .inr (5, [.int 0, .int 0, .int (-1), .ref m3, .int 0, .ref m5, .ref m6, .ref m7, .ref m8, .ref m9, .ref m10, .ref m11, .ref m12, .ref m13, .ref m14, .ref m15, .ref m16, .ref m17, .ref m18, .ref m19, .ref m20, .int 0, .ref m22, .ref m23, .ref m24, .ref m25, .ref m26, .ref m27, .int 0, .ref m29])), (m3, .inl (j3, 8, .inl (fun _ => 0))), (m5, .inl (j5, 40, .inl (fun _ => 0))), (m6, .inl (j6, 40, .inl (fun _ => 0))), (m7, .inl (j7, 40, .inl (fun _ => 0))), (m8, .inl (j8, 40, .inl (fun _ => 0))), (m9, .inl (j9, 40, .inl (fun _ => 0))), (m10, .inl (j10, 40, .inl (fun _ => 0))), (ou, .inl (k4, 1, .inr (.inl (fun _ => 0)))), (h0, .inr (0, [.ref rq, .ref oa, .ref pl, .ref dk, .ref rw, .int 0, .int 0, .int (-1)]))] := hD
    have hK : va_K (dC, dI) cls_ [(k1, .object "TwinTuners$Request"), (k2, .int), (k3, .int), (j3, .int), (j5, .int), (j6, .int), (j7, .int), (j8, .int), (j9, .int), (j10, .int), (k4, .long)] s := hK
    refine W.eq (g2 := F0 m 520 ls [.int 1]) rfl ?_
    refine W.cs (cells' := 39) (slots' := 14130) rfl rfl ?_
    refine lv_istore hx hb d_LW_law_520 hl (by decide) rfl (fun ls hl => ?_)
    have hl : lv_has ls 8 [(5, .int 1), (4, .int 0), (3, .ref ou), (2, .ref g0), (1, .ref h0), (0, .ref b)] := hl
    refine lv_aload_n hx hb d_LW_law_522 rfl (lv_at hl 3 rfl) ?_
    refine lv_aload_n hx hb d_LW_law_523 rfl (lv_at hl 5 rfl) ?_
    refine lv_iload hx hb d_LW_law_524 (lv_at hl 1 rfl) ?_
    refine lv_iconst (v := 1) hx hb d_LW_law_526 (by decide) ?_
    refine lv_iadd hx hb d_LW_law_527 ?_
    refine lv_topi (fun v7 ev7 => ?_)
    obtain rfl : v7 = 1 := ev7.trans (by decide)
    refine va_sld hx hb hX hbl hbA hS (show vp_in (nI 1) 6 from vp_in_nI (by decide) (by decide)) d_LW_law_528 ?_
    refine W.eq (g2 := F0 m 529 ls [.int (xs 1), .ref g0]) rfl ?_
    have hPc := hP.sub (ws' := [(g0, .inr (5, [.int 0, .int 0, .int (-1), .ref m3, .int 0, .ref m5, .ref m6, .ref m7, .ref m8, .ref m9, .ref m10, .ref m11, .ref m12, .ref m13, .ref m14, .ref m15, .ref m16, .ref m17, .ref m18, .ref m19, .ref m20, .int 0, .ref m22, .ref m23, .ref m24, .ref m25, .ref m26, .ref m27, .int 0, .ref m29]))]) [6] rfl
    have hKc := hK.sub (tys' := []) [] rfl
    have hDc := hD.sub (ws' := [(g0, .inr (5, [.int 0, .int 0, .int (-1), .ref m3, .int 0, .ref m5, .ref m6, .ref m7, .ref m8, .ref m9, .ref m10, .ref m11, .ref m12, .ref m13, .ref m14, .ref m15, .ref m16, .ref m17, .ref m18, .ref m19, .ref m20, .int 0, .ref m22, .ref m23, .ref m24, .ref m25, .ref m26, .ref m27, .int 0, .ref m29]))]) [6] (by decide) rfl
    have hFc := va_free (wc := [(g0, .inr (5, [.int 0, .int 0, .int (-1), .ref m3, .int 0, .ref m5, .ref m6, .ref m7, .ref m8, .ref m9, .ref m10, .ref m11, .ref m12, .ref m13, .ref m14, .ref m15, .ref m16, .ref m17, .ref m18, .ref m19, .ref m20, .int 0, .ref m22, .ref m23, .ref m24, .ref m25, .ref m26, .ref m27, .int 0, .ref m29]))]) hD hS hA [6] rfl
    refine fr_call (va_runV (C := R_MO) (As := [.int (xs 1)]) (rest := []) ⟨hx, hb, hml, hown, ht⟩ (c_MO_ticks_bad l dC dI H.size s.heap.size g0 m3 m5 m6 m7 m8 m9 m10 m11 m12 m13 m14 m15 m16 m17 m18 m19 m20 m22 m23 m24 m25 m26 m27 m29 (xs 1) hv) (cwV 1 ht (gV tb_852 tb_853 tb_854 tb_5 tb_855) rfl rfl rfl (by decide +kernel) ⟨Nat.le_of_ble_eq_true rfl, Nat.le_of_ble_eq_true rfl⟩) ⟨frP_blind, va_recv (q := (R_MO, F_MO, 30)) hK hP rfl (show ([(rq, .inl (k1, 40, .inr (.inr (.inr (.inr (fun _ => none)))))), (oa, .inl (k2, 8, .inl (fun _ => 0))), (pl, .inr (1, [.ref q9, .int 0])), (dk, .inr (2, [.ref d1, .ref d2, .ref d3, .ref d4])), (d1, .inl (k3, 24, .inl (fun _ => -1))), (rw, .inr (3, [.ref r1, .int 0, .int 0])), (g0, .inr (5, [.int 0, .int 0, .int (-1), .ref m3, .int 0, .ref m5, .ref m6, .ref m7, .ref m8, .ref m9, .ref m10, .ref m11, .ref m12, .ref m13, .ref m14, .ref m15, .ref m16, .ref m17, .ref m18, .ref m19, .ref m20, .int 0, .ref m22, .ref m23, .ref m24, .ref m25, .ref m26, .ref m27, .int 0, .ref m29])), (m3, .inl (j3, 8, .inl (fun _ => 0))), (m5, .inl (j5, 40, .inl (fun _ => 0))), (m6, .inl (j6, 40, .inl (fun _ => 0))), (m7, .inl (j7, 40, .inl (fun _ => 0))), (m8, .inl (j8, 40, .inl (fun _ => 0))), (m9, .inl (j9, 40, .inl (fun _ => 0))), (m10, .inl (j10, 40, .inl (fun _ => 0))), (ou, .inl (k4, 1, .inr (.inl (fun _ => 0)))), (h0, .inr (0, [.ref rq, .ref oa, .ref pl, .ref dk, .ref rw, .int 0, .int 0, .int (-1)]))] : va_W)[6]? = some (g0, .inr (5, [.int 0, .int 0, .int (-1), .ref m3, .int 0, .ref m5, .ref m6, .ref m7, .ref m8, .ref m9, .ref m10, .ref m11, .ref m12, .ref m13, .ref m14, .ref m15, .ref m16, .ref m17, .ref m18, .ref m19, .ref m20, .int 0, .ref m22, .ref m23, .ref m24, .ref m25, .ref m26, .ref m27, .int 0, .ref m29])) from rfl), fr_pre hPc hKc hDc hAB hBs hS hV⟩ rfl rfl hl.1 rfl (lv_room (Nat.le_of_ble_eq_true rfl)) d_LW_law_529 ⟨Nat.le_of_ble_eq_true rfl, Nat.le_of_ble_eq_true rfl⟩) hS (fun q _ h => hFc q h) hFc (fun t H1 locs ht1 hvm hB1 hz1 hk1 hS => ?_)
    obtain ⟨hP1, hK1, hD1⟩ := hB1
    rw [ht1] at hP1
    have hK1 := va_K.moved hvm.symm hK1
    obtain ⟨hP, hD⟩ := va_join (wr := [(rq, .inl (k1, 40, .inr (.inr (.inr (.inr (fun _ => none)))))), (oa, .inl (k2, 8, .inl (fun _ => 0))), (pl, .inr (1, [.ref q9, .int 0])), (dk, .inr (2, [.ref d1, .ref d2, .ref d3, .ref d4])), (d1, .inl (k3, 24, .inl (fun _ => -1))), (rw, .inr (3, [.ref r1, .int 0, .int 0])), (m3, .inl (j3, 8, .inl (fun _ => 0))), (m5, .inl (j5, 40, .inl (fun _ => 0))), (m6, .inl (j6, 40, .inl (fun _ => 0))), (m7, .inl (j7, 40, .inl (fun _ => 0))), (m8, .inl (j8, 40, .inl (fun _ => 0))), (m9, .inl (j9, 40, .inl (fun _ => 0))), (m10, .inl (j10, 40, .inl (fun _ => 0))), (ou, .inl (k4, 1, .inr (.inl (fun _ => 0)))), (h0, .inr (0, [.ref rq, .ref oa, .ref pl, .ref dk, .ref rw, .int 0, .int 0, .int (-1)]))]) (w1 := [(g0, .inr (5, [.int 1, .int 0, .int (-1), .ref m3, .int 0, .ref m5, .ref m6, .ref m7, .ref m8, .ref m9, .ref m10, .ref m11, .ref m12, .ref m13, .ref m14, .ref m15, .ref m16, .ref m17, .ref m18, .ref m19, .ref m20, .int 0, .ref m22, .ref m23, .ref m24, .ref m25, .ref m26, .ref m27, .int 0, .ref m29]))]) hP hD [6] [0, 1, 2, 3, 4, 5, 7, 8, 9, 10, 11, 12, 13, 14, 15] rfl rfl (by decide) (by decide) hk1 hFc hP1 hD1
    have hK := hK.app hK1
    generalize H1 = H at hP hS ⊢
    have hP : va_P (dC, dI) cls_ [(rq, .inl (k1, 40, .inr (.inr (.inr (.inr (fun _ => none)))))), (oa, .inl (k2, 8, .inl (fun _ => 0))), (pl, .inr (1, [.ref q9, .int 0])), (dk, .inr (2, [.ref d1, .ref d2, .ref d3, .ref d4])), (d1, .inl (k3, 24, .inl (fun _ => -1))), (rw, .inr (3, [.ref r1, .int 0, .int 0])), (m3, .inl (j3, 8, .inl (fun _ => 0))), (m5, .inl (j5, 40, .inl (fun _ => 0))), (m6, .inl (j6, 40, .inl (fun _ => 0))), (m7, .inl (j7, 40, .inl (fun _ => 0))), (m8, .inl (j8, 40, .inl (fun _ => 0))), (m9, .inl (j9, 40, .inl (fun _ => 0))), (m10, .inl (j10, 40, .inl (fun _ => 0))), (ou, .inl (k4, 1, .inr (.inl (fun _ => 0)))), (h0, .inr (0, [.ref rq, .ref oa, .ref pl, .ref dk, .ref rw, .int 0, .int 0, .int (-1)])), (g0, .inr (5, [.int 1, .int 0, .int (-1), .ref m3, .int 0, .ref m5, .ref m6, .ref m7, .ref m8, .ref m9, .ref m10, .ref m11, .ref m12, .ref m13, .ref m14, .ref m15, .ref m16, .ref m17, .ref m18, .ref m19, .ref m20, .int 0, .ref m22, .ref m23, .ref m24, .ref m25, .ref m26, .ref m27, .int 0, .ref m29]))] H := hP
    have hD : va_D A [(rq, .inl (k1, 40, .inr (.inr (.inr (.inr (fun _ => none)))))), (oa, .inl (k2, 8, .inl (fun _ => 0))), (pl, .inr (1, [.ref q9, .int 0])), (dk, .inr (2, [.ref d1, .ref d2, .ref d3, .ref d4])), (d1, .inl (k3, 24, .inl (fun _ => -1))), (rw, .inr (3, [.ref r1, .int 0, .int 0])), (m3, .inl (j3, 8, .inl (fun _ => 0))), (m5, .inl (j5, 40, .inl (fun _ => 0))), (m6, .inl (j6, 40, .inl (fun _ => 0))), (m7, .inl (j7, 40, .inl (fun _ => 0))), (m8, .inl (j8, 40, .inl (fun _ => 0))), (m9, .inl (j9, 40, .inl (fun _ => 0))), (m10, .inl (j10, 40, .inl (fun _ => 0))), (ou, .inl (k4, 1, .inr (.inl (fun _ => 0)))), (h0, .inr (0, [.ref rq, .ref oa, .ref pl, .ref dk, .ref rw, .int 0, .int 0, .int (-1)])), (g0, .inr (5, [.int 1, .int 0, .int (-1), .ref m3, .int 0, .ref m5, .ref m6, .ref m7, .ref m8, .ref m9, .ref m10, .ref m11, .ref m12, .ref m13, .ref m14, .ref m15, .ref m16, .ref m17, .ref m18, .ref m19, .ref m20, .int 0, .ref m22, .ref m23, .ref m24, .ref m25, .ref m26, .ref m27, .int 0, .ref m29]))] := hD
    have hK : va_K (dC, dI) cls_ [(k1, .object "TwinTuners$Request"), (k2, .int), (k3, .int), (j3, .int), (j5, .int), (j6, .int), (j7, .int), (j8, .int), (j9, .int), (j10, .int), (k4, .long)] s := hK
    refine W.eq (g2 := F0 m 532 ls [.int 0]) rfl ?_
    refine W.cs (cells' := 39) (slots' := 14130) rfl rfl ?_
    refine lv_istore hx hb d_LW_law_532 hl (by decide) rfl (fun ls hl => ?_)
    have hl : lv_has ls 8 [(6, .int 0), (5, .int 1), (4, .int 0), (3, .ref ou), (2, .ref g0), (1, .ref h0), (0, .ref b)] := hl
    refine lv_aload_n hx hb d_LW_law_534 rfl (lv_at hl 4 rfl) ?_
    have hPc := hP.sub (ws' := [(g0, .inr (5, [.int 1, .int 0, .int (-1), .ref m3, .int 0, .ref m5, .ref m6, .ref m7, .ref m8, .ref m9, .ref m10, .ref m11, .ref m12, .ref m13, .ref m14, .ref m15, .ref m16, .ref m17, .ref m18, .ref m19, .ref m20, .int 0, .ref m22, .ref m23, .ref m24, .ref m25, .ref m26, .ref m27, .int 0, .ref m29]))]) [15] rfl
    have hKc := hK.sub (tys' := []) [] rfl
    refine rd_call (va_runV (C := R_MO) (As := []) (rest := []) ⟨hx, hb, hml, hown, ht⟩ (c_MO_thrown_v l dC dI g0 m3 m5 m6 m7 m8 m9 m10 m11 m12 m13 m14 m15 m16 m17 m18 m19 m20 m22 m23 m24 m25 m26 m27 m29 1 0 (-1) 0) (cwV 0 ht (gV tb_723 tb_724 tb_725 tb_5 tb_726) rfl rfl rfl (by decide +kernel) ⟨Nat.le_of_ble_eq_true rfl, Nat.le_of_ble_eq_true rfl⟩) ⟨rdP_blind, va_recv (q := (R_MO, F_MO, 30)) hK hP rfl (show ([(rq, .inl (k1, 40, .inr (.inr (.inr (.inr (fun _ => none)))))), (oa, .inl (k2, 8, .inl (fun _ => 0))), (pl, .inr (1, [.ref q9, .int 0])), (dk, .inr (2, [.ref d1, .ref d2, .ref d3, .ref d4])), (d1, .inl (k3, 24, .inl (fun _ => -1))), (rw, .inr (3, [.ref r1, .int 0, .int 0])), (m3, .inl (j3, 8, .inl (fun _ => 0))), (m5, .inl (j5, 40, .inl (fun _ => 0))), (m6, .inl (j6, 40, .inl (fun _ => 0))), (m7, .inl (j7, 40, .inl (fun _ => 0))), (m8, .inl (j8, 40, .inl (fun _ => 0))), (m9, .inl (j9, 40, .inl (fun _ => 0))), (m10, .inl (j10, 40, .inl (fun _ => 0))), (ou, .inl (k4, 1, .inr (.inl (fun _ => 0)))), (h0, .inr (0, [.ref rq, .ref oa, .ref pl, .ref dk, .ref rw, .int 0, .int 0, .int (-1)])), (g0, .inr (5, [.int 1, .int 0, .int (-1), .ref m3, .int 0, .ref m5, .ref m6, .ref m7, .ref m8, .ref m9, .ref m10, .ref m11, .ref m12, .ref m13, .ref m14, .ref m15, .ref m16, .ref m17, .ref m18, .ref m19, .ref m20, .int 0, .ref m22, .ref m23, .ref m24, .ref m25, .ref m26, .ref m27, .int 0, .ref m29]))] : va_W)[15]? = some (g0, .inr (5, [.int 1, .int 0, .int (-1), .ref m3, .int 0, .ref m5, .ref m6, .ref m7, .ref m8, .ref m9, .ref m10, .ref m11, .ref m12, .ref m13, .ref m14, .ref m15, .ref m16, .ref m17, .ref m18, .ref m19, .ref m20, .int 0, .ref m22, .ref m23, .ref m24, .ref m25, .ref m26, .ref m27, .int 0, .ref m29])) from rfl), rd_pre hPc hKc⟩ rfl rfl hl.1 rfl (lv_room (Nat.le_of_ble_eq_true rfl)) d_LW_law_535 ⟨Nat.le_of_ble_eq_true rfl, Nat.le_of_ble_eq_true rfl⟩) ?_
    refine W.eq (g2 := F0 m 538 ls [.int 1]) rfl ?_
    refine lv_iload hx hb d_LW_law_538 (lv_at hl 1 rfl) ?_
    refine lv_icmp_eq (tgt := 545) hx hb d_LW_law_540 (by decide) (fun _ => ?_) (fun h9 => absurd (rfl) h9)
    refine lv_iload hx hb d_LW_law_545 (lv_at hl 1 rfl) ?_
    refine lv_if_ne (tgt := 562) hx hb d_LW_law_547 (by decide) (fun _ => ?_) (fun h9 => absurd h9 (by decide))
    refine lv_goto (tgt := 1228) hx hb d_LW_law_562 (by decide) ?_
    have hl := lv_sub hl [2, 6] (l' := [(4, .int 0), (0, .ref b)]) rfl
    exact tl_end hx hb hr hlocks hbl hbA hAB hX (Nat.le_of_ble_eq_true rfl) (Nat.le_of_ble_eq_true rfl) hS hl
set_option maxHeartbeats 4000000 in
set_option maxRecDepth 100000 in
theorem cs_9 {p : Program} {l : Launch} {e : Env} {s : State} {m : MethodId} {below : List Frame} {meth : Method} {c : Code} {A : Nat → Prop} {b : Nat} {H : Heap} {locs : List Loc} {ls : Array Slot} {xs : Nat → Int32} (dC : Nat → ClassId) (dI : Nat → Nat → Nat) (h0 rq oa pl dk rw q9 d1 d2 d3 d4 r1 g0 m3 m5 m6 m7 m8 m9 m10 m11 m12 m13 m14 m15 m16 m17 m18 m19 m20 m22 m23 m24 m25 m26 m27 m29 ou : Nat) (k1 k2 k3 j3 j5 j6 j7 j8 j9 j10 k4 : ClassId) (hl9 : l.stackTraces = false) (hx : p.tables.exec = Jvm.exec) (hb : c.code = code) (hr : meth.sig.returnType = ret) (hlocks : meth.locks = false) (hbl : b < s.heap.size) (hbA : ¬ A b) (hAB : ∀ q, A q → s.heap.size ≤ q) (hX : va_X b 6 xs s s.heap) (hml : c.maxLocals = 8) (hown : s.vm.findClass R_LW = some m.cls) (ht : ∀ w ∈ tb_, w.before #[Value.ref b] s = true) (hA : ∀ q : Nat, s.heap.size ≤ q → A q) (hBs : s.heap.size ≤ s.heap.size) (hV : tw_V s.heap.size s s.heap)
    (hK : va_K (dC, dI) cls_ [(k1, .object "TwinTuners$Request"), (k2, .int), (k3, .int), (j3, .int), (j5, .int), (j6, .int), (j7, .int), (j8, .int), (j9, .int), (j10, .int), (k4, .long)] s) (hP : va_P (dC, dI) cls_ [(h0, .inr (0, [.ref rq, .ref oa, .ref pl, .ref dk, .ref rw, .int 0, .int 0, .int (-1)])), (rq, .inl (k1, 40, .inr (.inr (.inr (.inr (fun _ => none)))))), (oa, .inl (k2, 8, .inl (fun _ => 0))), (pl, .inr (1, [.ref q9, .int 0])), (dk, .inr (2, [.ref d1, .ref d2, .ref d3, .ref d4])), (d1, .inl (k3, 24, .inl (fun _ => -1))), (rw, .inr (3, [.ref r1, .int 0, .int 0])), (g0, .inr (5, [.int 0, .int 0, .int (-1), .ref m3, .int 0, .ref m5, .ref m6, .ref m7, .ref m8, .ref m9, .ref m10, .ref m11, .ref m12, .ref m13, .ref m14, .ref m15, .ref m16, .ref m17, .ref m18, .ref m19, .ref m20, .int 0, .ref m22, .ref m23, .ref m24, .ref m25, .ref m26, .ref m27, .int 0, .ref m29])), (m3, .inl (j3, 8, .inl (fun _ => 0))), (m5, .inl (j5, 40, .inl (fun _ => 0))), (m6, .inl (j6, 40, .inl (fun _ => 0))), (m7, .inl (j7, 40, .inl (fun _ => 0))), (m8, .inl (j8, 40, .inl (fun _ => 0))), (m9, .inl (j9, 40, .inl (fun _ => 0))), (m10, .inl (j10, 40, .inl (fun _ => 0))), (ou, .inl (k4, 1, .inr (.inl (fun _ => 0))))] H) (hD : va_D A [(h0, .inr (0, [.ref rq, .ref oa, .ref pl, .ref dk, .ref rw, .int 0, .int 0, .int (-1)])), (rq, .inl (k1, 40, .inr (.inr (.inr (.inr (fun _ => none)))))), (oa, .inl (k2, 8, .inl (fun _ => 0))), (pl, .inr (1, [.ref q9, .int 0])), (dk, .inr (2, [.ref d1, .ref d2, .ref d3, .ref d4])), (d1, .inl (k3, 24, .inl (fun _ => -1))), (rw, .inr (3, [.ref r1, .int 0, .int 0])), (g0, .inr (5, [.int 0, .int 0, .int (-1), .ref m3, .int 0, .ref m5, .ref m6, .ref m7, .ref m8, .ref m9, .ref m10, .ref m11, .ref m12, .ref m13, .ref m14, .ref m15, .ref m16, .ref m17, .ref m18, .ref m19, .ref m20, .int 0, .ref m22, .ref m23, .ref m24, .ref m25, .ref m26, .ref m27, .int 0, .ref m29])), (m3, .inl (j3, 8, .inl (fun _ => 0))), (m5, .inl (j5, 40, .inl (fun _ => 0))), (m6, .inl (j6, 40, .inl (fun _ => 0))), (m7, .inl (j7, 40, .inl (fun _ => 0))), (m8, .inl (j8, 40, .inl (fun _ => 0))), (m9, .inl (j9, 40, .inl (fun _ => 0))), (m10, .inl (j10, 40, .inl (fun _ => 0))), (ou, .inl (k4, 1, .inr (.inl (fun _ => 0))))]) (hS : va_S A s.heap H locs) (hl : lv_has ls 8 [(4, .int 0), (3, .ref ou), (2, .ref g0), (1, .ref h0), (0, .ref b)]) : W p l e room_1 s m #[Value.ref b] below meth c H locs 38 14124 (lw_Z below #[Value.ref b] s) (F0 m 578 ls []) := by
  by_cases hv : -1 ≤ xs 1 ∧ xs 1 ≤ 7
  · refine lv_aload_n hx hb d_LW_law_578 rfl (lv_at hl 3 rfl) ?_
    refine lv_aload_n hx hb d_LW_law_579 rfl (lv_at hl 4 rfl) ?_
    refine lv_iload hx hb d_LW_law_580 (lv_at hl 0 rfl) ?_
    refine lv_iconst (v := 1) hx hb d_LW_law_582 (by decide) ?_
    refine lv_iadd hx hb d_LW_law_583 ?_
    refine lv_topi (fun v1 ev1 => ?_)
    obtain rfl : v1 = 1 := ev1.trans (by decide)
    refine va_sld hx hb hX hbl hbA hS (show vp_in (nI 1) 6 from vp_in_nI (by decide) (by decide)) d_LW_law_584 ?_
    refine W.eq (g2 := F0 m 585 ls [.int (xs 1), .ref h0]) rfl ?_
    refine lv_aload_n hx hb d_LW_law_585 rfl (lv_at hl 1 rfl) ?_
    have hPc := hP.sub (ws' := [(h0, .inr (0, [.ref rq, .ref oa, .ref pl, .ref dk, .ref rw, .int 0, .int 0, .int (-1)])), (rw, .inr (3, [.ref r1, .int 0, .int 0])), (ou, .inl (k4, 1, .inr (.inl (fun _ => 0))))]) [0, 6, 15] rfl
    have hKc := hK.sub (tys' := [(k4, .long)]) [10] rfl
    have hDc := hD.sub (ws' := [(h0, .inr (0, [.ref rq, .ref oa, .ref pl, .ref dk, .ref rw, .int 0, .int 0, .int (-1)])), (rw, .inr (3, [.ref r1, .int 0, .int 0])), (ou, .inl (k4, 1, .inr (.inl (fun _ => 0))))]) [0, 6, 15] (by decide) rfl
    have hFc := va_free (wc := [(h0, .inr (0, [.ref rq, .ref oa, .ref pl, .ref dk, .ref rw, .int 0, .int 0, .int (-1)])), (rw, .inr (3, [.ref r1, .int 0, .int 0])), (ou, .inl (k4, 1, .inr (.inl (fun _ => 0))))]) hD hS hA [0, 6, 15] rfl
    refine fr_call (tw_runSW (As := [.ref h0, .int (xs 1), .ref ou]) (rest := []) ⟨hx, hb, hml, hown, ht⟩ (c_LW_watch_good l dC dI H.size s.heap.size h0 rq oa pl dk rw r1 ou k4 (xs 1) hv) rfl rfl ⟨Nat.le_of_ble_eq_true rfl, Nat.le_of_ble_eq_true rfl⟩ (pay_in ht (gW tb_521)) (show _ ∈ w_LW_watch from List.mem_cons_self) (ht _ tb_519) (ht _ tb_520) (ht _ tb_0) (n := 3) (by decide +kernel) ⟨frP_blind, fr_pre hPc hKc hDc hAB hBs hS hV⟩ rfl rfl hl.1 rfl (lv_room (Nat.le_of_ble_eq_true rfl)) d_LW_law_586 ⟨Nat.le_of_ble_eq_true rfl, Nat.le_of_ble_eq_true rfl⟩) hS (fun q _ h => hFc q h) hFc (fun t H1 locs ht1 hvm hB1 hz1 hk1 hS => ?_)
    obtain ⟨hP1, hK1, hD1⟩ := hB1
    rw [ht1] at hP1
    have hK1 := va_K.moved hvm.symm hK1
    obtain ⟨hP, hD⟩ := va_join (wr := [(rq, .inl (k1, 40, .inr (.inr (.inr (.inr (fun _ => none)))))), (oa, .inl (k2, 8, .inl (fun _ => 0))), (pl, .inr (1, [.ref q9, .int 0])), (dk, .inr (2, [.ref d1, .ref d2, .ref d3, .ref d4])), (d1, .inl (k3, 24, .inl (fun _ => -1))), (g0, .inr (5, [.int 0, .int 0, .int (-1), .ref m3, .int 0, .ref m5, .ref m6, .ref m7, .ref m8, .ref m9, .ref m10, .ref m11, .ref m12, .ref m13, .ref m14, .ref m15, .ref m16, .ref m17, .ref m18, .ref m19, .ref m20, .int 0, .ref m22, .ref m23, .ref m24, .ref m25, .ref m26, .ref m27, .int 0, .ref m29])), (m3, .inl (j3, 8, .inl (fun _ => 0))), (m5, .inl (j5, 40, .inl (fun _ => 0))), (m6, .inl (j6, 40, .inl (fun _ => 0))), (m7, .inl (j7, 40, .inl (fun _ => 0))), (m8, .inl (j8, 40, .inl (fun _ => 0))), (m9, .inl (j9, 40, .inl (fun _ => 0))), (m10, .inl (j10, 40, .inl (fun _ => 0)))]) (w1 := [(ou, .inl (k4, 1, .inr (.inl (vp_updL (fun _ => 0) (0 : Int32).toNatClampNeg (-1 : Int32).toInt64))))]) hP hD [0, 6, 15] [1, 2, 3, 4, 5, 7, 8, 9, 10, 11, 12, 13, 14] rfl rfl (by decide) (by decide) hk1 hFc hP1 hD1
    have hK := hK.app hK1
    generalize H1 = H at hP hS ⊢
    have hP : va_P (dC, dI) cls_ [(rq, .inl (k1, 40, .inr (.inr (.inr (.inr (fun _ => none)))))), (oa, .inl (k2, 8, .inl (fun _ => 0))), (pl, .inr (1, [.ref q9, .int 0])), (dk, .inr (2, [.ref d1, .ref d2, .ref d3, .ref d4])), (d1, .inl (k3, 24, .inl (fun _ => -1))), (g0, .inr (5, [.int 0, .int 0, .int (-1), .ref m3, .int 0, .ref m5, .ref m6, .ref m7, .ref m8, .ref m9, .ref m10, .ref m11, .ref m12, .ref m13, .ref m14, .ref m15, .ref m16, .ref m17, .ref m18, .ref m19, .ref m20, .int 0, .ref m22, .ref m23, .ref m24, .ref m25, .ref m26, .ref m27, .int 0, .ref m29])), (m3, .inl (j3, 8, .inl (fun _ => 0))), (m5, .inl (j5, 40, .inl (fun _ => 0))), (m6, .inl (j6, 40, .inl (fun _ => 0))), (m7, .inl (j7, 40, .inl (fun _ => 0))), (m8, .inl (j8, 40, .inl (fun _ => 0))), (m9, .inl (j9, 40, .inl (fun _ => 0))), (m10, .inl (j10, 40, .inl (fun _ => 0))), (ou, .inl (k4, 1, .inr (.inl (vp_updL (fun _ => 0) (0 : Int32).toNatClampNeg (-1 : Int32).toInt64))))] H := hP
    have hD : va_D A [(rq, .inl (k1, 40, .inr (.inr (.inr (.inr (fun _ => none)))))), (oa, .inl (k2, 8, .inl (fun _ => 0))), (pl, .inr (1, [.ref q9, .int 0])), (dk, .inr (2, [.ref d1, .ref d2, .ref d3, .ref d4])), (d1, .inl (k3, 24, .inl (fun _ => -1))), (g0, .inr (5, [.int 0, .int 0, .int (-1), .ref m3, .int 0, .ref m5, .ref m6, .ref m7, .ref m8, .ref m9, .ref m10, .ref m11, .ref m12, .ref m13, .ref m14, .ref m15, .ref m16, .ref m17, .ref m18, .ref m19, .ref m20, .int 0, .ref m22, .ref m23, .ref m24, .ref m25, .ref m26, .ref m27, .int 0, .ref m29])), (m3, .inl (j3, 8, .inl (fun _ => 0))), (m5, .inl (j5, 40, .inl (fun _ => 0))), (m6, .inl (j6, 40, .inl (fun _ => 0))), (m7, .inl (j7, 40, .inl (fun _ => 0))), (m8, .inl (j8, 40, .inl (fun _ => 0))), (m9, .inl (j9, 40, .inl (fun _ => 0))), (m10, .inl (j10, 40, .inl (fun _ => 0))), (ou, .inl (k4, 1, .inr (.inl (vp_updL (fun _ => 0) (0 : Int32).toNatClampNeg (-1 : Int32).toInt64))))] := hD
    have hK : va_K (dC, dI) cls_ [(k1, .object "TwinTuners$Request"), (k2, .int), (k3, .int), (j3, .int), (j5, .int), (j6, .int), (j7, .int), (j8, .int), (j9, .int), (j10, .int), (k4, .long), (k4, .long)] s := hK
    refine W.eq (g2 := F0 m 589 ls [.int 0]) rfl ?_
    refine W.cs (cells' := 38) (slots' := 14124) rfl rfl ?_
    refine lv_istore hx hb d_LW_law_589 hl (by decide) rfl (fun ls hl => ?_)
    have hl : lv_has ls 8 [(5, .int 0), (4, .int 0), (3, .ref ou), (2, .ref g0), (1, .ref h0), (0, .ref b)] := hl
    refine lv_aload_n hx hb d_LW_law_591 rfl (lv_at hl 3 rfl) ?_
    refine lv_aload_n hx hb d_LW_law_592 rfl (lv_at hl 5 rfl) ?_
    refine lv_iload hx hb d_LW_law_593 (lv_at hl 1 rfl) ?_
    refine lv_iconst (v := 1) hx hb d_LW_law_595 (by decide) ?_
    refine lv_iadd hx hb d_LW_law_596 ?_
    refine lv_topi (fun v2 ev2 => ?_)
    obtain rfl : v2 = 1 := ev2.trans (by decide)
    refine va_sld hx hb hX hbl hbA hS (show vp_in (nI 1) 6 from vp_in_nI (by decide) (by decide)) d_LW_law_597 ?_
    refine W.eq (g2 := F0 m 598 ls [.int (xs 1), .ref g0]) rfl ?_
    have hPc := hP.sub (ws' := [(g0, .inr (5, [.int 0, .int 0, .int (-1), .ref m3, .int 0, .ref m5, .ref m6, .ref m7, .ref m8, .ref m9, .ref m10, .ref m11, .ref m12, .ref m13, .ref m14, .ref m15, .ref m16, .ref m17, .ref m18, .ref m19, .ref m20, .int 0, .ref m22, .ref m23, .ref m24, .ref m25, .ref m26, .ref m27, .int 0, .ref m29]))]) [5] rfl
    have hKc := hK.sub (tys' := []) [] rfl
    have hDc := hD.sub (ws' := [(g0, .inr (5, [.int 0, .int 0, .int (-1), .ref m3, .int 0, .ref m5, .ref m6, .ref m7, .ref m8, .ref m9, .ref m10, .ref m11, .ref m12, .ref m13, .ref m14, .ref m15, .ref m16, .ref m17, .ref m18, .ref m19, .ref m20, .int 0, .ref m22, .ref m23, .ref m24, .ref m25, .ref m26, .ref m27, .int 0, .ref m29]))]) [5] (by decide) rfl
    have hFc := va_free (wc := [(g0, .inr (5, [.int 0, .int 0, .int (-1), .ref m3, .int 0, .ref m5, .ref m6, .ref m7, .ref m8, .ref m9, .ref m10, .ref m11, .ref m12, .ref m13, .ref m14, .ref m15, .ref m16, .ref m17, .ref m18, .ref m19, .ref m20, .int 0, .ref m22, .ref m23, .ref m24, .ref m25, .ref m26, .ref m27, .int 0, .ref m29]))]) hD hS hA [5] rfl
    refine fr_call (va_runV (C := R_MO) (As := [.int (xs 1)]) (rest := []) ⟨hx, hb, hml, hown, ht⟩ (c_MO_watch_ok l dC dI H.size s.heap.size g0 m3 m5 m6 m7 m8 m9 m10 m11 m12 m13 m14 m15 m16 m17 m18 m19 m20 m22 m23 m24 m25 m26 m27 m29 (xs 1) hv) (cwV 1 ht (gV tb_860 tb_861 tb_862 tb_5 tb_863) rfl rfl rfl (by decide +kernel) ⟨Nat.le_of_ble_eq_true rfl, Nat.le_of_ble_eq_true rfl⟩) ⟨frP_blind, va_recv (q := (R_MO, F_MO, 30)) hK hP rfl (show ([(rq, .inl (k1, 40, .inr (.inr (.inr (.inr (fun _ => none)))))), (oa, .inl (k2, 8, .inl (fun _ => 0))), (pl, .inr (1, [.ref q9, .int 0])), (dk, .inr (2, [.ref d1, .ref d2, .ref d3, .ref d4])), (d1, .inl (k3, 24, .inl (fun _ => -1))), (g0, .inr (5, [.int 0, .int 0, .int (-1), .ref m3, .int 0, .ref m5, .ref m6, .ref m7, .ref m8, .ref m9, .ref m10, .ref m11, .ref m12, .ref m13, .ref m14, .ref m15, .ref m16, .ref m17, .ref m18, .ref m19, .ref m20, .int 0, .ref m22, .ref m23, .ref m24, .ref m25, .ref m26, .ref m27, .int 0, .ref m29])), (m3, .inl (j3, 8, .inl (fun _ => 0))), (m5, .inl (j5, 40, .inl (fun _ => 0))), (m6, .inl (j6, 40, .inl (fun _ => 0))), (m7, .inl (j7, 40, .inl (fun _ => 0))), (m8, .inl (j8, 40, .inl (fun _ => 0))), (m9, .inl (j9, 40, .inl (fun _ => 0))), (m10, .inl (j10, 40, .inl (fun _ => 0))), (ou, .inl (k4, 1, .inr (.inl (vp_updL (fun _ => 0) (0 : Int32).toNatClampNeg (-1 : Int32).toInt64))))] : va_W)[5]? = some (g0, .inr (5, [.int 0, .int 0, .int (-1), .ref m3, .int 0, .ref m5, .ref m6, .ref m7, .ref m8, .ref m9, .ref m10, .ref m11, .ref m12, .ref m13, .ref m14, .ref m15, .ref m16, .ref m17, .ref m18, .ref m19, .ref m20, .int 0, .ref m22, .ref m23, .ref m24, .ref m25, .ref m26, .ref m27, .int 0, .ref m29])) from rfl), fr_pre hPc hKc hDc hAB hBs hS hV⟩ rfl rfl hl.1 rfl (lv_room (Nat.le_of_ble_eq_true rfl)) d_LW_law_598 ⟨Nat.le_of_ble_eq_true rfl, Nat.le_of_ble_eq_true rfl⟩) hS (fun q _ h => hFc q h) hFc (fun t H1 locs ht1 hvm hB1 hz1 hk1 hS => ?_)
    obtain ⟨hP1, hK1, hD1⟩ := hB1
    rw [ht1] at hP1
    have hK1 := va_K.moved hvm.symm hK1
    obtain ⟨hP, hD⟩ := va_join (wr := [(rq, .inl (k1, 40, .inr (.inr (.inr (.inr (fun _ => none)))))), (oa, .inl (k2, 8, .inl (fun _ => 0))), (pl, .inr (1, [.ref q9, .int 0])), (dk, .inr (2, [.ref d1, .ref d2, .ref d3, .ref d4])), (d1, .inl (k3, 24, .inl (fun _ => -1))), (m3, .inl (j3, 8, .inl (fun _ => 0))), (m5, .inl (j5, 40, .inl (fun _ => 0))), (m6, .inl (j6, 40, .inl (fun _ => 0))), (m7, .inl (j7, 40, .inl (fun _ => 0))), (m8, .inl (j8, 40, .inl (fun _ => 0))), (m9, .inl (j9, 40, .inl (fun _ => 0))), (m10, .inl (j10, 40, .inl (fun _ => 0))), (ou, .inl (k4, 1, .inr (.inl (vp_updL (fun _ => 0) (0 : Int32).toNatClampNeg (-1 : Int32).toInt64))))]) (w1 := [(g0, .inr (5, [.int 0, .int 0, .int (xs 1), .ref m3, .int 0, .ref m5, .ref m6, .ref m7, .ref m8, .ref m9, .ref m10, .ref m11, .ref m12, .ref m13, .ref m14, .ref m15, .ref m16, .ref m17, .ref m18, .ref m19, .ref m20, .int 0, .ref m22, .ref m23, .ref m24, .ref m25, .ref m26, .ref m27, .int 0, .ref m29]))]) hP hD [5] [0, 1, 2, 3, 4, 6, 7, 8, 9, 10, 11, 12, 13] rfl rfl (by decide) (by decide) hk1 hFc hP1 hD1
    have hK := hK.app hK1
    generalize H1 = H at hP hS ⊢
    have hP : va_P (dC, dI) cls_ [(rq, .inl (k1, 40, .inr (.inr (.inr (.inr (fun _ => none)))))), (oa, .inl (k2, 8, .inl (fun _ => 0))), (pl, .inr (1, [.ref q9, .int 0])), (dk, .inr (2, [.ref d1, .ref d2, .ref d3, .ref d4])), (d1, .inl (k3, 24, .inl (fun _ => -1))), (m3, .inl (j3, 8, .inl (fun _ => 0))), (m5, .inl (j5, 40, .inl (fun _ => 0))), (m6, .inl (j6, 40, .inl (fun _ => 0))), (m7, .inl (j7, 40, .inl (fun _ => 0))), (m8, .inl (j8, 40, .inl (fun _ => 0))), (m9, .inl (j9, 40, .inl (fun _ => 0))), (m10, .inl (j10, 40, .inl (fun _ => 0))), (ou, .inl (k4, 1, .inr (.inl (vp_updL (fun _ => 0) (0 : Int32).toNatClampNeg (-1 : Int32).toInt64)))), (g0, .inr (5, [.int 0, .int 0, .int (xs 1), .ref m3, .int 0, .ref m5, .ref m6, .ref m7, .ref m8, .ref m9, .ref m10, .ref m11, .ref m12, .ref m13, .ref m14, .ref m15, .ref m16, .ref m17, .ref m18, .ref m19, .ref m20, .int 0, .ref m22, .ref m23, .ref m24, .ref m25, .ref m26, .ref m27, .int 0, .ref m29]))] H := hP
    have hD : va_D A [(rq, .inl (k1, 40, .inr (.inr (.inr (.inr (fun _ => none)))))), (oa, .inl (k2, 8, .inl (fun _ => 0))), (pl, .inr (1, [.ref q9, .int 0])), (dk, .inr (2, [.ref d1, .ref d2, .ref d3, .ref d4])), (d1, .inl (k3, 24, .inl (fun _ => -1))), (m3, .inl (j3, 8, .inl (fun _ => 0))), (m5, .inl (j5, 40, .inl (fun _ => 0))), (m6, .inl (j6, 40, .inl (fun _ => 0))), (m7, .inl (j7, 40, .inl (fun _ => 0))), (m8, .inl (j8, 40, .inl (fun _ => 0))), (m9, .inl (j9, 40, .inl (fun _ => 0))), (m10, .inl (j10, 40, .inl (fun _ => 0))), (ou, .inl (k4, 1, .inr (.inl (vp_updL (fun _ => 0) (0 : Int32).toNatClampNeg (-1 : Int32).toInt64)))), (g0, .inr (5, [.int 0, .int 0, .int (xs 1), .ref m3, .int 0, .ref m5, .ref m6, .ref m7, .ref m8, .ref m9, .ref m10, .ref m11, .ref m12, .ref m13, .ref m14, .ref m15, .ref m16, .ref m17, .ref m18, .ref m19, .ref m20, .int 0, .ref m22, .ref m23, .ref m24, .ref m25, .ref m26, .ref m27, .int 0, .ref m29]))] := hD
    have hK : va_K (dC, dI) cls_ [(k1, .object "TwinTuners$Request"), (k2, .int), (k3, .int), (j3, .int), (j5, .int), (j6, .int), (j7, .int), (j8, .int), (j9, .int), (j10, .int), (k4, .long), (k4, .long)] s := hK
    refine W.eq (g2 := F0 m 601 ls [.int (-1)]) rfl ?_
    refine W.cs (cells' := 38) (slots' := 14124) rfl rfl ?_
    refine lv_istore hx hb d_LW_law_601 hl (by decide) rfl (fun ls hl => ?_)
    have hl : lv_has ls 8 [(6, .int (-1)), (5, .int 0), (4, .int 0), (3, .ref ou), (2, .ref g0), (1, .ref h0), (0, .ref b)] := hl
    refine lv_aload_n hx hb d_LW_law_603 rfl (lv_at hl 4 rfl) ?_
    have hPc := hP.sub (ws' := [(g0, .inr (5, [.int 0, .int 0, .int (xs 1), .ref m3, .int 0, .ref m5, .ref m6, .ref m7, .ref m8, .ref m9, .ref m10, .ref m11, .ref m12, .ref m13, .ref m14, .ref m15, .ref m16, .ref m17, .ref m18, .ref m19, .ref m20, .int 0, .ref m22, .ref m23, .ref m24, .ref m25, .ref m26, .ref m27, .int 0, .ref m29]))]) [13] rfl
    have hKc := hK.sub (tys' := []) [] rfl
    refine rd_call (va_runV (C := R_MO) (As := []) (rest := []) ⟨hx, hb, hml, hown, ht⟩ (c_MO_thrown_v l dC dI g0 m3 m5 m6 m7 m8 m9 m10 m11 m12 m13 m14 m15 m16 m17 m18 m19 m20 m22 m23 m24 m25 m26 m27 m29 0 0 (xs 1) 0) (cwV 0 ht (gV tb_723 tb_724 tb_725 tb_5 tb_726) rfl rfl rfl (by decide +kernel) ⟨Nat.le_of_ble_eq_true rfl, Nat.le_of_ble_eq_true rfl⟩) ⟨rdP_blind, va_recv (q := (R_MO, F_MO, 30)) hK hP rfl (show ([(rq, .inl (k1, 40, .inr (.inr (.inr (.inr (fun _ => none)))))), (oa, .inl (k2, 8, .inl (fun _ => 0))), (pl, .inr (1, [.ref q9, .int 0])), (dk, .inr (2, [.ref d1, .ref d2, .ref d3, .ref d4])), (d1, .inl (k3, 24, .inl (fun _ => -1))), (m3, .inl (j3, 8, .inl (fun _ => 0))), (m5, .inl (j5, 40, .inl (fun _ => 0))), (m6, .inl (j6, 40, .inl (fun _ => 0))), (m7, .inl (j7, 40, .inl (fun _ => 0))), (m8, .inl (j8, 40, .inl (fun _ => 0))), (m9, .inl (j9, 40, .inl (fun _ => 0))), (m10, .inl (j10, 40, .inl (fun _ => 0))), (ou, .inl (k4, 1, .inr (.inl (vp_updL (fun _ => 0) (0 : Int32).toNatClampNeg (-1 : Int32).toInt64)))), (g0, .inr (5, [.int 0, .int 0, .int (xs 1), .ref m3, .int 0, .ref m5, .ref m6, .ref m7, .ref m8, .ref m9, .ref m10, .ref m11, .ref m12, .ref m13, .ref m14, .ref m15, .ref m16, .ref m17, .ref m18, .ref m19, .ref m20, .int 0, .ref m22, .ref m23, .ref m24, .ref m25, .ref m26, .ref m27, .int 0, .ref m29]))] : va_W)[13]? = some (g0, .inr (5, [.int 0, .int 0, .int (xs 1), .ref m3, .int 0, .ref m5, .ref m6, .ref m7, .ref m8, .ref m9, .ref m10, .ref m11, .ref m12, .ref m13, .ref m14, .ref m15, .ref m16, .ref m17, .ref m18, .ref m19, .ref m20, .int 0, .ref m22, .ref m23, .ref m24, .ref m25, .ref m26, .ref m27, .int 0, .ref m29])) from rfl), rd_pre hPc hKc⟩ rfl rfl hl.1 rfl (lv_room (Nat.le_of_ble_eq_true rfl)) d_LW_law_604 ⟨Nat.le_of_ble_eq_true rfl, Nat.le_of_ble_eq_true rfl⟩) ?_
    refine W.eq (g2 := F0 m 607 ls [.int 0]) rfl ?_
    refine lv_iload hx hb d_LW_law_607 (lv_at hl 1 rfl) ?_
    refine lv_icmp_eq (tgt := 614) hx hb d_LW_law_609 (by decide) (fun _ => ?_) (fun h9 => absurd (rfl) h9)
    refine lv_iload hx hb d_LW_law_614 (lv_at hl 1 rfl) ?_
    refine lv_if_ne (tgt := 631) hx hb d_LW_law_616 (by decide) (fun h9 => absurd (rfl) h9) (fun _ => ?_)
    refine lv_aload_n hx hb d_LW_law_619 rfl (lv_at hl 3 rfl) ?_
    refine lv_iconst (v := 0) hx hb d_LW_law_620 (by decide) ?_
    refine va_lald hx hb hK hP 12 10 rfl rfl (show vp_in (nI 0) 1 from vp_in_nI (by decide) (by decide)) d_LW_law_621 ?_
    refine W.eq (g2 := F0 m 622 ls [.long (((vp_updL (fun _ => 0) (0 : Int32).toNatClampNeg (-1 : Int32).toInt64)) (0 : Int32).toNatClampNeg)]) rfl ?_
    refine lv_iload hx hb d_LW_law_622 (lv_at hl 0 rfl) ?_
    refine lv_i2l hx hb d_LW_law_624 rfl ?_
    refine W.lcmp hx hb d_LW_law_625 ?_
    refine lv_if_eq (tgt := 631) hx hb d_LW_law_626 (by decide) (fun _ => ?_) (fun h9 => absurd ((lg_cmp_eq _ _).mpr pk_uLs) h9)
    refine lv_goto (tgt := 1228) hx hb d_LW_law_631 (by decide) ?_
    have hl := lv_sub hl [2, 6] (l' := [(4, .int 0), (0, .ref b)]) rfl
    exact tl_end hx hb hr hlocks hbl hbA hAB hX (Nat.le_of_ble_eq_true rfl) (Nat.le_of_ble_eq_true rfl) hS hl
  · refine lv_aload_n hx hb d_LW_law_578 rfl (lv_at hl 3 rfl) ?_
    refine lv_aload_n hx hb d_LW_law_579 rfl (lv_at hl 4 rfl) ?_
    refine lv_iload hx hb d_LW_law_580 (lv_at hl 0 rfl) ?_
    refine lv_iconst (v := 1) hx hb d_LW_law_582 (by decide) ?_
    refine lv_iadd hx hb d_LW_law_583 ?_
    refine lv_topi (fun v3 ev3 => ?_)
    obtain rfl : v3 = 1 := ev3.trans (by decide)
    refine va_sld hx hb hX hbl hbA hS (show vp_in (nI 1) 6 from vp_in_nI (by decide) (by decide)) d_LW_law_584 ?_
    refine W.eq (g2 := F0 m 585 ls [.int (xs 1), .ref h0]) rfl ?_
    refine lv_aload_n hx hb d_LW_law_585 rfl (lv_at hl 1 rfl) ?_
    have hPc := hP.sub (ws' := [(h0, .inr (0, [.ref rq, .ref oa, .ref pl, .ref dk, .ref rw, .int 0, .int 0, .int (-1)]))]) [0] rfl
    have hKc := hK.sub (tys' := []) [] rfl
    have hDc := hD.sub (ws' := [(h0, .inr (0, [.ref rq, .ref oa, .ref pl, .ref dk, .ref rw, .int 0, .int 0, .int (-1)]))]) [0] (by decide) rfl
    have hFc := va_free (wc := [(h0, .inr (0, [.ref rq, .ref oa, .ref pl, .ref dk, .ref rw, .int 0, .int 0, .int (-1)]))]) hD hS hA [0] rfl
    refine fr_call (tw_runSW (As := [.ref h0, .int (xs 1), .ref ou]) (rest := []) ⟨hx, hb, hml, hown, ht⟩ (c_LW_watch_bad l dC dI H.size s.heap.size hl9 h0 rq oa pl dk rw ou (xs 1) hv) rfl rfl ⟨Nat.le_of_ble_eq_true rfl, Nat.le_of_ble_eq_true rfl⟩ (pay_in ht (gW tb_521)) (show _ ∈ w_LW_watch from List.mem_cons_self) (ht _ tb_519) (ht _ tb_520) (ht _ tb_0) (n := 3) (by decide +kernel) ⟨frP_blind, fr_pre hPc hKc hDc hAB hBs hS hV⟩ rfl rfl hl.1 rfl (lv_room (Nat.le_of_ble_eq_true rfl)) d_LW_law_586 ⟨Nat.le_of_ble_eq_true rfl, Nat.le_of_ble_eq_true rfl⟩) hS (fun q _ h => hFc q h) hFc (fun t H1 locs ht1 hvm hB1 hz1 hk1 hS => ?_)
    obtain ⟨hP1, hK1, hD1⟩ := hB1
    rw [ht1] at hP1
    have hK1 := va_K.moved hvm.symm hK1
    obtain ⟨hP, hD⟩ := va_join (wr := [(rq, .inl (k1, 40, .inr (.inr (.inr (.inr (fun _ => none)))))), (oa, .inl (k2, 8, .inl (fun _ => 0))), (pl, .inr (1, [.ref q9, .int 0])), (dk, .inr (2, [.ref d1, .ref d2, .ref d3, .ref d4])), (d1, .inl (k3, 24, .inl (fun _ => -1))), (rw, .inr (3, [.ref r1, .int 0, .int 0])), (g0, .inr (5, [.int 0, .int 0, .int (-1), .ref m3, .int 0, .ref m5, .ref m6, .ref m7, .ref m8, .ref m9, .ref m10, .ref m11, .ref m12, .ref m13, .ref m14, .ref m15, .ref m16, .ref m17, .ref m18, .ref m19, .ref m20, .int 0, .ref m22, .ref m23, .ref m24, .ref m25, .ref m26, .ref m27, .int 0, .ref m29])), (m3, .inl (j3, 8, .inl (fun _ => 0))), (m5, .inl (j5, 40, .inl (fun _ => 0))), (m6, .inl (j6, 40, .inl (fun _ => 0))), (m7, .inl (j7, 40, .inl (fun _ => 0))), (m8, .inl (j8, 40, .inl (fun _ => 0))), (m9, .inl (j9, 40, .inl (fun _ => 0))), (m10, .inl (j10, 40, .inl (fun _ => 0))), (ou, .inl (k4, 1, .inr (.inl (fun _ => 0))))]) (w1 := [(h0, .inr (0, [.ref rq, .ref oa, .ref pl, .ref dk, .ref rw, .int 0, .int 0, .int (-1)]))]) hP hD [0] [1, 2, 3, 4, 5, 6, 7, 8, 9, 10, 11, 12, 13, 14, 15] rfl rfl (by decide) (by decide) hk1 hFc hP1 hD1
    have hK := hK.app hK1
    generalize H1 = H at hP hS ⊢
    have hP : va_P (dC, dI) cls_ [(rq, .inl (k1, 40, .inr (.inr (.inr (.inr (fun _ => none)))))), (oa, .inl (k2, 8, .inl (fun _ => 0))), (pl, .inr (1, [.ref q9, .int 0])), (dk, .inr (2, [.ref d1, .ref d2, .ref d3, .ref d4])), (d1, .inl (k3, 24, .inl (fun _ => -1))), (rw, .inr (3, [.ref r1, .int 0, .int 0])), (g0, .inr (5, [.int 0, .int 0, .int (-1), .ref m3, .int 0, .ref m5, .ref m6, .ref m7, .ref m8, .ref m9, .ref m10, .ref m11, .ref m12, .ref m13, .ref m14, .ref m15, .ref m16, .ref m17, .ref m18, .ref m19, .ref m20, .int 0, .ref m22, .ref m23, .ref m24, .ref m25, .ref m26, .ref m27, .int 0, .ref m29])), (m3, .inl (j3, 8, .inl (fun _ => 0))), (m5, .inl (j5, 40, .inl (fun _ => 0))), (m6, .inl (j6, 40, .inl (fun _ => 0))), (m7, .inl (j7, 40, .inl (fun _ => 0))), (m8, .inl (j8, 40, .inl (fun _ => 0))), (m9, .inl (j9, 40, .inl (fun _ => 0))), (m10, .inl (j10, 40, .inl (fun _ => 0))), (ou, .inl (k4, 1, .inr (.inl (fun _ => 0)))), (h0, .inr (0, [.ref rq, .ref oa, .ref pl, .ref dk, .ref rw, .int 0, .int 0, .int (-1)]))] H := hP
    have hD : va_D A [(rq, .inl (k1, 40, .inr (.inr (.inr (.inr (fun _ => none)))))), (oa, .inl (k2, 8, .inl (fun _ => 0))), (pl, .inr (1, [.ref q9, .int 0])), (dk, .inr (2, [.ref d1, .ref d2, .ref d3, .ref d4])), (d1, .inl (k3, 24, .inl (fun _ => -1))), (rw, .inr (3, [.ref r1, .int 0, .int 0])), (g0, .inr (5, [.int 0, .int 0, .int (-1), .ref m3, .int 0, .ref m5, .ref m6, .ref m7, .ref m8, .ref m9, .ref m10, .ref m11, .ref m12, .ref m13, .ref m14, .ref m15, .ref m16, .ref m17, .ref m18, .ref m19, .ref m20, .int 0, .ref m22, .ref m23, .ref m24, .ref m25, .ref m26, .ref m27, .int 0, .ref m29])), (m3, .inl (j3, 8, .inl (fun _ => 0))), (m5, .inl (j5, 40, .inl (fun _ => 0))), (m6, .inl (j6, 40, .inl (fun _ => 0))), (m7, .inl (j7, 40, .inl (fun _ => 0))), (m8, .inl (j8, 40, .inl (fun _ => 0))), (m9, .inl (j9, 40, .inl (fun _ => 0))), (m10, .inl (j10, 40, .inl (fun _ => 0))), (ou, .inl (k4, 1, .inr (.inl (fun _ => 0)))), (h0, .inr (0, [.ref rq, .ref oa, .ref pl, .ref dk, .ref rw, .int 0, .int 0, .int (-1)]))] := hD
    have hK : va_K (dC, dI) cls_ [(k1, .object "TwinTuners$Request"), (k2, .int), (k3, .int), (j3, .int), (j5, .int), (j6, .int), (j7, .int), (j8, .int), (j9, .int), (j10, .int), (k4, .long)] s := hK
    refine W.eq (g2 := F0 m 589 ls [.int 1]) rfl ?_
    refine W.cs (cells' := 39) (slots' := 14130) rfl rfl ?_
    refine lv_istore hx hb d_LW_law_589 hl (by decide) rfl (fun ls hl => ?_)
    have hl : lv_has ls 8 [(5, .int 1), (4, .int 0), (3, .ref ou), (2, .ref g0), (1, .ref h0), (0, .ref b)] := hl
    refine lv_aload_n hx hb d_LW_law_591 rfl (lv_at hl 3 rfl) ?_
    refine lv_aload_n hx hb d_LW_law_592 rfl (lv_at hl 5 rfl) ?_
    refine lv_iload hx hb d_LW_law_593 (lv_at hl 1 rfl) ?_
    refine lv_iconst (v := 1) hx hb d_LW_law_595 (by decide) ?_
    refine lv_iadd hx hb d_LW_law_596 ?_
    refine lv_topi (fun v4 ev4 => ?_)
    obtain rfl : v4 = 1 := ev4.trans (by decide)
    refine va_sld hx hb hX hbl hbA hS (show vp_in (nI 1) 6 from vp_in_nI (by decide) (by decide)) d_LW_law_597 ?_
    refine W.eq (g2 := F0 m 598 ls [.int (xs 1), .ref g0]) rfl ?_
    have hPc := hP.sub (ws' := [(g0, .inr (5, [.int 0, .int 0, .int (-1), .ref m3, .int 0, .ref m5, .ref m6, .ref m7, .ref m8, .ref m9, .ref m10, .ref m11, .ref m12, .ref m13, .ref m14, .ref m15, .ref m16, .ref m17, .ref m18, .ref m19, .ref m20, .int 0, .ref m22, .ref m23, .ref m24, .ref m25, .ref m26, .ref m27, .int 0, .ref m29]))]) [6] rfl
    have hKc := hK.sub (tys' := []) [] rfl
    have hDc := hD.sub (ws' := [(g0, .inr (5, [.int 0, .int 0, .int (-1), .ref m3, .int 0, .ref m5, .ref m6, .ref m7, .ref m8, .ref m9, .ref m10, .ref m11, .ref m12, .ref m13, .ref m14, .ref m15, .ref m16, .ref m17, .ref m18, .ref m19, .ref m20, .int 0, .ref m22, .ref m23, .ref m24, .ref m25, .ref m26, .ref m27, .int 0, .ref m29]))]) [6] (by decide) rfl
    have hFc := va_free (wc := [(g0, .inr (5, [.int 0, .int 0, .int (-1), .ref m3, .int 0, .ref m5, .ref m6, .ref m7, .ref m8, .ref m9, .ref m10, .ref m11, .ref m12, .ref m13, .ref m14, .ref m15, .ref m16, .ref m17, .ref m18, .ref m19, .ref m20, .int 0, .ref m22, .ref m23, .ref m24, .ref m25, .ref m26, .ref m27, .int 0, .ref m29]))]) hD hS hA [6] rfl
    refine fr_call (va_runV (C := R_MO) (As := [.int (xs 1)]) (rest := []) ⟨hx, hb, hml, hown, ht⟩ (c_MO_watch_bad l dC dI H.size s.heap.size g0 m3 m5 m6 m7 m8 m9 m10 m11 m12 m13 m14 m15 m16 m17 m18 m19 m20 m22 m23 m24 m25 m26 m27 m29 (xs 1) hv) (cwV 1 ht (gV tb_860 tb_861 tb_862 tb_5 tb_863) rfl rfl rfl (by decide +kernel) ⟨Nat.le_of_ble_eq_true rfl, Nat.le_of_ble_eq_true rfl⟩) ⟨frP_blind, va_recv (q := (R_MO, F_MO, 30)) hK hP rfl (show ([(rq, .inl (k1, 40, .inr (.inr (.inr (.inr (fun _ => none)))))), (oa, .inl (k2, 8, .inl (fun _ => 0))), (pl, .inr (1, [.ref q9, .int 0])), (dk, .inr (2, [.ref d1, .ref d2, .ref d3, .ref d4])), (d1, .inl (k3, 24, .inl (fun _ => -1))), (rw, .inr (3, [.ref r1, .int 0, .int 0])), (g0, .inr (5, [.int 0, .int 0, .int (-1), .ref m3, .int 0, .ref m5, .ref m6, .ref m7, .ref m8, .ref m9, .ref m10, .ref m11, .ref m12, .ref m13, .ref m14, .ref m15, .ref m16, .ref m17, .ref m18, .ref m19, .ref m20, .int 0, .ref m22, .ref m23, .ref m24, .ref m25, .ref m26, .ref m27, .int 0, .ref m29])), (m3, .inl (j3, 8, .inl (fun _ => 0))), (m5, .inl (j5, 40, .inl (fun _ => 0))), (m6, .inl (j6, 40, .inl (fun _ => 0))), (m7, .inl (j7, 40, .inl (fun _ => 0))), (m8, .inl (j8, 40, .inl (fun _ => 0))), (m9, .inl (j9, 40, .inl (fun _ => 0))), (m10, .inl (j10, 40, .inl (fun _ => 0))), (ou, .inl (k4, 1, .inr (.inl (fun _ => 0)))), (h0, .inr (0, [.ref rq, .ref oa, .ref pl, .ref dk, .ref rw, .int 0, .int 0, .int (-1)]))] : va_W)[6]? = some (g0, .inr (5, [.int 0, .int 0, .int (-1), .ref m3, .int 0, .ref m5, .ref m6, .ref m7, .ref m8, .ref m9, .ref m10, .ref m11, .ref m12, .ref m13, .ref m14, .ref m15, .ref m16, .ref m17, .ref m18, .ref m19, .ref m20, .int 0, .ref m22, .ref m23, .ref m24, .ref m25, .ref m26, .ref m27, .int 0, .ref m29])) from rfl), fr_pre hPc hKc hDc hAB hBs hS hV⟩ rfl rfl hl.1 rfl (lv_room (Nat.le_of_ble_eq_true rfl)) d_LW_law_598 ⟨Nat.le_of_ble_eq_true rfl, Nat.le_of_ble_eq_true rfl⟩) hS (fun q _ h => hFc q h) hFc (fun t H1 locs ht1 hvm hB1 hz1 hk1 hS => ?_)
    obtain ⟨hP1, hK1, hD1⟩ := hB1
    rw [ht1] at hP1
    have hK1 := va_K.moved hvm.symm hK1
    obtain ⟨hP, hD⟩ := va_join (wr := [(rq, .inl (k1, 40, .inr (.inr (.inr (.inr (fun _ => none)))))), (oa, .inl (k2, 8, .inl (fun _ => 0))), (pl, .inr (1, [.ref q9, .int 0])), (dk, .inr (2, [.ref d1, .ref d2, .ref d3, .ref d4])), (d1, .inl (k3, 24, .inl (fun _ => -1))), (rw, .inr (3, [.ref r1, .int 0, .int 0])), (m3, .inl (j3, 8, .inl (fun _ => 0))), (m5, .inl (j5, 40, .inl (fun _ => 0))), (m6, .inl (j6, 40, .inl (fun _ => 0))), (m7, .inl (j7, 40, .inl (fun _ => 0))), (m8, .inl (j8, 40, .inl (fun _ => 0))), (m9, .inl (j9, 40, .inl (fun _ => 0))), (m10, .inl (j10, 40, .inl (fun _ => 0))), (ou, .inl (k4, 1, .inr (.inl (fun _ => 0)))), (h0, .inr (0, [.ref rq, .ref oa, .ref pl, .ref dk, .ref rw, .int 0, .int 0, .int (-1)]))]) (w1 := [(g0, .inr (5, [.int 1, .int 0, .int (-1), .ref m3, .int 0, .ref m5, .ref m6, .ref m7, .ref m8, .ref m9, .ref m10, .ref m11, .ref m12, .ref m13, .ref m14, .ref m15, .ref m16, .ref m17, .ref m18, .ref m19, .ref m20, .int 0, .ref m22, .ref m23, .ref m24, .ref m25, .ref m26, .ref m27, .int 0, .ref m29]))]) hP hD [6] [0, 1, 2, 3, 4, 5, 7, 8, 9, 10, 11, 12, 13, 14, 15] rfl rfl (by decide) (by decide) hk1 hFc hP1 hD1
    have hK := hK.app hK1
    generalize H1 = H at hP hS ⊢
    have hP : va_P (dC, dI) cls_ [(rq, .inl (k1, 40, .inr (.inr (.inr (.inr (fun _ => none)))))), (oa, .inl (k2, 8, .inl (fun _ => 0))), (pl, .inr (1, [.ref q9, .int 0])), (dk, .inr (2, [.ref d1, .ref d2, .ref d3, .ref d4])), (d1, .inl (k3, 24, .inl (fun _ => -1))), (rw, .inr (3, [.ref r1, .int 0, .int 0])), (m3, .inl (j3, 8, .inl (fun _ => 0))), (m5, .inl (j5, 40, .inl (fun _ => 0))), (m6, .inl (j6, 40, .inl (fun _ => 0))), (m7, .inl (j7, 40, .inl (fun _ => 0))), (m8, .inl (j8, 40, .inl (fun _ => 0))), (m9, .inl (j9, 40, .inl (fun _ => 0))), (m10, .inl (j10, 40, .inl (fun _ => 0))), (ou, .inl (k4, 1, .inr (.inl (fun _ => 0)))), (h0, .inr (0, [.ref rq, .ref oa, .ref pl, .ref dk, .ref rw, .int 0, .int 0, .int (-1)])), (g0, .inr (5, [.int 1, .int 0, .int (-1), .ref m3, .int 0, .ref m5, .ref m6, .ref m7, .ref m8, .ref m9, .ref m10, .ref m11, .ref m12, .ref m13, .ref m14, .ref m15, .ref m16, .ref m17, .ref m18, .ref m19, .ref m20, .int 0, .ref m22, .ref m23, .ref m24, .ref m25, .ref m26, .ref m27, .int 0, .ref m29]))] H := hP
    have hD : va_D A [(rq, .inl (k1, 40, .inr (.inr (.inr (.inr (fun _ => none)))))), (oa, .inl (k2, 8, .inl (fun _ => 0))), (pl, .inr (1, [.ref q9, .int 0])), (dk, .inr (2, [.ref d1, .ref d2, .ref d3, .ref d4])), (d1, .inl (k3, 24, .inl (fun _ => -1))), (rw, .inr (3, [.ref r1, .int 0, .int 0])), (m3, .inl (j3, 8, .inl (fun _ => 0))), (m5, .inl (j5, 40, .inl (fun _ => 0))), (m6, .inl (j6, 40, .inl (fun _ => 0))), (m7, .inl (j7, 40, .inl (fun _ => 0))), (m8, .inl (j8, 40, .inl (fun _ => 0))), (m9, .inl (j9, 40, .inl (fun _ => 0))), (m10, .inl (j10, 40, .inl (fun _ => 0))), (ou, .inl (k4, 1, .inr (.inl (fun _ => 0)))), (h0, .inr (0, [.ref rq, .ref oa, .ref pl, .ref dk, .ref rw, .int 0, .int 0, .int (-1)])), (g0, .inr (5, [.int 1, .int 0, .int (-1), .ref m3, .int 0, .ref m5, .ref m6, .ref m7, .ref m8, .ref m9, .ref m10, .ref m11, .ref m12, .ref m13, .ref m14, .ref m15, .ref m16, .ref m17, .ref m18, .ref m19, .ref m20, .int 0, .ref m22, .ref m23, .ref m24, .ref m25, .ref m26, .ref m27, .int 0, .ref m29]))] := hD
    have hK : va_K (dC, dI) cls_ [(k1, .object "TwinTuners$Request"), (k2, .int), (k3, .int), (j3, .int), (j5, .int), (j6, .int), (j7, .int), (j8, .int), (j9, .int), (j10, .int), (k4, .long)] s := hK
    refine W.eq (g2 := F0 m 601 ls [.int 0]) rfl ?_
    refine W.cs (cells' := 39) (slots' := 14130) rfl rfl ?_
    refine lv_istore hx hb d_LW_law_601 hl (by decide) rfl (fun ls hl => ?_)
    have hl : lv_has ls 8 [(6, .int 0), (5, .int 1), (4, .int 0), (3, .ref ou), (2, .ref g0), (1, .ref h0), (0, .ref b)] := hl
    refine lv_aload_n hx hb d_LW_law_603 rfl (lv_at hl 4 rfl) ?_
    have hPc := hP.sub (ws' := [(g0, .inr (5, [.int 1, .int 0, .int (-1), .ref m3, .int 0, .ref m5, .ref m6, .ref m7, .ref m8, .ref m9, .ref m10, .ref m11, .ref m12, .ref m13, .ref m14, .ref m15, .ref m16, .ref m17, .ref m18, .ref m19, .ref m20, .int 0, .ref m22, .ref m23, .ref m24, .ref m25, .ref m26, .ref m27, .int 0, .ref m29]))]) [15] rfl
    have hKc := hK.sub (tys' := []) [] rfl
    refine rd_call (va_runV (C := R_MO) (As := []) (rest := []) ⟨hx, hb, hml, hown, ht⟩ (c_MO_thrown_v l dC dI g0 m3 m5 m6 m7 m8 m9 m10 m11 m12 m13 m14 m15 m16 m17 m18 m19 m20 m22 m23 m24 m25 m26 m27 m29 1 0 (-1) 0) (cwV 0 ht (gV tb_723 tb_724 tb_725 tb_5 tb_726) rfl rfl rfl (by decide +kernel) ⟨Nat.le_of_ble_eq_true rfl, Nat.le_of_ble_eq_true rfl⟩) ⟨rdP_blind, va_recv (q := (R_MO, F_MO, 30)) hK hP rfl (show ([(rq, .inl (k1, 40, .inr (.inr (.inr (.inr (fun _ => none)))))), (oa, .inl (k2, 8, .inl (fun _ => 0))), (pl, .inr (1, [.ref q9, .int 0])), (dk, .inr (2, [.ref d1, .ref d2, .ref d3, .ref d4])), (d1, .inl (k3, 24, .inl (fun _ => -1))), (rw, .inr (3, [.ref r1, .int 0, .int 0])), (m3, .inl (j3, 8, .inl (fun _ => 0))), (m5, .inl (j5, 40, .inl (fun _ => 0))), (m6, .inl (j6, 40, .inl (fun _ => 0))), (m7, .inl (j7, 40, .inl (fun _ => 0))), (m8, .inl (j8, 40, .inl (fun _ => 0))), (m9, .inl (j9, 40, .inl (fun _ => 0))), (m10, .inl (j10, 40, .inl (fun _ => 0))), (ou, .inl (k4, 1, .inr (.inl (fun _ => 0)))), (h0, .inr (0, [.ref rq, .ref oa, .ref pl, .ref dk, .ref rw, .int 0, .int 0, .int (-1)])), (g0, .inr (5, [.int 1, .int 0, .int (-1), .ref m3, .int 0, .ref m5, .ref m6, .ref m7, .ref m8, .ref m9, .ref m10, .ref m11, .ref m12, .ref m13, .ref m14, .ref m15, .ref m16, .ref m17, .ref m18, .ref m19, .ref m20, .int 0, .ref m22, .ref m23, .ref m24, .ref m25, .ref m26, .ref m27, .int 0, .ref m29]))] : va_W)[15]? = some (g0, .inr (5, [.int 1, .int 0, .int (-1), .ref m3, .int 0, .ref m5, .ref m6, .ref m7, .ref m8, .ref m9, .ref m10, .ref m11, .ref m12, .ref m13, .ref m14, .ref m15, .ref m16, .ref m17, .ref m18, .ref m19, .ref m20, .int 0, .ref m22, .ref m23, .ref m24, .ref m25, .ref m26, .ref m27, .int 0, .ref m29])) from rfl), rd_pre hPc hKc⟩ rfl rfl hl.1 rfl (lv_room (Nat.le_of_ble_eq_true rfl)) d_LW_law_604 ⟨Nat.le_of_ble_eq_true rfl, Nat.le_of_ble_eq_true rfl⟩) ?_
    refine W.eq (g2 := F0 m 607 ls [.int 1]) rfl ?_
    refine lv_iload hx hb d_LW_law_607 (lv_at hl 1 rfl) ?_
    refine lv_icmp_eq (tgt := 614) hx hb d_LW_law_609 (by decide) (fun _ => ?_) (fun h9 => absurd (rfl) h9)
    refine lv_iload hx hb d_LW_law_614 (lv_at hl 1 rfl) ?_
    refine lv_if_ne (tgt := 631) hx hb d_LW_law_616 (by decide) (fun _ => ?_) (fun h9 => absurd h9 (by decide))
    refine lv_goto (tgt := 1228) hx hb d_LW_law_631 (by decide) ?_
    have hl := lv_sub hl [2, 6] (l' := [(4, .int 0), (0, .ref b)]) rfl
    exact tl_end hx hb hr hlocks hbl hbA hAB hX (Nat.le_of_ble_eq_true rfl) (Nat.le_of_ble_eq_true rfl) hS hl
set_option maxHeartbeats 4000000 in
set_option maxRecDepth 100000 in
theorem cs_20 {p : Program} {l : Launch} {e : Env} {s : State} {m : MethodId} {below : List Frame} {meth : Method} {c : Code} {A : Nat → Prop} {b : Nat} {H : Heap} {locs : List Loc} {ls : Array Slot} {xs : Nat → Int32} (dC : Nat → ClassId) (dI : Nat → Nat → Nat) (h0 rq oa pl dk rw q9 d1 d2 d3 d4 r1 g0 m3 m5 m6 m7 m8 m9 m10 m11 m12 m13 m14 m15 m16 m17 m18 m19 m20 m22 m23 m24 m25 m26 m27 m29 ou : Nat) (k1 k2 k3 j3 j5 j6 j7 j8 j9 j10 k4 : ClassId) (hl9 : l.stackTraces = false) (hx : p.tables.exec = Jvm.exec) (hb : c.code = code) (hr : meth.sig.returnType = ret) (hlocks : meth.locks = false) (hbl : b < s.heap.size) (hbA : ¬ A b) (hAB : ∀ q, A q → s.heap.size ≤ q) (hX : va_X b 6 xs s s.heap) (hml : c.maxLocals = 8) (hown : s.vm.findClass R_LW = some m.cls) (ht : ∀ w ∈ tb_, w.before #[Value.ref b] s = true) (hA : ∀ q : Nat, s.heap.size ≤ q → A q) (hBs : s.heap.size ≤ s.heap.size) (hV : tw_V s.heap.size s s.heap)
    (hK : va_K (dC, dI) cls_ [(k1, .object "TwinTuners$Request"), (k2, .int), (k3, .int), (j3, .int), (j5, .int), (j6, .int), (j7, .int), (j8, .int), (j9, .int), (j10, .int), (k4, .long)] s) (hP : va_P (dC, dI) cls_ [(h0, .inr (0, [.ref rq, .ref oa, .ref pl, .ref dk, .ref rw, .int 0, .int 0, .int (-1)])), (rq, .inl (k1, 40, .inr (.inr (.inr (.inr (fun _ => none)))))), (oa, .inl (k2, 8, .inl (fun _ => 0))), (pl, .inr (1, [.ref q9, .int 0])), (dk, .inr (2, [.ref d1, .ref d2, .ref d3, .ref d4])), (d1, .inl (k3, 24, .inl (fun _ => -1))), (rw, .inr (3, [.ref r1, .int 0, .int 0])), (g0, .inr (5, [.int 0, .int 0, .int (-1), .ref m3, .int 0, .ref m5, .ref m6, .ref m7, .ref m8, .ref m9, .ref m10, .ref m11, .ref m12, .ref m13, .ref m14, .ref m15, .ref m16, .ref m17, .ref m18, .ref m19, .ref m20, .int 0, .ref m22, .ref m23, .ref m24, .ref m25, .ref m26, .ref m27, .int 0, .ref m29])), (m3, .inl (j3, 8, .inl (fun _ => 0))), (m5, .inl (j5, 40, .inl (fun _ => 0))), (m6, .inl (j6, 40, .inl (fun _ => 0))), (m7, .inl (j7, 40, .inl (fun _ => 0))), (m8, .inl (j8, 40, .inl (fun _ => 0))), (m9, .inl (j9, 40, .inl (fun _ => 0))), (m10, .inl (j10, 40, .inl (fun _ => 0))), (ou, .inl (k4, 1, .inr (.inl (fun _ => 0))))] H) (hD : va_D A [(h0, .inr (0, [.ref rq, .ref oa, .ref pl, .ref dk, .ref rw, .int 0, .int 0, .int (-1)])), (rq, .inl (k1, 40, .inr (.inr (.inr (.inr (fun _ => none)))))), (oa, .inl (k2, 8, .inl (fun _ => 0))), (pl, .inr (1, [.ref q9, .int 0])), (dk, .inr (2, [.ref d1, .ref d2, .ref d3, .ref d4])), (d1, .inl (k3, 24, .inl (fun _ => -1))), (rw, .inr (3, [.ref r1, .int 0, .int 0])), (g0, .inr (5, [.int 0, .int 0, .int (-1), .ref m3, .int 0, .ref m5, .ref m6, .ref m7, .ref m8, .ref m9, .ref m10, .ref m11, .ref m12, .ref m13, .ref m14, .ref m15, .ref m16, .ref m17, .ref m18, .ref m19, .ref m20, .int 0, .ref m22, .ref m23, .ref m24, .ref m25, .ref m26, .ref m27, .int 0, .ref m29])), (m3, .inl (j3, 8, .inl (fun _ => 0))), (m5, .inl (j5, 40, .inl (fun _ => 0))), (m6, .inl (j6, 40, .inl (fun _ => 0))), (m7, .inl (j7, 40, .inl (fun _ => 0))), (m8, .inl (j8, 40, .inl (fun _ => 0))), (m9, .inl (j9, 40, .inl (fun _ => 0))), (m10, .inl (j10, 40, .inl (fun _ => 0))), (ou, .inl (k4, 1, .inr (.inl (fun _ => 0))))]) (hS : va_S A s.heap H locs) (hl : lv_has ls 8 [(4, .int 0), (3, .ref ou), (2, .ref g0), (1, .ref h0), (0, .ref b)]) : W p l e room_1 s m #[Value.ref b] below meth c H locs 38 14124 (lw_Z below #[Value.ref b] s) (F0 m 1172 ls []) := by
  by_cases hv : 0 ≤ xs 1 ∧ xs 1 ≤ 1000
  · refine lv_aload_n hx hb d_LW_law_1172 rfl (lv_at hl 3 rfl) ?_
    refine lv_aload_n hx hb d_LW_law_1173 rfl (lv_at hl 4 rfl) ?_
    refine lv_iload hx hb d_LW_law_1174 (lv_at hl 0 rfl) ?_
    refine lv_iconst (v := 1) hx hb d_LW_law_1176 (by decide) ?_
    refine lv_iadd hx hb d_LW_law_1177 ?_
    refine lv_topi (fun v1 ev1 => ?_)
    obtain rfl : v1 = 1 := ev1.trans (by decide)
    refine va_sld hx hb hX hbl hbA hS (show vp_in (nI 1) 6 from vp_in_nI (by decide) (by decide)) d_LW_law_1178 ?_
    refine W.eq (g2 := F0 m 1179 ls [.int (xs 1), .ref h0]) rfl ?_
    refine lv_aload_n hx hb d_LW_law_1179 rfl (lv_at hl 1 rfl) ?_
    have hPc := hP.sub (ws' := [(h0, .inr (0, [.ref rq, .ref oa, .ref pl, .ref dk, .ref rw, .int 0, .int 0, .int (-1)])), (rw, .inr (3, [.ref r1, .int 0, .int 0])), (ou, .inl (k4, 1, .inr (.inl (fun _ => 0))))]) [0, 6, 15] rfl
    have hKc := hK.sub (tys' := [(k4, .long)]) [10] rfl
    have hDc := hD.sub (ws' := [(h0, .inr (0, [.ref rq, .ref oa, .ref pl, .ref dk, .ref rw, .int 0, .int 0, .int (-1)])), (rw, .inr (3, [.ref r1, .int 0, .int 0])), (ou, .inl (k4, 1, .inr (.inl (fun _ => 0))))]) [0, 6, 15] (by decide) rfl
    have hFc := va_free (wc := [(h0, .inr (0, [.ref rq, .ref oa, .ref pl, .ref dk, .ref rw, .int 0, .int 0, .int (-1)])), (rw, .inr (3, [.ref r1, .int 0, .int 0])), (ou, .inl (k4, 1, .inr (.inl (fun _ => 0))))]) hD hS hA [0, 6, 15] rfl
    refine fr_call (tw_runSW (As := [.ref h0, .int (xs 1), .ref ou]) (rest := []) ⟨hx, hb, hml, hown, ht⟩ (c_LW_cut_good l dC dI H.size s.heap.size h0 rq oa pl dk rw r1 ou k4 (xs 1) hv) rfl rfl ⟨Nat.le_of_ble_eq_true rfl, Nat.le_of_ble_eq_true rfl⟩ (pay_in ht (gW tb_612)) (show _ ∈ w_LW_cut from List.mem_cons_self) (ht _ tb_610) (ht _ tb_611) (ht _ tb_0) (n := 3) (by decide +kernel) ⟨frP_blind, fr_pre hPc hKc hDc hAB hBs hS hV⟩ rfl rfl hl.1 rfl (lv_room (Nat.le_of_ble_eq_true rfl)) d_LW_law_1180 ⟨Nat.le_of_ble_eq_true rfl, Nat.le_of_ble_eq_true rfl⟩) hS (fun q _ h => hFc q h) hFc (fun t H1 locs ht1 hvm hB1 hz1 hk1 hS => ?_)
    obtain ⟨hP1, hK1, hD1⟩ := hB1
    rw [ht1] at hP1
    have hK1 := va_K.moved hvm.symm hK1
    obtain ⟨hP, hD⟩ := va_join (wr := [(rq, .inl (k1, 40, .inr (.inr (.inr (.inr (fun _ => none)))))), (oa, .inl (k2, 8, .inl (fun _ => 0))), (pl, .inr (1, [.ref q9, .int 0])), (dk, .inr (2, [.ref d1, .ref d2, .ref d3, .ref d4])), (d1, .inl (k3, 24, .inl (fun _ => -1))), (g0, .inr (5, [.int 0, .int 0, .int (-1), .ref m3, .int 0, .ref m5, .ref m6, .ref m7, .ref m8, .ref m9, .ref m10, .ref m11, .ref m12, .ref m13, .ref m14, .ref m15, .ref m16, .ref m17, .ref m18, .ref m19, .ref m20, .int 0, .ref m22, .ref m23, .ref m24, .ref m25, .ref m26, .ref m27, .int 0, .ref m29])), (m3, .inl (j3, 8, .inl (fun _ => 0))), (m5, .inl (j5, 40, .inl (fun _ => 0))), (m6, .inl (j6, 40, .inl (fun _ => 0))), (m7, .inl (j7, 40, .inl (fun _ => 0))), (m8, .inl (j8, 40, .inl (fun _ => 0))), (m9, .inl (j9, 40, .inl (fun _ => 0))), (m10, .inl (j10, 40, .inl (fun _ => 0)))]) (w1 := [(ou, .inl (k4, 1, .inr (.inl (vp_updL (fun _ => 0) (0 : Int32).toNatClampNeg (0 : Int32).toInt64))))]) hP hD [0, 6, 15] [1, 2, 3, 4, 5, 7, 8, 9, 10, 11, 12, 13, 14] rfl rfl (by decide) (by decide) hk1 hFc hP1 hD1
    have hK := hK.app hK1
    generalize H1 = H at hP hS ⊢
    have hP : va_P (dC, dI) cls_ [(rq, .inl (k1, 40, .inr (.inr (.inr (.inr (fun _ => none)))))), (oa, .inl (k2, 8, .inl (fun _ => 0))), (pl, .inr (1, [.ref q9, .int 0])), (dk, .inr (2, [.ref d1, .ref d2, .ref d3, .ref d4])), (d1, .inl (k3, 24, .inl (fun _ => -1))), (g0, .inr (5, [.int 0, .int 0, .int (-1), .ref m3, .int 0, .ref m5, .ref m6, .ref m7, .ref m8, .ref m9, .ref m10, .ref m11, .ref m12, .ref m13, .ref m14, .ref m15, .ref m16, .ref m17, .ref m18, .ref m19, .ref m20, .int 0, .ref m22, .ref m23, .ref m24, .ref m25, .ref m26, .ref m27, .int 0, .ref m29])), (m3, .inl (j3, 8, .inl (fun _ => 0))), (m5, .inl (j5, 40, .inl (fun _ => 0))), (m6, .inl (j6, 40, .inl (fun _ => 0))), (m7, .inl (j7, 40, .inl (fun _ => 0))), (m8, .inl (j8, 40, .inl (fun _ => 0))), (m9, .inl (j9, 40, .inl (fun _ => 0))), (m10, .inl (j10, 40, .inl (fun _ => 0))), (ou, .inl (k4, 1, .inr (.inl (vp_updL (fun _ => 0) (0 : Int32).toNatClampNeg (0 : Int32).toInt64))))] H := hP
    have hD : va_D A [(rq, .inl (k1, 40, .inr (.inr (.inr (.inr (fun _ => none)))))), (oa, .inl (k2, 8, .inl (fun _ => 0))), (pl, .inr (1, [.ref q9, .int 0])), (dk, .inr (2, [.ref d1, .ref d2, .ref d3, .ref d4])), (d1, .inl (k3, 24, .inl (fun _ => -1))), (g0, .inr (5, [.int 0, .int 0, .int (-1), .ref m3, .int 0, .ref m5, .ref m6, .ref m7, .ref m8, .ref m9, .ref m10, .ref m11, .ref m12, .ref m13, .ref m14, .ref m15, .ref m16, .ref m17, .ref m18, .ref m19, .ref m20, .int 0, .ref m22, .ref m23, .ref m24, .ref m25, .ref m26, .ref m27, .int 0, .ref m29])), (m3, .inl (j3, 8, .inl (fun _ => 0))), (m5, .inl (j5, 40, .inl (fun _ => 0))), (m6, .inl (j6, 40, .inl (fun _ => 0))), (m7, .inl (j7, 40, .inl (fun _ => 0))), (m8, .inl (j8, 40, .inl (fun _ => 0))), (m9, .inl (j9, 40, .inl (fun _ => 0))), (m10, .inl (j10, 40, .inl (fun _ => 0))), (ou, .inl (k4, 1, .inr (.inl (vp_updL (fun _ => 0) (0 : Int32).toNatClampNeg (0 : Int32).toInt64))))] := hD
    have hK : va_K (dC, dI) cls_ [(k1, .object "TwinTuners$Request"), (k2, .int), (k3, .int), (j3, .int), (j5, .int), (j6, .int), (j7, .int), (j8, .int), (j9, .int), (j10, .int), (k4, .long), (k4, .long)] s := hK
    refine W.eq (g2 := F0 m 1183 ls [.int 0]) rfl ?_
    refine W.cs (cells' := 38) (slots' := 14124) rfl rfl ?_
    refine lv_istore hx hb d_LW_law_1183 hl (by decide) rfl (fun ls hl => ?_)
    have hl : lv_has ls 8 [(5, .int 0), (4, .int 0), (3, .ref ou), (2, .ref g0), (1, .ref h0), (0, .ref b)] := hl
    refine lv_aload_n hx hb d_LW_law_1185 rfl (lv_at hl 3 rfl) ?_
    refine lv_aload_n hx hb d_LW_law_1186 rfl (lv_at hl 5 rfl) ?_
    refine lv_iload hx hb d_LW_law_1187 (lv_at hl 1 rfl) ?_
    refine lv_iconst (v := 1) hx hb d_LW_law_1189 (by decide) ?_
    refine lv_iadd hx hb d_LW_law_1190 ?_
    refine lv_topi (fun v2 ev2 => ?_)
    obtain rfl : v2 = 1 := ev2.trans (by decide)
    refine va_sld hx hb hX hbl hbA hS (show vp_in (nI 1) 6 from vp_in_nI (by decide) (by decide)) d_LW_law_1191 ?_
    refine W.eq (g2 := F0 m 1192 ls [.int (xs 1), .ref g0]) rfl ?_
    have hPc := hP.sub (ws' := [(g0, .inr (5, [.int 0, .int 0, .int (-1), .ref m3, .int 0, .ref m5, .ref m6, .ref m7, .ref m8, .ref m9, .ref m10, .ref m11, .ref m12, .ref m13, .ref m14, .ref m15, .ref m16, .ref m17, .ref m18, .ref m19, .ref m20, .int 0, .ref m22, .ref m23, .ref m24, .ref m25, .ref m26, .ref m27, .int 0, .ref m29]))]) [5] rfl
    have hKc := hK.sub (tys' := []) [] rfl
    have hDc := hD.sub (ws' := [(g0, .inr (5, [.int 0, .int 0, .int (-1), .ref m3, .int 0, .ref m5, .ref m6, .ref m7, .ref m8, .ref m9, .ref m10, .ref m11, .ref m12, .ref m13, .ref m14, .ref m15, .ref m16, .ref m17, .ref m18, .ref m19, .ref m20, .int 0, .ref m22, .ref m23, .ref m24, .ref m25, .ref m26, .ref m27, .int 0, .ref m29]))]) [5] (by decide) rfl
    have hFc := va_free (wc := [(g0, .inr (5, [.int 0, .int 0, .int (-1), .ref m3, .int 0, .ref m5, .ref m6, .ref m7, .ref m8, .ref m9, .ref m10, .ref m11, .ref m12, .ref m13, .ref m14, .ref m15, .ref m16, .ref m17, .ref m18, .ref m19, .ref m20, .int 0, .ref m22, .ref m23, .ref m24, .ref m25, .ref m26, .ref m27, .int 0, .ref m29]))]) hD hS hA [5] rfl
    refine fr_call (va_runV (C := R_MO) (As := [.int (xs 1)]) (rest := []) ⟨hx, hb, hml, hown, ht⟩ (c_MO_cut_ok l dC dI H.size s.heap.size g0 m3 m5 m6 m7 m8 m9 m10 m11 m12 m13 m14 m15 m16 m17 m18 m19 m20 m22 m23 m24 m25 m26 m27 m29 (xs 1) hv) (cwV 1 ht (gV tb_914 tb_915 tb_916 tb_5 tb_917) rfl rfl rfl (by decide +kernel) ⟨Nat.le_of_ble_eq_true rfl, Nat.le_of_ble_eq_true rfl⟩) ⟨frP_blind, va_recv (q := (R_MO, F_MO, 30)) hK hP rfl (show ([(rq, .inl (k1, 40, .inr (.inr (.inr (.inr (fun _ => none)))))), (oa, .inl (k2, 8, .inl (fun _ => 0))), (pl, .inr (1, [.ref q9, .int 0])), (dk, .inr (2, [.ref d1, .ref d2, .ref d3, .ref d4])), (d1, .inl (k3, 24, .inl (fun _ => -1))), (g0, .inr (5, [.int 0, .int 0, .int (-1), .ref m3, .int 0, .ref m5, .ref m6, .ref m7, .ref m8, .ref m9, .ref m10, .ref m11, .ref m12, .ref m13, .ref m14, .ref m15, .ref m16, .ref m17, .ref m18, .ref m19, .ref m20, .int 0, .ref m22, .ref m23, .ref m24, .ref m25, .ref m26, .ref m27, .int 0, .ref m29])), (m3, .inl (j3, 8, .inl (fun _ => 0))), (m5, .inl (j5, 40, .inl (fun _ => 0))), (m6, .inl (j6, 40, .inl (fun _ => 0))), (m7, .inl (j7, 40, .inl (fun _ => 0))), (m8, .inl (j8, 40, .inl (fun _ => 0))), (m9, .inl (j9, 40, .inl (fun _ => 0))), (m10, .inl (j10, 40, .inl (fun _ => 0))), (ou, .inl (k4, 1, .inr (.inl (vp_updL (fun _ => 0) (0 : Int32).toNatClampNeg (0 : Int32).toInt64))))] : va_W)[5]? = some (g0, .inr (5, [.int 0, .int 0, .int (-1), .ref m3, .int 0, .ref m5, .ref m6, .ref m7, .ref m8, .ref m9, .ref m10, .ref m11, .ref m12, .ref m13, .ref m14, .ref m15, .ref m16, .ref m17, .ref m18, .ref m19, .ref m20, .int 0, .ref m22, .ref m23, .ref m24, .ref m25, .ref m26, .ref m27, .int 0, .ref m29])) from rfl), fr_pre hPc hKc hDc hAB hBs hS hV⟩ rfl rfl hl.1 rfl (lv_room (Nat.le_of_ble_eq_true rfl)) d_LW_law_1192 ⟨Nat.le_of_ble_eq_true rfl, Nat.le_of_ble_eq_true rfl⟩) hS (fun q _ h => hFc q h) hFc (fun t H1 locs ht1 hvm hB1 hz1 hk1 hS => ?_)
    obtain ⟨hP1, hK1, hD1⟩ := hB1
    rw [ht1] at hP1
    have hK1 := va_K.moved hvm.symm hK1
    obtain ⟨hP, hD⟩ := va_join (wr := [(rq, .inl (k1, 40, .inr (.inr (.inr (.inr (fun _ => none)))))), (oa, .inl (k2, 8, .inl (fun _ => 0))), (pl, .inr (1, [.ref q9, .int 0])), (dk, .inr (2, [.ref d1, .ref d2, .ref d3, .ref d4])), (d1, .inl (k3, 24, .inl (fun _ => -1))), (m3, .inl (j3, 8, .inl (fun _ => 0))), (m5, .inl (j5, 40, .inl (fun _ => 0))), (m6, .inl (j6, 40, .inl (fun _ => 0))), (m7, .inl (j7, 40, .inl (fun _ => 0))), (m8, .inl (j8, 40, .inl (fun _ => 0))), (m9, .inl (j9, 40, .inl (fun _ => 0))), (m10, .inl (j10, 40, .inl (fun _ => 0))), (ou, .inl (k4, 1, .inr (.inl (vp_updL (fun _ => 0) (0 : Int32).toNatClampNeg (0 : Int32).toInt64))))]) (w1 := [(g0, .inr (5, [.int 0, .int (xs 1), .int (-1), .ref m3, .int 0, .ref m5, .ref m6, .ref m7, .ref m8, .ref m9, .ref m10, .ref m11, .ref m12, .ref m13, .ref m14, .ref m15, .ref m16, .ref m17, .ref m18, .ref m19, .ref m20, .int 0, .ref m22, .ref m23, .ref m24, .ref m25, .ref m26, .ref m27, .int 0, .ref m29]))]) hP hD [5] [0, 1, 2, 3, 4, 6, 7, 8, 9, 10, 11, 12, 13] rfl rfl (by decide) (by decide) hk1 hFc hP1 hD1
    have hK := hK.app hK1
    generalize H1 = H at hP hS ⊢
    have hP : va_P (dC, dI) cls_ [(rq, .inl (k1, 40, .inr (.inr (.inr (.inr (fun _ => none)))))), (oa, .inl (k2, 8, .inl (fun _ => 0))), (pl, .inr (1, [.ref q9, .int 0])), (dk, .inr (2, [.ref d1, .ref d2, .ref d3, .ref d4])), (d1, .inl (k3, 24, .inl (fun _ => -1))), (m3, .inl (j3, 8, .inl (fun _ => 0))), (m5, .inl (j5, 40, .inl (fun _ => 0))), (m6, .inl (j6, 40, .inl (fun _ => 0))), (m7, .inl (j7, 40, .inl (fun _ => 0))), (m8, .inl (j8, 40, .inl (fun _ => 0))), (m9, .inl (j9, 40, .inl (fun _ => 0))), (m10, .inl (j10, 40, .inl (fun _ => 0))), (ou, .inl (k4, 1, .inr (.inl (vp_updL (fun _ => 0) (0 : Int32).toNatClampNeg (0 : Int32).toInt64)))), (g0, .inr (5, [.int 0, .int (xs 1), .int (-1), .ref m3, .int 0, .ref m5, .ref m6, .ref m7, .ref m8, .ref m9, .ref m10, .ref m11, .ref m12, .ref m13, .ref m14, .ref m15, .ref m16, .ref m17, .ref m18, .ref m19, .ref m20, .int 0, .ref m22, .ref m23, .ref m24, .ref m25, .ref m26, .ref m27, .int 0, .ref m29]))] H := hP
    have hD : va_D A [(rq, .inl (k1, 40, .inr (.inr (.inr (.inr (fun _ => none)))))), (oa, .inl (k2, 8, .inl (fun _ => 0))), (pl, .inr (1, [.ref q9, .int 0])), (dk, .inr (2, [.ref d1, .ref d2, .ref d3, .ref d4])), (d1, .inl (k3, 24, .inl (fun _ => -1))), (m3, .inl (j3, 8, .inl (fun _ => 0))), (m5, .inl (j5, 40, .inl (fun _ => 0))), (m6, .inl (j6, 40, .inl (fun _ => 0))), (m7, .inl (j7, 40, .inl (fun _ => 0))), (m8, .inl (j8, 40, .inl (fun _ => 0))), (m9, .inl (j9, 40, .inl (fun _ => 0))), (m10, .inl (j10, 40, .inl (fun _ => 0))), (ou, .inl (k4, 1, .inr (.inl (vp_updL (fun _ => 0) (0 : Int32).toNatClampNeg (0 : Int32).toInt64)))), (g0, .inr (5, [.int 0, .int (xs 1), .int (-1), .ref m3, .int 0, .ref m5, .ref m6, .ref m7, .ref m8, .ref m9, .ref m10, .ref m11, .ref m12, .ref m13, .ref m14, .ref m15, .ref m16, .ref m17, .ref m18, .ref m19, .ref m20, .int 0, .ref m22, .ref m23, .ref m24, .ref m25, .ref m26, .ref m27, .int 0, .ref m29]))] := hD
    have hK : va_K (dC, dI) cls_ [(k1, .object "TwinTuners$Request"), (k2, .int), (k3, .int), (j3, .int), (j5, .int), (j6, .int), (j7, .int), (j8, .int), (j9, .int), (j10, .int), (k4, .long), (k4, .long)] s := hK
    refine W.eq (g2 := F0 m 1195 ls [.int 0]) rfl ?_
    refine W.cs (cells' := 38) (slots' := 14124) rfl rfl ?_
    refine lv_istore hx hb d_LW_law_1195 hl (by decide) rfl (fun ls hl => ?_)
    have hl : lv_has ls 8 [(6, .int 0), (5, .int 0), (4, .int 0), (3, .ref ou), (2, .ref g0), (1, .ref h0), (0, .ref b)] := hl
    refine lv_aload_n hx hb d_LW_law_1197 rfl (lv_at hl 4 rfl) ?_
    have hPc := hP.sub (ws' := [(g0, .inr (5, [.int 0, .int (xs 1), .int (-1), .ref m3, .int 0, .ref m5, .ref m6, .ref m7, .ref m8, .ref m9, .ref m10, .ref m11, .ref m12, .ref m13, .ref m14, .ref m15, .ref m16, .ref m17, .ref m18, .ref m19, .ref m20, .int 0, .ref m22, .ref m23, .ref m24, .ref m25, .ref m26, .ref m27, .int 0, .ref m29]))]) [13] rfl
    have hKc := hK.sub (tys' := []) [] rfl
    refine rd_call (va_runV (C := R_MO) (As := []) (rest := []) ⟨hx, hb, hml, hown, ht⟩ (c_MO_thrown_v l dC dI g0 m3 m5 m6 m7 m8 m9 m10 m11 m12 m13 m14 m15 m16 m17 m18 m19 m20 m22 m23 m24 m25 m26 m27 m29 0 (xs 1) (-1) 0) (cwV 0 ht (gV tb_723 tb_724 tb_725 tb_5 tb_726) rfl rfl rfl (by decide +kernel) ⟨Nat.le_of_ble_eq_true rfl, Nat.le_of_ble_eq_true rfl⟩) ⟨rdP_blind, va_recv (q := (R_MO, F_MO, 30)) hK hP rfl (show ([(rq, .inl (k1, 40, .inr (.inr (.inr (.inr (fun _ => none)))))), (oa, .inl (k2, 8, .inl (fun _ => 0))), (pl, .inr (1, [.ref q9, .int 0])), (dk, .inr (2, [.ref d1, .ref d2, .ref d3, .ref d4])), (d1, .inl (k3, 24, .inl (fun _ => -1))), (m3, .inl (j3, 8, .inl (fun _ => 0))), (m5, .inl (j5, 40, .inl (fun _ => 0))), (m6, .inl (j6, 40, .inl (fun _ => 0))), (m7, .inl (j7, 40, .inl (fun _ => 0))), (m8, .inl (j8, 40, .inl (fun _ => 0))), (m9, .inl (j9, 40, .inl (fun _ => 0))), (m10, .inl (j10, 40, .inl (fun _ => 0))), (ou, .inl (k4, 1, .inr (.inl (vp_updL (fun _ => 0) (0 : Int32).toNatClampNeg (0 : Int32).toInt64)))), (g0, .inr (5, [.int 0, .int (xs 1), .int (-1), .ref m3, .int 0, .ref m5, .ref m6, .ref m7, .ref m8, .ref m9, .ref m10, .ref m11, .ref m12, .ref m13, .ref m14, .ref m15, .ref m16, .ref m17, .ref m18, .ref m19, .ref m20, .int 0, .ref m22, .ref m23, .ref m24, .ref m25, .ref m26, .ref m27, .int 0, .ref m29]))] : va_W)[13]? = some (g0, .inr (5, [.int 0, .int (xs 1), .int (-1), .ref m3, .int 0, .ref m5, .ref m6, .ref m7, .ref m8, .ref m9, .ref m10, .ref m11, .ref m12, .ref m13, .ref m14, .ref m15, .ref m16, .ref m17, .ref m18, .ref m19, .ref m20, .int 0, .ref m22, .ref m23, .ref m24, .ref m25, .ref m26, .ref m27, .int 0, .ref m29])) from rfl), rd_pre hPc hKc⟩ rfl rfl hl.1 rfl (lv_room (Nat.le_of_ble_eq_true rfl)) d_LW_law_1198 ⟨Nat.le_of_ble_eq_true rfl, Nat.le_of_ble_eq_true rfl⟩) ?_
    refine W.eq (g2 := F0 m 1201 ls [.int 0]) rfl ?_
    refine lv_iload hx hb d_LW_law_1201 (lv_at hl 1 rfl) ?_
    refine lv_icmp_eq (tgt := 1208) hx hb d_LW_law_1203 (by decide) (fun _ => ?_) (fun h9 => absurd (rfl) h9)
    refine lv_iload hx hb d_LW_law_1208 (lv_at hl 1 rfl) ?_
    refine lv_if_ne (tgt := 1225) hx hb d_LW_law_1210 (by decide) (fun h9 => absurd (rfl) h9) (fun _ => ?_)
    refine lv_aload_n hx hb d_LW_law_1213 rfl (lv_at hl 3 rfl) ?_
    refine lv_iconst (v := 0) hx hb d_LW_law_1214 (by decide) ?_
    refine va_lald hx hb hK hP 12 10 rfl rfl (show vp_in (nI 0) 1 from vp_in_nI (by decide) (by decide)) d_LW_law_1215 ?_
    refine W.eq (g2 := F0 m 1216 ls [.long (((vp_updL (fun _ => 0) (0 : Int32).toNatClampNeg (0 : Int32).toInt64)) (0 : Int32).toNatClampNeg)]) rfl ?_
    refine lv_iload hx hb d_LW_law_1216 (lv_at hl 0 rfl) ?_
    refine lv_i2l hx hb d_LW_law_1218 rfl ?_
    refine W.lcmp hx hb d_LW_law_1219 ?_
    refine lv_if_eq (tgt := 1225) hx hb d_LW_law_1220 (by decide) (fun _ => ?_) (fun h9 => absurd ((lg_cmp_eq _ _).mpr pk_uLs) h9)
    refine lv_goto (tgt := 1228) hx hb d_LW_law_1225 (by decide) ?_
    have hl := lv_sub hl [2, 6] (l' := [(4, .int 0), (0, .ref b)]) rfl
    exact tl_end hx hb hr hlocks hbl hbA hAB hX (Nat.le_of_ble_eq_true rfl) (Nat.le_of_ble_eq_true rfl) hS hl
  · refine lv_aload_n hx hb d_LW_law_1172 rfl (lv_at hl 3 rfl) ?_
    refine lv_aload_n hx hb d_LW_law_1173 rfl (lv_at hl 4 rfl) ?_
    refine lv_iload hx hb d_LW_law_1174 (lv_at hl 0 rfl) ?_
    refine lv_iconst (v := 1) hx hb d_LW_law_1176 (by decide) ?_
    refine lv_iadd hx hb d_LW_law_1177 ?_
    refine lv_topi (fun v3 ev3 => ?_)
    obtain rfl : v3 = 1 := ev3.trans (by decide)
    refine va_sld hx hb hX hbl hbA hS (show vp_in (nI 1) 6 from vp_in_nI (by decide) (by decide)) d_LW_law_1178 ?_
    refine W.eq (g2 := F0 m 1179 ls [.int (xs 1), .ref h0]) rfl ?_
    refine lv_aload_n hx hb d_LW_law_1179 rfl (lv_at hl 1 rfl) ?_
    have hPc := hP.sub (ws' := [(h0, .inr (0, [.ref rq, .ref oa, .ref pl, .ref dk, .ref rw, .int 0, .int 0, .int (-1)]))]) [0] rfl
    have hKc := hK.sub (tys' := []) [] rfl
    have hDc := hD.sub (ws' := [(h0, .inr (0, [.ref rq, .ref oa, .ref pl, .ref dk, .ref rw, .int 0, .int 0, .int (-1)]))]) [0] (by decide) rfl
    have hFc := va_free (wc := [(h0, .inr (0, [.ref rq, .ref oa, .ref pl, .ref dk, .ref rw, .int 0, .int 0, .int (-1)]))]) hD hS hA [0] rfl
    refine fr_call (tw_runSW (As := [.ref h0, .int (xs 1), .ref ou]) (rest := []) ⟨hx, hb, hml, hown, ht⟩ (c_LW_cut_bad l dC dI H.size s.heap.size hl9 h0 rq oa pl dk rw ou (xs 1) hv) rfl rfl ⟨Nat.le_of_ble_eq_true rfl, Nat.le_of_ble_eq_true rfl⟩ (pay_in ht (gW tb_612)) (show _ ∈ w_LW_cut from List.mem_cons_self) (ht _ tb_610) (ht _ tb_611) (ht _ tb_0) (n := 3) (by decide +kernel) ⟨frP_blind, fr_pre hPc hKc hDc hAB hBs hS hV⟩ rfl rfl hl.1 rfl (lv_room (Nat.le_of_ble_eq_true rfl)) d_LW_law_1180 ⟨Nat.le_of_ble_eq_true rfl, Nat.le_of_ble_eq_true rfl⟩) hS (fun q _ h => hFc q h) hFc (fun t H1 locs ht1 hvm hB1 hz1 hk1 hS => ?_)
    obtain ⟨hP1, hK1, hD1⟩ := hB1
    rw [ht1] at hP1
    have hK1 := va_K.moved hvm.symm hK1
    obtain ⟨hP, hD⟩ := va_join (wr := [(rq, .inl (k1, 40, .inr (.inr (.inr (.inr (fun _ => none)))))), (oa, .inl (k2, 8, .inl (fun _ => 0))), (pl, .inr (1, [.ref q9, .int 0])), (dk, .inr (2, [.ref d1, .ref d2, .ref d3, .ref d4])), (d1, .inl (k3, 24, .inl (fun _ => -1))), (rw, .inr (3, [.ref r1, .int 0, .int 0])), (g0, .inr (5, [.int 0, .int 0, .int (-1), .ref m3, .int 0, .ref m5, .ref m6, .ref m7, .ref m8, .ref m9, .ref m10, .ref m11, .ref m12, .ref m13, .ref m14, .ref m15, .ref m16, .ref m17, .ref m18, .ref m19, .ref m20, .int 0, .ref m22, .ref m23, .ref m24, .ref m25, .ref m26, .ref m27, .int 0, .ref m29])), (m3, .inl (j3, 8, .inl (fun _ => 0))), (m5, .inl (j5, 40, .inl (fun _ => 0))), (m6, .inl (j6, 40, .inl (fun _ => 0))), (m7, .inl (j7, 40, .inl (fun _ => 0))), (m8, .inl (j8, 40, .inl (fun _ => 0))), (m9, .inl (j9, 40, .inl (fun _ => 0))), (m10, .inl (j10, 40, .inl (fun _ => 0))), (ou, .inl (k4, 1, .inr (.inl (fun _ => 0))))]) (w1 := [(h0, .inr (0, [.ref rq, .ref oa, .ref pl, .ref dk, .ref rw, .int 0, .int 0, .int (-1)]))]) hP hD [0] [1, 2, 3, 4, 5, 6, 7, 8, 9, 10, 11, 12, 13, 14, 15] rfl rfl (by decide) (by decide) hk1 hFc hP1 hD1
    have hK := hK.app hK1
    generalize H1 = H at hP hS ⊢
    have hP : va_P (dC, dI) cls_ [(rq, .inl (k1, 40, .inr (.inr (.inr (.inr (fun _ => none)))))), (oa, .inl (k2, 8, .inl (fun _ => 0))), (pl, .inr (1, [.ref q9, .int 0])), (dk, .inr (2, [.ref d1, .ref d2, .ref d3, .ref d4])), (d1, .inl (k3, 24, .inl (fun _ => -1))), (rw, .inr (3, [.ref r1, .int 0, .int 0])), (g0, .inr (5, [.int 0, .int 0, .int (-1), .ref m3, .int 0, .ref m5, .ref m6, .ref m7, .ref m8, .ref m9, .ref m10, .ref m11, .ref m12, .ref m13, .ref m14, .ref m15, .ref m16, .ref m17, .ref m18, .ref m19, .ref m20, .int 0, .ref m22, .ref m23, .ref m24, .ref m25, .ref m26, .ref m27, .int 0, .ref m29])), (m3, .inl (j3, 8, .inl (fun _ => 0))), (m5, .inl (j5, 40, .inl (fun _ => 0))), (m6, .inl (j6, 40, .inl (fun _ => 0))), (m7, .inl (j7, 40, .inl (fun _ => 0))), (m8, .inl (j8, 40, .inl (fun _ => 0))), (m9, .inl (j9, 40, .inl (fun _ => 0))), (m10, .inl (j10, 40, .inl (fun _ => 0))), (ou, .inl (k4, 1, .inr (.inl (fun _ => 0)))), (h0, .inr (0, [.ref rq, .ref oa, .ref pl, .ref dk, .ref rw, .int 0, .int 0, .int (-1)]))] H := hP
    have hD : va_D A [(rq, .inl (k1, 40, .inr (.inr (.inr (.inr (fun _ => none)))))), (oa, .inl (k2, 8, .inl (fun _ => 0))), (pl, .inr (1, [.ref q9, .int 0])), (dk, .inr (2, [.ref d1, .ref d2, .ref d3, .ref d4])), (d1, .inl (k3, 24, .inl (fun _ => -1))), (rw, .inr (3, [.ref r1, .int 0, .int 0])), (g0, .inr (5, [.int 0, .int 0, .int (-1), .ref m3, .int 0, .ref m5, .ref m6, .ref m7, .ref m8, .ref m9, .ref m10, .ref m11, .ref m12, .ref m13, .ref m14, .ref m15, .ref m16, .ref m17, .ref m18, .ref m19, .ref m20, .int 0, .ref m22, .ref m23, .ref m24, .ref m25, .ref m26, .ref m27, .int 0, .ref m29])), (m3, .inl (j3, 8, .inl (fun _ => 0))), (m5, .inl (j5, 40, .inl (fun _ => 0))), (m6, .inl (j6, 40, .inl (fun _ => 0))), (m7, .inl (j7, 40, .inl (fun _ => 0))), (m8, .inl (j8, 40, .inl (fun _ => 0))), (m9, .inl (j9, 40, .inl (fun _ => 0))), (m10, .inl (j10, 40, .inl (fun _ => 0))), (ou, .inl (k4, 1, .inr (.inl (fun _ => 0)))), (h0, .inr (0, [.ref rq, .ref oa, .ref pl, .ref dk, .ref rw, .int 0, .int 0, .int (-1)]))] := hD
    have hK : va_K (dC, dI) cls_ [(k1, .object "TwinTuners$Request"), (k2, .int), (k3, .int), (j3, .int), (j5, .int), (j6, .int), (j7, .int), (j8, .int), (j9, .int), (j10, .int), (k4, .long)] s := hK
    refine W.eq (g2 := F0 m 1183 ls [.int 1]) rfl ?_
    refine W.cs (cells' := 39) (slots' := 14130) rfl rfl ?_
    refine lv_istore hx hb d_LW_law_1183 hl (by decide) rfl (fun ls hl => ?_)
    have hl : lv_has ls 8 [(5, .int 1), (4, .int 0), (3, .ref ou), (2, .ref g0), (1, .ref h0), (0, .ref b)] := hl
    refine lv_aload_n hx hb d_LW_law_1185 rfl (lv_at hl 3 rfl) ?_
    refine lv_aload_n hx hb d_LW_law_1186 rfl (lv_at hl 5 rfl) ?_
    refine lv_iload hx hb d_LW_law_1187 (lv_at hl 1 rfl) ?_
    refine lv_iconst (v := 1) hx hb d_LW_law_1189 (by decide) ?_
    refine lv_iadd hx hb d_LW_law_1190 ?_
    refine lv_topi (fun v4 ev4 => ?_)
    obtain rfl : v4 = 1 := ev4.trans (by decide)
    refine va_sld hx hb hX hbl hbA hS (show vp_in (nI 1) 6 from vp_in_nI (by decide) (by decide)) d_LW_law_1191 ?_
    refine W.eq (g2 := F0 m 1192 ls [.int (xs 1), .ref g0]) rfl ?_
    have hPc := hP.sub (ws' := [(g0, .inr (5, [.int 0, .int 0, .int (-1), .ref m3, .int 0, .ref m5, .ref m6, .ref m7, .ref m8, .ref m9, .ref m10, .ref m11, .ref m12, .ref m13, .ref m14, .ref m15, .ref m16, .ref m17, .ref m18, .ref m19, .ref m20, .int 0, .ref m22, .ref m23, .ref m24, .ref m25, .ref m26, .ref m27, .int 0, .ref m29]))]) [6] rfl
    have hKc := hK.sub (tys' := []) [] rfl
    have hDc := hD.sub (ws' := [(g0, .inr (5, [.int 0, .int 0, .int (-1), .ref m3, .int 0, .ref m5, .ref m6, .ref m7, .ref m8, .ref m9, .ref m10, .ref m11, .ref m12, .ref m13, .ref m14, .ref m15, .ref m16, .ref m17, .ref m18, .ref m19, .ref m20, .int 0, .ref m22, .ref m23, .ref m24, .ref m25, .ref m26, .ref m27, .int 0, .ref m29]))]) [6] (by decide) rfl
    have hFc := va_free (wc := [(g0, .inr (5, [.int 0, .int 0, .int (-1), .ref m3, .int 0, .ref m5, .ref m6, .ref m7, .ref m8, .ref m9, .ref m10, .ref m11, .ref m12, .ref m13, .ref m14, .ref m15, .ref m16, .ref m17, .ref m18, .ref m19, .ref m20, .int 0, .ref m22, .ref m23, .ref m24, .ref m25, .ref m26, .ref m27, .int 0, .ref m29]))]) hD hS hA [6] rfl
    refine fr_call (va_runV (C := R_MO) (As := [.int (xs 1)]) (rest := []) ⟨hx, hb, hml, hown, ht⟩ (c_MO_cut_bad l dC dI H.size s.heap.size g0 m3 m5 m6 m7 m8 m9 m10 m11 m12 m13 m14 m15 m16 m17 m18 m19 m20 m22 m23 m24 m25 m26 m27 m29 (xs 1) hv) (cwV 1 ht (gV tb_914 tb_915 tb_916 tb_5 tb_917) rfl rfl rfl (by decide +kernel) ⟨Nat.le_of_ble_eq_true rfl, Nat.le_of_ble_eq_true rfl⟩) ⟨frP_blind, va_recv (q := (R_MO, F_MO, 30)) hK hP rfl (show ([(rq, .inl (k1, 40, .inr (.inr (.inr (.inr (fun _ => none)))))), (oa, .inl (k2, 8, .inl (fun _ => 0))), (pl, .inr (1, [.ref q9, .int 0])), (dk, .inr (2, [.ref d1, .ref d2, .ref d3, .ref d4])), (d1, .inl (k3, 24, .inl (fun _ => -1))), (rw, .inr (3, [.ref r1, .int 0, .int 0])), (g0, .inr (5, [.int 0, .int 0, .int (-1), .ref m3, .int 0, .ref m5, .ref m6, .ref m7, .ref m8, .ref m9, .ref m10, .ref m11, .ref m12, .ref m13, .ref m14, .ref m15, .ref m16, .ref m17, .ref m18, .ref m19, .ref m20, .int 0, .ref m22, .ref m23, .ref m24, .ref m25, .ref m26, .ref m27, .int 0, .ref m29])), (m3, .inl (j3, 8, .inl (fun _ => 0))), (m5, .inl (j5, 40, .inl (fun _ => 0))), (m6, .inl (j6, 40, .inl (fun _ => 0))), (m7, .inl (j7, 40, .inl (fun _ => 0))), (m8, .inl (j8, 40, .inl (fun _ => 0))), (m9, .inl (j9, 40, .inl (fun _ => 0))), (m10, .inl (j10, 40, .inl (fun _ => 0))), (ou, .inl (k4, 1, .inr (.inl (fun _ => 0)))), (h0, .inr (0, [.ref rq, .ref oa, .ref pl, .ref dk, .ref rw, .int 0, .int 0, .int (-1)]))] : va_W)[6]? = some (g0, .inr (5, [.int 0, .int 0, .int (-1), .ref m3, .int 0, .ref m5, .ref m6, .ref m7, .ref m8, .ref m9, .ref m10, .ref m11, .ref m12, .ref m13, .ref m14, .ref m15, .ref m16, .ref m17, .ref m18, .ref m19, .ref m20, .int 0, .ref m22, .ref m23, .ref m24, .ref m25, .ref m26, .ref m27, .int 0, .ref m29])) from rfl), fr_pre hPc hKc hDc hAB hBs hS hV⟩ rfl rfl hl.1 rfl (lv_room (Nat.le_of_ble_eq_true rfl)) d_LW_law_1192 ⟨Nat.le_of_ble_eq_true rfl, Nat.le_of_ble_eq_true rfl⟩) hS (fun q _ h => hFc q h) hFc (fun t H1 locs ht1 hvm hB1 hz1 hk1 hS => ?_)
    obtain ⟨hP1, hK1, hD1⟩ := hB1
    rw [ht1] at hP1
    have hK1 := va_K.moved hvm.symm hK1
    obtain ⟨hP, hD⟩ := va_join (wr := [(rq, .inl (k1, 40, .inr (.inr (.inr (.inr (fun _ => none)))))), (oa, .inl (k2, 8, .inl (fun _ => 0))), (pl, .inr (1, [.ref q9, .int 0])), (dk, .inr (2, [.ref d1, .ref d2, .ref d3, .ref d4])), (d1, .inl (k3, 24, .inl (fun _ => -1))), (rw, .inr (3, [.ref r1, .int 0, .int 0])), (m3, .inl (j3, 8, .inl (fun _ => 0))), (m5, .inl (j5, 40, .inl (fun _ => 0))), (m6, .inl (j6, 40, .inl (fun _ => 0))), (m7, .inl (j7, 40, .inl (fun _ => 0))), (m8, .inl (j8, 40, .inl (fun _ => 0))), (m9, .inl (j9, 40, .inl (fun _ => 0))), (m10, .inl (j10, 40, .inl (fun _ => 0))), (ou, .inl (k4, 1, .inr (.inl (fun _ => 0)))), (h0, .inr (0, [.ref rq, .ref oa, .ref pl, .ref dk, .ref rw, .int 0, .int 0, .int (-1)]))]) (w1 := [(g0, .inr (5, [.int 1, .int 0, .int (-1), .ref m3, .int 0, .ref m5, .ref m6, .ref m7, .ref m8, .ref m9, .ref m10, .ref m11, .ref m12, .ref m13, .ref m14, .ref m15, .ref m16, .ref m17, .ref m18, .ref m19, .ref m20, .int 0, .ref m22, .ref m23, .ref m24, .ref m25, .ref m26, .ref m27, .int 0, .ref m29]))]) hP hD [6] [0, 1, 2, 3, 4, 5, 7, 8, 9, 10, 11, 12, 13, 14, 15] rfl rfl (by decide) (by decide) hk1 hFc hP1 hD1
    have hK := hK.app hK1
    generalize H1 = H at hP hS ⊢
    have hP : va_P (dC, dI) cls_ [(rq, .inl (k1, 40, .inr (.inr (.inr (.inr (fun _ => none)))))), (oa, .inl (k2, 8, .inl (fun _ => 0))), (pl, .inr (1, [.ref q9, .int 0])), (dk, .inr (2, [.ref d1, .ref d2, .ref d3, .ref d4])), (d1, .inl (k3, 24, .inl (fun _ => -1))), (rw, .inr (3, [.ref r1, .int 0, .int 0])), (m3, .inl (j3, 8, .inl (fun _ => 0))), (m5, .inl (j5, 40, .inl (fun _ => 0))), (m6, .inl (j6, 40, .inl (fun _ => 0))), (m7, .inl (j7, 40, .inl (fun _ => 0))), (m8, .inl (j8, 40, .inl (fun _ => 0))), (m9, .inl (j9, 40, .inl (fun _ => 0))), (m10, .inl (j10, 40, .inl (fun _ => 0))), (ou, .inl (k4, 1, .inr (.inl (fun _ => 0)))), (h0, .inr (0, [.ref rq, .ref oa, .ref pl, .ref dk, .ref rw, .int 0, .int 0, .int (-1)])), (g0, .inr (5, [.int 1, .int 0, .int (-1), .ref m3, .int 0, .ref m5, .ref m6, .ref m7, .ref m8, .ref m9, .ref m10, .ref m11, .ref m12, .ref m13, .ref m14, .ref m15, .ref m16, .ref m17, .ref m18, .ref m19, .ref m20, .int 0, .ref m22, .ref m23, .ref m24, .ref m25, .ref m26, .ref m27, .int 0, .ref m29]))] H := hP
    have hD : va_D A [(rq, .inl (k1, 40, .inr (.inr (.inr (.inr (fun _ => none)))))), (oa, .inl (k2, 8, .inl (fun _ => 0))), (pl, .inr (1, [.ref q9, .int 0])), (dk, .inr (2, [.ref d1, .ref d2, .ref d3, .ref d4])), (d1, .inl (k3, 24, .inl (fun _ => -1))), (rw, .inr (3, [.ref r1, .int 0, .int 0])), (m3, .inl (j3, 8, .inl (fun _ => 0))), (m5, .inl (j5, 40, .inl (fun _ => 0))), (m6, .inl (j6, 40, .inl (fun _ => 0))), (m7, .inl (j7, 40, .inl (fun _ => 0))), (m8, .inl (j8, 40, .inl (fun _ => 0))), (m9, .inl (j9, 40, .inl (fun _ => 0))), (m10, .inl (j10, 40, .inl (fun _ => 0))), (ou, .inl (k4, 1, .inr (.inl (fun _ => 0)))), (h0, .inr (0, [.ref rq, .ref oa, .ref pl, .ref dk, .ref rw, .int 0, .int 0, .int (-1)])), (g0, .inr (5, [.int 1, .int 0, .int (-1), .ref m3, .int 0, .ref m5, .ref m6, .ref m7, .ref m8, .ref m9, .ref m10, .ref m11, .ref m12, .ref m13, .ref m14, .ref m15, .ref m16, .ref m17, .ref m18, .ref m19, .ref m20, .int 0, .ref m22, .ref m23, .ref m24, .ref m25, .ref m26, .ref m27, .int 0, .ref m29]))] := hD
    have hK : va_K (dC, dI) cls_ [(k1, .object "TwinTuners$Request"), (k2, .int), (k3, .int), (j3, .int), (j5, .int), (j6, .int), (j7, .int), (j8, .int), (j9, .int), (j10, .int), (k4, .long)] s := hK
    refine W.eq (g2 := F0 m 1195 ls [.int 0]) rfl ?_
    refine W.cs (cells' := 39) (slots' := 14130) rfl rfl ?_
    refine lv_istore hx hb d_LW_law_1195 hl (by decide) rfl (fun ls hl => ?_)
    have hl : lv_has ls 8 [(6, .int 0), (5, .int 1), (4, .int 0), (3, .ref ou), (2, .ref g0), (1, .ref h0), (0, .ref b)] := hl
    refine lv_aload_n hx hb d_LW_law_1197 rfl (lv_at hl 4 rfl) ?_
    have hPc := hP.sub (ws' := [(g0, .inr (5, [.int 1, .int 0, .int (-1), .ref m3, .int 0, .ref m5, .ref m6, .ref m7, .ref m8, .ref m9, .ref m10, .ref m11, .ref m12, .ref m13, .ref m14, .ref m15, .ref m16, .ref m17, .ref m18, .ref m19, .ref m20, .int 0, .ref m22, .ref m23, .ref m24, .ref m25, .ref m26, .ref m27, .int 0, .ref m29]))]) [15] rfl
    have hKc := hK.sub (tys' := []) [] rfl
    refine rd_call (va_runV (C := R_MO) (As := []) (rest := []) ⟨hx, hb, hml, hown, ht⟩ (c_MO_thrown_v l dC dI g0 m3 m5 m6 m7 m8 m9 m10 m11 m12 m13 m14 m15 m16 m17 m18 m19 m20 m22 m23 m24 m25 m26 m27 m29 1 0 (-1) 0) (cwV 0 ht (gV tb_723 tb_724 tb_725 tb_5 tb_726) rfl rfl rfl (by decide +kernel) ⟨Nat.le_of_ble_eq_true rfl, Nat.le_of_ble_eq_true rfl⟩) ⟨rdP_blind, va_recv (q := (R_MO, F_MO, 30)) hK hP rfl (show ([(rq, .inl (k1, 40, .inr (.inr (.inr (.inr (fun _ => none)))))), (oa, .inl (k2, 8, .inl (fun _ => 0))), (pl, .inr (1, [.ref q9, .int 0])), (dk, .inr (2, [.ref d1, .ref d2, .ref d3, .ref d4])), (d1, .inl (k3, 24, .inl (fun _ => -1))), (rw, .inr (3, [.ref r1, .int 0, .int 0])), (m3, .inl (j3, 8, .inl (fun _ => 0))), (m5, .inl (j5, 40, .inl (fun _ => 0))), (m6, .inl (j6, 40, .inl (fun _ => 0))), (m7, .inl (j7, 40, .inl (fun _ => 0))), (m8, .inl (j8, 40, .inl (fun _ => 0))), (m9, .inl (j9, 40, .inl (fun _ => 0))), (m10, .inl (j10, 40, .inl (fun _ => 0))), (ou, .inl (k4, 1, .inr (.inl (fun _ => 0)))), (h0, .inr (0, [.ref rq, .ref oa, .ref pl, .ref dk, .ref rw, .int 0, .int 0, .int (-1)])), (g0, .inr (5, [.int 1, .int 0, .int (-1), .ref m3, .int 0, .ref m5, .ref m6, .ref m7, .ref m8, .ref m9, .ref m10, .ref m11, .ref m12, .ref m13, .ref m14, .ref m15, .ref m16, .ref m17, .ref m18, .ref m19, .ref m20, .int 0, .ref m22, .ref m23, .ref m24, .ref m25, .ref m26, .ref m27, .int 0, .ref m29]))] : va_W)[15]? = some (g0, .inr (5, [.int 1, .int 0, .int (-1), .ref m3, .int 0, .ref m5, .ref m6, .ref m7, .ref m8, .ref m9, .ref m10, .ref m11, .ref m12, .ref m13, .ref m14, .ref m15, .ref m16, .ref m17, .ref m18, .ref m19, .ref m20, .int 0, .ref m22, .ref m23, .ref m24, .ref m25, .ref m26, .ref m27, .int 0, .ref m29])) from rfl), rd_pre hPc hKc⟩ rfl rfl hl.1 rfl (lv_room (Nat.le_of_ble_eq_true rfl)) d_LW_law_1198 ⟨Nat.le_of_ble_eq_true rfl, Nat.le_of_ble_eq_true rfl⟩) ?_
    refine W.eq (g2 := F0 m 1201 ls [.int 1]) rfl ?_
    refine lv_iload hx hb d_LW_law_1201 (lv_at hl 1 rfl) ?_
    refine lv_icmp_eq (tgt := 1208) hx hb d_LW_law_1203 (by decide) (fun _ => ?_) (fun h9 => absurd (rfl) h9)
    refine lv_iload hx hb d_LW_law_1208 (lv_at hl 1 rfl) ?_
    refine lv_if_ne (tgt := 1225) hx hb d_LW_law_1210 (by decide) (fun _ => ?_) (fun h9 => absurd h9 (by decide))
    refine lv_goto (tgt := 1228) hx hb d_LW_law_1225 (by decide) ?_
    have hl := lv_sub hl [2, 6] (l' := [(4, .int 0), (0, .ref b)]) rfl
    exact tl_end hx hb hr hlocks hbl hbA hAB hX (Nat.le_of_ble_eq_true rfl) (Nat.le_of_ble_eq_true rfl) hS hl
