set_option maxRecDepth 100000 in
theorem tb_0 : (.initialized "TwinTunersLaw" : Cond) ∈ tb_ := tb_w 0 rfl rfl
set_option maxRecDepth 100000 in
theorem tb_100 : (.methodLink "TwinTunersLaw" 101 ⟨"TwinTuners", "tick", "()I"⟩ : Cond) ∈ tb_ := tb_w 100 rfl rfl
set_option maxRecDepth 100000 in
theorem tb_101 : (.instanceMethod ⟨"TwinTuners", "tick", "()I"⟩ : Cond) ∈ tb_ := tb_w 101 rfl rfl
set_option maxRecDepth 100000 in
theorem tb_102 : (.selects "TwinTuners" ⟨"TwinTuners", "tick", "()I"⟩ ⟨"TwinTuners", "tick", "()I"⟩ : Cond) ∈ tb_ := tb_w 102 rfl rfl
set_option maxRecDepth 100000 in
theorem tb_243 : (.methodLink "TwinTunersLaw" 109 ⟨"TwinTuners", "now", "()I"⟩ : Cond) ∈ tb_ := tb_w 243 rfl rfl
set_option maxRecDepth 100000 in
theorem tb_244 : (.instanceMethod ⟨"TwinTuners", "now", "()I"⟩ : Cond) ∈ tb_ := tb_w 244 rfl rfl
set_option maxRecDepth 100000 in
theorem tb_245 : (.selects "TwinTuners" ⟨"TwinTuners", "now", "()I"⟩ ⟨"TwinTuners", "now", "()I"⟩ : Cond) ∈ tb_ := tb_w 245 rfl rfl
set_option maxRecDepth 100000 in
theorem tb_247 : (.methodLink "TwinTunersLaw" 116 ⟨"TwinTuners", "back", "(I)J"⟩ : Cond) ∈ tb_ := tb_w 247 rfl rfl
set_option maxRecDepth 100000 in
theorem tb_248 : (.instanceMethod ⟨"TwinTuners", "back", "(I)J"⟩ : Cond) ∈ tb_ := tb_w 248 rfl rfl
set_option maxRecDepth 100000 in
theorem tb_249 : (.selects "TwinTuners" ⟨"TwinTuners", "back", "(I)J"⟩ ⟨"TwinTuners", "back", "(I)J"⟩ : Cond) ∈ tb_ := tb_w 249 rfl rfl
set_option maxRecDepth 100000 in
theorem tb_257 : (.methodLink "TwinTunersLaw" 141 ⟨"TwinTuners", "free", "()I"⟩ : Cond) ∈ tb_ := tb_w 257 rfl rfl
set_option maxRecDepth 100000 in
theorem tb_258 : (.instanceMethod ⟨"TwinTuners", "free", "()I"⟩ : Cond) ∈ tb_ := tb_w 258 rfl rfl
set_option maxRecDepth 100000 in
theorem tb_259 : (.selects "TwinTuners" ⟨"TwinTuners", "free", "()I"⟩ ⟨"TwinTuners", "free", "()I"⟩ : Cond) ∈ tb_ := tb_w 259 rfl rfl
set_option maxRecDepth 100000 in
theorem tb_261 : (.methodLink "TwinTunersLaw" 77 ⟨"TwinTunersLaw", "request", "(LTwinTuners;IIIII[J)I"⟩ : Cond) ∈ tb_ := tb_w 261 rfl rfl
set_option maxRecDepth 100000 in
theorem tb_262 : (.static ⟨"TwinTunersLaw", "request", "(LTwinTuners;IIIII[J)I"⟩ : Cond) ∈ tb_ := tb_w 262 rfl rfl
set_option maxRecDepth 100000 in
theorem tb_448 : (.methodLink "TwinTunersLaw" 83 ⟨"TwinTunersLaw", "cancel", "(LTwinTuners;I)I"⟩ : Cond) ∈ tb_ := tb_w 448 rfl rfl
set_option maxRecDepth 100000 in
theorem tb_449 : (.static ⟨"TwinTunersLaw", "cancel", "(LTwinTuners;I)I"⟩ : Cond) ∈ tb_ := tb_w 449 rfl rfl
set_option maxRecDepth 100000 in
theorem tb_481 : (.methodLink "TwinTunersLaw" 87 ⟨"TwinTunersLaw", "state", "(LTwinTuners;I[J)I"⟩ : Cond) ∈ tb_ := tb_w 481 rfl rfl
set_option maxRecDepth 100000 in
theorem tb_482 : (.static ⟨"TwinTunersLaw", "state", "(LTwinTuners;I[J)I"⟩ : Cond) ∈ tb_ := tb_w 482 rfl rfl
set_option maxRecDepth 100000 in
theorem tb_488 : (.methodLink "TwinTunersLaw" 91 ⟨"TwinTunersLaw", "planFrom", "(LTwinTuners;I[J)I"⟩ : Cond) ∈ tb_ := tb_w 488 rfl rfl
set_option maxRecDepth 100000 in
theorem tb_489 : (.static ⟨"TwinTunersLaw", "planFrom", "(LTwinTuners;I[J)I"⟩ : Cond) ∈ tb_ := tb_w 489 rfl rfl
set_option maxRecDepth 100000 in
theorem tb_496 : (.methodLink "TwinTunersLaw" 94 ⟨"TwinTunersLaw", "planTo", "(LTwinTuners;I[J)I"⟩ : Cond) ∈ tb_ := tb_w 496 rfl rfl
set_option maxRecDepth 100000 in
theorem tb_497 : (.static ⟨"TwinTunersLaw", "planTo", "(LTwinTuners;I[J)I"⟩ : Cond) ∈ tb_ := tb_w 497 rfl rfl
set_option maxRecDepth 100000 in
theorem tb_503 : (.methodLink "TwinTunersLaw" 97 ⟨"TwinTunersLaw", "air", "(LTwinTuners;II)I"⟩ : Cond) ∈ tb_ := tb_w 503 rfl rfl
set_option maxRecDepth 100000 in
theorem tb_504 : (.static ⟨"TwinTunersLaw", "air", "(LTwinTuners;II)I"⟩ : Cond) ∈ tb_ := tb_w 504 rfl rfl
set_option maxRecDepth 100000 in
theorem tb_511 : (.methodLink "TwinTunersLaw" 106 ⟨"TwinTunersLaw", "ticks", "(LTwinTuners;I[J)I"⟩ : Cond) ∈ tb_ := tb_w 511 rfl rfl
set_option maxRecDepth 100000 in
theorem tb_512 : (.static ⟨"TwinTunersLaw", "ticks", "(LTwinTuners;I[J)I"⟩ : Cond) ∈ tb_ := tb_w 512 rfl rfl
set_option maxRecDepth 100000 in
theorem tb_519 : (.methodLink "TwinTunersLaw" 113 ⟨"TwinTunersLaw", "watch", "(LTwinTuners;I[J)I"⟩ : Cond) ∈ tb_ := tb_w 519 rfl rfl
set_option maxRecDepth 100000 in
theorem tb_520 : (.static ⟨"TwinTunersLaw", "watch", "(LTwinTuners;I[J)I"⟩ : Cond) ∈ tb_ := tb_w 520 rfl rfl
set_option maxRecDepth 100000 in
theorem tb_526 : (.methodLink "TwinTunersLaw" 121 ⟨"TwinTunersLaw", "word", "(LTwinTuners;II[J)I"⟩ : Cond) ∈ tb_ := tb_w 526 rfl rfl
set_option maxRecDepth 100000 in
theorem tb_527 : (.static ⟨"TwinTunersLaw", "word", "(LTwinTuners;II[J)I"⟩ : Cond) ∈ tb_ := tb_w 527 rfl rfl
set_option maxRecDepth 100000 in
theorem tb_540 : (.methodLink "TwinTunersLaw" 125 ⟨"TwinTunersLaw", "recorded", "(LTwinTuners;I[J)I"⟩ : Cond) ∈ tb_ := tb_w 540 rfl rfl
set_option maxRecDepth 100000 in
theorem tb_541 : (.static ⟨"TwinTunersLaw", "recorded", "(LTwinTuners;I[J)I"⟩ : Cond) ∈ tb_ := tb_w 541 rfl rfl
set_option maxRecDepth 100000 in
theorem tb_552 : (.methodLink "TwinTunersLaw" 128 ⟨"TwinTunersLaw", "shortBy", "(LTwinTuners;I[J)I"⟩ : Cond) ∈ tb_ := tb_w 552 rfl rfl
set_option maxRecDepth 100000 in
theorem tb_553 : (.static ⟨"TwinTunersLaw", "shortBy", "(LTwinTuners;I[J)I"⟩ : Cond) ∈ tb_ := tb_w 553 rfl rfl
set_option maxRecDepth 100000 in
theorem tb_559 : (.methodLink "TwinTunersLaw" 131 ⟨"TwinTunersLaw", "protect", "(LTwinTuners;IZ)I"⟩ : Cond) ∈ tb_ := tb_w 559 rfl rfl
set_option maxRecDepth 100000 in
theorem tb_560 : (.static ⟨"TwinTunersLaw", "protect", "(LTwinTuners;IZ)I"⟩ : Cond) ∈ tb_ := tb_w 560 rfl rfl
set_option maxRecDepth 100000 in
theorem tb_575 : (.methodLink "TwinTunersLaw" 135 ⟨"TwinTunersLaw", "seen", "(LTwinTuners;IZ)I"⟩ : Cond) ∈ tb_ := tb_w 575 rfl rfl
set_option maxRecDepth 100000 in
theorem tb_576 : (.static ⟨"TwinTunersLaw", "seen", "(LTwinTuners;IZ)I"⟩ : Cond) ∈ tb_ := tb_w 576 rfl rfl
set_option maxRecDepth 100000 in
theorem tb_582 : (.methodLink "TwinTunersLaw" 138 ⟨"TwinTunersLaw", "erase", "(LTwinTuners;I[J)I"⟩ : Cond) ∈ tb_ := tb_w 582 rfl rfl
set_option maxRecDepth 100000 in
theorem tb_583 : (.static ⟨"TwinTunersLaw", "erase", "(LTwinTuners;I[J)I"⟩ : Cond) ∈ tb_ := tb_w 583 rfl rfl
set_option maxRecDepth 100000 in
theorem tb_590 : (.methodLink "TwinTunersLaw" 145 ⟨"TwinTunersLaw", "bookmark", "(LTwinTuners;II[J)I"⟩ : Cond) ∈ tb_ := tb_w 590 rfl rfl
set_option maxRecDepth 100000 in
theorem tb_591 : (.static ⟨"TwinTunersLaw", "bookmark", "(LTwinTuners;II[J)I"⟩ : Cond) ∈ tb_ := tb_w 591 rfl rfl
set_option maxRecDepth 100000 in
theorem tb_603 : (.methodLink "TwinTunersLaw" 148 ⟨"TwinTunersLaw", "bookmarkAt", "(LTwinTuners;II[J)I"⟩ : Cond) ∈ tb_ := tb_w 603 rfl rfl
set_option maxRecDepth 100000 in
theorem tb_604 : (.static ⟨"TwinTunersLaw", "bookmarkAt", "(LTwinTuners;II[J)I"⟩ : Cond) ∈ tb_ := tb_w 604 rfl rfl
set_option maxRecDepth 100000 in
theorem tb_610 : (.methodLink "TwinTunersLaw" 151 ⟨"TwinTunersLaw", "cut", "(LTwinTuners;I[J)I"⟩ : Cond) ∈ tb_ := tb_w 610 rfl rfl
set_option maxRecDepth 100000 in
theorem tb_611 : (.static ⟨"TwinTunersLaw", "cut", "(LTwinTuners;I[J)I"⟩ : Cond) ∈ tb_ := tb_w 611 rfl rfl
set_option maxRecDepth 100000 in
theorem tb_723 : (.methodLink "TwinTunersLaw" 82 ⟨"TwinTunersModel", "request", "(IIIII)I"⟩ : Cond) ∈ tb_ := tb_w 723 rfl rfl
set_option maxRecDepth 100000 in
theorem tb_724 : (.instanceMethod ⟨"TwinTunersModel", "request", "(IIIII)I"⟩ : Cond) ∈ tb_ := tb_w 724 rfl rfl
set_option maxRecDepth 100000 in
theorem tb_725 : (.selects "TwinTunersModel" ⟨"TwinTunersModel", "request", "(IIIII)I"⟩ ⟨"TwinTunersModel", "request", "(IIIII)I"⟩ : Cond) ∈ tb_ := tb_w 725 rfl rfl
set_option maxRecDepth 100000 in
theorem tb_736 : (.methodLink "TwinTunersLaw" 86 ⟨"TwinTunersModel", "cancel", "(I)V"⟩ : Cond) ∈ tb_ := tb_w 736 rfl rfl
set_option maxRecDepth 100000 in
theorem tb_737 : (.instanceMethod ⟨"TwinTunersModel", "cancel", "(I)V"⟩ : Cond) ∈ tb_ := tb_w 737 rfl rfl
set_option maxRecDepth 100000 in
theorem tb_738 : (.selects "TwinTunersModel" ⟨"TwinTunersModel", "cancel", "(I)V"⟩ ⟨"TwinTunersModel", "cancel", "(I)V"⟩ : Cond) ∈ tb_ := tb_w 738 rfl rfl
set_option maxRecDepth 100000 in
theorem tb_744 : (.methodLink "TwinTunersLaw" 90 ⟨"TwinTunersModel", "state", "(I)I"⟩ : Cond) ∈ tb_ := tb_w 744 rfl rfl
set_option maxRecDepth 100000 in
theorem tb_745 : (.instanceMethod ⟨"TwinTunersModel", "state", "(I)I"⟩ : Cond) ∈ tb_ := tb_w 745 rfl rfl
set_option maxRecDepth 100000 in
theorem tb_746 : (.selects "TwinTunersModel" ⟨"TwinTunersModel", "state", "(I)I"⟩ ⟨"TwinTunersModel", "state", "(I)I"⟩ : Cond) ∈ tb_ := tb_w 746 rfl rfl
set_option maxRecDepth 100000 in
theorem tb_748 : (.methodLink "TwinTunersLaw" 93 ⟨"TwinTunersModel", "planFrom", "(I)I"⟩ : Cond) ∈ tb_ := tb_w 748 rfl rfl
set_option maxRecDepth 100000 in
theorem tb_749 : (.instanceMethod ⟨"TwinTunersModel", "planFrom", "(I)I"⟩ : Cond) ∈ tb_ := tb_w 749 rfl rfl
set_option maxRecDepth 100000 in
theorem tb_750 : (.selects "TwinTunersModel" ⟨"TwinTunersModel", "planFrom", "(I)I"⟩ ⟨"TwinTunersModel", "planFrom", "(I)I"⟩ : Cond) ∈ tb_ := tb_w 750 rfl rfl
set_option maxRecDepth 100000 in
theorem tb_792 : (.methodLink "TwinTunersLaw" 96 ⟨"TwinTunersModel", "planTo", "(I)I"⟩ : Cond) ∈ tb_ := tb_w 792 rfl rfl
set_option maxRecDepth 100000 in
theorem tb_793 : (.instanceMethod ⟨"TwinTunersModel", "planTo", "(I)I"⟩ : Cond) ∈ tb_ := tb_w 793 rfl rfl
set_option maxRecDepth 100000 in
theorem tb_794 : (.selects "TwinTunersModel" ⟨"TwinTunersModel", "planTo", "(I)I"⟩ ⟨"TwinTunersModel", "planTo", "(I)I"⟩ : Cond) ∈ tb_ := tb_w 794 rfl rfl
set_option maxRecDepth 100000 in
theorem tb_796 : (.methodLink "TwinTunersLaw" 100 ⟨"TwinTunersModel", "air", "(II)V"⟩ : Cond) ∈ tb_ := tb_w 796 rfl rfl
set_option maxRecDepth 100000 in
theorem tb_797 : (.instanceMethod ⟨"TwinTunersModel", "air", "(II)V"⟩ : Cond) ∈ tb_ := tb_w 797 rfl rfl
set_option maxRecDepth 100000 in
theorem tb_798 : (.selects "TwinTunersModel" ⟨"TwinTunersModel", "air", "(II)V"⟩ ⟨"TwinTunersModel", "air", "(II)V"⟩ : Cond) ∈ tb_ := tb_w 798 rfl rfl
set_option maxRecDepth 100000 in
theorem tb_800 : (.methodLink "TwinTunersLaw" 105 ⟨"TwinTunersModel", "tick", "()I"⟩ : Cond) ∈ tb_ := tb_w 800 rfl rfl
set_option maxRecDepth 100000 in
theorem tb_801 : (.instanceMethod ⟨"TwinTunersModel", "tick", "()I"⟩ : Cond) ∈ tb_ := tb_w 801 rfl rfl
set_option maxRecDepth 100000 in
theorem tb_802 : (.selects "TwinTunersModel" ⟨"TwinTunersModel", "tick", "()I"⟩ ⟨"TwinTunersModel", "tick", "()I"⟩ : Cond) ∈ tb_ := tb_w 802 rfl rfl
set_option maxRecDepth 100000 in
theorem tb_848 : (.methodLink "TwinTunersLaw" 108 ⟨"TwinTunersModel", "ticks", "(I)I"⟩ : Cond) ∈ tb_ := tb_w 848 rfl rfl
set_option maxRecDepth 100000 in
theorem tb_849 : (.instanceMethod ⟨"TwinTunersModel", "ticks", "(I)I"⟩ : Cond) ∈ tb_ := tb_w 849 rfl rfl
set_option maxRecDepth 100000 in
theorem tb_850 : (.selects "TwinTunersModel" ⟨"TwinTunersModel", "ticks", "(I)I"⟩ ⟨"TwinTunersModel", "ticks", "(I)I"⟩ : Cond) ∈ tb_ := tb_w 850 rfl rfl
set_option maxRecDepth 100000 in
theorem tb_852 : (.methodLink "TwinTunersLaw" 112 ⟨"TwinTunersModel", "now", "()I"⟩ : Cond) ∈ tb_ := tb_w 852 rfl rfl
set_option maxRecDepth 100000 in
theorem tb_853 : (.instanceMethod ⟨"TwinTunersModel", "now", "()I"⟩ : Cond) ∈ tb_ := tb_w 853 rfl rfl
set_option maxRecDepth 100000 in
theorem tb_854 : (.selects "TwinTunersModel" ⟨"TwinTunersModel", "now", "()I"⟩ ⟨"TwinTunersModel", "now", "()I"⟩ : Cond) ∈ tb_ := tb_w 854 rfl rfl
set_option maxRecDepth 100000 in
theorem tb_856 : (.methodLink "TwinTunersLaw" 115 ⟨"TwinTunersModel", "watch", "(I)I"⟩ : Cond) ∈ tb_ := tb_w 856 rfl rfl
set_option maxRecDepth 100000 in
theorem tb_857 : (.instanceMethod ⟨"TwinTunersModel", "watch", "(I)I"⟩ : Cond) ∈ tb_ := tb_w 857 rfl rfl
set_option maxRecDepth 100000 in
theorem tb_858 : (.selects "TwinTunersModel" ⟨"TwinTunersModel", "watch", "(I)I"⟩ ⟨"TwinTunersModel", "watch", "(I)I"⟩ : Cond) ∈ tb_ := tb_w 858 rfl rfl
set_option maxRecDepth 100000 in
theorem tb_860 : (.methodLink "TwinTunersLaw" 120 ⟨"TwinTunersModel", "back", "(I)J"⟩ : Cond) ∈ tb_ := tb_w 860 rfl rfl
set_option maxRecDepth 100000 in
theorem tb_861 : (.instanceMethod ⟨"TwinTunersModel", "back", "(I)J"⟩ : Cond) ∈ tb_ := tb_w 861 rfl rfl
set_option maxRecDepth 100000 in
theorem tb_862 : (.selects "TwinTunersModel" ⟨"TwinTunersModel", "back", "(I)J"⟩ ⟨"TwinTunersModel", "back", "(I)J"⟩ : Cond) ∈ tb_ := tb_w 862 rfl rfl
set_option maxRecDepth 100000 in
theorem tb_866 : (.methodLink "TwinTunersLaw" 124 ⟨"TwinTunersModel", "word", "(II)J"⟩ : Cond) ∈ tb_ := tb_w 866 rfl rfl
set_option maxRecDepth 100000 in
theorem tb_867 : (.instanceMethod ⟨"TwinTunersModel", "word", "(II)J"⟩ : Cond) ∈ tb_ := tb_w 867 rfl rfl
set_option maxRecDepth 100000 in
theorem tb_868 : (.selects "TwinTunersModel" ⟨"TwinTunersModel", "word", "(II)J"⟩ ⟨"TwinTunersModel", "word", "(II)J"⟩ : Cond) ∈ tb_ := tb_w 868 rfl rfl
set_option maxRecDepth 100000 in
theorem tb_870 : (.methodLink "TwinTunersLaw" 127 ⟨"TwinTunersModel", "recorded", "(I)I"⟩ : Cond) ∈ tb_ := tb_w 870 rfl rfl
set_option maxRecDepth 100000 in
theorem tb_871 : (.instanceMethod ⟨"TwinTunersModel", "recorded", "(I)I"⟩ : Cond) ∈ tb_ := tb_w 871 rfl rfl
set_option maxRecDepth 100000 in
theorem tb_872 : (.selects "TwinTunersModel" ⟨"TwinTunersModel", "recorded", "(I)I"⟩ ⟨"TwinTunersModel", "recorded", "(I)I"⟩ : Cond) ∈ tb_ := tb_w 872 rfl rfl
set_option maxRecDepth 100000 in
theorem tb_874 : (.methodLink "TwinTunersLaw" 130 ⟨"TwinTunersModel", "shortBy", "(I)I"⟩ : Cond) ∈ tb_ := tb_w 874 rfl rfl
set_option maxRecDepth 100000 in
theorem tb_875 : (.instanceMethod ⟨"TwinTunersModel", "shortBy", "(I)I"⟩ : Cond) ∈ tb_ := tb_w 875 rfl rfl
set_option maxRecDepth 100000 in
theorem tb_876 : (.selects "TwinTunersModel" ⟨"TwinTunersModel", "shortBy", "(I)I"⟩ ⟨"TwinTunersModel", "shortBy", "(I)I"⟩ : Cond) ∈ tb_ := tb_w 876 rfl rfl
set_option maxRecDepth 100000 in
theorem tb_878 : (.methodLink "TwinTunersLaw" 134 ⟨"TwinTunersModel", "protect", "(IZ)V"⟩ : Cond) ∈ tb_ := tb_w 878 rfl rfl
set_option maxRecDepth 100000 in
theorem tb_879 : (.instanceMethod ⟨"TwinTunersModel", "protect", "(IZ)V"⟩ : Cond) ∈ tb_ := tb_w 879 rfl rfl
set_option maxRecDepth 100000 in
theorem tb_880 : (.selects "TwinTunersModel" ⟨"TwinTunersModel", "protect", "(IZ)V"⟩ ⟨"TwinTunersModel", "protect", "(IZ)V"⟩ : Cond) ∈ tb_ := tb_w 880 rfl rfl
set_option maxRecDepth 100000 in
theorem tb_886 : (.methodLink "TwinTunersLaw" 137 ⟨"TwinTunersModel", "seen", "(IZ)V"⟩ : Cond) ∈ tb_ := tb_w 886 rfl rfl
set_option maxRecDepth 100000 in
theorem tb_887 : (.instanceMethod ⟨"TwinTunersModel", "seen", "(IZ)V"⟩ : Cond) ∈ tb_ := tb_w 887 rfl rfl
set_option maxRecDepth 100000 in
theorem tb_888 : (.selects "TwinTunersModel" ⟨"TwinTunersModel", "seen", "(IZ)V"⟩ ⟨"TwinTunersModel", "seen", "(IZ)V"⟩ : Cond) ∈ tb_ := tb_w 888 rfl rfl
set_option maxRecDepth 100000 in
theorem tb_890 : (.methodLink "TwinTunersLaw" 140 ⟨"TwinTunersModel", "erase", "(I)I"⟩ : Cond) ∈ tb_ := tb_w 890 rfl rfl
set_option maxRecDepth 100000 in
theorem tb_891 : (.instanceMethod ⟨"TwinTunersModel", "erase", "(I)I"⟩ : Cond) ∈ tb_ := tb_w 891 rfl rfl
set_option maxRecDepth 100000 in
theorem tb_892 : (.selects "TwinTunersModel" ⟨"TwinTunersModel", "erase", "(I)I"⟩ ⟨"TwinTunersModel", "erase", "(I)I"⟩ : Cond) ∈ tb_ := tb_w 892 rfl rfl
set_option maxRecDepth 100000 in
theorem tb_894 : (.methodLink "TwinTunersLaw" 144 ⟨"TwinTunersModel", "free", "()I"⟩ : Cond) ∈ tb_ := tb_w 894 rfl rfl
set_option maxRecDepth 100000 in
theorem tb_895 : (.instanceMethod ⟨"TwinTunersModel", "free", "()I"⟩ : Cond) ∈ tb_ := tb_w 895 rfl rfl
set_option maxRecDepth 100000 in
theorem tb_896 : (.selects "TwinTunersModel" ⟨"TwinTunersModel", "free", "()I"⟩ ⟨"TwinTunersModel", "free", "()I"⟩ : Cond) ∈ tb_ := tb_w 896 rfl rfl
set_option maxRecDepth 100000 in
theorem tb_898 : (.methodLink "TwinTunersLaw" 147 ⟨"TwinTunersModel", "bookmark", "(II)I"⟩ : Cond) ∈ tb_ := tb_w 898 rfl rfl
set_option maxRecDepth 100000 in
theorem tb_899 : (.instanceMethod ⟨"TwinTunersModel", "bookmark", "(II)I"⟩ : Cond) ∈ tb_ := tb_w 899 rfl rfl
set_option maxRecDepth 100000 in
theorem tb_900 : (.selects "TwinTunersModel" ⟨"TwinTunersModel", "bookmark", "(II)I"⟩ ⟨"TwinTunersModel", "bookmark", "(II)I"⟩ : Cond) ∈ tb_ := tb_w 900 rfl rfl
set_option maxRecDepth 100000 in
theorem tb_906 : (.methodLink "TwinTunersLaw" 150 ⟨"TwinTunersModel", "bookmarkAt", "(II)I"⟩ : Cond) ∈ tb_ := tb_w 906 rfl rfl
set_option maxRecDepth 100000 in
theorem tb_907 : (.instanceMethod ⟨"TwinTunersModel", "bookmarkAt", "(II)I"⟩ : Cond) ∈ tb_ := tb_w 907 rfl rfl
set_option maxRecDepth 100000 in
theorem tb_908 : (.selects "TwinTunersModel" ⟨"TwinTunersModel", "bookmarkAt", "(II)I"⟩ ⟨"TwinTunersModel", "bookmarkAt", "(II)I"⟩ : Cond) ∈ tb_ := tb_w 908 rfl rfl
set_option maxRecDepth 100000 in
theorem tb_910 : (.methodLink "TwinTunersLaw" 153 ⟨"TwinTunersModel", "cut", "(I)I"⟩ : Cond) ∈ tb_ := tb_w 910 rfl rfl
set_option maxRecDepth 100000 in
theorem tb_911 : (.instanceMethod ⟨"TwinTunersModel", "cut", "(I)I"⟩ : Cond) ∈ tb_ := tb_w 911 rfl rfl
set_option maxRecDepth 100000 in
theorem tb_912 : (.selects "TwinTunersModel" ⟨"TwinTunersModel", "cut", "(I)I"⟩ ⟨"TwinTunersModel", "cut", "(I)I"⟩ : Cond) ∈ tb_ := tb_w 912 rfl rfl
theorem d_LW_law_140 : decode code 140 = .ok (.aload_n 1, 1) := by decide +kernel
theorem d_LW_law_141 : decode code 141 = .ok (.aload_n 0, 1) := by decide +kernel
theorem d_LW_law_142 : decode code 142 = .ok (.iload 4, 2) := by decide +kernel
theorem d_LW_law_144 : decode code 144 = .ok (.iconst 1, 1) := by decide +kernel
theorem d_LW_law_145 : decode code 145 = .ok (.iadd, 1) := by decide +kernel
theorem d_LW_law_146 : decode code 146 = .ok (.iaload, 1) := by decide +kernel
theorem d_LW_law_147 : decode code 147 = .ok (.aload_n 0, 1) := by decide +kernel
theorem d_LW_law_148 : decode code 148 = .ok (.iload 4, 2) := by decide +kernel
theorem d_LW_law_150 : decode code 150 = .ok (.iconst 2, 1) := by decide +kernel
theorem d_LW_law_151 : decode code 151 = .ok (.iadd, 1) := by decide +kernel
theorem d_LW_law_152 : decode code 152 = .ok (.iaload, 1) := by decide +kernel
theorem d_LW_law_153 : decode code 153 = .ok (.aload_n 0, 1) := by decide +kernel
theorem d_LW_law_154 : decode code 154 = .ok (.iload 4, 2) := by decide +kernel
theorem d_LW_law_156 : decode code 156 = .ok (.iconst 3, 1) := by decide +kernel
theorem d_LW_law_157 : decode code 157 = .ok (.iadd, 1) := by decide +kernel
theorem d_LW_law_158 : decode code 158 = .ok (.iaload, 1) := by decide +kernel
theorem d_LW_law_159 : decode code 159 = .ok (.aload_n 0, 1) := by decide +kernel
theorem d_LW_law_160 : decode code 160 = .ok (.iload 4, 2) := by decide +kernel
theorem d_LW_law_162 : decode code 162 = .ok (.iconst 4, 1) := by decide +kernel
theorem d_LW_law_163 : decode code 163 = .ok (.iadd, 1) := by decide +kernel
theorem d_LW_law_164 : decode code 164 = .ok (.iaload, 1) := by decide +kernel
theorem d_LW_law_165 : decode code 165 = .ok (.aload_n 0, 1) := by decide +kernel
theorem d_LW_law_166 : decode code 166 = .ok (.iload 4, 2) := by decide +kernel
theorem d_LW_law_168 : decode code 168 = .ok (.iconst 5, 1) := by decide +kernel
theorem d_LW_law_169 : decode code 169 = .ok (.iadd, 1) := by decide +kernel
theorem d_LW_law_170 : decode code 170 = .ok (.iaload, 1) := by decide +kernel
theorem d_LW_law_171 : decode code 171 = .ok (.aload_n 3, 1) := by decide +kernel
theorem d_LW_law_172 : decode code 172 = .ok (.invokestatic 77, 3) := by decide +kernel
theorem d_LW_law_175 : decode code 175 = .ok (.istore 5, 2) := by decide +kernel
theorem d_LW_law_177 : decode code 177 = .ok (.aload_n 2, 1) := by decide +kernel
theorem d_LW_law_178 : decode code 178 = .ok (.aload_n 0, 1) := by decide +kernel
theorem d_LW_law_179 : decode code 179 = .ok (.iload 4, 2) := by decide +kernel
theorem d_LW_law_181 : decode code 181 = .ok (.iconst 1, 1) := by decide +kernel
theorem d_LW_law_182 : decode code 182 = .ok (.iadd, 1) := by decide +kernel
theorem d_LW_law_183 : decode code 183 = .ok (.iaload, 1) := by decide +kernel
theorem d_LW_law_184 : decode code 184 = .ok (.aload_n 0, 1) := by decide +kernel
theorem d_LW_law_185 : decode code 185 = .ok (.iload 4, 2) := by decide +kernel
theorem d_LW_law_187 : decode code 187 = .ok (.iconst 2, 1) := by decide +kernel
theorem d_LW_law_188 : decode code 188 = .ok (.iadd, 1) := by decide +kernel
theorem d_LW_law_189 : decode code 189 = .ok (.iaload, 1) := by decide +kernel
theorem d_LW_law_190 : decode code 190 = .ok (.aload_n 0, 1) := by decide +kernel
theorem d_LW_law_191 : decode code 191 = .ok (.iload 4, 2) := by decide +kernel
theorem d_LW_law_193 : decode code 193 = .ok (.iconst 3, 1) := by decide +kernel
theorem d_LW_law_194 : decode code 194 = .ok (.iadd, 1) := by decide +kernel
theorem d_LW_law_195 : decode code 195 = .ok (.iaload, 1) := by decide +kernel
theorem d_LW_law_196 : decode code 196 = .ok (.aload_n 0, 1) := by decide +kernel
theorem d_LW_law_197 : decode code 197 = .ok (.iload 4, 2) := by decide +kernel
theorem d_LW_law_199 : decode code 199 = .ok (.iconst 4, 1) := by decide +kernel
theorem d_LW_law_200 : decode code 200 = .ok (.iadd, 1) := by decide +kernel
theorem d_LW_law_201 : decode code 201 = .ok (.iaload, 1) := by decide +kernel
theorem d_LW_law_202 : decode code 202 = .ok (.aload_n 0, 1) := by decide +kernel
theorem d_LW_law_203 : decode code 203 = .ok (.iload 4, 2) := by decide +kernel
theorem d_LW_law_205 : decode code 205 = .ok (.iconst 5, 1) := by decide +kernel
theorem d_LW_law_206 : decode code 206 = .ok (.iadd, 1) := by decide +kernel
theorem d_LW_law_207 : decode code 207 = .ok (.iaload, 1) := by decide +kernel
theorem d_LW_law_208 : decode code 208 = .ok (.invokevirtual 82, 3) := by decide +kernel
theorem d_LW_law_211 : decode code 211 = .ok (.istore 6, 2) := by decide +kernel
theorem d_LW_law_213 : decode code 213 = .ok (.goto 607, 3) := by decide +kernel
theorem d_LW_law_216 : decode code 216 = .ok (.aload_n 1, 1) := by decide +kernel
theorem d_LW_law_217 : decode code 217 = .ok (.aload_n 0, 1) := by decide +kernel
theorem d_LW_law_218 : decode code 218 = .ok (.iload 4, 2) := by decide +kernel
theorem d_LW_law_220 : decode code 220 = .ok (.iconst 1, 1) := by decide +kernel
theorem d_LW_law_221 : decode code 221 = .ok (.iadd, 1) := by decide +kernel
theorem d_LW_law_222 : decode code 222 = .ok (.iaload, 1) := by decide +kernel
theorem d_LW_law_223 : decode code 223 = .ok (.invokestatic 83, 3) := by decide +kernel
theorem d_LW_law_226 : decode code 226 = .ok (.istore 5, 2) := by decide +kernel
theorem d_LW_law_228 : decode code 228 = .ok (.aload_n 2, 1) := by decide +kernel
theorem d_LW_law_229 : decode code 229 = .ok (.aload_n 0, 1) := by decide +kernel
theorem d_LW_law_230 : decode code 230 = .ok (.iload 4, 2) := by decide +kernel
theorem d_LW_law_232 : decode code 232 = .ok (.iconst 1, 1) := by decide +kernel
theorem d_LW_law_233 : decode code 233 = .ok (.iadd, 1) := by decide +kernel
theorem d_LW_law_234 : decode code 234 = .ok (.iaload, 1) := by decide +kernel
theorem d_LW_law_235 : decode code 235 = .ok (.invokevirtual 86, 3) := by decide +kernel
theorem d_LW_law_238 : decode code 238 = .ok (.goto 582, 3) := by decide +kernel
theorem d_LW_law_241 : decode code 241 = .ok (.aload_n 1, 1) := by decide +kernel
theorem d_LW_law_242 : decode code 242 = .ok (.aload_n 0, 1) := by decide +kernel
theorem d_LW_law_243 : decode code 243 = .ok (.iload 4, 2) := by decide +kernel
theorem d_LW_law_245 : decode code 245 = .ok (.iconst 1, 1) := by decide +kernel
theorem d_LW_law_246 : decode code 246 = .ok (.iadd, 1) := by decide +kernel
theorem d_LW_law_247 : decode code 247 = .ok (.iaload, 1) := by decide +kernel
theorem d_LW_law_248 : decode code 248 = .ok (.aload_n 3, 1) := by decide +kernel
theorem d_LW_law_249 : decode code 249 = .ok (.invokestatic 87, 3) := by decide +kernel
theorem d_LW_law_252 : decode code 252 = .ok (.istore 5, 2) := by decide +kernel
theorem d_LW_law_254 : decode code 254 = .ok (.aload_n 2, 1) := by decide +kernel
theorem d_LW_law_255 : decode code 255 = .ok (.aload_n 0, 1) := by decide +kernel
theorem d_LW_law_256 : decode code 256 = .ok (.iload 4, 2) := by decide +kernel
theorem d_LW_law_258 : decode code 258 = .ok (.iconst 1, 1) := by decide +kernel
theorem d_LW_law_259 : decode code 259 = .ok (.iadd, 1) := by decide +kernel
theorem d_LW_law_260 : decode code 260 = .ok (.iaload, 1) := by decide +kernel
theorem d_LW_law_261 : decode code 261 = .ok (.invokevirtual 90, 3) := by decide +kernel
theorem d_LW_law_264 : decode code 264 = .ok (.istore 6, 2) := by decide +kernel
theorem d_LW_law_266 : decode code 266 = .ok (.goto 554, 3) := by decide +kernel
theorem d_LW_law_269 : decode code 269 = .ok (.aload_n 1, 1) := by decide +kernel
theorem d_LW_law_270 : decode code 270 = .ok (.aload_n 0, 1) := by decide +kernel
theorem d_LW_law_271 : decode code 271 = .ok (.iload 4, 2) := by decide +kernel
theorem d_LW_law_273 : decode code 273 = .ok (.iconst 1, 1) := by decide +kernel
theorem d_LW_law_274 : decode code 274 = .ok (.iadd, 1) := by decide +kernel
theorem d_LW_law_275 : decode code 275 = .ok (.iaload, 1) := by decide +kernel
theorem d_LW_law_276 : decode code 276 = .ok (.aload_n 3, 1) := by decide +kernel
theorem d_LW_law_277 : decode code 277 = .ok (.invokestatic 91, 3) := by decide +kernel
theorem d_LW_law_280 : decode code 280 = .ok (.istore 5, 2) := by decide +kernel
theorem d_LW_law_282 : decode code 282 = .ok (.aload_n 2, 1) := by decide +kernel
theorem d_LW_law_283 : decode code 283 = .ok (.aload_n 0, 1) := by decide +kernel
theorem d_LW_law_284 : decode code 284 = .ok (.iload 4, 2) := by decide +kernel
theorem d_LW_law_286 : decode code 286 = .ok (.iconst 1, 1) := by decide +kernel
theorem d_LW_law_287 : decode code 287 = .ok (.iadd, 1) := by decide +kernel
theorem d_LW_law_288 : decode code 288 = .ok (.iaload, 1) := by decide +kernel
theorem d_LW_law_289 : decode code 289 = .ok (.invokevirtual 93, 3) := by decide +kernel
theorem d_LW_law_292 : decode code 292 = .ok (.istore 6, 2) := by decide +kernel
theorem d_LW_law_294 : decode code 294 = .ok (.goto 526, 3) := by decide +kernel
theorem d_LW_law_297 : decode code 297 = .ok (.aload_n 1, 1) := by decide +kernel
theorem d_LW_law_298 : decode code 298 = .ok (.aload_n 0, 1) := by decide +kernel
theorem d_LW_law_299 : decode code 299 = .ok (.iload 4, 2) := by decide +kernel
theorem d_LW_law_301 : decode code 301 = .ok (.iconst 1, 1) := by decide +kernel
theorem d_LW_law_302 : decode code 302 = .ok (.iadd, 1) := by decide +kernel
theorem d_LW_law_303 : decode code 303 = .ok (.iaload, 1) := by decide +kernel
theorem d_LW_law_304 : decode code 304 = .ok (.aload_n 3, 1) := by decide +kernel
theorem d_LW_law_305 : decode code 305 = .ok (.invokestatic 94, 3) := by decide +kernel
theorem d_LW_law_308 : decode code 308 = .ok (.istore 5, 2) := by decide +kernel
theorem d_LW_law_310 : decode code 310 = .ok (.aload_n 2, 1) := by decide +kernel
theorem d_LW_law_311 : decode code 311 = .ok (.aload_n 0, 1) := by decide +kernel
theorem d_LW_law_312 : decode code 312 = .ok (.iload 4, 2) := by decide +kernel
theorem d_LW_law_314 : decode code 314 = .ok (.iconst 1, 1) := by decide +kernel
theorem d_LW_law_315 : decode code 315 = .ok (.iadd, 1) := by decide +kernel
theorem d_LW_law_316 : decode code 316 = .ok (.iaload, 1) := by decide +kernel
theorem d_LW_law_317 : decode code 317 = .ok (.invokevirtual 96, 3) := by decide +kernel
theorem d_LW_law_320 : decode code 320 = .ok (.istore 6, 2) := by decide +kernel
theorem d_LW_law_322 : decode code 322 = .ok (.goto 498, 3) := by decide +kernel
theorem d_LW_law_325 : decode code 325 = .ok (.aload_n 1, 1) := by decide +kernel
theorem d_LW_law_326 : decode code 326 = .ok (.aload_n 0, 1) := by decide +kernel
theorem d_LW_law_327 : decode code 327 = .ok (.iload 4, 2) := by decide +kernel
theorem d_LW_law_329 : decode code 329 = .ok (.iconst 1, 1) := by decide +kernel
theorem d_LW_law_330 : decode code 330 = .ok (.iadd, 1) := by decide +kernel
theorem d_LW_law_331 : decode code 331 = .ok (.iaload, 1) := by decide +kernel
theorem d_LW_law_332 : decode code 332 = .ok (.aload_n 0, 1) := by decide +kernel
theorem d_LW_law_333 : decode code 333 = .ok (.iload 4, 2) := by decide +kernel
theorem d_LW_law_335 : decode code 335 = .ok (.iconst 2, 1) := by decide +kernel
theorem d_LW_law_336 : decode code 336 = .ok (.iadd, 1) := by decide +kernel
theorem d_LW_law_337 : decode code 337 = .ok (.iaload, 1) := by decide +kernel
theorem d_LW_law_338 : decode code 338 = .ok (.invokestatic 97, 3) := by decide +kernel
theorem d_LW_law_341 : decode code 341 = .ok (.istore 5, 2) := by decide +kernel
theorem d_LW_law_343 : decode code 343 = .ok (.aload_n 2, 1) := by decide +kernel
theorem d_LW_law_344 : decode code 344 = .ok (.aload_n 0, 1) := by decide +kernel
theorem d_LW_law_345 : decode code 345 = .ok (.iload 4, 2) := by decide +kernel
theorem d_LW_law_347 : decode code 347 = .ok (.iconst 1, 1) := by decide +kernel
theorem d_LW_law_348 : decode code 348 = .ok (.iadd, 1) := by decide +kernel
theorem d_LW_law_349 : decode code 349 = .ok (.iaload, 1) := by decide +kernel
theorem d_LW_law_350 : decode code 350 = .ok (.aload_n 0, 1) := by decide +kernel
theorem d_LW_law_351 : decode code 351 = .ok (.iload 4, 2) := by decide +kernel
theorem d_LW_law_353 : decode code 353 = .ok (.iconst 2, 1) := by decide +kernel
theorem d_LW_law_354 : decode code 354 = .ok (.iadd, 1) := by decide +kernel
theorem d_LW_law_355 : decode code 355 = .ok (.iaload, 1) := by decide +kernel
theorem d_LW_law_356 : decode code 356 = .ok (.invokevirtual 100, 3) := by decide +kernel
theorem d_LW_law_359 : decode code 359 = .ok (.goto 461, 3) := by decide +kernel
theorem d_LW_law_362 : decode code 362 = .ok (.aload_n 1, 1) := by decide +kernel
theorem d_LW_law_363 : decode code 363 = .ok (.invokevirtual 101, 3) := by decide +kernel
theorem d_LW_law_366 : decode code 366 = .ok (.pop, 1) := by decide +kernel
theorem d_LW_law_367 : decode code 367 = .ok (.aload_n 2, 1) := by decide +kernel
theorem d_LW_law_368 : decode code 368 = .ok (.invokevirtual 105, 3) := by decide +kernel
theorem d_LW_law_371 : decode code 371 = .ok (.pop, 1) := by decide +kernel
theorem d_LW_law_372 : decode code 372 = .ok (.goto 448, 3) := by decide +kernel
theorem d_LW_law_375 : decode code 375 = .ok (.aload_n 1, 1) := by decide +kernel
theorem d_LW_law_376 : decode code 376 = .ok (.aload_n 0, 1) := by decide +kernel
theorem d_LW_law_377 : decode code 377 = .ok (.iload 4, 2) := by decide +kernel
theorem d_LW_law_379 : decode code 379 = .ok (.iconst 1, 1) := by decide +kernel
theorem d_LW_law_380 : decode code 380 = .ok (.iadd, 1) := by decide +kernel
theorem d_LW_law_381 : decode code 381 = .ok (.iaload, 1) := by decide +kernel
theorem d_LW_law_382 : decode code 382 = .ok (.aload_n 3, 1) := by decide +kernel
theorem d_LW_law_383 : decode code 383 = .ok (.invokestatic 106, 3) := by decide +kernel
theorem d_LW_law_386 : decode code 386 = .ok (.istore 5, 2) := by decide +kernel
theorem d_LW_law_388 : decode code 388 = .ok (.aload_n 2, 1) := by decide +kernel
theorem d_LW_law_389 : decode code 389 = .ok (.aload_n 0, 1) := by decide +kernel
theorem d_LW_law_390 : decode code 390 = .ok (.iload 4, 2) := by decide +kernel
theorem d_LW_law_392 : decode code 392 = .ok (.iconst 1, 1) := by decide +kernel
theorem d_LW_law_393 : decode code 393 = .ok (.iadd, 1) := by decide +kernel
theorem d_LW_law_394 : decode code 394 = .ok (.iaload, 1) := by decide +kernel
theorem d_LW_law_395 : decode code 395 = .ok (.invokevirtual 108, 3) := by decide +kernel
theorem d_LW_law_398 : decode code 398 = .ok (.istore 6, 2) := by decide +kernel
theorem d_LW_law_400 : decode code 400 = .ok (.goto 420, 3) := by decide +kernel
theorem d_LW_law_403 : decode code 403 = .ok (.aload_n 1, 1) := by decide +kernel
theorem d_LW_law_404 : decode code 404 = .ok (.invokevirtual 109, 3) := by decide +kernel
theorem d_LW_law_407 : decode code 407 = .ok (.aload_n 2, 1) := by decide +kernel
theorem d_LW_law_408 : decode code 408 = .ok (.invokevirtual 112, 3) := by decide +kernel
theorem d_LW_law_411 : decode code 411 = .ok (.if_icmp .eq 409, 3) := by decide +kernel
theorem d_LW_law_416 : decode code 416 = .ok (.aload_n 1, 1) := by decide +kernel
theorem d_LW_law_417 : decode code 417 = .ok (.aload_n 0, 1) := by decide +kernel
theorem d_LW_law_418 : decode code 418 = .ok (.iload 4, 2) := by decide +kernel
theorem d_LW_law_420 : decode code 420 = .ok (.iconst 1, 1) := by decide +kernel
theorem d_LW_law_421 : decode code 421 = .ok (.iadd, 1) := by decide +kernel
theorem d_LW_law_422 : decode code 422 = .ok (.iaload, 1) := by decide +kernel
theorem d_LW_law_423 : decode code 423 = .ok (.aload_n 3, 1) := by decide +kernel
theorem d_LW_law_424 : decode code 424 = .ok (.invokestatic 113, 3) := by decide +kernel
theorem d_LW_law_427 : decode code 427 = .ok (.istore 5, 2) := by decide +kernel
theorem d_LW_law_429 : decode code 429 = .ok (.aload_n 2, 1) := by decide +kernel
theorem d_LW_law_430 : decode code 430 = .ok (.aload_n 0, 1) := by decide +kernel
theorem d_LW_law_431 : decode code 431 = .ok (.iload 4, 2) := by decide +kernel
theorem d_LW_law_433 : decode code 433 = .ok (.iconst 1, 1) := by decide +kernel
theorem d_LW_law_434 : decode code 434 = .ok (.iadd, 1) := by decide +kernel
theorem d_LW_law_435 : decode code 435 = .ok (.iaload, 1) := by decide +kernel
theorem d_LW_law_436 : decode code 436 = .ok (.invokevirtual 115, 3) := by decide +kernel
theorem d_LW_law_439 : decode code 439 = .ok (.istore 6, 2) := by decide +kernel
theorem d_LW_law_441 : decode code 441 = .ok (.goto 379, 3) := by decide +kernel
theorem d_LW_law_444 : decode code 444 = .ok (.aload_n 1, 1) := by decide +kernel
theorem d_LW_law_445 : decode code 445 = .ok (.aload_n 0, 1) := by decide +kernel
theorem d_LW_law_446 : decode code 446 = .ok (.iload 4, 2) := by decide +kernel
theorem d_LW_law_448 : decode code 448 = .ok (.iconst 1, 1) := by decide +kernel
theorem d_LW_law_449 : decode code 449 = .ok (.iadd, 1) := by decide +kernel
theorem d_LW_law_450 : decode code 450 = .ok (.iaload, 1) := by decide +kernel
theorem d_LW_law_451 : decode code 451 = .ok (.invokevirtual 116, 3) := by decide +kernel
theorem d_LW_law_454 : decode code 454 = .ok (.pop2, 1) := by decide +kernel
theorem d_LW_law_455 : decode code 455 = .ok (.aload_n 2, 1) := by decide +kernel
theorem d_LW_law_456 : decode code 456 = .ok (.aload_n 0, 1) := by decide +kernel
theorem d_LW_law_457 : decode code 457 = .ok (.iload 4, 2) := by decide +kernel
theorem d_LW_law_459 : decode code 459 = .ok (.iconst 1, 1) := by decide +kernel
theorem d_LW_law_460 : decode code 460 = .ok (.iadd, 1) := by decide +kernel
theorem d_LW_law_461 : decode code 461 = .ok (.iaload, 1) := by decide +kernel
theorem d_LW_law_462 : decode code 462 = .ok (.invokevirtual 120, 3) := by decide +kernel
theorem d_LW_law_465 : decode code 465 = .ok (.pop2, 1) := by decide +kernel
theorem d_LW_law_466 : decode code 466 = .ok (.goto 354, 3) := by decide +kernel
theorem d_LW_law_469 : decode code 469 = .ok (.aload_n 1, 1) := by decide +kernel
theorem d_LW_law_470 : decode code 470 = .ok (.aload_n 0, 1) := by decide +kernel
theorem d_LW_law_471 : decode code 471 = .ok (.iload 4, 2) := by decide +kernel
theorem d_LW_law_473 : decode code 473 = .ok (.iconst 1, 1) := by decide +kernel
theorem d_LW_law_474 : decode code 474 = .ok (.iadd, 1) := by decide +kernel
theorem d_LW_law_475 : decode code 475 = .ok (.iaload, 1) := by decide +kernel
theorem d_LW_law_476 : decode code 476 = .ok (.aload_n 0, 1) := by decide +kernel
theorem d_LW_law_477 : decode code 477 = .ok (.iload 4, 2) := by decide +kernel
theorem d_LW_law_479 : decode code 479 = .ok (.iconst 2, 1) := by decide +kernel
theorem d_LW_law_480 : decode code 480 = .ok (.iadd, 1) := by decide +kernel
theorem d_LW_law_481 : decode code 481 = .ok (.iaload, 1) := by decide +kernel
theorem d_LW_law_482 : decode code 482 = .ok (.aload_n 3, 1) := by decide +kernel
theorem d_LW_law_483 : decode code 483 = .ok (.invokestatic 121, 3) := by decide +kernel
theorem d_LW_law_486 : decode code 486 = .ok (.istore 5, 2) := by decide +kernel
theorem d_LW_law_488 : decode code 488 = .ok (.aload_n 2, 1) := by decide +kernel
theorem d_LW_law_489 : decode code 489 = .ok (.aload_n 0, 1) := by decide +kernel
theorem d_LW_law_490 : decode code 490 = .ok (.iload 4, 2) := by decide +kernel
theorem d_LW_law_492 : decode code 492 = .ok (.iconst 1, 1) := by decide +kernel
theorem d_LW_law_493 : decode code 493 = .ok (.iadd, 1) := by decide +kernel
theorem d_LW_law_494 : decode code 494 = .ok (.iaload, 1) := by decide +kernel
theorem d_LW_law_495 : decode code 495 = .ok (.aload_n 0, 1) := by decide +kernel
theorem d_LW_law_496 : decode code 496 = .ok (.iload 4, 2) := by decide +kernel
theorem d_LW_law_498 : decode code 498 = .ok (.iconst 2, 1) := by decide +kernel
theorem d_LW_law_499 : decode code 499 = .ok (.iadd, 1) := by decide +kernel
theorem d_LW_law_500 : decode code 500 = .ok (.iaload, 1) := by decide +kernel
theorem d_LW_law_501 : decode code 501 = .ok (.invokevirtual 124, 3) := by decide +kernel
theorem d_LW_law_504 : decode code 504 = .ok (.lstore 6, 2) := by decide +kernel
theorem d_LW_law_506 : decode code 506 = .ok (.goto 314, 3) := by decide +kernel
theorem d_LW_law_509 : decode code 509 = .ok (.aload_n 1, 1) := by decide +kernel
theorem d_LW_law_510 : decode code 510 = .ok (.aload_n 0, 1) := by decide +kernel
theorem d_LW_law_511 : decode code 511 = .ok (.iload 4, 2) := by decide +kernel
theorem d_LW_law_513 : decode code 513 = .ok (.iconst 1, 1) := by decide +kernel
theorem d_LW_law_514 : decode code 514 = .ok (.iadd, 1) := by decide +kernel
theorem d_LW_law_515 : decode code 515 = .ok (.iaload, 1) := by decide +kernel
theorem d_LW_law_516 : decode code 516 = .ok (.aload_n 3, 1) := by decide +kernel
theorem d_LW_law_517 : decode code 517 = .ok (.invokestatic 125, 3) := by decide +kernel
theorem d_LW_law_520 : decode code 520 = .ok (.istore 5, 2) := by decide +kernel
theorem d_LW_law_522 : decode code 522 = .ok (.aload_n 2, 1) := by decide +kernel
theorem d_LW_law_523 : decode code 523 = .ok (.aload_n 0, 1) := by decide +kernel
theorem d_LW_law_524 : decode code 524 = .ok (.iload 4, 2) := by decide +kernel
theorem d_LW_law_526 : decode code 526 = .ok (.iconst 1, 1) := by decide +kernel
theorem d_LW_law_527 : decode code 527 = .ok (.iadd, 1) := by decide +kernel
theorem d_LW_law_528 : decode code 528 = .ok (.iaload, 1) := by decide +kernel
theorem d_LW_law_529 : decode code 529 = .ok (.invokevirtual 127, 3) := by decide +kernel
theorem d_LW_law_532 : decode code 532 = .ok (.istore 6, 2) := by decide +kernel
theorem d_LW_law_534 : decode code 534 = .ok (.goto 286, 3) := by decide +kernel
theorem d_LW_law_537 : decode code 537 = .ok (.aload_n 1, 1) := by decide +kernel
theorem d_LW_law_538 : decode code 538 = .ok (.aload_n 0, 1) := by decide +kernel
theorem d_LW_law_539 : decode code 539 = .ok (.iload 4, 2) := by decide +kernel
theorem d_LW_law_541 : decode code 541 = .ok (.iconst 1, 1) := by decide +kernel
theorem d_LW_law_542 : decode code 542 = .ok (.iadd, 1) := by decide +kernel
theorem d_LW_law_543 : decode code 543 = .ok (.iaload, 1) := by decide +kernel
theorem d_LW_law_544 : decode code 544 = .ok (.aload_n 3, 1) := by decide +kernel
theorem d_LW_law_545 : decode code 545 = .ok (.invokestatic 128, 3) := by decide +kernel
theorem d_LW_law_548 : decode code 548 = .ok (.istore 5, 2) := by decide +kernel
theorem d_LW_law_550 : decode code 550 = .ok (.aload_n 2, 1) := by decide +kernel
theorem d_LW_law_551 : decode code 551 = .ok (.aload_n 0, 1) := by decide +kernel
theorem d_LW_law_552 : decode code 552 = .ok (.iload 4, 2) := by decide +kernel
theorem d_LW_law_554 : decode code 554 = .ok (.iconst 1, 1) := by decide +kernel
theorem d_LW_law_555 : decode code 555 = .ok (.iadd, 1) := by decide +kernel
theorem d_LW_law_556 : decode code 556 = .ok (.iaload, 1) := by decide +kernel
theorem d_LW_law_557 : decode code 557 = .ok (.invokevirtual 130, 3) := by decide +kernel
theorem d_LW_law_560 : decode code 560 = .ok (.istore 6, 2) := by decide +kernel
theorem d_LW_law_562 : decode code 562 = .ok (.goto 258, 3) := by decide +kernel
theorem d_LW_law_565 : decode code 565 = .ok (.aload_n 1, 1) := by decide +kernel
theorem d_LW_law_566 : decode code 566 = .ok (.aload_n 0, 1) := by decide +kernel
theorem d_LW_law_567 : decode code 567 = .ok (.iload 4, 2) := by decide +kernel
theorem d_LW_law_569 : decode code 569 = .ok (.iconst 1, 1) := by decide +kernel
theorem d_LW_law_570 : decode code 570 = .ok (.iadd, 1) := by decide +kernel
theorem d_LW_law_571 : decode code 571 = .ok (.iaload, 1) := by decide +kernel
theorem d_LW_law_572 : decode code 572 = .ok (.aload_n 0, 1) := by decide +kernel
theorem d_LW_law_573 : decode code 573 = .ok (.iload 4, 2) := by decide +kernel
theorem d_LW_law_575 : decode code 575 = .ok (.iconst 2, 1) := by decide +kernel
theorem d_LW_law_576 : decode code 576 = .ok (.iadd, 1) := by decide +kernel
theorem d_LW_law_577 : decode code 577 = .ok (.iaload, 1) := by decide +kernel
theorem d_LW_law_578 : decode code 578 = .ok (.ifCond .eq 7, 3) := by decide +kernel
theorem d_LW_law_581 : decode code 581 = .ok (.iconst 1, 1) := by decide +kernel
theorem d_LW_law_582 : decode code 582 = .ok (.goto 4, 3) := by decide +kernel
theorem d_LW_law_585 : decode code 585 = .ok (.iconst 0, 1) := by decide +kernel
theorem d_LW_law_586 : decode code 586 = .ok (.invokestatic 131, 3) := by decide +kernel
theorem d_LW_law_589 : decode code 589 = .ok (.istore 5, 2) := by decide +kernel
theorem d_LW_law_591 : decode code 591 = .ok (.aload_n 2, 1) := by decide +kernel
theorem d_LW_law_592 : decode code 592 = .ok (.aload_n 0, 1) := by decide +kernel
theorem d_LW_law_593 : decode code 593 = .ok (.iload 4, 2) := by decide +kernel
theorem d_LW_law_595 : decode code 595 = .ok (.iconst 1, 1) := by decide +kernel
theorem d_LW_law_596 : decode code 596 = .ok (.iadd, 1) := by decide +kernel
theorem d_LW_law_597 : decode code 597 = .ok (.iaload, 1) := by decide +kernel
theorem d_LW_law_598 : decode code 598 = .ok (.aload_n 0, 1) := by decide +kernel
theorem d_LW_law_599 : decode code 599 = .ok (.iload 4, 2) := by decide +kernel
theorem d_LW_law_601 : decode code 601 = .ok (.iconst 2, 1) := by decide +kernel
theorem d_LW_law_602 : decode code 602 = .ok (.iadd, 1) := by decide +kernel
theorem d_LW_law_603 : decode code 603 = .ok (.iaload, 1) := by decide +kernel
theorem d_LW_law_604 : decode code 604 = .ok (.ifCond .eq 7, 3) := by decide +kernel
theorem d_LW_law_607 : decode code 607 = .ok (.iconst 1, 1) := by decide +kernel
theorem d_LW_law_608 : decode code 608 = .ok (.goto 4, 3) := by decide +kernel
theorem d_LW_law_611 : decode code 611 = .ok (.iconst 0, 1) := by decide +kernel
theorem d_LW_law_612 : decode code 612 = .ok (.invokevirtual 134, 3) := by decide +kernel
theorem d_LW_law_615 : decode code 615 = .ok (.goto 205, 3) := by decide +kernel
theorem d_LW_law_618 : decode code 618 = .ok (.aload_n 1, 1) := by decide +kernel
theorem d_LW_law_619 : decode code 619 = .ok (.aload_n 0, 1) := by decide +kernel
theorem d_LW_law_620 : decode code 620 = .ok (.iload 4, 2) := by decide +kernel
theorem d_LW_law_622 : decode code 622 = .ok (.iconst 1, 1) := by decide +kernel
theorem d_LW_law_623 : decode code 623 = .ok (.iadd, 1) := by decide +kernel
theorem d_LW_law_624 : decode code 624 = .ok (.iaload, 1) := by decide +kernel
theorem d_LW_law_625 : decode code 625 = .ok (.aload_n 0, 1) := by decide +kernel
theorem d_LW_law_626 : decode code 626 = .ok (.iload 4, 2) := by decide +kernel
theorem d_LW_law_628 : decode code 628 = .ok (.iconst 2, 1) := by decide +kernel
theorem d_LW_law_629 : decode code 629 = .ok (.iadd, 1) := by decide +kernel
theorem d_LW_law_630 : decode code 630 = .ok (.iaload, 1) := by decide +kernel
theorem d_LW_law_631 : decode code 631 = .ok (.ifCond .eq 7, 3) := by decide +kernel
theorem d_LW_law_634 : decode code 634 = .ok (.iconst 1, 1) := by decide +kernel
theorem d_LW_law_635 : decode code 635 = .ok (.goto 4, 3) := by decide +kernel
theorem d_LW_law_638 : decode code 638 = .ok (.iconst 0, 1) := by decide +kernel
theorem d_LW_law_639 : decode code 639 = .ok (.invokestatic 135, 3) := by decide +kernel
theorem d_LW_law_642 : decode code 642 = .ok (.istore 5, 2) := by decide +kernel
theorem d_LW_law_644 : decode code 644 = .ok (.aload_n 2, 1) := by decide +kernel
theorem d_LW_law_645 : decode code 645 = .ok (.aload_n 0, 1) := by decide +kernel
theorem d_LW_law_646 : decode code 646 = .ok (.iload 4, 2) := by decide +kernel
theorem d_LW_law_648 : decode code 648 = .ok (.iconst 1, 1) := by decide +kernel
theorem d_LW_law_649 : decode code 649 = .ok (.iadd, 1) := by decide +kernel
theorem d_LW_law_650 : decode code 650 = .ok (.iaload, 1) := by decide +kernel
theorem d_LW_law_651 : decode code 651 = .ok (.aload_n 0, 1) := by decide +kernel
theorem d_LW_law_652 : decode code 652 = .ok (.iload 4, 2) := by decide +kernel
theorem d_LW_law_654 : decode code 654 = .ok (.iconst 2, 1) := by decide +kernel
theorem d_LW_law_655 : decode code 655 = .ok (.iadd, 1) := by decide +kernel
theorem d_LW_law_656 : decode code 656 = .ok (.iaload, 1) := by decide +kernel
theorem d_LW_law_657 : decode code 657 = .ok (.ifCond .eq 7, 3) := by decide +kernel
theorem d_LW_law_660 : decode code 660 = .ok (.iconst 1, 1) := by decide +kernel
theorem d_LW_law_661 : decode code 661 = .ok (.goto 4, 3) := by decide +kernel
theorem d_LW_law_664 : decode code 664 = .ok (.iconst 0, 1) := by decide +kernel
theorem d_LW_law_665 : decode code 665 = .ok (.invokevirtual 137, 3) := by decide +kernel
theorem d_LW_law_668 : decode code 668 = .ok (.goto 152, 3) := by decide +kernel
theorem d_LW_law_671 : decode code 671 = .ok (.aload_n 1, 1) := by decide +kernel
theorem d_LW_law_672 : decode code 672 = .ok (.aload_n 0, 1) := by decide +kernel
theorem d_LW_law_673 : decode code 673 = .ok (.iload 4, 2) := by decide +kernel
theorem d_LW_law_675 : decode code 675 = .ok (.iconst 1, 1) := by decide +kernel
theorem d_LW_law_676 : decode code 676 = .ok (.iadd, 1) := by decide +kernel
theorem d_LW_law_677 : decode code 677 = .ok (.iaload, 1) := by decide +kernel
theorem d_LW_law_678 : decode code 678 = .ok (.aload_n 3, 1) := by decide +kernel
theorem d_LW_law_679 : decode code 679 = .ok (.invokestatic 138, 3) := by decide +kernel
theorem d_LW_law_682 : decode code 682 = .ok (.istore 5, 2) := by decide +kernel
theorem d_LW_law_684 : decode code 684 = .ok (.aload_n 2, 1) := by decide +kernel
theorem d_LW_law_685 : decode code 685 = .ok (.aload_n 0, 1) := by decide +kernel
theorem d_LW_law_686 : decode code 686 = .ok (.iload 4, 2) := by decide +kernel
theorem d_LW_law_688 : decode code 688 = .ok (.iconst 1, 1) := by decide +kernel
theorem d_LW_law_689 : decode code 689 = .ok (.iadd, 1) := by decide +kernel
theorem d_LW_law_690 : decode code 690 = .ok (.iaload, 1) := by decide +kernel
theorem d_LW_law_691 : decode code 691 = .ok (.invokevirtual 140, 3) := by decide +kernel
theorem d_LW_law_694 : decode code 694 = .ok (.istore 6, 2) := by decide +kernel
theorem d_LW_law_696 : decode code 696 = .ok (.goto 124, 3) := by decide +kernel
theorem d_LW_law_699 : decode code 699 = .ok (.aload_n 1, 1) := by decide +kernel
theorem d_LW_law_700 : decode code 700 = .ok (.invokevirtual 141, 3) := by decide +kernel
theorem d_LW_law_703 : decode code 703 = .ok (.pop, 1) := by decide +kernel
theorem d_LW_law_704 : decode code 704 = .ok (.aload_n 2, 1) := by decide +kernel
theorem d_LW_law_705 : decode code 705 = .ok (.invokevirtual 144, 3) := by decide +kernel
theorem d_LW_law_708 : decode code 708 = .ok (.pop, 1) := by decide +kernel
theorem d_LW_law_709 : decode code 709 = .ok (.goto 111, 3) := by decide +kernel
theorem d_LW_law_712 : decode code 712 = .ok (.aload_n 1, 1) := by decide +kernel
theorem d_LW_law_713 : decode code 713 = .ok (.aload_n 0, 1) := by decide +kernel
theorem d_LW_law_714 : decode code 714 = .ok (.iload 4, 2) := by decide +kernel
theorem d_LW_law_716 : decode code 716 = .ok (.iconst 1, 1) := by decide +kernel
theorem d_LW_law_717 : decode code 717 = .ok (.iadd, 1) := by decide +kernel
theorem d_LW_law_718 : decode code 718 = .ok (.iaload, 1) := by decide +kernel
theorem d_LW_law_719 : decode code 719 = .ok (.aload_n 0, 1) := by decide +kernel
theorem d_LW_law_720 : decode code 720 = .ok (.iload 4, 2) := by decide +kernel
theorem d_LW_law_722 : decode code 722 = .ok (.iconst 2, 1) := by decide +kernel
theorem d_LW_law_723 : decode code 723 = .ok (.iadd, 1) := by decide +kernel
theorem d_LW_law_724 : decode code 724 = .ok (.iaload, 1) := by decide +kernel
theorem d_LW_law_725 : decode code 725 = .ok (.aload_n 3, 1) := by decide +kernel
theorem d_LW_law_726 : decode code 726 = .ok (.invokestatic 145, 3) := by decide +kernel
theorem d_LW_law_729 : decode code 729 = .ok (.istore 5, 2) := by decide +kernel
theorem d_LW_law_731 : decode code 731 = .ok (.aload_n 2, 1) := by decide +kernel
theorem d_LW_law_732 : decode code 732 = .ok (.aload_n 0, 1) := by decide +kernel
theorem d_LW_law_733 : decode code 733 = .ok (.iload 4, 2) := by decide +kernel
theorem d_LW_law_735 : decode code 735 = .ok (.iconst 1, 1) := by decide +kernel
theorem d_LW_law_736 : decode code 736 = .ok (.iadd, 1) := by decide +kernel
theorem d_LW_law_737 : decode code 737 = .ok (.iaload, 1) := by decide +kernel
theorem d_LW_law_738 : decode code 738 = .ok (.aload_n 0, 1) := by decide +kernel
theorem d_LW_law_739 : decode code 739 = .ok (.iload 4, 2) := by decide +kernel
theorem d_LW_law_741 : decode code 741 = .ok (.iconst 2, 1) := by decide +kernel
theorem d_LW_law_742 : decode code 742 = .ok (.iadd, 1) := by decide +kernel
theorem d_LW_law_743 : decode code 743 = .ok (.iaload, 1) := by decide +kernel
theorem d_LW_law_744 : decode code 744 = .ok (.invokevirtual 147, 3) := by decide +kernel
theorem d_LW_law_747 : decode code 747 = .ok (.istore 6, 2) := by decide +kernel
theorem d_LW_law_749 : decode code 749 = .ok (.goto 71, 3) := by decide +kernel
theorem d_LW_law_752 : decode code 752 = .ok (.aload_n 1, 1) := by decide +kernel
theorem d_LW_law_753 : decode code 753 = .ok (.aload_n 0, 1) := by decide +kernel
theorem d_LW_law_754 : decode code 754 = .ok (.iload 4, 2) := by decide +kernel
theorem d_LW_law_756 : decode code 756 = .ok (.iconst 1, 1) := by decide +kernel
theorem d_LW_law_757 : decode code 757 = .ok (.iadd, 1) := by decide +kernel
theorem d_LW_law_758 : decode code 758 = .ok (.iaload, 1) := by decide +kernel
theorem d_LW_law_759 : decode code 759 = .ok (.aload_n 0, 1) := by decide +kernel
theorem d_LW_law_760 : decode code 760 = .ok (.iload 4, 2) := by decide +kernel
theorem d_LW_law_762 : decode code 762 = .ok (.iconst 2, 1) := by decide +kernel
theorem d_LW_law_763 : decode code 763 = .ok (.iadd, 1) := by decide +kernel
theorem d_LW_law_764 : decode code 764 = .ok (.iaload, 1) := by decide +kernel
theorem d_LW_law_765 : decode code 765 = .ok (.aload_n 3, 1) := by decide +kernel
theorem d_LW_law_766 : decode code 766 = .ok (.invokestatic 148, 3) := by decide +kernel
theorem d_LW_law_769 : decode code 769 = .ok (.istore 5, 2) := by decide +kernel
theorem d_LW_law_771 : decode code 771 = .ok (.aload_n 2, 1) := by decide +kernel
theorem d_LW_law_772 : decode code 772 = .ok (.aload_n 0, 1) := by decide +kernel
theorem d_LW_law_773 : decode code 773 = .ok (.iload 4, 2) := by decide +kernel
theorem d_LW_law_775 : decode code 775 = .ok (.iconst 1, 1) := by decide +kernel
theorem d_LW_law_776 : decode code 776 = .ok (.iadd, 1) := by decide +kernel
theorem d_LW_law_777 : decode code 777 = .ok (.iaload, 1) := by decide +kernel
theorem d_LW_law_778 : decode code 778 = .ok (.aload_n 0, 1) := by decide +kernel
theorem d_LW_law_779 : decode code 779 = .ok (.iload 4, 2) := by decide +kernel
theorem d_LW_law_781 : decode code 781 = .ok (.iconst 2, 1) := by decide +kernel
theorem d_LW_law_782 : decode code 782 = .ok (.iadd, 1) := by decide +kernel
theorem d_LW_law_783 : decode code 783 = .ok (.iaload, 1) := by decide +kernel
theorem d_LW_law_784 : decode code 784 = .ok (.invokevirtual 150, 3) := by decide +kernel
theorem d_LW_law_787 : decode code 787 = .ok (.istore 6, 2) := by decide +kernel
theorem d_LW_law_789 : decode code 789 = .ok (.goto 31, 3) := by decide +kernel
theorem d_LW_law_792 : decode code 792 = .ok (.aload_n 1, 1) := by decide +kernel
theorem d_LW_law_793 : decode code 793 = .ok (.aload_n 0, 1) := by decide +kernel
theorem d_LW_law_794 : decode code 794 = .ok (.iload 4, 2) := by decide +kernel
theorem d_LW_law_796 : decode code 796 = .ok (.iconst 1, 1) := by decide +kernel
theorem d_LW_law_797 : decode code 797 = .ok (.iadd, 1) := by decide +kernel
theorem d_LW_law_798 : decode code 798 = .ok (.iaload, 1) := by decide +kernel
theorem d_LW_law_799 : decode code 799 = .ok (.aload_n 3, 1) := by decide +kernel
theorem d_LW_law_800 : decode code 800 = .ok (.invokestatic 151, 3) := by decide +kernel
theorem d_LW_law_803 : decode code 803 = .ok (.istore 5, 2) := by decide +kernel
theorem d_LW_law_805 : decode code 805 = .ok (.aload_n 2, 1) := by decide +kernel
theorem d_LW_law_806 : decode code 806 = .ok (.aload_n 0, 1) := by decide +kernel
theorem d_LW_law_807 : decode code 807 = .ok (.iload 4, 2) := by decide +kernel
theorem d_LW_law_809 : decode code 809 = .ok (.iconst 1, 1) := by decide +kernel
theorem d_LW_law_810 : decode code 810 = .ok (.iadd, 1) := by decide +kernel
theorem d_LW_law_811 : decode code 811 = .ok (.iaload, 1) := by decide +kernel
theorem d_LW_law_812 : decode code 812 = .ok (.invokevirtual 153, 3) := by decide +kernel
theorem d_LW_law_815 : decode code 815 = .ok (.istore 6, 2) := by decide +kernel
theorem d_LW_law_817 : decode code 817 = .ok (.goto 3, 3) := by decide +kernel
theorem wc_P {D : va_G} {cl : List vw_C} {b c : va_W} {H : Heap} (h : va_P D cl (b ++ c) H) : va_P D cl (c ++ b) H := va_P.swap (a := []) (b := b) (c := c) h
theorem wc_D {A : Nat → Prop} {b c : va_W} (h : va_D A (b ++ c)) : va_D A (c ++ b) := va_D.swap (a := []) (b := b) (c := c) h
theorem as_P {D : va_G} {cl : List vw_C} {a b c : va_W} {H : Heap} (h : va_P D cl (a ++ (b ++ c)) H) : va_P D cl ((a ++ b) ++ c) H := by rw [List.append_assoc]; exact h
theorem as_D {A : Nat → Prop} {a b c : va_W} (h : va_D A (a ++ (b ++ c))) : va_D A ((a ++ b) ++ c) := by rw [List.append_assoc]; exact h
theorem sa_P {D : va_G} {cl : List vw_C} {a b c : va_W} {H : Heap} (h : va_P D cl ((a ++ b) ++ c) H) : va_P D cl (a ++ (b ++ c)) H := by rw [List.append_assoc] at h; exact h
theorem sa_D {A : Nat → Prop} {a b c : va_W} (h : va_D A ((a ++ b) ++ c)) : va_D A (a ++ (b ++ c)) := by rw [List.append_assoc] at h; exact h
abbrev LT (kI kQ kJ kZ : ClassId) : List (ClassId × FieldType) := [(kI, .int), (kQ, .object "TwinTuners$Request"), (kJ, .long), (kZ, .boolean)]
abbrev LWd (cd : Nat → Nat) (kI kQ kJ kZ : ClassId) (ou g0 : Nat) (ad : Nat → Nat) (L : List Nat) (isA : Nat → Bool) (bk : Nat → Nat) (sc : Nat → Int32) (ia : Nat → Nat → Int32) (qa : Nat → Nat → Option Nat) (rf ba : Nat → Nat → Int32) (g : Nat → Int64) (sm : Nat → Int32) (im : Nat → Nat → Int32) : va_W := MOW g0 ad kI kZ sm im ++ (oW ou kJ g ++ CW cd kI kQ L isA bk sc ia qa rf ba)
/-- what holds at the loop's head -/
def LR (T : Int) (L : List Nat) (isA : Nat → Bool) (bk : Nat → Nat) (sc : Nat → Int32) (qa : Nat → Nat → Option Nat) (rf : Nat → Nat → Int32) (sm : Nat → Int32) (im : Nat → Nat → Int32) : Prop := (∃ N : Nat, CI N L isA bk sc qa rf) ∧ (∃ N : Nat, MI T N sm im) ∧ sc 1 = sm 1 ∧ sc 2 = sm 2
set_option maxHeartbeats 8000000 in
set_option maxRecDepth 100000 in
theorem cs_0 {p : Program} {l : Launch} {e : Env} {s : State} {m : MethodId} {below : List Frame} {meth : Method} {c : Code} {A : Nat → Prop} {b : Nat} {xs : Nat → Int32} (dC : Nat → ClassId) (dI : Nat → Nat → Nat) (cd : Nat → Nat) (kI kQ kJ kZ : ClassId) (ou g0 : Nat) (ad : Nat → Nat) (i Ln : Nat) (hi : i + 6 ≤ Ln) (hLn : Ln ≤ 3072) (hX : va_X b Ln xs s s.heap) (cells slots : Nat) (hcl : cells + 3 ≤ 601024) (hsl : slots + 29 ≤ 7293033) (T : Int) (hT : T + 1000 ≤ 1000000) (hl9 : l.stackTraces = false) (hx : p.tables.exec = Jvm.exec) (hb : c.code = code) (hr : meth.sig.returnType = ret) (hlocks : meth.locks = false) (hbl : b < s.heap.size) (hbA : ¬ A b) (hAB : ∀ q, A q → s.heap.size ≤ q) (hml : c.maxLocals = 8) (hown : s.vm.findClass R_LW = some m.cls) (ht : ∀ w ∈ tb_, w.before #[Value.ref b] s = true) (hA : ∀ q : Nat, s.heap.size ≤ q → A q) (hBs : s.heap.size ≤ s.heap.size) (hV : tw_V s.heap.size s s.heap) (hK : va_K (dC, dI) cls_ (LT kI kQ kJ kZ) s)
    (kk : ∀ (L : List Nat) (isA : Nat → Bool) (bk : Nat → Nat) (sc : Nat → Int32) (ia : Nat → Nat → Int32) (qa : Nat → Nat → Option Nat) (rf ba : Nat → Nat → Int32) (g : Nat → Int64) (sm : Nat → Int32) (im : Nat → Nat → Int32) (H : Heap) (locs : List Loc) (ls : Array Slot), LR (T + 1000) L isA bk sc qa rf sm im → va_P (dC, dI) cls_ (LWd cd kI kQ kJ kZ ou g0 ad L isA bk sc ia qa rf ba g sm im) H → va_D A (LWd cd kI kQ kJ kZ ou g0 ad L isA bk sc ia qa rf ba g sm im) → va_S A s.heap H locs → lv_has ls 8 [(4, .int (nI i)), (3, .ref ou), (2, .ref g0), (1, .ref (cd 0)), (0, .ref b)] → W p l e room_1 s m #[Value.ref b] below meth c H locs (cells + 3) (slots + 29) (lw_Z below #[Value.ref b] s) (F0 m 820 ls []))
    (L : List Nat) (isA : Nat → Bool) (bk : Nat → Nat) (sc : Nat → Int32) (ia : Nat → Nat → Int32) (qa : Nat → Nat → Option Nat) (rf ba : Nat → Nat → Int32) (g : Nat → Int64) (sm : Nat → Int32) (im : Nat → Nat → Int32) (H : Heap) (locs : List Loc) (ls : Array Slot) (hR : LR T L isA bk sc qa rf sm im) (hP : va_P (dC, dI) cls_ (LWd cd kI kQ kJ kZ ou g0 ad L isA bk sc ia qa rf ba g sm im) H) (hD : va_D A (LWd cd kI kQ kJ kZ ou g0 ad L isA bk sc ia qa rf ba g sm im)) (hS : va_S A s.heap H locs) (hl : lv_has ls 8 [(4, .int (nI i)), (3, .ref ou), (2, .ref g0), (1, .ref (cd 0)), (0, .ref b)]) : W p l e room_1 s m #[Value.ref b] below meth c H locs cells slots (lw_Z below #[Value.ref b] s) (F0 m 140 ls []) := by
  obtain ⟨⟨N, hC⟩, ⟨NM, hM0⟩, hR1, hR2⟩ := hR
  have hm9 := hM0.2.1
  have hI := MI_wk hM0 (show T ≤ T + 1000 by omega) hT
  have hK3 : va_K (dC, dI) cls_ (CTJ kI kQ kJ) s := hK.sub (tys' := CTJ kI kQ kJ) [0, 1, 2] rfl
  have hK2 : va_K (dC, dI) cls_ (CT kI kQ) s := hK.sub (tys' := CT kI kQ) [0, 1] rfl
  have hK4 : va_K (dC, dI) cls_ (MOT kI kZ) s := hK.sub (tys' := MOT kI kZ) [0, 3] rfl
  refine lv_aload_n hx hb d_LW_law_140 rfl (lv_at hl 3 rfl) ?_
  refine lv_aload_n hx hb d_LW_law_141 rfl (lv_at hl 4 rfl) ?_
  refine lv_iload hx hb d_LW_law_142 (lv_at hl 0 rfl) ?_
  refine lv_iconst (v := 1) hx hb d_LW_law_144 (by decide) ?_
  refine lv_iadd hx hb d_LW_law_145 ?_
  refine lv_topi (fun v1 ev1 => ?_)
  obtain rfl : v1 = nI (i + 1) := ev1.trans (by rw [show (1 : Int32) = nI 1 from rfl, nI_add])
  refine va_sld hx hb hX hbl hbA hS (vp_in_nI (show i + 1 < Ln by omega) (by omega)) d_LW_law_146 ?_
  refine W.eq (g2 := F0 m 147 ls [.int (xs (i + 1)), .ref (cd 0)]) (by rw [nI_clamp (show i + 1 < 2 ^ 31 by omega)]) ?_
  refine lv_aload_n hx hb d_LW_law_147 rfl (lv_at hl 4 rfl) ?_
  refine lv_iload hx hb d_LW_law_148 (lv_at hl 0 rfl) ?_
  refine lv_iconst (v := 2) hx hb d_LW_law_150 (by decide) ?_
  refine lv_iadd hx hb d_LW_law_151 ?_
  refine lv_topi (fun v2 ev2 => ?_)
  obtain rfl : v2 = nI (i + 2) := ev2.trans (by rw [show (2 : Int32) = nI 2 from rfl, nI_add])
  refine va_sld hx hb hX hbl hbA hS (vp_in_nI (show i + 2 < Ln by omega) (by omega)) d_LW_law_152 ?_
  refine W.eq (g2 := F0 m 153 ls [.int (xs (i + 2)), .int (xs (i + 1)), .ref (cd 0)]) (by rw [nI_clamp (show i + 2 < 2 ^ 31 by omega)]) ?_
  refine lv_aload_n hx hb d_LW_law_153 rfl (lv_at hl 4 rfl) ?_
  refine lv_iload hx hb d_LW_law_154 (lv_at hl 0 rfl) ?_
  refine lv_iconst (v := 3) hx hb d_LW_law_156 (by decide) ?_
  refine lv_iadd hx hb d_LW_law_157 ?_
  refine lv_topi (fun v3 ev3 => ?_)
  obtain rfl : v3 = nI (i + 3) := ev3.trans (by rw [show (3 : Int32) = nI 3 from rfl, nI_add])
  refine va_sld hx hb hX hbl hbA hS (vp_in_nI (show i + 3 < Ln by omega) (by omega)) d_LW_law_158 ?_
  refine W.eq (g2 := F0 m 159 ls [.int (xs (i + 3)), .int (xs (i + 2)), .int (xs (i + 1)), .ref (cd 0)]) (by rw [nI_clamp (show i + 3 < 2 ^ 31 by omega)]) ?_
  refine lv_aload_n hx hb d_LW_law_159 rfl (lv_at hl 4 rfl) ?_
  refine lv_iload hx hb d_LW_law_160 (lv_at hl 0 rfl) ?_
  refine lv_iconst (v := 4) hx hb d_LW_law_162 (by decide) ?_
  refine lv_iadd hx hb d_LW_law_163 ?_
  refine lv_topi (fun v4 ev4 => ?_)
  obtain rfl : v4 = nI (i + 4) := ev4.trans (by rw [show (4 : Int32) = nI 4 from rfl, nI_add])
  refine va_sld hx hb hX hbl hbA hS (vp_in_nI (show i + 4 < Ln by omega) (by omega)) d_LW_law_164 ?_
  refine W.eq (g2 := F0 m 165 ls [.int (xs (i + 4)), .int (xs (i + 3)), .int (xs (i + 2)), .int (xs (i + 1)), .ref (cd 0)]) (by rw [nI_clamp (show i + 4 < 2 ^ 31 by omega)]) ?_
  refine lv_aload_n hx hb d_LW_law_165 rfl (lv_at hl 4 rfl) ?_
  refine lv_iload hx hb d_LW_law_166 (lv_at hl 0 rfl) ?_
  refine lv_iconst (v := 5) hx hb d_LW_law_168 (by decide) ?_
  refine lv_iadd hx hb d_LW_law_169 ?_
  refine lv_topi (fun v5 ev5 => ?_)
  obtain rfl : v5 = nI (i + 5) := ev5.trans (by rw [show (5 : Int32) = nI 5 from rfl, nI_add])
  refine va_sld hx hb hX hbl hbA hS (vp_in_nI (show i + 5 < Ln by omega) (by omega)) d_LW_law_170 ?_
  refine W.eq (g2 := F0 m 171 ls [.int (xs (i + 5)), .int (xs (i + 4)), .int (xs (i + 3)), .int (xs (i + 2)), .int (xs (i + 1)), .ref (cd 0)]) (by rw [nI_clamp (show i + 5 < 2 ^ 31 by omega)]) ?_
  refine lv_aload_n hx hb d_LW_law_171 rfl (lv_at hl 1 rfl) ?_
  refine t_callF (E := MOW g0 ad kI kZ sm im) (u0 := (((L, isA, bk), (sc, ia, qa, rf, ba)), g)) (w0 := oW ou kJ g ++ CW cd kI kQ L isA bk sc ia qa rf ba) rfl (tw_runSW (As := [.ref (cd 0), .int (xs (i + 1)), .int (xs (i + 2)), .int (xs (i + 3)), .int (xs (i + 4)), .int (xs (i + 5)), .ref ou]) (rest := []) ⟨hx, hb, hml, hown, ht⟩ (w_LW_request_c l dC dI cd kI kQ L isA bk sc ia qa rf ba kJ ou g H.size s.heap.size hl9 N hC (xs (i + 1)) (xs (i + 2)) (xs (i + 3)) (xs (i + 4)) (xs (i + 5))) rfl rfl ⟨Nat.le_of_ble_eq_true rfl, Nat.le_of_ble_eq_true rfl⟩ (pay_in ht (gW tb_263)) (show _ ∈ w_LW_request from List.mem_cons_self) (ht _ tb_261) (ht _ tb_262) (ht _ tb_0) (n := 7) (by decide +kernel) ⟨frP_blind, fr_pre (ap_P hP) hK3 (ap_D hD) hAB hBs hS hV⟩ rfl rfl hl.1 rfl (lv_room (Nat.le_of_ble_eq_true rfl)) d_LW_law_172 ⟨show cells + 2 ≤ 601024 by omega, show slots + 23 ≤ 7293033 by omega⟩) hP hD hS hA (fun k1 u H locs hu hP hD hS => ?_)
  obtain ⟨⟨⟨L1, isA1, bk1⟩, sc1, ia1, qa1, rf1, ba1⟩, g1⟩ := u
  obtain ⟨hs1, ⟨N1, hC1⟩⟩ := hu
  have hs1 : same [0] sc sc1 := hs1
  have hC1 : CI N1 L1 isA1 bk1 sc1 qa1 rf1 := hC1
  have hP : va_P (dC, dI) cls_ (LWd cd kI kQ kJ kZ ou g0 ad L1 isA1 bk1 sc1 ia1 qa1 rf1 ba1 g1 sm im) H := hP
  have hD : va_D A (LWd cd kI kQ kJ kZ ou g0 ad L1 isA1 bk1 sc1 ia1 qa1 rf1 ba1 g1 sm im) := hD
  refine W.eq (g2 := F0 m 175 ls [.int k1]) rfl ?_
  refine W.cs (cells' := cells + 2) (slots' := slots + 23) rfl rfl ?_
  refine lv_istore hx hb d_LW_law_175 hl (by decide) rfl (fun ls hl => ?_)
  have hl : lv_has ls 8 [(5, .int k1), (4, .int (nI i)), (3, .ref ou), (2, .ref g0), (1, .ref (cd 0)), (0, .ref b)] := hl
  refine lv_aload_n hx hb d_LW_law_177 rfl (lv_at hl 3 rfl) ?_
  refine lv_aload_n hx hb d_LW_law_178 rfl (lv_at hl 5 rfl) ?_
  refine lv_iload hx hb d_LW_law_179 (lv_at hl 1 rfl) ?_
  refine lv_iconst (v := 1) hx hb d_LW_law_181 (by decide) ?_
  refine lv_iadd hx hb d_LW_law_182 ?_
  refine lv_topi (fun v6 ev6 => ?_)
  obtain rfl : v6 = nI (i + 1) := ev6.trans (by rw [show (1 : Int32) = nI 1 from rfl, nI_add])
  refine va_sld hx hb hX hbl hbA hS (vp_in_nI (show i + 1 < Ln by omega) (by omega)) d_LW_law_183 ?_
  refine W.eq (g2 := F0 m 184 ls [.int (xs (i + 1)), .ref g0]) (by rw [nI_clamp (show i + 1 < 2 ^ 31 by omega)]) ?_
  refine lv_aload_n hx hb d_LW_law_184 rfl (lv_at hl 5 rfl) ?_
  refine lv_iload hx hb d_LW_law_185 (lv_at hl 1 rfl) ?_
  refine lv_iconst (v := 2) hx hb d_LW_law_187 (by decide) ?_
  refine lv_iadd hx hb d_LW_law_188 ?_
  refine lv_topi (fun v7 ev7 => ?_)
  obtain rfl : v7 = nI (i + 2) := ev7.trans (by rw [show (2 : Int32) = nI 2 from rfl, nI_add])
  refine va_sld hx hb hX hbl hbA hS (vp_in_nI (show i + 2 < Ln by omega) (by omega)) d_LW_law_189 ?_
  refine W.eq (g2 := F0 m 190 ls [.int (xs (i + 2)), .int (xs (i + 1)), .ref g0]) (by rw [nI_clamp (show i + 2 < 2 ^ 31 by omega)]) ?_
  refine lv_aload_n hx hb d_LW_law_190 rfl (lv_at hl 5 rfl) ?_
  refine lv_iload hx hb d_LW_law_191 (lv_at hl 1 rfl) ?_
  refine lv_iconst (v := 3) hx hb d_LW_law_193 (by decide) ?_
  refine lv_iadd hx hb d_LW_law_194 ?_
  refine lv_topi (fun v8 ev8 => ?_)
  obtain rfl : v8 = nI (i + 3) := ev8.trans (by rw [show (3 : Int32) = nI 3 from rfl, nI_add])
  refine va_sld hx hb hX hbl hbA hS (vp_in_nI (show i + 3 < Ln by omega) (by omega)) d_LW_law_195 ?_
  refine W.eq (g2 := F0 m 196 ls [.int (xs (i + 3)), .int (xs (i + 2)), .int (xs (i + 1)), .ref g0]) (by rw [nI_clamp (show i + 3 < 2 ^ 31 by omega)]) ?_
  refine lv_aload_n hx hb d_LW_law_196 rfl (lv_at hl 5 rfl) ?_
  refine lv_iload hx hb d_LW_law_197 (lv_at hl 1 rfl) ?_
  refine lv_iconst (v := 4) hx hb d_LW_law_199 (by decide) ?_
  refine lv_iadd hx hb d_LW_law_200 ?_
  refine lv_topi (fun v9 ev9 => ?_)
  obtain rfl : v9 = nI (i + 4) := ev9.trans (by rw [show (4 : Int32) = nI 4 from rfl, nI_add])
  refine va_sld hx hb hX hbl hbA hS (vp_in_nI (show i + 4 < Ln by omega) (by omega)) d_LW_law_201 ?_
  refine W.eq (g2 := F0 m 202 ls [.int (xs (i + 4)), .int (xs (i + 3)), .int (xs (i + 2)), .int (xs (i + 1)), .ref g0]) (by rw [nI_clamp (show i + 4 < 2 ^ 31 by omega)]) ?_
  refine lv_aload_n hx hb d_LW_law_202 rfl (lv_at hl 5 rfl) ?_
  refine lv_iload hx hb d_LW_law_203 (lv_at hl 1 rfl) ?_
  refine lv_iconst (v := 5) hx hb d_LW_law_205 (by decide) ?_
  refine lv_iadd hx hb d_LW_law_206 ?_
  refine lv_topi (fun v10 ev10 => ?_)
  obtain rfl : v10 = nI (i + 5) := ev10.trans (by rw [show (5 : Int32) = nI 5 from rfl, nI_add])
  refine va_sld hx hb hX hbl hbA hS (vp_in_nI (show i + 5 < Ln by omega) (by omega)) d_LW_law_207 ?_
  refine W.eq (g2 := F0 m 208 ls [.int (xs (i + 5)), .int (xs (i + 4)), .int (xs (i + 3)), .int (xs (i + 2)), .int (xs (i + 1)), .ref g0]) (by rw [nI_clamp (show i + 5 < 2 ^ 31 by omega)]) ?_
  refine t_callF (E := oW ou kJ g1 ++ CW cd kI kQ L1 isA1 bk1 sc1 ia1 qa1 rf1 ba1) (u0 := (sm, im)) (w0 := MOW g0 ad kI kZ sm im) rfl (va_runV (C := R_MO) (As := [.int (xs (i + 1)), .int (xs (i + 2)), .int (xs (i + 3)), .int (xs (i + 4)), .int (xs (i + 5))]) (rest := []) ⟨hx, hb, hml, hown, ht⟩ (t_MO_request l dC dI g0 ad kI kZ sm im H.size s.heap.size ((T + 1000)) NM hI (xs (i + 1)) (xs (i + 2)) (xs (i + 3)) (xs (i + 4)) (xs (i + 5))) (cwV 5 ht (gV tb_723 tb_724 tb_725 tb_5 tb_726) rfl rfl rfl (by decide +kernel) ⟨Nat.le_of_ble_eq_true rfl, Nat.le_of_ble_eq_true rfl⟩) ⟨frP_blind, va_recv (q := (R_MO, F_MO, 30)) hK hP rfl (show (LWd cd kI kQ kJ kZ ou g0 ad L1 isA1 bk1 sc1 ia1 qa1 rf1 ba1 g1 sm im : va_W)[0]? = some _ from rfl), fr_pre (ap_P (wc_P hP)) hK4 (ap_D (wc_D hD)) hAB hBs hS hV⟩ rfl rfl hl.1 rfl (lv_room (Nat.le_of_ble_eq_true rfl)) d_LW_law_208 ⟨show cells + 2 + 0 ≤ 601024 by omega, show slots + 23 + 0 ≤ 7293033 by omega⟩) (wc_P hP) (wc_D hD) hS hA (fun b1 u H locs hu hP hD hS => ?_)
  obtain ⟨sm1, im1⟩ := u
  obtain ⟨hm1, -, ⟨NM1, hI1⟩⟩ := hu
  have hm1 : same [0, 4] sm sm1 := hm1
  have hI1 : MI (T + 1000) NM1 sm1 im1 := hI1
  have hP := wc_P hP
  have hD := wc_D hD
  have hP : va_P (dC, dI) cls_ (LWd cd kI kQ kJ kZ ou g0 ad L1 isA1 bk1 sc1 ia1 qa1 rf1 ba1 g1 sm1 im1) H := hP
  have hD : va_D A (LWd cd kI kQ kJ kZ ou g0 ad L1 isA1 bk1 sc1 ia1 qa1 rf1 ba1 g1 sm1 im1) := hD
  refine W.eq (g2 := F0 m 211 ls [.int b1]) rfl ?_
  refine W.cs (cells' := cells + 2) (slots' := slots + 23) rfl rfl ?_
  refine lv_istore hx hb d_LW_law_211 hl (by decide) rfl (fun ls hl => ?_)
  have hl : lv_has ls 8 [(6, .int b1), (5, .int k1), (4, .int (nI i)), (3, .ref ou), (2, .ref g0), (1, .ref (cd 0)), (0, .ref b)] := hl
  refine lv_goto (tgt := 820) hx hb d_LW_law_213 (by decide) ?_
  have hl := lv_sub hl [2, 3, 4, 5, 6] (l' := [(4, .int (nI i)), (3, .ref ou), (2, .ref g0), (1, .ref (cd 0)), (0, .ref b)]) rfl
  have hq1 : sc1 1 = sm1 1 := (hs1 1 (by decide)).trans (hR1.trans (hm1 1 (by decide)).symm)
  have hq2 : sc1 2 = sm1 2 := (hs1 2 (by decide)).trans (hR2.trans (hm1 2 (by decide)).symm)
  refine W.widen (k := cells + 3) (n := slots + 29) (by omega) (by omega) ?_
  exact kk L1 isA1 bk1 sc1 ia1 qa1 rf1 ba1 g1 sm1 im1 H locs ls ⟨⟨_, hC1⟩, ⟨_, hI1⟩, hq1, hq2⟩ hP hD hS hl
set_option maxHeartbeats 8000000 in
set_option maxRecDepth 100000 in
theorem cs_1 {p : Program} {l : Launch} {e : Env} {s : State} {m : MethodId} {below : List Frame} {meth : Method} {c : Code} {A : Nat → Prop} {b : Nat} {xs : Nat → Int32} (dC : Nat → ClassId) (dI : Nat → Nat → Nat) (cd : Nat → Nat) (kI kQ kJ kZ : ClassId) (ou g0 : Nat) (ad : Nat → Nat) (i Ln : Nat) (hi : i + 6 ≤ Ln) (hLn : Ln ≤ 3072) (hX : va_X b Ln xs s s.heap) (cells slots : Nat) (hcl : cells + 3 ≤ 601024) (hsl : slots + 29 ≤ 7293033) (T : Int) (hT : T + 1000 ≤ 1000000) (hl9 : l.stackTraces = false) (hx : p.tables.exec = Jvm.exec) (hb : c.code = code) (hr : meth.sig.returnType = ret) (hlocks : meth.locks = false) (hbl : b < s.heap.size) (hbA : ¬ A b) (hAB : ∀ q, A q → s.heap.size ≤ q) (hml : c.maxLocals = 8) (hown : s.vm.findClass R_LW = some m.cls) (ht : ∀ w ∈ tb_, w.before #[Value.ref b] s = true) (hA : ∀ q : Nat, s.heap.size ≤ q → A q) (hBs : s.heap.size ≤ s.heap.size) (hV : tw_V s.heap.size s s.heap) (hK : va_K (dC, dI) cls_ (LT kI kQ kJ kZ) s)
    (kk : ∀ (L : List Nat) (isA : Nat → Bool) (bk : Nat → Nat) (sc : Nat → Int32) (ia : Nat → Nat → Int32) (qa : Nat → Nat → Option Nat) (rf ba : Nat → Nat → Int32) (g : Nat → Int64) (sm : Nat → Int32) (im : Nat → Nat → Int32) (H : Heap) (locs : List Loc) (ls : Array Slot), LR (T + 1000) L isA bk sc qa rf sm im → va_P (dC, dI) cls_ (LWd cd kI kQ kJ kZ ou g0 ad L isA bk sc ia qa rf ba g sm im) H → va_D A (LWd cd kI kQ kJ kZ ou g0 ad L isA bk sc ia qa rf ba g sm im) → va_S A s.heap H locs → lv_has ls 8 [(4, .int (nI i)), (3, .ref ou), (2, .ref g0), (1, .ref (cd 0)), (0, .ref b)] → W p l e room_1 s m #[Value.ref b] below meth c H locs (cells + 3) (slots + 29) (lw_Z below #[Value.ref b] s) (F0 m 820 ls []))
    (L : List Nat) (isA : Nat → Bool) (bk : Nat → Nat) (sc : Nat → Int32) (ia : Nat → Nat → Int32) (qa : Nat → Nat → Option Nat) (rf ba : Nat → Nat → Int32) (g : Nat → Int64) (sm : Nat → Int32) (im : Nat → Nat → Int32) (H : Heap) (locs : List Loc) (ls : Array Slot) (hR : LR T L isA bk sc qa rf sm im) (hP : va_P (dC, dI) cls_ (LWd cd kI kQ kJ kZ ou g0 ad L isA bk sc ia qa rf ba g sm im) H) (hD : va_D A (LWd cd kI kQ kJ kZ ou g0 ad L isA bk sc ia qa rf ba g sm im)) (hS : va_S A s.heap H locs) (hl : lv_has ls 8 [(4, .int (nI i)), (3, .ref ou), (2, .ref g0), (1, .ref (cd 0)), (0, .ref b)]) : W p l e room_1 s m #[Value.ref b] below meth c H locs cells slots (lw_Z below #[Value.ref b] s) (F0 m 216 ls []) := by
  obtain ⟨⟨N, hC⟩, ⟨NM, hM0⟩, hR1, hR2⟩ := hR
  have hm9 := hM0.2.1
  have hI := MI_wk hM0 (show T ≤ T + 1000 by omega) hT
  have hK3 : va_K (dC, dI) cls_ (CTJ kI kQ kJ) s := hK.sub (tys' := CTJ kI kQ kJ) [0, 1, 2] rfl
  have hK2 : va_K (dC, dI) cls_ (CT kI kQ) s := hK.sub (tys' := CT kI kQ) [0, 1] rfl
  have hK4 : va_K (dC, dI) cls_ (MOT kI kZ) s := hK.sub (tys' := MOT kI kZ) [0, 3] rfl
  refine lv_aload_n hx hb d_LW_law_216 rfl (lv_at hl 3 rfl) ?_
  refine lv_aload_n hx hb d_LW_law_217 rfl (lv_at hl 4 rfl) ?_
  refine lv_iload hx hb d_LW_law_218 (lv_at hl 0 rfl) ?_
  refine lv_iconst (v := 1) hx hb d_LW_law_220 (by decide) ?_
  refine lv_iadd hx hb d_LW_law_221 ?_
  refine lv_topi (fun v1 ev1 => ?_)
  obtain rfl : v1 = nI (i + 1) := ev1.trans (by rw [show (1 : Int32) = nI 1 from rfl, nI_add])
  refine va_sld hx hb hX hbl hbA hS (vp_in_nI (show i + 1 < Ln by omega) (by omega)) d_LW_law_222 ?_
  refine W.eq (g2 := F0 m 223 ls [.int (xs (i + 1)), .ref (cd 0)]) (by rw [nI_clamp (show i + 1 < 2 ^ 31 by omega)]) ?_
  refine t_callF (E := MOW g0 ad kI kZ sm im) (u0 := (((L, isA, bk), (sc, ia, qa, rf, ba)), g)) (w0 := oW ou kJ g ++ CW cd kI kQ L isA bk sc ia qa rf ba) rfl (tw_runSW (As := [.ref (cd 0), .int (xs (i + 1))]) (rest := []) ⟨hx, hb, hml, hown, ht⟩ (w_LW_cancel_c l dC dI cd kI kQ L isA bk sc ia qa rf ba kJ ou g H.size s.heap.size hl9 N hC (xs (i + 1))) rfl rfl ⟨Nat.le_of_ble_eq_true rfl, Nat.le_of_ble_eq_true rfl⟩ (pay_in ht (gW tb_450)) (show _ ∈ w_LW_cancel from List.mem_cons_self) (ht _ tb_448) (ht _ tb_449) (ht _ tb_0) (n := 2) (by decide +kernel) ⟨frP_blind, fr_pre (ap_P hP) hK3 (ap_D hD) hAB hBs hS hV⟩ rfl rfl hl.1 rfl (lv_room (Nat.le_of_ble_eq_true rfl)) d_LW_law_223 ⟨show cells + 1 ≤ 601024 by omega, show slots + 6 ≤ 7293033 by omega⟩) hP hD hS hA (fun k1 u H locs hu hP hD hS => ?_)
  obtain ⟨⟨⟨L1, isA1, bk1⟩, sc1, ia1, qa1, rf1, ba1⟩, g1⟩ := u
  obtain ⟨hs1, ⟨N1, hC1⟩⟩ := hu
  have hs1 : same [] sc sc1 := hs1
  have hC1 : CI N1 L1 isA1 bk1 sc1 qa1 rf1 := hC1
  have hP : va_P (dC, dI) cls_ (LWd cd kI kQ kJ kZ ou g0 ad L1 isA1 bk1 sc1 ia1 qa1 rf1 ba1 g1 sm im) H := hP
  have hD : va_D A (LWd cd kI kQ kJ kZ ou g0 ad L1 isA1 bk1 sc1 ia1 qa1 rf1 ba1 g1 sm im) := hD
  refine W.eq (g2 := F0 m 226 ls [.int k1]) rfl ?_
  refine W.cs (cells' := cells + 1) (slots' := slots + 6) rfl rfl ?_
  refine lv_istore hx hb d_LW_law_226 hl (by decide) rfl (fun ls hl => ?_)
  have hl : lv_has ls 8 [(5, .int k1), (4, .int (nI i)), (3, .ref ou), (2, .ref g0), (1, .ref (cd 0)), (0, .ref b)] := hl
  refine lv_aload_n hx hb d_LW_law_228 rfl (lv_at hl 3 rfl) ?_
  refine lv_aload_n hx hb d_LW_law_229 rfl (lv_at hl 5 rfl) ?_
  refine lv_iload hx hb d_LW_law_230 (lv_at hl 1 rfl) ?_
  refine lv_iconst (v := 1) hx hb d_LW_law_232 (by decide) ?_
  refine lv_iadd hx hb d_LW_law_233 ?_
  refine lv_topi (fun v2 ev2 => ?_)
  obtain rfl : v2 = nI (i + 1) := ev2.trans (by rw [show (1 : Int32) = nI 1 from rfl, nI_add])
  refine va_sld hx hb hX hbl hbA hS (vp_in_nI (show i + 1 < Ln by omega) (by omega)) d_LW_law_234 ?_
  refine W.eq (g2 := F0 m 235 ls [.int (xs (i + 1)), .ref g0]) (by rw [nI_clamp (show i + 1 < 2 ^ 31 by omega)]) ?_
  refine t_callF (E := oW ou kJ g1 ++ CW cd kI kQ L1 isA1 bk1 sc1 ia1 qa1 rf1 ba1) (u0 := (sm, im)) (w0 := MOW g0 ad kI kZ sm im) rfl (va_runV (C := R_MO) (As := [.int (xs (i + 1))]) (rest := []) ⟨hx, hb, hml, hown, ht⟩ (t_MO_cancel l dC dI g0 ad kI kZ sm im H.size s.heap.size ((T + 1000)) NM hI (xs (i + 1))) (cwV 1 ht (gV tb_736 tb_737 tb_738 tb_5 tb_739) rfl rfl rfl (by decide +kernel) ⟨Nat.le_of_ble_eq_true rfl, Nat.le_of_ble_eq_true rfl⟩) ⟨frP_blind, va_recv (q := (R_MO, F_MO, 30)) hK hP rfl (show (LWd cd kI kQ kJ kZ ou g0 ad L1 isA1 bk1 sc1 ia1 qa1 rf1 ba1 g1 sm im : va_W)[0]? = some _ from rfl), fr_pre (ap_P (wc_P hP)) hK4 (ap_D (wc_D hD)) hAB hBs hS hV⟩ rfl rfl hl.1 rfl (lv_room (Nat.le_of_ble_eq_true rfl)) d_LW_law_235 ⟨show cells + 1 + 0 ≤ 601024 by omega, show slots + 6 + 0 ≤ 7293033 by omega⟩) (wc_P hP) (wc_D hD) hS hA (fun b1 u H locs hu hP hD hS => ?_)
  obtain ⟨sm1, im1⟩ := u
  obtain ⟨hm1, -, hI1⟩ := hu
  have hm1 : same [0] sm sm1 := hm1
  obtain ⟨NM1, eNM1⟩ : ∃ q9_, q9_ = NM := ⟨_, rfl⟩
  rw [← eNM1] at hI1
  have hI1 : MI (T + 1000) NM1 sm1 im1 := hI1
  have hP := wc_P hP
  have hD := wc_D hD
  have hP : va_P (dC, dI) cls_ (LWd cd kI kQ kJ kZ ou g0 ad L1 isA1 bk1 sc1 ia1 qa1 rf1 ba1 g1 sm1 im1) H := hP
  have hD : va_D A (LWd cd kI kQ kJ kZ ou g0 ad L1 isA1 bk1 sc1 ia1 qa1 rf1 ba1 g1 sm1 im1) := hD
  refine W.eq (g2 := F0 m 238 ls []) rfl ?_
  refine W.cs (cells' := cells + 1) (slots' := slots + 6) rfl rfl ?_
  refine lv_goto (tgt := 820) hx hb d_LW_law_238 (by decide) ?_
  have hl := lv_sub hl [1, 2, 3, 4, 5] (l' := [(4, .int (nI i)), (3, .ref ou), (2, .ref g0), (1, .ref (cd 0)), (0, .ref b)]) rfl
  have hq1 : sc1 1 = sm1 1 := (hs1 1 (by decide)).trans (hR1.trans (hm1 1 (by decide)).symm)
  have hq2 : sc1 2 = sm1 2 := (hs1 2 (by decide)).trans (hR2.trans (hm1 2 (by decide)).symm)
  refine W.widen (k := cells + 3) (n := slots + 29) (by omega) (by omega) ?_
  exact kk L1 isA1 bk1 sc1 ia1 qa1 rf1 ba1 g1 sm1 im1 H locs ls ⟨⟨_, hC1⟩, ⟨_, hI1⟩, hq1, hq2⟩ hP hD hS hl
set_option maxHeartbeats 8000000 in
set_option maxRecDepth 100000 in
theorem cs_2 {p : Program} {l : Launch} {e : Env} {s : State} {m : MethodId} {below : List Frame} {meth : Method} {c : Code} {A : Nat → Prop} {b : Nat} {xs : Nat → Int32} (dC : Nat → ClassId) (dI : Nat → Nat → Nat) (cd : Nat → Nat) (kI kQ kJ kZ : ClassId) (ou g0 : Nat) (ad : Nat → Nat) (i Ln : Nat) (hi : i + 6 ≤ Ln) (hLn : Ln ≤ 3072) (hX : va_X b Ln xs s s.heap) (cells slots : Nat) (hcl : cells + 3 ≤ 601024) (hsl : slots + 29 ≤ 7293033) (T : Int) (hT : T + 1000 ≤ 1000000) (hl9 : l.stackTraces = false) (hx : p.tables.exec = Jvm.exec) (hb : c.code = code) (hr : meth.sig.returnType = ret) (hlocks : meth.locks = false) (hbl : b < s.heap.size) (hbA : ¬ A b) (hAB : ∀ q, A q → s.heap.size ≤ q) (hml : c.maxLocals = 8) (hown : s.vm.findClass R_LW = some m.cls) (ht : ∀ w ∈ tb_, w.before #[Value.ref b] s = true) (hA : ∀ q : Nat, s.heap.size ≤ q → A q) (hBs : s.heap.size ≤ s.heap.size) (hV : tw_V s.heap.size s s.heap) (hK : va_K (dC, dI) cls_ (LT kI kQ kJ kZ) s)
    (kk : ∀ (L : List Nat) (isA : Nat → Bool) (bk : Nat → Nat) (sc : Nat → Int32) (ia : Nat → Nat → Int32) (qa : Nat → Nat → Option Nat) (rf ba : Nat → Nat → Int32) (g : Nat → Int64) (sm : Nat → Int32) (im : Nat → Nat → Int32) (H : Heap) (locs : List Loc) (ls : Array Slot), LR (T + 1000) L isA bk sc qa rf sm im → va_P (dC, dI) cls_ (LWd cd kI kQ kJ kZ ou g0 ad L isA bk sc ia qa rf ba g sm im) H → va_D A (LWd cd kI kQ kJ kZ ou g0 ad L isA bk sc ia qa rf ba g sm im) → va_S A s.heap H locs → lv_has ls 8 [(4, .int (nI i)), (3, .ref ou), (2, .ref g0), (1, .ref (cd 0)), (0, .ref b)] → W p l e room_1 s m #[Value.ref b] below meth c H locs (cells + 3) (slots + 29) (lw_Z below #[Value.ref b] s) (F0 m 820 ls []))
    (L : List Nat) (isA : Nat → Bool) (bk : Nat → Nat) (sc : Nat → Int32) (ia : Nat → Nat → Int32) (qa : Nat → Nat → Option Nat) (rf ba : Nat → Nat → Int32) (g : Nat → Int64) (sm : Nat → Int32) (im : Nat → Nat → Int32) (H : Heap) (locs : List Loc) (ls : Array Slot) (hR : LR T L isA bk sc qa rf sm im) (hP : va_P (dC, dI) cls_ (LWd cd kI kQ kJ kZ ou g0 ad L isA bk sc ia qa rf ba g sm im) H) (hD : va_D A (LWd cd kI kQ kJ kZ ou g0 ad L isA bk sc ia qa rf ba g sm im)) (hS : va_S A s.heap H locs) (hl : lv_has ls 8 [(4, .int (nI i)), (3, .ref ou), (2, .ref g0), (1, .ref (cd 0)), (0, .ref b)]) : W p l e room_1 s m #[Value.ref b] below meth c H locs cells slots (lw_Z below #[Value.ref b] s) (F0 m 241 ls []) := by
  obtain ⟨⟨N, hC⟩, ⟨NM, hM0⟩, hR1, hR2⟩ := hR
  have hm9 := hM0.2.1
  have hI := MI_wk hM0 (show T ≤ T + 1000 by omega) hT
  have hK3 : va_K (dC, dI) cls_ (CTJ kI kQ kJ) s := hK.sub (tys' := CTJ kI kQ kJ) [0, 1, 2] rfl
  have hK2 : va_K (dC, dI) cls_ (CT kI kQ) s := hK.sub (tys' := CT kI kQ) [0, 1] rfl
  have hK4 : va_K (dC, dI) cls_ (MOT kI kZ) s := hK.sub (tys' := MOT kI kZ) [0, 3] rfl
  refine lv_aload_n hx hb d_LW_law_241 rfl (lv_at hl 3 rfl) ?_
  refine lv_aload_n hx hb d_LW_law_242 rfl (lv_at hl 4 rfl) ?_
  refine lv_iload hx hb d_LW_law_243 (lv_at hl 0 rfl) ?_
  refine lv_iconst (v := 1) hx hb d_LW_law_245 (by decide) ?_
  refine lv_iadd hx hb d_LW_law_246 ?_
  refine lv_topi (fun v1 ev1 => ?_)
  obtain rfl : v1 = nI (i + 1) := ev1.trans (by rw [show (1 : Int32) = nI 1 from rfl, nI_add])
  refine va_sld hx hb hX hbl hbA hS (vp_in_nI (show i + 1 < Ln by omega) (by omega)) d_LW_law_247 ?_
  refine W.eq (g2 := F0 m 248 ls [.int (xs (i + 1)), .ref (cd 0)]) (by rw [nI_clamp (show i + 1 < 2 ^ 31 by omega)]) ?_
  refine lv_aload_n hx hb d_LW_law_248 rfl (lv_at hl 1 rfl) ?_
  refine t_callF (E := MOW g0 ad kI kZ sm im) (u0 := (((L, isA, bk), (sc, ia, qa, rf, ba)), g)) (w0 := oW ou kJ g ++ CW cd kI kQ L isA bk sc ia qa rf ba) rfl (tw_runSW (As := [.ref (cd 0), .int (xs (i + 1)), .ref ou]) (rest := []) ⟨hx, hb, hml, hown, ht⟩ (w_LW_state_c l dC dI cd kI kQ L isA bk sc ia qa rf ba kJ ou g H.size s.heap.size hl9 N hC (xs (i + 1))) rfl rfl ⟨Nat.le_of_ble_eq_true rfl, Nat.le_of_ble_eq_true rfl⟩ (pay_in ht (gW tb_483)) (show _ ∈ w_LW_state from List.mem_cons_self) (ht _ tb_481) (ht _ tb_482) (ht _ tb_0) (n := 3) (by decide +kernel) ⟨frP_blind, fr_pre (ap_P hP) hK3 (ap_D hD) hAB hBs hS hV⟩ rfl rfl hl.1 rfl (lv_room (Nat.le_of_ble_eq_true rfl)) d_LW_law_249 ⟨show cells + 1 ≤ 601024 by omega, show slots + 6 ≤ 7293033 by omega⟩) hP hD hS hA (fun k1 u H locs hu hP hD hS => ?_)
  obtain ⟨⟨⟨L1, isA1, bk1⟩, sc1, ia1, qa1, rf1, ba1⟩, g1⟩ := u
  obtain ⟨hs1, ⟨N1, hC1⟩⟩ := hu
  have hs1 : same [] sc sc1 := hs1
  have hC1 : CI N1 L1 isA1 bk1 sc1 qa1 rf1 := hC1
  have hP : va_P (dC, dI) cls_ (LWd cd kI kQ kJ kZ ou g0 ad L1 isA1 bk1 sc1 ia1 qa1 rf1 ba1 g1 sm im) H := hP
  have hD : va_D A (LWd cd kI kQ kJ kZ ou g0 ad L1 isA1 bk1 sc1 ia1 qa1 rf1 ba1 g1 sm im) := hD
  refine W.eq (g2 := F0 m 252 ls [.int k1]) rfl ?_
  refine W.cs (cells' := cells + 1) (slots' := slots + 6) rfl rfl ?_
  refine lv_istore hx hb d_LW_law_252 hl (by decide) rfl (fun ls hl => ?_)
  have hl : lv_has ls 8 [(5, .int k1), (4, .int (nI i)), (3, .ref ou), (2, .ref g0), (1, .ref (cd 0)), (0, .ref b)] := hl
  refine lv_aload_n hx hb d_LW_law_254 rfl (lv_at hl 3 rfl) ?_
  refine lv_aload_n hx hb d_LW_law_255 rfl (lv_at hl 5 rfl) ?_
  refine lv_iload hx hb d_LW_law_256 (lv_at hl 1 rfl) ?_
  refine lv_iconst (v := 1) hx hb d_LW_law_258 (by decide) ?_
  refine lv_iadd hx hb d_LW_law_259 ?_
  refine lv_topi (fun v2 ev2 => ?_)
  obtain rfl : v2 = nI (i + 1) := ev2.trans (by rw [show (1 : Int32) = nI 1 from rfl, nI_add])
  refine va_sld hx hb hX hbl hbA hS (vp_in_nI (show i + 1 < Ln by omega) (by omega)) d_LW_law_260 ?_
  refine W.eq (g2 := F0 m 261 ls [.int (xs (i + 1)), .ref g0]) (by rw [nI_clamp (show i + 1 < 2 ^ 31 by omega)]) ?_
  refine t_callF (E := oW ou kJ g1 ++ CW cd kI kQ L1 isA1 bk1 sc1 ia1 qa1 rf1 ba1) (u0 := (sm, im)) (w0 := MOW g0 ad kI kZ sm im) rfl (va_runV (C := R_MO) (As := [.int (xs (i + 1))]) (rest := []) ⟨hx, hb, hml, hown, ht⟩ (t_MO_state l dC dI g0 ad kI kZ sm im H.size s.heap.size ((T + 1000)) NM hI (xs (i + 1))) (cwV 1 ht (gV tb_744 tb_745 tb_746 tb_5 tb_747) rfl rfl rfl (by decide +kernel) ⟨Nat.le_of_ble_eq_true rfl, Nat.le_of_ble_eq_true rfl⟩) ⟨frP_blind, va_recv (q := (R_MO, F_MO, 30)) hK hP rfl (show (LWd cd kI kQ kJ kZ ou g0 ad L1 isA1 bk1 sc1 ia1 qa1 rf1 ba1 g1 sm im : va_W)[0]? = some _ from rfl), fr_pre (ap_P (wc_P hP)) hK4 (ap_D (wc_D hD)) hAB hBs hS hV⟩ rfl rfl hl.1 rfl (lv_room (Nat.le_of_ble_eq_true rfl)) d_LW_law_261 ⟨show cells + 1 + 0 ≤ 601024 by omega, show slots + 6 + 0 ≤ 7293033 by omega⟩) (wc_P hP) (wc_D hD) hS hA (fun b1 u H locs hu hP hD hS => ?_)
  obtain ⟨sm1, im1⟩ := u
  obtain ⟨hm1, -, hI1⟩ := hu
  have hm1 : same [0] sm sm1 := hm1
  obtain ⟨NM1, eNM1⟩ : ∃ q9_, q9_ = NM := ⟨_, rfl⟩
  rw [← eNM1] at hI1
  have hI1 : MI (T + 1000) NM1 sm1 im1 := hI1
  have hP := wc_P hP
  have hD := wc_D hD
  have hP : va_P (dC, dI) cls_ (LWd cd kI kQ kJ kZ ou g0 ad L1 isA1 bk1 sc1 ia1 qa1 rf1 ba1 g1 sm1 im1) H := hP
  have hD : va_D A (LWd cd kI kQ kJ kZ ou g0 ad L1 isA1 bk1 sc1 ia1 qa1 rf1 ba1 g1 sm1 im1) := hD
  refine W.eq (g2 := F0 m 264 ls [.int b1]) rfl ?_
  refine W.cs (cells' := cells + 1) (slots' := slots + 6) rfl rfl ?_
  refine lv_istore hx hb d_LW_law_264 hl (by decide) rfl (fun ls hl => ?_)
  have hl : lv_has ls 8 [(6, .int b1), (5, .int k1), (4, .int (nI i)), (3, .ref ou), (2, .ref g0), (1, .ref (cd 0)), (0, .ref b)] := hl
  refine lv_goto (tgt := 820) hx hb d_LW_law_266 (by decide) ?_
  have hl := lv_sub hl [2, 3, 4, 5, 6] (l' := [(4, .int (nI i)), (3, .ref ou), (2, .ref g0), (1, .ref (cd 0)), (0, .ref b)]) rfl
  have hq1 : sc1 1 = sm1 1 := (hs1 1 (by decide)).trans (hR1.trans (hm1 1 (by decide)).symm)
  have hq2 : sc1 2 = sm1 2 := (hs1 2 (by decide)).trans (hR2.trans (hm1 2 (by decide)).symm)
  refine W.widen (k := cells + 3) (n := slots + 29) (by omega) (by omega) ?_
  exact kk L1 isA1 bk1 sc1 ia1 qa1 rf1 ba1 g1 sm1 im1 H locs ls ⟨⟨_, hC1⟩, ⟨_, hI1⟩, hq1, hq2⟩ hP hD hS hl
set_option maxHeartbeats 8000000 in
set_option maxRecDepth 100000 in
theorem cs_3 {p : Program} {l : Launch} {e : Env} {s : State} {m : MethodId} {below : List Frame} {meth : Method} {c : Code} {A : Nat → Prop} {b : Nat} {xs : Nat → Int32} (dC : Nat → ClassId) (dI : Nat → Nat → Nat) (cd : Nat → Nat) (kI kQ kJ kZ : ClassId) (ou g0 : Nat) (ad : Nat → Nat) (i Ln : Nat) (hi : i + 6 ≤ Ln) (hLn : Ln ≤ 3072) (hX : va_X b Ln xs s s.heap) (cells slots : Nat) (hcl : cells + 3 ≤ 601024) (hsl : slots + 29 ≤ 7293033) (T : Int) (hT : T + 1000 ≤ 1000000) (hl9 : l.stackTraces = false) (hx : p.tables.exec = Jvm.exec) (hb : c.code = code) (hr : meth.sig.returnType = ret) (hlocks : meth.locks = false) (hbl : b < s.heap.size) (hbA : ¬ A b) (hAB : ∀ q, A q → s.heap.size ≤ q) (hml : c.maxLocals = 8) (hown : s.vm.findClass R_LW = some m.cls) (ht : ∀ w ∈ tb_, w.before #[Value.ref b] s = true) (hA : ∀ q : Nat, s.heap.size ≤ q → A q) (hBs : s.heap.size ≤ s.heap.size) (hV : tw_V s.heap.size s s.heap) (hK : va_K (dC, dI) cls_ (LT kI kQ kJ kZ) s)
    (kk : ∀ (L : List Nat) (isA : Nat → Bool) (bk : Nat → Nat) (sc : Nat → Int32) (ia : Nat → Nat → Int32) (qa : Nat → Nat → Option Nat) (rf ba : Nat → Nat → Int32) (g : Nat → Int64) (sm : Nat → Int32) (im : Nat → Nat → Int32) (H : Heap) (locs : List Loc) (ls : Array Slot), LR (T + 1000) L isA bk sc qa rf sm im → va_P (dC, dI) cls_ (LWd cd kI kQ kJ kZ ou g0 ad L isA bk sc ia qa rf ba g sm im) H → va_D A (LWd cd kI kQ kJ kZ ou g0 ad L isA bk sc ia qa rf ba g sm im) → va_S A s.heap H locs → lv_has ls 8 [(4, .int (nI i)), (3, .ref ou), (2, .ref g0), (1, .ref (cd 0)), (0, .ref b)] → W p l e room_1 s m #[Value.ref b] below meth c H locs (cells + 3) (slots + 29) (lw_Z below #[Value.ref b] s) (F0 m 820 ls []))
    (L : List Nat) (isA : Nat → Bool) (bk : Nat → Nat) (sc : Nat → Int32) (ia : Nat → Nat → Int32) (qa : Nat → Nat → Option Nat) (rf ba : Nat → Nat → Int32) (g : Nat → Int64) (sm : Nat → Int32) (im : Nat → Nat → Int32) (H : Heap) (locs : List Loc) (ls : Array Slot) (hR : LR T L isA bk sc qa rf sm im) (hP : va_P (dC, dI) cls_ (LWd cd kI kQ kJ kZ ou g0 ad L isA bk sc ia qa rf ba g sm im) H) (hD : va_D A (LWd cd kI kQ kJ kZ ou g0 ad L isA bk sc ia qa rf ba g sm im)) (hS : va_S A s.heap H locs) (hl : lv_has ls 8 [(4, .int (nI i)), (3, .ref ou), (2, .ref g0), (1, .ref (cd 0)), (0, .ref b)]) : W p l e room_1 s m #[Value.ref b] below meth c H locs cells slots (lw_Z below #[Value.ref b] s) (F0 m 269 ls []) := by
  obtain ⟨⟨N, hC⟩, ⟨NM, hM0⟩, hR1, hR2⟩ := hR
  have hm9 := hM0.2.1
  have hI := MI_wk hM0 (show T ≤ T + 1000 by omega) hT
  have hK3 : va_K (dC, dI) cls_ (CTJ kI kQ kJ) s := hK.sub (tys' := CTJ kI kQ kJ) [0, 1, 2] rfl
  have hK2 : va_K (dC, dI) cls_ (CT kI kQ) s := hK.sub (tys' := CT kI kQ) [0, 1] rfl
  have hK4 : va_K (dC, dI) cls_ (MOT kI kZ) s := hK.sub (tys' := MOT kI kZ) [0, 3] rfl
  refine lv_aload_n hx hb d_LW_law_269 rfl (lv_at hl 3 rfl) ?_
  refine lv_aload_n hx hb d_LW_law_270 rfl (lv_at hl 4 rfl) ?_
  refine lv_iload hx hb d_LW_law_271 (lv_at hl 0 rfl) ?_
  refine lv_iconst (v := 1) hx hb d_LW_law_273 (by decide) ?_
  refine lv_iadd hx hb d_LW_law_274 ?_
  refine lv_topi (fun v1 ev1 => ?_)
  obtain rfl : v1 = nI (i + 1) := ev1.trans (by rw [show (1 : Int32) = nI 1 from rfl, nI_add])
  refine va_sld hx hb hX hbl hbA hS (vp_in_nI (show i + 1 < Ln by omega) (by omega)) d_LW_law_275 ?_
  refine W.eq (g2 := F0 m 276 ls [.int (xs (i + 1)), .ref (cd 0)]) (by rw [nI_clamp (show i + 1 < 2 ^ 31 by omega)]) ?_
  refine lv_aload_n hx hb d_LW_law_276 rfl (lv_at hl 1 rfl) ?_
  refine t_callF (E := MOW g0 ad kI kZ sm im) (u0 := (((L, isA, bk), (sc, ia, qa, rf, ba)), g)) (w0 := oW ou kJ g ++ CW cd kI kQ L isA bk sc ia qa rf ba) rfl (tw_runSW (As := [.ref (cd 0), .int (xs (i + 1)), .ref ou]) (rest := []) ⟨hx, hb, hml, hown, ht⟩ (w_LW_planFrom_c l dC dI cd kI kQ L isA bk sc ia qa rf ba kJ ou g H.size s.heap.size hl9 N hC (xs (i + 1))) rfl rfl ⟨Nat.le_of_ble_eq_true rfl, Nat.le_of_ble_eq_true rfl⟩ (pay_in ht (gW tb_490)) (show _ ∈ w_LW_planFrom from List.mem_cons_self) (ht _ tb_488) (ht _ tb_489) (ht _ tb_0) (n := 3) (by decide +kernel) ⟨frP_blind, fr_pre (ap_P hP) hK3 (ap_D hD) hAB hBs hS hV⟩ rfl rfl hl.1 rfl (lv_room (Nat.le_of_ble_eq_true rfl)) d_LW_law_277 ⟨show cells + 1 ≤ 601024 by omega, show slots + 6 ≤ 7293033 by omega⟩) hP hD hS hA (fun k1 u H locs hu hP hD hS => ?_)
  obtain ⟨⟨⟨L1, isA1, bk1⟩, sc1, ia1, qa1, rf1, ba1⟩, g1⟩ := u
  obtain ⟨hs1, ⟨N1, hC1⟩⟩ := hu
  have hs1 : same [3] sc sc1 := hs1
  have hC1 : CI N1 L1 isA1 bk1 sc1 qa1 rf1 := hC1
  have hP : va_P (dC, dI) cls_ (LWd cd kI kQ kJ kZ ou g0 ad L1 isA1 bk1 sc1 ia1 qa1 rf1 ba1 g1 sm im) H := hP
  have hD : va_D A (LWd cd kI kQ kJ kZ ou g0 ad L1 isA1 bk1 sc1 ia1 qa1 rf1 ba1 g1 sm im) := hD
  refine W.eq (g2 := F0 m 280 ls [.int k1]) rfl ?_
  refine W.cs (cells' := cells + 1) (slots' := slots + 6) rfl rfl ?_
  refine lv_istore hx hb d_LW_law_280 hl (by decide) rfl (fun ls hl => ?_)
  have hl : lv_has ls 8 [(5, .int k1), (4, .int (nI i)), (3, .ref ou), (2, .ref g0), (1, .ref (cd 0)), (0, .ref b)] := hl
  refine lv_aload_n hx hb d_LW_law_282 rfl (lv_at hl 3 rfl) ?_
  refine lv_aload_n hx hb d_LW_law_283 rfl (lv_at hl 5 rfl) ?_
  refine lv_iload hx hb d_LW_law_284 (lv_at hl 1 rfl) ?_
  refine lv_iconst (v := 1) hx hb d_LW_law_286 (by decide) ?_
  refine lv_iadd hx hb d_LW_law_287 ?_
  refine lv_topi (fun v2 ev2 => ?_)
  obtain rfl : v2 = nI (i + 1) := ev2.trans (by rw [show (1 : Int32) = nI 1 from rfl, nI_add])
  refine va_sld hx hb hX hbl hbA hS (vp_in_nI (show i + 1 < Ln by omega) (by omega)) d_LW_law_288 ?_
  refine W.eq (g2 := F0 m 289 ls [.int (xs (i + 1)), .ref g0]) (by rw [nI_clamp (show i + 1 < 2 ^ 31 by omega)]) ?_
  refine t_callF (E := oW ou kJ g1 ++ CW cd kI kQ L1 isA1 bk1 sc1 ia1 qa1 rf1 ba1) (u0 := (sm, im)) (w0 := MOW g0 ad kI kZ sm im) rfl (va_runV (C := R_MO) (As := [.int (xs (i + 1))]) (rest := []) ⟨hx, hb, hml, hown, ht⟩ (t_MO_planFrom l dC dI g0 ad kI kZ sm im H.size s.heap.size ((T + 1000)) NM hI (xs (i + 1))) (cwV 1 ht (gV tb_748 tb_749 tb_750 tb_5 tb_751) rfl rfl rfl (by decide +kernel) ⟨Nat.le_of_ble_eq_true rfl, Nat.le_of_ble_eq_true rfl⟩) ⟨frP_blind, va_recv (q := (R_MO, F_MO, 30)) hK hP rfl (show (LWd cd kI kQ kJ kZ ou g0 ad L1 isA1 bk1 sc1 ia1 qa1 rf1 ba1 g1 sm im : va_W)[0]? = some _ from rfl), fr_pre (ap_P (wc_P hP)) hK4 (ap_D (wc_D hD)) hAB hBs hS hV⟩ rfl rfl hl.1 rfl (lv_room (Nat.le_of_ble_eq_true rfl)) d_LW_law_289 ⟨show cells + 1 + 0 ≤ 601024 by omega, show slots + 6 + 0 ≤ 7293033 by omega⟩) (wc_P hP) (wc_D hD) hS hA (fun b1 u H locs hu hP hD hS => ?_)
  obtain ⟨sm1, im1⟩ := u
  obtain ⟨hm1, -, hI1⟩ := hu
  have hm1 : same [0, 21] sm sm1 := hm1
  obtain ⟨NM1, eNM1⟩ : ∃ q9_, q9_ = NM := ⟨_, rfl⟩
  rw [← eNM1] at hI1
  have hI1 : MI (T + 1000) NM1 sm1 im1 := hI1
  have hP := wc_P hP
  have hD := wc_D hD
  have hP : va_P (dC, dI) cls_ (LWd cd kI kQ kJ kZ ou g0 ad L1 isA1 bk1 sc1 ia1 qa1 rf1 ba1 g1 sm1 im1) H := hP
  have hD : va_D A (LWd cd kI kQ kJ kZ ou g0 ad L1 isA1 bk1 sc1 ia1 qa1 rf1 ba1 g1 sm1 im1) := hD
  refine W.eq (g2 := F0 m 292 ls [.int b1]) rfl ?_
  refine W.cs (cells' := cells + 1) (slots' := slots + 6) rfl rfl ?_
  refine lv_istore hx hb d_LW_law_292 hl (by decide) rfl (fun ls hl => ?_)
  have hl : lv_has ls 8 [(6, .int b1), (5, .int k1), (4, .int (nI i)), (3, .ref ou), (2, .ref g0), (1, .ref (cd 0)), (0, .ref b)] := hl
  refine lv_goto (tgt := 820) hx hb d_LW_law_294 (by decide) ?_
  have hl := lv_sub hl [2, 3, 4, 5, 6] (l' := [(4, .int (nI i)), (3, .ref ou), (2, .ref g0), (1, .ref (cd 0)), (0, .ref b)]) rfl
  have hq1 : sc1 1 = sm1 1 := (hs1 1 (by decide)).trans (hR1.trans (hm1 1 (by decide)).symm)
  have hq2 : sc1 2 = sm1 2 := (hs1 2 (by decide)).trans (hR2.trans (hm1 2 (by decide)).symm)
  refine W.widen (k := cells + 3) (n := slots + 29) (by omega) (by omega) ?_
  exact kk L1 isA1 bk1 sc1 ia1 qa1 rf1 ba1 g1 sm1 im1 H locs ls ⟨⟨_, hC1⟩, ⟨_, hI1⟩, hq1, hq2⟩ hP hD hS hl
set_option maxHeartbeats 8000000 in
set_option maxRecDepth 100000 in
theorem cs_4 {p : Program} {l : Launch} {e : Env} {s : State} {m : MethodId} {below : List Frame} {meth : Method} {c : Code} {A : Nat → Prop} {b : Nat} {xs : Nat → Int32} (dC : Nat → ClassId) (dI : Nat → Nat → Nat) (cd : Nat → Nat) (kI kQ kJ kZ : ClassId) (ou g0 : Nat) (ad : Nat → Nat) (i Ln : Nat) (hi : i + 6 ≤ Ln) (hLn : Ln ≤ 3072) (hX : va_X b Ln xs s s.heap) (cells slots : Nat) (hcl : cells + 3 ≤ 601024) (hsl : slots + 29 ≤ 7293033) (T : Int) (hT : T + 1000 ≤ 1000000) (hl9 : l.stackTraces = false) (hx : p.tables.exec = Jvm.exec) (hb : c.code = code) (hr : meth.sig.returnType = ret) (hlocks : meth.locks = false) (hbl : b < s.heap.size) (hbA : ¬ A b) (hAB : ∀ q, A q → s.heap.size ≤ q) (hml : c.maxLocals = 8) (hown : s.vm.findClass R_LW = some m.cls) (ht : ∀ w ∈ tb_, w.before #[Value.ref b] s = true) (hA : ∀ q : Nat, s.heap.size ≤ q → A q) (hBs : s.heap.size ≤ s.heap.size) (hV : tw_V s.heap.size s s.heap) (hK : va_K (dC, dI) cls_ (LT kI kQ kJ kZ) s)
    (kk : ∀ (L : List Nat) (isA : Nat → Bool) (bk : Nat → Nat) (sc : Nat → Int32) (ia : Nat → Nat → Int32) (qa : Nat → Nat → Option Nat) (rf ba : Nat → Nat → Int32) (g : Nat → Int64) (sm : Nat → Int32) (im : Nat → Nat → Int32) (H : Heap) (locs : List Loc) (ls : Array Slot), LR (T + 1000) L isA bk sc qa rf sm im → va_P (dC, dI) cls_ (LWd cd kI kQ kJ kZ ou g0 ad L isA bk sc ia qa rf ba g sm im) H → va_D A (LWd cd kI kQ kJ kZ ou g0 ad L isA bk sc ia qa rf ba g sm im) → va_S A s.heap H locs → lv_has ls 8 [(4, .int (nI i)), (3, .ref ou), (2, .ref g0), (1, .ref (cd 0)), (0, .ref b)] → W p l e room_1 s m #[Value.ref b] below meth c H locs (cells + 3) (slots + 29) (lw_Z below #[Value.ref b] s) (F0 m 820 ls []))
    (L : List Nat) (isA : Nat → Bool) (bk : Nat → Nat) (sc : Nat → Int32) (ia : Nat → Nat → Int32) (qa : Nat → Nat → Option Nat) (rf ba : Nat → Nat → Int32) (g : Nat → Int64) (sm : Nat → Int32) (im : Nat → Nat → Int32) (H : Heap) (locs : List Loc) (ls : Array Slot) (hR : LR T L isA bk sc qa rf sm im) (hP : va_P (dC, dI) cls_ (LWd cd kI kQ kJ kZ ou g0 ad L isA bk sc ia qa rf ba g sm im) H) (hD : va_D A (LWd cd kI kQ kJ kZ ou g0 ad L isA bk sc ia qa rf ba g sm im)) (hS : va_S A s.heap H locs) (hl : lv_has ls 8 [(4, .int (nI i)), (3, .ref ou), (2, .ref g0), (1, .ref (cd 0)), (0, .ref b)]) : W p l e room_1 s m #[Value.ref b] below meth c H locs cells slots (lw_Z below #[Value.ref b] s) (F0 m 297 ls []) := by
  obtain ⟨⟨N, hC⟩, ⟨NM, hM0⟩, hR1, hR2⟩ := hR
  have hm9 := hM0.2.1
  have hI := MI_wk hM0 (show T ≤ T + 1000 by omega) hT
  have hK3 : va_K (dC, dI) cls_ (CTJ kI kQ kJ) s := hK.sub (tys' := CTJ kI kQ kJ) [0, 1, 2] rfl
  have hK2 : va_K (dC, dI) cls_ (CT kI kQ) s := hK.sub (tys' := CT kI kQ) [0, 1] rfl
  have hK4 : va_K (dC, dI) cls_ (MOT kI kZ) s := hK.sub (tys' := MOT kI kZ) [0, 3] rfl
  refine lv_aload_n hx hb d_LW_law_297 rfl (lv_at hl 3 rfl) ?_
  refine lv_aload_n hx hb d_LW_law_298 rfl (lv_at hl 4 rfl) ?_
  refine lv_iload hx hb d_LW_law_299 (lv_at hl 0 rfl) ?_
  refine lv_iconst (v := 1) hx hb d_LW_law_301 (by decide) ?_
  refine lv_iadd hx hb d_LW_law_302 ?_
  refine lv_topi (fun v1 ev1 => ?_)
  obtain rfl : v1 = nI (i + 1) := ev1.trans (by rw [show (1 : Int32) = nI 1 from rfl, nI_add])
  refine va_sld hx hb hX hbl hbA hS (vp_in_nI (show i + 1 < Ln by omega) (by omega)) d_LW_law_303 ?_
  refine W.eq (g2 := F0 m 304 ls [.int (xs (i + 1)), .ref (cd 0)]) (by rw [nI_clamp (show i + 1 < 2 ^ 31 by omega)]) ?_
  refine lv_aload_n hx hb d_LW_law_304 rfl (lv_at hl 1 rfl) ?_
  refine t_callF (E := MOW g0 ad kI kZ sm im) (u0 := (((L, isA, bk), (sc, ia, qa, rf, ba)), g)) (w0 := oW ou kJ g ++ CW cd kI kQ L isA bk sc ia qa rf ba) rfl (tw_runSW (As := [.ref (cd 0), .int (xs (i + 1)), .ref ou]) (rest := []) ⟨hx, hb, hml, hown, ht⟩ (w_LW_planTo_c l dC dI cd kI kQ L isA bk sc ia qa rf ba kJ ou g H.size s.heap.size hl9 N hC (xs (i + 1))) rfl rfl ⟨Nat.le_of_ble_eq_true rfl, Nat.le_of_ble_eq_true rfl⟩ (pay_in ht (gW tb_498)) (show _ ∈ w_LW_planTo from List.mem_cons_self) (ht _ tb_496) (ht _ tb_497) (ht _ tb_0) (n := 3) (by decide +kernel) ⟨frP_blind, fr_pre (ap_P hP) hK3 (ap_D hD) hAB hBs hS hV⟩ rfl rfl hl.1 rfl (lv_room (Nat.le_of_ble_eq_true rfl)) d_LW_law_305 ⟨show cells + 1 ≤ 601024 by omega, show slots + 6 ≤ 7293033 by omega⟩) hP hD hS hA (fun k1 u H locs hu hP hD hS => ?_)
  obtain ⟨⟨⟨L1, isA1, bk1⟩, sc1, ia1, qa1, rf1, ba1⟩, g1⟩ := u
  obtain ⟨hs1, ⟨N1, hC1⟩⟩ := hu
  have hs1 : same [3] sc sc1 := hs1
  have hC1 : CI N1 L1 isA1 bk1 sc1 qa1 rf1 := hC1
  have hP : va_P (dC, dI) cls_ (LWd cd kI kQ kJ kZ ou g0 ad L1 isA1 bk1 sc1 ia1 qa1 rf1 ba1 g1 sm im) H := hP
  have hD : va_D A (LWd cd kI kQ kJ kZ ou g0 ad L1 isA1 bk1 sc1 ia1 qa1 rf1 ba1 g1 sm im) := hD
  refine W.eq (g2 := F0 m 308 ls [.int k1]) rfl ?_
  refine W.cs (cells' := cells + 1) (slots' := slots + 6) rfl rfl ?_
  refine lv_istore hx hb d_LW_law_308 hl (by decide) rfl (fun ls hl => ?_)
  have hl : lv_has ls 8 [(5, .int k1), (4, .int (nI i)), (3, .ref ou), (2, .ref g0), (1, .ref (cd 0)), (0, .ref b)] := hl
  refine lv_aload_n hx hb d_LW_law_310 rfl (lv_at hl 3 rfl) ?_
  refine lv_aload_n hx hb d_LW_law_311 rfl (lv_at hl 5 rfl) ?_
  refine lv_iload hx hb d_LW_law_312 (lv_at hl 1 rfl) ?_
  refine lv_iconst (v := 1) hx hb d_LW_law_314 (by decide) ?_
  refine lv_iadd hx hb d_LW_law_315 ?_
  refine lv_topi (fun v2 ev2 => ?_)
  obtain rfl : v2 = nI (i + 1) := ev2.trans (by rw [show (1 : Int32) = nI 1 from rfl, nI_add])
  refine va_sld hx hb hX hbl hbA hS (vp_in_nI (show i + 1 < Ln by omega) (by omega)) d_LW_law_316 ?_
  refine W.eq (g2 := F0 m 317 ls [.int (xs (i + 1)), .ref g0]) (by rw [nI_clamp (show i + 1 < 2 ^ 31 by omega)]) ?_
  refine t_callF (E := oW ou kJ g1 ++ CW cd kI kQ L1 isA1 bk1 sc1 ia1 qa1 rf1 ba1) (u0 := (sm, im)) (w0 := MOW g0 ad kI kZ sm im) rfl (va_runV (C := R_MO) (As := [.int (xs (i + 1))]) (rest := []) ⟨hx, hb, hml, hown, ht⟩ (t_MO_planTo l dC dI g0 ad kI kZ sm im H.size s.heap.size ((T + 1000)) NM hI (xs (i + 1))) (cwV 1 ht (gV tb_792 tb_793 tb_794 tb_5 tb_795) rfl rfl rfl (by decide +kernel) ⟨Nat.le_of_ble_eq_true rfl, Nat.le_of_ble_eq_true rfl⟩) ⟨frP_blind, va_recv (q := (R_MO, F_MO, 30)) hK hP rfl (show (LWd cd kI kQ kJ kZ ou g0 ad L1 isA1 bk1 sc1 ia1 qa1 rf1 ba1 g1 sm im : va_W)[0]? = some _ from rfl), fr_pre (ap_P (wc_P hP)) hK4 (ap_D (wc_D hD)) hAB hBs hS hV⟩ rfl rfl hl.1 rfl (lv_room (Nat.le_of_ble_eq_true rfl)) d_LW_law_317 ⟨show cells + 1 + 0 ≤ 601024 by omega, show slots + 6 + 0 ≤ 7293033 by omega⟩) (wc_P hP) (wc_D hD) hS hA (fun b1 u H locs hu hP hD hS => ?_)
  obtain ⟨sm1, im1⟩ := u
  obtain ⟨hm1, -, hI1⟩ := hu
  have hm1 : same [0, 21] sm sm1 := hm1
  obtain ⟨NM1, eNM1⟩ : ∃ q9_, q9_ = NM := ⟨_, rfl⟩
  rw [← eNM1] at hI1
  have hI1 : MI (T + 1000) NM1 sm1 im1 := hI1
  have hP := wc_P hP
  have hD := wc_D hD
  have hP : va_P (dC, dI) cls_ (LWd cd kI kQ kJ kZ ou g0 ad L1 isA1 bk1 sc1 ia1 qa1 rf1 ba1 g1 sm1 im1) H := hP
  have hD : va_D A (LWd cd kI kQ kJ kZ ou g0 ad L1 isA1 bk1 sc1 ia1 qa1 rf1 ba1 g1 sm1 im1) := hD
  refine W.eq (g2 := F0 m 320 ls [.int b1]) rfl ?_
  refine W.cs (cells' := cells + 1) (slots' := slots + 6) rfl rfl ?_
  refine lv_istore hx hb d_LW_law_320 hl (by decide) rfl (fun ls hl => ?_)
  have hl : lv_has ls 8 [(6, .int b1), (5, .int k1), (4, .int (nI i)), (3, .ref ou), (2, .ref g0), (1, .ref (cd 0)), (0, .ref b)] := hl
  refine lv_goto (tgt := 820) hx hb d_LW_law_322 (by decide) ?_
  have hl := lv_sub hl [2, 3, 4, 5, 6] (l' := [(4, .int (nI i)), (3, .ref ou), (2, .ref g0), (1, .ref (cd 0)), (0, .ref b)]) rfl
  have hq1 : sc1 1 = sm1 1 := (hs1 1 (by decide)).trans (hR1.trans (hm1 1 (by decide)).symm)
  have hq2 : sc1 2 = sm1 2 := (hs1 2 (by decide)).trans (hR2.trans (hm1 2 (by decide)).symm)
  refine W.widen (k := cells + 3) (n := slots + 29) (by omega) (by omega) ?_
  exact kk L1 isA1 bk1 sc1 ia1 qa1 rf1 ba1 g1 sm1 im1 H locs ls ⟨⟨_, hC1⟩, ⟨_, hI1⟩, hq1, hq2⟩ hP hD hS hl
set_option maxHeartbeats 8000000 in
set_option maxRecDepth 100000 in
theorem cs_5 {p : Program} {l : Launch} {e : Env} {s : State} {m : MethodId} {below : List Frame} {meth : Method} {c : Code} {A : Nat → Prop} {b : Nat} {xs : Nat → Int32} (dC : Nat → ClassId) (dI : Nat → Nat → Nat) (cd : Nat → Nat) (kI kQ kJ kZ : ClassId) (ou g0 : Nat) (ad : Nat → Nat) (i Ln : Nat) (hi : i + 6 ≤ Ln) (hLn : Ln ≤ 3072) (hX : va_X b Ln xs s s.heap) (cells slots : Nat) (hcl : cells + 3 ≤ 601024) (hsl : slots + 29 ≤ 7293033) (T : Int) (hT : T + 1000 ≤ 1000000) (hl9 : l.stackTraces = false) (hx : p.tables.exec = Jvm.exec) (hb : c.code = code) (hr : meth.sig.returnType = ret) (hlocks : meth.locks = false) (hbl : b < s.heap.size) (hbA : ¬ A b) (hAB : ∀ q, A q → s.heap.size ≤ q) (hml : c.maxLocals = 8) (hown : s.vm.findClass R_LW = some m.cls) (ht : ∀ w ∈ tb_, w.before #[Value.ref b] s = true) (hA : ∀ q : Nat, s.heap.size ≤ q → A q) (hBs : s.heap.size ≤ s.heap.size) (hV : tw_V s.heap.size s s.heap) (hK : va_K (dC, dI) cls_ (LT kI kQ kJ kZ) s)
    (kk : ∀ (L : List Nat) (isA : Nat → Bool) (bk : Nat → Nat) (sc : Nat → Int32) (ia : Nat → Nat → Int32) (qa : Nat → Nat → Option Nat) (rf ba : Nat → Nat → Int32) (g : Nat → Int64) (sm : Nat → Int32) (im : Nat → Nat → Int32) (H : Heap) (locs : List Loc) (ls : Array Slot), LR (T + 1000) L isA bk sc qa rf sm im → va_P (dC, dI) cls_ (LWd cd kI kQ kJ kZ ou g0 ad L isA bk sc ia qa rf ba g sm im) H → va_D A (LWd cd kI kQ kJ kZ ou g0 ad L isA bk sc ia qa rf ba g sm im) → va_S A s.heap H locs → lv_has ls 8 [(4, .int (nI i)), (3, .ref ou), (2, .ref g0), (1, .ref (cd 0)), (0, .ref b)] → W p l e room_1 s m #[Value.ref b] below meth c H locs (cells + 3) (slots + 29) (lw_Z below #[Value.ref b] s) (F0 m 820 ls []))
    (L : List Nat) (isA : Nat → Bool) (bk : Nat → Nat) (sc : Nat → Int32) (ia : Nat → Nat → Int32) (qa : Nat → Nat → Option Nat) (rf ba : Nat → Nat → Int32) (g : Nat → Int64) (sm : Nat → Int32) (im : Nat → Nat → Int32) (H : Heap) (locs : List Loc) (ls : Array Slot) (hR : LR T L isA bk sc qa rf sm im) (hP : va_P (dC, dI) cls_ (LWd cd kI kQ kJ kZ ou g0 ad L isA bk sc ia qa rf ba g sm im) H) (hD : va_D A (LWd cd kI kQ kJ kZ ou g0 ad L isA bk sc ia qa rf ba g sm im)) (hS : va_S A s.heap H locs) (hl : lv_has ls 8 [(4, .int (nI i)), (3, .ref ou), (2, .ref g0), (1, .ref (cd 0)), (0, .ref b)]) : W p l e room_1 s m #[Value.ref b] below meth c H locs cells slots (lw_Z below #[Value.ref b] s) (F0 m 325 ls []) := by
  obtain ⟨⟨N, hC⟩, ⟨NM, hM0⟩, hR1, hR2⟩ := hR
  have hm9 := hM0.2.1
  have hI := MI_wk hM0 (show T ≤ T + 1000 by omega) hT
  have hK3 : va_K (dC, dI) cls_ (CTJ kI kQ kJ) s := hK.sub (tys' := CTJ kI kQ kJ) [0, 1, 2] rfl
  have hK2 : va_K (dC, dI) cls_ (CT kI kQ) s := hK.sub (tys' := CT kI kQ) [0, 1] rfl
  have hK4 : va_K (dC, dI) cls_ (MOT kI kZ) s := hK.sub (tys' := MOT kI kZ) [0, 3] rfl
  refine lv_aload_n hx hb d_LW_law_325 rfl (lv_at hl 3 rfl) ?_
  refine lv_aload_n hx hb d_LW_law_326 rfl (lv_at hl 4 rfl) ?_
  refine lv_iload hx hb d_LW_law_327 (lv_at hl 0 rfl) ?_
  refine lv_iconst (v := 1) hx hb d_LW_law_329 (by decide) ?_
  refine lv_iadd hx hb d_LW_law_330 ?_
  refine lv_topi (fun v1 ev1 => ?_)
  obtain rfl : v1 = nI (i + 1) := ev1.trans (by rw [show (1 : Int32) = nI 1 from rfl, nI_add])
  refine va_sld hx hb hX hbl hbA hS (vp_in_nI (show i + 1 < Ln by omega) (by omega)) d_LW_law_331 ?_
  refine W.eq (g2 := F0 m 332 ls [.int (xs (i + 1)), .ref (cd 0)]) (by rw [nI_clamp (show i + 1 < 2 ^ 31 by omega)]) ?_
  refine lv_aload_n hx hb d_LW_law_332 rfl (lv_at hl 4 rfl) ?_
  refine lv_iload hx hb d_LW_law_333 (lv_at hl 0 rfl) ?_
  refine lv_iconst (v := 2) hx hb d_LW_law_335 (by decide) ?_
  refine lv_iadd hx hb d_LW_law_336 ?_
  refine lv_topi (fun v2 ev2 => ?_)
  obtain rfl : v2 = nI (i + 2) := ev2.trans (by rw [show (2 : Int32) = nI 2 from rfl, nI_add])
  refine va_sld hx hb hX hbl hbA hS (vp_in_nI (show i + 2 < Ln by omega) (by omega)) d_LW_law_337 ?_
  refine W.eq (g2 := F0 m 338 ls [.int (xs (i + 2)), .int (xs (i + 1)), .ref (cd 0)]) (by rw [nI_clamp (show i + 2 < 2 ^ 31 by omega)]) ?_
  refine t_callF (E := MOW g0 ad kI kZ sm im) (u0 := (((L, isA, bk), (sc, ia, qa, rf, ba)), g)) (w0 := oW ou kJ g ++ CW cd kI kQ L isA bk sc ia qa rf ba) rfl (tw_runSW (As := [.ref (cd 0), .int (xs (i + 1)), .int (xs (i + 2))]) (rest := []) ⟨hx, hb, hml, hown, ht⟩ (w_LW_air_c l dC dI cd kI kQ L isA bk sc ia qa rf ba kJ ou g H.size s.heap.size hl9 N hC (xs (i + 1)) (xs (i + 2))) rfl rfl ⟨Nat.le_of_ble_eq_true rfl, Nat.le_of_ble_eq_true rfl⟩ (pay_in ht (gW tb_505)) (show _ ∈ w_LW_air from List.mem_cons_self) (ht _ tb_503) (ht _ tb_504) (ht _ tb_0) (n := 3) (by decide +kernel) ⟨frP_blind, fr_pre (ap_P hP) hK3 (ap_D hD) hAB hBs hS hV⟩ rfl rfl hl.1 rfl (lv_room (Nat.le_of_ble_eq_true rfl)) d_LW_law_338 ⟨show cells + 1 ≤ 601024 by omega, show slots + 6 ≤ 7293033 by omega⟩) hP hD hS hA (fun k1 u H locs hu hP hD hS => ?_)
  obtain ⟨⟨⟨L1, isA1, bk1⟩, sc1, ia1, qa1, rf1, ba1⟩, g1⟩ := u
  obtain ⟨hs1, ⟨N1, hC1⟩, hw0⟩ := hu
  have hs1 : same [] sc sc1 := hs1
  have hC1 : CI N1 L1 isA1 bk1 sc1 qa1 rf1 := hC1
  have hw0 : ((0 ≤ (xs (i + 1)).toInt ∧ (xs (i + 1)).toInt ≤ 7) ∧ k1 = 0 ∨ ¬ (0 ≤ (xs (i + 1)).toInt ∧ (xs (i + 1)).toInt ≤ 7) ∧ k1 = 1) := hw0
  have hP : va_P (dC, dI) cls_ (LWd cd kI kQ kJ kZ ou g0 ad L1 isA1 bk1 sc1 ia1 qa1 rf1 ba1 g1 sm im) H := hP
  have hD : va_D A (LWd cd kI kQ kJ kZ ou g0 ad L1 isA1 bk1 sc1 ia1 qa1 rf1 ba1 g1 sm im) := hD
  refine W.eq (g2 := F0 m 341 ls [.int k1]) rfl ?_
  refine W.cs (cells' := cells + 1) (slots' := slots + 6) rfl rfl ?_
  refine lv_istore hx hb d_LW_law_341 hl (by decide) rfl (fun ls hl => ?_)
  have hl : lv_has ls 8 [(5, .int k1), (4, .int (nI i)), (3, .ref ou), (2, .ref g0), (1, .ref (cd 0)), (0, .ref b)] := hl
  refine lv_aload_n hx hb d_LW_law_343 rfl (lv_at hl 3 rfl) ?_
  refine lv_aload_n hx hb d_LW_law_344 rfl (lv_at hl 5 rfl) ?_
  refine lv_iload hx hb d_LW_law_345 (lv_at hl 1 rfl) ?_
  refine lv_iconst (v := 1) hx hb d_LW_law_347 (by decide) ?_
  refine lv_iadd hx hb d_LW_law_348 ?_
  refine lv_topi (fun v3 ev3 => ?_)
  obtain rfl : v3 = nI (i + 1) := ev3.trans (by rw [show (1 : Int32) = nI 1 from rfl, nI_add])
  refine va_sld hx hb hX hbl hbA hS (vp_in_nI (show i + 1 < Ln by omega) (by omega)) d_LW_law_349 ?_
  refine W.eq (g2 := F0 m 350 ls [.int (xs (i + 1)), .ref g0]) (by rw [nI_clamp (show i + 1 < 2 ^ 31 by omega)]) ?_
  refine lv_aload_n hx hb d_LW_law_350 rfl (lv_at hl 5 rfl) ?_
  refine lv_iload hx hb d_LW_law_351 (lv_at hl 1 rfl) ?_
  refine lv_iconst (v := 2) hx hb d_LW_law_353 (by decide) ?_
  refine lv_iadd hx hb d_LW_law_354 ?_
  refine lv_topi (fun v4 ev4 => ?_)
  obtain rfl : v4 = nI (i + 2) := ev4.trans (by rw [show (2 : Int32) = nI 2 from rfl, nI_add])
  refine va_sld hx hb hX hbl hbA hS (vp_in_nI (show i + 2 < Ln by omega) (by omega)) d_LW_law_355 ?_
  refine W.eq (g2 := F0 m 356 ls [.int (xs (i + 2)), .int (xs (i + 1)), .ref g0]) (by rw [nI_clamp (show i + 2 < 2 ^ 31 by omega)]) ?_
  refine t_callF (E := oW ou kJ g1 ++ CW cd kI kQ L1 isA1 bk1 sc1 ia1 qa1 rf1 ba1) (u0 := (sm, im)) (w0 := MOW g0 ad kI kZ sm im) rfl (va_runV (C := R_MO) (As := [.int (xs (i + 1)), .int (xs (i + 2))]) (rest := []) ⟨hx, hb, hml, hown, ht⟩ (t_MO_air l dC dI g0 ad kI kZ sm im H.size s.heap.size ((T + 1000)) NM hI (xs (i + 1)) (xs (i + 2))) (cwV 2 ht (gV tb_796 tb_797 tb_798 tb_5 tb_799) rfl rfl rfl (by decide +kernel) ⟨Nat.le_of_ble_eq_true rfl, Nat.le_of_ble_eq_true rfl⟩) ⟨frP_blind, va_recv (q := (R_MO, F_MO, 30)) hK hP rfl (show (LWd cd kI kQ kJ kZ ou g0 ad L1 isA1 bk1 sc1 ia1 qa1 rf1 ba1 g1 sm im : va_W)[0]? = some _ from rfl), fr_pre (ap_P (wc_P hP)) hK4 (ap_D (wc_D hD)) hAB hBs hS hV⟩ rfl rfl hl.1 rfl (lv_room (Nat.le_of_ble_eq_true rfl)) d_LW_law_356 ⟨show cells + 1 + 0 ≤ 601024 by omega, show slots + 6 + 0 ≤ 7293033 by omega⟩) (wc_P hP) (wc_D hD) hS hA (fun b1 u H locs hu hP hD hS => ?_)
  obtain ⟨sm1, im1⟩ := u
  obtain ⟨hm1, -, hI1, hv0⟩ := hu
  have hm1 : same [0] sm sm1 := hm1
  obtain ⟨NM1, eNM1⟩ : ∃ q9_, q9_ = NM := ⟨_, rfl⟩
  rw [← eNM1] at hI1
  have hI1 : MI (T + 1000) NM1 sm1 im1 := hI1
  have hv0 : ((0 ≤ (xs (i + 1)).toInt ∧ (xs (i + 1)).toInt ≤ 7) ∧ sm1 0 = 0 ∨ ¬ (0 ≤ (xs (i + 1)).toInt ∧ (xs (i + 1)).toInt ≤ 7) ∧ sm1 0 = 1) := hv0
  have hP := wc_P hP
  have hD := wc_D hD
  have hP : va_P (dC, dI) cls_ (LWd cd kI kQ kJ kZ ou g0 ad L1 isA1 bk1 sc1 ia1 qa1 rf1 ba1 g1 sm1 im1) H := hP
  have hD : va_D A (LWd cd kI kQ kJ kZ ou g0 ad L1 isA1 bk1 sc1 ia1 qa1 rf1 ba1 g1 sm1 im1) := hD
  refine W.eq (g2 := F0 m 359 ls []) rfl ?_
  refine W.cs (cells' := cells + 1) (slots' := slots + 6) rfl rfl ?_
  refine lv_goto (tgt := 820) hx hb d_LW_law_359 (by decide) ?_
  have hl := lv_sub hl [1, 2, 3, 4, 5] (l' := [(4, .int (nI i)), (3, .ref ou), (2, .ref g0), (1, .ref (cd 0)), (0, .ref b)]) rfl
  have hq1 : sc1 1 = sm1 1 := (hs1 1 (by decide)).trans (hR1.trans (hm1 1 (by decide)).symm)
  have hq2 : sc1 2 = sm1 2 := (hs1 2 (by decide)).trans (hR2.trans (hm1 2 (by decide)).symm)
  refine W.widen (k := cells + 3) (n := slots + 29) (by omega) (by omega) ?_
  exact kk L1 isA1 bk1 sc1 ia1 qa1 rf1 ba1 g1 sm1 im1 H locs ls ⟨⟨_, hC1⟩, ⟨_, hI1⟩, hq1, hq2⟩ hP hD hS hl
set_option maxHeartbeats 8000000 in
set_option maxRecDepth 100000 in
theorem cs_6 {p : Program} {l : Launch} {e : Env} {s : State} {m : MethodId} {below : List Frame} {meth : Method} {c : Code} {A : Nat → Prop} {b : Nat} {xs : Nat → Int32} (dC : Nat → ClassId) (dI : Nat → Nat → Nat) (cd : Nat → Nat) (kI kQ kJ kZ : ClassId) (ou g0 : Nat) (ad : Nat → Nat) (i Ln : Nat) (hi : i + 6 ≤ Ln) (hLn : Ln ≤ 3072) (hX : va_X b Ln xs s s.heap) (cells slots : Nat) (hcl : cells + 3 ≤ 601024) (hsl : slots + 29 ≤ 7293033) (T : Int) (hT : T + 1000 ≤ 1000000) (hl9 : l.stackTraces = false) (hx : p.tables.exec = Jvm.exec) (hb : c.code = code) (hr : meth.sig.returnType = ret) (hlocks : meth.locks = false) (hbl : b < s.heap.size) (hbA : ¬ A b) (hAB : ∀ q, A q → s.heap.size ≤ q) (hml : c.maxLocals = 8) (hown : s.vm.findClass R_LW = some m.cls) (ht : ∀ w ∈ tb_, w.before #[Value.ref b] s = true) (hA : ∀ q : Nat, s.heap.size ≤ q → A q) (hBs : s.heap.size ≤ s.heap.size) (hV : tw_V s.heap.size s s.heap) (hK : va_K (dC, dI) cls_ (LT kI kQ kJ kZ) s)
    (kk : ∀ (L : List Nat) (isA : Nat → Bool) (bk : Nat → Nat) (sc : Nat → Int32) (ia : Nat → Nat → Int32) (qa : Nat → Nat → Option Nat) (rf ba : Nat → Nat → Int32) (g : Nat → Int64) (sm : Nat → Int32) (im : Nat → Nat → Int32) (H : Heap) (locs : List Loc) (ls : Array Slot), LR (T + 1000) L isA bk sc qa rf sm im → va_P (dC, dI) cls_ (LWd cd kI kQ kJ kZ ou g0 ad L isA bk sc ia qa rf ba g sm im) H → va_D A (LWd cd kI kQ kJ kZ ou g0 ad L isA bk sc ia qa rf ba g sm im) → va_S A s.heap H locs → lv_has ls 8 [(4, .int (nI i)), (3, .ref ou), (2, .ref g0), (1, .ref (cd 0)), (0, .ref b)] → W p l e room_1 s m #[Value.ref b] below meth c H locs (cells + 3) (slots + 29) (lw_Z below #[Value.ref b] s) (F0 m 820 ls []))
    (L : List Nat) (isA : Nat → Bool) (bk : Nat → Nat) (sc : Nat → Int32) (ia : Nat → Nat → Int32) (qa : Nat → Nat → Option Nat) (rf ba : Nat → Nat → Int32) (g : Nat → Int64) (sm : Nat → Int32) (im : Nat → Nat → Int32) (H : Heap) (locs : List Loc) (ls : Array Slot) (hR : LR T L isA bk sc qa rf sm im) (hP : va_P (dC, dI) cls_ (LWd cd kI kQ kJ kZ ou g0 ad L isA bk sc ia qa rf ba g sm im) H) (hD : va_D A (LWd cd kI kQ kJ kZ ou g0 ad L isA bk sc ia qa rf ba g sm im)) (hS : va_S A s.heap H locs) (hl : lv_has ls 8 [(4, .int (nI i)), (3, .ref ou), (2, .ref g0), (1, .ref (cd 0)), (0, .ref b)]) : W p l e room_1 s m #[Value.ref b] below meth c H locs cells slots (lw_Z below #[Value.ref b] s) (F0 m 362 ls []) := by
  obtain ⟨⟨N, hC⟩, ⟨NM, hM0⟩, hR1, hR2⟩ := hR
  have hm9 := hM0.2.1
  have hI := MI_wk hM0 (show T ≤ T + 1000 by omega) hT
  have hK3 : va_K (dC, dI) cls_ (CTJ kI kQ kJ) s := hK.sub (tys' := CTJ kI kQ kJ) [0, 1, 2] rfl
  have hK2 : va_K (dC, dI) cls_ (CT kI kQ) s := hK.sub (tys' := CT kI kQ) [0, 1] rfl
  have hK4 : va_K (dC, dI) cls_ (MOT kI kZ) s := hK.sub (tys' := MOT kI kZ) [0, 3] rfl
  refine lv_aload_n hx hb d_LW_law_362 rfl (lv_at hl 3 rfl) ?_
  refine t_callF (E := MOW g0 ad kI kZ sm im ++ oW ou kJ g) (u0 := (sc, ia, qa, rf, ba)) (w0 := CW cd kI kQ L isA bk sc ia qa rf ba) rfl (va_runV (C := R_TT) (As := []) (rest := []) ⟨hx, hb, hml, hown, ht⟩ (k_TT_tick l dC dI cd kI kQ L isA bk sc ia qa rf ba H.size s.heap.size N hC) (cwV 0 ht (gV tb_100 tb_101 tb_102 tb_1 tb_103) rfl rfl rfl (by decide +kernel) ⟨Nat.le_of_ble_eq_true rfl, Nat.le_of_ble_eq_true rfl⟩) ⟨frP_blind, va_recv (q := (R_TT, F_TT, 8)) hK hP rfl (show (LWd cd kI kQ kJ kZ ou g0 ad L isA bk sc ia qa rf ba g sm im : va_W)[26]? = some _ from rfl), fr_pre (ap_P (as_P hP)) hK2 (ap_D (as_D hD)) hAB hBs hS hV⟩ rfl rfl hl.1 rfl (lv_room (Nat.le_of_ble_eq_true rfl)) d_LW_law_363 ⟨show cells + 0 ≤ 601024 by omega, show slots + 0 ≤ 7293033 by omega⟩) (as_P hP) (as_D hD) hS hA (fun k1 u H locs hu hP hD hS => ?_)
  obtain ⟨sc1, ia1, qa1, rf1, ba1⟩ := u
  obtain ⟨hs1, -, hC1, hw0⟩ := hu
  have hs1 : same [1, 3, 4, 5] sc sc1 := hs1
  have hC1 : CI N L isA bk sc1 qa1 rf1 := hC1
  have hw0 : sc1 1 = sc 1 + 1 := hw0
  have hP := sa_P hP
  have hD := sa_D hD
  have hP : va_P (dC, dI) cls_ (LWd cd kI kQ kJ kZ ou g0 ad L isA bk sc1 ia1 qa1 rf1 ba1 g sm im) H := hP
  have hD : va_D A (LWd cd kI kQ kJ kZ ou g0 ad L isA bk sc1 ia1 qa1 rf1 ba1 g sm im) := hD
  refine W.eq (g2 := F0 m 366 ls [.int k1]) rfl ?_
  refine W.cs (cells' := cells) (slots' := slots) rfl rfl ?_
  refine lv_pop hx hb d_LW_law_366 rfl ?_
  refine lv_aload_n hx hb d_LW_law_367 rfl (lv_at hl 2 rfl) ?_
  refine t_callF (E := oW ou kJ g ++ CW cd kI kQ L isA bk sc1 ia1 qa1 rf1 ba1) (u0 := (sm, im)) (w0 := MOW g0 ad kI kZ sm im) rfl (va_runV (C := R_MO) (As := []) (rest := []) ⟨hx, hb, hml, hown, ht⟩ (t_MO_tick l dC dI g0 ad kI kZ sm im H.size s.heap.size ((T + 1000)) NM hI (by omega)) (cwV 0 ht (gV tb_800 tb_801 tb_802 tb_5 tb_803) rfl rfl rfl (by decide +kernel) ⟨Nat.le_of_ble_eq_true rfl, Nat.le_of_ble_eq_true rfl⟩) ⟨frP_blind, va_recv (q := (R_MO, F_MO, 30)) hK hP rfl (show (LWd cd kI kQ kJ kZ ou g0 ad L isA bk sc1 ia1 qa1 rf1 ba1 g sm im : va_W)[0]? = some _ from rfl), fr_pre (ap_P (wc_P hP)) hK4 (ap_D (wc_D hD)) hAB hBs hS hV⟩ rfl rfl hl.1 rfl (lv_room (Nat.le_of_ble_eq_true rfl)) d_LW_law_368 ⟨show cells + 0 ≤ 601024 by omega, show slots + 0 ≤ 7293033 by omega⟩) (wc_P hP) (wc_D hD) hS hA (fun b1 u H locs hu hP hD hS => ?_)
  obtain ⟨sm1, im1⟩ := u
  obtain ⟨hm1, -, hI1, hv0, hv1⟩ := hu
  have hm1 : same [0, 1, 21, 28] sm sm1 := hm1
  obtain ⟨NM1, eNM1⟩ : ∃ q9_, q9_ = NM := ⟨_, rfl⟩
  rw [← eNM1] at hI1
  have hI1 : MI (T + 1000) NM1 sm1 im1 := hI1
  have hv0 : sm1 1 = sm 1 + 1 := hv0
  have hv1 : sm1 0 = 0 := hv1
  have hP := wc_P hP
  have hD := wc_D hD
  have hP : va_P (dC, dI) cls_ (LWd cd kI kQ kJ kZ ou g0 ad L isA bk sc1 ia1 qa1 rf1 ba1 g sm1 im1) H := hP
  have hD : va_D A (LWd cd kI kQ kJ kZ ou g0 ad L isA bk sc1 ia1 qa1 rf1 ba1 g sm1 im1) := hD
  refine W.eq (g2 := F0 m 371 ls [.int b1]) rfl ?_
  refine W.cs (cells' := cells) (slots' := slots) rfl rfl ?_
  refine lv_pop hx hb d_LW_law_371 rfl ?_
  refine lv_goto (tgt := 820) hx hb d_LW_law_372 (by decide) ?_
  have hl := lv_sub hl [0, 1, 2, 3, 4] (l' := [(4, .int (nI i)), (3, .ref ou), (2, .ref g0), (1, .ref (cd 0)), (0, .ref b)]) rfl
  have hq1 : sc1 1 = sm1 1 := hw0.trans (by rw [hR1]; exact hv0.symm)
  have hq2 : sc1 2 = sm1 2 := (hs1 2 (by decide)).trans (hR2.trans (hm1 2 (by decide)).symm)
  refine W.widen (k := cells + 3) (n := slots + 29) (by omega) (by omega) ?_
  exact kk L isA bk sc1 ia1 qa1 rf1 ba1 g sm1 im1 H locs ls ⟨⟨_, hC1⟩, ⟨_, hI1⟩, hq1, hq2⟩ hP hD hS hl
set_option maxHeartbeats 8000000 in
set_option maxRecDepth 100000 in
theorem cs_7 {p : Program} {l : Launch} {e : Env} {s : State} {m : MethodId} {below : List Frame} {meth : Method} {c : Code} {A : Nat → Prop} {b : Nat} {xs : Nat → Int32} (dC : Nat → ClassId) (dI : Nat → Nat → Nat) (cd : Nat → Nat) (kI kQ kJ kZ : ClassId) (ou g0 : Nat) (ad : Nat → Nat) (i Ln : Nat) (hi : i + 6 ≤ Ln) (hLn : Ln ≤ 3072) (hX : va_X b Ln xs s s.heap) (cells slots : Nat) (hcl : cells + 3 ≤ 601024) (hsl : slots + 29 ≤ 7293033) (T : Int) (hT : T + 1000 ≤ 1000000) (hl9 : l.stackTraces = false) (hx : p.tables.exec = Jvm.exec) (hb : c.code = code) (hr : meth.sig.returnType = ret) (hlocks : meth.locks = false) (hbl : b < s.heap.size) (hbA : ¬ A b) (hAB : ∀ q, A q → s.heap.size ≤ q) (hml : c.maxLocals = 8) (hown : s.vm.findClass R_LW = some m.cls) (ht : ∀ w ∈ tb_, w.before #[Value.ref b] s = true) (hA : ∀ q : Nat, s.heap.size ≤ q → A q) (hBs : s.heap.size ≤ s.heap.size) (hV : tw_V s.heap.size s s.heap) (hK : va_K (dC, dI) cls_ (LT kI kQ kJ kZ) s)
    (kk : ∀ (L : List Nat) (isA : Nat → Bool) (bk : Nat → Nat) (sc : Nat → Int32) (ia : Nat → Nat → Int32) (qa : Nat → Nat → Option Nat) (rf ba : Nat → Nat → Int32) (g : Nat → Int64) (sm : Nat → Int32) (im : Nat → Nat → Int32) (H : Heap) (locs : List Loc) (ls : Array Slot), LR (T + 1000) L isA bk sc qa rf sm im → va_P (dC, dI) cls_ (LWd cd kI kQ kJ kZ ou g0 ad L isA bk sc ia qa rf ba g sm im) H → va_D A (LWd cd kI kQ kJ kZ ou g0 ad L isA bk sc ia qa rf ba g sm im) → va_S A s.heap H locs → lv_has ls 8 [(4, .int (nI i)), (3, .ref ou), (2, .ref g0), (1, .ref (cd 0)), (0, .ref b)] → W p l e room_1 s m #[Value.ref b] below meth c H locs (cells + 3) (slots + 29) (lw_Z below #[Value.ref b] s) (F0 m 820 ls []))
    (L : List Nat) (isA : Nat → Bool) (bk : Nat → Nat) (sc : Nat → Int32) (ia : Nat → Nat → Int32) (qa : Nat → Nat → Option Nat) (rf ba : Nat → Nat → Int32) (g : Nat → Int64) (sm : Nat → Int32) (im : Nat → Nat → Int32) (H : Heap) (locs : List Loc) (ls : Array Slot) (hR : LR T L isA bk sc qa rf sm im) (hP : va_P (dC, dI) cls_ (LWd cd kI kQ kJ kZ ou g0 ad L isA bk sc ia qa rf ba g sm im) H) (hD : va_D A (LWd cd kI kQ kJ kZ ou g0 ad L isA bk sc ia qa rf ba g sm im)) (hS : va_S A s.heap H locs) (hl : lv_has ls 8 [(4, .int (nI i)), (3, .ref ou), (2, .ref g0), (1, .ref (cd 0)), (0, .ref b)]) : W p l e room_1 s m #[Value.ref b] below meth c H locs cells slots (lw_Z below #[Value.ref b] s) (F0 m 375 ls []) := by
  obtain ⟨⟨N, hC⟩, ⟨NM, hM0⟩, hR1, hR2⟩ := hR
  have hm9 := hM0.2.1
  have hI := MI_wk hM0 (show T ≤ T + 1000 by omega) hT
  have hK3 : va_K (dC, dI) cls_ (CTJ kI kQ kJ) s := hK.sub (tys' := CTJ kI kQ kJ) [0, 1, 2] rfl
  have hK2 : va_K (dC, dI) cls_ (CT kI kQ) s := hK.sub (tys' := CT kI kQ) [0, 1] rfl
  have hK4 : va_K (dC, dI) cls_ (MOT kI kZ) s := hK.sub (tys' := MOT kI kZ) [0, 3] rfl
  refine lv_aload_n hx hb d_LW_law_375 rfl (lv_at hl 3 rfl) ?_
  refine lv_aload_n hx hb d_LW_law_376 rfl (lv_at hl 4 rfl) ?_
  refine lv_iload hx hb d_LW_law_377 (lv_at hl 0 rfl) ?_
  refine lv_iconst (v := 1) hx hb d_LW_law_379 (by decide) ?_
  refine lv_iadd hx hb d_LW_law_380 ?_
  refine lv_topi (fun v1 ev1 => ?_)
  obtain rfl : v1 = nI (i + 1) := ev1.trans (by rw [show (1 : Int32) = nI 1 from rfl, nI_add])
  refine va_sld hx hb hX hbl hbA hS (vp_in_nI (show i + 1 < Ln by omega) (by omega)) d_LW_law_381 ?_
  refine W.eq (g2 := F0 m 382 ls [.int (xs (i + 1)), .ref (cd 0)]) (by rw [nI_clamp (show i + 1 < 2 ^ 31 by omega)]) ?_
  refine lv_aload_n hx hb d_LW_law_382 rfl (lv_at hl 1 rfl) ?_
  refine t_callF (E := MOW g0 ad kI kZ sm im) (u0 := (((L, isA, bk), (sc, ia, qa, rf, ba)), g)) (w0 := oW ou kJ g ++ CW cd kI kQ L isA bk sc ia qa rf ba) rfl (tw_runSW (As := [.ref (cd 0), .int (xs (i + 1)), .ref ou]) (rest := []) ⟨hx, hb, hml, hown, ht⟩ (w_LW_ticks_c l dC dI cd kI kQ L isA bk sc ia qa rf ba kJ ou g H.size s.heap.size hl9 N hC (xs (i + 1))) rfl rfl ⟨Nat.le_of_ble_eq_true rfl, Nat.le_of_ble_eq_true rfl⟩ (pay_in ht (gW tb_513)) (show _ ∈ w_LW_ticks from List.mem_cons_self) (ht _ tb_511) (ht _ tb_512) (ht _ tb_0) (n := 3) (by decide +kernel) ⟨frP_blind, fr_pre (ap_P hP) hK3 (ap_D hD) hAB hBs hS hV⟩ rfl rfl hl.1 rfl (lv_room (Nat.le_of_ble_eq_true rfl)) d_LW_law_383 ⟨show cells + 1 ≤ 601024 by omega, show slots + 6 ≤ 7293033 by omega⟩) hP hD hS hA (fun k1 u H locs hu hP hD hS => ?_)
  obtain ⟨⟨⟨L1, isA1, bk1⟩, sc1, ia1, qa1, rf1, ba1⟩, g1⟩ := u
  obtain ⟨hs1, ⟨N1, hC1⟩, hw0⟩ := hu
  have hs1 : same [1, 3, 4, 5] sc sc1 := hs1
  have hC1 : CI N1 L1 isA1 bk1 sc1 qa1 rf1 := hC1
  have hw0 : ((1 ≤ (xs (i + 1)).toInt ∧ (xs (i + 1)).toInt ≤ 100) ∧ k1 = 0 ∧ sc1 1 = sc 1 + (xs (i + 1)) ∨ ¬ (1 ≤ (xs (i + 1)).toInt ∧ (xs (i + 1)).toInt ≤ 100) ∧ k1 = 1 ∧ sc1 1 = sc 1) := hw0
  have hP : va_P (dC, dI) cls_ (LWd cd kI kQ kJ kZ ou g0 ad L1 isA1 bk1 sc1 ia1 qa1 rf1 ba1 g1 sm im) H := hP
  have hD : va_D A (LWd cd kI kQ kJ kZ ou g0 ad L1 isA1 bk1 sc1 ia1 qa1 rf1 ba1 g1 sm im) := hD
  refine W.eq (g2 := F0 m 386 ls [.int k1]) rfl ?_
  refine W.cs (cells' := cells + 1) (slots' := slots + 6) rfl rfl ?_
  refine lv_istore hx hb d_LW_law_386 hl (by decide) rfl (fun ls hl => ?_)
  have hl : lv_has ls 8 [(5, .int k1), (4, .int (nI i)), (3, .ref ou), (2, .ref g0), (1, .ref (cd 0)), (0, .ref b)] := hl
  refine lv_aload_n hx hb d_LW_law_388 rfl (lv_at hl 3 rfl) ?_
  refine lv_aload_n hx hb d_LW_law_389 rfl (lv_at hl 5 rfl) ?_
  refine lv_iload hx hb d_LW_law_390 (lv_at hl 1 rfl) ?_
  refine lv_iconst (v := 1) hx hb d_LW_law_392 (by decide) ?_
  refine lv_iadd hx hb d_LW_law_393 ?_
  refine lv_topi (fun v2 ev2 => ?_)
  obtain rfl : v2 = nI (i + 1) := ev2.trans (by rw [show (1 : Int32) = nI 1 from rfl, nI_add])
  refine va_sld hx hb hX hbl hbA hS (vp_in_nI (show i + 1 < Ln by omega) (by omega)) d_LW_law_394 ?_
  refine W.eq (g2 := F0 m 395 ls [.int (xs (i + 1)), .ref g0]) (by rw [nI_clamp (show i + 1 < 2 ^ 31 by omega)]) ?_
  rcases Classical.em (1 ≤ (xs (i + 1)).toInt ∧ (xs (i + 1)).toInt ≤ 100) with h9 | h9
  · obtain ⟨M, hM9, eM⟩ := of_n (n := 100) (x := xs (i + 1)) (by omega) (by omega)
    have h8 := h9
    rw [eM, nI_toInt (by omega)] at h8
    refine W.eq (g2 := F0 m 395 ls [.int (nI M), .ref g0]) (by rw [eM]) ?_
    refine t_callF (E := oW ou kJ g1 ++ CW cd kI kQ L1 isA1 bk1 sc1 ia1 qa1 rf1 ba1) (u0 := (sm, im)) (w0 := MOW g0 ad kI kZ sm im) rfl (va_runV (C := R_MO) (As := [.int (nI M)]) (rest := []) ⟨hx, hb, hml, hown, ht⟩ (t_MO_ticks_ok l dC dI g0 ad kI kZ sm im H.size s.heap.size ((T + 1000)) NM hI M (by omega) (by omega)) (cwV 1 ht (gV tb_848 tb_849 tb_850 tb_5 tb_851) rfl rfl rfl (by decide +kernel) ⟨Nat.le_of_ble_eq_true rfl, Nat.le_of_ble_eq_true rfl⟩) ⟨frP_blind, va_recv (q := (R_MO, F_MO, 30)) hK hP rfl (show (LWd cd kI kQ kJ kZ ou g0 ad L1 isA1 bk1 sc1 ia1 qa1 rf1 ba1 g1 sm im : va_W)[0]? = some _ from rfl), fr_pre (ap_P (wc_P hP)) hK4 (ap_D (wc_D hD)) hAB hBs hS hV⟩ rfl rfl hl.1 rfl (lv_room (Nat.le_of_ble_eq_true rfl)) d_LW_law_395 ⟨show cells + 1 + 0 ≤ 601024 by omega, show slots + 6 + 0 ≤ 7293033 by omega⟩) (wc_P hP) (wc_D hD) hS hA (fun b1 u H locs hu hP hD hS => ?_)
    obtain ⟨sm1, im1⟩ := u
    obtain ⟨hm1, -, hI1, hv0, hv1⟩ := hu
    have hm1 : same [0, 1, 21, 28] sm sm1 := hm1
    obtain ⟨NM1, eNM1⟩ : ∃ q9_, q9_ = NM := ⟨_, rfl⟩
    rw [← eNM1] at hI1
    have hI1 : MI (T + 1000) NM1 sm1 im1 := hI1
    have hv0 : sm1 1 = sm 1 + nI M := hv0
    have hv1 : sm1 0 = 0 := hv1
    have hP := wc_P hP
    have hD := wc_D hD
    have hP : va_P (dC, dI) cls_ (LWd cd kI kQ kJ kZ ou g0 ad L1 isA1 bk1 sc1 ia1 qa1 rf1 ba1 g1 sm1 im1) H := hP
    have hD : va_D A (LWd cd kI kQ kJ kZ ou g0 ad L1 isA1 bk1 sc1 ia1 qa1 rf1 ba1 g1 sm1 im1) := hD
    refine W.eq (g2 := F0 m 398 ls [.int b1]) rfl ?_
    refine W.cs (cells' := cells + 1) (slots' := slots + 6) rfl rfl ?_
    refine lv_istore hx hb d_LW_law_398 hl (by decide) rfl (fun ls hl => ?_)
    have hl : lv_has ls 8 [(6, .int b1), (5, .int k1), (4, .int (nI i)), (3, .ref ou), (2, .ref g0), (1, .ref (cd 0)), (0, .ref b)] := hl
    refine lv_goto (tgt := 820) hx hb d_LW_law_400 (by decide) ?_
    have hl := lv_sub hl [2, 3, 4, 5, 6] (l' := [(4, .int (nI i)), (3, .ref ou), (2, .ref g0), (1, .ref (cd 0)), (0, .ref b)]) rfl
    have hq1 : sc1 1 = sm1 1 := by rcases hw0 with q1 | q1 <;> first | exact absurd h9 q1.1 | (rw [q1.2.2, hv0, eM, hR1])
    have hq2 : sc1 2 = sm1 2 := (hs1 2 (by decide)).trans (hR2.trans (hm1 2 (by decide)).symm)
    refine W.widen (k := cells + 3) (n := slots + 29) (by omega) (by omega) ?_
    exact kk L1 isA1 bk1 sc1 ia1 qa1 rf1 ba1 g1 sm1 im1 H locs ls ⟨⟨_, hC1⟩, ⟨_, hI1⟩, hq1, hq2⟩ hP hD hS hl
  · refine t_callF (E := oW ou kJ g1 ++ CW cd kI kQ L1 isA1 bk1 sc1 ia1 qa1 rf1 ba1) (u0 := (sm, im)) (w0 := MOW g0 ad kI kZ sm im) rfl (va_runV (C := R_MO) (As := [.int (xs (i + 1))]) (rest := []) ⟨hx, hb, hml, hown, ht⟩ (t_MO_ticks_bad l dC dI g0 ad kI kZ sm im H.size s.heap.size ((T + 1000)) NM hI (xs (i + 1)) h9) (cwV 1 ht (gV tb_848 tb_849 tb_850 tb_5 tb_851) rfl rfl rfl (by decide +kernel) ⟨Nat.le_of_ble_eq_true rfl, Nat.le_of_ble_eq_true rfl⟩) ⟨frP_blind, va_recv (q := (R_MO, F_MO, 30)) hK hP rfl (show (LWd cd kI kQ kJ kZ ou g0 ad L1 isA1 bk1 sc1 ia1 qa1 rf1 ba1 g1 sm im : va_W)[0]? = some _ from rfl), fr_pre (ap_P (wc_P hP)) hK4 (ap_D (wc_D hD)) hAB hBs hS hV⟩ rfl rfl hl.1 rfl (lv_room (Nat.le_of_ble_eq_true rfl)) d_LW_law_395 ⟨show cells + 1 + 0 ≤ 601024 by omega, show slots + 6 + 0 ≤ 7293033 by omega⟩) (wc_P hP) (wc_D hD) hS hA (fun b1 u H locs hu hP hD hS => ?_)
    obtain ⟨sm1, im1⟩ := u
    obtain ⟨hm1, -, hI1, hv0⟩ := hu
    have hm1 : same [0] sm sm1 := hm1
    obtain ⟨NM1, eNM1⟩ : ∃ q9_, q9_ = NM := ⟨_, rfl⟩
    rw [← eNM1] at hI1
    have hI1 : MI (T + 1000) NM1 sm1 im1 := hI1
    have hv0 : sm1 0 = 1 := hv0
    have hP := wc_P hP
    have hD := wc_D hD
    have hP : va_P (dC, dI) cls_ (LWd cd kI kQ kJ kZ ou g0 ad L1 isA1 bk1 sc1 ia1 qa1 rf1 ba1 g1 sm1 im1) H := hP
    have hD : va_D A (LWd cd kI kQ kJ kZ ou g0 ad L1 isA1 bk1 sc1 ia1 qa1 rf1 ba1 g1 sm1 im1) := hD
    refine W.eq (g2 := F0 m 398 ls [.int b1]) rfl ?_
    refine W.cs (cells' := cells + 1) (slots' := slots + 6) rfl rfl ?_
    refine lv_istore hx hb d_LW_law_398 hl (by decide) rfl (fun ls hl => ?_)
    have hl : lv_has ls 8 [(6, .int b1), (5, .int k1), (4, .int (nI i)), (3, .ref ou), (2, .ref g0), (1, .ref (cd 0)), (0, .ref b)] := hl
    refine lv_goto (tgt := 820) hx hb d_LW_law_400 (by decide) ?_
    have hl := lv_sub hl [2, 3, 4, 5, 6] (l' := [(4, .int (nI i)), (3, .ref ou), (2, .ref g0), (1, .ref (cd 0)), (0, .ref b)]) rfl
    have hq1 : sc1 1 = sm1 1 := by rcases hw0 with q1 | q1 <;> first | exact absurd q1.1 h9 | (rw [q1.2.2, hR1]; exact (hm1 1 (by decide)).symm)
    have hq2 : sc1 2 = sm1 2 := (hs1 2 (by decide)).trans (hR2.trans (hm1 2 (by decide)).symm)
    refine W.widen (k := cells + 3) (n := slots + 29) (by omega) (by omega) ?_
    exact kk L1 isA1 bk1 sc1 ia1 qa1 rf1 ba1 g1 sm1 im1 H locs ls ⟨⟨_, hC1⟩, ⟨_, hI1⟩, hq1, hq2⟩ hP hD hS hl
set_option maxHeartbeats 8000000 in
set_option maxRecDepth 100000 in
theorem cs_8 {p : Program} {l : Launch} {e : Env} {s : State} {m : MethodId} {below : List Frame} {meth : Method} {c : Code} {A : Nat → Prop} {b : Nat} {xs : Nat → Int32} (dC : Nat → ClassId) (dI : Nat → Nat → Nat) (cd : Nat → Nat) (kI kQ kJ kZ : ClassId) (ou g0 : Nat) (ad : Nat → Nat) (i Ln : Nat) (hi : i + 6 ≤ Ln) (hLn : Ln ≤ 3072) (hX : va_X b Ln xs s s.heap) (cells slots : Nat) (hcl : cells + 3 ≤ 601024) (hsl : slots + 29 ≤ 7293033) (T : Int) (hT : T + 1000 ≤ 1000000) (hl9 : l.stackTraces = false) (hx : p.tables.exec = Jvm.exec) (hb : c.code = code) (hr : meth.sig.returnType = ret) (hlocks : meth.locks = false) (hbl : b < s.heap.size) (hbA : ¬ A b) (hAB : ∀ q, A q → s.heap.size ≤ q) (hml : c.maxLocals = 8) (hown : s.vm.findClass R_LW = some m.cls) (ht : ∀ w ∈ tb_, w.before #[Value.ref b] s = true) (hA : ∀ q : Nat, s.heap.size ≤ q → A q) (hBs : s.heap.size ≤ s.heap.size) (hV : tw_V s.heap.size s s.heap) (hK : va_K (dC, dI) cls_ (LT kI kQ kJ kZ) s)
    (kk : ∀ (L : List Nat) (isA : Nat → Bool) (bk : Nat → Nat) (sc : Nat → Int32) (ia : Nat → Nat → Int32) (qa : Nat → Nat → Option Nat) (rf ba : Nat → Nat → Int32) (g : Nat → Int64) (sm : Nat → Int32) (im : Nat → Nat → Int32) (H : Heap) (locs : List Loc) (ls : Array Slot), LR (T + 1000) L isA bk sc qa rf sm im → va_P (dC, dI) cls_ (LWd cd kI kQ kJ kZ ou g0 ad L isA bk sc ia qa rf ba g sm im) H → va_D A (LWd cd kI kQ kJ kZ ou g0 ad L isA bk sc ia qa rf ba g sm im) → va_S A s.heap H locs → lv_has ls 8 [(4, .int (nI i)), (3, .ref ou), (2, .ref g0), (1, .ref (cd 0)), (0, .ref b)] → W p l e room_1 s m #[Value.ref b] below meth c H locs (cells + 3) (slots + 29) (lw_Z below #[Value.ref b] s) (F0 m 820 ls []))
    (L : List Nat) (isA : Nat → Bool) (bk : Nat → Nat) (sc : Nat → Int32) (ia : Nat → Nat → Int32) (qa : Nat → Nat → Option Nat) (rf ba : Nat → Nat → Int32) (g : Nat → Int64) (sm : Nat → Int32) (im : Nat → Nat → Int32) (H : Heap) (locs : List Loc) (ls : Array Slot) (hR : LR T L isA bk sc qa rf sm im) (hP : va_P (dC, dI) cls_ (LWd cd kI kQ kJ kZ ou g0 ad L isA bk sc ia qa rf ba g sm im) H) (hD : va_D A (LWd cd kI kQ kJ kZ ou g0 ad L isA bk sc ia qa rf ba g sm im)) (hS : va_S A s.heap H locs) (hl : lv_has ls 8 [(4, .int (nI i)), (3, .ref ou), (2, .ref g0), (1, .ref (cd 0)), (0, .ref b)]) : W p l e room_1 s m #[Value.ref b] below meth c H locs cells slots (lw_Z below #[Value.ref b] s) (F0 m 403 ls []) := by
  obtain ⟨⟨N, hC⟩, ⟨NM, hM0⟩, hR1, hR2⟩ := hR
  have hm9 := hM0.2.1
  have hI := MI_wk hM0 (show T ≤ T + 1000 by omega) hT
  have hK3 : va_K (dC, dI) cls_ (CTJ kI kQ kJ) s := hK.sub (tys' := CTJ kI kQ kJ) [0, 1, 2] rfl
  have hK2 : va_K (dC, dI) cls_ (CT kI kQ) s := hK.sub (tys' := CT kI kQ) [0, 1] rfl
  have hK4 : va_K (dC, dI) cls_ (MOT kI kZ) s := hK.sub (tys' := MOT kI kZ) [0, 3] rfl
  refine lv_aload_n hx hb d_LW_law_403 rfl (lv_at hl 3 rfl) ?_
  refine r_call (va_runV (C := R_TT) (As := []) (rest := []) ⟨hx, hb, hml, hown, ht⟩ (k_TT_now l dC dI cd kI kQ L isA bk sc ia qa rf ba N hC) (cwV 0 ht (gV tb_243 tb_244 tb_245 tb_1 tb_246) rfl rfl rfl (by decide +kernel) ⟨Nat.le_of_ble_eq_true rfl, Nat.le_of_ble_eq_true rfl⟩) ⟨rdP_blind, va_recv (q := (R_TT, F_TT, 8)) hK hP rfl (show (LWd cd kI kQ kJ kZ ou g0 ad L isA bk sc ia qa rf ba g sm im : va_W)[26]? = some _ from rfl), rd_pre (ap_P (as_P hP)) hK2⟩ rfl rfl hl.1 rfl (lv_room (Nat.le_of_ble_eq_true rfl)) d_LW_law_404 ⟨show cells + 0 ≤ 601024 by omega, show slots + 0 ≤ 7293033 by omega⟩) (fun k1 hw0 => ?_)
  have hw0 : k1 = sc 1 := hw0
  have hs1 : same [] sc sc := same.rf
  have hC1 := hC
  refine W.eq (g2 := F0 m 407 ls [.int k1]) rfl ?_
  refine W.cs (cells' := cells) (slots' := slots) rfl rfl ?_
  refine lv_aload_n hx hb d_LW_law_407 rfl (lv_at hl 2 rfl) ?_
  refine t_callF (E := oW ou kJ g ++ CW cd kI kQ L isA bk sc ia qa rf ba) (u0 := (sm, im)) (w0 := MOW g0 ad kI kZ sm im) rfl (va_runV (C := R_MO) (As := []) (rest := [.int k1]) ⟨hx, hb, hml, hown, ht⟩ (t_MO_now l dC dI g0 ad kI kZ sm im H.size s.heap.size ((T + 1000)) NM hI) (cwV 0 ht (gV tb_852 tb_853 tb_854 tb_5 tb_855) rfl rfl rfl (by decide +kernel) ⟨Nat.le_of_ble_eq_true rfl, Nat.le_of_ble_eq_true rfl⟩) ⟨frP_blind, va_recv (q := (R_MO, F_MO, 30)) hK hP rfl (show (LWd cd kI kQ kJ kZ ou g0 ad L isA bk sc ia qa rf ba g sm im : va_W)[0]? = some _ from rfl), fr_pre (ap_P (wc_P hP)) hK4 (ap_D (wc_D hD)) hAB hBs hS hV⟩ rfl rfl hl.1 rfl (lv_room (Nat.le_of_ble_eq_true rfl)) d_LW_law_408 ⟨show cells + 0 ≤ 601024 by omega, show slots + 0 ≤ 7293033 by omega⟩) (wc_P hP) (wc_D hD) hS hA (fun b1 u H locs hu hP hD hS => ?_)
  obtain ⟨sm1, im1⟩ := u
  obtain ⟨hm1, -, hI1, hv0⟩ := hu
  have hm1 : same [0] sm sm1 := hm1
  obtain ⟨NM1, eNM1⟩ : ∃ q9_, q9_ = NM := ⟨_, rfl⟩
  rw [← eNM1] at hI1
  have hI1 : MI (T + 1000) NM1 sm1 im1 := hI1
  have hv0 : b1 = sm 1 := hv0
  have hP := wc_P hP
  have hD := wc_D hD
  have hP : va_P (dC, dI) cls_ (LWd cd kI kQ kJ kZ ou g0 ad L isA bk sc ia qa rf ba g sm1 im1) H := hP
  have hD : va_D A (LWd cd kI kQ kJ kZ ou g0 ad L isA bk sc ia qa rf ba g sm1 im1) := hD
  refine W.eq (g2 := F0 m 411 ls [.int b1, .int k1]) rfl ?_
  refine W.cs (cells' := cells) (slots' := slots) rfl rfl ?_
  refine lv_icmp_eq (tgt := 820) hx hb d_LW_law_411 (by decide) (fun _ => ?_) (fun h9 => absurd (by rw [hw0, hv0, hR1]) h9)
  have hl := lv_sub hl [0, 1, 2, 3, 4] (l' := [(4, .int (nI i)), (3, .ref ou), (2, .ref g0), (1, .ref (cd 0)), (0, .ref b)]) rfl
  have hq1 : sc 1 = sm1 1 := (hs1 1 (by decide)).trans (hR1.trans (hm1 1 (by decide)).symm)
  have hq2 : sc 2 = sm1 2 := (hs1 2 (by decide)).trans (hR2.trans (hm1 2 (by decide)).symm)
  refine W.widen (k := cells + 3) (n := slots + 29) (by omega) (by omega) ?_
  exact kk L isA bk sc ia qa rf ba g sm1 im1 H locs ls ⟨⟨_, hC1⟩, ⟨_, hI1⟩, hq1, hq2⟩ hP hD hS hl
set_option maxHeartbeats 8000000 in
set_option maxRecDepth 100000 in
theorem cs_9 {p : Program} {l : Launch} {e : Env} {s : State} {m : MethodId} {below : List Frame} {meth : Method} {c : Code} {A : Nat → Prop} {b : Nat} {xs : Nat → Int32} (dC : Nat → ClassId) (dI : Nat → Nat → Nat) (cd : Nat → Nat) (kI kQ kJ kZ : ClassId) (ou g0 : Nat) (ad : Nat → Nat) (i Ln : Nat) (hi : i + 6 ≤ Ln) (hLn : Ln ≤ 3072) (hX : va_X b Ln xs s s.heap) (cells slots : Nat) (hcl : cells + 3 ≤ 601024) (hsl : slots + 29 ≤ 7293033) (T : Int) (hT : T + 1000 ≤ 1000000) (hl9 : l.stackTraces = false) (hx : p.tables.exec = Jvm.exec) (hb : c.code = code) (hr : meth.sig.returnType = ret) (hlocks : meth.locks = false) (hbl : b < s.heap.size) (hbA : ¬ A b) (hAB : ∀ q, A q → s.heap.size ≤ q) (hml : c.maxLocals = 8) (hown : s.vm.findClass R_LW = some m.cls) (ht : ∀ w ∈ tb_, w.before #[Value.ref b] s = true) (hA : ∀ q : Nat, s.heap.size ≤ q → A q) (hBs : s.heap.size ≤ s.heap.size) (hV : tw_V s.heap.size s s.heap) (hK : va_K (dC, dI) cls_ (LT kI kQ kJ kZ) s)
    (kk : ∀ (L : List Nat) (isA : Nat → Bool) (bk : Nat → Nat) (sc : Nat → Int32) (ia : Nat → Nat → Int32) (qa : Nat → Nat → Option Nat) (rf ba : Nat → Nat → Int32) (g : Nat → Int64) (sm : Nat → Int32) (im : Nat → Nat → Int32) (H : Heap) (locs : List Loc) (ls : Array Slot), LR (T + 1000) L isA bk sc qa rf sm im → va_P (dC, dI) cls_ (LWd cd kI kQ kJ kZ ou g0 ad L isA bk sc ia qa rf ba g sm im) H → va_D A (LWd cd kI kQ kJ kZ ou g0 ad L isA bk sc ia qa rf ba g sm im) → va_S A s.heap H locs → lv_has ls 8 [(4, .int (nI i)), (3, .ref ou), (2, .ref g0), (1, .ref (cd 0)), (0, .ref b)] → W p l e room_1 s m #[Value.ref b] below meth c H locs (cells + 3) (slots + 29) (lw_Z below #[Value.ref b] s) (F0 m 820 ls []))
    (L : List Nat) (isA : Nat → Bool) (bk : Nat → Nat) (sc : Nat → Int32) (ia : Nat → Nat → Int32) (qa : Nat → Nat → Option Nat) (rf ba : Nat → Nat → Int32) (g : Nat → Int64) (sm : Nat → Int32) (im : Nat → Nat → Int32) (H : Heap) (locs : List Loc) (ls : Array Slot) (hR : LR T L isA bk sc qa rf sm im) (hP : va_P (dC, dI) cls_ (LWd cd kI kQ kJ kZ ou g0 ad L isA bk sc ia qa rf ba g sm im) H) (hD : va_D A (LWd cd kI kQ kJ kZ ou g0 ad L isA bk sc ia qa rf ba g sm im)) (hS : va_S A s.heap H locs) (hl : lv_has ls 8 [(4, .int (nI i)), (3, .ref ou), (2, .ref g0), (1, .ref (cd 0)), (0, .ref b)]) : W p l e room_1 s m #[Value.ref b] below meth c H locs cells slots (lw_Z below #[Value.ref b] s) (F0 m 416 ls []) := by
  obtain ⟨⟨N, hC⟩, ⟨NM, hM0⟩, hR1, hR2⟩ := hR
  have hm9 := hM0.2.1
  have hI := MI_wk hM0 (show T ≤ T + 1000 by omega) hT
  have hK3 : va_K (dC, dI) cls_ (CTJ kI kQ kJ) s := hK.sub (tys' := CTJ kI kQ kJ) [0, 1, 2] rfl
  have hK2 : va_K (dC, dI) cls_ (CT kI kQ) s := hK.sub (tys' := CT kI kQ) [0, 1] rfl
  have hK4 : va_K (dC, dI) cls_ (MOT kI kZ) s := hK.sub (tys' := MOT kI kZ) [0, 3] rfl
  refine lv_aload_n hx hb d_LW_law_416 rfl (lv_at hl 3 rfl) ?_
  refine lv_aload_n hx hb d_LW_law_417 rfl (lv_at hl 4 rfl) ?_
  refine lv_iload hx hb d_LW_law_418 (lv_at hl 0 rfl) ?_
  refine lv_iconst (v := 1) hx hb d_LW_law_420 (by decide) ?_
  refine lv_iadd hx hb d_LW_law_421 ?_
  refine lv_topi (fun v1 ev1 => ?_)
  obtain rfl : v1 = nI (i + 1) := ev1.trans (by rw [show (1 : Int32) = nI 1 from rfl, nI_add])
  refine va_sld hx hb hX hbl hbA hS (vp_in_nI (show i + 1 < Ln by omega) (by omega)) d_LW_law_422 ?_
  refine W.eq (g2 := F0 m 423 ls [.int (xs (i + 1)), .ref (cd 0)]) (by rw [nI_clamp (show i + 1 < 2 ^ 31 by omega)]) ?_
  refine lv_aload_n hx hb d_LW_law_423 rfl (lv_at hl 1 rfl) ?_
  refine t_callF (E := MOW g0 ad kI kZ sm im) (u0 := (((L, isA, bk), (sc, ia, qa, rf, ba)), g)) (w0 := oW ou kJ g ++ CW cd kI kQ L isA bk sc ia qa rf ba) rfl (tw_runSW (As := [.ref (cd 0), .int (xs (i + 1)), .ref ou]) (rest := []) ⟨hx, hb, hml, hown, ht⟩ (w_LW_watch_c l dC dI cd kI kQ L isA bk sc ia qa rf ba kJ ou g H.size s.heap.size hl9 N hC (xs (i + 1))) rfl rfl ⟨Nat.le_of_ble_eq_true rfl, Nat.le_of_ble_eq_true rfl⟩ (pay_in ht (gW tb_521)) (show _ ∈ w_LW_watch from List.mem_cons_self) (ht _ tb_519) (ht _ tb_520) (ht _ tb_0) (n := 3) (by decide +kernel) ⟨frP_blind, fr_pre (ap_P hP) hK3 (ap_D hD) hAB hBs hS hV⟩ rfl rfl hl.1 rfl (lv_room (Nat.le_of_ble_eq_true rfl)) d_LW_law_424 ⟨show cells + 1 ≤ 601024 by omega, show slots + 6 ≤ 7293033 by omega⟩) hP hD hS hA (fun k1 u H locs hu hP hD hS => ?_)
  obtain ⟨⟨⟨L1, isA1, bk1⟩, sc1, ia1, qa1, rf1, ba1⟩, g1⟩ := u
  obtain ⟨hs1, ⟨N1, hC1⟩, hw0⟩ := hu
  have hs1 : same [2, 5] sc sc1 := hs1
  have hC1 : CI N1 L1 isA1 bk1 sc1 qa1 rf1 := hC1
  have hw0 : ((-1 ≤ (xs (i + 1)).toInt ∧ (xs (i + 1)).toInt ≤ 7) ∧ k1 = 0 ∧ sc1 2 = (xs (i + 1)) ∧ g1 0 = (sc 2).toInt64 ∨ ¬ (-1 ≤ (xs (i + 1)).toInt ∧ (xs (i + 1)).toInt ≤ 7) ∧ k1 = 1 ∧ sc1 2 = sc 2) := hw0
  have hP : va_P (dC, dI) cls_ (LWd cd kI kQ kJ kZ ou g0 ad L1 isA1 bk1 sc1 ia1 qa1 rf1 ba1 g1 sm im) H := hP
  have hD : va_D A (LWd cd kI kQ kJ kZ ou g0 ad L1 isA1 bk1 sc1 ia1 qa1 rf1 ba1 g1 sm im) := hD
  refine W.eq (g2 := F0 m 427 ls [.int k1]) rfl ?_
  refine W.cs (cells' := cells + 1) (slots' := slots + 6) rfl rfl ?_
  refine lv_istore hx hb d_LW_law_427 hl (by decide) rfl (fun ls hl => ?_)
  have hl : lv_has ls 8 [(5, .int k1), (4, .int (nI i)), (3, .ref ou), (2, .ref g0), (1, .ref (cd 0)), (0, .ref b)] := hl
  refine lv_aload_n hx hb d_LW_law_429 rfl (lv_at hl 3 rfl) ?_
  refine lv_aload_n hx hb d_LW_law_430 rfl (lv_at hl 5 rfl) ?_
  refine lv_iload hx hb d_LW_law_431 (lv_at hl 1 rfl) ?_
  refine lv_iconst (v := 1) hx hb d_LW_law_433 (by decide) ?_
  refine lv_iadd hx hb d_LW_law_434 ?_
  refine lv_topi (fun v2 ev2 => ?_)
  obtain rfl : v2 = nI (i + 1) := ev2.trans (by rw [show (1 : Int32) = nI 1 from rfl, nI_add])
  refine va_sld hx hb hX hbl hbA hS (vp_in_nI (show i + 1 < Ln by omega) (by omega)) d_LW_law_435 ?_
  refine W.eq (g2 := F0 m 436 ls [.int (xs (i + 1)), .ref g0]) (by rw [nI_clamp (show i + 1 < 2 ^ 31 by omega)]) ?_
  refine t_callF (E := oW ou kJ g1 ++ CW cd kI kQ L1 isA1 bk1 sc1 ia1 qa1 rf1 ba1) (u0 := (sm, im)) (w0 := MOW g0 ad kI kZ sm im) rfl (va_runV (C := R_MO) (As := [.int (xs (i + 1))]) (rest := []) ⟨hx, hb, hml, hown, ht⟩ (t_MO_watch l dC dI g0 ad kI kZ sm im H.size s.heap.size ((T + 1000)) NM hI (xs (i + 1))) (cwV 1 ht (gV tb_856 tb_857 tb_858 tb_5 tb_859) rfl rfl rfl (by decide +kernel) ⟨Nat.le_of_ble_eq_true rfl, Nat.le_of_ble_eq_true rfl⟩) ⟨frP_blind, va_recv (q := (R_MO, F_MO, 30)) hK hP rfl (show (LWd cd kI kQ kJ kZ ou g0 ad L1 isA1 bk1 sc1 ia1 qa1 rf1 ba1 g1 sm im : va_W)[0]? = some _ from rfl), fr_pre (ap_P (wc_P hP)) hK4 (ap_D (wc_D hD)) hAB hBs hS hV⟩ rfl rfl hl.1 rfl (lv_room (Nat.le_of_ble_eq_true rfl)) d_LW_law_436 ⟨show cells + 1 + 0 ≤ 601024 by omega, show slots + 6 + 0 ≤ 7293033 by omega⟩) (wc_P hP) (wc_D hD) hS hA (fun b1 u H locs hu hP hD hS => ?_)
  obtain ⟨sm1, im1⟩ := u
  obtain ⟨hm1, -, hI1, hv0⟩ := hu
  have hm1 : same [0, 2, 28] sm sm1 := hm1
  obtain ⟨NM1, eNM1⟩ : ∃ q9_, q9_ = NM := ⟨_, rfl⟩
  rw [← eNM1] at hI1
  have hI1 : MI (T + 1000) NM1 sm1 im1 := hI1
  have hv0 : ((-1 ≤ (xs (i + 1)).toInt ∧ (xs (i + 1)).toInt ≤ 7) ∧ sm1 0 = 0 ∧ sm1 2 = (xs (i + 1)) ∧ b1 = sm 2 ∨ ¬ (-1 ≤ (xs (i + 1)).toInt ∧ (xs (i + 1)).toInt ≤ 7) ∧ sm1 0 = 1 ∧ sm1 2 = sm 2) := hv0
  have hP := wc_P hP
  have hD := wc_D hD
  have hP : va_P (dC, dI) cls_ (LWd cd kI kQ kJ kZ ou g0 ad L1 isA1 bk1 sc1 ia1 qa1 rf1 ba1 g1 sm1 im1) H := hP
  have hD : va_D A (LWd cd kI kQ kJ kZ ou g0 ad L1 isA1 bk1 sc1 ia1 qa1 rf1 ba1 g1 sm1 im1) := hD
  refine W.eq (g2 := F0 m 439 ls [.int b1]) rfl ?_
  refine W.cs (cells' := cells + 1) (slots' := slots + 6) rfl rfl ?_
  refine lv_istore hx hb d_LW_law_439 hl (by decide) rfl (fun ls hl => ?_)
  have hl : lv_has ls 8 [(6, .int b1), (5, .int k1), (4, .int (nI i)), (3, .ref ou), (2, .ref g0), (1, .ref (cd 0)), (0, .ref b)] := hl
  refine lv_goto (tgt := 820) hx hb d_LW_law_441 (by decide) ?_
  have hl := lv_sub hl [2, 3, 4, 5, 6] (l' := [(4, .int (nI i)), (3, .ref ou), (2, .ref g0), (1, .ref (cd 0)), (0, .ref b)]) rfl
  have hq1 : sc1 1 = sm1 1 := (hs1 1 (by decide)).trans (hR1.trans (hm1 1 (by decide)).symm)
  have hq2 : sc1 2 = sm1 2 := by rcases hw0 with q1 | q1 <;> rcases hv0 with q2 | q2 <;> first | exact absurd q1.1 q2.1 | exact absurd q2.1 q1.1 | (rw [q1.2.2.1, q2.2.2.1]; done) | (rw [q1.2.2, q2.2.2]; exact hR2)
  refine W.widen (k := cells + 3) (n := slots + 29) (by omega) (by omega) ?_
  exact kk L1 isA1 bk1 sc1 ia1 qa1 rf1 ba1 g1 sm1 im1 H locs ls ⟨⟨_, hC1⟩, ⟨_, hI1⟩, hq1, hq2⟩ hP hD hS hl
set_option maxHeartbeats 8000000 in
set_option maxRecDepth 100000 in
theorem cs_10 {p : Program} {l : Launch} {e : Env} {s : State} {m : MethodId} {below : List Frame} {meth : Method} {c : Code} {A : Nat → Prop} {b : Nat} {xs : Nat → Int32} (dC : Nat → ClassId) (dI : Nat → Nat → Nat) (cd : Nat → Nat) (kI kQ kJ kZ : ClassId) (ou g0 : Nat) (ad : Nat → Nat) (i Ln : Nat) (hi : i + 6 ≤ Ln) (hLn : Ln ≤ 3072) (hX : va_X b Ln xs s s.heap) (cells slots : Nat) (hcl : cells + 3 ≤ 601024) (hsl : slots + 29 ≤ 7293033) (T : Int) (hT : T + 1000 ≤ 1000000) (hl9 : l.stackTraces = false) (hx : p.tables.exec = Jvm.exec) (hb : c.code = code) (hr : meth.sig.returnType = ret) (hlocks : meth.locks = false) (hbl : b < s.heap.size) (hbA : ¬ A b) (hAB : ∀ q, A q → s.heap.size ≤ q) (hml : c.maxLocals = 8) (hown : s.vm.findClass R_LW = some m.cls) (ht : ∀ w ∈ tb_, w.before #[Value.ref b] s = true) (hA : ∀ q : Nat, s.heap.size ≤ q → A q) (hBs : s.heap.size ≤ s.heap.size) (hV : tw_V s.heap.size s s.heap) (hK : va_K (dC, dI) cls_ (LT kI kQ kJ kZ) s)
    (kk : ∀ (L : List Nat) (isA : Nat → Bool) (bk : Nat → Nat) (sc : Nat → Int32) (ia : Nat → Nat → Int32) (qa : Nat → Nat → Option Nat) (rf ba : Nat → Nat → Int32) (g : Nat → Int64) (sm : Nat → Int32) (im : Nat → Nat → Int32) (H : Heap) (locs : List Loc) (ls : Array Slot), LR (T + 1000) L isA bk sc qa rf sm im → va_P (dC, dI) cls_ (LWd cd kI kQ kJ kZ ou g0 ad L isA bk sc ia qa rf ba g sm im) H → va_D A (LWd cd kI kQ kJ kZ ou g0 ad L isA bk sc ia qa rf ba g sm im) → va_S A s.heap H locs → lv_has ls 8 [(4, .int (nI i)), (3, .ref ou), (2, .ref g0), (1, .ref (cd 0)), (0, .ref b)] → W p l e room_1 s m #[Value.ref b] below meth c H locs (cells + 3) (slots + 29) (lw_Z below #[Value.ref b] s) (F0 m 820 ls []))
    (L : List Nat) (isA : Nat → Bool) (bk : Nat → Nat) (sc : Nat → Int32) (ia : Nat → Nat → Int32) (qa : Nat → Nat → Option Nat) (rf ba : Nat → Nat → Int32) (g : Nat → Int64) (sm : Nat → Int32) (im : Nat → Nat → Int32) (H : Heap) (locs : List Loc) (ls : Array Slot) (hR : LR T L isA bk sc qa rf sm im) (hP : va_P (dC, dI) cls_ (LWd cd kI kQ kJ kZ ou g0 ad L isA bk sc ia qa rf ba g sm im) H) (hD : va_D A (LWd cd kI kQ kJ kZ ou g0 ad L isA bk sc ia qa rf ba g sm im)) (hS : va_S A s.heap H locs) (hl : lv_has ls 8 [(4, .int (nI i)), (3, .ref ou), (2, .ref g0), (1, .ref (cd 0)), (0, .ref b)]) : W p l e room_1 s m #[Value.ref b] below meth c H locs cells slots (lw_Z below #[Value.ref b] s) (F0 m 444 ls []) := by
  obtain ⟨⟨N, hC⟩, ⟨NM, hM0⟩, hR1, hR2⟩ := hR
  have hm9 := hM0.2.1
  have hI := MI_wk hM0 (show T ≤ T + 1000 by omega) hT
  have hK3 : va_K (dC, dI) cls_ (CTJ kI kQ kJ) s := hK.sub (tys' := CTJ kI kQ kJ) [0, 1, 2] rfl
  have hK2 : va_K (dC, dI) cls_ (CT kI kQ) s := hK.sub (tys' := CT kI kQ) [0, 1] rfl
  have hK4 : va_K (dC, dI) cls_ (MOT kI kZ) s := hK.sub (tys' := MOT kI kZ) [0, 3] rfl
  refine lv_aload_n hx hb d_LW_law_444 rfl (lv_at hl 3 rfl) ?_
  refine lv_aload_n hx hb d_LW_law_445 rfl (lv_at hl 4 rfl) ?_
  refine lv_iload hx hb d_LW_law_446 (lv_at hl 0 rfl) ?_
  refine lv_iconst (v := 1) hx hb d_LW_law_448 (by decide) ?_
  refine lv_iadd hx hb d_LW_law_449 ?_
  refine lv_topi (fun v1 ev1 => ?_)
  obtain rfl : v1 = nI (i + 1) := ev1.trans (by rw [show (1 : Int32) = nI 1 from rfl, nI_add])
  refine va_sld hx hb hX hbl hbA hS (vp_in_nI (show i + 1 < Ln by omega) (by omega)) d_LW_law_450 ?_
  refine W.eq (g2 := F0 m 451 ls [.int (xs (i + 1)), .ref (cd 0)]) (by rw [nI_clamp (show i + 1 < 2 ^ 31 by omega)]) ?_
  refine r_call (va_runV (C := R_TT) (As := [.int (xs (i + 1))]) (rest := []) ⟨hx, hb, hml, hown, ht⟩ (k_TT_back l dC dI cd kI kQ L isA bk sc ia qa rf ba N hC (xs (i + 1))) (cwV 1 ht (gV tb_247 tb_248 tb_249 tb_1 tb_250) rfl rfl rfl (by decide +kernel) ⟨Nat.le_of_ble_eq_true rfl, Nat.le_of_ble_eq_true rfl⟩) ⟨rdP_blind, va_recv (q := (R_TT, F_TT, 8)) hK hP rfl (show (LWd cd kI kQ kJ kZ ou g0 ad L isA bk sc ia qa rf ba g sm im : va_W)[26]? = some _ from rfl), rd_pre (ap_P (as_P hP)) hK2⟩ rfl rfl hl.1 rfl (lv_room (Nat.le_of_ble_eq_true rfl)) d_LW_law_451 ⟨show cells + 0 ≤ 601024 by omega, show slots + 0 ≤ 7293033 by omega⟩) (fun k1 hw0 => ?_)
  have hs1 : same [] sc sc := same.rf
  have hC1 := hC
  refine W.eq (g2 := F0 m 454 ls [.long k1]) rfl ?_
  refine W.cs (cells' := cells) (slots' := slots) rfl rfl ?_
  refine lv_pop2_2 hx hb d_LW_law_454 rfl ?_
  refine lv_aload_n hx hb d_LW_law_455 rfl (lv_at hl 2 rfl) ?_
  refine lv_aload_n hx hb d_LW_law_456 rfl (lv_at hl 4 rfl) ?_
  refine lv_iload hx hb d_LW_law_457 (lv_at hl 0 rfl) ?_
  refine lv_iconst (v := 1) hx hb d_LW_law_459 (by decide) ?_
  refine lv_iadd hx hb d_LW_law_460 ?_
  refine lv_topi (fun v2 ev2 => ?_)
  obtain rfl : v2 = nI (i + 1) := ev2.trans (by rw [show (1 : Int32) = nI 1 from rfl, nI_add])
  refine va_sld hx hb hX hbl hbA hS (vp_in_nI (show i + 1 < Ln by omega) (by omega)) d_LW_law_461 ?_
  refine W.eq (g2 := F0 m 462 ls [.int (xs (i + 1)), .ref g0]) (by rw [nI_clamp (show i + 1 < 2 ^ 31 by omega)]) ?_
  refine t_callF (E := oW ou kJ g ++ CW cd kI kQ L isA bk sc ia qa rf ba) (u0 := (sm, im)) (w0 := MOW g0 ad kI kZ sm im) rfl (va_runV (C := R_MO) (As := [.int (xs (i + 1))]) (rest := []) ⟨hx, hb, hml, hown, ht⟩ (t_MO_back l dC dI g0 ad kI kZ sm im H.size s.heap.size ((T + 1000)) NM hI (xs (i + 1))) (cwV 1 ht (gV tb_860 tb_861 tb_862 tb_5 tb_863) rfl rfl rfl (by decide +kernel) ⟨Nat.le_of_ble_eq_true rfl, Nat.le_of_ble_eq_true rfl⟩) ⟨frP_blind, va_recv (q := (R_MO, F_MO, 30)) hK hP rfl (show (LWd cd kI kQ kJ kZ ou g0 ad L isA bk sc ia qa rf ba g sm im : va_W)[0]? = some _ from rfl), fr_pre (ap_P (wc_P hP)) hK4 (ap_D (wc_D hD)) hAB hBs hS hV⟩ rfl rfl hl.1 rfl (lv_room (Nat.le_of_ble_eq_true rfl)) d_LW_law_462 ⟨show cells + 0 ≤ 601024 by omega, show slots + 0 ≤ 7293033 by omega⟩) (wc_P hP) (wc_D hD) hS hA (fun b1 u H locs hu hP hD hS => ?_)
  obtain ⟨sm1, im1⟩ := u
  obtain ⟨hm1, -, hI1⟩ := hu
  have hm1 : same [0] sm sm1 := hm1
  obtain ⟨NM1, eNM1⟩ : ∃ q9_, q9_ = NM := ⟨_, rfl⟩
  rw [← eNM1] at hI1
  have hI1 : MI (T + 1000) NM1 sm1 im1 := hI1
  have hP := wc_P hP
  have hD := wc_D hD
  have hP : va_P (dC, dI) cls_ (LWd cd kI kQ kJ kZ ou g0 ad L isA bk sc ia qa rf ba g sm1 im1) H := hP
  have hD : va_D A (LWd cd kI kQ kJ kZ ou g0 ad L isA bk sc ia qa rf ba g sm1 im1) := hD
  refine W.eq (g2 := F0 m 465 ls [.long b1]) rfl ?_
  refine W.cs (cells' := cells) (slots' := slots) rfl rfl ?_
  refine lv_pop2_2 hx hb d_LW_law_465 rfl ?_
  refine lv_goto (tgt := 820) hx hb d_LW_law_466 (by decide) ?_
  have hl := lv_sub hl [0, 1, 2, 3, 4] (l' := [(4, .int (nI i)), (3, .ref ou), (2, .ref g0), (1, .ref (cd 0)), (0, .ref b)]) rfl
  have hq1 : sc 1 = sm1 1 := (hs1 1 (by decide)).trans (hR1.trans (hm1 1 (by decide)).symm)
  have hq2 : sc 2 = sm1 2 := (hs1 2 (by decide)).trans (hR2.trans (hm1 2 (by decide)).symm)
  refine W.widen (k := cells + 3) (n := slots + 29) (by omega) (by omega) ?_
  exact kk L isA bk sc ia qa rf ba g sm1 im1 H locs ls ⟨⟨_, hC1⟩, ⟨_, hI1⟩, hq1, hq2⟩ hP hD hS hl
set_option maxHeartbeats 8000000 in
set_option maxRecDepth 100000 in
theorem cs_11 {p : Program} {l : Launch} {e : Env} {s : State} {m : MethodId} {below : List Frame} {meth : Method} {c : Code} {A : Nat → Prop} {b : Nat} {xs : Nat → Int32} (dC : Nat → ClassId) (dI : Nat → Nat → Nat) (cd : Nat → Nat) (kI kQ kJ kZ : ClassId) (ou g0 : Nat) (ad : Nat → Nat) (i Ln : Nat) (hi : i + 6 ≤ Ln) (hLn : Ln ≤ 3072) (hX : va_X b Ln xs s s.heap) (cells slots : Nat) (hcl : cells + 3 ≤ 601024) (hsl : slots + 29 ≤ 7293033) (T : Int) (hT : T + 1000 ≤ 1000000) (hl9 : l.stackTraces = false) (hx : p.tables.exec = Jvm.exec) (hb : c.code = code) (hr : meth.sig.returnType = ret) (hlocks : meth.locks = false) (hbl : b < s.heap.size) (hbA : ¬ A b) (hAB : ∀ q, A q → s.heap.size ≤ q) (hml : c.maxLocals = 8) (hown : s.vm.findClass R_LW = some m.cls) (ht : ∀ w ∈ tb_, w.before #[Value.ref b] s = true) (hA : ∀ q : Nat, s.heap.size ≤ q → A q) (hBs : s.heap.size ≤ s.heap.size) (hV : tw_V s.heap.size s s.heap) (hK : va_K (dC, dI) cls_ (LT kI kQ kJ kZ) s)
    (kk : ∀ (L : List Nat) (isA : Nat → Bool) (bk : Nat → Nat) (sc : Nat → Int32) (ia : Nat → Nat → Int32) (qa : Nat → Nat → Option Nat) (rf ba : Nat → Nat → Int32) (g : Nat → Int64) (sm : Nat → Int32) (im : Nat → Nat → Int32) (H : Heap) (locs : List Loc) (ls : Array Slot), LR (T + 1000) L isA bk sc qa rf sm im → va_P (dC, dI) cls_ (LWd cd kI kQ kJ kZ ou g0 ad L isA bk sc ia qa rf ba g sm im) H → va_D A (LWd cd kI kQ kJ kZ ou g0 ad L isA bk sc ia qa rf ba g sm im) → va_S A s.heap H locs → lv_has ls 8 [(4, .int (nI i)), (3, .ref ou), (2, .ref g0), (1, .ref (cd 0)), (0, .ref b)] → W p l e room_1 s m #[Value.ref b] below meth c H locs (cells + 3) (slots + 29) (lw_Z below #[Value.ref b] s) (F0 m 820 ls []))
    (L : List Nat) (isA : Nat → Bool) (bk : Nat → Nat) (sc : Nat → Int32) (ia : Nat → Nat → Int32) (qa : Nat → Nat → Option Nat) (rf ba : Nat → Nat → Int32) (g : Nat → Int64) (sm : Nat → Int32) (im : Nat → Nat → Int32) (H : Heap) (locs : List Loc) (ls : Array Slot) (hR : LR T L isA bk sc qa rf sm im) (hP : va_P (dC, dI) cls_ (LWd cd kI kQ kJ kZ ou g0 ad L isA bk sc ia qa rf ba g sm im) H) (hD : va_D A (LWd cd kI kQ kJ kZ ou g0 ad L isA bk sc ia qa rf ba g sm im)) (hS : va_S A s.heap H locs) (hl : lv_has ls 8 [(4, .int (nI i)), (3, .ref ou), (2, .ref g0), (1, .ref (cd 0)), (0, .ref b)]) : W p l e room_1 s m #[Value.ref b] below meth c H locs cells slots (lw_Z below #[Value.ref b] s) (F0 m 469 ls []) := by
  obtain ⟨⟨N, hC⟩, ⟨NM, hM0⟩, hR1, hR2⟩ := hR
  have hm9 := hM0.2.1
  have hI := MI_wk hM0 (show T ≤ T + 1000 by omega) hT
  have hK3 : va_K (dC, dI) cls_ (CTJ kI kQ kJ) s := hK.sub (tys' := CTJ kI kQ kJ) [0, 1, 2] rfl
  have hK2 : va_K (dC, dI) cls_ (CT kI kQ) s := hK.sub (tys' := CT kI kQ) [0, 1] rfl
  have hK4 : va_K (dC, dI) cls_ (MOT kI kZ) s := hK.sub (tys' := MOT kI kZ) [0, 3] rfl
  refine lv_aload_n hx hb d_LW_law_469 rfl (lv_at hl 3 rfl) ?_
  refine lv_aload_n hx hb d_LW_law_470 rfl (lv_at hl 4 rfl) ?_
  refine lv_iload hx hb d_LW_law_471 (lv_at hl 0 rfl) ?_
  refine lv_iconst (v := 1) hx hb d_LW_law_473 (by decide) ?_
  refine lv_iadd hx hb d_LW_law_474 ?_
  refine lv_topi (fun v1 ev1 => ?_)
  obtain rfl : v1 = nI (i + 1) := ev1.trans (by rw [show (1 : Int32) = nI 1 from rfl, nI_add])
  refine va_sld hx hb hX hbl hbA hS (vp_in_nI (show i + 1 < Ln by omega) (by omega)) d_LW_law_475 ?_
  refine W.eq (g2 := F0 m 476 ls [.int (xs (i + 1)), .ref (cd 0)]) (by rw [nI_clamp (show i + 1 < 2 ^ 31 by omega)]) ?_
  refine lv_aload_n hx hb d_LW_law_476 rfl (lv_at hl 4 rfl) ?_
  refine lv_iload hx hb d_LW_law_477 (lv_at hl 0 rfl) ?_
  refine lv_iconst (v := 2) hx hb d_LW_law_479 (by decide) ?_
  refine lv_iadd hx hb d_LW_law_480 ?_
  refine lv_topi (fun v2 ev2 => ?_)
  obtain rfl : v2 = nI (i + 2) := ev2.trans (by rw [show (2 : Int32) = nI 2 from rfl, nI_add])
  refine va_sld hx hb hX hbl hbA hS (vp_in_nI (show i + 2 < Ln by omega) (by omega)) d_LW_law_481 ?_
  refine W.eq (g2 := F0 m 482 ls [.int (xs (i + 2)), .int (xs (i + 1)), .ref (cd 0)]) (by rw [nI_clamp (show i + 2 < 2 ^ 31 by omega)]) ?_
  refine lv_aload_n hx hb d_LW_law_482 rfl (lv_at hl 1 rfl) ?_
  refine t_callF (E := MOW g0 ad kI kZ sm im) (u0 := (((L, isA, bk), (sc, ia, qa, rf, ba)), g)) (w0 := oW ou kJ g ++ CW cd kI kQ L isA bk sc ia qa rf ba) rfl (tw_runSW (As := [.ref (cd 0), .int (xs (i + 1)), .int (xs (i + 2)), .ref ou]) (rest := []) ⟨hx, hb, hml, hown, ht⟩ (w_LW_word_c l dC dI cd kI kQ L isA bk sc ia qa rf ba kJ ou g H.size s.heap.size hl9 N hC (xs (i + 1)) (xs (i + 2))) rfl rfl ⟨Nat.le_of_ble_eq_true rfl, Nat.le_of_ble_eq_true rfl⟩ (pay_in ht (gW tb_528)) (show _ ∈ w_LW_word from List.mem_cons_self) (ht _ tb_526) (ht _ tb_527) (ht _ tb_0) (n := 4) (by decide +kernel) ⟨frP_blind, fr_pre (ap_P hP) hK3 (ap_D hD) hAB hBs hS hV⟩ rfl rfl hl.1 rfl (lv_room (Nat.le_of_ble_eq_true rfl)) d_LW_law_483 ⟨show cells + 1 ≤ 601024 by omega, show slots + 6 ≤ 7293033 by omega⟩) hP hD hS hA (fun k1 u H locs hu hP hD hS => ?_)
  obtain ⟨⟨⟨L1, isA1, bk1⟩, sc1, ia1, qa1, rf1, ba1⟩, g1⟩ := u
  obtain ⟨hs1, ⟨N1, hC1⟩⟩ := hu
  have hs1 : same [] sc sc1 := hs1
  have hC1 : CI N1 L1 isA1 bk1 sc1 qa1 rf1 := hC1
  have hP : va_P (dC, dI) cls_ (LWd cd kI kQ kJ kZ ou g0 ad L1 isA1 bk1 sc1 ia1 qa1 rf1 ba1 g1 sm im) H := hP
  have hD : va_D A (LWd cd kI kQ kJ kZ ou g0 ad L1 isA1 bk1 sc1 ia1 qa1 rf1 ba1 g1 sm im) := hD
  refine W.eq (g2 := F0 m 486 ls [.int k1]) rfl ?_
  refine W.cs (cells' := cells + 1) (slots' := slots + 6) rfl rfl ?_
  refine lv_istore hx hb d_LW_law_486 hl (by decide) rfl (fun ls hl => ?_)
  have hl : lv_has ls 8 [(5, .int k1), (4, .int (nI i)), (3, .ref ou), (2, .ref g0), (1, .ref (cd 0)), (0, .ref b)] := hl
  refine lv_aload_n hx hb d_LW_law_488 rfl (lv_at hl 3 rfl) ?_
  refine lv_aload_n hx hb d_LW_law_489 rfl (lv_at hl 5 rfl) ?_
  refine lv_iload hx hb d_LW_law_490 (lv_at hl 1 rfl) ?_
  refine lv_iconst (v := 1) hx hb d_LW_law_492 (by decide) ?_
  refine lv_iadd hx hb d_LW_law_493 ?_
  refine lv_topi (fun v3 ev3 => ?_)
  obtain rfl : v3 = nI (i + 1) := ev3.trans (by rw [show (1 : Int32) = nI 1 from rfl, nI_add])
  refine va_sld hx hb hX hbl hbA hS (vp_in_nI (show i + 1 < Ln by omega) (by omega)) d_LW_law_494 ?_
  refine W.eq (g2 := F0 m 495 ls [.int (xs (i + 1)), .ref g0]) (by rw [nI_clamp (show i + 1 < 2 ^ 31 by omega)]) ?_
  refine lv_aload_n hx hb d_LW_law_495 rfl (lv_at hl 5 rfl) ?_
  refine lv_iload hx hb d_LW_law_496 (lv_at hl 1 rfl) ?_
  refine lv_iconst (v := 2) hx hb d_LW_law_498 (by decide) ?_
  refine lv_iadd hx hb d_LW_law_499 ?_
  refine lv_topi (fun v4 ev4 => ?_)
  obtain rfl : v4 = nI (i + 2) := ev4.trans (by rw [show (2 : Int32) = nI 2 from rfl, nI_add])
  refine va_sld hx hb hX hbl hbA hS (vp_in_nI (show i + 2 < Ln by omega) (by omega)) d_LW_law_500 ?_
  refine W.eq (g2 := F0 m 501 ls [.int (xs (i + 2)), .int (xs (i + 1)), .ref g0]) (by rw [nI_clamp (show i + 2 < 2 ^ 31 by omega)]) ?_
  refine t_callF (E := oW ou kJ g1 ++ CW cd kI kQ L1 isA1 bk1 sc1 ia1 qa1 rf1 ba1) (u0 := (sm, im)) (w0 := MOW g0 ad kI kZ sm im) rfl (va_runV (C := R_MO) (As := [.int (xs (i + 1)), .int (xs (i + 2))]) (rest := []) ⟨hx, hb, hml, hown, ht⟩ (t_MO_word l dC dI g0 ad kI kZ sm im H.size s.heap.size ((T + 1000)) NM hI (xs (i + 1)) (xs (i + 2))) (cwV 2 ht (gV tb_866 tb_867 tb_868 tb_5 tb_869) rfl rfl rfl (by decide +kernel) ⟨Nat.le_of_ble_eq_true rfl, Nat.le_of_ble_eq_true rfl⟩) ⟨frP_blind, va_recv (q := (R_MO, F_MO, 30)) hK hP rfl (show (LWd cd kI kQ kJ kZ ou g0 ad L1 isA1 bk1 sc1 ia1 qa1 rf1 ba1 g1 sm im : va_W)[0]? = some _ from rfl), fr_pre (ap_P (wc_P hP)) hK4 (ap_D (wc_D hD)) hAB hBs hS hV⟩ rfl rfl hl.1 rfl (lv_room (Nat.le_of_ble_eq_true rfl)) d_LW_law_501 ⟨show cells + 1 + 0 ≤ 601024 by omega, show slots + 6 + 0 ≤ 7293033 by omega⟩) (wc_P hP) (wc_D hD) hS hA (fun b1 u H locs hu hP hD hS => ?_)
  obtain ⟨sm1, im1⟩ := u
  obtain ⟨hm1, -, hI1⟩ := hu
  have hm1 : same [0] sm sm1 := hm1
  obtain ⟨NM1, eNM1⟩ : ∃ q9_, q9_ = NM := ⟨_, rfl⟩
  rw [← eNM1] at hI1
  have hI1 : MI (T + 1000) NM1 sm1 im1 := hI1
  have hP := wc_P hP
  have hD := wc_D hD
  have hP : va_P (dC, dI) cls_ (LWd cd kI kQ kJ kZ ou g0 ad L1 isA1 bk1 sc1 ia1 qa1 rf1 ba1 g1 sm1 im1) H := hP
  have hD : va_D A (LWd cd kI kQ kJ kZ ou g0 ad L1 isA1 bk1 sc1 ia1 qa1 rf1 ba1 g1 sm1 im1) := hD
  refine W.eq (g2 := F0 m 504 ls [.long b1]) rfl ?_
  refine W.cs (cells' := cells + 1) (slots' := slots + 6) rfl rfl ?_
  refine lv_lstore hx hb d_LW_law_504 hl (by decide) rfl (fun ls hl => ?_)
  have hl : lv_has ls 8 [(6, .long b1), (5, .int k1), (4, .int (nI i)), (3, .ref ou), (2, .ref g0), (1, .ref (cd 0)), (0, .ref b)] := hl
  refine lv_goto (tgt := 820) hx hb d_LW_law_506 (by decide) ?_
  have hl := lv_sub hl [2, 3, 4, 5, 6] (l' := [(4, .int (nI i)), (3, .ref ou), (2, .ref g0), (1, .ref (cd 0)), (0, .ref b)]) rfl
  have hq1 : sc1 1 = sm1 1 := (hs1 1 (by decide)).trans (hR1.trans (hm1 1 (by decide)).symm)
  have hq2 : sc1 2 = sm1 2 := (hs1 2 (by decide)).trans (hR2.trans (hm1 2 (by decide)).symm)
  refine W.widen (k := cells + 3) (n := slots + 29) (by omega) (by omega) ?_
  exact kk L1 isA1 bk1 sc1 ia1 qa1 rf1 ba1 g1 sm1 im1 H locs ls ⟨⟨_, hC1⟩, ⟨_, hI1⟩, hq1, hq2⟩ hP hD hS hl
set_option maxHeartbeats 8000000 in
set_option maxRecDepth 100000 in
theorem cs_12 {p : Program} {l : Launch} {e : Env} {s : State} {m : MethodId} {below : List Frame} {meth : Method} {c : Code} {A : Nat → Prop} {b : Nat} {xs : Nat → Int32} (dC : Nat → ClassId) (dI : Nat → Nat → Nat) (cd : Nat → Nat) (kI kQ kJ kZ : ClassId) (ou g0 : Nat) (ad : Nat → Nat) (i Ln : Nat) (hi : i + 6 ≤ Ln) (hLn : Ln ≤ 3072) (hX : va_X b Ln xs s s.heap) (cells slots : Nat) (hcl : cells + 3 ≤ 601024) (hsl : slots + 29 ≤ 7293033) (T : Int) (hT : T + 1000 ≤ 1000000) (hl9 : l.stackTraces = false) (hx : p.tables.exec = Jvm.exec) (hb : c.code = code) (hr : meth.sig.returnType = ret) (hlocks : meth.locks = false) (hbl : b < s.heap.size) (hbA : ¬ A b) (hAB : ∀ q, A q → s.heap.size ≤ q) (hml : c.maxLocals = 8) (hown : s.vm.findClass R_LW = some m.cls) (ht : ∀ w ∈ tb_, w.before #[Value.ref b] s = true) (hA : ∀ q : Nat, s.heap.size ≤ q → A q) (hBs : s.heap.size ≤ s.heap.size) (hV : tw_V s.heap.size s s.heap) (hK : va_K (dC, dI) cls_ (LT kI kQ kJ kZ) s)
    (kk : ∀ (L : List Nat) (isA : Nat → Bool) (bk : Nat → Nat) (sc : Nat → Int32) (ia : Nat → Nat → Int32) (qa : Nat → Nat → Option Nat) (rf ba : Nat → Nat → Int32) (g : Nat → Int64) (sm : Nat → Int32) (im : Nat → Nat → Int32) (H : Heap) (locs : List Loc) (ls : Array Slot), LR (T + 1000) L isA bk sc qa rf sm im → va_P (dC, dI) cls_ (LWd cd kI kQ kJ kZ ou g0 ad L isA bk sc ia qa rf ba g sm im) H → va_D A (LWd cd kI kQ kJ kZ ou g0 ad L isA bk sc ia qa rf ba g sm im) → va_S A s.heap H locs → lv_has ls 8 [(4, .int (nI i)), (3, .ref ou), (2, .ref g0), (1, .ref (cd 0)), (0, .ref b)] → W p l e room_1 s m #[Value.ref b] below meth c H locs (cells + 3) (slots + 29) (lw_Z below #[Value.ref b] s) (F0 m 820 ls []))
    (L : List Nat) (isA : Nat → Bool) (bk : Nat → Nat) (sc : Nat → Int32) (ia : Nat → Nat → Int32) (qa : Nat → Nat → Option Nat) (rf ba : Nat → Nat → Int32) (g : Nat → Int64) (sm : Nat → Int32) (im : Nat → Nat → Int32) (H : Heap) (locs : List Loc) (ls : Array Slot) (hR : LR T L isA bk sc qa rf sm im) (hP : va_P (dC, dI) cls_ (LWd cd kI kQ kJ kZ ou g0 ad L isA bk sc ia qa rf ba g sm im) H) (hD : va_D A (LWd cd kI kQ kJ kZ ou g0 ad L isA bk sc ia qa rf ba g sm im)) (hS : va_S A s.heap H locs) (hl : lv_has ls 8 [(4, .int (nI i)), (3, .ref ou), (2, .ref g0), (1, .ref (cd 0)), (0, .ref b)]) : W p l e room_1 s m #[Value.ref b] below meth c H locs cells slots (lw_Z below #[Value.ref b] s) (F0 m 509 ls []) := by
  obtain ⟨⟨N, hC⟩, ⟨NM, hM0⟩, hR1, hR2⟩ := hR
  have hm9 := hM0.2.1
  have hI := MI_wk hM0 (show T ≤ T + 1000 by omega) hT
  have hK3 : va_K (dC, dI) cls_ (CTJ kI kQ kJ) s := hK.sub (tys' := CTJ kI kQ kJ) [0, 1, 2] rfl
  have hK2 : va_K (dC, dI) cls_ (CT kI kQ) s := hK.sub (tys' := CT kI kQ) [0, 1] rfl
  have hK4 : va_K (dC, dI) cls_ (MOT kI kZ) s := hK.sub (tys' := MOT kI kZ) [0, 3] rfl
  refine lv_aload_n hx hb d_LW_law_509 rfl (lv_at hl 3 rfl) ?_
  refine lv_aload_n hx hb d_LW_law_510 rfl (lv_at hl 4 rfl) ?_
  refine lv_iload hx hb d_LW_law_511 (lv_at hl 0 rfl) ?_
  refine lv_iconst (v := 1) hx hb d_LW_law_513 (by decide) ?_
  refine lv_iadd hx hb d_LW_law_514 ?_
  refine lv_topi (fun v1 ev1 => ?_)
  obtain rfl : v1 = nI (i + 1) := ev1.trans (by rw [show (1 : Int32) = nI 1 from rfl, nI_add])
  refine va_sld hx hb hX hbl hbA hS (vp_in_nI (show i + 1 < Ln by omega) (by omega)) d_LW_law_515 ?_
  refine W.eq (g2 := F0 m 516 ls [.int (xs (i + 1)), .ref (cd 0)]) (by rw [nI_clamp (show i + 1 < 2 ^ 31 by omega)]) ?_
  refine lv_aload_n hx hb d_LW_law_516 rfl (lv_at hl 1 rfl) ?_
  refine t_callF (E := MOW g0 ad kI kZ sm im) (u0 := (((L, isA, bk), (sc, ia, qa, rf, ba)), g)) (w0 := oW ou kJ g ++ CW cd kI kQ L isA bk sc ia qa rf ba) rfl (tw_runSW (As := [.ref (cd 0), .int (xs (i + 1)), .ref ou]) (rest := []) ⟨hx, hb, hml, hown, ht⟩ (w_LW_recorded_c l dC dI cd kI kQ L isA bk sc ia qa rf ba kJ ou g H.size s.heap.size hl9 N hC (xs (i + 1))) rfl rfl ⟨Nat.le_of_ble_eq_true rfl, Nat.le_of_ble_eq_true rfl⟩ (pay_in ht (gW tb_542)) (show _ ∈ w_LW_recorded from List.mem_cons_self) (ht _ tb_540) (ht _ tb_541) (ht _ tb_0) (n := 3) (by decide +kernel) ⟨frP_blind, fr_pre (ap_P hP) hK3 (ap_D hD) hAB hBs hS hV⟩ rfl rfl hl.1 rfl (lv_room (Nat.le_of_ble_eq_true rfl)) d_LW_law_517 ⟨show cells + 1 ≤ 601024 by omega, show slots + 6 ≤ 7293033 by omega⟩) hP hD hS hA (fun k1 u H locs hu hP hD hS => ?_)
  obtain ⟨⟨⟨L1, isA1, bk1⟩, sc1, ia1, qa1, rf1, ba1⟩, g1⟩ := u
  obtain ⟨hs1, ⟨N1, hC1⟩⟩ := hu
  have hs1 : same [] sc sc1 := hs1
  have hC1 : CI N1 L1 isA1 bk1 sc1 qa1 rf1 := hC1
  have hP : va_P (dC, dI) cls_ (LWd cd kI kQ kJ kZ ou g0 ad L1 isA1 bk1 sc1 ia1 qa1 rf1 ba1 g1 sm im) H := hP
  have hD : va_D A (LWd cd kI kQ kJ kZ ou g0 ad L1 isA1 bk1 sc1 ia1 qa1 rf1 ba1 g1 sm im) := hD
  refine W.eq (g2 := F0 m 520 ls [.int k1]) rfl ?_
  refine W.cs (cells' := cells + 1) (slots' := slots + 6) rfl rfl ?_
  refine lv_istore hx hb d_LW_law_520 hl (by decide) rfl (fun ls hl => ?_)
  have hl : lv_has ls 8 [(5, .int k1), (4, .int (nI i)), (3, .ref ou), (2, .ref g0), (1, .ref (cd 0)), (0, .ref b)] := hl
  refine lv_aload_n hx hb d_LW_law_522 rfl (lv_at hl 3 rfl) ?_
  refine lv_aload_n hx hb d_LW_law_523 rfl (lv_at hl 5 rfl) ?_
  refine lv_iload hx hb d_LW_law_524 (lv_at hl 1 rfl) ?_
  refine lv_iconst (v := 1) hx hb d_LW_law_526 (by decide) ?_
  refine lv_iadd hx hb d_LW_law_527 ?_
  refine lv_topi (fun v2 ev2 => ?_)
  obtain rfl : v2 = nI (i + 1) := ev2.trans (by rw [show (1 : Int32) = nI 1 from rfl, nI_add])
  refine va_sld hx hb hX hbl hbA hS (vp_in_nI (show i + 1 < Ln by omega) (by omega)) d_LW_law_528 ?_
  refine W.eq (g2 := F0 m 529 ls [.int (xs (i + 1)), .ref g0]) (by rw [nI_clamp (show i + 1 < 2 ^ 31 by omega)]) ?_
  refine t_callF (E := oW ou kJ g1 ++ CW cd kI kQ L1 isA1 bk1 sc1 ia1 qa1 rf1 ba1) (u0 := (sm, im)) (w0 := MOW g0 ad kI kZ sm im) rfl (va_runV (C := R_MO) (As := [.int (xs (i + 1))]) (rest := []) ⟨hx, hb, hml, hown, ht⟩ (t_MO_recorded l dC dI g0 ad kI kZ sm im H.size s.heap.size ((T + 1000)) NM hI (xs (i + 1))) (cwV 1 ht (gV tb_870 tb_871 tb_872 tb_5 tb_873) rfl rfl rfl (by decide +kernel) ⟨Nat.le_of_ble_eq_true rfl, Nat.le_of_ble_eq_true rfl⟩) ⟨frP_blind, va_recv (q := (R_MO, F_MO, 30)) hK hP rfl (show (LWd cd kI kQ kJ kZ ou g0 ad L1 isA1 bk1 sc1 ia1 qa1 rf1 ba1 g1 sm im : va_W)[0]? = some _ from rfl), fr_pre (ap_P (wc_P hP)) hK4 (ap_D (wc_D hD)) hAB hBs hS hV⟩ rfl rfl hl.1 rfl (lv_room (Nat.le_of_ble_eq_true rfl)) d_LW_law_529 ⟨show cells + 1 + 0 ≤ 601024 by omega, show slots + 6 + 0 ≤ 7293033 by omega⟩) (wc_P hP) (wc_D hD) hS hA (fun b1 u H locs hu hP hD hS => ?_)
  obtain ⟨sm1, im1⟩ := u
  obtain ⟨hm1, -, hI1⟩ := hu
  have hm1 : same [0] sm sm1 := hm1
  obtain ⟨NM1, eNM1⟩ : ∃ q9_, q9_ = NM := ⟨_, rfl⟩
  rw [← eNM1] at hI1
  have hI1 : MI (T + 1000) NM1 sm1 im1 := hI1
  have hP := wc_P hP
  have hD := wc_D hD
  have hP : va_P (dC, dI) cls_ (LWd cd kI kQ kJ kZ ou g0 ad L1 isA1 bk1 sc1 ia1 qa1 rf1 ba1 g1 sm1 im1) H := hP
  have hD : va_D A (LWd cd kI kQ kJ kZ ou g0 ad L1 isA1 bk1 sc1 ia1 qa1 rf1 ba1 g1 sm1 im1) := hD
  refine W.eq (g2 := F0 m 532 ls [.int b1]) rfl ?_
  refine W.cs (cells' := cells + 1) (slots' := slots + 6) rfl rfl ?_
  refine lv_istore hx hb d_LW_law_532 hl (by decide) rfl (fun ls hl => ?_)
  have hl : lv_has ls 8 [(6, .int b1), (5, .int k1), (4, .int (nI i)), (3, .ref ou), (2, .ref g0), (1, .ref (cd 0)), (0, .ref b)] := hl
  refine lv_goto (tgt := 820) hx hb d_LW_law_534 (by decide) ?_
  have hl := lv_sub hl [2, 3, 4, 5, 6] (l' := [(4, .int (nI i)), (3, .ref ou), (2, .ref g0), (1, .ref (cd 0)), (0, .ref b)]) rfl
  have hq1 : sc1 1 = sm1 1 := (hs1 1 (by decide)).trans (hR1.trans (hm1 1 (by decide)).symm)
  have hq2 : sc1 2 = sm1 2 := (hs1 2 (by decide)).trans (hR2.trans (hm1 2 (by decide)).symm)
  refine W.widen (k := cells + 3) (n := slots + 29) (by omega) (by omega) ?_
  exact kk L1 isA1 bk1 sc1 ia1 qa1 rf1 ba1 g1 sm1 im1 H locs ls ⟨⟨_, hC1⟩, ⟨_, hI1⟩, hq1, hq2⟩ hP hD hS hl
set_option maxHeartbeats 8000000 in
set_option maxRecDepth 100000 in
theorem cs_13 {p : Program} {l : Launch} {e : Env} {s : State} {m : MethodId} {below : List Frame} {meth : Method} {c : Code} {A : Nat → Prop} {b : Nat} {xs : Nat → Int32} (dC : Nat → ClassId) (dI : Nat → Nat → Nat) (cd : Nat → Nat) (kI kQ kJ kZ : ClassId) (ou g0 : Nat) (ad : Nat → Nat) (i Ln : Nat) (hi : i + 6 ≤ Ln) (hLn : Ln ≤ 3072) (hX : va_X b Ln xs s s.heap) (cells slots : Nat) (hcl : cells + 3 ≤ 601024) (hsl : slots + 29 ≤ 7293033) (T : Int) (hT : T + 1000 ≤ 1000000) (hl9 : l.stackTraces = false) (hx : p.tables.exec = Jvm.exec) (hb : c.code = code) (hr : meth.sig.returnType = ret) (hlocks : meth.locks = false) (hbl : b < s.heap.size) (hbA : ¬ A b) (hAB : ∀ q, A q → s.heap.size ≤ q) (hml : c.maxLocals = 8) (hown : s.vm.findClass R_LW = some m.cls) (ht : ∀ w ∈ tb_, w.before #[Value.ref b] s = true) (hA : ∀ q : Nat, s.heap.size ≤ q → A q) (hBs : s.heap.size ≤ s.heap.size) (hV : tw_V s.heap.size s s.heap) (hK : va_K (dC, dI) cls_ (LT kI kQ kJ kZ) s)
    (kk : ∀ (L : List Nat) (isA : Nat → Bool) (bk : Nat → Nat) (sc : Nat → Int32) (ia : Nat → Nat → Int32) (qa : Nat → Nat → Option Nat) (rf ba : Nat → Nat → Int32) (g : Nat → Int64) (sm : Nat → Int32) (im : Nat → Nat → Int32) (H : Heap) (locs : List Loc) (ls : Array Slot), LR (T + 1000) L isA bk sc qa rf sm im → va_P (dC, dI) cls_ (LWd cd kI kQ kJ kZ ou g0 ad L isA bk sc ia qa rf ba g sm im) H → va_D A (LWd cd kI kQ kJ kZ ou g0 ad L isA bk sc ia qa rf ba g sm im) → va_S A s.heap H locs → lv_has ls 8 [(4, .int (nI i)), (3, .ref ou), (2, .ref g0), (1, .ref (cd 0)), (0, .ref b)] → W p l e room_1 s m #[Value.ref b] below meth c H locs (cells + 3) (slots + 29) (lw_Z below #[Value.ref b] s) (F0 m 820 ls []))
    (L : List Nat) (isA : Nat → Bool) (bk : Nat → Nat) (sc : Nat → Int32) (ia : Nat → Nat → Int32) (qa : Nat → Nat → Option Nat) (rf ba : Nat → Nat → Int32) (g : Nat → Int64) (sm : Nat → Int32) (im : Nat → Nat → Int32) (H : Heap) (locs : List Loc) (ls : Array Slot) (hR : LR T L isA bk sc qa rf sm im) (hP : va_P (dC, dI) cls_ (LWd cd kI kQ kJ kZ ou g0 ad L isA bk sc ia qa rf ba g sm im) H) (hD : va_D A (LWd cd kI kQ kJ kZ ou g0 ad L isA bk sc ia qa rf ba g sm im)) (hS : va_S A s.heap H locs) (hl : lv_has ls 8 [(4, .int (nI i)), (3, .ref ou), (2, .ref g0), (1, .ref (cd 0)), (0, .ref b)]) : W p l e room_1 s m #[Value.ref b] below meth c H locs cells slots (lw_Z below #[Value.ref b] s) (F0 m 537 ls []) := by
  obtain ⟨⟨N, hC⟩, ⟨NM, hM0⟩, hR1, hR2⟩ := hR
  have hm9 := hM0.2.1
  have hI := MI_wk hM0 (show T ≤ T + 1000 by omega) hT
  have hK3 : va_K (dC, dI) cls_ (CTJ kI kQ kJ) s := hK.sub (tys' := CTJ kI kQ kJ) [0, 1, 2] rfl
  have hK2 : va_K (dC, dI) cls_ (CT kI kQ) s := hK.sub (tys' := CT kI kQ) [0, 1] rfl
  have hK4 : va_K (dC, dI) cls_ (MOT kI kZ) s := hK.sub (tys' := MOT kI kZ) [0, 3] rfl
  refine lv_aload_n hx hb d_LW_law_537 rfl (lv_at hl 3 rfl) ?_
  refine lv_aload_n hx hb d_LW_law_538 rfl (lv_at hl 4 rfl) ?_
  refine lv_iload hx hb d_LW_law_539 (lv_at hl 0 rfl) ?_
  refine lv_iconst (v := 1) hx hb d_LW_law_541 (by decide) ?_
  refine lv_iadd hx hb d_LW_law_542 ?_
  refine lv_topi (fun v1 ev1 => ?_)
  obtain rfl : v1 = nI (i + 1) := ev1.trans (by rw [show (1 : Int32) = nI 1 from rfl, nI_add])
  refine va_sld hx hb hX hbl hbA hS (vp_in_nI (show i + 1 < Ln by omega) (by omega)) d_LW_law_543 ?_
  refine W.eq (g2 := F0 m 544 ls [.int (xs (i + 1)), .ref (cd 0)]) (by rw [nI_clamp (show i + 1 < 2 ^ 31 by omega)]) ?_
  refine lv_aload_n hx hb d_LW_law_544 rfl (lv_at hl 1 rfl) ?_
  refine t_callF (E := MOW g0 ad kI kZ sm im) (u0 := (((L, isA, bk), (sc, ia, qa, rf, ba)), g)) (w0 := oW ou kJ g ++ CW cd kI kQ L isA bk sc ia qa rf ba) rfl (tw_runSW (As := [.ref (cd 0), .int (xs (i + 1)), .ref ou]) (rest := []) ⟨hx, hb, hml, hown, ht⟩ (w_LW_shortBy_c l dC dI cd kI kQ L isA bk sc ia qa rf ba kJ ou g H.size s.heap.size hl9 N hC (xs (i + 1))) rfl rfl ⟨Nat.le_of_ble_eq_true rfl, Nat.le_of_ble_eq_true rfl⟩ (pay_in ht (gW tb_554)) (show _ ∈ w_LW_shortBy from List.mem_cons_self) (ht _ tb_552) (ht _ tb_553) (ht _ tb_0) (n := 3) (by decide +kernel) ⟨frP_blind, fr_pre (ap_P hP) hK3 (ap_D hD) hAB hBs hS hV⟩ rfl rfl hl.1 rfl (lv_room (Nat.le_of_ble_eq_true rfl)) d_LW_law_545 ⟨show cells + 1 ≤ 601024 by omega, show slots + 6 ≤ 7293033 by omega⟩) hP hD hS hA (fun k1 u H locs hu hP hD hS => ?_)
  obtain ⟨⟨⟨L1, isA1, bk1⟩, sc1, ia1, qa1, rf1, ba1⟩, g1⟩ := u
  obtain ⟨hs1, ⟨N1, hC1⟩⟩ := hu
  have hs1 : same [] sc sc1 := hs1
  have hC1 : CI N1 L1 isA1 bk1 sc1 qa1 rf1 := hC1
  have hP : va_P (dC, dI) cls_ (LWd cd kI kQ kJ kZ ou g0 ad L1 isA1 bk1 sc1 ia1 qa1 rf1 ba1 g1 sm im) H := hP
  have hD : va_D A (LWd cd kI kQ kJ kZ ou g0 ad L1 isA1 bk1 sc1 ia1 qa1 rf1 ba1 g1 sm im) := hD
  refine W.eq (g2 := F0 m 548 ls [.int k1]) rfl ?_
  refine W.cs (cells' := cells + 1) (slots' := slots + 6) rfl rfl ?_
  refine lv_istore hx hb d_LW_law_548 hl (by decide) rfl (fun ls hl => ?_)
  have hl : lv_has ls 8 [(5, .int k1), (4, .int (nI i)), (3, .ref ou), (2, .ref g0), (1, .ref (cd 0)), (0, .ref b)] := hl
  refine lv_aload_n hx hb d_LW_law_550 rfl (lv_at hl 3 rfl) ?_
  refine lv_aload_n hx hb d_LW_law_551 rfl (lv_at hl 5 rfl) ?_
  refine lv_iload hx hb d_LW_law_552 (lv_at hl 1 rfl) ?_
  refine lv_iconst (v := 1) hx hb d_LW_law_554 (by decide) ?_
  refine lv_iadd hx hb d_LW_law_555 ?_
  refine lv_topi (fun v2 ev2 => ?_)
  obtain rfl : v2 = nI (i + 1) := ev2.trans (by rw [show (1 : Int32) = nI 1 from rfl, nI_add])
  refine va_sld hx hb hX hbl hbA hS (vp_in_nI (show i + 1 < Ln by omega) (by omega)) d_LW_law_556 ?_
  refine W.eq (g2 := F0 m 557 ls [.int (xs (i + 1)), .ref g0]) (by rw [nI_clamp (show i + 1 < 2 ^ 31 by omega)]) ?_
  refine t_callF (E := oW ou kJ g1 ++ CW cd kI kQ L1 isA1 bk1 sc1 ia1 qa1 rf1 ba1) (u0 := (sm, im)) (w0 := MOW g0 ad kI kZ sm im) rfl (va_runV (C := R_MO) (As := [.int (xs (i + 1))]) (rest := []) ⟨hx, hb, hml, hown, ht⟩ (t_MO_shortBy l dC dI g0 ad kI kZ sm im H.size s.heap.size ((T + 1000)) NM hI (xs (i + 1))) (cwV 1 ht (gV tb_874 tb_875 tb_876 tb_5 tb_877) rfl rfl rfl (by decide +kernel) ⟨Nat.le_of_ble_eq_true rfl, Nat.le_of_ble_eq_true rfl⟩) ⟨frP_blind, va_recv (q := (R_MO, F_MO, 30)) hK hP rfl (show (LWd cd kI kQ kJ kZ ou g0 ad L1 isA1 bk1 sc1 ia1 qa1 rf1 ba1 g1 sm im : va_W)[0]? = some _ from rfl), fr_pre (ap_P (wc_P hP)) hK4 (ap_D (wc_D hD)) hAB hBs hS hV⟩ rfl rfl hl.1 rfl (lv_room (Nat.le_of_ble_eq_true rfl)) d_LW_law_557 ⟨show cells + 1 + 0 ≤ 601024 by omega, show slots + 6 + 0 ≤ 7293033 by omega⟩) (wc_P hP) (wc_D hD) hS hA (fun b1 u H locs hu hP hD hS => ?_)
  obtain ⟨sm1, im1⟩ := u
  obtain ⟨hm1, -, hI1⟩ := hu
  have hm1 : same [0] sm sm1 := hm1
  obtain ⟨NM1, eNM1⟩ : ∃ q9_, q9_ = NM := ⟨_, rfl⟩
  rw [← eNM1] at hI1
  have hI1 : MI (T + 1000) NM1 sm1 im1 := hI1
  have hP := wc_P hP
  have hD := wc_D hD
  have hP : va_P (dC, dI) cls_ (LWd cd kI kQ kJ kZ ou g0 ad L1 isA1 bk1 sc1 ia1 qa1 rf1 ba1 g1 sm1 im1) H := hP
  have hD : va_D A (LWd cd kI kQ kJ kZ ou g0 ad L1 isA1 bk1 sc1 ia1 qa1 rf1 ba1 g1 sm1 im1) := hD
  refine W.eq (g2 := F0 m 560 ls [.int b1]) rfl ?_
  refine W.cs (cells' := cells + 1) (slots' := slots + 6) rfl rfl ?_
  refine lv_istore hx hb d_LW_law_560 hl (by decide) rfl (fun ls hl => ?_)
  have hl : lv_has ls 8 [(6, .int b1), (5, .int k1), (4, .int (nI i)), (3, .ref ou), (2, .ref g0), (1, .ref (cd 0)), (0, .ref b)] := hl
  refine lv_goto (tgt := 820) hx hb d_LW_law_562 (by decide) ?_
  have hl := lv_sub hl [2, 3, 4, 5, 6] (l' := [(4, .int (nI i)), (3, .ref ou), (2, .ref g0), (1, .ref (cd 0)), (0, .ref b)]) rfl
  have hq1 : sc1 1 = sm1 1 := (hs1 1 (by decide)).trans (hR1.trans (hm1 1 (by decide)).symm)
  have hq2 : sc1 2 = sm1 2 := (hs1 2 (by decide)).trans (hR2.trans (hm1 2 (by decide)).symm)
  refine W.widen (k := cells + 3) (n := slots + 29) (by omega) (by omega) ?_
  exact kk L1 isA1 bk1 sc1 ia1 qa1 rf1 ba1 g1 sm1 im1 H locs ls ⟨⟨_, hC1⟩, ⟨_, hI1⟩, hq1, hq2⟩ hP hD hS hl
set_option maxHeartbeats 8000000 in
set_option maxRecDepth 100000 in
theorem cs_14 {p : Program} {l : Launch} {e : Env} {s : State} {m : MethodId} {below : List Frame} {meth : Method} {c : Code} {A : Nat → Prop} {b : Nat} {xs : Nat → Int32} (dC : Nat → ClassId) (dI : Nat → Nat → Nat) (cd : Nat → Nat) (kI kQ kJ kZ : ClassId) (ou g0 : Nat) (ad : Nat → Nat) (i Ln : Nat) (hi : i + 6 ≤ Ln) (hLn : Ln ≤ 3072) (hX : va_X b Ln xs s s.heap) (cells slots : Nat) (hcl : cells + 3 ≤ 601024) (hsl : slots + 29 ≤ 7293033) (T : Int) (hT : T + 1000 ≤ 1000000) (hl9 : l.stackTraces = false) (hx : p.tables.exec = Jvm.exec) (hb : c.code = code) (hr : meth.sig.returnType = ret) (hlocks : meth.locks = false) (hbl : b < s.heap.size) (hbA : ¬ A b) (hAB : ∀ q, A q → s.heap.size ≤ q) (hml : c.maxLocals = 8) (hown : s.vm.findClass R_LW = some m.cls) (ht : ∀ w ∈ tb_, w.before #[Value.ref b] s = true) (hA : ∀ q : Nat, s.heap.size ≤ q → A q) (hBs : s.heap.size ≤ s.heap.size) (hV : tw_V s.heap.size s s.heap) (hK : va_K (dC, dI) cls_ (LT kI kQ kJ kZ) s)
    (kk : ∀ (L : List Nat) (isA : Nat → Bool) (bk : Nat → Nat) (sc : Nat → Int32) (ia : Nat → Nat → Int32) (qa : Nat → Nat → Option Nat) (rf ba : Nat → Nat → Int32) (g : Nat → Int64) (sm : Nat → Int32) (im : Nat → Nat → Int32) (H : Heap) (locs : List Loc) (ls : Array Slot), LR (T + 1000) L isA bk sc qa rf sm im → va_P (dC, dI) cls_ (LWd cd kI kQ kJ kZ ou g0 ad L isA bk sc ia qa rf ba g sm im) H → va_D A (LWd cd kI kQ kJ kZ ou g0 ad L isA bk sc ia qa rf ba g sm im) → va_S A s.heap H locs → lv_has ls 8 [(4, .int (nI i)), (3, .ref ou), (2, .ref g0), (1, .ref (cd 0)), (0, .ref b)] → W p l e room_1 s m #[Value.ref b] below meth c H locs (cells + 3) (slots + 29) (lw_Z below #[Value.ref b] s) (F0 m 820 ls []))
    (L : List Nat) (isA : Nat → Bool) (bk : Nat → Nat) (sc : Nat → Int32) (ia : Nat → Nat → Int32) (qa : Nat → Nat → Option Nat) (rf ba : Nat → Nat → Int32) (g : Nat → Int64) (sm : Nat → Int32) (im : Nat → Nat → Int32) (H : Heap) (locs : List Loc) (ls : Array Slot) (hR : LR T L isA bk sc qa rf sm im) (hP : va_P (dC, dI) cls_ (LWd cd kI kQ kJ kZ ou g0 ad L isA bk sc ia qa rf ba g sm im) H) (hD : va_D A (LWd cd kI kQ kJ kZ ou g0 ad L isA bk sc ia qa rf ba g sm im)) (hS : va_S A s.heap H locs) (hl : lv_has ls 8 [(4, .int (nI i)), (3, .ref ou), (2, .ref g0), (1, .ref (cd 0)), (0, .ref b)]) : W p l e room_1 s m #[Value.ref b] below meth c H locs cells slots (lw_Z below #[Value.ref b] s) (F0 m 565 ls []) := by
  obtain ⟨⟨N, hC⟩, ⟨NM, hM0⟩, hR1, hR2⟩ := hR
  have hm9 := hM0.2.1
  have hI := MI_wk hM0 (show T ≤ T + 1000 by omega) hT
  have hK3 : va_K (dC, dI) cls_ (CTJ kI kQ kJ) s := hK.sub (tys' := CTJ kI kQ kJ) [0, 1, 2] rfl
  have hK2 : va_K (dC, dI) cls_ (CT kI kQ) s := hK.sub (tys' := CT kI kQ) [0, 1] rfl
  have hK4 : va_K (dC, dI) cls_ (MOT kI kZ) s := hK.sub (tys' := MOT kI kZ) [0, 3] rfl
  refine lv_aload_n hx hb d_LW_law_565 rfl (lv_at hl 3 rfl) ?_
  refine lv_aload_n hx hb d_LW_law_566 rfl (lv_at hl 4 rfl) ?_
  refine lv_iload hx hb d_LW_law_567 (lv_at hl 0 rfl) ?_
  refine lv_iconst (v := 1) hx hb d_LW_law_569 (by decide) ?_
  refine lv_iadd hx hb d_LW_law_570 ?_
  refine lv_topi (fun v1 ev1 => ?_)
  obtain rfl : v1 = nI (i + 1) := ev1.trans (by rw [show (1 : Int32) = nI 1 from rfl, nI_add])
  refine va_sld hx hb hX hbl hbA hS (vp_in_nI (show i + 1 < Ln by omega) (by omega)) d_LW_law_571 ?_
  refine W.eq (g2 := F0 m 572 ls [.int (xs (i + 1)), .ref (cd 0)]) (by rw [nI_clamp (show i + 1 < 2 ^ 31 by omega)]) ?_
  refine lv_aload_n hx hb d_LW_law_572 rfl (lv_at hl 4 rfl) ?_
  refine lv_iload hx hb d_LW_law_573 (lv_at hl 0 rfl) ?_
  refine lv_iconst (v := 2) hx hb d_LW_law_575 (by decide) ?_
  refine lv_iadd hx hb d_LW_law_576 ?_
  refine lv_topi (fun v2 ev2 => ?_)
  obtain rfl : v2 = nI (i + 2) := ev2.trans (by rw [show (2 : Int32) = nI 2 from rfl, nI_add])
  refine va_sld hx hb hX hbl hbA hS (vp_in_nI (show i + 2 < Ln by omega) (by omega)) d_LW_law_577 ?_
  refine W.eq (g2 := F0 m 578 ls [.int (xs (i + 2)), .int (xs (i + 1)), .ref (cd 0)]) (by rw [nI_clamp (show i + 2 < 2 ^ 31 by omega)]) ?_
  refine lv_if_eq (tgt := 585) hx hb d_LW_law_578 (by decide) (fun h578_1 => ?_) (fun h578_1 => ?_)
  · have h578_1 := h578_1
    have i578_1 := ti_eq h578_1
    (try rw [l_0] at i578_1)
    refine lv_iconst (v := 0) hx hb d_LW_law_585 (by decide) ?_
    refine t_callF (E := MOW g0 ad kI kZ sm im) (u0 := (((L, isA, bk), (sc, ia, qa, rf, ba)), g)) (w0 := oW ou kJ g ++ CW cd kI kQ L isA bk sc ia qa rf ba) rfl (tw_runSW (As := [.ref (cd 0), .int (xs (i + 1)), .int 0]) (rest := []) ⟨hx, hb, hml, hown, ht⟩ (w_LW_protect_c l dC dI cd kI kQ L isA bk sc ia qa rf ba kJ ou g H.size s.heap.size hl9 N hC (xs (i + 1)) 0 (Or.inl rfl)) rfl rfl ⟨Nat.le_of_ble_eq_true rfl, Nat.le_of_ble_eq_true rfl⟩ (pay_in ht (gW tb_561)) (show _ ∈ w_LW_protect from List.mem_cons_self) (ht _ tb_559) (ht _ tb_560) (ht _ tb_0) (n := 3) (by decide +kernel) ⟨frP_blind, fr_pre (ap_P hP) hK3 (ap_D hD) hAB hBs hS hV⟩ rfl rfl hl.1 rfl (lv_room (Nat.le_of_ble_eq_true rfl)) d_LW_law_586 ⟨show cells + 1 ≤ 601024 by omega, show slots + 6 ≤ 7293033 by omega⟩) hP hD hS hA (fun k1 u H locs hu hP hD hS => ?_)
    obtain ⟨⟨⟨L1, isA1, bk1⟩, sc1, ia1, qa1, rf1, ba1⟩, g1⟩ := u
    obtain ⟨hs1, ⟨N1, hC1⟩⟩ := hu
    have hs1 : same [] sc sc1 := hs1
    have hC1 : CI N1 L1 isA1 bk1 sc1 qa1 rf1 := hC1
    have hP : va_P (dC, dI) cls_ (LWd cd kI kQ kJ kZ ou g0 ad L1 isA1 bk1 sc1 ia1 qa1 rf1 ba1 g1 sm im) H := hP
    have hD : va_D A (LWd cd kI kQ kJ kZ ou g0 ad L1 isA1 bk1 sc1 ia1 qa1 rf1 ba1 g1 sm im) := hD
    refine W.eq (g2 := F0 m 589 ls [.int k1]) rfl ?_
    refine W.cs (cells' := cells + 1) (slots' := slots + 6) rfl rfl ?_
    refine lv_istore hx hb d_LW_law_589 hl (by decide) rfl (fun ls hl => ?_)
    have hl : lv_has ls 8 [(5, .int k1), (4, .int (nI i)), (3, .ref ou), (2, .ref g0), (1, .ref (cd 0)), (0, .ref b)] := hl
    refine lv_aload_n hx hb d_LW_law_591 rfl (lv_at hl 3 rfl) ?_
    refine lv_aload_n hx hb d_LW_law_592 rfl (lv_at hl 5 rfl) ?_
    refine lv_iload hx hb d_LW_law_593 (lv_at hl 1 rfl) ?_
    refine lv_iconst (v := 1) hx hb d_LW_law_595 (by decide) ?_
    refine lv_iadd hx hb d_LW_law_596 ?_
    refine lv_topi (fun v3 ev3 => ?_)
    obtain rfl : v3 = nI (i + 1) := ev3.trans (by rw [show (1 : Int32) = nI 1 from rfl, nI_add])
    refine va_sld hx hb hX hbl hbA hS (vp_in_nI (show i + 1 < Ln by omega) (by omega)) d_LW_law_597 ?_
    refine W.eq (g2 := F0 m 598 ls [.int (xs (i + 1)), .ref g0]) (by rw [nI_clamp (show i + 1 < 2 ^ 31 by omega)]) ?_
    refine lv_aload_n hx hb d_LW_law_598 rfl (lv_at hl 5 rfl) ?_
    refine lv_iload hx hb d_LW_law_599 (lv_at hl 1 rfl) ?_
    refine lv_iconst (v := 2) hx hb d_LW_law_601 (by decide) ?_
    refine lv_iadd hx hb d_LW_law_602 ?_
    refine lv_topi (fun v4 ev4 => ?_)
    obtain rfl : v4 = nI (i + 2) := ev4.trans (by rw [show (2 : Int32) = nI 2 from rfl, nI_add])
    refine va_sld hx hb hX hbl hbA hS (vp_in_nI (show i + 2 < Ln by omega) (by omega)) d_LW_law_603 ?_
    refine W.eq (g2 := F0 m 604 ls [.int (xs (i + 2)), .int (xs (i + 1)), .ref g0]) (by rw [nI_clamp (show i + 2 < 2 ^ 31 by omega)]) ?_
    refine lv_if_eq (tgt := 611) hx hb d_LW_law_604 (by decide) (fun _ => ?_) (fun h9 => absurd (h578_1) h9)
    refine lv_iconst (v := 0) hx hb d_LW_law_611 (by decide) ?_
    refine t_callF (E := oW ou kJ g1 ++ CW cd kI kQ L1 isA1 bk1 sc1 ia1 qa1 rf1 ba1) (u0 := (sm, im)) (w0 := MOW g0 ad kI kZ sm im) rfl (va_runV (C := R_MO) (As := [.int (xs (i + 1)), .int 0]) (rest := []) ⟨hx, hb, hml, hown, ht⟩ (t_MO_protect l dC dI g0 ad kI kZ sm im H.size s.heap.size ((T + 1000)) NM hI (xs (i + 1)) 0) (cwV 2 ht (gV tb_878 tb_879 tb_880 tb_5 tb_881) rfl rfl rfl (by decide +kernel) ⟨Nat.le_of_ble_eq_true rfl, Nat.le_of_ble_eq_true rfl⟩) ⟨frP_blind, va_recv (q := (R_MO, F_MO, 30)) hK hP rfl (show (LWd cd kI kQ kJ kZ ou g0 ad L1 isA1 bk1 sc1 ia1 qa1 rf1 ba1 g1 sm im : va_W)[0]? = some _ from rfl), fr_pre (ap_P (wc_P hP)) hK4 (ap_D (wc_D hD)) hAB hBs hS hV⟩ rfl rfl hl.1 rfl (lv_room (Nat.le_of_ble_eq_true rfl)) d_LW_law_612 ⟨show cells + 1 + 0 ≤ 601024 by omega, show slots + 6 + 0 ≤ 7293033 by omega⟩) (wc_P hP) (wc_D hD) hS hA (fun b1 u H locs hu hP hD hS => ?_)
    obtain ⟨sm1, im1⟩ := u
    obtain ⟨hm1, -, hI1⟩ := hu
    have hm1 : same [0] sm sm1 := hm1
    obtain ⟨NM1, eNM1⟩ : ∃ q9_, q9_ = NM := ⟨_, rfl⟩
    rw [← eNM1] at hI1
    have hI1 : MI (T + 1000) NM1 sm1 im1 := hI1
    have hP := wc_P hP
    have hD := wc_D hD
    have hP : va_P (dC, dI) cls_ (LWd cd kI kQ kJ kZ ou g0 ad L1 isA1 bk1 sc1 ia1 qa1 rf1 ba1 g1 sm1 im1) H := hP
    have hD : va_D A (LWd cd kI kQ kJ kZ ou g0 ad L1 isA1 bk1 sc1 ia1 qa1 rf1 ba1 g1 sm1 im1) := hD
    refine W.eq (g2 := F0 m 615 ls []) rfl ?_
    refine W.cs (cells' := cells + 1) (slots' := slots + 6) rfl rfl ?_
    refine lv_goto (tgt := 820) hx hb d_LW_law_615 (by decide) ?_
    have hl := lv_sub hl [1, 2, 3, 4, 5] (l' := [(4, .int (nI i)), (3, .ref ou), (2, .ref g0), (1, .ref (cd 0)), (0, .ref b)]) rfl
    have hq1 : sc1 1 = sm1 1 := (hs1 1 (by decide)).trans (hR1.trans (hm1 1 (by decide)).symm)
    have hq2 : sc1 2 = sm1 2 := (hs1 2 (by decide)).trans (hR2.trans (hm1 2 (by decide)).symm)
    refine W.widen (k := cells + 3) (n := slots + 29) (by omega) (by omega) ?_
    exact kk L1 isA1 bk1 sc1 ia1 qa1 rf1 ba1 g1 sm1 im1 H locs ls ⟨⟨_, hC1⟩, ⟨_, hI1⟩, hq1, hq2⟩ hP hD hS hl
  · have h578_1 := h578_1
    have i578_1 := ti_ne h578_1
    (try rw [l_0] at i578_1)
    refine lv_iconst (v := 1) hx hb d_LW_law_581 (by decide) ?_
    refine lv_goto (tgt := 586) hx hb d_LW_law_582 (by decide) ?_
    refine t_callF (E := MOW g0 ad kI kZ sm im) (u0 := (((L, isA, bk), (sc, ia, qa, rf, ba)), g)) (w0 := oW ou kJ g ++ CW cd kI kQ L isA bk sc ia qa rf ba) rfl (tw_runSW (As := [.ref (cd 0), .int (xs (i + 1)), .int 1]) (rest := []) ⟨hx, hb, hml, hown, ht⟩ (w_LW_protect_c l dC dI cd kI kQ L isA bk sc ia qa rf ba kJ ou g H.size s.heap.size hl9 N hC (xs (i + 1)) 1 (Or.inr rfl)) rfl rfl ⟨Nat.le_of_ble_eq_true rfl, Nat.le_of_ble_eq_true rfl⟩ (pay_in ht (gW tb_561)) (show _ ∈ w_LW_protect from List.mem_cons_self) (ht _ tb_559) (ht _ tb_560) (ht _ tb_0) (n := 3) (by decide +kernel) ⟨frP_blind, fr_pre (ap_P hP) hK3 (ap_D hD) hAB hBs hS hV⟩ rfl rfl hl.1 rfl (lv_room (Nat.le_of_ble_eq_true rfl)) d_LW_law_586 ⟨show cells + 1 ≤ 601024 by omega, show slots + 6 ≤ 7293033 by omega⟩) hP hD hS hA (fun k1 u H locs hu hP hD hS => ?_)
    obtain ⟨⟨⟨L1, isA1, bk1⟩, sc1, ia1, qa1, rf1, ba1⟩, g1⟩ := u
    obtain ⟨hs1, ⟨N1, hC1⟩⟩ := hu
    have hs1 : same [] sc sc1 := hs1
    have hC1 : CI N1 L1 isA1 bk1 sc1 qa1 rf1 := hC1
    have hP : va_P (dC, dI) cls_ (LWd cd kI kQ kJ kZ ou g0 ad L1 isA1 bk1 sc1 ia1 qa1 rf1 ba1 g1 sm im) H := hP
    have hD : va_D A (LWd cd kI kQ kJ kZ ou g0 ad L1 isA1 bk1 sc1 ia1 qa1 rf1 ba1 g1 sm im) := hD
    refine W.eq (g2 := F0 m 589 ls [.int k1]) rfl ?_
    refine W.cs (cells' := cells + 1) (slots' := slots + 6) rfl rfl ?_
    refine lv_istore hx hb d_LW_law_589 hl (by decide) rfl (fun ls hl => ?_)
    have hl : lv_has ls 8 [(5, .int k1), (4, .int (nI i)), (3, .ref ou), (2, .ref g0), (1, .ref (cd 0)), (0, .ref b)] := hl
    refine lv_aload_n hx hb d_LW_law_591 rfl (lv_at hl 3 rfl) ?_
    refine lv_aload_n hx hb d_LW_law_592 rfl (lv_at hl 5 rfl) ?_
    refine lv_iload hx hb d_LW_law_593 (lv_at hl 1 rfl) ?_
    refine lv_iconst (v := 1) hx hb d_LW_law_595 (by decide) ?_
    refine lv_iadd hx hb d_LW_law_596 ?_
    refine lv_topi (fun v5 ev5 => ?_)
    obtain rfl : v5 = nI (i + 1) := ev5.trans (by rw [show (1 : Int32) = nI 1 from rfl, nI_add])
    refine va_sld hx hb hX hbl hbA hS (vp_in_nI (show i + 1 < Ln by omega) (by omega)) d_LW_law_597 ?_
    refine W.eq (g2 := F0 m 598 ls [.int (xs (i + 1)), .ref g0]) (by rw [nI_clamp (show i + 1 < 2 ^ 31 by omega)]) ?_
    refine lv_aload_n hx hb d_LW_law_598 rfl (lv_at hl 5 rfl) ?_
    refine lv_iload hx hb d_LW_law_599 (lv_at hl 1 rfl) ?_
    refine lv_iconst (v := 2) hx hb d_LW_law_601 (by decide) ?_
    refine lv_iadd hx hb d_LW_law_602 ?_
    refine lv_topi (fun v6 ev6 => ?_)
    obtain rfl : v6 = nI (i + 2) := ev6.trans (by rw [show (2 : Int32) = nI 2 from rfl, nI_add])
    refine va_sld hx hb hX hbl hbA hS (vp_in_nI (show i + 2 < Ln by omega) (by omega)) d_LW_law_603 ?_
    refine W.eq (g2 := F0 m 604 ls [.int (xs (i + 2)), .int (xs (i + 1)), .ref g0]) (by rw [nI_clamp (show i + 2 < 2 ^ 31 by omega)]) ?_
    refine lv_if_eq (tgt := 611) hx hb d_LW_law_604 (by decide) (fun h9 => absurd h9 (h578_1)) (fun _ => ?_)
    refine lv_iconst (v := 1) hx hb d_LW_law_607 (by decide) ?_
    refine lv_goto (tgt := 612) hx hb d_LW_law_608 (by decide) ?_
    refine t_callF (E := oW ou kJ g1 ++ CW cd kI kQ L1 isA1 bk1 sc1 ia1 qa1 rf1 ba1) (u0 := (sm, im)) (w0 := MOW g0 ad kI kZ sm im) rfl (va_runV (C := R_MO) (As := [.int (xs (i + 1)), .int 1]) (rest := []) ⟨hx, hb, hml, hown, ht⟩ (t_MO_protect l dC dI g0 ad kI kZ sm im H.size s.heap.size ((T + 1000)) NM hI (xs (i + 1)) 1) (cwV 2 ht (gV tb_878 tb_879 tb_880 tb_5 tb_881) rfl rfl rfl (by decide +kernel) ⟨Nat.le_of_ble_eq_true rfl, Nat.le_of_ble_eq_true rfl⟩) ⟨frP_blind, va_recv (q := (R_MO, F_MO, 30)) hK hP rfl (show (LWd cd kI kQ kJ kZ ou g0 ad L1 isA1 bk1 sc1 ia1 qa1 rf1 ba1 g1 sm im : va_W)[0]? = some _ from rfl), fr_pre (ap_P (wc_P hP)) hK4 (ap_D (wc_D hD)) hAB hBs hS hV⟩ rfl rfl hl.1 rfl (lv_room (Nat.le_of_ble_eq_true rfl)) d_LW_law_612 ⟨show cells + 1 + 0 ≤ 601024 by omega, show slots + 6 + 0 ≤ 7293033 by omega⟩) (wc_P hP) (wc_D hD) hS hA (fun b1 u H locs hu hP hD hS => ?_)
    obtain ⟨sm1, im1⟩ := u
    obtain ⟨hm1, -, hI1⟩ := hu
    have hm1 : same [0] sm sm1 := hm1
    obtain ⟨NM1, eNM1⟩ : ∃ q9_, q9_ = NM := ⟨_, rfl⟩
    rw [← eNM1] at hI1
    have hI1 : MI (T + 1000) NM1 sm1 im1 := hI1
    have hP := wc_P hP
    have hD := wc_D hD
    have hP : va_P (dC, dI) cls_ (LWd cd kI kQ kJ kZ ou g0 ad L1 isA1 bk1 sc1 ia1 qa1 rf1 ba1 g1 sm1 im1) H := hP
    have hD : va_D A (LWd cd kI kQ kJ kZ ou g0 ad L1 isA1 bk1 sc1 ia1 qa1 rf1 ba1 g1 sm1 im1) := hD
    refine W.eq (g2 := F0 m 615 ls []) rfl ?_
    refine W.cs (cells' := cells + 1) (slots' := slots + 6) rfl rfl ?_
    refine lv_goto (tgt := 820) hx hb d_LW_law_615 (by decide) ?_
    have hl := lv_sub hl [1, 2, 3, 4, 5] (l' := [(4, .int (nI i)), (3, .ref ou), (2, .ref g0), (1, .ref (cd 0)), (0, .ref b)]) rfl
    have hq1 : sc1 1 = sm1 1 := (hs1 1 (by decide)).trans (hR1.trans (hm1 1 (by decide)).symm)
    have hq2 : sc1 2 = sm1 2 := (hs1 2 (by decide)).trans (hR2.trans (hm1 2 (by decide)).symm)
    refine W.widen (k := cells + 3) (n := slots + 29) (by omega) (by omega) ?_
    exact kk L1 isA1 bk1 sc1 ia1 qa1 rf1 ba1 g1 sm1 im1 H locs ls ⟨⟨_, hC1⟩, ⟨_, hI1⟩, hq1, hq2⟩ hP hD hS hl
set_option maxHeartbeats 8000000 in
set_option maxRecDepth 100000 in
theorem cs_15 {p : Program} {l : Launch} {e : Env} {s : State} {m : MethodId} {below : List Frame} {meth : Method} {c : Code} {A : Nat → Prop} {b : Nat} {xs : Nat → Int32} (dC : Nat → ClassId) (dI : Nat → Nat → Nat) (cd : Nat → Nat) (kI kQ kJ kZ : ClassId) (ou g0 : Nat) (ad : Nat → Nat) (i Ln : Nat) (hi : i + 6 ≤ Ln) (hLn : Ln ≤ 3072) (hX : va_X b Ln xs s s.heap) (cells slots : Nat) (hcl : cells + 3 ≤ 601024) (hsl : slots + 29 ≤ 7293033) (T : Int) (hT : T + 1000 ≤ 1000000) (hl9 : l.stackTraces = false) (hx : p.tables.exec = Jvm.exec) (hb : c.code = code) (hr : meth.sig.returnType = ret) (hlocks : meth.locks = false) (hbl : b < s.heap.size) (hbA : ¬ A b) (hAB : ∀ q, A q → s.heap.size ≤ q) (hml : c.maxLocals = 8) (hown : s.vm.findClass R_LW = some m.cls) (ht : ∀ w ∈ tb_, w.before #[Value.ref b] s = true) (hA : ∀ q : Nat, s.heap.size ≤ q → A q) (hBs : s.heap.size ≤ s.heap.size) (hV : tw_V s.heap.size s s.heap) (hK : va_K (dC, dI) cls_ (LT kI kQ kJ kZ) s)
    (kk : ∀ (L : List Nat) (isA : Nat → Bool) (bk : Nat → Nat) (sc : Nat → Int32) (ia : Nat → Nat → Int32) (qa : Nat → Nat → Option Nat) (rf ba : Nat → Nat → Int32) (g : Nat → Int64) (sm : Nat → Int32) (im : Nat → Nat → Int32) (H : Heap) (locs : List Loc) (ls : Array Slot), LR (T + 1000) L isA bk sc qa rf sm im → va_P (dC, dI) cls_ (LWd cd kI kQ kJ kZ ou g0 ad L isA bk sc ia qa rf ba g sm im) H → va_D A (LWd cd kI kQ kJ kZ ou g0 ad L isA bk sc ia qa rf ba g sm im) → va_S A s.heap H locs → lv_has ls 8 [(4, .int (nI i)), (3, .ref ou), (2, .ref g0), (1, .ref (cd 0)), (0, .ref b)] → W p l e room_1 s m #[Value.ref b] below meth c H locs (cells + 3) (slots + 29) (lw_Z below #[Value.ref b] s) (F0 m 820 ls []))
    (L : List Nat) (isA : Nat → Bool) (bk : Nat → Nat) (sc : Nat → Int32) (ia : Nat → Nat → Int32) (qa : Nat → Nat → Option Nat) (rf ba : Nat → Nat → Int32) (g : Nat → Int64) (sm : Nat → Int32) (im : Nat → Nat → Int32) (H : Heap) (locs : List Loc) (ls : Array Slot) (hR : LR T L isA bk sc qa rf sm im) (hP : va_P (dC, dI) cls_ (LWd cd kI kQ kJ kZ ou g0 ad L isA bk sc ia qa rf ba g sm im) H) (hD : va_D A (LWd cd kI kQ kJ kZ ou g0 ad L isA bk sc ia qa rf ba g sm im)) (hS : va_S A s.heap H locs) (hl : lv_has ls 8 [(4, .int (nI i)), (3, .ref ou), (2, .ref g0), (1, .ref (cd 0)), (0, .ref b)]) : W p l e room_1 s m #[Value.ref b] below meth c H locs cells slots (lw_Z below #[Value.ref b] s) (F0 m 618 ls []) := by
  obtain ⟨⟨N, hC⟩, ⟨NM, hM0⟩, hR1, hR2⟩ := hR
  have hm9 := hM0.2.1
  have hI := MI_wk hM0 (show T ≤ T + 1000 by omega) hT
  have hK3 : va_K (dC, dI) cls_ (CTJ kI kQ kJ) s := hK.sub (tys' := CTJ kI kQ kJ) [0, 1, 2] rfl
  have hK2 : va_K (dC, dI) cls_ (CT kI kQ) s := hK.sub (tys' := CT kI kQ) [0, 1] rfl
  have hK4 : va_K (dC, dI) cls_ (MOT kI kZ) s := hK.sub (tys' := MOT kI kZ) [0, 3] rfl
  refine lv_aload_n hx hb d_LW_law_618 rfl (lv_at hl 3 rfl) ?_
  refine lv_aload_n hx hb d_LW_law_619 rfl (lv_at hl 4 rfl) ?_
  refine lv_iload hx hb d_LW_law_620 (lv_at hl 0 rfl) ?_
  refine lv_iconst (v := 1) hx hb d_LW_law_622 (by decide) ?_
  refine lv_iadd hx hb d_LW_law_623 ?_
  refine lv_topi (fun v1 ev1 => ?_)
  obtain rfl : v1 = nI (i + 1) := ev1.trans (by rw [show (1 : Int32) = nI 1 from rfl, nI_add])
  refine va_sld hx hb hX hbl hbA hS (vp_in_nI (show i + 1 < Ln by omega) (by omega)) d_LW_law_624 ?_
  refine W.eq (g2 := F0 m 625 ls [.int (xs (i + 1)), .ref (cd 0)]) (by rw [nI_clamp (show i + 1 < 2 ^ 31 by omega)]) ?_
  refine lv_aload_n hx hb d_LW_law_625 rfl (lv_at hl 4 rfl) ?_
  refine lv_iload hx hb d_LW_law_626 (lv_at hl 0 rfl) ?_
  refine lv_iconst (v := 2) hx hb d_LW_law_628 (by decide) ?_
  refine lv_iadd hx hb d_LW_law_629 ?_
  refine lv_topi (fun v2 ev2 => ?_)
  obtain rfl : v2 = nI (i + 2) := ev2.trans (by rw [show (2 : Int32) = nI 2 from rfl, nI_add])
  refine va_sld hx hb hX hbl hbA hS (vp_in_nI (show i + 2 < Ln by omega) (by omega)) d_LW_law_630 ?_
  refine W.eq (g2 := F0 m 631 ls [.int (xs (i + 2)), .int (xs (i + 1)), .ref (cd 0)]) (by rw [nI_clamp (show i + 2 < 2 ^ 31 by omega)]) ?_
  refine lv_if_eq (tgt := 638) hx hb d_LW_law_631 (by decide) (fun h631_1 => ?_) (fun h631_1 => ?_)
  · have h631_1 := h631_1
    have i631_1 := ti_eq h631_1
    (try rw [l_0] at i631_1)
    refine lv_iconst (v := 0) hx hb d_LW_law_638 (by decide) ?_
    refine t_callF (E := MOW g0 ad kI kZ sm im) (u0 := (((L, isA, bk), (sc, ia, qa, rf, ba)), g)) (w0 := oW ou kJ g ++ CW cd kI kQ L isA bk sc ia qa rf ba) rfl (tw_runSW (As := [.ref (cd 0), .int (xs (i + 1)), .int 0]) (rest := []) ⟨hx, hb, hml, hown, ht⟩ (w_LW_seen_c l dC dI cd kI kQ L isA bk sc ia qa rf ba kJ ou g H.size s.heap.size hl9 N hC (xs (i + 1)) 0 (Or.inl rfl)) rfl rfl ⟨Nat.le_of_ble_eq_true rfl, Nat.le_of_ble_eq_true rfl⟩ (pay_in ht (gW tb_577)) (show _ ∈ w_LW_seen from List.mem_cons_self) (ht _ tb_575) (ht _ tb_576) (ht _ tb_0) (n := 3) (by decide +kernel) ⟨frP_blind, fr_pre (ap_P hP) hK3 (ap_D hD) hAB hBs hS hV⟩ rfl rfl hl.1 rfl (lv_room (Nat.le_of_ble_eq_true rfl)) d_LW_law_639 ⟨show cells + 1 ≤ 601024 by omega, show slots + 6 ≤ 7293033 by omega⟩) hP hD hS hA (fun k1 u H locs hu hP hD hS => ?_)
    obtain ⟨⟨⟨L1, isA1, bk1⟩, sc1, ia1, qa1, rf1, ba1⟩, g1⟩ := u
    obtain ⟨hs1, ⟨N1, hC1⟩⟩ := hu
    have hs1 : same [] sc sc1 := hs1
    have hC1 : CI N1 L1 isA1 bk1 sc1 qa1 rf1 := hC1
    have hP : va_P (dC, dI) cls_ (LWd cd kI kQ kJ kZ ou g0 ad L1 isA1 bk1 sc1 ia1 qa1 rf1 ba1 g1 sm im) H := hP
    have hD : va_D A (LWd cd kI kQ kJ kZ ou g0 ad L1 isA1 bk1 sc1 ia1 qa1 rf1 ba1 g1 sm im) := hD
    refine W.eq (g2 := F0 m 642 ls [.int k1]) rfl ?_
    refine W.cs (cells' := cells + 1) (slots' := slots + 6) rfl rfl ?_
    refine lv_istore hx hb d_LW_law_642 hl (by decide) rfl (fun ls hl => ?_)
    have hl : lv_has ls 8 [(5, .int k1), (4, .int (nI i)), (3, .ref ou), (2, .ref g0), (1, .ref (cd 0)), (0, .ref b)] := hl
    refine lv_aload_n hx hb d_LW_law_644 rfl (lv_at hl 3 rfl) ?_
    refine lv_aload_n hx hb d_LW_law_645 rfl (lv_at hl 5 rfl) ?_
    refine lv_iload hx hb d_LW_law_646 (lv_at hl 1 rfl) ?_
    refine lv_iconst (v := 1) hx hb d_LW_law_648 (by decide) ?_
    refine lv_iadd hx hb d_LW_law_649 ?_
    refine lv_topi (fun v3 ev3 => ?_)
    obtain rfl : v3 = nI (i + 1) := ev3.trans (by rw [show (1 : Int32) = nI 1 from rfl, nI_add])
    refine va_sld hx hb hX hbl hbA hS (vp_in_nI (show i + 1 < Ln by omega) (by omega)) d_LW_law_650 ?_
    refine W.eq (g2 := F0 m 651 ls [.int (xs (i + 1)), .ref g0]) (by rw [nI_clamp (show i + 1 < 2 ^ 31 by omega)]) ?_
    refine lv_aload_n hx hb d_LW_law_651 rfl (lv_at hl 5 rfl) ?_
    refine lv_iload hx hb d_LW_law_652 (lv_at hl 1 rfl) ?_
    refine lv_iconst (v := 2) hx hb d_LW_law_654 (by decide) ?_
    refine lv_iadd hx hb d_LW_law_655 ?_
    refine lv_topi (fun v4 ev4 => ?_)
    obtain rfl : v4 = nI (i + 2) := ev4.trans (by rw [show (2 : Int32) = nI 2 from rfl, nI_add])
    refine va_sld hx hb hX hbl hbA hS (vp_in_nI (show i + 2 < Ln by omega) (by omega)) d_LW_law_656 ?_
    refine W.eq (g2 := F0 m 657 ls [.int (xs (i + 2)), .int (xs (i + 1)), .ref g0]) (by rw [nI_clamp (show i + 2 < 2 ^ 31 by omega)]) ?_
    refine lv_if_eq (tgt := 664) hx hb d_LW_law_657 (by decide) (fun _ => ?_) (fun h9 => absurd (h631_1) h9)
    refine lv_iconst (v := 0) hx hb d_LW_law_664 (by decide) ?_
    refine t_callF (E := oW ou kJ g1 ++ CW cd kI kQ L1 isA1 bk1 sc1 ia1 qa1 rf1 ba1) (u0 := (sm, im)) (w0 := MOW g0 ad kI kZ sm im) rfl (va_runV (C := R_MO) (As := [.int (xs (i + 1)), .int 0]) (rest := []) ⟨hx, hb, hml, hown, ht⟩ (t_MO_seen l dC dI g0 ad kI kZ sm im H.size s.heap.size ((T + 1000)) NM hI (xs (i + 1)) 0) (cwV 2 ht (gV tb_886 tb_887 tb_888 tb_5 tb_889) rfl rfl rfl (by decide +kernel) ⟨Nat.le_of_ble_eq_true rfl, Nat.le_of_ble_eq_true rfl⟩) ⟨frP_blind, va_recv (q := (R_MO, F_MO, 30)) hK hP rfl (show (LWd cd kI kQ kJ kZ ou g0 ad L1 isA1 bk1 sc1 ia1 qa1 rf1 ba1 g1 sm im : va_W)[0]? = some _ from rfl), fr_pre (ap_P (wc_P hP)) hK4 (ap_D (wc_D hD)) hAB hBs hS hV⟩ rfl rfl hl.1 rfl (lv_room (Nat.le_of_ble_eq_true rfl)) d_LW_law_665 ⟨show cells + 1 + 0 ≤ 601024 by omega, show slots + 6 + 0 ≤ 7293033 by omega⟩) (wc_P hP) (wc_D hD) hS hA (fun b1 u H locs hu hP hD hS => ?_)
    obtain ⟨sm1, im1⟩ := u
    obtain ⟨hm1, -, hI1⟩ := hu
    have hm1 : same [0] sm sm1 := hm1
    obtain ⟨NM1, eNM1⟩ : ∃ q9_, q9_ = NM := ⟨_, rfl⟩
    rw [← eNM1] at hI1
    have hI1 : MI (T + 1000) NM1 sm1 im1 := hI1
    have hP := wc_P hP
    have hD := wc_D hD
    have hP : va_P (dC, dI) cls_ (LWd cd kI kQ kJ kZ ou g0 ad L1 isA1 bk1 sc1 ia1 qa1 rf1 ba1 g1 sm1 im1) H := hP
    have hD : va_D A (LWd cd kI kQ kJ kZ ou g0 ad L1 isA1 bk1 sc1 ia1 qa1 rf1 ba1 g1 sm1 im1) := hD
    refine W.eq (g2 := F0 m 668 ls []) rfl ?_
    refine W.cs (cells' := cells + 1) (slots' := slots + 6) rfl rfl ?_
    refine lv_goto (tgt := 820) hx hb d_LW_law_668 (by decide) ?_
    have hl := lv_sub hl [1, 2, 3, 4, 5] (l' := [(4, .int (nI i)), (3, .ref ou), (2, .ref g0), (1, .ref (cd 0)), (0, .ref b)]) rfl
    have hq1 : sc1 1 = sm1 1 := (hs1 1 (by decide)).trans (hR1.trans (hm1 1 (by decide)).symm)
    have hq2 : sc1 2 = sm1 2 := (hs1 2 (by decide)).trans (hR2.trans (hm1 2 (by decide)).symm)
    refine W.widen (k := cells + 3) (n := slots + 29) (by omega) (by omega) ?_
    exact kk L1 isA1 bk1 sc1 ia1 qa1 rf1 ba1 g1 sm1 im1 H locs ls ⟨⟨_, hC1⟩, ⟨_, hI1⟩, hq1, hq2⟩ hP hD hS hl
  · have h631_1 := h631_1
    have i631_1 := ti_ne h631_1
    (try rw [l_0] at i631_1)
    refine lv_iconst (v := 1) hx hb d_LW_law_634 (by decide) ?_
    refine lv_goto (tgt := 639) hx hb d_LW_law_635 (by decide) ?_
    refine t_callF (E := MOW g0 ad kI kZ sm im) (u0 := (((L, isA, bk), (sc, ia, qa, rf, ba)), g)) (w0 := oW ou kJ g ++ CW cd kI kQ L isA bk sc ia qa rf ba) rfl (tw_runSW (As := [.ref (cd 0), .int (xs (i + 1)), .int 1]) (rest := []) ⟨hx, hb, hml, hown, ht⟩ (w_LW_seen_c l dC dI cd kI kQ L isA bk sc ia qa rf ba kJ ou g H.size s.heap.size hl9 N hC (xs (i + 1)) 1 (Or.inr rfl)) rfl rfl ⟨Nat.le_of_ble_eq_true rfl, Nat.le_of_ble_eq_true rfl⟩ (pay_in ht (gW tb_577)) (show _ ∈ w_LW_seen from List.mem_cons_self) (ht _ tb_575) (ht _ tb_576) (ht _ tb_0) (n := 3) (by decide +kernel) ⟨frP_blind, fr_pre (ap_P hP) hK3 (ap_D hD) hAB hBs hS hV⟩ rfl rfl hl.1 rfl (lv_room (Nat.le_of_ble_eq_true rfl)) d_LW_law_639 ⟨show cells + 1 ≤ 601024 by omega, show slots + 6 ≤ 7293033 by omega⟩) hP hD hS hA (fun k1 u H locs hu hP hD hS => ?_)
    obtain ⟨⟨⟨L1, isA1, bk1⟩, sc1, ia1, qa1, rf1, ba1⟩, g1⟩ := u
    obtain ⟨hs1, ⟨N1, hC1⟩⟩ := hu
    have hs1 : same [] sc sc1 := hs1
    have hC1 : CI N1 L1 isA1 bk1 sc1 qa1 rf1 := hC1
    have hP : va_P (dC, dI) cls_ (LWd cd kI kQ kJ kZ ou g0 ad L1 isA1 bk1 sc1 ia1 qa1 rf1 ba1 g1 sm im) H := hP
    have hD : va_D A (LWd cd kI kQ kJ kZ ou g0 ad L1 isA1 bk1 sc1 ia1 qa1 rf1 ba1 g1 sm im) := hD
    refine W.eq (g2 := F0 m 642 ls [.int k1]) rfl ?_
    refine W.cs (cells' := cells + 1) (slots' := slots + 6) rfl rfl ?_
    refine lv_istore hx hb d_LW_law_642 hl (by decide) rfl (fun ls hl => ?_)
    have hl : lv_has ls 8 [(5, .int k1), (4, .int (nI i)), (3, .ref ou), (2, .ref g0), (1, .ref (cd 0)), (0, .ref b)] := hl
    refine lv_aload_n hx hb d_LW_law_644 rfl (lv_at hl 3 rfl) ?_
    refine lv_aload_n hx hb d_LW_law_645 rfl (lv_at hl 5 rfl) ?_
    refine lv_iload hx hb d_LW_law_646 (lv_at hl 1 rfl) ?_
    refine lv_iconst (v := 1) hx hb d_LW_law_648 (by decide) ?_
    refine lv_iadd hx hb d_LW_law_649 ?_
    refine lv_topi (fun v5 ev5 => ?_)
    obtain rfl : v5 = nI (i + 1) := ev5.trans (by rw [show (1 : Int32) = nI 1 from rfl, nI_add])
    refine va_sld hx hb hX hbl hbA hS (vp_in_nI (show i + 1 < Ln by omega) (by omega)) d_LW_law_650 ?_
    refine W.eq (g2 := F0 m 651 ls [.int (xs (i + 1)), .ref g0]) (by rw [nI_clamp (show i + 1 < 2 ^ 31 by omega)]) ?_
    refine lv_aload_n hx hb d_LW_law_651 rfl (lv_at hl 5 rfl) ?_
    refine lv_iload hx hb d_LW_law_652 (lv_at hl 1 rfl) ?_
    refine lv_iconst (v := 2) hx hb d_LW_law_654 (by decide) ?_
    refine lv_iadd hx hb d_LW_law_655 ?_
    refine lv_topi (fun v6 ev6 => ?_)
    obtain rfl : v6 = nI (i + 2) := ev6.trans (by rw [show (2 : Int32) = nI 2 from rfl, nI_add])
    refine va_sld hx hb hX hbl hbA hS (vp_in_nI (show i + 2 < Ln by omega) (by omega)) d_LW_law_656 ?_
    refine W.eq (g2 := F0 m 657 ls [.int (xs (i + 2)), .int (xs (i + 1)), .ref g0]) (by rw [nI_clamp (show i + 2 < 2 ^ 31 by omega)]) ?_
    refine lv_if_eq (tgt := 664) hx hb d_LW_law_657 (by decide) (fun h9 => absurd h9 (h631_1)) (fun _ => ?_)
    refine lv_iconst (v := 1) hx hb d_LW_law_660 (by decide) ?_
    refine lv_goto (tgt := 665) hx hb d_LW_law_661 (by decide) ?_
    refine t_callF (E := oW ou kJ g1 ++ CW cd kI kQ L1 isA1 bk1 sc1 ia1 qa1 rf1 ba1) (u0 := (sm, im)) (w0 := MOW g0 ad kI kZ sm im) rfl (va_runV (C := R_MO) (As := [.int (xs (i + 1)), .int 1]) (rest := []) ⟨hx, hb, hml, hown, ht⟩ (t_MO_seen l dC dI g0 ad kI kZ sm im H.size s.heap.size ((T + 1000)) NM hI (xs (i + 1)) 1) (cwV 2 ht (gV tb_886 tb_887 tb_888 tb_5 tb_889) rfl rfl rfl (by decide +kernel) ⟨Nat.le_of_ble_eq_true rfl, Nat.le_of_ble_eq_true rfl⟩) ⟨frP_blind, va_recv (q := (R_MO, F_MO, 30)) hK hP rfl (show (LWd cd kI kQ kJ kZ ou g0 ad L1 isA1 bk1 sc1 ia1 qa1 rf1 ba1 g1 sm im : va_W)[0]? = some _ from rfl), fr_pre (ap_P (wc_P hP)) hK4 (ap_D (wc_D hD)) hAB hBs hS hV⟩ rfl rfl hl.1 rfl (lv_room (Nat.le_of_ble_eq_true rfl)) d_LW_law_665 ⟨show cells + 1 + 0 ≤ 601024 by omega, show slots + 6 + 0 ≤ 7293033 by omega⟩) (wc_P hP) (wc_D hD) hS hA (fun b1 u H locs hu hP hD hS => ?_)
    obtain ⟨sm1, im1⟩ := u
    obtain ⟨hm1, -, hI1⟩ := hu
    have hm1 : same [0] sm sm1 := hm1
    obtain ⟨NM1, eNM1⟩ : ∃ q9_, q9_ = NM := ⟨_, rfl⟩
    rw [← eNM1] at hI1
    have hI1 : MI (T + 1000) NM1 sm1 im1 := hI1
    have hP := wc_P hP
    have hD := wc_D hD
    have hP : va_P (dC, dI) cls_ (LWd cd kI kQ kJ kZ ou g0 ad L1 isA1 bk1 sc1 ia1 qa1 rf1 ba1 g1 sm1 im1) H := hP
    have hD : va_D A (LWd cd kI kQ kJ kZ ou g0 ad L1 isA1 bk1 sc1 ia1 qa1 rf1 ba1 g1 sm1 im1) := hD
    refine W.eq (g2 := F0 m 668 ls []) rfl ?_
    refine W.cs (cells' := cells + 1) (slots' := slots + 6) rfl rfl ?_
    refine lv_goto (tgt := 820) hx hb d_LW_law_668 (by decide) ?_
    have hl := lv_sub hl [1, 2, 3, 4, 5] (l' := [(4, .int (nI i)), (3, .ref ou), (2, .ref g0), (1, .ref (cd 0)), (0, .ref b)]) rfl
    have hq1 : sc1 1 = sm1 1 := (hs1 1 (by decide)).trans (hR1.trans (hm1 1 (by decide)).symm)
    have hq2 : sc1 2 = sm1 2 := (hs1 2 (by decide)).trans (hR2.trans (hm1 2 (by decide)).symm)
    refine W.widen (k := cells + 3) (n := slots + 29) (by omega) (by omega) ?_
    exact kk L1 isA1 bk1 sc1 ia1 qa1 rf1 ba1 g1 sm1 im1 H locs ls ⟨⟨_, hC1⟩, ⟨_, hI1⟩, hq1, hq2⟩ hP hD hS hl
set_option maxHeartbeats 8000000 in
set_option maxRecDepth 100000 in
theorem cs_16 {p : Program} {l : Launch} {e : Env} {s : State} {m : MethodId} {below : List Frame} {meth : Method} {c : Code} {A : Nat → Prop} {b : Nat} {xs : Nat → Int32} (dC : Nat → ClassId) (dI : Nat → Nat → Nat) (cd : Nat → Nat) (kI kQ kJ kZ : ClassId) (ou g0 : Nat) (ad : Nat → Nat) (i Ln : Nat) (hi : i + 6 ≤ Ln) (hLn : Ln ≤ 3072) (hX : va_X b Ln xs s s.heap) (cells slots : Nat) (hcl : cells + 3 ≤ 601024) (hsl : slots + 29 ≤ 7293033) (T : Int) (hT : T + 1000 ≤ 1000000) (hl9 : l.stackTraces = false) (hx : p.tables.exec = Jvm.exec) (hb : c.code = code) (hr : meth.sig.returnType = ret) (hlocks : meth.locks = false) (hbl : b < s.heap.size) (hbA : ¬ A b) (hAB : ∀ q, A q → s.heap.size ≤ q) (hml : c.maxLocals = 8) (hown : s.vm.findClass R_LW = some m.cls) (ht : ∀ w ∈ tb_, w.before #[Value.ref b] s = true) (hA : ∀ q : Nat, s.heap.size ≤ q → A q) (hBs : s.heap.size ≤ s.heap.size) (hV : tw_V s.heap.size s s.heap) (hK : va_K (dC, dI) cls_ (LT kI kQ kJ kZ) s)
    (kk : ∀ (L : List Nat) (isA : Nat → Bool) (bk : Nat → Nat) (sc : Nat → Int32) (ia : Nat → Nat → Int32) (qa : Nat → Nat → Option Nat) (rf ba : Nat → Nat → Int32) (g : Nat → Int64) (sm : Nat → Int32) (im : Nat → Nat → Int32) (H : Heap) (locs : List Loc) (ls : Array Slot), LR (T + 1000) L isA bk sc qa rf sm im → va_P (dC, dI) cls_ (LWd cd kI kQ kJ kZ ou g0 ad L isA bk sc ia qa rf ba g sm im) H → va_D A (LWd cd kI kQ kJ kZ ou g0 ad L isA bk sc ia qa rf ba g sm im) → va_S A s.heap H locs → lv_has ls 8 [(4, .int (nI i)), (3, .ref ou), (2, .ref g0), (1, .ref (cd 0)), (0, .ref b)] → W p l e room_1 s m #[Value.ref b] below meth c H locs (cells + 3) (slots + 29) (lw_Z below #[Value.ref b] s) (F0 m 820 ls []))
    (L : List Nat) (isA : Nat → Bool) (bk : Nat → Nat) (sc : Nat → Int32) (ia : Nat → Nat → Int32) (qa : Nat → Nat → Option Nat) (rf ba : Nat → Nat → Int32) (g : Nat → Int64) (sm : Nat → Int32) (im : Nat → Nat → Int32) (H : Heap) (locs : List Loc) (ls : Array Slot) (hR : LR T L isA bk sc qa rf sm im) (hP : va_P (dC, dI) cls_ (LWd cd kI kQ kJ kZ ou g0 ad L isA bk sc ia qa rf ba g sm im) H) (hD : va_D A (LWd cd kI kQ kJ kZ ou g0 ad L isA bk sc ia qa rf ba g sm im)) (hS : va_S A s.heap H locs) (hl : lv_has ls 8 [(4, .int (nI i)), (3, .ref ou), (2, .ref g0), (1, .ref (cd 0)), (0, .ref b)]) : W p l e room_1 s m #[Value.ref b] below meth c H locs cells slots (lw_Z below #[Value.ref b] s) (F0 m 671 ls []) := by
  obtain ⟨⟨N, hC⟩, ⟨NM, hM0⟩, hR1, hR2⟩ := hR
  have hm9 := hM0.2.1
  have hI := MI_wk hM0 (show T ≤ T + 1000 by omega) hT
  have hK3 : va_K (dC, dI) cls_ (CTJ kI kQ kJ) s := hK.sub (tys' := CTJ kI kQ kJ) [0, 1, 2] rfl
  have hK2 : va_K (dC, dI) cls_ (CT kI kQ) s := hK.sub (tys' := CT kI kQ) [0, 1] rfl
  have hK4 : va_K (dC, dI) cls_ (MOT kI kZ) s := hK.sub (tys' := MOT kI kZ) [0, 3] rfl
  refine lv_aload_n hx hb d_LW_law_671 rfl (lv_at hl 3 rfl) ?_
  refine lv_aload_n hx hb d_LW_law_672 rfl (lv_at hl 4 rfl) ?_
  refine lv_iload hx hb d_LW_law_673 (lv_at hl 0 rfl) ?_
  refine lv_iconst (v := 1) hx hb d_LW_law_675 (by decide) ?_
  refine lv_iadd hx hb d_LW_law_676 ?_
  refine lv_topi (fun v1 ev1 => ?_)
  obtain rfl : v1 = nI (i + 1) := ev1.trans (by rw [show (1 : Int32) = nI 1 from rfl, nI_add])
  refine va_sld hx hb hX hbl hbA hS (vp_in_nI (show i + 1 < Ln by omega) (by omega)) d_LW_law_677 ?_
  refine W.eq (g2 := F0 m 678 ls [.int (xs (i + 1)), .ref (cd 0)]) (by rw [nI_clamp (show i + 1 < 2 ^ 31 by omega)]) ?_
  refine lv_aload_n hx hb d_LW_law_678 rfl (lv_at hl 1 rfl) ?_
  refine t_callF (E := MOW g0 ad kI kZ sm im) (u0 := (((L, isA, bk), (sc, ia, qa, rf, ba)), g)) (w0 := oW ou kJ g ++ CW cd kI kQ L isA bk sc ia qa rf ba) rfl (tw_runSW (As := [.ref (cd 0), .int (xs (i + 1)), .ref ou]) (rest := []) ⟨hx, hb, hml, hown, ht⟩ (w_LW_erase_c l dC dI cd kI kQ L isA bk sc ia qa rf ba kJ ou g H.size s.heap.size hl9 N hC (xs (i + 1))) rfl rfl ⟨Nat.le_of_ble_eq_true rfl, Nat.le_of_ble_eq_true rfl⟩ (pay_in ht (gW tb_584)) (show _ ∈ w_LW_erase from List.mem_cons_self) (ht _ tb_582) (ht _ tb_583) (ht _ tb_0) (n := 3) (by decide +kernel) ⟨frP_blind, fr_pre (ap_P hP) hK3 (ap_D hD) hAB hBs hS hV⟩ rfl rfl hl.1 rfl (lv_room (Nat.le_of_ble_eq_true rfl)) d_LW_law_679 ⟨show cells + 1 ≤ 601024 by omega, show slots + 6 ≤ 7293033 by omega⟩) hP hD hS hA (fun k1 u H locs hu hP hD hS => ?_)
  obtain ⟨⟨⟨L1, isA1, bk1⟩, sc1, ia1, qa1, rf1, ba1⟩, g1⟩ := u
  obtain ⟨hs1, ⟨N1, hC1⟩⟩ := hu
  have hs1 : same [] sc sc1 := hs1
  have hC1 : CI N1 L1 isA1 bk1 sc1 qa1 rf1 := hC1
  have hP : va_P (dC, dI) cls_ (LWd cd kI kQ kJ kZ ou g0 ad L1 isA1 bk1 sc1 ia1 qa1 rf1 ba1 g1 sm im) H := hP
  have hD : va_D A (LWd cd kI kQ kJ kZ ou g0 ad L1 isA1 bk1 sc1 ia1 qa1 rf1 ba1 g1 sm im) := hD
  refine W.eq (g2 := F0 m 682 ls [.int k1]) rfl ?_
  refine W.cs (cells' := cells + 1) (slots' := slots + 6) rfl rfl ?_
  refine lv_istore hx hb d_LW_law_682 hl (by decide) rfl (fun ls hl => ?_)
  have hl : lv_has ls 8 [(5, .int k1), (4, .int (nI i)), (3, .ref ou), (2, .ref g0), (1, .ref (cd 0)), (0, .ref b)] := hl
  refine lv_aload_n hx hb d_LW_law_684 rfl (lv_at hl 3 rfl) ?_
  refine lv_aload_n hx hb d_LW_law_685 rfl (lv_at hl 5 rfl) ?_
  refine lv_iload hx hb d_LW_law_686 (lv_at hl 1 rfl) ?_
  refine lv_iconst (v := 1) hx hb d_LW_law_688 (by decide) ?_
  refine lv_iadd hx hb d_LW_law_689 ?_
  refine lv_topi (fun v2 ev2 => ?_)
  obtain rfl : v2 = nI (i + 1) := ev2.trans (by rw [show (1 : Int32) = nI 1 from rfl, nI_add])
  refine va_sld hx hb hX hbl hbA hS (vp_in_nI (show i + 1 < Ln by omega) (by omega)) d_LW_law_690 ?_
  refine W.eq (g2 := F0 m 691 ls [.int (xs (i + 1)), .ref g0]) (by rw [nI_clamp (show i + 1 < 2 ^ 31 by omega)]) ?_
  refine t_callF (E := oW ou kJ g1 ++ CW cd kI kQ L1 isA1 bk1 sc1 ia1 qa1 rf1 ba1) (u0 := (sm, im)) (w0 := MOW g0 ad kI kZ sm im) rfl (va_runV (C := R_MO) (As := [.int (xs (i + 1))]) (rest := []) ⟨hx, hb, hml, hown, ht⟩ (t_MO_erase l dC dI g0 ad kI kZ sm im H.size s.heap.size ((T + 1000)) NM hI (xs (i + 1))) (cwV 1 ht (gV tb_890 tb_891 tb_892 tb_5 tb_893) rfl rfl rfl (by decide +kernel) ⟨Nat.le_of_ble_eq_true rfl, Nat.le_of_ble_eq_true rfl⟩) ⟨frP_blind, va_recv (q := (R_MO, F_MO, 30)) hK hP rfl (show (LWd cd kI kQ kJ kZ ou g0 ad L1 isA1 bk1 sc1 ia1 qa1 rf1 ba1 g1 sm im : va_W)[0]? = some _ from rfl), fr_pre (ap_P (wc_P hP)) hK4 (ap_D (wc_D hD)) hAB hBs hS hV⟩ rfl rfl hl.1 rfl (lv_room (Nat.le_of_ble_eq_true rfl)) d_LW_law_691 ⟨show cells + 1 + 0 ≤ 601024 by omega, show slots + 6 + 0 ≤ 7293033 by omega⟩) (wc_P hP) (wc_D hD) hS hA (fun b1 u H locs hu hP hD hS => ?_)
  obtain ⟨sm1, im1⟩ := u
  obtain ⟨hm1, -, hI1⟩ := hu
  have hm1 : same [0] sm sm1 := hm1
  obtain ⟨NM1, eNM1⟩ : ∃ q9_, q9_ = NM := ⟨_, rfl⟩
  rw [← eNM1] at hI1
  have hI1 : MI (T + 1000) NM1 sm1 im1 := hI1
  have hP := wc_P hP
  have hD := wc_D hD
  have hP : va_P (dC, dI) cls_ (LWd cd kI kQ kJ kZ ou g0 ad L1 isA1 bk1 sc1 ia1 qa1 rf1 ba1 g1 sm1 im1) H := hP
  have hD : va_D A (LWd cd kI kQ kJ kZ ou g0 ad L1 isA1 bk1 sc1 ia1 qa1 rf1 ba1 g1 sm1 im1) := hD
  refine W.eq (g2 := F0 m 694 ls [.int b1]) rfl ?_
  refine W.cs (cells' := cells + 1) (slots' := slots + 6) rfl rfl ?_
  refine lv_istore hx hb d_LW_law_694 hl (by decide) rfl (fun ls hl => ?_)
  have hl : lv_has ls 8 [(6, .int b1), (5, .int k1), (4, .int (nI i)), (3, .ref ou), (2, .ref g0), (1, .ref (cd 0)), (0, .ref b)] := hl
  refine lv_goto (tgt := 820) hx hb d_LW_law_696 (by decide) ?_
  have hl := lv_sub hl [2, 3, 4, 5, 6] (l' := [(4, .int (nI i)), (3, .ref ou), (2, .ref g0), (1, .ref (cd 0)), (0, .ref b)]) rfl
  have hq1 : sc1 1 = sm1 1 := (hs1 1 (by decide)).trans (hR1.trans (hm1 1 (by decide)).symm)
  have hq2 : sc1 2 = sm1 2 := (hs1 2 (by decide)).trans (hR2.trans (hm1 2 (by decide)).symm)
  refine W.widen (k := cells + 3) (n := slots + 29) (by omega) (by omega) ?_
  exact kk L1 isA1 bk1 sc1 ia1 qa1 rf1 ba1 g1 sm1 im1 H locs ls ⟨⟨_, hC1⟩, ⟨_, hI1⟩, hq1, hq2⟩ hP hD hS hl
set_option maxHeartbeats 8000000 in
set_option maxRecDepth 100000 in
theorem cs_17 {p : Program} {l : Launch} {e : Env} {s : State} {m : MethodId} {below : List Frame} {meth : Method} {c : Code} {A : Nat → Prop} {b : Nat} {xs : Nat → Int32} (dC : Nat → ClassId) (dI : Nat → Nat → Nat) (cd : Nat → Nat) (kI kQ kJ kZ : ClassId) (ou g0 : Nat) (ad : Nat → Nat) (i Ln : Nat) (hi : i + 6 ≤ Ln) (hLn : Ln ≤ 3072) (hX : va_X b Ln xs s s.heap) (cells slots : Nat) (hcl : cells + 3 ≤ 601024) (hsl : slots + 29 ≤ 7293033) (T : Int) (hT : T + 1000 ≤ 1000000) (hl9 : l.stackTraces = false) (hx : p.tables.exec = Jvm.exec) (hb : c.code = code) (hr : meth.sig.returnType = ret) (hlocks : meth.locks = false) (hbl : b < s.heap.size) (hbA : ¬ A b) (hAB : ∀ q, A q → s.heap.size ≤ q) (hml : c.maxLocals = 8) (hown : s.vm.findClass R_LW = some m.cls) (ht : ∀ w ∈ tb_, w.before #[Value.ref b] s = true) (hA : ∀ q : Nat, s.heap.size ≤ q → A q) (hBs : s.heap.size ≤ s.heap.size) (hV : tw_V s.heap.size s s.heap) (hK : va_K (dC, dI) cls_ (LT kI kQ kJ kZ) s)
    (kk : ∀ (L : List Nat) (isA : Nat → Bool) (bk : Nat → Nat) (sc : Nat → Int32) (ia : Nat → Nat → Int32) (qa : Nat → Nat → Option Nat) (rf ba : Nat → Nat → Int32) (g : Nat → Int64) (sm : Nat → Int32) (im : Nat → Nat → Int32) (H : Heap) (locs : List Loc) (ls : Array Slot), LR (T + 1000) L isA bk sc qa rf sm im → va_P (dC, dI) cls_ (LWd cd kI kQ kJ kZ ou g0 ad L isA bk sc ia qa rf ba g sm im) H → va_D A (LWd cd kI kQ kJ kZ ou g0 ad L isA bk sc ia qa rf ba g sm im) → va_S A s.heap H locs → lv_has ls 8 [(4, .int (nI i)), (3, .ref ou), (2, .ref g0), (1, .ref (cd 0)), (0, .ref b)] → W p l e room_1 s m #[Value.ref b] below meth c H locs (cells + 3) (slots + 29) (lw_Z below #[Value.ref b] s) (F0 m 820 ls []))
    (L : List Nat) (isA : Nat → Bool) (bk : Nat → Nat) (sc : Nat → Int32) (ia : Nat → Nat → Int32) (qa : Nat → Nat → Option Nat) (rf ba : Nat → Nat → Int32) (g : Nat → Int64) (sm : Nat → Int32) (im : Nat → Nat → Int32) (H : Heap) (locs : List Loc) (ls : Array Slot) (hR : LR T L isA bk sc qa rf sm im) (hP : va_P (dC, dI) cls_ (LWd cd kI kQ kJ kZ ou g0 ad L isA bk sc ia qa rf ba g sm im) H) (hD : va_D A (LWd cd kI kQ kJ kZ ou g0 ad L isA bk sc ia qa rf ba g sm im)) (hS : va_S A s.heap H locs) (hl : lv_has ls 8 [(4, .int (nI i)), (3, .ref ou), (2, .ref g0), (1, .ref (cd 0)), (0, .ref b)]) : W p l e room_1 s m #[Value.ref b] below meth c H locs cells slots (lw_Z below #[Value.ref b] s) (F0 m 699 ls []) := by
  obtain ⟨⟨N, hC⟩, ⟨NM, hM0⟩, hR1, hR2⟩ := hR
  have hm9 := hM0.2.1
  have hI := MI_wk hM0 (show T ≤ T + 1000 by omega) hT
  have hK3 : va_K (dC, dI) cls_ (CTJ kI kQ kJ) s := hK.sub (tys' := CTJ kI kQ kJ) [0, 1, 2] rfl
  have hK2 : va_K (dC, dI) cls_ (CT kI kQ) s := hK.sub (tys' := CT kI kQ) [0, 1] rfl
  have hK4 : va_K (dC, dI) cls_ (MOT kI kZ) s := hK.sub (tys' := MOT kI kZ) [0, 3] rfl
  refine lv_aload_n hx hb d_LW_law_699 rfl (lv_at hl 3 rfl) ?_
  refine r_call (va_runV (C := R_TT) (As := []) (rest := []) ⟨hx, hb, hml, hown, ht⟩ (k_TT_free l dC dI cd kI kQ L isA bk sc ia qa rf ba N hC) (cwV 0 ht (gV tb_257 tb_258 tb_259 tb_1 tb_260) rfl rfl rfl (by decide +kernel) ⟨Nat.le_of_ble_eq_true rfl, Nat.le_of_ble_eq_true rfl⟩) ⟨rdP_blind, va_recv (q := (R_TT, F_TT, 8)) hK hP rfl (show (LWd cd kI kQ kJ kZ ou g0 ad L isA bk sc ia qa rf ba g sm im : va_W)[26]? = some _ from rfl), rd_pre (ap_P (as_P hP)) hK2⟩ rfl rfl hl.1 rfl (lv_room (Nat.le_of_ble_eq_true rfl)) d_LW_law_700 ⟨show cells + 0 ≤ 601024 by omega, show slots + 0 ≤ 7293033 by omega⟩) (fun k1 hw0 => ?_)
  have hs1 : same [] sc sc := same.rf
  have hC1 := hC
  refine W.eq (g2 := F0 m 703 ls [.int k1]) rfl ?_
  refine W.cs (cells' := cells) (slots' := slots) rfl rfl ?_
  refine lv_pop hx hb d_LW_law_703 rfl ?_
  refine lv_aload_n hx hb d_LW_law_704 rfl (lv_at hl 2 rfl) ?_
  refine t_callF (E := oW ou kJ g ++ CW cd kI kQ L isA bk sc ia qa rf ba) (u0 := (sm, im)) (w0 := MOW g0 ad kI kZ sm im) rfl (va_runV (C := R_MO) (As := []) (rest := []) ⟨hx, hb, hml, hown, ht⟩ (t_MO_free l dC dI g0 ad kI kZ sm im H.size s.heap.size ((T + 1000)) NM hI) (cwV 0 ht (gV tb_894 tb_895 tb_896 tb_5 tb_897) rfl rfl rfl (by decide +kernel) ⟨Nat.le_of_ble_eq_true rfl, Nat.le_of_ble_eq_true rfl⟩) ⟨frP_blind, va_recv (q := (R_MO, F_MO, 30)) hK hP rfl (show (LWd cd kI kQ kJ kZ ou g0 ad L isA bk sc ia qa rf ba g sm im : va_W)[0]? = some _ from rfl), fr_pre (ap_P (wc_P hP)) hK4 (ap_D (wc_D hD)) hAB hBs hS hV⟩ rfl rfl hl.1 rfl (lv_room (Nat.le_of_ble_eq_true rfl)) d_LW_law_705 ⟨show cells + 0 ≤ 601024 by omega, show slots + 0 ≤ 7293033 by omega⟩) (wc_P hP) (wc_D hD) hS hA (fun b1 u H locs hu hP hD hS => ?_)
  obtain ⟨sm1, im1⟩ := u
  obtain ⟨hm1, -, hI1⟩ := hu
  have hm1 : same [0] sm sm1 := hm1
  obtain ⟨NM1, eNM1⟩ : ∃ q9_, q9_ = NM := ⟨_, rfl⟩
  rw [← eNM1] at hI1
  have hI1 : MI (T + 1000) NM1 sm1 im1 := hI1
  have hP := wc_P hP
  have hD := wc_D hD
  have hP : va_P (dC, dI) cls_ (LWd cd kI kQ kJ kZ ou g0 ad L isA bk sc ia qa rf ba g sm1 im1) H := hP
  have hD : va_D A (LWd cd kI kQ kJ kZ ou g0 ad L isA bk sc ia qa rf ba g sm1 im1) := hD
  refine W.eq (g2 := F0 m 708 ls [.int b1]) rfl ?_
  refine W.cs (cells' := cells) (slots' := slots) rfl rfl ?_
  refine lv_pop hx hb d_LW_law_708 rfl ?_
  refine lv_goto (tgt := 820) hx hb d_LW_law_709 (by decide) ?_
  have hl := lv_sub hl [0, 1, 2, 3, 4] (l' := [(4, .int (nI i)), (3, .ref ou), (2, .ref g0), (1, .ref (cd 0)), (0, .ref b)]) rfl
  have hq1 : sc 1 = sm1 1 := (hs1 1 (by decide)).trans (hR1.trans (hm1 1 (by decide)).symm)
  have hq2 : sc 2 = sm1 2 := (hs1 2 (by decide)).trans (hR2.trans (hm1 2 (by decide)).symm)
  refine W.widen (k := cells + 3) (n := slots + 29) (by omega) (by omega) ?_
  exact kk L isA bk sc ia qa rf ba g sm1 im1 H locs ls ⟨⟨_, hC1⟩, ⟨_, hI1⟩, hq1, hq2⟩ hP hD hS hl
set_option maxHeartbeats 8000000 in
set_option maxRecDepth 100000 in
theorem cs_18 {p : Program} {l : Launch} {e : Env} {s : State} {m : MethodId} {below : List Frame} {meth : Method} {c : Code} {A : Nat → Prop} {b : Nat} {xs : Nat → Int32} (dC : Nat → ClassId) (dI : Nat → Nat → Nat) (cd : Nat → Nat) (kI kQ kJ kZ : ClassId) (ou g0 : Nat) (ad : Nat → Nat) (i Ln : Nat) (hi : i + 6 ≤ Ln) (hLn : Ln ≤ 3072) (hX : va_X b Ln xs s s.heap) (cells slots : Nat) (hcl : cells + 3 ≤ 601024) (hsl : slots + 29 ≤ 7293033) (T : Int) (hT : T + 1000 ≤ 1000000) (hl9 : l.stackTraces = false) (hx : p.tables.exec = Jvm.exec) (hb : c.code = code) (hr : meth.sig.returnType = ret) (hlocks : meth.locks = false) (hbl : b < s.heap.size) (hbA : ¬ A b) (hAB : ∀ q, A q → s.heap.size ≤ q) (hml : c.maxLocals = 8) (hown : s.vm.findClass R_LW = some m.cls) (ht : ∀ w ∈ tb_, w.before #[Value.ref b] s = true) (hA : ∀ q : Nat, s.heap.size ≤ q → A q) (hBs : s.heap.size ≤ s.heap.size) (hV : tw_V s.heap.size s s.heap) (hK : va_K (dC, dI) cls_ (LT kI kQ kJ kZ) s)
    (kk : ∀ (L : List Nat) (isA : Nat → Bool) (bk : Nat → Nat) (sc : Nat → Int32) (ia : Nat → Nat → Int32) (qa : Nat → Nat → Option Nat) (rf ba : Nat → Nat → Int32) (g : Nat → Int64) (sm : Nat → Int32) (im : Nat → Nat → Int32) (H : Heap) (locs : List Loc) (ls : Array Slot), LR (T + 1000) L isA bk sc qa rf sm im → va_P (dC, dI) cls_ (LWd cd kI kQ kJ kZ ou g0 ad L isA bk sc ia qa rf ba g sm im) H → va_D A (LWd cd kI kQ kJ kZ ou g0 ad L isA bk sc ia qa rf ba g sm im) → va_S A s.heap H locs → lv_has ls 8 [(4, .int (nI i)), (3, .ref ou), (2, .ref g0), (1, .ref (cd 0)), (0, .ref b)] → W p l e room_1 s m #[Value.ref b] below meth c H locs (cells + 3) (slots + 29) (lw_Z below #[Value.ref b] s) (F0 m 820 ls []))
    (L : List Nat) (isA : Nat → Bool) (bk : Nat → Nat) (sc : Nat → Int32) (ia : Nat → Nat → Int32) (qa : Nat → Nat → Option Nat) (rf ba : Nat → Nat → Int32) (g : Nat → Int64) (sm : Nat → Int32) (im : Nat → Nat → Int32) (H : Heap) (locs : List Loc) (ls : Array Slot) (hR : LR T L isA bk sc qa rf sm im) (hP : va_P (dC, dI) cls_ (LWd cd kI kQ kJ kZ ou g0 ad L isA bk sc ia qa rf ba g sm im) H) (hD : va_D A (LWd cd kI kQ kJ kZ ou g0 ad L isA bk sc ia qa rf ba g sm im)) (hS : va_S A s.heap H locs) (hl : lv_has ls 8 [(4, .int (nI i)), (3, .ref ou), (2, .ref g0), (1, .ref (cd 0)), (0, .ref b)]) : W p l e room_1 s m #[Value.ref b] below meth c H locs cells slots (lw_Z below #[Value.ref b] s) (F0 m 712 ls []) := by
  obtain ⟨⟨N, hC⟩, ⟨NM, hM0⟩, hR1, hR2⟩ := hR
  have hm9 := hM0.2.1
  have hI := MI_wk hM0 (show T ≤ T + 1000 by omega) hT
  have hK3 : va_K (dC, dI) cls_ (CTJ kI kQ kJ) s := hK.sub (tys' := CTJ kI kQ kJ) [0, 1, 2] rfl
  have hK2 : va_K (dC, dI) cls_ (CT kI kQ) s := hK.sub (tys' := CT kI kQ) [0, 1] rfl
  have hK4 : va_K (dC, dI) cls_ (MOT kI kZ) s := hK.sub (tys' := MOT kI kZ) [0, 3] rfl
  refine lv_aload_n hx hb d_LW_law_712 rfl (lv_at hl 3 rfl) ?_
  refine lv_aload_n hx hb d_LW_law_713 rfl (lv_at hl 4 rfl) ?_
  refine lv_iload hx hb d_LW_law_714 (lv_at hl 0 rfl) ?_
  refine lv_iconst (v := 1) hx hb d_LW_law_716 (by decide) ?_
  refine lv_iadd hx hb d_LW_law_717 ?_
  refine lv_topi (fun v1 ev1 => ?_)
  obtain rfl : v1 = nI (i + 1) := ev1.trans (by rw [show (1 : Int32) = nI 1 from rfl, nI_add])
  refine va_sld hx hb hX hbl hbA hS (vp_in_nI (show i + 1 < Ln by omega) (by omega)) d_LW_law_718 ?_
  refine W.eq (g2 := F0 m 719 ls [.int (xs (i + 1)), .ref (cd 0)]) (by rw [nI_clamp (show i + 1 < 2 ^ 31 by omega)]) ?_
  refine lv_aload_n hx hb d_LW_law_719 rfl (lv_at hl 4 rfl) ?_
  refine lv_iload hx hb d_LW_law_720 (lv_at hl 0 rfl) ?_
  refine lv_iconst (v := 2) hx hb d_LW_law_722 (by decide) ?_
  refine lv_iadd hx hb d_LW_law_723 ?_
  refine lv_topi (fun v2 ev2 => ?_)
  obtain rfl : v2 = nI (i + 2) := ev2.trans (by rw [show (2 : Int32) = nI 2 from rfl, nI_add])
  refine va_sld hx hb hX hbl hbA hS (vp_in_nI (show i + 2 < Ln by omega) (by omega)) d_LW_law_724 ?_
  refine W.eq (g2 := F0 m 725 ls [.int (xs (i + 2)), .int (xs (i + 1)), .ref (cd 0)]) (by rw [nI_clamp (show i + 2 < 2 ^ 31 by omega)]) ?_
  refine lv_aload_n hx hb d_LW_law_725 rfl (lv_at hl 1 rfl) ?_
  refine t_callF (E := MOW g0 ad kI kZ sm im) (u0 := (((L, isA, bk), (sc, ia, qa, rf, ba)), g)) (w0 := oW ou kJ g ++ CW cd kI kQ L isA bk sc ia qa rf ba) rfl (tw_runSW (As := [.ref (cd 0), .int (xs (i + 1)), .int (xs (i + 2)), .ref ou]) (rest := []) ⟨hx, hb, hml, hown, ht⟩ (w_LW_bookmark_c l dC dI cd kI kQ L isA bk sc ia qa rf ba kJ ou g H.size s.heap.size hl9 N hC (xs (i + 1)) (xs (i + 2))) rfl rfl ⟨Nat.le_of_ble_eq_true rfl, Nat.le_of_ble_eq_true rfl⟩ (pay_in ht (gW tb_592)) (show _ ∈ w_LW_bookmark from List.mem_cons_self) (ht _ tb_590) (ht _ tb_591) (ht _ tb_0) (n := 4) (by decide +kernel) ⟨frP_blind, fr_pre (ap_P hP) hK3 (ap_D hD) hAB hBs hS hV⟩ rfl rfl hl.1 rfl (lv_room (Nat.le_of_ble_eq_true rfl)) d_LW_law_726 ⟨show cells + 1 ≤ 601024 by omega, show slots + 6 ≤ 7293033 by omega⟩) hP hD hS hA (fun k1 u H locs hu hP hD hS => ?_)
  obtain ⟨⟨⟨L1, isA1, bk1⟩, sc1, ia1, qa1, rf1, ba1⟩, g1⟩ := u
  obtain ⟨hs1, ⟨N1, hC1⟩⟩ := hu
  have hs1 : same [] sc sc1 := hs1
  have hC1 : CI N1 L1 isA1 bk1 sc1 qa1 rf1 := hC1
  have hP : va_P (dC, dI) cls_ (LWd cd kI kQ kJ kZ ou g0 ad L1 isA1 bk1 sc1 ia1 qa1 rf1 ba1 g1 sm im) H := hP
  have hD : va_D A (LWd cd kI kQ kJ kZ ou g0 ad L1 isA1 bk1 sc1 ia1 qa1 rf1 ba1 g1 sm im) := hD
  refine W.eq (g2 := F0 m 729 ls [.int k1]) rfl ?_
  refine W.cs (cells' := cells + 1) (slots' := slots + 6) rfl rfl ?_
  refine lv_istore hx hb d_LW_law_729 hl (by decide) rfl (fun ls hl => ?_)
  have hl : lv_has ls 8 [(5, .int k1), (4, .int (nI i)), (3, .ref ou), (2, .ref g0), (1, .ref (cd 0)), (0, .ref b)] := hl
  refine lv_aload_n hx hb d_LW_law_731 rfl (lv_at hl 3 rfl) ?_
  refine lv_aload_n hx hb d_LW_law_732 rfl (lv_at hl 5 rfl) ?_
  refine lv_iload hx hb d_LW_law_733 (lv_at hl 1 rfl) ?_
  refine lv_iconst (v := 1) hx hb d_LW_law_735 (by decide) ?_
  refine lv_iadd hx hb d_LW_law_736 ?_
  refine lv_topi (fun v3 ev3 => ?_)
  obtain rfl : v3 = nI (i + 1) := ev3.trans (by rw [show (1 : Int32) = nI 1 from rfl, nI_add])
  refine va_sld hx hb hX hbl hbA hS (vp_in_nI (show i + 1 < Ln by omega) (by omega)) d_LW_law_737 ?_
  refine W.eq (g2 := F0 m 738 ls [.int (xs (i + 1)), .ref g0]) (by rw [nI_clamp (show i + 1 < 2 ^ 31 by omega)]) ?_
  refine lv_aload_n hx hb d_LW_law_738 rfl (lv_at hl 5 rfl) ?_
  refine lv_iload hx hb d_LW_law_739 (lv_at hl 1 rfl) ?_
  refine lv_iconst (v := 2) hx hb d_LW_law_741 (by decide) ?_
  refine lv_iadd hx hb d_LW_law_742 ?_
  refine lv_topi (fun v4 ev4 => ?_)
  obtain rfl : v4 = nI (i + 2) := ev4.trans (by rw [show (2 : Int32) = nI 2 from rfl, nI_add])
  refine va_sld hx hb hX hbl hbA hS (vp_in_nI (show i + 2 < Ln by omega) (by omega)) d_LW_law_743 ?_
  refine W.eq (g2 := F0 m 744 ls [.int (xs (i + 2)), .int (xs (i + 1)), .ref g0]) (by rw [nI_clamp (show i + 2 < 2 ^ 31 by omega)]) ?_
  refine t_callF (E := oW ou kJ g1 ++ CW cd kI kQ L1 isA1 bk1 sc1 ia1 qa1 rf1 ba1) (u0 := (sm, im)) (w0 := MOW g0 ad kI kZ sm im) rfl (va_runV (C := R_MO) (As := [.int (xs (i + 1)), .int (xs (i + 2))]) (rest := []) ⟨hx, hb, hml, hown, ht⟩ (t_MO_bookmark l dC dI g0 ad kI kZ sm im H.size s.heap.size ((T + 1000)) NM hI (xs (i + 1)) (xs (i + 2))) (cwV 2 ht (gV tb_898 tb_899 tb_900 tb_5 tb_901) rfl rfl rfl (by decide +kernel) ⟨Nat.le_of_ble_eq_true rfl, Nat.le_of_ble_eq_true rfl⟩) ⟨frP_blind, va_recv (q := (R_MO, F_MO, 30)) hK hP rfl (show (LWd cd kI kQ kJ kZ ou g0 ad L1 isA1 bk1 sc1 ia1 qa1 rf1 ba1 g1 sm im : va_W)[0]? = some _ from rfl), fr_pre (ap_P (wc_P hP)) hK4 (ap_D (wc_D hD)) hAB hBs hS hV⟩ rfl rfl hl.1 rfl (lv_room (Nat.le_of_ble_eq_true rfl)) d_LW_law_744 ⟨show cells + 1 + 0 ≤ 601024 by omega, show slots + 6 + 0 ≤ 7293033 by omega⟩) (wc_P hP) (wc_D hD) hS hA (fun b1 u H locs hu hP hD hS => ?_)
  obtain ⟨sm1, im1⟩ := u
  obtain ⟨hm1, -, hI1⟩ := hu
  have hm1 : same [0] sm sm1 := hm1
  obtain ⟨NM1, eNM1⟩ : ∃ q9_, q9_ = NM := ⟨_, rfl⟩
  rw [← eNM1] at hI1
  have hI1 : MI (T + 1000) NM1 sm1 im1 := hI1
  have hP := wc_P hP
  have hD := wc_D hD
  have hP : va_P (dC, dI) cls_ (LWd cd kI kQ kJ kZ ou g0 ad L1 isA1 bk1 sc1 ia1 qa1 rf1 ba1 g1 sm1 im1) H := hP
  have hD : va_D A (LWd cd kI kQ kJ kZ ou g0 ad L1 isA1 bk1 sc1 ia1 qa1 rf1 ba1 g1 sm1 im1) := hD
  refine W.eq (g2 := F0 m 747 ls [.int b1]) rfl ?_
  refine W.cs (cells' := cells + 1) (slots' := slots + 6) rfl rfl ?_
  refine lv_istore hx hb d_LW_law_747 hl (by decide) rfl (fun ls hl => ?_)
  have hl : lv_has ls 8 [(6, .int b1), (5, .int k1), (4, .int (nI i)), (3, .ref ou), (2, .ref g0), (1, .ref (cd 0)), (0, .ref b)] := hl
  refine lv_goto (tgt := 820) hx hb d_LW_law_749 (by decide) ?_
  have hl := lv_sub hl [2, 3, 4, 5, 6] (l' := [(4, .int (nI i)), (3, .ref ou), (2, .ref g0), (1, .ref (cd 0)), (0, .ref b)]) rfl
  have hq1 : sc1 1 = sm1 1 := (hs1 1 (by decide)).trans (hR1.trans (hm1 1 (by decide)).symm)
  have hq2 : sc1 2 = sm1 2 := (hs1 2 (by decide)).trans (hR2.trans (hm1 2 (by decide)).symm)
  refine W.widen (k := cells + 3) (n := slots + 29) (by omega) (by omega) ?_
  exact kk L1 isA1 bk1 sc1 ia1 qa1 rf1 ba1 g1 sm1 im1 H locs ls ⟨⟨_, hC1⟩, ⟨_, hI1⟩, hq1, hq2⟩ hP hD hS hl
set_option maxHeartbeats 8000000 in
set_option maxRecDepth 100000 in
theorem cs_19 {p : Program} {l : Launch} {e : Env} {s : State} {m : MethodId} {below : List Frame} {meth : Method} {c : Code} {A : Nat → Prop} {b : Nat} {xs : Nat → Int32} (dC : Nat → ClassId) (dI : Nat → Nat → Nat) (cd : Nat → Nat) (kI kQ kJ kZ : ClassId) (ou g0 : Nat) (ad : Nat → Nat) (i Ln : Nat) (hi : i + 6 ≤ Ln) (hLn : Ln ≤ 3072) (hX : va_X b Ln xs s s.heap) (cells slots : Nat) (hcl : cells + 3 ≤ 601024) (hsl : slots + 29 ≤ 7293033) (T : Int) (hT : T + 1000 ≤ 1000000) (hl9 : l.stackTraces = false) (hx : p.tables.exec = Jvm.exec) (hb : c.code = code) (hr : meth.sig.returnType = ret) (hlocks : meth.locks = false) (hbl : b < s.heap.size) (hbA : ¬ A b) (hAB : ∀ q, A q → s.heap.size ≤ q) (hml : c.maxLocals = 8) (hown : s.vm.findClass R_LW = some m.cls) (ht : ∀ w ∈ tb_, w.before #[Value.ref b] s = true) (hA : ∀ q : Nat, s.heap.size ≤ q → A q) (hBs : s.heap.size ≤ s.heap.size) (hV : tw_V s.heap.size s s.heap) (hK : va_K (dC, dI) cls_ (LT kI kQ kJ kZ) s)
    (kk : ∀ (L : List Nat) (isA : Nat → Bool) (bk : Nat → Nat) (sc : Nat → Int32) (ia : Nat → Nat → Int32) (qa : Nat → Nat → Option Nat) (rf ba : Nat → Nat → Int32) (g : Nat → Int64) (sm : Nat → Int32) (im : Nat → Nat → Int32) (H : Heap) (locs : List Loc) (ls : Array Slot), LR (T + 1000) L isA bk sc qa rf sm im → va_P (dC, dI) cls_ (LWd cd kI kQ kJ kZ ou g0 ad L isA bk sc ia qa rf ba g sm im) H → va_D A (LWd cd kI kQ kJ kZ ou g0 ad L isA bk sc ia qa rf ba g sm im) → va_S A s.heap H locs → lv_has ls 8 [(4, .int (nI i)), (3, .ref ou), (2, .ref g0), (1, .ref (cd 0)), (0, .ref b)] → W p l e room_1 s m #[Value.ref b] below meth c H locs (cells + 3) (slots + 29) (lw_Z below #[Value.ref b] s) (F0 m 820 ls []))
    (L : List Nat) (isA : Nat → Bool) (bk : Nat → Nat) (sc : Nat → Int32) (ia : Nat → Nat → Int32) (qa : Nat → Nat → Option Nat) (rf ba : Nat → Nat → Int32) (g : Nat → Int64) (sm : Nat → Int32) (im : Nat → Nat → Int32) (H : Heap) (locs : List Loc) (ls : Array Slot) (hR : LR T L isA bk sc qa rf sm im) (hP : va_P (dC, dI) cls_ (LWd cd kI kQ kJ kZ ou g0 ad L isA bk sc ia qa rf ba g sm im) H) (hD : va_D A (LWd cd kI kQ kJ kZ ou g0 ad L isA bk sc ia qa rf ba g sm im)) (hS : va_S A s.heap H locs) (hl : lv_has ls 8 [(4, .int (nI i)), (3, .ref ou), (2, .ref g0), (1, .ref (cd 0)), (0, .ref b)]) : W p l e room_1 s m #[Value.ref b] below meth c H locs cells slots (lw_Z below #[Value.ref b] s) (F0 m 752 ls []) := by
  obtain ⟨⟨N, hC⟩, ⟨NM, hM0⟩, hR1, hR2⟩ := hR
  have hm9 := hM0.2.1
  have hI := MI_wk hM0 (show T ≤ T + 1000 by omega) hT
  have hK3 : va_K (dC, dI) cls_ (CTJ kI kQ kJ) s := hK.sub (tys' := CTJ kI kQ kJ) [0, 1, 2] rfl
  have hK2 : va_K (dC, dI) cls_ (CT kI kQ) s := hK.sub (tys' := CT kI kQ) [0, 1] rfl
  have hK4 : va_K (dC, dI) cls_ (MOT kI kZ) s := hK.sub (tys' := MOT kI kZ) [0, 3] rfl
  refine lv_aload_n hx hb d_LW_law_752 rfl (lv_at hl 3 rfl) ?_
  refine lv_aload_n hx hb d_LW_law_753 rfl (lv_at hl 4 rfl) ?_
  refine lv_iload hx hb d_LW_law_754 (lv_at hl 0 rfl) ?_
  refine lv_iconst (v := 1) hx hb d_LW_law_756 (by decide) ?_
  refine lv_iadd hx hb d_LW_law_757 ?_
  refine lv_topi (fun v1 ev1 => ?_)
  obtain rfl : v1 = nI (i + 1) := ev1.trans (by rw [show (1 : Int32) = nI 1 from rfl, nI_add])
  refine va_sld hx hb hX hbl hbA hS (vp_in_nI (show i + 1 < Ln by omega) (by omega)) d_LW_law_758 ?_
  refine W.eq (g2 := F0 m 759 ls [.int (xs (i + 1)), .ref (cd 0)]) (by rw [nI_clamp (show i + 1 < 2 ^ 31 by omega)]) ?_
  refine lv_aload_n hx hb d_LW_law_759 rfl (lv_at hl 4 rfl) ?_
  refine lv_iload hx hb d_LW_law_760 (lv_at hl 0 rfl) ?_
  refine lv_iconst (v := 2) hx hb d_LW_law_762 (by decide) ?_
  refine lv_iadd hx hb d_LW_law_763 ?_
  refine lv_topi (fun v2 ev2 => ?_)
  obtain rfl : v2 = nI (i + 2) := ev2.trans (by rw [show (2 : Int32) = nI 2 from rfl, nI_add])
  refine va_sld hx hb hX hbl hbA hS (vp_in_nI (show i + 2 < Ln by omega) (by omega)) d_LW_law_764 ?_
  refine W.eq (g2 := F0 m 765 ls [.int (xs (i + 2)), .int (xs (i + 1)), .ref (cd 0)]) (by rw [nI_clamp (show i + 2 < 2 ^ 31 by omega)]) ?_
  refine lv_aload_n hx hb d_LW_law_765 rfl (lv_at hl 1 rfl) ?_
  refine t_callF (E := MOW g0 ad kI kZ sm im) (u0 := (((L, isA, bk), (sc, ia, qa, rf, ba)), g)) (w0 := oW ou kJ g ++ CW cd kI kQ L isA bk sc ia qa rf ba) rfl (tw_runSW (As := [.ref (cd 0), .int (xs (i + 1)), .int (xs (i + 2)), .ref ou]) (rest := []) ⟨hx, hb, hml, hown, ht⟩ (w_LW_bookmarkAt_c l dC dI cd kI kQ L isA bk sc ia qa rf ba kJ ou g H.size s.heap.size hl9 N hC (xs (i + 1)) (xs (i + 2))) rfl rfl ⟨Nat.le_of_ble_eq_true rfl, Nat.le_of_ble_eq_true rfl⟩ (pay_in ht (gW tb_605)) (show _ ∈ w_LW_bookmarkAt from List.mem_cons_self) (ht _ tb_603) (ht _ tb_604) (ht _ tb_0) (n := 4) (by decide +kernel) ⟨frP_blind, fr_pre (ap_P hP) hK3 (ap_D hD) hAB hBs hS hV⟩ rfl rfl hl.1 rfl (lv_room (Nat.le_of_ble_eq_true rfl)) d_LW_law_766 ⟨show cells + 1 ≤ 601024 by omega, show slots + 6 ≤ 7293033 by omega⟩) hP hD hS hA (fun k1 u H locs hu hP hD hS => ?_)
  obtain ⟨⟨⟨L1, isA1, bk1⟩, sc1, ia1, qa1, rf1, ba1⟩, g1⟩ := u
  obtain ⟨hs1, ⟨N1, hC1⟩⟩ := hu
  have hs1 : same [] sc sc1 := hs1
  have hC1 : CI N1 L1 isA1 bk1 sc1 qa1 rf1 := hC1
  have hP : va_P (dC, dI) cls_ (LWd cd kI kQ kJ kZ ou g0 ad L1 isA1 bk1 sc1 ia1 qa1 rf1 ba1 g1 sm im) H := hP
  have hD : va_D A (LWd cd kI kQ kJ kZ ou g0 ad L1 isA1 bk1 sc1 ia1 qa1 rf1 ba1 g1 sm im) := hD
  refine W.eq (g2 := F0 m 769 ls [.int k1]) rfl ?_
  refine W.cs (cells' := cells + 1) (slots' := slots + 6) rfl rfl ?_
  refine lv_istore hx hb d_LW_law_769 hl (by decide) rfl (fun ls hl => ?_)
  have hl : lv_has ls 8 [(5, .int k1), (4, .int (nI i)), (3, .ref ou), (2, .ref g0), (1, .ref (cd 0)), (0, .ref b)] := hl
  refine lv_aload_n hx hb d_LW_law_771 rfl (lv_at hl 3 rfl) ?_
  refine lv_aload_n hx hb d_LW_law_772 rfl (lv_at hl 5 rfl) ?_
  refine lv_iload hx hb d_LW_law_773 (lv_at hl 1 rfl) ?_
  refine lv_iconst (v := 1) hx hb d_LW_law_775 (by decide) ?_
  refine lv_iadd hx hb d_LW_law_776 ?_
  refine lv_topi (fun v3 ev3 => ?_)
  obtain rfl : v3 = nI (i + 1) := ev3.trans (by rw [show (1 : Int32) = nI 1 from rfl, nI_add])
  refine va_sld hx hb hX hbl hbA hS (vp_in_nI (show i + 1 < Ln by omega) (by omega)) d_LW_law_777 ?_
  refine W.eq (g2 := F0 m 778 ls [.int (xs (i + 1)), .ref g0]) (by rw [nI_clamp (show i + 1 < 2 ^ 31 by omega)]) ?_
  refine lv_aload_n hx hb d_LW_law_778 rfl (lv_at hl 5 rfl) ?_
  refine lv_iload hx hb d_LW_law_779 (lv_at hl 1 rfl) ?_
  refine lv_iconst (v := 2) hx hb d_LW_law_781 (by decide) ?_
  refine lv_iadd hx hb d_LW_law_782 ?_
  refine lv_topi (fun v4 ev4 => ?_)
  obtain rfl : v4 = nI (i + 2) := ev4.trans (by rw [show (2 : Int32) = nI 2 from rfl, nI_add])
  refine va_sld hx hb hX hbl hbA hS (vp_in_nI (show i + 2 < Ln by omega) (by omega)) d_LW_law_783 ?_
  refine W.eq (g2 := F0 m 784 ls [.int (xs (i + 2)), .int (xs (i + 1)), .ref g0]) (by rw [nI_clamp (show i + 2 < 2 ^ 31 by omega)]) ?_
  refine t_callF (E := oW ou kJ g1 ++ CW cd kI kQ L1 isA1 bk1 sc1 ia1 qa1 rf1 ba1) (u0 := (sm, im)) (w0 := MOW g0 ad kI kZ sm im) rfl (va_runV (C := R_MO) (As := [.int (xs (i + 1)), .int (xs (i + 2))]) (rest := []) ⟨hx, hb, hml, hown, ht⟩ (t_MO_bookmarkAt l dC dI g0 ad kI kZ sm im H.size s.heap.size ((T + 1000)) NM hI (xs (i + 1)) (xs (i + 2))) (cwV 2 ht (gV tb_906 tb_907 tb_908 tb_5 tb_909) rfl rfl rfl (by decide +kernel) ⟨Nat.le_of_ble_eq_true rfl, Nat.le_of_ble_eq_true rfl⟩) ⟨frP_blind, va_recv (q := (R_MO, F_MO, 30)) hK hP rfl (show (LWd cd kI kQ kJ kZ ou g0 ad L1 isA1 bk1 sc1 ia1 qa1 rf1 ba1 g1 sm im : va_W)[0]? = some _ from rfl), fr_pre (ap_P (wc_P hP)) hK4 (ap_D (wc_D hD)) hAB hBs hS hV⟩ rfl rfl hl.1 rfl (lv_room (Nat.le_of_ble_eq_true rfl)) d_LW_law_784 ⟨show cells + 1 + 0 ≤ 601024 by omega, show slots + 6 + 0 ≤ 7293033 by omega⟩) (wc_P hP) (wc_D hD) hS hA (fun b1 u H locs hu hP hD hS => ?_)
  obtain ⟨sm1, im1⟩ := u
  obtain ⟨hm1, -, hI1⟩ := hu
  have hm1 : same [0] sm sm1 := hm1
  obtain ⟨NM1, eNM1⟩ : ∃ q9_, q9_ = NM := ⟨_, rfl⟩
  rw [← eNM1] at hI1
  have hI1 : MI (T + 1000) NM1 sm1 im1 := hI1
  have hP := wc_P hP
  have hD := wc_D hD
  have hP : va_P (dC, dI) cls_ (LWd cd kI kQ kJ kZ ou g0 ad L1 isA1 bk1 sc1 ia1 qa1 rf1 ba1 g1 sm1 im1) H := hP
  have hD : va_D A (LWd cd kI kQ kJ kZ ou g0 ad L1 isA1 bk1 sc1 ia1 qa1 rf1 ba1 g1 sm1 im1) := hD
  refine W.eq (g2 := F0 m 787 ls [.int b1]) rfl ?_
  refine W.cs (cells' := cells + 1) (slots' := slots + 6) rfl rfl ?_
  refine lv_istore hx hb d_LW_law_787 hl (by decide) rfl (fun ls hl => ?_)
  have hl : lv_has ls 8 [(6, .int b1), (5, .int k1), (4, .int (nI i)), (3, .ref ou), (2, .ref g0), (1, .ref (cd 0)), (0, .ref b)] := hl
  refine lv_goto (tgt := 820) hx hb d_LW_law_789 (by decide) ?_
  have hl := lv_sub hl [2, 3, 4, 5, 6] (l' := [(4, .int (nI i)), (3, .ref ou), (2, .ref g0), (1, .ref (cd 0)), (0, .ref b)]) rfl
  have hq1 : sc1 1 = sm1 1 := (hs1 1 (by decide)).trans (hR1.trans (hm1 1 (by decide)).symm)
  have hq2 : sc1 2 = sm1 2 := (hs1 2 (by decide)).trans (hR2.trans (hm1 2 (by decide)).symm)
  refine W.widen (k := cells + 3) (n := slots + 29) (by omega) (by omega) ?_
  exact kk L1 isA1 bk1 sc1 ia1 qa1 rf1 ba1 g1 sm1 im1 H locs ls ⟨⟨_, hC1⟩, ⟨_, hI1⟩, hq1, hq2⟩ hP hD hS hl
set_option maxHeartbeats 8000000 in
set_option maxRecDepth 100000 in
theorem cs_20 {p : Program} {l : Launch} {e : Env} {s : State} {m : MethodId} {below : List Frame} {meth : Method} {c : Code} {A : Nat → Prop} {b : Nat} {xs : Nat → Int32} (dC : Nat → ClassId) (dI : Nat → Nat → Nat) (cd : Nat → Nat) (kI kQ kJ kZ : ClassId) (ou g0 : Nat) (ad : Nat → Nat) (i Ln : Nat) (hi : i + 6 ≤ Ln) (hLn : Ln ≤ 3072) (hX : va_X b Ln xs s s.heap) (cells slots : Nat) (hcl : cells + 3 ≤ 601024) (hsl : slots + 29 ≤ 7293033) (T : Int) (hT : T + 1000 ≤ 1000000) (hl9 : l.stackTraces = false) (hx : p.tables.exec = Jvm.exec) (hb : c.code = code) (hr : meth.sig.returnType = ret) (hlocks : meth.locks = false) (hbl : b < s.heap.size) (hbA : ¬ A b) (hAB : ∀ q, A q → s.heap.size ≤ q) (hml : c.maxLocals = 8) (hown : s.vm.findClass R_LW = some m.cls) (ht : ∀ w ∈ tb_, w.before #[Value.ref b] s = true) (hA : ∀ q : Nat, s.heap.size ≤ q → A q) (hBs : s.heap.size ≤ s.heap.size) (hV : tw_V s.heap.size s s.heap) (hK : va_K (dC, dI) cls_ (LT kI kQ kJ kZ) s)
    (kk : ∀ (L : List Nat) (isA : Nat → Bool) (bk : Nat → Nat) (sc : Nat → Int32) (ia : Nat → Nat → Int32) (qa : Nat → Nat → Option Nat) (rf ba : Nat → Nat → Int32) (g : Nat → Int64) (sm : Nat → Int32) (im : Nat → Nat → Int32) (H : Heap) (locs : List Loc) (ls : Array Slot), LR (T + 1000) L isA bk sc qa rf sm im → va_P (dC, dI) cls_ (LWd cd kI kQ kJ kZ ou g0 ad L isA bk sc ia qa rf ba g sm im) H → va_D A (LWd cd kI kQ kJ kZ ou g0 ad L isA bk sc ia qa rf ba g sm im) → va_S A s.heap H locs → lv_has ls 8 [(4, .int (nI i)), (3, .ref ou), (2, .ref g0), (1, .ref (cd 0)), (0, .ref b)] → W p l e room_1 s m #[Value.ref b] below meth c H locs (cells + 3) (slots + 29) (lw_Z below #[Value.ref b] s) (F0 m 820 ls []))
    (L : List Nat) (isA : Nat → Bool) (bk : Nat → Nat) (sc : Nat → Int32) (ia : Nat → Nat → Int32) (qa : Nat → Nat → Option Nat) (rf ba : Nat → Nat → Int32) (g : Nat → Int64) (sm : Nat → Int32) (im : Nat → Nat → Int32) (H : Heap) (locs : List Loc) (ls : Array Slot) (hR : LR T L isA bk sc qa rf sm im) (hP : va_P (dC, dI) cls_ (LWd cd kI kQ kJ kZ ou g0 ad L isA bk sc ia qa rf ba g sm im) H) (hD : va_D A (LWd cd kI kQ kJ kZ ou g0 ad L isA bk sc ia qa rf ba g sm im)) (hS : va_S A s.heap H locs) (hl : lv_has ls 8 [(4, .int (nI i)), (3, .ref ou), (2, .ref g0), (1, .ref (cd 0)), (0, .ref b)]) : W p l e room_1 s m #[Value.ref b] below meth c H locs cells slots (lw_Z below #[Value.ref b] s) (F0 m 792 ls []) := by
  obtain ⟨⟨N, hC⟩, ⟨NM, hM0⟩, hR1, hR2⟩ := hR
  have hm9 := hM0.2.1
  have hI := MI_wk hM0 (show T ≤ T + 1000 by omega) hT
  have hK3 : va_K (dC, dI) cls_ (CTJ kI kQ kJ) s := hK.sub (tys' := CTJ kI kQ kJ) [0, 1, 2] rfl
  have hK2 : va_K (dC, dI) cls_ (CT kI kQ) s := hK.sub (tys' := CT kI kQ) [0, 1] rfl
  have hK4 : va_K (dC, dI) cls_ (MOT kI kZ) s := hK.sub (tys' := MOT kI kZ) [0, 3] rfl
  refine lv_aload_n hx hb d_LW_law_792 rfl (lv_at hl 3 rfl) ?_
  refine lv_aload_n hx hb d_LW_law_793 rfl (lv_at hl 4 rfl) ?_
  refine lv_iload hx hb d_LW_law_794 (lv_at hl 0 rfl) ?_
  refine lv_iconst (v := 1) hx hb d_LW_law_796 (by decide) ?_
  refine lv_iadd hx hb d_LW_law_797 ?_
  refine lv_topi (fun v1 ev1 => ?_)
  obtain rfl : v1 = nI (i + 1) := ev1.trans (by rw [show (1 : Int32) = nI 1 from rfl, nI_add])
  refine va_sld hx hb hX hbl hbA hS (vp_in_nI (show i + 1 < Ln by omega) (by omega)) d_LW_law_798 ?_
  refine W.eq (g2 := F0 m 799 ls [.int (xs (i + 1)), .ref (cd 0)]) (by rw [nI_clamp (show i + 1 < 2 ^ 31 by omega)]) ?_
  refine lv_aload_n hx hb d_LW_law_799 rfl (lv_at hl 1 rfl) ?_
  refine t_callF (E := MOW g0 ad kI kZ sm im) (u0 := (((L, isA, bk), (sc, ia, qa, rf, ba)), g)) (w0 := oW ou kJ g ++ CW cd kI kQ L isA bk sc ia qa rf ba) rfl (tw_runSW (As := [.ref (cd 0), .int (xs (i + 1)), .ref ou]) (rest := []) ⟨hx, hb, hml, hown, ht⟩ (w_LW_cut_c l dC dI cd kI kQ L isA bk sc ia qa rf ba kJ ou g H.size s.heap.size hl9 N hC (xs (i + 1))) rfl rfl ⟨Nat.le_of_ble_eq_true rfl, Nat.le_of_ble_eq_true rfl⟩ (pay_in ht (gW tb_612)) (show _ ∈ w_LW_cut from List.mem_cons_self) (ht _ tb_610) (ht _ tb_611) (ht _ tb_0) (n := 3) (by decide +kernel) ⟨frP_blind, fr_pre (ap_P hP) hK3 (ap_D hD) hAB hBs hS hV⟩ rfl rfl hl.1 rfl (lv_room (Nat.le_of_ble_eq_true rfl)) d_LW_law_800 ⟨show cells + 1 ≤ 601024 by omega, show slots + 6 ≤ 7293033 by omega⟩) hP hD hS hA (fun k1 u H locs hu hP hD hS => ?_)
  obtain ⟨⟨⟨L1, isA1, bk1⟩, sc1, ia1, qa1, rf1, ba1⟩, g1⟩ := u
  obtain ⟨hs1, ⟨N1, hC1⟩, hw0⟩ := hu
  have hs1 : same [1, 5] sc sc1 := hs1
  have hC1 : CI N1 L1 isA1 bk1 sc1 qa1 rf1 := hC1
  have hw0 : (((sc 1).toInt ≤ (xs (i + 1)).toInt ∧ (xs (i + 1)).toInt ≤ (sc 1 + 1000).toInt) ∧ k1 = 0 ∧ sc1 1 = (xs (i + 1)) ∨ ¬ ((sc 1).toInt ≤ (xs (i + 1)).toInt ∧ (xs (i + 1)).toInt ≤ (sc 1 + 1000).toInt) ∧ k1 = 1 ∧ sc1 1 = sc 1) := hw0
  have hP : va_P (dC, dI) cls_ (LWd cd kI kQ kJ kZ ou g0 ad L1 isA1 bk1 sc1 ia1 qa1 rf1 ba1 g1 sm im) H := hP
  have hD : va_D A (LWd cd kI kQ kJ kZ ou g0 ad L1 isA1 bk1 sc1 ia1 qa1 rf1 ba1 g1 sm im) := hD
  refine W.eq (g2 := F0 m 803 ls [.int k1]) rfl ?_
  refine W.cs (cells' := cells + 1) (slots' := slots + 6) rfl rfl ?_
  refine lv_istore hx hb d_LW_law_803 hl (by decide) rfl (fun ls hl => ?_)
  have hl : lv_has ls 8 [(5, .int k1), (4, .int (nI i)), (3, .ref ou), (2, .ref g0), (1, .ref (cd 0)), (0, .ref b)] := hl
  refine lv_aload_n hx hb d_LW_law_805 rfl (lv_at hl 3 rfl) ?_
  refine lv_aload_n hx hb d_LW_law_806 rfl (lv_at hl 5 rfl) ?_
  refine lv_iload hx hb d_LW_law_807 (lv_at hl 1 rfl) ?_
  refine lv_iconst (v := 1) hx hb d_LW_law_809 (by decide) ?_
  refine lv_iadd hx hb d_LW_law_810 ?_
  refine lv_topi (fun v2 ev2 => ?_)
  obtain rfl : v2 = nI (i + 1) := ev2.trans (by rw [show (1 : Int32) = nI 1 from rfl, nI_add])
  refine va_sld hx hb hX hbl hbA hS (vp_in_nI (show i + 1 < Ln by omega) (by omega)) d_LW_law_811 ?_
  refine W.eq (g2 := F0 m 812 ls [.int (xs (i + 1)), .ref g0]) (by rw [nI_clamp (show i + 1 < 2 ^ 31 by omega)]) ?_
  refine t_callF (E := oW ou kJ g1 ++ CW cd kI kQ L1 isA1 bk1 sc1 ia1 qa1 rf1 ba1) (u0 := (sm, im)) (w0 := MOW g0 ad kI kZ sm im) rfl (va_runV (C := R_MO) (As := [.int (xs (i + 1))]) (rest := []) ⟨hx, hb, hml, hown, ht⟩ (t_MO_cut l dC dI g0 ad kI kZ sm im H.size s.heap.size ((T + 1000)) NM hI (xs (i + 1)) (by omega)) (cwV 1 ht (gV tb_910 tb_911 tb_912 tb_5 tb_913) rfl rfl rfl (by decide +kernel) ⟨Nat.le_of_ble_eq_true rfl, Nat.le_of_ble_eq_true rfl⟩) ⟨frP_blind, va_recv (q := (R_MO, F_MO, 30)) hK hP rfl (show (LWd cd kI kQ kJ kZ ou g0 ad L1 isA1 bk1 sc1 ia1 qa1 rf1 ba1 g1 sm im : va_W)[0]? = some _ from rfl), fr_pre (ap_P (wc_P hP)) hK4 (ap_D (wc_D hD)) hAB hBs hS hV⟩ rfl rfl hl.1 rfl (lv_room (Nat.le_of_ble_eq_true rfl)) d_LW_law_812 ⟨show cells + 1 + 0 ≤ 601024 by omega, show slots + 6 + 0 ≤ 7293033 by omega⟩) (wc_P hP) (wc_D hD) hS hA (fun b1 u H locs hu hP hD hS => ?_)
  obtain ⟨sm1, im1⟩ := u
  obtain ⟨hm1, -, hI1, hv0⟩ := hu
  have hm1 : same [0, 1, 28] sm sm1 := hm1
  obtain ⟨NM1, eNM1⟩ : ∃ q9_, q9_ = NM := ⟨_, rfl⟩
  rw [← eNM1] at hI1
  have hI1 : MI (T + 1000) NM1 sm1 im1 := hI1
  have hv0 : (((sm 1).toInt ≤ (xs (i + 1)).toInt ∧ (xs (i + 1)).toInt ≤ (sm 1).toInt + 1000) ∧ sm1 0 = 0 ∧ sm1 1 = (xs (i + 1)) ∨ ¬ ((sm 1).toInt ≤ (xs (i + 1)).toInt ∧ (xs (i + 1)).toInt ≤ (sm 1).toInt + 1000) ∧ sm1 0 = 1 ∧ sm1 1 = sm 1) := hv0
  have hP := wc_P hP
  have hD := wc_D hD
  have hP : va_P (dC, dI) cls_ (LWd cd kI kQ kJ kZ ou g0 ad L1 isA1 bk1 sc1 ia1 qa1 rf1 ba1 g1 sm1 im1) H := hP
  have hD : va_D A (LWd cd kI kQ kJ kZ ou g0 ad L1 isA1 bk1 sc1 ia1 qa1 rf1 ba1 g1 sm1 im1) := hD
  refine W.eq (g2 := F0 m 815 ls [.int b1]) rfl ?_
  refine W.cs (cells' := cells + 1) (slots' := slots + 6) rfl rfl ?_
  refine lv_istore hx hb d_LW_law_815 hl (by decide) rfl (fun ls hl => ?_)
  have hl : lv_has ls 8 [(6, .int b1), (5, .int k1), (4, .int (nI i)), (3, .ref ou), (2, .ref g0), (1, .ref (cd 0)), (0, .ref b)] := hl
  refine lv_goto (tgt := 820) hx hb d_LW_law_817 (by decide) ?_
  have hl := lv_sub hl [2, 3, 4, 5, 6] (l' := [(4, .int (nI i)), (3, .ref ou), (2, .ref g0), (1, .ref (cd 0)), (0, .ref b)]) rfl
  have hq1 : sc1 1 = sm1 1 := by
    have e9 : (sc 1 + 1000).toInt = (sc 1).toInt + 1000 := by rw [ti_add, l_1000] <;> rw [l_1000, hR1] <;> omega
    rw [e9] at hw0
    rw [← hR1] at hv0
    rcases hw0 with q1 | q1 <;> rcases hv0 with q2 | q2 <;> first | exact absurd q1.1 q2.1 | exact absurd q2.1 q1.1 | (rw [q1.2.2, q2.2.2])
  have hq2 : sc1 2 = sm1 2 := (hs1 2 (by decide)).trans (hR2.trans (hm1 2 (by decide)).symm)
  refine W.widen (k := cells + 3) (n := slots + 29) (by omega) (by omega) ?_
  exact kk L1 isA1 bk1 sc1 ia1 qa1 rf1 ba1 g1 sm1 im1 H locs ls ⟨⟨_, hC1⟩, ⟨_, hI1⟩, hq1, hq2⟩ hP hD hS hl
