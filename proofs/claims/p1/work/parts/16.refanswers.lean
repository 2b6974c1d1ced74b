abbrev c_MO_thrown : ByteArray := prog_7_method_2_code
abbrev y_MO_thrown : MethodName := ⟨"TwinTunersModel", "thrown", "()I"⟩
def w_MO_thrown : List Cond := .code y_MO_thrown c_MO_thrown 1 (some .int) :: tb_
abbrev c_MO_refused : ByteArray := prog_7_method_3_code
abbrev y_MO_refused : MethodName := ⟨"TwinTunersModel", "refused", "(I)Z"⟩
def w_MO_refused : List Cond := .code y_MO_refused c_MO_refused 2 (some .boolean) :: tb_
abbrev c_MO_isRequest : ByteArray := prog_7_method_6_code
abbrev y_MO_isRequest : MethodName := ⟨"TwinTunersModel", "isRequest", "(I)Z"⟩
def w_MO_isRequest : List Cond := .code y_MO_isRequest c_MO_isRequest 2 (some .boolean) :: tb_
abbrev c_MO_open : ByteArray := prog_7_method_4_code
abbrev y_MO_open : MethodName := ⟨"TwinTunersModel", "open", "()I"⟩
def w_MO_open : List Cond := .code y_MO_open c_MO_open 3 (some .int) :: tb_
abbrev c_MO_cancel : ByteArray := prog_7_method_8_code
abbrev y_MO_cancel : MethodName := ⟨"TwinTunersModel", "cancel", "(I)V"⟩
def w_MO_cancel : List Cond := .code y_MO_cancel c_MO_cancel 2 none :: tb_
abbrev c_MO_state : ByteArray := prog_7_method_17_code
abbrev y_MO_state : MethodName := ⟨"TwinTunersModel", "state", "(I)I"⟩
def w_MO_state : List Cond := .code y_MO_state c_MO_state 2 (some .int) :: tb_
abbrev c_MO_planFrom : ByteArray := prog_7_method_19_code
abbrev y_MO_planFrom : MethodName := ⟨"TwinTunersModel", "planFrom", "(I)I"⟩
def w_MO_planFrom : List Cond := .code y_MO_planFrom c_MO_planFrom 2 (some .int) :: tb_
abbrev c_MO_planTo : ByteArray := prog_7_method_20_code
abbrev y_MO_planTo : MethodName := ⟨"TwinTunersModel", "planTo", "(I)I"⟩
def w_MO_planTo : List Cond := .code y_MO_planTo c_MO_planTo 2 (some .int) :: tb_
abbrev c_MO_recorded : ByteArray := prog_7_method_39_code
abbrev y_MO_recorded : MethodName := ⟨"TwinTunersModel", "recorded", "(I)I"⟩
def w_MO_recorded : List Cond := .code y_MO_recorded c_MO_recorded 4 (some .int) :: tb_
abbrev c_MO_shortBy : ByteArray := prog_7_method_40_code
abbrev y_MO_shortBy : MethodName := ⟨"TwinTunersModel", "shortBy", "(I)I"⟩
def w_MO_shortBy : List Cond := .code y_MO_shortBy c_MO_shortBy 2 (some .int) :: tb_
abbrev c_MO_word : ByteArray := prog_7_method_38_code
abbrev y_MO_word : MethodName := ⟨"TwinTunersModel", "word", "(II)J"⟩
def w_MO_word : List Cond := .code y_MO_word c_MO_word 3 (some .long) :: tb_
abbrev c_MO_bookmarkAt : ByteArray := prog_7_method_48_code
abbrev y_MO_bookmarkAt : MethodName := ⟨"TwinTunersModel", "bookmarkAt", "(II)I"⟩
def w_MO_bookmarkAt : List Cond := .code y_MO_bookmarkAt c_MO_bookmarkAt 6 (some .int) :: tb_
abbrev c_MO_protect : ByteArray := prog_7_method_42_code
abbrev y_MO_protect : MethodName := ⟨"TwinTunersModel", "protect", "(IZ)V"⟩
def w_MO_protect : List Cond := .code y_MO_protect c_MO_protect 3 none :: tb_
abbrev c_MO_seen : ByteArray := prog_7_method_43_code
abbrev y_MO_seen : MethodName := ⟨"TwinTunersModel", "seen", "(IZ)V"⟩
def w_MO_seen : List Cond := .code y_MO_seen c_MO_seen 3 none :: tb_
abbrev c_MO_erase : ByteArray := prog_7_method_44_code
abbrev y_MO_erase : MethodName := ⟨"TwinTunersModel", "erase", "(I)I"⟩
def w_MO_erase : List Cond := .code y_MO_erase c_MO_erase 2 (some .int) :: tb_
abbrev c_MO_bookmark : ByteArray := prog_7_method_47_code
abbrev y_MO_bookmark : MethodName := ⟨"TwinTunersModel", "bookmark", "(II)I"⟩
def w_MO_bookmark : List Cond := .code y_MO_bookmark c_MO_bookmark 3 (some .int) :: tb_
abbrev c_MO_request : ByteArray := prog_7_method_5_code
abbrev y_MO_request : MethodName := ⟨"TwinTunersModel", "request", "(IIIII)I"⟩
def w_MO_request : List Cond := .code y_MO_request c_MO_request 8 (some .int) :: tb_
abbrev c_MO_air : ByteArray := prog_7_method_21_code
abbrev y_MO_air : MethodName := ⟨"TwinTunersModel", "air", "(II)V"⟩
def w_MO_air : List Cond := .code y_MO_air c_MO_air 3 none :: tb_
abbrev c_MO_watch : ByteArray := prog_7_method_36_code
abbrev y_MO_watch : MethodName := ⟨"TwinTunersModel", "watch", "(I)I"⟩
def w_MO_watch : List Cond := .code y_MO_watch c_MO_watch 3 (some .int) :: tb_
abbrev c_MO_cut : ByteArray := prog_7_method_50_code
abbrev y_MO_cut : MethodName := ⟨"TwinTunersModel", "cut", "(I)I"⟩
def w_MO_cut : List Cond := .code y_MO_cut c_MO_cut 4 (some .int) :: tb_
abbrev c_MO_now : ByteArray := prog_7_method_35_code
abbrev y_MO_now : MethodName := ⟨"TwinTunersModel", "now", "()I"⟩
def w_MO_now : List Cond := .code y_MO_now c_MO_now 1 (some .int) :: tb_
abbrev c_MO_back : ByteArray := prog_7_method_37_code
abbrev y_MO_back : MethodName := ⟨"TwinTunersModel", "back", "(I)J"⟩
def w_MO_back : List Cond := .code y_MO_back c_MO_back 2 (some .long) :: tb_
abbrev c_MO_freeSegments : ByteArray := prog_7_method_23_code
abbrev y_MO_freeSegments : MethodName := ⟨"TwinTunersModel", "freeSegments", "()I"⟩
def w_MO_freeSegments : List Cond := .code y_MO_freeSegments c_MO_freeSegments 3 (some .int) :: tb_
abbrev c_MO_free : ByteArray := prog_7_method_45_code
abbrev y_MO_free : MethodName := ⟨"TwinTunersModel", "free", "()I"⟩
def w_MO_free : List Cond := .code y_MO_free c_MO_free 1 (some .int) :: tb_
abbrev c_MO_round : ByteArray := prog_7_method_15_code
abbrev y_MO_round : MethodName := ⟨"TwinTunersModel", "round", "(I)V"⟩
def w_MO_round : List Cond := .code y_MO_round c_MO_round 4 none :: tb_
abbrev c_MO_plan : ByteArray := prog_7_method_16_code
abbrev y_MO_plan : MethodName := ⟨"TwinTunersModel", "plan", "()V"⟩
def w_MO_plan : List Cond := .code y_MO_plan c_MO_plan 3 none :: tb_
abbrev c_MO_begin : ByteArray := prog_7_method_28_code
abbrev y_MO_begin : MethodName := ⟨"TwinTunersModel", "begin", "()V"⟩
def w_MO_begin : List Cond := .code y_MO_begin c_MO_begin 2 none :: tb_
abbrev c_MO_tuned : ByteArray := prog_7_method_29_code
abbrev y_MO_tuned : MethodName := ⟨"TwinTunersModel", "tuned", "()I"⟩
def w_MO_tuned : List Cond := .code y_MO_tuned c_MO_tuned 4 (some .int) :: tb_
abbrev c_MO_recordAll : ByteArray := prog_7_method_31_code
abbrev y_MO_recordAll : MethodName := ⟨"TwinTunersModel", "recordAll", "()I"⟩
def w_MO_recordAll : List Cond := .code y_MO_recordAll c_MO_recordAll 3 (some .int) :: tb_
abbrev c_MO_keepBack : ByteArray := prog_7_method_30_code
abbrev y_MO_keepBack : MethodName := ⟨"TwinTunersModel", "keepBack", "(I)V"⟩
def w_MO_keepBack : List Cond := .code y_MO_keepBack c_MO_keepBack 3 none :: tb_
abbrev c_MO_end : ByteArray := prog_7_method_32_code
abbrev y_MO_end : MethodName := ⟨"TwinTunersModel", "end", "()V"⟩
def w_MO_end : List Cond := .code y_MO_end c_MO_end 2 none :: tb_
abbrev c_MO_tick : ByteArray := prog_7_method_33_code
abbrev y_MO_tick : MethodName := ⟨"TwinTunersModel", "tick", "()I"⟩
def w_MO_tick : List Cond := .code y_MO_tick c_MO_tick 2 (some .int) :: tb_
abbrev c_MO_ticks : ByteArray := prog_7_method_34_code
abbrev y_MO_ticks : MethodName := ⟨"TwinTunersModel", "ticks", "(I)I"⟩
def w_MO_ticks : List Cond := .code y_MO_ticks c_MO_ticks 5 (some .int) :: tb_
set_option maxRecDepth 100000 in
theorem tb_5 : (.initialized "TwinTunersModel" : Cond) ∈ tb_ := tb_w 5 rfl rfl
set_option maxRecDepth 100000 in
theorem tb_631 : (.fieldLink "TwinTunersModel" 87 "TwinTunersModel" "fault" "I" : Cond) ∈ tb_ := tb_w 631 rfl rfl
set_option maxRecDepth 100000 in
theorem tb_632 : (.fieldLink "TwinTunersModel" 93 "TwinTunersModel" "now" "I" : Cond) ∈ tb_ := tb_w 632 rfl rfl
set_option maxRecDepth 100000 in
theorem tb_635 : (.fieldLink "TwinTunersModel" 90 "TwinTunersModel" "requests" "I" : Cond) ∈ tb_ := tb_w 635 rfl rfl
set_option maxRecDepth 100000 in
theorem tb_652 : (.fieldLink "TwinTunersModel" 109 "TwinTunersModel" "spans" "I" : Cond) ∈ tb_ := tb_w 652 rfl rfl
set_option maxRecDepth 100000 in
theorem tb_659 : (.fieldLink "TwinTunersModel" 162 "TwinTunersModel" "backs" "I" : Cond) ∈ tb_ := tb_w 659 rfl rfl
set_option maxRecDepth 100000 in
theorem tb_726 : (.code ⟨"TwinTunersModel", "thrown", "()I"⟩ prog_7_method_2_code 1 (some .int) : Cond) ∈ tb_ := tb_w 726 rfl rfl
set_option maxRecDepth 100000 in
theorem tb_730 : (.code ⟨"TwinTunersModel", "request", "(IIIII)I"⟩ prog_7_method_5_code 8 (some .int) : Cond) ∈ tb_ := tb_w 730 rfl rfl
set_option maxRecDepth 100000 in
theorem tb_731 : (.constantLong "TwinTunersModel" 96 (1000) : Cond) ∈ tb_ := tb_w 731 rfl rfl
set_option maxRecDepth 100000 in
theorem tb_732 : (.methodLink "TwinTunersModel" 98 ⟨"TwinTunersModel", "open", "()I"⟩ : Cond) ∈ tb_ := tb_w 732 rfl rfl
set_option maxRecDepth 100000 in
theorem tb_734 : (.instanceMethod ⟨"TwinTunersModel", "open", "()I"⟩ : Cond) ∈ tb_ := tb_w 734 rfl rfl
set_option maxRecDepth 100000 in
theorem tb_735 : (.code ⟨"TwinTunersModel", "open", "()I"⟩ prog_7_method_4_code 3 (some .int) : Cond) ∈ tb_ := tb_w 735 rfl rfl
set_option maxRecDepth 100000 in
theorem tb_736 : (.methodLink "TwinTunersModel" 102 ⟨"TwinTunersModel", "refused", "(I)Z"⟩ : Cond) ∈ tb_ := tb_w 736 rfl rfl
set_option maxRecDepth 100000 in
theorem tb_738 : (.instanceMethod ⟨"TwinTunersModel", "refused", "(I)Z"⟩ : Cond) ∈ tb_ := tb_w 738 rfl rfl
set_option maxRecDepth 100000 in
theorem tb_739 : (.code ⟨"TwinTunersModel", "refused", "(I)Z"⟩ prog_7_method_3_code 2 (some .boolean) : Cond) ∈ tb_ := tb_w 739 rfl rfl
set_option maxRecDepth 100000 in
theorem tb_743 : (.code ⟨"TwinTunersModel", "cancel", "(I)V"⟩ prog_7_method_8_code 2 none : Cond) ∈ tb_ := tb_w 743 rfl rfl
set_option maxRecDepth 100000 in
theorem tb_744 : (.methodLink "TwinTunersModel" 106 ⟨"TwinTunersModel", "isRequest", "(I)Z"⟩ : Cond) ∈ tb_ := tb_w 744 rfl rfl
set_option maxRecDepth 100000 in
theorem tb_746 : (.instanceMethod ⟨"TwinTunersModel", "isRequest", "(I)Z"⟩ : Cond) ∈ tb_ := tb_w 746 rfl rfl
set_option maxRecDepth 100000 in
theorem tb_747 : (.code ⟨"TwinTunersModel", "isRequest", "(I)Z"⟩ prog_7_method_6_code 2 (some .boolean) : Cond) ∈ tb_ := tb_w 747 rfl rfl
set_option maxRecDepth 100000 in
theorem tb_751 : (.code ⟨"TwinTunersModel", "state", "(I)I"⟩ prog_7_method_17_code 2 (some .int) : Cond) ∈ tb_ := tb_w 751 rfl rfl
set_option maxRecDepth 100000 in
theorem tb_755 : (.code ⟨"TwinTunersModel", "planFrom", "(I)I"⟩ prog_7_method_19_code 2 (some .int) : Cond) ∈ tb_ := tb_w 755 rfl rfl
set_option maxRecDepth 100000 in
theorem tb_756 : (.methodLink "TwinTunersModel" 141 ⟨"TwinTunersModel", "plan", "()V"⟩ : Cond) ∈ tb_ := tb_w 756 rfl rfl
set_option maxRecDepth 100000 in
theorem tb_758 : (.instanceMethod ⟨"TwinTunersModel", "plan", "()V"⟩ : Cond) ∈ tb_ := tb_w 758 rfl rfl
set_option maxRecDepth 100000 in
theorem tb_759 : (.code ⟨"TwinTunersModel", "plan", "()V"⟩ prog_7_method_16_code 3 none : Cond) ∈ tb_ := tb_w 759 rfl rfl
set_option maxRecDepth 100000 in
theorem tb_768 : (.methodLink "TwinTunersModel" 138 ⟨"TwinTunersModel", "round", "(I)V"⟩ : Cond) ∈ tb_ := tb_w 768 rfl rfl
set_option maxRecDepth 100000 in
theorem tb_770 : (.instanceMethod ⟨"TwinTunersModel", "round", "(I)V"⟩ : Cond) ∈ tb_ := tb_w 770 rfl rfl
set_option maxRecDepth 100000 in
theorem tb_771 : (.code ⟨"TwinTunersModel", "round", "(I)V"⟩ prog_7_method_15_code 4 none : Cond) ∈ tb_ := tb_w 771 rfl rfl
set_option maxRecDepth 100000 in
theorem tb_799 : (.code ⟨"TwinTunersModel", "planTo", "(I)I"⟩ prog_7_method_20_code 2 (some .int) : Cond) ∈ tb_ := tb_w 799 rfl rfl
set_option maxRecDepth 100000 in
theorem tb_803 : (.code ⟨"TwinTunersModel", "air", "(II)V"⟩ prog_7_method_21_code 3 none : Cond) ∈ tb_ := tb_w 803 rfl rfl
set_option maxRecDepth 100000 in
theorem tb_807 : (.code ⟨"TwinTunersModel", "tick", "()I"⟩ prog_7_method_33_code 2 (some .int) : Cond) ∈ tb_ := tb_w 807 rfl rfl
set_option maxRecDepth 100000 in
theorem tb_808 : (.methodLink "TwinTunersModel" 168 ⟨"TwinTunersModel", "begin", "()V"⟩ : Cond) ∈ tb_ := tb_w 808 rfl rfl
set_option maxRecDepth 100000 in
theorem tb_810 : (.instanceMethod ⟨"TwinTunersModel", "begin", "()V"⟩ : Cond) ∈ tb_ := tb_w 810 rfl rfl
set_option maxRecDepth 100000 in
theorem tb_811 : (.code ⟨"TwinTunersModel", "begin", "()V"⟩ prog_7_method_28_code 2 none : Cond) ∈ tb_ := tb_w 811 rfl rfl
set_option maxRecDepth 100000 in
theorem tb_812 : (.methodLink "TwinTunersModel" 171 ⟨"TwinTunersModel", "tuned", "()I"⟩ : Cond) ∈ tb_ := tb_w 812 rfl rfl
set_option maxRecDepth 100000 in
theorem tb_814 : (.instanceMethod ⟨"TwinTunersModel", "tuned", "()I"⟩ : Cond) ∈ tb_ := tb_w 814 rfl rfl
set_option maxRecDepth 100000 in
theorem tb_815 : (.code ⟨"TwinTunersModel", "tuned", "()I"⟩ prog_7_method_29_code 4 (some .int) : Cond) ∈ tb_ := tb_w 815 rfl rfl
set_option maxRecDepth 100000 in
theorem tb_816 : (.methodLink "TwinTunersModel" 174 ⟨"TwinTunersModel", "recordAll", "()I"⟩ : Cond) ∈ tb_ := tb_w 816 rfl rfl
set_option maxRecDepth 100000 in
theorem tb_818 : (.instanceMethod ⟨"TwinTunersModel", "recordAll", "()I"⟩ : Cond) ∈ tb_ := tb_w 818 rfl rfl
set_option maxRecDepth 100000 in
theorem tb_819 : (.code ⟨"TwinTunersModel", "recordAll", "()I"⟩ prog_7_method_31_code 3 (some .int) : Cond) ∈ tb_ := tb_w 819 rfl rfl
set_option maxRecDepth 100000 in
theorem tb_824 : (.methodLink "TwinTunersModel" 156 ⟨"TwinTunersModel", "freeSegments", "()I"⟩ : Cond) ∈ tb_ := tb_w 824 rfl rfl
set_option maxRecDepth 100000 in
theorem tb_826 : (.instanceMethod ⟨"TwinTunersModel", "freeSegments", "()I"⟩ : Cond) ∈ tb_ := tb_w 826 rfl rfl
set_option maxRecDepth 100000 in
theorem tb_827 : (.code ⟨"TwinTunersModel", "freeSegments", "()I"⟩ prog_7_method_23_code 3 (some .int) : Cond) ∈ tb_ := tb_w 827 rfl rfl
set_option maxRecDepth 100000 in
theorem tb_844 : (.methodLink "TwinTunersModel" 177 ⟨"TwinTunersModel", "keepBack", "(I)V"⟩ : Cond) ∈ tb_ := tb_w 844 rfl rfl
set_option maxRecDepth 100000 in
theorem tb_846 : (.instanceMethod ⟨"TwinTunersModel", "keepBack", "(I)V"⟩ : Cond) ∈ tb_ := tb_w 846 rfl rfl
set_option maxRecDepth 100000 in
theorem tb_847 : (.code ⟨"TwinTunersModel", "keepBack", "(I)V"⟩ prog_7_method_30_code 3 none : Cond) ∈ tb_ := tb_w 847 rfl rfl
set_option maxRecDepth 100000 in
theorem tb_848 : (.methodLink "TwinTunersModel" 180 ⟨"TwinTunersModel", "end", "()V"⟩ : Cond) ∈ tb_ := tb_w 848 rfl rfl
set_option maxRecDepth 100000 in
theorem tb_850 : (.instanceMethod ⟨"TwinTunersModel", "end", "()V"⟩ : Cond) ∈ tb_ := tb_w 850 rfl rfl
set_option maxRecDepth 100000 in
theorem tb_851 : (.code ⟨"TwinTunersModel", "end", "()V"⟩ prog_7_method_32_code 2 none : Cond) ∈ tb_ := tb_w 851 rfl rfl
set_option maxRecDepth 100000 in
theorem tb_855 : (.code ⟨"TwinTunersModel", "ticks", "(I)I"⟩ prog_7_method_34_code 5 (some .int) : Cond) ∈ tb_ := tb_w 855 rfl rfl
set_option maxRecDepth 100000 in
theorem tb_859 : (.code ⟨"TwinTunersModel", "now", "()I"⟩ prog_7_method_35_code 1 (some .int) : Cond) ∈ tb_ := tb_w 859 rfl rfl
set_option maxRecDepth 100000 in
theorem tb_863 : (.code ⟨"TwinTunersModel", "watch", "(I)I"⟩ prog_7_method_36_code 3 (some .int) : Cond) ∈ tb_ := tb_w 863 rfl rfl
set_option maxRecDepth 100000 in
theorem tb_867 : (.code ⟨"TwinTunersModel", "back", "(I)J"⟩ prog_7_method_37_code 2 (some .long) : Cond) ∈ tb_ := tb_w 867 rfl rfl
set_option maxRecDepth 100000 in
theorem tb_868 : (.constantLong "TwinTunersModel" 183 (-1) : Cond) ∈ tb_ := tb_w 868 rfl rfl
set_option maxRecDepth 100000 in
theorem tb_873 : (.code ⟨"TwinTunersModel", "word", "(II)J"⟩ prog_7_method_38_code 3 (some .long) : Cond) ∈ tb_ := tb_w 873 rfl rfl
set_option maxRecDepth 100000 in
theorem tb_877 : (.code ⟨"TwinTunersModel", "recorded", "(I)I"⟩ prog_7_method_39_code 4 (some .int) : Cond) ∈ tb_ := tb_w 877 rfl rfl
set_option maxRecDepth 100000 in
theorem tb_881 : (.code ⟨"TwinTunersModel", "shortBy", "(I)I"⟩ prog_7_method_40_code 2 (some .int) : Cond) ∈ tb_ := tb_w 881 rfl rfl
set_option maxRecDepth 100000 in
theorem tb_885 : (.code ⟨"TwinTunersModel", "protect", "(IZ)V"⟩ prog_7_method_42_code 3 none : Cond) ∈ tb_ := tb_w 885 rfl rfl
set_option maxRecDepth 100000 in
theorem tb_893 : (.code ⟨"TwinTunersModel", "seen", "(IZ)V"⟩ prog_7_method_43_code 3 none : Cond) ∈ tb_ := tb_w 893 rfl rfl
set_option maxRecDepth 100000 in
theorem tb_897 : (.code ⟨"TwinTunersModel", "erase", "(I)I"⟩ prog_7_method_44_code 2 (some .int) : Cond) ∈ tb_ := tb_w 897 rfl rfl
set_option maxRecDepth 100000 in
theorem tb_901 : (.code ⟨"TwinTunersModel", "free", "()I"⟩ prog_7_method_45_code 1 (some .int) : Cond) ∈ tb_ := tb_w 901 rfl rfl
set_option maxRecDepth 100000 in
theorem tb_905 : (.code ⟨"TwinTunersModel", "bookmark", "(II)I"⟩ prog_7_method_47_code 3 (some .int) : Cond) ∈ tb_ := tb_w 905 rfl rfl
set_option maxRecDepth 100000 in
theorem tb_913 : (.code ⟨"TwinTunersModel", "bookmarkAt", "(II)I"⟩ prog_7_method_48_code 6 (some .int) : Cond) ∈ tb_ := tb_w 913 rfl rfl
set_option maxRecDepth 100000 in
theorem tb_917 : (.code ⟨"TwinTunersModel", "cut", "(I)I"⟩ prog_7_method_50_code 4 (some .int) : Cond) ∈ tb_ := tb_w 917 rfl rfl
theorem ts_22 : (.selects "TwinTunersModel" ⟨"TwinTunersModel", "open", "()I"⟩ ⟨"TwinTunersModel", "open", "()I"⟩ : Cond) ∈ tb_ := ts_w 22 rfl rfl
theorem ts_23 : (.selects "TwinTunersModel" ⟨"TwinTunersModel", "refused", "(I)Z"⟩ ⟨"TwinTunersModel", "refused", "(I)Z"⟩ : Cond) ∈ tb_ := ts_w 23 rfl rfl
theorem ts_24 : (.selects "TwinTunersModel" ⟨"TwinTunersModel", "isRequest", "(I)Z"⟩ ⟨"TwinTunersModel", "isRequest", "(I)Z"⟩ : Cond) ∈ tb_ := ts_w 24 rfl rfl
theorem ts_25 : (.selects "TwinTunersModel" ⟨"TwinTunersModel", "plan", "()V"⟩ ⟨"TwinTunersModel", "plan", "()V"⟩ : Cond) ∈ tb_ := ts_w 25 rfl rfl
theorem ts_28 : (.selects "TwinTunersModel" ⟨"TwinTunersModel", "round", "(I)V"⟩ ⟨"TwinTunersModel", "round", "(I)V"⟩ : Cond) ∈ tb_ := ts_w 28 rfl rfl
theorem ts_35 : (.selects "TwinTunersModel" ⟨"TwinTunersModel", "begin", "()V"⟩ ⟨"TwinTunersModel", "begin", "()V"⟩ : Cond) ∈ tb_ := ts_w 35 rfl rfl
theorem ts_36 : (.selects "TwinTunersModel" ⟨"TwinTunersModel", "tuned", "()I"⟩ ⟨"TwinTunersModel", "tuned", "()I"⟩ : Cond) ∈ tb_ := ts_w 36 rfl rfl
theorem ts_37 : (.selects "TwinTunersModel" ⟨"TwinTunersModel", "recordAll", "()I"⟩ ⟨"TwinTunersModel", "recordAll", "()I"⟩ : Cond) ∈ tb_ := ts_w 37 rfl rfl
theorem ts_39 : (.selects "TwinTunersModel" ⟨"TwinTunersModel", "freeSegments", "()I"⟩ ⟨"TwinTunersModel", "freeSegments", "()I"⟩ : Cond) ∈ tb_ := ts_w 39 rfl rfl
theorem ts_44 : (.selects "TwinTunersModel" ⟨"TwinTunersModel", "keepBack", "(I)V"⟩ ⟨"TwinTunersModel", "keepBack", "(I)V"⟩ : Cond) ∈ tb_ := ts_w 44 rfl rfl
theorem ts_45 : (.selects "TwinTunersModel" ⟨"TwinTunersModel", "end", "()V"⟩ ⟨"TwinTunersModel", "end", "()V"⟩ : Cond) ∈ tb_ := ts_w 45 rfl rfl
theorem d_MO_air_0 : decode c_MO_air 0 = .ok (.aload_n 0, 1) := by decide +kernel
theorem d_MO_air_1 : decode c_MO_air 1 = .ok (.iload_n 1, 1) := by decide +kernel
theorem d_MO_air_2 : decode c_MO_air 2 = .ok (.ifCond .lt 9, 3) := by decide +kernel
theorem d_MO_air_5 : decode c_MO_air 5 = .ok (.iload_n 1, 1) := by decide +kernel
theorem d_MO_air_6 : decode c_MO_air 6 = .ok (.bipush 7, 2) := by decide +kernel
theorem d_MO_air_8 : decode c_MO_air 8 = .ok (.if_icmp .le 7, 3) := by decide +kernel
theorem d_MO_air_11 : decode c_MO_air 11 = .ok (.iconst 1, 1) := by decide +kernel
theorem d_MO_air_12 : decode c_MO_air 12 = .ok (.goto 4, 3) := by decide +kernel
theorem d_MO_air_15 : decode c_MO_air 15 = .ok (.iconst 0, 1) := by decide +kernel
theorem d_MO_air_16 : decode c_MO_air 16 = .ok (.invokevirtual 102, 3) := by decide +kernel
theorem d_MO_air_19 : decode c_MO_air 19 = .ok (.ifCond .ne 10, 3) := by decide +kernel
theorem d_MO_air_22 : decode c_MO_air 22 = .ok (.aload_n 0, 1) := by decide +kernel
theorem d_MO_air_23 : decode c_MO_air 23 = .ok (.getfield 13, 3) := by decide +kernel
theorem d_MO_air_26 : decode c_MO_air 26 = .ok (.iload_n 1, 1) := by decide +kernel
theorem d_MO_air_27 : decode c_MO_air 27 = .ok (.iload_n 2, 1) := by decide +kernel
theorem d_MO_air_28 : decode c_MO_air 28 = .ok (.iastore, 1) := by decide +kernel
theorem d_MO_air_29 : decode c_MO_air 29 = .ok (.return_, 1) := by decide +kernel
theorem d_MO_back_0 : decode c_MO_back 0 = .ok (.aload_n 0, 1) := by decide +kernel
theorem d_MO_back_1 : decode c_MO_back 1 = .ok (.iconst 0, 1) := by decide +kernel
theorem d_MO_back_2 : decode c_MO_back 2 = .ok (.putfield 87, 3) := by decide +kernel
theorem d_MO_back_5 : decode c_MO_back 5 = .ok (.iload_n 1, 1) := by decide +kernel
theorem d_MO_back_6 : decode c_MO_back 6 = .ok (.iconst 1, 1) := by decide +kernel
theorem d_MO_back_7 : decode c_MO_back 7 = .ok (.if_icmp .lt 11, 3) := by decide +kernel
theorem d_MO_back_10 : decode c_MO_back 10 = .ok (.iload_n 1, 1) := by decide +kernel
theorem d_MO_back_11 : decode c_MO_back 11 = .ok (.aload_n 0, 1) := by decide +kernel
theorem d_MO_back_12 : decode c_MO_back 12 = .ok (.getfield 162, 3) := by decide +kernel
theorem d_MO_back_15 : decode c_MO_back 15 = .ok (.if_icmp .le 9, 3) := by decide +kernel
theorem d_MO_back_18 : decode c_MO_back 18 = .ok (.ldc2_w 183, 3) := by decide +kernel
theorem d_MO_back_21 : decode c_MO_back 21 = .ok (.goto 16, 3) := by decide +kernel
theorem d_MO_back_37 : decode c_MO_back 37 = .ok (.lreturn, 1) := by decide +kernel
theorem d_MO_begin_0 : decode c_MO_begin 0 = .ok (.aload_n 0, 1) := by decide +kernel
theorem d_MO_begin_1 : decode c_MO_begin 1 = .ok (.invokevirtual 141, 3) := by decide +kernel
theorem d_MO_begin_4 : decode c_MO_begin 4 = .ok (.iconst 0, 1) := by decide +kernel
theorem d_MO_begin_5 : decode c_MO_begin 5 = .ok (.istore_n 1, 1) := by decide +kernel
theorem d_MO_begin_6 : decode c_MO_begin 6 = .ok (.iload_n 1, 1) := by decide +kernel
theorem d_MO_begin_7 : decode c_MO_begin 7 = .ok (.aload_n 0, 1) := by decide +kernel
theorem d_MO_begin_8 : decode c_MO_begin 8 = .ok (.getfield 90, 3) := by decide +kernel
theorem d_MO_begin_11 : decode c_MO_begin 11 = .ok (.if_icmp .ge 129, 3) := by decide +kernel
theorem d_MO_begin_140 : decode c_MO_begin 140 = .ok (.return_, 1) := by decide +kernel
theorem d_MO_bookmark_0 : decode c_MO_bookmark 0 = .ok (.aload_n 0, 1) := by decide +kernel
theorem d_MO_bookmark_1 : decode c_MO_bookmark 1 = .ok (.aload_n 0, 1) := by decide +kernel
theorem d_MO_bookmark_2 : decode c_MO_bookmark 2 = .ok (.iload_n 1, 1) := by decide +kernel
theorem d_MO_bookmark_3 : decode c_MO_bookmark 3 = .ok (.invokevirtual 106, 3) := by decide +kernel
theorem d_MO_bookmark_6 : decode c_MO_bookmark 6 = .ok (.ifCond .ne 7, 3) := by decide +kernel
theorem d_MO_bookmark_9 : decode c_MO_bookmark 9 = .ok (.iconst 1, 1) := by decide +kernel
theorem d_MO_bookmark_10 : decode c_MO_bookmark 10 = .ok (.goto 40, 3) := by decide +kernel
theorem d_MO_bookmark_50 : decode c_MO_bookmark 50 = .ok (.invokevirtual 102, 3) := by decide +kernel
theorem d_MO_bookmark_53 : decode c_MO_bookmark 53 = .ok (.ifCond .eq 5, 3) := by decide +kernel
theorem d_MO_bookmark_56 : decode c_MO_bookmark 56 = .ok (.iconst 0, 1) := by decide +kernel
theorem d_MO_bookmark_57 : decode c_MO_bookmark 57 = .ok (.ireturn, 1) := by decide +kernel
theorem d_MO_bookmarkAt_0 : decode c_MO_bookmarkAt 0 = .ok (.aload_n 0, 1) := by decide +kernel
theorem d_MO_bookmarkAt_1 : decode c_MO_bookmarkAt 1 = .ok (.aload_n 0, 1) := by decide +kernel
theorem d_MO_bookmarkAt_2 : decode c_MO_bookmarkAt 2 = .ok (.iload_n 1, 1) := by decide +kernel
theorem d_MO_bookmarkAt_3 : decode c_MO_bookmarkAt 3 = .ok (.invokevirtual 106, 3) := by decide +kernel
theorem d_MO_bookmarkAt_6 : decode c_MO_bookmarkAt 6 = .ok (.ifCond .eq 7, 3) := by decide +kernel
theorem d_MO_bookmarkAt_13 : decode c_MO_bookmarkAt 13 = .ok (.iconst 1, 1) := by decide +kernel
theorem d_MO_bookmarkAt_14 : decode c_MO_bookmarkAt 14 = .ok (.invokevirtual 102, 3) := by decide +kernel
theorem d_MO_bookmarkAt_17 : decode c_MO_bookmarkAt 17 = .ok (.ifCond .eq 5, 3) := by decide +kernel
theorem d_MO_bookmarkAt_20 : decode c_MO_bookmarkAt 20 = .ok (.iconst 0, 1) := by decide +kernel
theorem d_MO_bookmarkAt_21 : decode c_MO_bookmarkAt 21 = .ok (.ireturn, 1) := by decide +kernel
theorem d_MO_cancel_0 : decode c_MO_cancel 0 = .ok (.aload_n 0, 1) := by decide +kernel
theorem d_MO_cancel_1 : decode c_MO_cancel 1 = .ok (.aload_n 0, 1) := by decide +kernel
theorem d_MO_cancel_2 : decode c_MO_cancel 2 = .ok (.iload_n 1, 1) := by decide +kernel
theorem d_MO_cancel_3 : decode c_MO_cancel 3 = .ok (.invokevirtual 106, 3) := by decide +kernel
theorem d_MO_cancel_6 : decode c_MO_cancel 6 = .ok (.ifCond .ne 7, 3) := by decide +kernel
theorem d_MO_cancel_9 : decode c_MO_cancel 9 = .ok (.iconst 1, 1) := by decide +kernel
theorem d_MO_cancel_10 : decode c_MO_cancel 10 = .ok (.goto 18, 3) := by decide +kernel
theorem d_MO_cancel_28 : decode c_MO_cancel 28 = .ok (.invokevirtual 102, 3) := by decide +kernel
theorem d_MO_cancel_31 : decode c_MO_cancel 31 = .ok (.ifCond .eq 4, 3) := by decide +kernel
theorem d_MO_cancel_34 : decode c_MO_cancel 34 = .ok (.return_, 1) := by decide +kernel
theorem d_MO_cut_0 : decode c_MO_cut 0 = .ok (.aload_n 0, 1) := by decide +kernel
theorem d_MO_cut_1 : decode c_MO_cut 1 = .ok (.iload_n 1, 1) := by decide +kernel
theorem d_MO_cut_2 : decode c_MO_cut 2 = .ok (.aload_n 0, 1) := by decide +kernel
theorem d_MO_cut_3 : decode c_MO_cut 3 = .ok (.getfield 93, 3) := by decide +kernel
theorem d_MO_cut_6 : decode c_MO_cut 6 = .ok (.if_icmp .lt 18, 3) := by decide +kernel
theorem d_MO_cut_9 : decode c_MO_cut 9 = .ok (.iload_n 1, 1) := by decide +kernel
theorem d_MO_cut_10 : decode c_MO_cut 10 = .ok (.i2l, 1) := by decide +kernel
theorem d_MO_cut_11 : decode c_MO_cut 11 = .ok (.aload_n 0, 1) := by decide +kernel
theorem d_MO_cut_12 : decode c_MO_cut 12 = .ok (.getfield 93, 3) := by decide +kernel
theorem d_MO_cut_15 : decode c_MO_cut 15 = .ok (.i2l, 1) := by decide +kernel
theorem d_MO_cut_16 : decode c_MO_cut 16 = .ok (.ldc2_w 96, 3) := by decide +kernel
theorem d_MO_cut_19 : decode c_MO_cut 19 = .ok (.ladd, 1) := by decide +kernel
theorem d_MO_cut_20 : decode c_MO_cut 20 = .ok (.lcmp, 1) := by decide +kernel
theorem d_MO_cut_21 : decode c_MO_cut 21 = .ok (.ifCond .le 7, 3) := by decide +kernel
theorem d_MO_cut_24 : decode c_MO_cut 24 = .ok (.iconst 1, 1) := by decide +kernel
theorem d_MO_cut_25 : decode c_MO_cut 25 = .ok (.goto 4, 3) := by decide +kernel
theorem d_MO_cut_28 : decode c_MO_cut 28 = .ok (.iconst 0, 1) := by decide +kernel
theorem d_MO_cut_29 : decode c_MO_cut 29 = .ok (.invokevirtual 102, 3) := by decide +kernel
theorem d_MO_cut_32 : decode c_MO_cut 32 = .ok (.ifCond .eq 5, 3) := by decide +kernel
theorem d_MO_cut_35 : decode c_MO_cut 35 = .ok (.iconst 0, 1) := by decide +kernel
theorem d_MO_cut_36 : decode c_MO_cut 36 = .ok (.ireturn, 1) := by decide +kernel
theorem d_MO_cut_37 : decode c_MO_cut 37 = .ok (.iconst 0, 1) := by decide +kernel
theorem d_MO_cut_38 : decode c_MO_cut 38 = .ok (.istore_n 2, 1) := by decide +kernel
theorem d_MO_cut_39 : decode c_MO_cut 39 = .ok (.iconst 0, 1) := by decide +kernel
theorem d_MO_cut_40 : decode c_MO_cut 40 = .ok (.istore_n 3, 1) := by decide +kernel
theorem d_MO_cut_41 : decode c_MO_cut 41 = .ok (.iload_n 3, 1) := by decide +kernel
theorem d_MO_cut_42 : decode c_MO_cut 42 = .ok (.aload_n 0, 1) := by decide +kernel
theorem d_MO_cut_43 : decode c_MO_cut 43 = .ok (.getfield 90, 3) := by decide +kernel
theorem d_MO_cut_46 : decode c_MO_cut 46 = .ok (.if_icmp .ge 108, 3) := by decide +kernel
theorem d_MO_cut_154 : decode c_MO_cut 154 = .ok (.aload_n 0, 1) := by decide +kernel
theorem d_MO_cut_155 : decode c_MO_cut 155 = .ok (.iload_n 1, 1) := by decide +kernel
theorem d_MO_cut_156 : decode c_MO_cut 156 = .ok (.putfield 93, 3) := by decide +kernel
theorem d_MO_cut_159 : decode c_MO_cut 159 = .ok (.aload_n 0, 1) := by decide +kernel
theorem d_MO_cut_160 : decode c_MO_cut 160 = .ok (.iconst 0, 1) := by decide +kernel
theorem d_MO_cut_161 : decode c_MO_cut 161 = .ok (.putfield 162, 3) := by decide +kernel
theorem d_MO_cut_164 : decode c_MO_cut 164 = .ok (.iload_n 2, 1) := by decide +kernel
theorem d_MO_cut_165 : decode c_MO_cut 165 = .ok (.ireturn, 1) := by decide +kernel
theorem d_MO_end_0 : decode c_MO_end 0 = .ok (.aload_n 0, 1) := by decide +kernel
theorem d_MO_end_1 : decode c_MO_end 1 = .ok (.dup, 1) := by decide +kernel
theorem d_MO_end_2 : decode c_MO_end 2 = .ok (.getfield 93, 3) := by decide +kernel
theorem d_MO_end_5 : decode c_MO_end 5 = .ok (.iconst 1, 1) := by decide +kernel
theorem d_MO_end_6 : decode c_MO_end 6 = .ok (.iadd, 1) := by decide +kernel
theorem d_MO_end_7 : decode c_MO_end 7 = .ok (.putfield 93, 3) := by decide +kernel
theorem d_MO_end_10 : decode c_MO_end 10 = .ok (.iconst 0, 1) := by decide +kernel
theorem d_MO_end_11 : decode c_MO_end 11 = .ok (.istore_n 1, 1) := by decide +kernel
theorem d_MO_end_12 : decode c_MO_end 12 = .ok (.iload_n 1, 1) := by decide +kernel
theorem d_MO_end_13 : decode c_MO_end 13 = .ok (.aload_n 0, 1) := by decide +kernel
theorem d_MO_end_14 : decode c_MO_end 14 = .ok (.getfield 90, 3) := by decide +kernel
theorem d_MO_end_17 : decode c_MO_end 17 = .ok (.if_icmp .ge 48, 3) := by decide +kernel
theorem d_MO_end_65 : decode c_MO_end 65 = .ok (.return_, 1) := by decide +kernel
theorem d_MO_erase_0 : decode c_MO_erase 0 = .ok (.aload_n 0, 1) := by decide +kernel
theorem d_MO_erase_1 : decode c_MO_erase 1 = .ok (.aload_n 0, 1) := by decide +kernel
theorem d_MO_erase_2 : decode c_MO_erase 2 = .ok (.iload_n 1, 1) := by decide +kernel
theorem d_MO_erase_3 : decode c_MO_erase 3 = .ok (.invokevirtual 106, 3) := by decide +kernel
theorem d_MO_erase_6 : decode c_MO_erase 6 = .ok (.ifCond .ne 7, 3) := by decide +kernel
theorem d_MO_erase_9 : decode c_MO_erase 9 = .ok (.iconst 1, 1) := by decide +kernel
theorem d_MO_erase_10 : decode c_MO_erase 10 = .ok (.goto 18, 3) := by decide +kernel
theorem d_MO_erase_28 : decode c_MO_erase 28 = .ok (.invokevirtual 102, 3) := by decide +kernel
theorem d_MO_erase_31 : decode c_MO_erase 31 = .ok (.ifCond .eq 7, 3) := by decide +kernel
theorem d_MO_erase_34 : decode c_MO_erase 34 = .ok (.iconst 0, 1) := by decide +kernel
theorem d_MO_erase_35 : decode c_MO_erase 35 = .ok (.goto 8, 3) := by decide +kernel
theorem d_MO_erase_43 : decode c_MO_erase 43 = .ok (.ireturn, 1) := by decide +kernel
theorem d_MO_free_0 : decode c_MO_free 0 = .ok (.aload_n 0, 1) := by decide +kernel
theorem d_MO_free_1 : decode c_MO_free 1 = .ok (.iconst 0, 1) := by decide +kernel
theorem d_MO_free_2 : decode c_MO_free 2 = .ok (.putfield 87, 3) := by decide +kernel
theorem d_MO_free_5 : decode c_MO_free 5 = .ok (.aload_n 0, 1) := by decide +kernel
theorem d_MO_free_6 : decode c_MO_free 6 = .ok (.invokevirtual 156, 3) := by decide +kernel
theorem d_MO_free_9 : decode c_MO_free 9 = .ok (.ireturn, 1) := by decide +kernel
theorem d_MO_freeSegments_0 : decode c_MO_freeSegments 0 = .ok (.bipush 24, 2) := by decide +kernel
theorem d_MO_freeSegments_2 : decode c_MO_freeSegments 2 = .ok (.istore_n 1, 1) := by decide +kernel
theorem d_MO_freeSegments_3 : decode c_MO_freeSegments 3 = .ok (.iconst 0, 1) := by decide +kernel
theorem d_MO_freeSegments_4 : decode c_MO_freeSegments 4 = .ok (.istore_n 2, 1) := by decide +kernel
theorem d_MO_freeSegments_5 : decode c_MO_freeSegments 5 = .ok (.iload_n 2, 1) := by decide +kernel
theorem d_MO_freeSegments_6 : decode c_MO_freeSegments 6 = .ok (.aload_n 0, 1) := by decide +kernel
theorem d_MO_freeSegments_7 : decode c_MO_freeSegments 7 = .ok (.getfield 90, 3) := by decide +kernel
theorem d_MO_freeSegments_10 : decode c_MO_freeSegments 10 = .ok (.if_icmp .ge 17, 3) := by decide +kernel
theorem d_MO_freeSegments_27 : decode c_MO_freeSegments 27 = .ok (.iload_n 1, 1) := by decide +kernel
theorem d_MO_freeSegments_28 : decode c_MO_freeSegments 28 = .ok (.ireturn, 1) := by decide +kernel
theorem d_MO_isRequest_0 : decode c_MO_isRequest 0 = .ok (.iload_n 1, 1) := by decide +kernel
theorem d_MO_isRequest_1 : decode c_MO_isRequest 1 = .ok (.ifCond .lt 15, 3) := by decide +kernel
theorem d_MO_isRequest_4 : decode c_MO_isRequest 4 = .ok (.iload_n 1, 1) := by decide +kernel
theorem d_MO_isRequest_5 : decode c_MO_isRequest 5 = .ok (.aload_n 0, 1) := by decide +kernel
theorem d_MO_isRequest_6 : decode c_MO_isRequest 6 = .ok (.getfield 90, 3) := by decide +kernel
theorem d_MO_isRequest_9 : decode c_MO_isRequest 9 = .ok (.if_icmp .ge 7, 3) := by decide +kernel
theorem d_MO_isRequest_16 : decode c_MO_isRequest 16 = .ok (.iconst 0, 1) := by decide +kernel
theorem d_MO_isRequest_17 : decode c_MO_isRequest 17 = .ok (.ireturn, 1) := by decide +kernel
theorem d_MO_keepBack_0 : decode c_MO_keepBack 0 = .ok (.aload_n 0, 1) := by decide +kernel
theorem d_MO_keepBack_1 : decode c_MO_keepBack 1 = .ok (.getfield 9, 3) := by decide +kernel
theorem d_MO_keepBack_4 : decode c_MO_keepBack 4 = .ok (.ifCond .lt 14, 3) := by decide +kernel
theorem d_MO_keepBack_18 : decode c_MO_keepBack 18 = .ok (.aload_n 0, 1) := by decide +kernel
theorem d_MO_keepBack_19 : decode c_MO_keepBack 19 = .ok (.iconst 0, 1) := by decide +kernel
theorem d_MO_keepBack_20 : decode c_MO_keepBack 20 = .ok (.putfield 162, 3) := by decide +kernel
theorem d_MO_keepBack_23 : decode c_MO_keepBack 23 = .ok (.return_, 1) := by decide +kernel
theorem d_MO_now_0 : decode c_MO_now 0 = .ok (.aload_n 0, 1) := by decide +kernel
theorem d_MO_now_1 : decode c_MO_now 1 = .ok (.iconst 0, 1) := by decide +kernel
theorem d_MO_now_2 : decode c_MO_now 2 = .ok (.putfield 87, 3) := by decide +kernel
theorem d_MO_now_5 : decode c_MO_now 5 = .ok (.aload_n 0, 1) := by decide +kernel
theorem d_MO_now_6 : decode c_MO_now 6 = .ok (.getfield 93, 3) := by decide +kernel
theorem d_MO_now_9 : decode c_MO_now 9 = .ok (.ireturn, 1) := by decide +kernel
theorem d_MO_open_0 : decode c_MO_open 0 = .ok (.iconst 0, 1) := by decide +kernel
theorem d_MO_open_1 : decode c_MO_open 1 = .ok (.istore_n 1, 1) := by decide +kernel
theorem d_MO_open_2 : decode c_MO_open 2 = .ok (.iconst 0, 1) := by decide +kernel
theorem d_MO_open_3 : decode c_MO_open 3 = .ok (.istore_n 2, 1) := by decide +kernel
theorem d_MO_open_4 : decode c_MO_open 4 = .ok (.iload_n 2, 1) := by decide +kernel
theorem d_MO_open_5 : decode c_MO_open 5 = .ok (.aload_n 0, 1) := by decide +kernel
theorem d_MO_open_6 : decode c_MO_open 6 = .ok (.getfield 90, 3) := by decide +kernel
theorem d_MO_open_9 : decode c_MO_open 9 = .ok (.if_icmp .ge 36, 3) := by decide +kernel
theorem d_MO_open_45 : decode c_MO_open 45 = .ok (.iload_n 1, 1) := by decide +kernel
theorem d_MO_open_46 : decode c_MO_open 46 = .ok (.ireturn, 1) := by decide +kernel
theorem d_MO_plan_0 : decode c_MO_plan 0 = .ok (.aload_n 0, 1) := by decide +kernel
theorem d_MO_plan_1 : decode c_MO_plan 1 = .ok (.iconst 0, 1) := by decide +kernel
theorem d_MO_plan_2 : decode c_MO_plan 2 = .ok (.putfield 109, 3) := by decide +kernel
theorem d_MO_plan_5 : decode c_MO_plan 5 = .ok (.iconst 0, 1) := by decide +kernel
theorem d_MO_plan_6 : decode c_MO_plan 6 = .ok (.istore_n 1, 1) := by decide +kernel
theorem d_MO_plan_7 : decode c_MO_plan 7 = .ok (.iload_n 1, 1) := by decide +kernel
theorem d_MO_plan_8 : decode c_MO_plan 8 = .ok (.aload_n 0, 1) := by decide +kernel
theorem d_MO_plan_9 : decode c_MO_plan 9 = .ok (.getfield 90, 3) := by decide +kernel
theorem d_MO_plan_12 : decode c_MO_plan 12 = .ok (.if_icmp .ge 88, 3) := by decide +kernel
theorem d_MO_plan_100 : decode c_MO_plan 100 = .ok (.aload_n 0, 1) := by decide +kernel
theorem d_MO_plan_101 : decode c_MO_plan 101 = .ok (.iconst 0, 1) := by decide +kernel
theorem d_MO_plan_102 : decode c_MO_plan 102 = .ok (.invokevirtual 138, 3) := by decide +kernel
theorem d_MO_plan_105 : decode c_MO_plan 105 = .ok (.iconst 0, 1) := by decide +kernel
theorem d_MO_plan_106 : decode c_MO_plan 106 = .ok (.istore_n 1, 1) := by decide +kernel
theorem d_MO_plan_107 : decode c_MO_plan 107 = .ok (.iload_n 1, 1) := by decide +kernel
theorem d_MO_plan_108 : decode c_MO_plan 108 = .ok (.aload_n 0, 1) := by decide +kernel
theorem d_MO_plan_109 : decode c_MO_plan 109 = .ok (.getfield 90, 3) := by decide +kernel
theorem d_MO_plan_112 : decode c_MO_plan 112 = .ok (.if_icmp .ge 36, 3) := by decide +kernel
theorem d_MO_plan_148 : decode c_MO_plan 148 = .ok (.aload_n 0, 1) := by decide +kernel
theorem d_MO_plan_149 : decode c_MO_plan 149 = .ok (.iconst 1, 1) := by decide +kernel
theorem d_MO_plan_150 : decode c_MO_plan 150 = .ok (.invokevirtual 138, 3) := by decide +kernel
theorem d_MO_plan_153 : decode c_MO_plan 153 = .ok (.return_, 1) := by decide +kernel
theorem d_MO_planFrom_0 : decode c_MO_planFrom 0 = .ok (.aload_n 0, 1) := by decide +kernel
theorem d_MO_planFrom_1 : decode c_MO_planFrom 1 = .ok (.aload_n 0, 1) := by decide +kernel
theorem d_MO_planFrom_2 : decode c_MO_planFrom 2 = .ok (.iload_n 1, 1) := by decide +kernel
theorem d_MO_planFrom_3 : decode c_MO_planFrom 3 = .ok (.invokevirtual 106, 3) := by decide +kernel
theorem d_MO_planFrom_6 : decode c_MO_planFrom 6 = .ok (.ifCond .eq 7, 3) := by decide +kernel
theorem d_MO_planFrom_13 : decode c_MO_planFrom 13 = .ok (.iconst 1, 1) := by decide +kernel
theorem d_MO_planFrom_14 : decode c_MO_planFrom 14 = .ok (.invokevirtual 102, 3) := by decide +kernel
theorem d_MO_planFrom_17 : decode c_MO_planFrom 17 = .ok (.ifCond .eq 5, 3) := by decide +kernel
theorem d_MO_planFrom_20 : decode c_MO_planFrom 20 = .ok (.iconst 0, 1) := by decide +kernel
theorem d_MO_planFrom_21 : decode c_MO_planFrom 21 = .ok (.ireturn, 1) := by decide +kernel
theorem d_MO_planTo_0 : decode c_MO_planTo 0 = .ok (.aload_n 0, 1) := by decide +kernel
theorem d_MO_planTo_1 : decode c_MO_planTo 1 = .ok (.aload_n 0, 1) := by decide +kernel
theorem d_MO_planTo_2 : decode c_MO_planTo 2 = .ok (.iload_n 1, 1) := by decide +kernel
theorem d_MO_planTo_3 : decode c_MO_planTo 3 = .ok (.invokevirtual 106, 3) := by decide +kernel
theorem d_MO_planTo_6 : decode c_MO_planTo 6 = .ok (.ifCond .eq 7, 3) := by decide +kernel
theorem d_MO_planTo_13 : decode c_MO_planTo 13 = .ok (.iconst 1, 1) := by decide +kernel
theorem d_MO_planTo_14 : decode c_MO_planTo 14 = .ok (.invokevirtual 102, 3) := by decide +kernel
theorem d_MO_planTo_17 : decode c_MO_planTo 17 = .ok (.ifCond .eq 5, 3) := by decide +kernel
theorem d_MO_planTo_20 : decode c_MO_planTo 20 = .ok (.iconst 0, 1) := by decide +kernel
theorem d_MO_planTo_21 : decode c_MO_planTo 21 = .ok (.ireturn, 1) := by decide +kernel
theorem d_MO_protect_0 : decode c_MO_protect 0 = .ok (.aload_n 0, 1) := by decide +kernel
theorem d_MO_protect_1 : decode c_MO_protect 1 = .ok (.aload_n 0, 1) := by decide +kernel
theorem d_MO_protect_2 : decode c_MO_protect 2 = .ok (.iload_n 1, 1) := by decide +kernel
theorem d_MO_protect_3 : decode c_MO_protect 3 = .ok (.invokevirtual 106, 3) := by decide +kernel
theorem d_MO_protect_6 : decode c_MO_protect 6 = .ok (.ifCond .ne 7, 3) := by decide +kernel
theorem d_MO_protect_9 : decode c_MO_protect 9 = .ok (.iconst 1, 1) := by decide +kernel
theorem d_MO_protect_10 : decode c_MO_protect 10 = .ok (.goto 16, 3) := by decide +kernel
theorem d_MO_protect_26 : decode c_MO_protect 26 = .ok (.invokevirtual 102, 3) := by decide +kernel
theorem d_MO_protect_29 : decode c_MO_protect 29 = .ok (.ifCond .ne 10, 3) := by decide +kernel
theorem d_MO_protect_39 : decode c_MO_protect 39 = .ok (.return_, 1) := by decide +kernel
theorem d_MO_recordAll_0 : decode c_MO_recordAll 0 = .ok (.iconst 0, 1) := by decide +kernel
theorem d_MO_recordAll_1 : decode c_MO_recordAll 1 = .ok (.istore_n 1, 1) := by decide +kernel
theorem d_MO_recordAll_2 : decode c_MO_recordAll 2 = .ok (.iconst 0, 1) := by decide +kernel
theorem d_MO_recordAll_3 : decode c_MO_recordAll 3 = .ok (.istore_n 2, 1) := by decide +kernel
theorem d_MO_recordAll_4 : decode c_MO_recordAll 4 = .ok (.iload_n 2, 1) := by decide +kernel
theorem d_MO_recordAll_5 : decode c_MO_recordAll 5 = .ok (.aload_n 0, 1) := by decide +kernel
theorem d_MO_recordAll_6 : decode c_MO_recordAll 6 = .ok (.getfield 90, 3) := by decide +kernel
theorem d_MO_recordAll_9 : decode c_MO_recordAll 9 = .ok (.if_icmp .ge 35, 3) := by decide +kernel
theorem d_MO_recordAll_44 : decode c_MO_recordAll 44 = .ok (.iload_n 1, 1) := by decide +kernel
theorem d_MO_recordAll_45 : decode c_MO_recordAll 45 = .ok (.ireturn, 1) := by decide +kernel
theorem d_MO_recorded_0 : decode c_MO_recorded 0 = .ok (.aload_n 0, 1) := by decide +kernel
theorem d_MO_recorded_1 : decode c_MO_recorded 1 = .ok (.aload_n 0, 1) := by decide +kernel
theorem d_MO_recorded_2 : decode c_MO_recorded 2 = .ok (.iload_n 1, 1) := by decide +kernel
theorem d_MO_recorded_3 : decode c_MO_recorded 3 = .ok (.invokevirtual 106, 3) := by decide +kernel
theorem d_MO_recorded_6 : decode c_MO_recorded 6 = .ok (.ifCond .eq 7, 3) := by decide +kernel
theorem d_MO_recorded_13 : decode c_MO_recorded 13 = .ok (.iconst 1, 1) := by decide +kernel
theorem d_MO_recorded_14 : decode c_MO_recorded 14 = .ok (.invokevirtual 102, 3) := by decide +kernel
theorem d_MO_recorded_17 : decode c_MO_recorded 17 = .ok (.ifCond .eq 5, 3) := by decide +kernel
theorem d_MO_recorded_20 : decode c_MO_recorded 20 = .ok (.iconst 0, 1) := by decide +kernel
theorem d_MO_recorded_21 : decode c_MO_recorded 21 = .ok (.ireturn, 1) := by decide +kernel
theorem d_MO_refused_0 : decode c_MO_refused 0 = .ok (.aload_n 0, 1) := by decide +kernel
theorem d_MO_refused_1 : decode c_MO_refused 1 = .ok (.iload_n 1, 1) := by decide +kernel
theorem d_MO_refused_2 : decode c_MO_refused 2 = .ok (.putfield 87, 3) := by decide +kernel
theorem d_MO_refused_5 : decode c_MO_refused 5 = .ok (.iload_n 1, 1) := by decide +kernel
theorem d_MO_refused_6 : decode c_MO_refused 6 = .ok (.ifCond .le 7, 3) := by decide +kernel
theorem d_MO_refused_9 : decode c_MO_refused 9 = .ok (.iconst 1, 1) := by decide +kernel
theorem d_MO_refused_10 : decode c_MO_refused 10 = .ok (.goto 4, 3) := by decide +kernel
theorem d_MO_refused_13 : decode c_MO_refused 13 = .ok (.iconst 0, 1) := by decide +kernel
theorem d_MO_refused_14 : decode c_MO_refused 14 = .ok (.ireturn, 1) := by decide +kernel
theorem d_MO_request_0 : decode c_MO_request 0 = .ok (.iload_n 1, 1) := by decide +kernel
theorem d_MO_request_1 : decode c_MO_request 1 = .ok (.ifCond .lt 72, 3) := by decide +kernel
theorem d_MO_request_4 : decode c_MO_request 4 = .ok (.iload_n 1, 1) := by decide +kernel
theorem d_MO_request_5 : decode c_MO_request 5 = .ok (.bipush 7, 2) := by decide +kernel
theorem d_MO_request_7 : decode c_MO_request 7 = .ok (.if_icmp .gt 66, 3) := by decide +kernel
theorem d_MO_request_10 : decode c_MO_request 10 = .ok (.iload_n 2, 1) := by decide +kernel
theorem d_MO_request_11 : decode c_MO_request 11 = .ok (.aload_n 0, 1) := by decide +kernel
theorem d_MO_request_12 : decode c_MO_request 12 = .ok (.getfield 93, 3) := by decide +kernel
theorem d_MO_request_15 : decode c_MO_request 15 = .ok (.if_icmp .lt 58, 3) := by decide +kernel
theorem d_MO_request_18 : decode c_MO_request 18 = .ok (.iload_n 2, 1) := by decide +kernel
theorem d_MO_request_19 : decode c_MO_request 19 = .ok (.i2l, 1) := by decide +kernel
theorem d_MO_request_20 : decode c_MO_request 20 = .ok (.aload_n 0, 1) := by decide +kernel
theorem d_MO_request_21 : decode c_MO_request 21 = .ok (.getfield 93, 3) := by decide +kernel
theorem d_MO_request_24 : decode c_MO_request 24 = .ok (.i2l, 1) := by decide +kernel
theorem d_MO_request_25 : decode c_MO_request 25 = .ok (.ldc2_w 96, 3) := by decide +kernel
theorem d_MO_request_28 : decode c_MO_request 28 = .ok (.ladd, 1) := by decide +kernel
theorem d_MO_request_29 : decode c_MO_request 29 = .ok (.lcmp, 1) := by decide +kernel
theorem d_MO_request_30 : decode c_MO_request 30 = .ok (.ifCond .gt 43, 3) := by decide +kernel
theorem d_MO_request_33 : decode c_MO_request 33 = .ok (.iload_n 3, 1) := by decide +kernel
theorem d_MO_request_34 : decode c_MO_request 34 = .ok (.iconst 1, 1) := by decide +kernel
theorem d_MO_request_35 : decode c_MO_request 35 = .ok (.if_icmp .lt 38, 3) := by decide +kernel
theorem d_MO_request_38 : decode c_MO_request 38 = .ok (.iload_n 3, 1) := by decide +kernel
theorem d_MO_request_39 : decode c_MO_request 39 = .ok (.bipush 60, 2) := by decide +kernel
theorem d_MO_request_41 : decode c_MO_request 41 = .ok (.if_icmp .gt 32, 3) := by decide +kernel
theorem d_MO_request_44 : decode c_MO_request 44 = .ok (.iload 4, 2) := by decide +kernel
theorem d_MO_request_46 : decode c_MO_request 46 = .ok (.iconst 1, 1) := by decide +kernel
theorem d_MO_request_47 : decode c_MO_request 47 = .ok (.if_icmp .lt 26, 3) := by decide +kernel
theorem d_MO_request_50 : decode c_MO_request 50 = .ok (.iload 4, 2) := by decide +kernel
theorem d_MO_request_52 : decode c_MO_request 52 = .ok (.bipush 9, 2) := by decide +kernel
theorem d_MO_request_54 : decode c_MO_request 54 = .ok (.if_icmp .gt 19, 3) := by decide +kernel
theorem d_MO_request_57 : decode c_MO_request 57 = .ok (.iload 5, 2) := by decide +kernel
theorem d_MO_request_59 : decode c_MO_request 59 = .ok (.ifCond .lt 14, 3) := by decide +kernel
theorem d_MO_request_62 : decode c_MO_request 62 = .ok (.iload 5, 2) := by decide +kernel
theorem d_MO_request_64 : decode c_MO_request 64 = .ok (.bipush 99, 2) := by decide +kernel
theorem d_MO_request_66 : decode c_MO_request 66 = .ok (.if_icmp .gt 7, 3) := by decide +kernel
theorem d_MO_request_69 : decode c_MO_request 69 = .ok (.iconst 1, 1) := by decide +kernel
theorem d_MO_request_70 : decode c_MO_request 70 = .ok (.goto 4, 3) := by decide +kernel
theorem d_MO_request_73 : decode c_MO_request 73 = .ok (.iconst 0, 1) := by decide +kernel
theorem d_MO_request_74 : decode c_MO_request 74 = .ok (.istore 6, 2) := by decide +kernel
theorem d_MO_request_76 : decode c_MO_request 76 = .ok (.aload_n 0, 1) := by decide +kernel
theorem d_MO_request_77 : decode c_MO_request 77 = .ok (.iload 6, 2) := by decide +kernel
theorem d_MO_request_79 : decode c_MO_request 79 = .ok (.ifCond .ne 7, 3) := by decide +kernel
theorem d_MO_request_82 : decode c_MO_request 82 = .ok (.iconst 1, 1) := by decide +kernel
theorem d_MO_request_83 : decode c_MO_request 83 = .ok (.goto 26, 3) := by decide +kernel
theorem d_MO_request_86 : decode c_MO_request 86 = .ok (.aload_n 0, 1) := by decide +kernel
theorem d_MO_request_87 : decode c_MO_request 87 = .ok (.invokevirtual 98, 3) := by decide +kernel
theorem d_MO_request_90 : decode c_MO_request 90 = .ok (.bipush 12, 2) := by decide +kernel
theorem d_MO_request_92 : decode c_MO_request 92 = .ok (.if_icmp .eq 12, 3) := by decide +kernel
theorem d_MO_request_95 : decode c_MO_request 95 = .ok (.aload_n 0, 1) := by decide +kernel
theorem d_MO_request_96 : decode c_MO_request 96 = .ok (.getfield 90, 3) := by decide +kernel
theorem d_MO_request_99 : decode c_MO_request 99 = .ok (.bipush 40, 2) := by decide +kernel
theorem d_MO_request_101 : decode c_MO_request 101 = .ok (.if_icmp .ne 7, 3) := by decide +kernel
theorem d_MO_request_108 : decode c_MO_request 108 = .ok (.iconst 0, 1) := by decide +kernel
theorem d_MO_request_109 : decode c_MO_request 109 = .ok (.invokevirtual 102, 3) := by decide +kernel
theorem d_MO_request_112 : decode c_MO_request 112 = .ok (.ifCond .eq 5, 3) := by decide +kernel
theorem d_MO_request_115 : decode c_MO_request 115 = .ok (.iconst 0, 1) := by decide +kernel
theorem d_MO_request_116 : decode c_MO_request 116 = .ok (.ireturn, 1) := by decide +kernel
theorem d_MO_request_117 : decode c_MO_request 117 = .ok (.aload_n 0, 1) := by decide +kernel
theorem d_MO_request_118 : decode c_MO_request 118 = .ok (.getfield 90, 3) := by decide +kernel
theorem d_MO_request_121 : decode c_MO_request 121 = .ok (.istore 7, 2) := by decide +kernel
theorem d_MO_request_123 : decode c_MO_request 123 = .ok (.aload_n 0, 1) := by decide +kernel
theorem d_MO_request_124 : decode c_MO_request 124 = .ok (.getfield 17, 3) := by decide +kernel
theorem d_MO_request_127 : decode c_MO_request 127 = .ok (.iload 7, 2) := by decide +kernel
theorem d_MO_request_129 : decode c_MO_request 129 = .ok (.iload_n 1, 1) := by decide +kernel
theorem d_MO_request_130 : decode c_MO_request 130 = .ok (.iastore, 1) := by decide +kernel
theorem d_MO_request_131 : decode c_MO_request 131 = .ok (.aload_n 0, 1) := by decide +kernel
theorem d_MO_request_132 : decode c_MO_request 132 = .ok (.getfield 20, 3) := by decide +kernel
theorem d_MO_request_135 : decode c_MO_request 135 = .ok (.iload 7, 2) := by decide +kernel
theorem d_MO_request_137 : decode c_MO_request 137 = .ok (.iload_n 2, 1) := by decide +kernel
theorem d_MO_request_138 : decode c_MO_request 138 = .ok (.iastore, 1) := by decide +kernel
theorem d_MO_request_139 : decode c_MO_request 139 = .ok (.aload_n 0, 1) := by decide +kernel
theorem d_MO_request_140 : decode c_MO_request 140 = .ok (.getfield 23, 3) := by decide +kernel
theorem d_MO_request_143 : decode c_MO_request 143 = .ok (.iload 7, 2) := by decide +kernel
theorem d_MO_request_145 : decode c_MO_request 145 = .ok (.iload_n 3, 1) := by decide +kernel
theorem d_MO_request_146 : decode c_MO_request 146 = .ok (.iastore, 1) := by decide +kernel
theorem d_MO_request_147 : decode c_MO_request 147 = .ok (.aload_n 0, 1) := by decide +kernel
theorem d_MO_request_148 : decode c_MO_request 148 = .ok (.getfield 26, 3) := by decide +kernel
theorem d_MO_request_151 : decode c_MO_request 151 = .ok (.iload 7, 2) := by decide +kernel
theorem d_MO_request_153 : decode c_MO_request 153 = .ok (.iload 4, 2) := by decide +kernel
theorem d_MO_request_155 : decode c_MO_request 155 = .ok (.iastore, 1) := by decide +kernel
theorem d_MO_request_156 : decode c_MO_request 156 = .ok (.aload_n 0, 1) := by decide +kernel
theorem d_MO_request_157 : decode c_MO_request 157 = .ok (.getfield 29, 3) := by decide +kernel
theorem d_MO_request_160 : decode c_MO_request 160 = .ok (.iload 7, 2) := by decide +kernel
theorem d_MO_request_162 : decode c_MO_request 162 = .ok (.iload 5, 2) := by decide +kernel
theorem d_MO_request_164 : decode c_MO_request 164 = .ok (.bipush 10, 2) := by decide +kernel
theorem d_MO_request_166 : decode c_MO_request 166 = .ok (.idiv, 1) := by decide +kernel
theorem d_MO_request_167 : decode c_MO_request 167 = .ok (.iastore, 1) := by decide +kernel
theorem d_MO_request_168 : decode c_MO_request 168 = .ok (.aload_n 0, 1) := by decide +kernel
theorem d_MO_request_169 : decode c_MO_request 169 = .ok (.getfield 32, 3) := by decide +kernel
theorem d_MO_request_172 : decode c_MO_request 172 = .ok (.iload 7, 2) := by decide +kernel
theorem d_MO_request_174 : decode c_MO_request 174 = .ok (.iload 5, 2) := by decide +kernel
theorem d_MO_request_176 : decode c_MO_request 176 = .ok (.bipush 10, 2) := by decide +kernel
theorem d_MO_request_178 : decode c_MO_request 178 = .ok (.irem, 1) := by decide +kernel
theorem d_MO_request_179 : decode c_MO_request 179 = .ok (.iastore, 1) := by decide +kernel
theorem d_MO_request_180 : decode c_MO_request 180 = .ok (.aload_n 0, 1) := by decide +kernel
theorem d_MO_request_181 : decode c_MO_request 181 = .ok (.dup, 1) := by decide +kernel
theorem d_MO_request_182 : decode c_MO_request 182 = .ok (.getfield 90, 3) := by decide +kernel
theorem d_MO_request_185 : decode c_MO_request 185 = .ok (.iconst 1, 1) := by decide +kernel
theorem d_MO_request_186 : decode c_MO_request 186 = .ok (.iadd, 1) := by decide +kernel
theorem d_MO_request_187 : decode c_MO_request 187 = .ok (.putfield 90, 3) := by decide +kernel
theorem d_MO_request_190 : decode c_MO_request 190 = .ok (.iload 7, 2) := by decide +kernel
theorem d_MO_request_192 : decode c_MO_request 192 = .ok (.ireturn, 1) := by decide +kernel
theorem d_MO_round_0 : decode c_MO_round 0 = .ok (.bipush 9, 2) := by decide +kernel
theorem d_MO_round_2 : decode c_MO_round 2 = .ok (.istore_n 2, 1) := by decide +kernel
theorem d_MO_round_3 : decode c_MO_round 3 = .ok (.iload_n 2, 1) := by decide +kernel
theorem d_MO_round_4 : decode c_MO_round 4 = .ok (.ifCond .le 96, 3) := by decide +kernel
theorem d_MO_round_7 : decode c_MO_round 7 = .ok (.iconst 0, 1) := by decide +kernel
theorem d_MO_round_8 : decode c_MO_round 8 = .ok (.istore_n 3, 1) := by decide +kernel
theorem d_MO_round_9 : decode c_MO_round 9 = .ok (.iload_n 3, 1) := by decide +kernel
theorem d_MO_round_10 : decode c_MO_round 10 = .ok (.aload_n 0, 1) := by decide +kernel
theorem d_MO_round_11 : decode c_MO_round 11 = .ok (.getfield 90, 3) := by decide +kernel
theorem d_MO_round_14 : decode c_MO_round 14 = .ok (.if_icmp .ge 80, 3) := by decide +kernel
theorem d_MO_round_94 : decode c_MO_round 94 = .ok (.iinc 2 (-1), 3) := by decide +kernel
theorem d_MO_round_97 : decode c_MO_round 97 = .ok (.goto (-94), 3) := by decide +kernel
theorem d_MO_round_100 : decode c_MO_round 100 = .ok (.return_, 1) := by decide +kernel
theorem d_MO_seen_0 : decode c_MO_seen 0 = .ok (.aload_n 0, 1) := by decide +kernel
theorem d_MO_seen_1 : decode c_MO_seen 1 = .ok (.aload_n 0, 1) := by decide +kernel
theorem d_MO_seen_2 : decode c_MO_seen 2 = .ok (.iload_n 1, 1) := by decide +kernel
theorem d_MO_seen_3 : decode c_MO_seen 3 = .ok (.invokevirtual 106, 3) := by decide +kernel
theorem d_MO_seen_6 : decode c_MO_seen 6 = .ok (.ifCond .ne 7, 3) := by decide +kernel
theorem d_MO_seen_9 : decode c_MO_seen 9 = .ok (.iconst 1, 1) := by decide +kernel
theorem d_MO_seen_10 : decode c_MO_seen 10 = .ok (.goto 16, 3) := by decide +kernel
theorem d_MO_seen_26 : decode c_MO_seen 26 = .ok (.invokevirtual 102, 3) := by decide +kernel
theorem d_MO_seen_29 : decode c_MO_seen 29 = .ok (.ifCond .ne 10, 3) := by decide +kernel
theorem d_MO_seen_39 : decode c_MO_seen 39 = .ok (.return_, 1) := by decide +kernel
theorem d_MO_shortBy_0 : decode c_MO_shortBy 0 = .ok (.aload_n 0, 1) := by decide +kernel
theorem d_MO_shortBy_1 : decode c_MO_shortBy 1 = .ok (.aload_n 0, 1) := by decide +kernel
theorem d_MO_shortBy_2 : decode c_MO_shortBy 2 = .ok (.iload_n 1, 1) := by decide +kernel
theorem d_MO_shortBy_3 : decode c_MO_shortBy 3 = .ok (.invokevirtual 106, 3) := by decide +kernel
theorem d_MO_shortBy_6 : decode c_MO_shortBy 6 = .ok (.ifCond .eq 7, 3) := by decide +kernel
theorem d_MO_shortBy_13 : decode c_MO_shortBy 13 = .ok (.iconst 1, 1) := by decide +kernel
theorem d_MO_shortBy_14 : decode c_MO_shortBy 14 = .ok (.invokevirtual 102, 3) := by decide +kernel
theorem d_MO_shortBy_17 : decode c_MO_shortBy 17 = .ok (.ifCond .eq 7, 3) := by decide +kernel
theorem d_MO_shortBy_20 : decode c_MO_shortBy 20 = .ok (.iconst 0, 1) := by decide +kernel
theorem d_MO_shortBy_21 : decode c_MO_shortBy 21 = .ok (.goto 9, 3) := by decide +kernel
theorem d_MO_shortBy_30 : decode c_MO_shortBy 30 = .ok (.ireturn, 1) := by decide +kernel
theorem d_MO_state_0 : decode c_MO_state 0 = .ok (.aload_n 0, 1) := by decide +kernel
theorem d_MO_state_1 : decode c_MO_state 1 = .ok (.aload_n 0, 1) := by decide +kernel
theorem d_MO_state_2 : decode c_MO_state 2 = .ok (.iload_n 1, 1) := by decide +kernel
theorem d_MO_state_3 : decode c_MO_state 3 = .ok (.invokevirtual 106, 3) := by decide +kernel
theorem d_MO_state_6 : decode c_MO_state 6 = .ok (.ifCond .eq 7, 3) := by decide +kernel
theorem d_MO_state_13 : decode c_MO_state 13 = .ok (.iconst 1, 1) := by decide +kernel
theorem d_MO_state_14 : decode c_MO_state 14 = .ok (.invokevirtual 102, 3) := by decide +kernel
theorem d_MO_state_17 : decode c_MO_state 17 = .ok (.ifCond .eq 7, 3) := by decide +kernel
theorem d_MO_state_20 : decode c_MO_state 20 = .ok (.iconst 0, 1) := by decide +kernel
theorem d_MO_state_21 : decode c_MO_state 21 = .ok (.goto 9, 3) := by decide +kernel
theorem d_MO_state_30 : decode c_MO_state 30 = .ok (.ireturn, 1) := by decide +kernel
theorem d_MO_thrown_0 : decode c_MO_thrown 0 = .ok (.aload_n 0, 1) := by decide +kernel
theorem d_MO_thrown_1 : decode c_MO_thrown 1 = .ok (.getfield 87, 3) := by decide +kernel
theorem d_MO_thrown_4 : decode c_MO_thrown 4 = .ok (.ireturn, 1) := by decide +kernel
theorem d_MO_tick_0 : decode c_MO_tick 0 = .ok (.aload_n 0, 1) := by decide +kernel
theorem d_MO_tick_1 : decode c_MO_tick 1 = .ok (.iconst 0, 1) := by decide +kernel
theorem d_MO_tick_2 : decode c_MO_tick 2 = .ok (.putfield 87, 3) := by decide +kernel
theorem d_MO_tick_5 : decode c_MO_tick 5 = .ok (.aload_n 0, 1) := by decide +kernel
theorem d_MO_tick_6 : decode c_MO_tick 6 = .ok (.invokevirtual 168, 3) := by decide +kernel
theorem d_MO_tick_9 : decode c_MO_tick 9 = .ok (.aload_n 0, 1) := by decide +kernel
theorem d_MO_tick_10 : decode c_MO_tick 10 = .ok (.invokevirtual 171, 3) := by decide +kernel
theorem d_MO_tick_13 : decode c_MO_tick 13 = .ok (.istore_n 1, 1) := by decide +kernel
theorem d_MO_tick_14 : decode c_MO_tick 14 = .ok (.aload_n 0, 1) := by decide +kernel
theorem d_MO_tick_15 : decode c_MO_tick 15 = .ok (.invokevirtual 174, 3) := by decide +kernel
theorem d_MO_tick_18 : decode c_MO_tick 18 = .ok (.pop, 1) := by decide +kernel
theorem d_MO_tick_19 : decode c_MO_tick 19 = .ok (.aload_n 0, 1) := by decide +kernel
theorem d_MO_tick_20 : decode c_MO_tick 20 = .ok (.iload_n 1, 1) := by decide +kernel
theorem d_MO_tick_21 : decode c_MO_tick 21 = .ok (.invokevirtual 177, 3) := by decide +kernel
theorem d_MO_tick_24 : decode c_MO_tick 24 = .ok (.aload_n 0, 1) := by decide +kernel
theorem d_MO_tick_25 : decode c_MO_tick 25 = .ok (.invokevirtual 180, 3) := by decide +kernel
theorem d_MO_tick_28 : decode c_MO_tick 28 = .ok (.iload_n 1, 1) := by decide +kernel
theorem d_MO_tick_29 : decode c_MO_tick 29 = .ok (.ireturn, 1) := by decide +kernel
theorem d_MO_ticks_0 : decode c_MO_ticks 0 = .ok (.aload_n 0, 1) := by decide +kernel
theorem d_MO_ticks_1 : decode c_MO_ticks 1 = .ok (.iload_n 1, 1) := by decide +kernel
theorem d_MO_ticks_2 : decode c_MO_ticks 2 = .ok (.iconst 1, 1) := by decide +kernel
theorem d_MO_ticks_3 : decode c_MO_ticks 3 = .ok (.if_icmp .lt 9, 3) := by decide +kernel
theorem d_MO_ticks_6 : decode c_MO_ticks 6 = .ok (.iload_n 1, 1) := by decide +kernel
theorem d_MO_ticks_7 : decode c_MO_ticks 7 = .ok (.bipush 100, 2) := by decide +kernel
theorem d_MO_ticks_9 : decode c_MO_ticks 9 = .ok (.if_icmp .le 7, 3) := by decide +kernel
theorem d_MO_ticks_12 : decode c_MO_ticks 12 = .ok (.iconst 1, 1) := by decide +kernel
theorem d_MO_ticks_13 : decode c_MO_ticks 13 = .ok (.goto 4, 3) := by decide +kernel
theorem d_MO_ticks_16 : decode c_MO_ticks 16 = .ok (.iconst 0, 1) := by decide +kernel
theorem d_MO_ticks_17 : decode c_MO_ticks 17 = .ok (.invokevirtual 102, 3) := by decide +kernel
theorem d_MO_ticks_20 : decode c_MO_ticks 20 = .ok (.ifCond .eq 5, 3) := by decide +kernel
theorem d_MO_ticks_23 : decode c_MO_ticks 23 = .ok (.iconst 0, 1) := by decide +kernel
theorem d_MO_ticks_24 : decode c_MO_ticks 24 = .ok (.ireturn, 1) := by decide +kernel
theorem d_MO_ticks_25 : decode c_MO_ticks 25 = .ok (.iconst 0, 1) := by decide +kernel
theorem d_MO_ticks_26 : decode c_MO_ticks 26 = .ok (.istore_n 2, 1) := by decide +kernel
theorem d_MO_ticks_27 : decode c_MO_ticks 27 = .ok (.iconst 0, 1) := by decide +kernel
theorem d_MO_ticks_28 : decode c_MO_ticks 28 = .ok (.istore_n 3, 1) := by decide +kernel
theorem d_MO_ticks_29 : decode c_MO_ticks 29 = .ok (.iload_n 3, 1) := by decide +kernel
theorem d_MO_ticks_30 : decode c_MO_ticks 30 = .ok (.iload_n 1, 1) := by decide +kernel
theorem d_MO_ticks_31 : decode c_MO_ticks 31 = .ok (.if_icmp .ge 36, 3) := by decide +kernel
theorem d_MO_ticks_34 : decode c_MO_ticks 34 = .ok (.aload_n 0, 1) := by decide +kernel
theorem d_MO_ticks_35 : decode c_MO_ticks 35 = .ok (.invokevirtual 168, 3) := by decide +kernel
theorem d_MO_ticks_38 : decode c_MO_ticks 38 = .ok (.aload_n 0, 1) := by decide +kernel
theorem d_MO_ticks_39 : decode c_MO_ticks 39 = .ok (.invokevirtual 171, 3) := by decide +kernel
theorem d_MO_ticks_42 : decode c_MO_ticks 42 = .ok (.istore 4, 2) := by decide +kernel
theorem d_MO_ticks_44 : decode c_MO_ticks 44 = .ok (.iload_n 2, 1) := by decide +kernel
theorem d_MO_ticks_45 : decode c_MO_ticks 45 = .ok (.aload_n 0, 1) := by decide +kernel
theorem d_MO_ticks_46 : decode c_MO_ticks 46 = .ok (.invokevirtual 174, 3) := by decide +kernel
theorem d_MO_ticks_49 : decode c_MO_ticks 49 = .ok (.iadd, 1) := by decide +kernel
theorem d_MO_ticks_50 : decode c_MO_ticks 50 = .ok (.istore_n 2, 1) := by decide +kernel
theorem d_MO_ticks_51 : decode c_MO_ticks 51 = .ok (.aload_n 0, 1) := by decide +kernel
theorem d_MO_ticks_52 : decode c_MO_ticks 52 = .ok (.iload 4, 2) := by decide +kernel
theorem d_MO_ticks_54 : decode c_MO_ticks 54 = .ok (.invokevirtual 177, 3) := by decide +kernel
theorem d_MO_ticks_57 : decode c_MO_ticks 57 = .ok (.aload_n 0, 1) := by decide +kernel
theorem d_MO_ticks_58 : decode c_MO_ticks 58 = .ok (.invokevirtual 180, 3) := by decide +kernel
theorem d_MO_ticks_61 : decode c_MO_ticks 61 = .ok (.iinc 3 1, 3) := by decide +kernel
theorem d_MO_ticks_64 : decode c_MO_ticks 64 = .ok (.goto (-35), 3) := by decide +kernel
theorem d_MO_ticks_67 : decode c_MO_ticks 67 = .ok (.iload_n 2, 1) := by decide +kernel
theorem d_MO_ticks_68 : decode c_MO_ticks 68 = .ok (.ireturn, 1) := by decide +kernel
theorem d_MO_tuned_0 : decode c_MO_tuned 0 = .ok (.iconst 0, 1) := by decide +kernel
theorem d_MO_tuned_1 : decode c_MO_tuned 1 = .ok (.istore_n 1, 1) := by decide +kernel
theorem d_MO_tuned_2 : decode c_MO_tuned 2 = .ok (.iconst 0, 1) := by decide +kernel
theorem d_MO_tuned_3 : decode c_MO_tuned 3 = .ok (.istore_n 2, 1) := by decide +kernel
theorem d_MO_tuned_4 : decode c_MO_tuned 4 = .ok (.iload_n 2, 1) := by decide +kernel
theorem d_MO_tuned_5 : decode c_MO_tuned 5 = .ok (.aload_n 0, 1) := by decide +kernel
theorem d_MO_tuned_6 : decode c_MO_tuned 6 = .ok (.getfield 90, 3) := by decide +kernel
theorem d_MO_tuned_9 : decode c_MO_tuned 9 = .ok (.if_icmp .ge 34, 3) := by decide +kernel
theorem d_MO_tuned_43 : decode c_MO_tuned 43 = .ok (.iconst 0, 1) := by decide +kernel
theorem d_MO_tuned_44 : decode c_MO_tuned 44 = .ok (.istore_n 2, 1) := by decide +kernel
theorem d_MO_tuned_45 : decode c_MO_tuned 45 = .ok (.iconst 0, 1) := by decide +kernel
theorem d_MO_tuned_46 : decode c_MO_tuned 46 = .ok (.istore_n 3, 1) := by decide +kernel
theorem d_MO_tuned_47 : decode c_MO_tuned 47 = .ok (.iload_n 3, 1) := by decide +kernel
theorem d_MO_tuned_48 : decode c_MO_tuned 48 = .ok (.bipush 8, 2) := by decide +kernel
theorem d_MO_tuned_50 : decode c_MO_tuned 50 = .ok (.if_icmp .ge 17, 3) := by decide +kernel
theorem d_MO_tuned_53 : decode c_MO_tuned 53 = .ok (.iload_n 2, 1) := by decide +kernel
theorem d_MO_tuned_54 : decode c_MO_tuned 54 = .ok (.iload_n 1, 1) := by decide +kernel
theorem d_MO_tuned_55 : decode c_MO_tuned 55 = .ok (.iload_n 3, 1) := by decide +kernel
theorem d_MO_tuned_56 : decode c_MO_tuned 56 = .ok (.ishr, 1) := by decide +kernel
theorem d_MO_tuned_57 : decode c_MO_tuned 57 = .ok (.iconst 1, 1) := by decide +kernel
theorem d_MO_tuned_58 : decode c_MO_tuned 58 = .ok (.iand, 1) := by decide +kernel
theorem d_MO_tuned_59 : decode c_MO_tuned 59 = .ok (.iadd, 1) := by decide +kernel
theorem d_MO_tuned_60 : decode c_MO_tuned 60 = .ok (.istore_n 2, 1) := by decide +kernel
theorem d_MO_tuned_61 : decode c_MO_tuned 61 = .ok (.iinc 3 1, 3) := by decide +kernel
theorem d_MO_tuned_64 : decode c_MO_tuned 64 = .ok (.goto (-17), 3) := by decide +kernel
theorem d_MO_tuned_67 : decode c_MO_tuned 67 = .ok (.aload_n 0, 1) := by decide +kernel
theorem d_MO_tuned_68 : decode c_MO_tuned 68 = .ok (.getfield 9, 3) := by decide +kernel
theorem d_MO_tuned_71 : decode c_MO_tuned 71 = .ok (.ifCond .lt 19, 3) := by decide +kernel
theorem d_MO_tuned_90 : decode c_MO_tuned 90 = .ok (.iload_n 1, 1) := by decide +kernel
theorem d_MO_tuned_91 : decode c_MO_tuned 91 = .ok (.ireturn, 1) := by decide +kernel
theorem d_MO_watch_0 : decode c_MO_watch 0 = .ok (.aload_n 0, 1) := by decide +kernel
theorem d_MO_watch_1 : decode c_MO_watch 1 = .ok (.iload_n 1, 1) := by decide +kernel
theorem d_MO_watch_2 : decode c_MO_watch 2 = .ok (.iconst (-1), 1) := by decide +kernel
theorem d_MO_watch_3 : decode c_MO_watch 3 = .ok (.if_icmp .lt 9, 3) := by decide +kernel
theorem d_MO_watch_6 : decode c_MO_watch 6 = .ok (.iload_n 1, 1) := by decide +kernel
theorem d_MO_watch_7 : decode c_MO_watch 7 = .ok (.bipush 7, 2) := by decide +kernel
theorem d_MO_watch_9 : decode c_MO_watch 9 = .ok (.if_icmp .le 7, 3) := by decide +kernel
theorem d_MO_watch_12 : decode c_MO_watch 12 = .ok (.iconst 1, 1) := by decide +kernel
theorem d_MO_watch_13 : decode c_MO_watch 13 = .ok (.goto 4, 3) := by decide +kernel
theorem d_MO_watch_16 : decode c_MO_watch 16 = .ok (.iconst 0, 1) := by decide +kernel
theorem d_MO_watch_17 : decode c_MO_watch 17 = .ok (.invokevirtual 102, 3) := by decide +kernel
theorem d_MO_watch_20 : decode c_MO_watch 20 = .ok (.ifCond .eq 5, 3) := by decide +kernel
theorem d_MO_watch_23 : decode c_MO_watch 23 = .ok (.iconst 0, 1) := by decide +kernel
theorem d_MO_watch_24 : decode c_MO_watch 24 = .ok (.ireturn, 1) := by decide +kernel
theorem d_MO_watch_25 : decode c_MO_watch 25 = .ok (.aload_n 0, 1) := by decide +kernel
theorem d_MO_watch_26 : decode c_MO_watch 26 = .ok (.getfield 9, 3) := by decide +kernel
theorem d_MO_watch_29 : decode c_MO_watch 29 = .ok (.istore_n 2, 1) := by decide +kernel
theorem d_MO_watch_30 : decode c_MO_watch 30 = .ok (.aload_n 0, 1) := by decide +kernel
theorem d_MO_watch_31 : decode c_MO_watch 31 = .ok (.iload_n 1, 1) := by decide +kernel
theorem d_MO_watch_32 : decode c_MO_watch 32 = .ok (.putfield 9, 3) := by decide +kernel
theorem d_MO_watch_35 : decode c_MO_watch 35 = .ok (.aload_n 0, 1) := by decide +kernel
theorem d_MO_watch_36 : decode c_MO_watch 36 = .ok (.iconst 0, 1) := by decide +kernel
theorem d_MO_watch_37 : decode c_MO_watch 37 = .ok (.putfield 162, 3) := by decide +kernel
theorem d_MO_watch_40 : decode c_MO_watch 40 = .ok (.iload_n 2, 1) := by decide +kernel
theorem d_MO_watch_41 : decode c_MO_watch 41 = .ok (.ireturn, 1) := by decide +kernel
theorem d_MO_word_0 : decode c_MO_word 0 = .ok (.aload_n 0, 1) := by decide +kernel
theorem d_MO_word_1 : decode c_MO_word 1 = .ok (.aload_n 0, 1) := by decide +kernel
theorem d_MO_word_2 : decode c_MO_word 2 = .ok (.iload_n 1, 1) := by decide +kernel
theorem d_MO_word_3 : decode c_MO_word 3 = .ok (.invokevirtual 106, 3) := by decide +kernel
theorem d_MO_word_6 : decode c_MO_word 6 = .ok (.ifCond .eq 7, 3) := by decide +kernel
theorem d_MO_word_13 : decode c_MO_word 13 = .ok (.iconst 1, 1) := by decide +kernel
theorem d_MO_word_14 : decode c_MO_word 14 = .ok (.invokevirtual 102, 3) := by decide +kernel
theorem d_MO_word_17 : decode c_MO_word 17 = .ok (.ifCond .eq 5, 3) := by decide +kernel
theorem d_MO_word_20 : decode c_MO_word 20 = .ok (.lconst 0, 1) := by decide +kernel
theorem d_MO_word_21 : decode c_MO_word 21 = .ok (.lreturn, 1) := by decide +kernel
theorem cm_T {st : Int32} : (st.toInt64 ≤ (0 : Int32).toInt64 + 1000) ↔ st ≤ 1000 := by
  have e1 : ((0 : Int32).toInt64 + 1000) = (1000 : Int32).toInt64 := by decide
  rw [e1, Int64.le_iff_toInt_le, Int32.le_iff_toInt_le, Int32.toInt_toInt64, Int32.toInt_toInt64]
theorem cm_le {st : Int32} (h : st ≤ 1000) : lg_cmp st.toInt64 ((0 : Int32).toInt64 + 1000) ≤ 0 := (lg_cmp_le _ _).mpr (cm_T.mpr h)
theorem cm_gt {st : Int32} (h : ¬ st ≤ 1000) : 0 < lg_cmp st.toInt64 ((0 : Int32).toInt64 + 1000) := (lg_cmp_gt _ _).mpr (Int64.not_le.mp fun q => h (cm_T.mp q))
theorem cm_ng {st : Int32} (h : st ≤ 1000) : ¬ 0 < lg_cmp st.toInt64 ((0 : Int32).toInt64 + 1000) := Int32.not_lt.mpr (cm_le h)
set_option maxHeartbeats 4000000 in
set_option maxRecDepth 100000 in
theorem c_MO_thrown_v (l : Launch) (dC : Nat → ClassId) (dI : Nat → Nat → Nat) (g0 m3 m5 m6 m7 m8 m9 m10 m11 m12 m13 m14 m15 m16 m17 m18 m19 m20 m22 m23 m24 m25 m26 m27 m29 : Nat) (fa nw wt rn : Int32) : Met l y_MO_thrown w_MO_thrown ({ frames := 0, cells := 0, slots := 0, locals := 0 }) (rdP (dC, dI) [(g0, .inr (5, [.int fa, .int nw, .int wt, .ref m3, .int rn, .ref m5, .ref m6, .ref m7, .ref m8, .ref m9, .ref m10, .ref m11, .ref m12, .ref m13, .ref m14, .ref m15, .ref m16, .ref m17, .ref m18, .ref m19, .ref m20, .int 0, .ref m22, .ref m23, .ref m24, .ref m25, .ref m26, .ref m27, .int 0, .ref m29]))] [] [.ref g0]) (rd_Q (some (.int fa))) 0 0 (fun _ => False) := by
  refine Met.ofW (cc := c_MO_thrown) (maxL := 1) (ret := (some .int)) (by decide) rfl ?_
  intro p e s m args below meth c s₁ B hml hv
  obtain ⟨rfl, hP, hK⟩ := hv
  have hx := B.exec
  have hb := B.bytes
  have hr := B.returns
  have ht : ∀ w ∈ tb_, w.before _ s = true := fun w h => atoms_spec (ws := w_MO_thrown) B.pre w (List.mem_cons_of_mem _ h)
  have hown : s.vm.findClass R_MO = some m.cls := findClass_of_methodNamed B.named
  have hlocks := B.notSynchronized
  have hP : va_P (dC, dI) cls_ [(g0, .inr (5, [.int fa, .int nw, .int wt, .ref m3, .int rn, .ref m5, .ref m6, .ref m7, .ref m8, .ref m9, .ref m10, .ref m11, .ref m12, .ref m13, .ref m14, .ref m15, .ref m16, .ref m17, .ref m18, .ref m19, .ref m20, .int 0, .ref m22, .ref m23, .ref m24, .ref m25, .ref m26, .ref m27, .int 0, .ref m29]))] s.heap := hP
  have hl := lv_entry ([.ref g0]) (n := 1) (Nat.le_of_ble_eq_true rfl)
  rw [lg_entry_eq]
  generalize (lg_sl ([.ref g0]) ++ List.replicate (1 - (lg_sl ([.ref g0])).length) Slot.unset).toArray = ls at hl ⊢
  have hl : lv_has ls 1 [(0, .ref g0)] := hl
  refine lv_aload_n hx hb d_MO_thrown_0 rfl (lv_at hl 0 rfl) ?_
  refine va_get (D := (dC, dI)) (ci := 5) (v := .int fa) (C := R_MO) (T := F_MO) (N := 30) hx hb ht in_MO hown hK hP 0 rfl rfl 0 (by decide) (ht _ tb_631) (fun _ h9 => h9) rfl d_MO_thrown_1 ?_
  exact W.iret (v := fa) hx hb hr (fun t ht9 hW => ⟨rfl, ht9⟩) (fun q h => by cases h) d_MO_thrown_4
set_option maxHeartbeats 4000000 in
set_option maxRecDepth 100000 in
theorem c_MO_refused_no (l : Launch) (dC : Nat → ClassId) (dI : Nat → Nat → Nat) (sz Bd : Nat) (g0 m3 m5 m6 m7 m8 m9 m10 m11 m12 m13 m14 m15 m16 m17 m18 m19 m20 m22 m23 m24 m25 m26 m27 m29 : Nat) (fa nw : Int32) : Met l y_MO_refused w_MO_refused ({ frames := 0, cells := 0, slots := 0, locals := 0 }) (frP (dC, dI) [(g0, .inr (5, [.int fa, .int nw, .int (-1), .ref m3, .int 0, .ref m5, .ref m6, .ref m7, .ref m8, .ref m9, .ref m10, .ref m11, .ref m12, .ref m13, .ref m14, .ref m15, .ref m16, .ref m17, .ref m18, .ref m19, .ref m20, .int 0, .ref m22, .ref m23, .ref m24, .ref m25, .ref m26, .ref m27, .int 0, .ref m29]))] [] sz Bd [.ref g0, .int 0]) (frQ (some (.int 0)) (fun t => va_P (dC, dI) cls_ [(g0, .inr (5, [.int 0, .int nw, .int (-1), .ref m3, .int 0, .ref m5, .ref m6, .ref m7, .ref m8, .ref m9, .ref m10, .ref m11, .ref m12, .ref m13, .ref m14, .ref m15, .ref m16, .ref m17, .ref m18, .ref m19, .ref m20, .int 0, .ref m22, .ref m23, .ref m24, .ref m25, .ref m26, .ref m27, .int 0, .ref m29]))] t.heap ∧ va_K (dC, dI) cls_ [] t ∧ va_D (va_A [(g0, .inr (5, [.int fa, .int nw, .int (-1), .ref m3, .int 0, .ref m5, .ref m6, .ref m7, .ref m8, .ref m9, .ref m10, .ref m11, .ref m12, .ref m13, .ref m14, .ref m15, .ref m16, .ref m17, .ref m18, .ref m19, .ref m20, .int 0, .ref m22, .ref m23, .ref m24, .ref m25, .ref m26, .ref m27, .int 0, .ref m29]))] sz) [(g0, .inr (5, [.int 0, .int nw, .int (-1), .ref m3, .int 0, .ref m5, .ref m6, .ref m7, .ref m8, .ref m9, .ref m10, .ref m11, .ref m12, .ref m13, .ref m14, .ref m15, .ref m16, .ref m17, .ref m18, .ref m19, .ref m20, .int 0, .ref m22, .ref m23, .ref m24, .ref m25, .ref m26, .ref m27, .int 0, .ref m29]))]) (va_A [(g0, .inr (5, [.int fa, .int nw, .int (-1), .ref m3, .int 0, .ref m5, .ref m6, .ref m7, .ref m8, .ref m9, .ref m10, .ref m11, .ref m12, .ref m13, .ref m14, .ref m15, .ref m16, .ref m17, .ref m18, .ref m19, .ref m20, .int 0, .ref m22, .ref m23, .ref m24, .ref m25, .ref m26, .ref m27, .int 0, .ref m29]))] sz)) 0 0 (va_A [(g0, .inr (5, [.int fa, .int nw, .int (-1), .ref m3, .int 0, .ref m5, .ref m6, .ref m7, .ref m8, .ref m9, .ref m10, .ref m11, .ref m12, .ref m13, .ref m14, .ref m15, .ref m16, .ref m17, .ref m18, .ref m19, .ref m20, .int 0, .ref m22, .ref m23, .ref m24, .ref m25, .ref m26, .ref m27, .int 0, .ref m29]))] sz) := by
  refine Met.ofW (cc := c_MO_refused) (maxL := 2) (ret := (some .boolean)) (by decide) rfl ?_
  intro p e s m args below meth c s₁ B hml hv
  obtain ⟨rfl, ⟨hsz, hBs⟩, hP, hK, hD0, hV⟩ := hv
  have hx := B.exec
  have hb := B.bytes
  have hr := B.returns
  have ht : ∀ w ∈ tb_, w.before _ s = true := fun w h => atoms_spec (ws := w_MO_refused) B.pre w (List.mem_cons_of_mem _ h)
  have hown : s.vm.findClass R_MO = some m.cls := findClass_of_methodNamed B.named
  have hlocks := B.notSynchronized
  subst hsz
  have hD := hD0.self (sz := s.heap.size)
  have hAB : ∀ q, va_A [(g0, .inr (5, [.int fa, .int nw, .int (-1), .ref m3, .int 0, .ref m5, .ref m6, .ref m7, .ref m8, .ref m9, .ref m10, .ref m11, .ref m12, .ref m13, .ref m14, .ref m15, .ref m16, .ref m17, .ref m18, .ref m19, .ref m20, .int 0, .ref m22, .ref m23, .ref m24, .ref m25, .ref m26, .ref m27, .int 0, .ref m29]))] s.heap.size q → Bd ≤ q := fr_AB hD0 hBs
  generalize hAe : va_A [(g0, .inr (5, [.int fa, .int nw, .int (-1), .ref m3, .int 0, .ref m5, .ref m6, .ref m7, .ref m8, .ref m9, .ref m10, .ref m11, .ref m12, .ref m13, .ref m14, .ref m15, .ref m16, .ref m17, .ref m18, .ref m19, .ref m20, .int 0, .ref m22, .ref m23, .ref m24, .ref m25, .ref m26, .ref m27, .int 0, .ref m29]))] s.heap.size = A at hD hAB ⊢
  have hA : ∀ q : Nat, s.heap.size ≤ q → A q := fun q h => by rw [← hAe]; exact Or.inr h
  have hS : va_S A s.heap s.heap [] := va_S.rf
  have hAO := hV.2.2.2.1
  have hN_PL := hV.2.2.1.1
  have hN_RW := hV.2.2.1.2
  have hP : va_P (dC, dI) cls_ [(g0, .inr (5, [.int fa, .int nw, .int (-1), .ref m3, .int 0, .ref m5, .ref m6, .ref m7, .ref m8, .ref m9, .ref m10, .ref m11, .ref m12, .ref m13, .ref m14, .ref m15, .ref m16, .ref m17, .ref m18, .ref m19, .ref m20, .int 0, .ref m22, .ref m23, .ref m24, .ref m25, .ref m26, .ref m27, .int 0, .ref m29]))] s.heap := hP
  have hl := lv_entry ([.ref g0, .int 0]) (n := 2) (Nat.le_of_ble_eq_true rfl)
  rw [lg_entry_eq]
  generalize (lg_sl ([.ref g0, .int 0]) ++ List.replicate (2 - (lg_sl ([.ref g0, .int 0])).length) Slot.unset).toArray = ls at hl ⊢
  have hl : lv_has ls 2 [(0, .ref g0), (1, .int 0)] := hl
  refine lv_aload_n hx hb d_MO_refused_0 rfl (lv_at hl 0 rfl) ?_
  refine lv_iload_n hx hb d_MO_refused_1 rfl (lv_at hl 1 rfl) ?_
  refine va_put (D := (dC, dI)) (ci := 5) (v := .int 0) (ty := .int) (C := R_MO) (T := F_MO) (N := 30) hx hb ht in_MO t_MO t_MO_ok n_MO hown hK hP hD hS 0 rfl rfl 0 (by decide) (ht _ tb_631) (fun _ h9 => h9) rfl (by decide +kernel) rfl rfl (Nat.le_of_ble_eq_true rfl) d_MO_refused_2 (fun H locs hP hD hS => ?_)
  have hP : va_P (dC, dI) cls_ [(g0, .inr (5, [.int 0, .int nw, .int (-1), .ref m3, .int 0, .ref m5, .ref m6, .ref m7, .ref m8, .ref m9, .ref m10, .ref m11, .ref m12, .ref m13, .ref m14, .ref m15, .ref m16, .ref m17, .ref m18, .ref m19, .ref m20, .int 0, .ref m22, .ref m23, .ref m24, .ref m25, .ref m26, .ref m27, .int 0, .ref m29]))] H := hP
  have hD : va_D A [(g0, .inr (5, [.int 0, .int nw, .int (-1), .ref m3, .int 0, .ref m5, .ref m6, .ref m7, .ref m8, .ref m9, .ref m10, .ref m11, .ref m12, .ref m13, .ref m14, .ref m15, .ref m16, .ref m17, .ref m18, .ref m19, .ref m20, .int 0, .ref m22, .ref m23, .ref m24, .ref m25, .ref m26, .ref m27, .int 0, .ref m29]))] := hD
  refine lv_iload_n hx hb d_MO_refused_5 rfl (lv_at hl 1 rfl) ?_
  refine lv_if_le (tgt := 13) hx hb d_MO_refused_6 (by decide) (fun _ => ?_) (fun h9 => absurd (by decide) h9)
  refine lv_iconst (v := 0) hx hb d_MO_refused_13 (by decide) ?_
  have hP9 := hP.sub (ws' := [(g0, .inr (5, [.int 0, .int nw, .int (-1), .ref m3, .int 0, .ref m5, .ref m6, .ref m7, .ref m8, .ref m9, .ref m10, .ref m11, .ref m12, .ref m13, .ref m14, .ref m15, .ref m16, .ref m17, .ref m18, .ref m19, .ref m20, .int 0, .ref m22, .ref m23, .ref m24, .ref m25, .ref m26, .ref m27, .int 0, .ref m29]))]) [0] rfl
  have hD9 := hD.sub (ws' := [(g0, .inr (5, [.int 0, .int nw, .int (-1), .ref m3, .int 0, .ref m5, .ref m6, .ref m7, .ref m8, .ref m9, .ref m10, .ref m11, .ref m12, .ref m13, .ref m14, .ref m15, .ref m16, .ref m17, .ref m18, .ref m19, .ref m20, .int 0, .ref m22, .ref m23, .ref m24, .ref m25, .ref m26, .ref m27, .int 0, .ref m29]))]) [0] (by decide) rfl
  have hK9 := hK.sub (tys' := []) [] rfl
  exact W.zret (v := 0) hx hb hr rfl (fun t ht9 hW => ⟨rfl, ⟨by rw [ht9]; exact hP9, va_K.moved hW.alike hK9, hD9⟩, hS.F ht9⟩) hS.2.2 d_MO_refused_14
set_option maxHeartbeats 4000000 in
set_option maxRecDepth 100000 in
theorem c_MO_refused_yes (l : Launch) (dC : Nat → ClassId) (dI : Nat → Nat → Nat) (sz Bd : Nat) (g0 m3 m5 m6 m7 m8 m9 m10 m11 m12 m13 m14 m15 m16 m17 m18 m19 m20 m22 m23 m24 m25 m26 m27 m29 : Nat) (fa nw : Int32) : Met l y_MO_refused w_MO_refused ({ frames := 0, cells := 0, slots := 0, locals := 0 }) (frP (dC, dI) [(g0, .inr (5, [.int fa, .int nw, .int (-1), .ref m3, .int 0, .ref m5, .ref m6, .ref m7, .ref m8, .ref m9, .ref m10, .ref m11, .ref m12, .ref m13, .ref m14, .ref m15, .ref m16, .ref m17, .ref m18, .ref m19, .ref m20, .int 0, .ref m22, .ref m23, .ref m24, .ref m25, .ref m26, .ref m27, .int 0, .ref m29]))] [] sz Bd [.ref g0, .int 1]) (frQ (some (.int 1)) (fun t => va_P (dC, dI) cls_ [(g0, .inr (5, [.int 1, .int nw, .int (-1), .ref m3, .int 0, .ref m5, .ref m6, .ref m7, .ref m8, .ref m9, .ref m10, .ref m11, .ref m12, .ref m13, .ref m14, .ref m15, .ref m16, .ref m17, .ref m18, .ref m19, .ref m20, .int 0, .ref m22, .ref m23, .ref m24, .ref m25, .ref m26, .ref m27, .int 0, .ref m29]))] t.heap ∧ va_K (dC, dI) cls_ [] t ∧ va_D (va_A [(g0, .inr (5, [.int fa, .int nw, .int (-1), .ref m3, .int 0, .ref m5, .ref m6, .ref m7, .ref m8, .ref m9, .ref m10, .ref m11, .ref m12, .ref m13, .ref m14, .ref m15, .ref m16, .ref m17, .ref m18, .ref m19, .ref m20, .int 0, .ref m22, .ref m23, .ref m24, .ref m25, .ref m26, .ref m27, .int 0, .ref m29]))] sz) [(g0, .inr (5, [.int 1, .int nw, .int (-1), .ref m3, .int 0, .ref m5, .ref m6, .ref m7, .ref m8, .ref m9, .ref m10, .ref m11, .ref m12, .ref m13, .ref m14, .ref m15, .ref m16, .ref m17, .ref m18, .ref m19, .ref m20, .int 0, .ref m22, .ref m23, .ref m24, .ref m25, .ref m26, .ref m27, .int 0, .ref m29]))]) (va_A [(g0, .inr (5, [.int fa, .int nw, .int (-1), .ref m3, .int 0, .ref m5, .ref m6, .ref m7, .ref m8, .ref m9, .ref m10, .ref m11, .ref m12, .ref m13, .ref m14, .ref m15, .ref m16, .ref m17, .ref m18, .ref m19, .ref m20, .int 0, .ref m22, .ref m23, .ref m24, .ref m25, .ref m26, .ref m27, .int 0, .ref m29]))] sz)) 0 0 (va_A [(g0, .inr (5, [.int fa, .int nw, .int (-1), .ref m3, .int 0, .ref m5, .ref m6, .ref m7, .ref m8, .ref m9, .ref m10, .ref m11, .ref m12, .ref m13, .ref m14, .ref m15, .ref m16, .ref m17, .ref m18, .ref m19, .ref m20, .int 0, .ref m22, .ref m23, .ref m24, .ref m25, .ref m26, .ref m27, .int 0, .ref m29]))] sz) := by
  refine Met.ofW (cc := c_MO_refused) (maxL := 2) (ret := (some .boolean)) (by decide) rfl ?_
  intro p e s m args below meth c s₁ B hml hv
  obtain ⟨rfl, ⟨hsz, hBs⟩, hP, hK, hD0, hV⟩ := hv
  have hx := B.exec
  have hb := B.bytes
  have hr := B.returns
  have ht : ∀ w ∈ tb_, w.before _ s = true := fun w h => atoms_spec (ws := w_MO_refused) B.pre w (List.mem_cons_of_mem _ h)
  have hown : s.vm.findClass R_MO = some m.cls := findClass_of_methodNamed B.named
  have hlocks := B.notSynchronized
  subst hsz
  have hD := hD0.self (sz := s.heap.size)
  have hAB : ∀ q, va_A [(g0, .inr (5, [.int fa, .int nw, .int (-1), .ref m3, .int 0, .ref m5, .ref m6, .ref m7, .ref m8, .ref m9, .ref m10, .ref m11, .ref m12, .ref m13, .ref m14, .ref m15, .ref m16, .ref m17, .ref m18, .ref m19, .ref m20, .int 0, .ref m22, .ref m23, .ref m24, .ref m25, .ref m26, .ref m27, .int 0, .ref m29]))] s.heap.size q → Bd ≤ q := fr_AB hD0 hBs
  generalize hAe : va_A [(g0, .inr (5, [.int fa, .int nw, .int (-1), .ref m3, .int 0, .ref m5, .ref m6, .ref m7, .ref m8, .ref m9, .ref m10, .ref m11, .ref m12, .ref m13, .ref m14, .ref m15, .ref m16, .ref m17, .ref m18, .ref m19, .ref m20, .int 0, .ref m22, .ref m23, .ref m24, .ref m25, .ref m26, .ref m27, .int 0, .ref m29]))] s.heap.size = A at hD hAB ⊢
  have hA : ∀ q : Nat, s.heap.size ≤ q → A q := fun q h => by rw [← hAe]; exact Or.inr h
  have hS : va_S A s.heap s.heap [] := va_S.rf
  have hAO := hV.2.2.2.1
  have hN_PL := hV.2.2.1.1
  have hN_RW := hV.2.2.1.2
  have hP : va_P (dC, dI) cls_ [(g0, .inr (5, [.int fa, .int nw, .int (-1), .ref m3, .int 0, .ref m5, .ref m6, .ref m7, .ref m8, .ref m9, .ref m10, .ref m11, .ref m12, .ref m13, .ref m14, .ref m15, .ref m16, .ref m17, .ref m18, .ref m19, .ref m20, .int 0, .ref m22, .ref m23, .ref m24, .ref m25, .ref m26, .ref m27, .int 0, .ref m29]))] s.heap := hP
  have hl := lv_entry ([.ref g0, .int 1]) (n := 2) (Nat.le_of_ble_eq_true rfl)
  rw [lg_entry_eq]
  generalize (lg_sl ([.ref g0, .int 1]) ++ List.replicate (2 - (lg_sl ([.ref g0, .int 1])).length) Slot.unset).toArray = ls at hl ⊢
  have hl : lv_has ls 2 [(0, .ref g0), (1, .int 1)] := hl
  refine lv_aload_n hx hb d_MO_refused_0 rfl (lv_at hl 0 rfl) ?_
  refine lv_iload_n hx hb d_MO_refused_1 rfl (lv_at hl 1 rfl) ?_
  refine va_put (D := (dC, dI)) (ci := 5) (v := .int 1) (ty := .int) (C := R_MO) (T := F_MO) (N := 30) hx hb ht in_MO t_MO t_MO_ok n_MO hown hK hP hD hS 0 rfl rfl 0 (by decide) (ht _ tb_631) (fun _ h9 => h9) rfl (by decide +kernel) rfl rfl (Nat.le_of_ble_eq_true rfl) d_MO_refused_2 (fun H locs hP hD hS => ?_)
  have hP : va_P (dC, dI) cls_ [(g0, .inr (5, [.int 1, .int nw, .int (-1), .ref m3, .int 0, .ref m5, .ref m6, .ref m7, .ref m8, .ref m9, .ref m10, .ref m11, .ref m12, .ref m13, .ref m14, .ref m15, .ref m16, .ref m17, .ref m18, .ref m19, .ref m20, .int 0, .ref m22, .ref m23, .ref m24, .ref m25, .ref m26, .ref m27, .int 0, .ref m29]))] H := hP
  have hD : va_D A [(g0, .inr (5, [.int 1, .int nw, .int (-1), .ref m3, .int 0, .ref m5, .ref m6, .ref m7, .ref m8, .ref m9, .ref m10, .ref m11, .ref m12, .ref m13, .ref m14, .ref m15, .ref m16, .ref m17, .ref m18, .ref m19, .ref m20, .int 0, .ref m22, .ref m23, .ref m24, .ref m25, .ref m26, .ref m27, .int 0, .ref m29]))] := hD
  refine lv_iload_n hx hb d_MO_refused_5 rfl (lv_at hl 1 rfl) ?_
  refine lv_if_le (tgt := 13) hx hb d_MO_refused_6 (by decide) (fun h9 => absurd h9 (by decide)) (fun _ => ?_)
  refine lv_iconst (v := 1) hx hb d_MO_refused_9 (by decide) ?_
  refine lv_goto (tgt := 14) hx hb d_MO_refused_10 (by decide) ?_
  have hP9 := hP.sub (ws' := [(g0, .inr (5, [.int 1, .int nw, .int (-1), .ref m3, .int 0, .ref m5, .ref m6, .ref m7, .ref m8, .ref m9, .ref m10, .ref m11, .ref m12, .ref m13, .ref m14, .ref m15, .ref m16, .ref m17, .ref m18, .ref m19, .ref m20, .int 0, .ref m22, .ref m23, .ref m24, .ref m25, .ref m26, .ref m27, .int 0, .ref m29]))]) [0] rfl
  have hD9 := hD.sub (ws' := [(g0, .inr (5, [.int 1, .int nw, .int (-1), .ref m3, .int 0, .ref m5, .ref m6, .ref m7, .ref m8, .ref m9, .ref m10, .ref m11, .ref m12, .ref m13, .ref m14, .ref m15, .ref m16, .ref m17, .ref m18, .ref m19, .ref m20, .int 0, .ref m22, .ref m23, .ref m24, .ref m25, .ref m26, .ref m27, .int 0, .ref m29]))]) [0] (by decide) rfl
  have hK9 := hK.sub (tys' := []) [] rfl
  exact W.zret (v := 1) hx hb hr rfl (fun t ht9 hW => ⟨rfl, ⟨by rw [ht9]; exact hP9, va_K.moved hW.alike hK9, hD9⟩, hS.F ht9⟩) hS.2.2 d_MO_refused_14
set_option maxHeartbeats 4000000 in
set_option maxRecDepth 100000 in
theorem c_MO_isRequest_0 (l : Launch) (dC : Nat → ClassId) (dI : Nat → Nat → Nat) (g0 m3 m5 m6 m7 m8 m9 m10 m11 m12 m13 m14 m15 m16 m17 m18 m19 m20 m22 m23 m24 m25 m26 m27 m29 : Nat) (x : Int32) : Met l y_MO_isRequest w_MO_isRequest ({ frames := 0, cells := 0, slots := 0, locals := 0 }) (rdP (dC, dI) [(g0, .inr (5, [.int 0, .int 0, .int (-1), .ref m3, .int 0, .ref m5, .ref m6, .ref m7, .ref m8, .ref m9, .ref m10, .ref m11, .ref m12, .ref m13, .ref m14, .ref m15, .ref m16, .ref m17, .ref m18, .ref m19, .ref m20, .int 0, .ref m22, .ref m23, .ref m24, .ref m25, .ref m26, .ref m27, .int 0, .ref m29]))] [] [.ref g0, .int x]) (rd_Q (some (.int 0))) 0 0 (fun _ => False) := by
  refine Met.ofW (cc := c_MO_isRequest) (maxL := 2) (ret := (some .boolean)) (by decide) rfl ?_
  intro p e s m args below meth c s₁ B hml hv
  obtain ⟨rfl, hP, hK⟩ := hv
  have hx := B.exec
  have hb := B.bytes
  have hr := B.returns
  have ht : ∀ w ∈ tb_, w.before _ s = true := fun w h => atoms_spec (ws := w_MO_isRequest) B.pre w (List.mem_cons_of_mem _ h)
  have hown : s.vm.findClass R_MO = some m.cls := findClass_of_methodNamed B.named
  have hlocks := B.notSynchronized
  have hP : va_P (dC, dI) cls_ [(g0, .inr (5, [.int 0, .int 0, .int (-1), .ref m3, .int 0, .ref m5, .ref m6, .ref m7, .ref m8, .ref m9, .ref m10, .ref m11, .ref m12, .ref m13, .ref m14, .ref m15, .ref m16, .ref m17, .ref m18, .ref m19, .ref m20, .int 0, .ref m22, .ref m23, .ref m24, .ref m25, .ref m26, .ref m27, .int 0, .ref m29]))] s.heap := hP
  have hl := lv_entry ([.ref g0, .int x]) (n := 2) (Nat.le_of_ble_eq_true rfl)
  rw [lg_entry_eq]
  generalize (lg_sl ([.ref g0, .int x]) ++ List.replicate (2 - (lg_sl ([.ref g0, .int x])).length) Slot.unset).toArray = ls at hl ⊢
  have hl : lv_has ls 2 [(0, .ref g0), (1, .int x)] := hl
  refine lv_iload_n hx hb d_MO_isRequest_0 rfl (lv_at hl 1 rfl) ?_
  refine lv_if_lt (tgt := 16) hx hb d_MO_isRequest_1 (by decide) (fun h1 => ?_) (fun h1 => ?_)
  · refine lv_iconst (v := 0) hx hb d_MO_isRequest_16 (by decide) ?_
    exact W.zret (v := 0) hx hb hr rfl (fun t ht9 hW => ⟨rfl, ht9⟩) (fun q h => by cases h) d_MO_isRequest_17
  · refine lv_iload_n hx hb d_MO_isRequest_4 rfl (lv_at hl 1 rfl) ?_
    refine lv_aload_n hx hb d_MO_isRequest_5 rfl (lv_at hl 0 rfl) ?_
    refine va_get (D := (dC, dI)) (ci := 5) (v := .int 0) (C := R_MO) (T := F_MO) (N := 30) hx hb ht in_MO hown hK hP 0 rfl rfl 4 (by decide) (ht _ tb_635) (fun _ h9 => h9) rfl d_MO_isRequest_6 ?_
    refine lv_icmp_ge (tgt := 16) hx hb d_MO_isRequest_9 (by decide) (fun _ => ?_) (fun h9 => absurd (Int32.not_lt.mp h1) h9)
    refine lv_iconst (v := 0) hx hb d_MO_isRequest_16 (by decide) ?_
    exact W.zret (v := 0) hx hb hr rfl (fun t ht9 hW => ⟨rfl, ht9⟩) (fun q h => by cases h) d_MO_isRequest_17
set_option maxHeartbeats 4000000 in
set_option maxRecDepth 100000 in
theorem c_MO_open_0 (l : Launch) (dC : Nat → ClassId) (dI : Nat → Nat → Nat) (g0 m3 m5 m6 m7 m8 m9 m10 m11 m12 m13 m14 m15 m16 m17 m18 m19 m20 m22 m23 m24 m25 m26 m27 m29 : Nat) : Met l y_MO_open w_MO_open ({ frames := 0, cells := 0, slots := 0, locals := 0 }) (rdP (dC, dI) [(g0, .inr (5, [.int 0, .int 0, .int (-1), .ref m3, .int 0, .ref m5, .ref m6, .ref m7, .ref m8, .ref m9, .ref m10, .ref m11, .ref m12, .ref m13, .ref m14, .ref m15, .ref m16, .ref m17, .ref m18, .ref m19, .ref m20, .int 0, .ref m22, .ref m23, .ref m24, .ref m25, .ref m26, .ref m27, .int 0, .ref m29]))] [] [.ref g0]) (rd_Q (some (.int 0))) 0 0 (fun _ => False) := by
  refine Met.ofW (cc := c_MO_open) (maxL := 3) (ret := (some .int)) (by decide) rfl ?_
  intro p e s m args below meth c s₁ B hml hv
  obtain ⟨rfl, hP, hK⟩ := hv
  have hx := B.exec
  have hb := B.bytes
  have hr := B.returns
  have ht : ∀ w ∈ tb_, w.before _ s = true := fun w h => atoms_spec (ws := w_MO_open) B.pre w (List.mem_cons_of_mem _ h)
  have hown : s.vm.findClass R_MO = some m.cls := findClass_of_methodNamed B.named
  have hlocks := B.notSynchronized
  have hP : va_P (dC, dI) cls_ [(g0, .inr (5, [.int 0, .int 0, .int (-1), .ref m3, .int 0, .ref m5, .ref m6, .ref m7, .ref m8, .ref m9, .ref m10, .ref m11, .ref m12, .ref m13, .ref m14, .ref m15, .ref m16, .ref m17, .ref m18, .ref m19, .ref m20, .int 0, .ref m22, .ref m23, .ref m24, .ref m25, .ref m26, .ref m27, .int 0, .ref m29]))] s.heap := hP
  have hl := lv_entry ([.ref g0]) (n := 3) (Nat.le_of_ble_eq_true rfl)
  rw [lg_entry_eq]
  generalize (lg_sl ([.ref g0]) ++ List.replicate (3 - (lg_sl ([.ref g0])).length) Slot.unset).toArray = ls at hl ⊢
  have hl : lv_has ls 3 [(0, .ref g0)] := hl
  refine lv_iconst (v := 0) hx hb d_MO_open_0 (by decide) ?_
  refine lv_istore_n hx hb d_MO_open_1 rfl hl (by decide) rfl (fun ls hl => ?_)
  have hl : lv_has ls 3 [(1, .int 0), (0, .ref g0)] := hl
  refine lv_iconst (v := 0) hx hb d_MO_open_2 (by decide) ?_
  refine lv_istore_n hx hb d_MO_open_3 rfl hl (by decide) rfl (fun ls hl => ?_)
  have hl : lv_has ls 3 [(2, .int 0), (1, .int 0), (0, .ref g0)] := hl
  refine lv_iload_n hx hb d_MO_open_4 rfl (lv_at hl 0 rfl) ?_
  refine lv_aload_n hx hb d_MO_open_5 rfl (lv_at hl 2 rfl) ?_
  refine va_get (D := (dC, dI)) (ci := 5) (v := .int 0) (C := R_MO) (T := F_MO) (N := 30) hx hb ht in_MO hown hK hP 0 rfl rfl 4 (by decide) (ht _ tb_635) (fun _ h9 => h9) rfl d_MO_open_6 ?_
  refine lv_icmp_ge (tgt := 45) hx hb d_MO_open_9 (by decide) (fun _ => ?_) (fun h9 => absurd (by decide) h9)
  refine lv_iload_n hx hb d_MO_open_45 rfl (lv_at hl 1 rfl) ?_
  exact W.iret (v := 0) hx hb hr (fun t ht9 hW => ⟨rfl, ht9⟩) (fun q h => by cases h) d_MO_open_46
set_option maxHeartbeats 4000000 in
set_option maxRecDepth 100000 in
theorem c_MO_cancel_bad (l : Launch) (dC : Nat → ClassId) (dI : Nat → Nat → Nat) (sz Bd : Nat) (g0 m3 m5 m6 m7 m8 m9 m10 m11 m12 m13 m14 m15 m16 m17 m18 m19 m20 m22 m23 m24 m25 m26 m27 m29 : Nat) (x : Int32) : Met l y_MO_cancel w_MO_cancel ({ frames := 1, cells := 0, slots := 0, locals := 21 }) (frP (dC, dI) [(g0, .inr (5, [.int 0, .int 0, .int (-1), .ref m3, .int 0, .ref m5, .ref m6, .ref m7, .ref m8, .ref m9, .ref m10, .ref m11, .ref m12, .ref m13, .ref m14, .ref m15, .ref m16, .ref m17, .ref m18, .ref m19, .ref m20, .int 0, .ref m22, .ref m23, .ref m24, .ref m25, .ref m26, .ref m27, .int 0, .ref m29]))] [] sz Bd [.ref g0, .int x]) (frQ none (fun t => va_P (dC, dI) cls_ [(g0, .inr (5, [.int 1, .int 0, .int (-1), .ref m3, .int 0, .ref m5, .ref m6, .ref m7, .ref m8, .ref m9, .ref m10, .ref m11, .ref m12, .ref m13, .ref m14, .ref m15, .ref m16, .ref m17, .ref m18, .ref m19, .ref m20, .int 0, .ref m22, .ref m23, .ref m24, .ref m25, .ref m26, .ref m27, .int 0, .ref m29]))] t.heap ∧ va_K (dC, dI) cls_ [] t ∧ va_D (va_A [(g0, .inr (5, [.int 0, .int 0, .int (-1), .ref m3, .int 0, .ref m5, .ref m6, .ref m7, .ref m8, .ref m9, .ref m10, .ref m11, .ref m12, .ref m13, .ref m14, .ref m15, .ref m16, .ref m17, .ref m18, .ref m19, .ref m20, .int 0, .ref m22, .ref m23, .ref m24, .ref m25, .ref m26, .ref m27, .int 0, .ref m29]))] sz) [(g0, .inr (5, [.int 1, .int 0, .int (-1), .ref m3, .int 0, .ref m5, .ref m6, .ref m7, .ref m8, .ref m9, .ref m10, .ref m11, .ref m12, .ref m13, .ref m14, .ref m15, .ref m16, .ref m17, .ref m18, .ref m19, .ref m20, .int 0, .ref m22, .ref m23, .ref m24, .ref m25, .ref m26, .ref m27, .int 0, .ref m29]))]) (va_A [(g0, .inr (5, [.int 0, .int 0, .int (-1), .ref m3, .int 0, .ref m5, .ref m6, .ref m7, .ref m8, .ref m9, .ref m10, .ref m11, .ref m12, .ref m13, .ref m14, .ref m15, .ref m16, .ref m17, .ref m18, .ref m19, .ref m20, .int 0, .ref m22, .ref m23, .ref m24, .ref m25, .ref m26, .ref m27, .int 0, .ref m29]))] sz)) 0 0 (va_A [(g0, .inr (5, [.int 0, .int 0, .int (-1), .ref m3, .int 0, .ref m5, .ref m6, .ref m7, .ref m8, .ref m9, .ref m10, .ref m11, .ref m12, .ref m13, .ref m14, .ref m15, .ref m16, .ref m17, .ref m18, .ref m19, .ref m20, .int 0, .ref m22, .ref m23, .ref m24, .ref m25, .ref m26, .ref m27, .int 0, .ref m29]))] sz) := by
  refine Met.ofW (cc := c_MO_cancel) (maxL := 2) (ret := none) (by decide) rfl ?_
  intro p e s m args below meth c s₁ B hml hv
  obtain ⟨rfl, ⟨hsz, hBs⟩, hP, hK, hD0, hV⟩ := hv
  have hx := B.exec
  have hb := B.bytes
  have hr := B.returns
  have ht : ∀ w ∈ tb_, w.before _ s = true := fun w h => atoms_spec (ws := w_MO_cancel) B.pre w (List.mem_cons_of_mem _ h)
  have hown : s.vm.findClass R_MO = some m.cls := findClass_of_methodNamed B.named
  have hlocks := B.notSynchronized
  subst hsz
  have hD := hD0.self (sz := s.heap.size)
  have hAB : ∀ q, va_A [(g0, .inr (5, [.int 0, .int 0, .int (-1), .ref m3, .int 0, .ref m5, .ref m6, .ref m7, .ref m8, .ref m9, .ref m10, .ref m11, .ref m12, .ref m13, .ref m14, .ref m15, .ref m16, .ref m17, .ref m18, .ref m19, .ref m20, .int 0, .ref m22, .ref m23, .ref m24, .ref m25, .ref m26, .ref m27, .int 0, .ref m29]))] s.heap.size q → Bd ≤ q := fr_AB hD0 hBs
  generalize hAe : va_A [(g0, .inr (5, [.int 0, .int 0, .int (-1), .ref m3, .int 0, .ref m5, .ref m6, .ref m7, .ref m8, .ref m9, .ref m10, .ref m11, .ref m12, .ref m13, .ref m14, .ref m15, .ref m16, .ref m17, .ref m18, .ref m19, .ref m20, .int 0, .ref m22, .ref m23, .ref m24, .ref m25, .ref m26, .ref m27, .int 0, .ref m29]))] s.heap.size = A at hD hAB ⊢
  have hA : ∀ q : Nat, s.heap.size ≤ q → A q := fun q h => by rw [← hAe]; exact Or.inr h
  have hS : va_S A s.heap s.heap [] := va_S.rf
  have hAO := hV.2.2.2.1
  have hN_PL := hV.2.2.1.1
  have hN_RW := hV.2.2.1.2
  have hP : va_P (dC, dI) cls_ [(g0, .inr (5, [.int 0, .int 0, .int (-1), .ref m3, .int 0, .ref m5, .ref m6, .ref m7, .ref m8, .ref m9, .ref m10, .ref m11, .ref m12, .ref m13, .ref m14, .ref m15, .ref m16, .ref m17, .ref m18, .ref m19, .ref m20, .int 0, .ref m22, .ref m23, .ref m24, .ref m25, .ref m26, .ref m27, .int 0, .ref m29]))] s.heap := hP
  have hl := lv_entry ([.ref g0, .int x]) (n := 2) (Nat.le_of_ble_eq_true rfl)
  rw [lg_entry_eq]
  generalize (lg_sl ([.ref g0, .int x]) ++ List.replicate (2 - (lg_sl ([.ref g0, .int x])).length) Slot.unset).toArray = ls at hl ⊢
  have hl : lv_has ls 2 [(0, .ref g0), (1, .int x)] := hl
  refine lv_aload_n hx hb d_MO_cancel_0 rfl (lv_at hl 0 rfl) ?_
  refine lv_aload_n hx hb d_MO_cancel_1 rfl (lv_at hl 0 rfl) ?_
  refine lv_iload_n hx hb d_MO_cancel_2 rfl (lv_at hl 1 rfl) ?_
  have hPc := hP.sub (ws' := [(g0, .inr (5, [.int 0, .int 0, .int (-1), .ref m3, .int 0, .ref m5, .ref m6, .ref m7, .ref m8, .ref m9, .ref m10, .ref m11, .ref m12, .ref m13, .ref m14, .ref m15, .ref m16, .ref m17, .ref m18, .ref m19, .ref m20, .int 0, .ref m22, .ref m23, .ref m24, .ref m25, .ref m26, .ref m27, .int 0, .ref m29]))]) [0] rfl
  have hKc := hK.sub (tys' := []) [] rfl
  refine rd_call (va_runV (C := R_MO) (As := [.int x]) (rest := [.ref g0]) ⟨hx, hb, hml, hown, ht⟩ (c_MO_isRequest_0 l dC dI g0 m3 m5 m6 m7 m8 m9 m10 m11 m12 m13 m14 m15 m16 m17 m18 m19 m20 m22 m23 m24 m25 m26 m27 m29 x) (cwV 1 ht (gV tb_744 tb_746 ts_24 tb_5 tb_747) rfl rfl rfl (by decide +kernel) ⟨Nat.le_of_ble_eq_true rfl, Nat.le_of_ble_eq_true rfl⟩) ⟨rdP_blind, va_recv (q := (R_MO, F_MO, 30)) hK hP rfl (show ([(g0, .inr (5, [.int 0, .int 0, .int (-1), .ref m3, .int 0, .ref m5, .ref m6, .ref m7, .ref m8, .ref m9, .ref m10, .ref m11, .ref m12, .ref m13, .ref m14, .ref m15, .ref m16, .ref m17, .ref m18, .ref m19, .ref m20, .int 0, .ref m22, .ref m23, .ref m24, .ref m25, .ref m26, .ref m27, .int 0, .ref m29]))] : va_W)[0]? = some (g0, .inr (5, [.int 0, .int 0, .int (-1), .ref m3, .int 0, .ref m5, .ref m6, .ref m7, .ref m8, .ref m9, .ref m10, .ref m11, .ref m12, .ref m13, .ref m14, .ref m15, .ref m16, .ref m17, .ref m18, .ref m19, .ref m20, .int 0, .ref m22, .ref m23, .ref m24, .ref m25, .ref m26, .ref m27, .int 0, .ref m29])) from rfl), rd_pre hPc hKc⟩ rfl rfl hl.1 rfl (lv_room (Nat.le_of_ble_eq_true rfl)) d_MO_cancel_3 ⟨Nat.le_of_ble_eq_true rfl, Nat.le_of_ble_eq_true rfl⟩) ?_
  refine W.eq (g2 := F0 m 6 ls [.int 0, .ref g0]) rfl ?_
  refine lv_if_ne (tgt := 13) hx hb d_MO_cancel_6 (by decide) (fun h9 => absurd (rfl) h9) (fun _ => ?_)
  refine lv_iconst (v := 1) hx hb d_MO_cancel_9 (by decide) ?_
  refine lv_goto (tgt := 28) hx hb d_MO_cancel_10 (by decide) ?_
  have hPc := hP.sub (ws' := [(g0, .inr (5, [.int 0, .int 0, .int (-1), .ref m3, .int 0, .ref m5, .ref m6, .ref m7, .ref m8, .ref m9, .ref m10, .ref m11, .ref m12, .ref m13, .ref m14, .ref m15, .ref m16, .ref m17, .ref m18, .ref m19, .ref m20, .int 0, .ref m22, .ref m23, .ref m24, .ref m25, .ref m26, .ref m27, .int 0, .ref m29]))]) [0] rfl
  have hKc := hK.sub (tys' := []) [] rfl
  have hDc := hD.sub (ws' := [(g0, .inr (5, [.int 0, .int 0, .int (-1), .ref m3, .int 0, .ref m5, .ref m6, .ref m7, .ref m8, .ref m9, .ref m10, .ref m11, .ref m12, .ref m13, .ref m14, .ref m15, .ref m16, .ref m17, .ref m18, .ref m19, .ref m20, .int 0, .ref m22, .ref m23, .ref m24, .ref m25, .ref m26, .ref m27, .int 0, .ref m29]))]) [0] (by decide) rfl
  have hFc := va_free (wc := [(g0, .inr (5, [.int 0, .int 0, .int (-1), .ref m3, .int 0, .ref m5, .ref m6, .ref m7, .ref m8, .ref m9, .ref m10, .ref m11, .ref m12, .ref m13, .ref m14, .ref m15, .ref m16, .ref m17, .ref m18, .ref m19, .ref m20, .int 0, .ref m22, .ref m23, .ref m24, .ref m25, .ref m26, .ref m27, .int 0, .ref m29]))]) hD hS hA [0] rfl
  refine fr_call (va_runV (C := R_MO) (As := [.int 1]) (rest := []) ⟨hx, hb, hml, hown, ht⟩ (c_MO_refused_yes l dC dI s.heap.size Bd g0 m3 m5 m6 m7 m8 m9 m10 m11 m12 m13 m14 m15 m16 m17 m18 m19 m20 m22 m23 m24 m25 m26 m27 m29 0 0) (cwV 1 ht (gV tb_736 tb_738 ts_23 tb_5 tb_739) rfl rfl rfl (by decide +kernel) ⟨Nat.le_of_ble_eq_true rfl, Nat.le_of_ble_eq_true rfl⟩) ⟨frP_blind, va_recv (q := (R_MO, F_MO, 30)) hK hP rfl (show ([(g0, .inr (5, [.int 0, .int 0, .int (-1), .ref m3, .int 0, .ref m5, .ref m6, .ref m7, .ref m8, .ref m9, .ref m10, .ref m11, .ref m12, .ref m13, .ref m14, .ref m15, .ref m16, .ref m17, .ref m18, .ref m19, .ref m20, .int 0, .ref m22, .ref m23, .ref m24, .ref m25, .ref m26, .ref m27, .int 0, .ref m29]))] : va_W)[0]? = some (g0, .inr (5, [.int 0, .int 0, .int (-1), .ref m3, .int 0, .ref m5, .ref m6, .ref m7, .ref m8, .ref m9, .ref m10, .ref m11, .ref m12, .ref m13, .ref m14, .ref m15, .ref m16, .ref m17, .ref m18, .ref m19, .ref m20, .int 0, .ref m22, .ref m23, .ref m24, .ref m25, .ref m26, .ref m27, .int 0, .ref m29])) from rfl), fr_pre hPc hKc hDc hAB hBs hS hV⟩ rfl rfl hl.1 rfl (lv_room (Nat.le_of_ble_eq_true rfl)) d_MO_cancel_28 ⟨Nat.le_of_ble_eq_true rfl, Nat.le_of_ble_eq_true rfl⟩) hS (fun q _ h => hFc q h) hFc (fun t H1 locs ht1 hvm hB1 hz1 hk1 hS => ?_)
  obtain ⟨hP1, hK1, hD1⟩ := hB1
  rw [ht1] at hP1
  have hK1 := va_K.moved hvm.symm hK1
  obtain ⟨hP, hD⟩ := va_join (wr := []) (w1 := [(g0, .inr (5, [.int 1, .int 0, .int (-1), .ref m3, .int 0, .ref m5, .ref m6, .ref m7, .ref m8, .ref m9, .ref m10, .ref m11, .ref m12, .ref m13, .ref m14, .ref m15, .ref m16, .ref m17, .ref m18, .ref m19, .ref m20, .int 0, .ref m22, .ref m23, .ref m24, .ref m25, .ref m26, .ref m27, .int 0, .ref m29]))]) hP hD [0] [] rfl rfl (by decide) (by decide) hk1 hFc hP1 hD1
  have hK := hK.app hK1
  generalize H1 = H at hP hS ⊢
  have hP : va_P (dC, dI) cls_ [(g0, .inr (5, [.int 1, .int 0, .int (-1), .ref m3, .int 0, .ref m5, .ref m6, .ref m7, .ref m8, .ref m9, .ref m10, .ref m11, .ref m12, .ref m13, .ref m14, .ref m15, .ref m16, .ref m17, .ref m18, .ref m19, .ref m20, .int 0, .ref m22, .ref m23, .ref m24, .ref m25, .ref m26, .ref m27, .int 0, .ref m29]))] H := hP
  have hD : va_D A [(g0, .inr (5, [.int 1, .int 0, .int (-1), .ref m3, .int 0, .ref m5, .ref m6, .ref m7, .ref m8, .ref m9, .ref m10, .ref m11, .ref m12, .ref m13, .ref m14, .ref m15, .ref m16, .ref m17, .ref m18, .ref m19, .ref m20, .int 0, .ref m22, .ref m23, .ref m24, .ref m25, .ref m26, .ref m27, .int 0, .ref m29]))] := hD
  have hK : va_K (dC, dI) cls_ [] s := hK
  refine W.eq (g2 := F0 m 31 ls [.int 1]) rfl ?_
  refine W.cs (cells' := 0) (slots' := 0) rfl rfl ?_
  refine lv_if_eq (tgt := 35) hx hb d_MO_cancel_31 (by decide) (fun h9 => absurd h9 (by decide)) (fun _ => ?_)
  have hP9 := hP.sub (ws' := [(g0, .inr (5, [.int 1, .int 0, .int (-1), .ref m3, .int 0, .ref m5, .ref m6, .ref m7, .ref m8, .ref m9, .ref m10, .ref m11, .ref m12, .ref m13, .ref m14, .ref m15, .ref m16, .ref m17, .ref m18, .ref m19, .ref m20, .int 0, .ref m22, .ref m23, .ref m24, .ref m25, .ref m26, .ref m27, .int 0, .ref m29]))]) [0] rfl
  have hD9 := hD.sub (ws' := [(g0, .inr (5, [.int 1, .int 0, .int (-1), .ref m3, .int 0, .ref m5, .ref m6, .ref m7, .ref m8, .ref m9, .ref m10, .ref m11, .ref m12, .ref m13, .ref m14, .ref m15, .ref m16, .ref m17, .ref m18, .ref m19, .ref m20, .int 0, .ref m22, .ref m23, .ref m24, .ref m25, .ref m26, .ref m27, .int 0, .ref m29]))]) [0] (by decide) rfl
  have hK9 := hK.sub (tys' := []) [] rfl
  exact W.vret hx hb hr (fun t ht9 hW => ⟨rfl, ⟨by rw [ht9]; exact hP9, va_K.moved hW.alike hK9, hD9⟩, hS.F ht9⟩) hS.2.2 d_MO_cancel_34
set_option maxHeartbeats 4000000 in
set_option maxRecDepth 100000 in
theorem c_MO_state_bad (l : Launch) (dC : Nat → ClassId) (dI : Nat → Nat → Nat) (sz Bd : Nat) (g0 m3 m5 m6 m7 m8 m9 m10 m11 m12 m13 m14 m15 m16 m17 m18 m19 m20 m22 m23 m24 m25 m26 m27 m29 : Nat) (x : Int32) : Met l y_MO_state w_MO_state ({ frames := 1, cells := 0, slots := 0, locals := 21 }) (frP (dC, dI) [(g0, .inr (5, [.int 0, .int 0, .int (-1), .ref m3, .int 0, .ref m5, .ref m6, .ref m7, .ref m8, .ref m9, .ref m10, .ref m11, .ref m12, .ref m13, .ref m14, .ref m15, .ref m16, .ref m17, .ref m18, .ref m19, .ref m20, .int 0, .ref m22, .ref m23, .ref m24, .ref m25, .ref m26, .ref m27, .int 0, .ref m29]))] [] sz Bd [.ref g0, .int x]) (frQ (some (.int 0)) (fun t => va_P (dC, dI) cls_ [(g0, .inr (5, [.int 1, .int 0, .int (-1), .ref m3, .int 0, .ref m5, .ref m6, .ref m7, .ref m8, .ref m9, .ref m10, .ref m11, .ref m12, .ref m13, .ref m14, .ref m15, .ref m16, .ref m17, .ref m18, .ref m19, .ref m20, .int 0, .ref m22, .ref m23, .ref m24, .ref m25, .ref m26, .ref m27, .int 0, .ref m29]))] t.heap ∧ va_K (dC, dI) cls_ [] t ∧ va_D (va_A [(g0, .inr (5, [.int 0, .int 0, .int (-1), .ref m3, .int 0, .ref m5, .ref m6, .ref m7, .ref m8, .ref m9, .ref m10, .ref m11, .ref m12, .ref m13, .ref m14, .ref m15, .ref m16, .ref m17, .ref m18, .ref m19, .ref m20, .int 0, .ref m22, .ref m23, .ref m24, .ref m25, .ref m26, .ref m27, .int 0, .ref m29]))] sz) [(g0, .inr (5, [.int 1, .int 0, .int (-1), .ref m3, .int 0, .ref m5, .ref m6, .ref m7, .ref m8, .ref m9, .ref m10, .ref m11, .ref m12, .ref m13, .ref m14, .ref m15, .ref m16, .ref m17, .ref m18, .ref m19, .ref m20, .int 0, .ref m22, .ref m23, .ref m24, .ref m25, .ref m26, .ref m27, .int 0, .ref m29]))]) (va_A [(g0, .inr (5, [.int 0, .int 0, .int (-1), .ref m3, .int 0, .ref m5, .ref m6, .ref m7, .ref m8, .ref m9, .ref m10, .ref m11, .ref m12, .ref m13, .ref m14, .ref m15, .ref m16, .ref m17, .ref m18, .ref m19, .ref m20, .int 0, .ref m22, .ref m23, .ref m24, .ref m25, .ref m26, .ref m27, .int 0, .ref m29]))] sz)) 0 0 (va_A [(g0, .inr (5, [.int 0, .int 0, .int (-1), .ref m3, .int 0, .ref m5, .ref m6, .ref m7, .ref m8, .ref m9, .ref m10, .ref m11, .ref m12, .ref m13, .ref m14, .ref m15, .ref m16, .ref m17, .ref m18, .ref m19, .ref m20, .int 0, .ref m22, .ref m23, .ref m24, .ref m25, .ref m26, .ref m27, .int 0, .ref m29]))] sz) := by
  refine Met.ofW (cc := c_MO_state) (maxL := 2) (ret := (some .int)) (by decide) rfl ?_
  intro p e s m args below meth c s₁ B hml hv
  obtain ⟨rfl, ⟨hsz, hBs⟩, hP, hK, hD0, hV⟩ := hv
  have hx := B.exec
  have hb := B.bytes
  have hr := B.returns
  have ht : ∀ w ∈ tb_, w.before _ s = true := fun w h => atoms_spec (ws := w_MO_state) B.pre w (List.mem_cons_of_mem _ h)
  have hown : s.vm.findClass R_MO = some m.cls := findClass_of_methodNamed B.named
  have hlocks := B.notSynchronized
  subst hsz
  have hD := hD0.self (sz := s.heap.size)
  have hAB : ∀ q, va_A [(g0, .inr (5, [.int 0, .int 0, .int (-1), .ref m3, .int 0, .ref m5, .ref m6, .ref m7, .ref m8, .ref m9, .ref m10, .ref m11, .ref m12, .ref m13, .ref m14, .ref m15, .ref m16, .ref m17, .ref m18, .ref m19, .ref m20, .int 0, .ref m22, .ref m23, .ref m24, .ref m25, .ref m26, .ref m27, .int 0, .ref m29]))] s.heap.size q → Bd ≤ q := fr_AB hD0 hBs
  generalize hAe : va_A [(g0, .inr (5, [.int 0, .int 0, .int (-1), .ref m3, .int 0, .ref m5, .ref m6, .ref m7, .ref m8, .ref m9, .ref m10, .ref m11, .ref m12, .ref m13, .ref m14, .ref m15, .ref m16, .ref m17, .ref m18, .ref m19, .ref m20, .int 0, .ref m22, .ref m23, .ref m24, .ref m25, .ref m26, .ref m27, .int 0, .ref m29]))] s.heap.size = A at hD hAB ⊢
  have hA : ∀ q : Nat, s.heap.size ≤ q → A q := fun q h => by rw [← hAe]; exact Or.inr h
  have hS : va_S A s.heap s.heap [] := va_S.rf
  have hAO := hV.2.2.2.1
  have hN_PL := hV.2.2.1.1
  have hN_RW := hV.2.2.1.2
  have hP : va_P (dC, dI) cls_ [(g0, .inr (5, [.int 0, .int 0, .int (-1), .ref m3, .int 0, .ref m5, .ref m6, .ref m7, .ref m8, .ref m9, .ref m10, .ref m11, .ref m12, .ref m13, .ref m14, .ref m15, .ref m16, .ref m17, .ref m18, .ref m19, .ref m20, .int 0, .ref m22, .ref m23, .ref m24, .ref m25, .ref m26, .ref m27, .int 0, .ref m29]))] s.heap := hP
  have hl := lv_entry ([.ref g0, .int x]) (n := 2) (Nat.le_of_ble_eq_true rfl)
  rw [lg_entry_eq]
  generalize (lg_sl ([.ref g0, .int x]) ++ List.replicate (2 - (lg_sl ([.ref g0, .int x])).length) Slot.unset).toArray = ls at hl ⊢
  have hl : lv_has ls 2 [(0, .ref g0), (1, .int x)] := hl
  refine lv_aload_n hx hb d_MO_state_0 rfl (lv_at hl 0 rfl) ?_
  refine lv_aload_n hx hb d_MO_state_1 rfl (lv_at hl 0 rfl) ?_
  refine lv_iload_n hx hb d_MO_state_2 rfl (lv_at hl 1 rfl) ?_
  have hPc := hP.sub (ws' := [(g0, .inr (5, [.int 0, .int 0, .int (-1), .ref m3, .int 0, .ref m5, .ref m6, .ref m7, .ref m8, .ref m9, .ref m10, .ref m11, .ref m12, .ref m13, .ref m14, .ref m15, .ref m16, .ref m17, .ref m18, .ref m19, .ref m20, .int 0, .ref m22, .ref m23, .ref m24, .ref m25, .ref m26, .ref m27, .int 0, .ref m29]))]) [0] rfl
  have hKc := hK.sub (tys' := []) [] rfl
  refine rd_call (va_runV (C := R_MO) (As := [.int x]) (rest := [.ref g0]) ⟨hx, hb, hml, hown, ht⟩ (c_MO_isRequest_0 l dC dI g0 m3 m5 m6 m7 m8 m9 m10 m11 m12 m13 m14 m15 m16 m17 m18 m19 m20 m22 m23 m24 m25 m26 m27 m29 x) (cwV 1 ht (gV tb_744 tb_746 ts_24 tb_5 tb_747) rfl rfl rfl (by decide +kernel) ⟨Nat.le_of_ble_eq_true rfl, Nat.le_of_ble_eq_true rfl⟩) ⟨rdP_blind, va_recv (q := (R_MO, F_MO, 30)) hK hP rfl (show ([(g0, .inr (5, [.int 0, .int 0, .int (-1), .ref m3, .int 0, .ref m5, .ref m6, .ref m7, .ref m8, .ref m9, .ref m10, .ref m11, .ref m12, .ref m13, .ref m14, .ref m15, .ref m16, .ref m17, .ref m18, .ref m19, .ref m20, .int 0, .ref m22, .ref m23, .ref m24, .ref m25, .ref m26, .ref m27, .int 0, .ref m29]))] : va_W)[0]? = some (g0, .inr (5, [.int 0, .int 0, .int (-1), .ref m3, .int 0, .ref m5, .ref m6, .ref m7, .ref m8, .ref m9, .ref m10, .ref m11, .ref m12, .ref m13, .ref m14, .ref m15, .ref m16, .ref m17, .ref m18, .ref m19, .ref m20, .int 0, .ref m22, .ref m23, .ref m24, .ref m25, .ref m26, .ref m27, .int 0, .ref m29])) from rfl), rd_pre hPc hKc⟩ rfl rfl hl.1 rfl (lv_room (Nat.le_of_ble_eq_true rfl)) d_MO_state_3 ⟨Nat.le_of_ble_eq_true rfl, Nat.le_of_ble_eq_true rfl⟩) ?_
  refine W.eq (g2 := F0 m 6 ls [.int 0, .ref g0]) rfl ?_
  refine lv_if_eq (tgt := 13) hx hb d_MO_state_6 (by decide) (fun _ => ?_) (fun h9 => absurd (rfl) h9)
  refine lv_iconst (v := 1) hx hb d_MO_state_13 (by decide) ?_
  have hPc := hP.sub (ws' := [(g0, .inr (5, [.int 0, .int 0, .int (-1), .ref m3, .int 0, .ref m5, .ref m6, .ref m7, .ref m8, .ref m9, .ref m10, .ref m11, .ref m12, .ref m13, .ref m14, .ref m15, .ref m16, .ref m17, .ref m18, .ref m19, .ref m20, .int 0, .ref m22, .ref m23, .ref m24, .ref m25, .ref m26, .ref m27, .int 0, .ref m29]))]) [0] rfl
  have hKc := hK.sub (tys' := []) [] rfl
  have hDc := hD.sub (ws' := [(g0, .inr (5, [.int 0, .int 0, .int (-1), .ref m3, .int 0, .ref m5, .ref m6, .ref m7, .ref m8, .ref m9, .ref m10, .ref m11, .ref m12, .ref m13, .ref m14, .ref m15, .ref m16, .ref m17, .ref m18, .ref m19, .ref m20, .int 0, .ref m22, .ref m23, .ref m24, .ref m25, .ref m26, .ref m27, .int 0, .ref m29]))]) [0] (by decide) rfl
  have hFc := va_free (wc := [(g0, .inr (5, [.int 0, .int 0, .int (-1), .ref m3, .int 0, .ref m5, .ref m6, .ref m7, .ref m8, .ref m9, .ref m10, .ref m11, .ref m12, .ref m13, .ref m14, .ref m15, .ref m16, .ref m17, .ref m18, .ref m19, .ref m20, .int 0, .ref m22, .ref m23, .ref m24, .ref m25, .ref m26, .ref m27, .int 0, .ref m29]))]) hD hS hA [0] rfl
  refine fr_call (va_runV (C := R_MO) (As := [.int 1]) (rest := []) ⟨hx, hb, hml, hown, ht⟩ (c_MO_refused_yes l dC dI s.heap.size Bd g0 m3 m5 m6 m7 m8 m9 m10 m11 m12 m13 m14 m15 m16 m17 m18 m19 m20 m22 m23 m24 m25 m26 m27 m29 0 0) (cwV 1 ht (gV tb_736 tb_738 ts_23 tb_5 tb_739) rfl rfl rfl (by decide +kernel) ⟨Nat.le_of_ble_eq_true rfl, Nat.le_of_ble_eq_true rfl⟩) ⟨frP_blind, va_recv (q := (R_MO, F_MO, 30)) hK hP rfl (show ([(g0, .inr (5, [.int 0, .int 0, .int (-1), .ref m3, .int 0, .ref m5, .ref m6, .ref m7, .ref m8, .ref m9, .ref m10, .ref m11, .ref m12, .ref m13, .ref m14, .ref m15, .ref m16, .ref m17, .ref m18, .ref m19, .ref m20, .int 0, .ref m22, .ref m23, .ref m24, .ref m25, .ref m26, .ref m27, .int 0, .ref m29]))] : va_W)[0]? = some (g0, .inr (5, [.int 0, .int 0, .int (-1), .ref m3, .int 0, .ref m5, .ref m6, .ref m7, .ref m8, .ref m9, .ref m10, .ref m11, .ref m12, .ref m13, .ref m14, .ref m15, .ref m16, .ref m17, .ref m18, .ref m19, .ref m20, .int 0, .ref m22, .ref m23, .ref m24, .ref m25, .ref m26, .ref m27, .int 0, .ref m29])) from rfl), fr_pre hPc hKc hDc hAB hBs hS hV⟩ rfl rfl hl.1 rfl (lv_room (Nat.le_of_ble_eq_true rfl)) d_MO_state_14 ⟨Nat.le_of_ble_eq_true rfl, Nat.le_of_ble_eq_true rfl⟩) hS (fun q _ h => hFc q h) hFc (fun t H1 locs ht1 hvm hB1 hz1 hk1 hS => ?_)
  obtain ⟨hP1, hK1, hD1⟩ := hB1
  rw [ht1] at hP1
  have hK1 := va_K.moved hvm.symm hK1
  obtain ⟨hP, hD⟩ := va_join (wr := []) (w1 := [(g0, .inr (5, [.int 1, .int 0, .int (-1), .ref m3, .int 0, .ref m5, .ref m6, .ref m7, .ref m8, .ref m9, .ref m10, .ref m11, .ref m12, .ref m13, .ref m14, .ref m15, .ref m16, .ref m17, .ref m18, .ref m19, .ref m20, .int 0, .ref m22, .ref m23, .ref m24, .ref m25, .ref m26, .ref m27, .int 0, .ref m29]))]) hP hD [0] [] rfl rfl (by decide) (by decide) hk1 hFc hP1 hD1
  have hK := hK.app hK1
  generalize H1 = H at hP hS ⊢
  have hP : va_P (dC, dI) cls_ [(g0, .inr (5, [.int 1, .int 0, .int (-1), .ref m3, .int 0, .ref m5, .ref m6, .ref m7, .ref m8, .ref m9, .ref m10, .ref m11, .ref m12, .ref m13, .ref m14, .ref m15, .ref m16, .ref m17, .ref m18, .ref m19, .ref m20, .int 0, .ref m22, .ref m23, .ref m24, .ref m25, .ref m26, .ref m27, .int 0, .ref m29]))] H := hP
  have hD : va_D A [(g0, .inr (5, [.int 1, .int 0, .int (-1), .ref m3, .int 0, .ref m5, .ref m6, .ref m7, .ref m8, .ref m9, .ref m10, .ref m11, .ref m12, .ref m13, .ref m14, .ref m15, .ref m16, .ref m17, .ref m18, .ref m19, .ref m20, .int 0, .ref m22, .ref m23, .ref m24, .ref m25, .ref m26, .ref m27, .int 0, .ref m29]))] := hD
  have hK : va_K (dC, dI) cls_ [] s := hK
  refine W.eq (g2 := F0 m 17 ls [.int 1]) rfl ?_
  refine W.cs (cells' := 0) (slots' := 0) rfl rfl ?_
  refine lv_if_eq (tgt := 24) hx hb d_MO_state_17 (by decide) (fun h9 => absurd h9 (by decide)) (fun _ => ?_)
  refine lv_iconst (v := 0) hx hb d_MO_state_20 (by decide) ?_
  refine lv_goto (tgt := 30) hx hb d_MO_state_21 (by decide) ?_
  have hP9 := hP.sub (ws' := [(g0, .inr (5, [.int 1, .int 0, .int (-1), .ref m3, .int 0, .ref m5, .ref m6, .ref m7, .ref m8, .ref m9, .ref m10, .ref m11, .ref m12, .ref m13, .ref m14, .ref m15, .ref m16, .ref m17, .ref m18, .ref m19, .ref m20, .int 0, .ref m22, .ref m23, .ref m24, .ref m25, .ref m26, .ref m27, .int 0, .ref m29]))]) [0] rfl
  have hD9 := hD.sub (ws' := [(g0, .inr (5, [.int 1, .int 0, .int (-1), .ref m3, .int 0, .ref m5, .ref m6, .ref m7, .ref m8, .ref m9, .ref m10, .ref m11, .ref m12, .ref m13, .ref m14, .ref m15, .ref m16, .ref m17, .ref m18, .ref m19, .ref m20, .int 0, .ref m22, .ref m23, .ref m24, .ref m25, .ref m26, .ref m27, .int 0, .ref m29]))]) [0] (by decide) rfl
  have hK9 := hK.sub (tys' := []) [] rfl
  exact W.iret (v := 0) hx hb hr (fun t ht9 hW => ⟨rfl, ⟨by rw [ht9]; exact hP9, va_K.moved hW.alike hK9, hD9⟩, hS.F ht9⟩) hS.2.2 d_MO_state_30
set_option maxHeartbeats 4000000 in
set_option maxRecDepth 100000 in
theorem c_MO_planFrom_bad (l : Launch) (dC : Nat → ClassId) (dI : Nat → Nat → Nat) (sz Bd : Nat) (g0 m3 m5 m6 m7 m8 m9 m10 m11 m12 m13 m14 m15 m16 m17 m18 m19 m20 m22 m23 m24 m25 m26 m27 m29 : Nat) (x : Int32) : Met l y_MO_planFrom w_MO_planFrom ({ frames := 1, cells := 0, slots := 0, locals := 21 }) (frP (dC, dI) [(g0, .inr (5, [.int 0, .int 0, .int (-1), .ref m3, .int 0, .ref m5, .ref m6, .ref m7, .ref m8, .ref m9, .ref m10, .ref m11, .ref m12, .ref m13, .ref m14, .ref m15, .ref m16, .ref m17, .ref m18, .ref m19, .ref m20, .int 0, .ref m22, .ref m23, .ref m24, .ref m25, .ref m26, .ref m27, .int 0, .ref m29]))] [] sz Bd [.ref g0, .int x]) (frQ (some (.int 0)) (fun t => va_P (dC, dI) cls_ [(g0, .inr (5, [.int 1, .int 0, .int (-1), .ref m3, .int 0, .ref m5, .ref m6, .ref m7, .ref m8, .ref m9, .ref m10, .ref m11, .ref m12, .ref m13, .ref m14, .ref m15, .ref m16, .ref m17, .ref m18, .ref m19, .ref m20, .int 0, .ref m22, .ref m23, .ref m24, .ref m25, .ref m26, .ref m27, .int 0, .ref m29]))] t.heap ∧ va_K (dC, dI) cls_ [] t ∧ va_D (va_A [(g0, .inr (5, [.int 0, .int 0, .int (-1), .ref m3, .int 0, .ref m5, .ref m6, .ref m7, .ref m8, .ref m9, .ref m10, .ref m11, .ref m12, .ref m13, .ref m14, .ref m15, .ref m16, .ref m17, .ref m18, .ref m19, .ref m20, .int 0, .ref m22, .ref m23, .ref m24, .ref m25, .ref m26, .ref m27, .int 0, .ref m29]))] sz) [(g0, .inr (5, [.int 1, .int 0, .int (-1), .ref m3, .int 0, .ref m5, .ref m6, .ref m7, .ref m8, .ref m9, .ref m10, .ref m11, .ref m12, .ref m13, .ref m14, .ref m15, .ref m16, .ref m17, .ref m18, .ref m19, .ref m20, .int 0, .ref m22, .ref m23, .ref m24, .ref m25, .ref m26, .ref m27, .int 0, .ref m29]))]) (va_A [(g0, .inr (5, [.int 0, .int 0, .int (-1), .ref m3, .int 0, .ref m5, .ref m6, .ref m7, .ref m8, .ref m9, .ref m10, .ref m11, .ref m12, .ref m13, .ref m14, .ref m15, .ref m16, .ref m17, .ref m18, .ref m19, .ref m20, .int 0, .ref m22, .ref m23, .ref m24, .ref m25, .ref m26, .ref m27, .int 0, .ref m29]))] sz)) 0 0 (va_A [(g0, .inr (5, [.int 0, .int 0, .int (-1), .ref m3, .int 0, .ref m5, .ref m6, .ref m7, .ref m8, .ref m9, .ref m10, .ref m11, .ref m12, .ref m13, .ref m14, .ref m15, .ref m16, .ref m17, .ref m18, .ref m19, .ref m20, .int 0, .ref m22, .ref m23, .ref m24, .ref m25, .ref m26, .ref m27, .int 0, .ref m29]))] sz) := by
  refine Met.ofW (cc := c_MO_planFrom) (maxL := 2) (ret := (some .int)) (by decide) rfl ?_
  intro p e s m args below meth c s₁ B hml hv
  obtain ⟨rfl, ⟨hsz, hBs⟩, hP, hK, hD0, hV⟩ := hv
  have hx := B.exec
  have hb := B.bytes
  have hr := B.returns
  have ht : ∀ w ∈ tb_, w.before _ s = true := fun w h => atoms_spec (ws := w_MO_planFrom) B.pre w (List.mem_cons_of_mem _ h)
  have hown : s.vm.findClass R_MO = some m.cls := findClass_of_methodNamed B.named
  have hlocks := B.notSynchronized
  subst hsz
  have hD := hD0.self (sz := s.heap.size)
  have hAB : ∀ q, va_A [(g0, .inr (5, [.int 0, .int 0, .int (-1), .ref m3, .int 0, .ref m5, .ref m6, .ref m7, .ref m8, .ref m9, .ref m10, .ref m11, .ref m12, .ref m13, .ref m14, .ref m15, .ref m16, .ref m17, .ref m18, .ref m19, .ref m20, .int 0, .ref m22, .ref m23, .ref m24, .ref m25, .ref m26, .ref m27, .int 0, .ref m29]))] s.heap.size q → Bd ≤ q := fr_AB hD0 hBs
  generalize hAe : va_A [(g0, .inr (5, [.int 0, .int 0, .int (-1), .ref m3, .int 0, .ref m5, .ref m6, .ref m7, .ref m8, .ref m9, .ref m10, .ref m11, .ref m12, .ref m13, .ref m14, .ref m15, .ref m16, .ref m17, .ref m18, .ref m19, .ref m20, .int 0, .ref m22, .ref m23, .ref m24, .ref m25, .ref m26, .ref m27, .int 0, .ref m29]))] s.heap.size = A at hD hAB ⊢
  have hA : ∀ q : Nat, s.heap.size ≤ q → A q := fun q h => by rw [← hAe]; exact Or.inr h
  have hS : va_S A s.heap s.heap [] := va_S.rf
  have hAO := hV.2.2.2.1
  have hN_PL := hV.2.2.1.1
  have hN_RW := hV.2.2.1.2
  have hP : va_P (dC, dI) cls_ [(g0, .inr (5, [.int 0, .int 0, .int (-1), .ref m3, .int 0, .ref m5, .ref m6, .ref m7, .ref m8, .ref m9, .ref m10, .ref m11, .ref m12, .ref m13, .ref m14, .ref m15, .ref m16, .ref m17, .ref m18, .ref m19, .ref m20, .int 0, .ref m22, .ref m23, .ref m24, .ref m25, .ref m26, .ref m27, .int 0, .ref m29]))] s.heap := hP
  have hl := lv_entry ([.ref g0, .int x]) (n := 2) (Nat.le_of_ble_eq_true rfl)
  rw [lg_entry_eq]
  generalize (lg_sl ([.ref g0, .int x]) ++ List.replicate (2 - (lg_sl ([.ref g0, .int x])).length) Slot.unset).toArray = ls at hl ⊢
  have hl : lv_has ls 2 [(0, .ref g0), (1, .int x)] := hl
  refine lv_aload_n hx hb d_MO_planFrom_0 rfl (lv_at hl 0 rfl) ?_
  refine lv_aload_n hx hb d_MO_planFrom_1 rfl (lv_at hl 0 rfl) ?_
  refine lv_iload_n hx hb d_MO_planFrom_2 rfl (lv_at hl 1 rfl) ?_
  have hPc := hP.sub (ws' := [(g0, .inr (5, [.int 0, .int 0, .int (-1), .ref m3, .int 0, .ref m5, .ref m6, .ref m7, .ref m8, .ref m9, .ref m10, .ref m11, .ref m12, .ref m13, .ref m14, .ref m15, .ref m16, .ref m17, .ref m18, .ref m19, .ref m20, .int 0, .ref m22, .ref m23, .ref m24, .ref m25, .ref m26, .ref m27, .int 0, .ref m29]))]) [0] rfl
  have hKc := hK.sub (tys' := []) [] rfl
  refine rd_call (va_runV (C := R_MO) (As := [.int x]) (rest := [.ref g0]) ⟨hx, hb, hml, hown, ht⟩ (c_MO_isRequest_0 l dC dI g0 m3 m5 m6 m7 m8 m9 m10 m11 m12 m13 m14 m15 m16 m17 m18 m19 m20 m22 m23 m24 m25 m26 m27 m29 x) (cwV 1 ht (gV tb_744 tb_746 ts_24 tb_5 tb_747) rfl rfl rfl (by decide +kernel) ⟨Nat.le_of_ble_eq_true rfl, Nat.le_of_ble_eq_true rfl⟩) ⟨rdP_blind, va_recv (q := (R_MO, F_MO, 30)) hK hP rfl (show ([(g0, .inr (5, [.int 0, .int 0, .int (-1), .ref m3, .int 0, .ref m5, .ref m6, .ref m7, .ref m8, .ref m9, .ref m10, .ref m11, .ref m12, .ref m13, .ref m14, .ref m15, .ref m16, .ref m17, .ref m18, .ref m19, .ref m20, .int 0, .ref m22, .ref m23, .ref m24, .ref m25, .ref m26, .ref m27, .int 0, .ref m29]))] : va_W)[0]? = some (g0, .inr (5, [.int 0, .int 0, .int (-1), .ref m3, .int 0, .ref m5, .ref m6, .ref m7, .ref m8, .ref m9, .ref m10, .ref m11, .ref m12, .ref m13, .ref m14, .ref m15, .ref m16, .ref m17, .ref m18, .ref m19, .ref m20, .int 0, .ref m22, .ref m23, .ref m24, .ref m25, .ref m26, .ref m27, .int 0, .ref m29])) from rfl), rd_pre hPc hKc⟩ rfl rfl hl.1 rfl (lv_room (Nat.le_of_ble_eq_true rfl)) d_MO_planFrom_3 ⟨Nat.le_of_ble_eq_true rfl, Nat.le_of_ble_eq_true rfl⟩) ?_
  refine W.eq (g2 := F0 m 6 ls [.int 0, .ref g0]) rfl ?_
  refine lv_if_eq (tgt := 13) hx hb d_MO_planFrom_6 (by decide) (fun _ => ?_) (fun h9 => absurd (rfl) h9)
  refine lv_iconst (v := 1) hx hb d_MO_planFrom_13 (by decide) ?_
  have hPc := hP.sub (ws' := [(g0, .inr (5, [.int 0, .int 0, .int (-1), .ref m3, .int 0, .ref m5, .ref m6, .ref m7, .ref m8, .ref m9, .ref m10, .ref m11, .ref m12, .ref m13, .ref m14, .ref m15, .ref m16, .ref m17, .ref m18, .ref m19, .ref m20, .int 0, .ref m22, .ref m23, .ref m24, .ref m25, .ref m26, .ref m27, .int 0, .ref m29]))]) [0] rfl
  have hKc := hK.sub (tys' := []) [] rfl
  have hDc := hD.sub (ws' := [(g0, .inr (5, [.int 0, .int 0, .int (-1), .ref m3, .int 0, .ref m5, .ref m6, .ref m7, .ref m8, .ref m9, .ref m10, .ref m11, .ref m12, .ref m13, .ref m14, .ref m15, .ref m16, .ref m17, .ref m18, .ref m19, .ref m20, .int 0, .ref m22, .ref m23, .ref m24, .ref m25, .ref m26, .ref m27, .int 0, .ref m29]))]) [0] (by decide) rfl
  have hFc := va_free (wc := [(g0, .inr (5, [.int 0, .int 0, .int (-1), .ref m3, .int 0, .ref m5, .ref m6, .ref m7, .ref m8, .ref m9, .ref m10, .ref m11, .ref m12, .ref m13, .ref m14, .ref m15, .ref m16, .ref m17, .ref m18, .ref m19, .ref m20, .int 0, .ref m22, .ref m23, .ref m24, .ref m25, .ref m26, .ref m27, .int 0, .ref m29]))]) hD hS hA [0] rfl
  refine fr_call (va_runV (C := R_MO) (As := [.int 1]) (rest := []) ⟨hx, hb, hml, hown, ht⟩ (c_MO_refused_yes l dC dI s.heap.size Bd g0 m3 m5 m6 m7 m8 m9 m10 m11 m12 m13 m14 m15 m16 m17 m18 m19 m20 m22 m23 m24 m25 m26 m27 m29 0 0) (cwV 1 ht (gV tb_736 tb_738 ts_23 tb_5 tb_739) rfl rfl rfl (by decide +kernel) ⟨Nat.le_of_ble_eq_true rfl, Nat.le_of_ble_eq_true rfl⟩) ⟨frP_blind, va_recv (q := (R_MO, F_MO, 30)) hK hP rfl (show ([(g0, .inr (5, [.int 0, .int 0, .int (-1), .ref m3, .int 0, .ref m5, .ref m6, .ref m7, .ref m8, .ref m9, .ref m10, .ref m11, .ref m12, .ref m13, .ref m14, .ref m15, .ref m16, .ref m17, .ref m18, .ref m19, .ref m20, .int 0, .ref m22, .ref m23, .ref m24, .ref m25, .ref m26, .ref m27, .int 0, .ref m29]))] : va_W)[0]? = some (g0, .inr (5, [.int 0, .int 0, .int (-1), .ref m3, .int 0, .ref m5, .ref m6, .ref m7, .ref m8, .ref m9, .ref m10, .ref m11, .ref m12, .ref m13, .ref m14, .ref m15, .ref m16, .ref m17, .ref m18, .ref m19, .ref m20, .int 0, .ref m22, .ref m23, .ref m24, .ref m25, .ref m26, .ref m27, .int 0, .ref m29])) from rfl), fr_pre hPc hKc hDc hAB hBs hS hV⟩ rfl rfl hl.1 rfl (lv_room (Nat.le_of_ble_eq_true rfl)) d_MO_planFrom_14 ⟨Nat.le_of_ble_eq_true rfl, Nat.le_of_ble_eq_true rfl⟩) hS (fun q _ h => hFc q h) hFc (fun t H1 locs ht1 hvm hB1 hz1 hk1 hS => ?_)
  obtain ⟨hP1, hK1, hD1⟩ := hB1
  rw [ht1] at hP1
  have hK1 := va_K.moved hvm.symm hK1
  obtain ⟨hP, hD⟩ := va_join (wr := []) (w1 := [(g0, .inr (5, [.int 1, .int 0, .int (-1), .ref m3, .int 0, .ref m5, .ref m6, .ref m7, .ref m8, .ref m9, .ref m10, .ref m11, .ref m12, .ref m13, .ref m14, .ref m15, .ref m16, .ref m17, .ref m18, .ref m19, .ref m20, .int 0, .ref m22, .ref m23, .ref m24, .ref m25, .ref m26, .ref m27, .int 0, .ref m29]))]) hP hD [0] [] rfl rfl (by decide) (by decide) hk1 hFc hP1 hD1
  have hK := hK.app hK1
  generalize H1 = H at hP hS ⊢
  have hP : va_P (dC, dI) cls_ [(g0, .inr (5, [.int 1, .int 0, .int (-1), .ref m3, .int 0, .ref m5, .ref m6, .ref m7, .ref m8, .ref m9, .ref m10, .ref m11, .ref m12, .ref m13, .ref m14, .ref m15, .ref m16, .ref m17, .ref m18, .ref m19, .ref m20, .int 0, .ref m22, .ref m23, .ref m24, .ref m25, .ref m26, .ref m27, .int 0, .ref m29]))] H := hP
  have hD : va_D A [(g0, .inr (5, [.int 1, .int 0, .int (-1), .ref m3, .int 0, .ref m5, .ref m6, .ref m7, .ref m8, .ref m9, .ref m10, .ref m11, .ref m12, .ref m13, .ref m14, .ref m15, .ref m16, .ref m17, .ref m18, .ref m19, .ref m20, .int 0, .ref m22, .ref m23, .ref m24, .ref m25, .ref m26, .ref m27, .int 0, .ref m29]))] := hD
  have hK : va_K (dC, dI) cls_ [] s := hK
  refine W.eq (g2 := F0 m 17 ls [.int 1]) rfl ?_
  refine W.cs (cells' := 0) (slots' := 0) rfl rfl ?_
  refine lv_if_eq (tgt := 22) hx hb d_MO_planFrom_17 (by decide) (fun h9 => absurd h9 (by decide)) (fun _ => ?_)
  refine lv_iconst (v := 0) hx hb d_MO_planFrom_20 (by decide) ?_
  have hP9 := hP.sub (ws' := [(g0, .inr (5, [.int 1, .int 0, .int (-1), .ref m3, .int 0, .ref m5, .ref m6, .ref m7, .ref m8, .ref m9, .ref m10, .ref m11, .ref m12, .ref m13, .ref m14, .ref m15, .ref m16, .ref m17, .ref m18, .ref m19, .ref m20, .int 0, .ref m22, .ref m23, .ref m24, .ref m25, .ref m26, .ref m27, .int 0, .ref m29]))]) [0] rfl
  have hD9 := hD.sub (ws' := [(g0, .inr (5, [.int 1, .int 0, .int (-1), .ref m3, .int 0, .ref m5, .ref m6, .ref m7, .ref m8, .ref m9, .ref m10, .ref m11, .ref m12, .ref m13, .ref m14, .ref m15, .ref m16, .ref m17, .ref m18, .ref m19, .ref m20, .int 0, .ref m22, .ref m23, .ref m24, .ref m25, .ref m26, .ref m27, .int 0, .ref m29]))]) [0] (by decide) rfl
  have hK9 := hK.sub (tys' := []) [] rfl
  exact W.iret (v := 0) hx hb hr (fun t ht9 hW => ⟨rfl, ⟨by rw [ht9]; exact hP9, va_K.moved hW.alike hK9, hD9⟩, hS.F ht9⟩) hS.2.2 d_MO_planFrom_21
set_option maxHeartbeats 4000000 in
set_option maxRecDepth 100000 in
theorem c_MO_planTo_bad (l : Launch) (dC : Nat → ClassId) (dI : Nat → Nat → Nat) (sz Bd : Nat) (g0 m3 m5 m6 m7 m8 m9 m10 m11 m12 m13 m14 m15 m16 m17 m18 m19 m20 m22 m23 m24 m25 m26 m27 m29 : Nat) (x : Int32) : Met l y_MO_planTo w_MO_planTo ({ frames := 1, cells := 0, slots := 0, locals := 21 }) (frP (dC, dI) [(g0, .inr (5, [.int 0, .int 0, .int (-1), .ref m3, .int 0, .ref m5, .ref m6, .ref m7, .ref m8, .ref m9, .ref m10, .ref m11, .ref m12, .ref m13, .ref m14, .ref m15, .ref m16, .ref m17, .ref m18, .ref m19, .ref m20, .int 0, .ref m22, .ref m23, .ref m24, .ref m25, .ref m26, .ref m27, .int 0, .ref m29]))] [] sz Bd [.ref g0, .int x]) (frQ (some (.int 0)) (fun t => va_P (dC, dI) cls_ [(g0, .inr (5, [.int 1, .int 0, .int (-1), .ref m3, .int 0, .ref m5, .ref m6, .ref m7, .ref m8, .ref m9, .ref m10, .ref m11, .ref m12, .ref m13, .ref m14, .ref m15, .ref m16, .ref m17, .ref m18, .ref m19, .ref m20, .int 0, .ref m22, .ref m23, .ref m24, .ref m25, .ref m26, .ref m27, .int 0, .ref m29]))] t.heap ∧ va_K (dC, dI) cls_ [] t ∧ va_D (va_A [(g0, .inr (5, [.int 0, .int 0, .int (-1), .ref m3, .int 0, .ref m5, .ref m6, .ref m7, .ref m8, .ref m9, .ref m10, .ref m11, .ref m12, .ref m13, .ref m14, .ref m15, .ref m16, .ref m17, .ref m18, .ref m19, .ref m20, .int 0, .ref m22, .ref m23, .ref m24, .ref m25, .ref m26, .ref m27, .int 0, .ref m29]))] sz) [(g0, .inr (5, [.int 1, .int 0, .int (-1), .ref m3, .int 0, .ref m5, .ref m6, .ref m7, .ref m8, .ref m9, .ref m10, .ref m11, .ref m12, .ref m13, .ref m14, .ref m15, .ref m16, .ref m17, .ref m18, .ref m19, .ref m20, .int 0, .ref m22, .ref m23, .ref m24, .ref m25, .ref m26, .ref m27, .int 0, .ref m29]))]) (va_A [(g0, .inr (5, [.int 0, .int 0, .int (-1), .ref m3, .int 0, .ref m5, .ref m6, .ref m7, .ref m8, .ref m9, .ref m10, .ref m11, .ref m12, .ref m13, .ref m14, .ref m15, .ref m16, .ref m17, .ref m18, .ref m19, .ref m20, .int 0, .ref m22, .ref m23, .ref m24, .ref m25, .ref m26, .ref m27, .int 0, .ref m29]))] sz)) 0 0 (va_A [(g0, .inr (5, [.int 0, .int 0, .int (-1), .ref m3, .int 0, .ref m5, .ref m6, .ref m7, .ref m8, .ref m9, .ref m10, .ref m11, .ref m12, .ref m13, .ref m14, .ref m15, .ref m16, .ref m17, .ref m18, .ref m19, .ref m20, .int 0, .ref m22, .ref m23, .ref m24, .ref m25, .ref m26, .ref m27, .int 0, .ref m29]))] sz) := by
  refine Met.ofW (cc := c_MO_planTo) (maxL := 2) (ret := (some .int)) (by decide) rfl ?_
  intro p e s m args below meth c s₁ B hml hv
  obtain ⟨rfl, ⟨hsz, hBs⟩, hP, hK, hD0, hV⟩ := hv
  have hx := B.exec
  have hb := B.bytes
  have hr := B.returns
  have ht : ∀ w ∈ tb_, w.before _ s = true := fun w h => atoms_spec (ws := w_MO_planTo) B.pre w (List.mem_cons_of_mem _ h)
  have hown : s.vm.findClass R_MO = some m.cls := findClass_of_methodNamed B.named
  have hlocks := B.notSynchronized
  subst hsz
  have hD := hD0.self (sz := s.heap.size)
  have hAB : ∀ q, va_A [(g0, .inr (5, [.int 0, .int 0, .int (-1), .ref m3, .int 0, .ref m5, .ref m6, .ref m7, .ref m8, .ref m9, .ref m10, .ref m11, .ref m12, .ref m13, .ref m14, .ref m15, .ref m16, .ref m17, .ref m18, .ref m19, .ref m20, .int 0, .ref m22, .ref m23, .ref m24, .ref m25, .ref m26, .ref m27, .int 0, .ref m29]))] s.heap.size q → Bd ≤ q := fr_AB hD0 hBs
  generalize hAe : va_A [(g0, .inr (5, [.int 0, .int 0, .int (-1), .ref m3, .int 0, .ref m5, .ref m6, .ref m7, .ref m8, .ref m9, .ref m10, .ref m11, .ref m12, .ref m13, .ref m14, .ref m15, .ref m16, .ref m17, .ref m18, .ref m19, .ref m20, .int 0, .ref m22, .ref m23, .ref m24, .ref m25, .ref m26, .ref m27, .int 0, .ref m29]))] s.heap.size = A at hD hAB ⊢
  have hA : ∀ q : Nat, s.heap.size ≤ q → A q := fun q h => by rw [← hAe]; exact Or.inr h
  have hS : va_S A s.heap s.heap [] := va_S.rf
  have hAO := hV.2.2.2.1
  have hN_PL := hV.2.2.1.1
  have hN_RW := hV.2.2.1.2
  have hP : va_P (dC, dI) cls_ [(g0, .inr (5, [.int 0, .int 0, .int (-1), .ref m3, .int 0, .ref m5, .ref m6, .ref m7, .ref m8, .ref m9, .ref m10, .ref m11, .ref m12, .ref m13, .ref m14, .ref m15, .ref m16, .ref m17, .ref m18, .ref m19, .ref m20, .int 0, .ref m22, .ref m23, .ref m24, .ref m25, .ref m26, .ref m27, .int 0, .ref m29]))] s.heap := hP
  have hl := lv_entry ([.ref g0, .int x]) (n := 2) (Nat.le_of_ble_eq_true rfl)
  rw [lg_entry_eq]
  generalize (lg_sl ([.ref g0, .int x]) ++ List.replicate (2 - (lg_sl ([.ref g0, .int x])).length) Slot.unset).toArray = ls at hl ⊢
  have hl : lv_has ls 2 [(0, .ref g0), (1, .int x)] := hl
  refine lv_aload_n hx hb d_MO_planTo_0 rfl (lv_at hl 0 rfl) ?_
  refine lv_aload_n hx hb d_MO_planTo_1 rfl (lv_at hl 0 rfl) ?_
  refine lv_iload_n hx hb d_MO_planTo_2 rfl (lv_at hl 1 rfl) ?_
  have hPc := hP.sub (ws' := [(g0, .inr (5, [.int 0, .int 0, .int (-1), .ref m3, .int 0, .ref m5, .ref m6, .ref m7, .ref m8, .ref m9, .ref m10, .ref m11, .ref m12, .ref m13, .ref m14, .ref m15, .ref m16, .ref m17, .ref m18, .ref m19, .ref m20, .int 0, .ref m22, .ref m23, .ref m24, .ref m25, .ref m26, .ref m27, .int 0, .ref m29]))]) [0] rfl
  have hKc := hK.sub (tys' := []) [] rfl
  refine rd_call (va_runV (C := R_MO) (As := [.int x]) (rest := [.ref g0]) ⟨hx, hb, hml, hown, ht⟩ (c_MO_isRequest_0 l dC dI g0 m3 m5 m6 m7 m8 m9 m10 m11 m12 m13 m14 m15 m16 m17 m18 m19 m20 m22 m23 m24 m25 m26 m27 m29 x) (cwV 1 ht (gV tb_744 tb_746 ts_24 tb_5 tb_747) rfl rfl rfl (by decide +kernel) ⟨Nat.le_of_ble_eq_true rfl, Nat.le_of_ble_eq_true rfl⟩) ⟨rdP_blind, va_recv (q := (R_MO, F_MO, 30)) hK hP rfl (show ([(g0, .inr (5, [.int 0, .int 0, .int (-1), .ref m3, .int 0, .ref m5, .ref m6, .ref m7, .ref m8, .ref m9, .ref m10, .ref m11, .ref m12, .ref m13, .ref m14, .ref m15, .ref m16, .ref m17, .ref m18, .ref m19, .ref m20, .int 0, .ref m22, .ref m23, .ref m24, .ref m25, .ref m26, .ref m27, .int 0, .ref m29]))] : va_W)[0]? = some (g0, .inr (5, [.int 0, .int 0, .int (-1), .ref m3, .int 0, .ref m5, .ref m6, .ref m7, .ref m8, .ref m9, .ref m10, .ref m11, .ref m12, .ref m13, .ref m14, .ref m15, .ref m16, .ref m17, .ref m18, .ref m19, .ref m20, .int 0, .ref m22, .ref m23, .ref m24, .ref m25, .ref m26, .ref m27, .int 0, .ref m29])) from rfl), rd_pre hPc hKc⟩ rfl rfl hl.1 rfl (lv_room (Nat.le_of_ble_eq_true rfl)) d_MO_planTo_3 ⟨Nat.le_of_ble_eq_true rfl, Nat.le_of_ble_eq_true rfl⟩) ?_
  refine W.eq (g2 := F0 m 6 ls [.int 0, .ref g0]) rfl ?_
  refine lv_if_eq (tgt := 13) hx hb d_MO_planTo_6 (by decide) (fun _ => ?_) (fun h9 => absurd (rfl) h9)
  refine lv_iconst (v := 1) hx hb d_MO_planTo_13 (by decide) ?_
  have hPc := hP.sub (ws' := [(g0, .inr (5, [.int 0, .int 0, .int (-1), .ref m3, .int 0, .ref m5, .ref m6, .ref m7, .ref m8, .ref m9, .ref m10, .ref m11, .ref m12, .ref m13, .ref m14, .ref m15, .ref m16, .ref m17, .ref m18, .ref m19, .ref m20, .int 0, .ref m22, .ref m23, .ref m24, .ref m25, .ref m26, .ref m27, .int 0, .ref m29]))]) [0] rfl
  have hKc := hK.sub (tys' := []) [] rfl
  have hDc := hD.sub (ws' := [(g0, .inr (5, [.int 0, .int 0, .int (-1), .ref m3, .int 0, .ref m5, .ref m6, .ref m7, .ref m8, .ref m9, .ref m10, .ref m11, .ref m12, .ref m13, .ref m14, .ref m15, .ref m16, .ref m17, .ref m18, .ref m19, .ref m20, .int 0, .ref m22, .ref m23, .ref m24, .ref m25, .ref m26, .ref m27, .int 0, .ref m29]))]) [0] (by decide) rfl
  have hFc := va_free (wc := [(g0, .inr (5, [.int 0, .int 0, .int (-1), .ref m3, .int 0, .ref m5, .ref m6, .ref m7, .ref m8, .ref m9, .ref m10, .ref m11, .ref m12, .ref m13, .ref m14, .ref m15, .ref m16, .ref m17, .ref m18, .ref m19, .ref m20, .int 0, .ref m22, .ref m23, .ref m24, .ref m25, .ref m26, .ref m27, .int 0, .ref m29]))]) hD hS hA [0] rfl
  refine fr_call (va_runV (C := R_MO) (As := [.int 1]) (rest := []) ⟨hx, hb, hml, hown, ht⟩ (c_MO_refused_yes l dC dI s.heap.size Bd g0 m3 m5 m6 m7 m8 m9 m10 m11 m12 m13 m14 m15 m16 m17 m18 m19 m20 m22 m23 m24 m25 m26 m27 m29 0 0) (cwV 1 ht (gV tb_736 tb_738 ts_23 tb_5 tb_739) rfl rfl rfl (by decide +kernel) ⟨Nat.le_of_ble_eq_true rfl, Nat.le_of_ble_eq_true rfl⟩) ⟨frP_blind, va_recv (q := (R_MO, F_MO, 30)) hK hP rfl (show ([(g0, .inr (5, [.int 0, .int 0, .int (-1), .ref m3, .int 0, .ref m5, .ref m6, .ref m7, .ref m8, .ref m9, .ref m10, .ref m11, .ref m12, .ref m13, .ref m14, .ref m15, .ref m16, .ref m17, .ref m18, .ref m19, .ref m20, .int 0, .ref m22, .ref m23, .ref m24, .ref m25, .ref m26, .ref m27, .int 0, .ref m29]))] : va_W)[0]? = some (g0, .inr (5, [.int 0, .int 0, .int (-1), .ref m3, .int 0, .ref m5, .ref m6, .ref m7, .ref m8, .ref m9, .ref m10, .ref m11, .ref m12, .ref m13, .ref m14, .ref m15, .ref m16, .ref m17, .ref m18, .ref m19, .ref m20, .int 0, .ref m22, .ref m23, .ref m24, .ref m25, .ref m26, .ref m27, .int 0, .ref m29])) from rfl), fr_pre hPc hKc hDc hAB hBs hS hV⟩ rfl rfl hl.1 rfl (lv_room (Nat.le_of_ble_eq_true rfl)) d_MO_planTo_14 ⟨Nat.le_of_ble_eq_true rfl, Nat.le_of_ble_eq_true rfl⟩) hS (fun q _ h => hFc q h) hFc (fun t H1 locs ht1 hvm hB1 hz1 hk1 hS => ?_)
  obtain ⟨hP1, hK1, hD1⟩ := hB1
  rw [ht1] at hP1
  have hK1 := va_K.moved hvm.symm hK1
  obtain ⟨hP, hD⟩ := va_join (wr := []) (w1 := [(g0, .inr (5, [.int 1, .int 0, .int (-1), .ref m3, .int 0, .ref m5, .ref m6, .ref m7, .ref m8, .ref m9, .ref m10, .ref m11, .ref m12, .ref m13, .ref m14, .ref m15, .ref m16, .ref m17, .ref m18, .ref m19, .ref m20, .int 0, .ref m22, .ref m23, .ref m24, .ref m25, .ref m26, .ref m27, .int 0, .ref m29]))]) hP hD [0] [] rfl rfl (by decide) (by decide) hk1 hFc hP1 hD1
  have hK := hK.app hK1
  generalize H1 = H at hP hS ⊢
  have hP : va_P (dC, dI) cls_ [(g0, .inr (5, [.int 1, .int 0, .int (-1), .ref m3, .int 0, .ref m5, .ref m6, .ref m7, .ref m8, .ref m9, .ref m10, .ref m11, .ref m12, .ref m13, .ref m14, .ref m15, .ref m16, .ref m17, .ref m18, .ref m19, .ref m20, .int 0, .ref m22, .ref m23, .ref m24, .ref m25, .ref m26, .ref m27, .int 0, .ref m29]))] H := hP
  have hD : va_D A [(g0, .inr (5, [.int 1, .int 0, .int (-1), .ref m3, .int 0, .ref m5, .ref m6, .ref m7, .ref m8, .ref m9, .ref m10, .ref m11, .ref m12, .ref m13, .ref m14, .ref m15, .ref m16, .ref m17, .ref m18, .ref m19, .ref m20, .int 0, .ref m22, .ref m23, .ref m24, .ref m25, .ref m26, .ref m27, .int 0, .ref m29]))] := hD
  have hK : va_K (dC, dI) cls_ [] s := hK
  refine W.eq (g2 := F0 m 17 ls [.int 1]) rfl ?_
  refine W.cs (cells' := 0) (slots' := 0) rfl rfl ?_
  refine lv_if_eq (tgt := 22) hx hb d_MO_planTo_17 (by decide) (fun h9 => absurd h9 (by decide)) (fun _ => ?_)
  refine lv_iconst (v := 0) hx hb d_MO_planTo_20 (by decide) ?_
  have hP9 := hP.sub (ws' := [(g0, .inr (5, [.int 1, .int 0, .int (-1), .ref m3, .int 0, .ref m5, .ref m6, .ref m7, .ref m8, .ref m9, .ref m10, .ref m11, .ref m12, .ref m13, .ref m14, .ref m15, .ref m16, .ref m17, .ref m18, .ref m19, .ref m20, .int 0, .ref m22, .ref m23, .ref m24, .ref m25, .ref m26, .ref m27, .int 0, .ref m29]))]) [0] rfl
  have hD9 := hD.sub (ws' := [(g0, .inr (5, [.int 1, .int 0, .int (-1), .ref m3, .int 0, .ref m5, .ref m6, .ref m7, .ref m8, .ref m9, .ref m10, .ref m11, .ref m12, .ref m13, .ref m14, .ref m15, .ref m16, .ref m17, .ref m18, .ref m19, .ref m20, .int 0, .ref m22, .ref m23, .ref m24, .ref m25, .ref m26, .ref m27, .int 0, .ref m29]))]) [0] (by decide) rfl
  have hK9 := hK.sub (tys' := []) [] rfl
  exact W.iret (v := 0) hx hb hr (fun t ht9 hW => ⟨rfl, ⟨by rw [ht9]; exact hP9, va_K.moved hW.alike hK9, hD9⟩, hS.F ht9⟩) hS.2.2 d_MO_planTo_21
set_option maxHeartbeats 4000000 in
set_option maxRecDepth 100000 in
theorem c_MO_recorded_bad (l : Launch) (dC : Nat → ClassId) (dI : Nat → Nat → Nat) (sz Bd : Nat) (g0 m3 m5 m6 m7 m8 m9 m10 m11 m12 m13 m14 m15 m16 m17 m18 m19 m20 m22 m23 m24 m25 m26 m27 m29 : Nat) (x : Int32) : Met l y_MO_recorded w_MO_recorded ({ frames := 1, cells := 0, slots := 0, locals := 21 }) (frP (dC, dI) [(g0, .inr (5, [.int 0, .int 0, .int (-1), .ref m3, .int 0, .ref m5, .ref m6, .ref m7, .ref m8, .ref m9, .ref m10, .ref m11, .ref m12, .ref m13, .ref m14, .ref m15, .ref m16, .ref m17, .ref m18, .ref m19, .ref m20, .int 0, .ref m22, .ref m23, .ref m24, .ref m25, .ref m26, .ref m27, .int 0, .ref m29]))] [] sz Bd [.ref g0, .int x]) (frQ (some (.int 0)) (fun t => va_P (dC, dI) cls_ [(g0, .inr (5, [.int 1, .int 0, .int (-1), .ref m3, .int 0, .ref m5, .ref m6, .ref m7, .ref m8, .ref m9, .ref m10, .ref m11, .ref m12, .ref m13, .ref m14, .ref m15, .ref m16, .ref m17, .ref m18, .ref m19, .ref m20, .int 0, .ref m22, .ref m23, .ref m24, .ref m25, .ref m26, .ref m27, .int 0, .ref m29]))] t.heap ∧ va_K (dC, dI) cls_ [] t ∧ va_D (va_A [(g0, .inr (5, [.int 0, .int 0, .int (-1), .ref m3, .int 0, .ref m5, .ref m6, .ref m7, .ref m8, .ref m9, .ref m10, .ref m11, .ref m12, .ref m13, .ref m14, .ref m15, .ref m16, .ref m17, .ref m18, .ref m19, .ref m20, .int 0, .ref m22, .ref m23, .ref m24, .ref m25, .ref m26, .ref m27, .int 0, .ref m29]))] sz) [(g0, .inr (5, [.int 1, .int 0, .int (-1), .ref m3, .int 0, .ref m5, .ref m6, .ref m7, .ref m8, .ref m9, .ref m10, .ref m11, .ref m12, .ref m13, .ref m14, .ref m15, .ref m16, .ref m17, .ref m18, .ref m19, .ref m20, .int 0, .ref m22, .ref m23, .ref m24, .ref m25, .ref m26, .ref m27, .int 0, .ref m29]))]) (va_A [(g0, .inr (5, [.int 0, .int 0, .int (-1), .ref m3, .int 0, .ref m5, .ref m6, .ref m7, .ref m8, .ref m9, .ref m10, .ref m11, .ref m12, .ref m13, .ref m14, .ref m15, .ref m16, .ref m17, .ref m18, .ref m19, .ref m20, .int 0, .ref m22, .ref m23, .ref m24, .ref m25, .ref m26, .ref m27, .int 0, .ref m29]))] sz)) 0 0 (va_A [(g0, .inr (5, [.int 0, .int 0, .int (-1), .ref m3, .int 0, .ref m5, .ref m6, .ref m7, .ref m8, .ref m9, .ref m10, .ref m11, .ref m12, .ref m13, .ref m14, .ref m15, .ref m16, .ref m17, .ref m18, .ref m19, .ref m20, .int 0, .ref m22, .ref m23, .ref m24, .ref m25, .ref m26, .ref m27, .int 0, .ref m29]))] sz) := by
  refine Met.ofW (cc := c_MO_recorded) (maxL := 4) (ret := (some .int)) (by decide) rfl ?_
  intro p e s m args below meth c s₁ B hml hv
  obtain ⟨rfl, ⟨hsz, hBs⟩, hP, hK, hD0, hV⟩ := hv
  have hx := B.exec
  have hb := B.bytes
  have hr := B.returns
  have ht : ∀ w ∈ tb_, w.before _ s = true := fun w h => atoms_spec (ws := w_MO_recorded) B.pre w (List.mem_cons_of_mem _ h)
  have hown : s.vm.findClass R_MO = some m.cls := findClass_of_methodNamed B.named
  have hlocks := B.notSynchronized
  subst hsz
  have hD := hD0.self (sz := s.heap.size)
  have hAB : ∀ q, va_A [(g0, .inr (5, [.int 0, .int 0, .int (-1), .ref m3, .int 0, .ref m5, .ref m6, .ref m7, .ref m8, .ref m9, .ref m10, .ref m11, .ref m12, .ref m13, .ref m14, .ref m15, .ref m16, .ref m17, .ref m18, .ref m19, .ref m20, .int 0, .ref m22, .ref m23, .ref m24, .ref m25, .ref m26, .ref m27, .int 0, .ref m29]))] s.heap.size q → Bd ≤ q := fr_AB hD0 hBs
  generalize hAe : va_A [(g0, .inr (5, [.int 0, .int 0, .int (-1), .ref m3, .int 0, .ref m5, .ref m6, .ref m7, .ref m8, .ref m9, .ref m10, .ref m11, .ref m12, .ref m13, .ref m14, .ref m15, .ref m16, .ref m17, .ref m18, .ref m19, .ref m20, .int 0, .ref m22, .ref m23, .ref m24, .ref m25, .ref m26, .ref m27, .int 0, .ref m29]))] s.heap.size = A at hD hAB ⊢
  have hA : ∀ q : Nat, s.heap.size ≤ q → A q := fun q h => by rw [← hAe]; exact Or.inr h
  have hS : va_S A s.heap s.heap [] := va_S.rf
  have hAO := hV.2.2.2.1
  have hN_PL := hV.2.2.1.1
  have hN_RW := hV.2.2.1.2
  have hP : va_P (dC, dI) cls_ [(g0, .inr (5, [.int 0, .int 0, .int (-1), .ref m3, .int 0, .ref m5, .ref m6, .ref m7, .ref m8, .ref m9, .ref m10, .ref m11, .ref m12, .ref m13, .ref m14, .ref m15, .ref m16, .ref m17, .ref m18, .ref m19, .ref m20, .int 0, .ref m22, .ref m23, .ref m24, .ref m25, .ref m26, .ref m27, .int 0, .ref m29]))] s.heap := hP
  have hl := lv_entry ([.ref g0, .int x]) (n := 4) (Nat.le_of_ble_eq_true rfl)
  rw [lg_entry_eq]
  generalize (lg_sl ([.ref g0, .int x]) ++ List.replicate (4 - (lg_sl ([.ref g0, .int x])).length) Slot.unset).toArray = ls at hl ⊢
  have hl : lv_has ls 4 [(0, .ref g0), (1, .int x)] := hl
  refine lv_aload_n hx hb d_MO_recorded_0 rfl (lv_at hl 0 rfl) ?_
  refine lv_aload_n hx hb d_MO_recorded_1 rfl (lv_at hl 0 rfl) ?_
  refine lv_iload_n hx hb d_MO_recorded_2 rfl (lv_at hl 1 rfl) ?_
  have hPc := hP.sub (ws' := [(g0, .inr (5, [.int 0, .int 0, .int (-1), .ref m3, .int 0, .ref m5, .ref m6, .ref m7, .ref m8, .ref m9, .ref m10, .ref m11, .ref m12, .ref m13, .ref m14, .ref m15, .ref m16, .ref m17, .ref m18, .ref m19, .ref m20, .int 0, .ref m22, .ref m23, .ref m24, .ref m25, .ref m26, .ref m27, .int 0, .ref m29]))]) [0] rfl
  have hKc := hK.sub (tys' := []) [] rfl
  refine rd_call (va_runV (C := R_MO) (As := [.int x]) (rest := [.ref g0]) ⟨hx, hb, hml, hown, ht⟩ (c_MO_isRequest_0 l dC dI g0 m3 m5 m6 m7 m8 m9 m10 m11 m12 m13 m14 m15 m16 m17 m18 m19 m20 m22 m23 m24 m25 m26 m27 m29 x) (cwV 1 ht (gV tb_744 tb_746 ts_24 tb_5 tb_747) rfl rfl rfl (by decide +kernel) ⟨Nat.le_of_ble_eq_true rfl, Nat.le_of_ble_eq_true rfl⟩) ⟨rdP_blind, va_recv (q := (R_MO, F_MO, 30)) hK hP rfl (show ([(g0, .inr (5, [.int 0, .int 0, .int (-1), .ref m3, .int 0, .ref m5, .ref m6, .ref m7, .ref m8, .ref m9, .ref m10, .ref m11, .ref m12, .ref m13, .ref m14, .ref m15, .ref m16, .ref m17, .ref m18, .ref m19, .ref m20, .int 0, .ref m22, .ref m23, .ref m24, .ref m25, .ref m26, .ref m27, .int 0, .ref m29]))] : va_W)[0]? = some (g0, .inr (5, [.int 0, .int 0, .int (-1), .ref m3, .int 0, .ref m5, .ref m6, .ref m7, .ref m8, .ref m9, .ref m10, .ref m11, .ref m12, .ref m13, .ref m14, .ref m15, .ref m16, .ref m17, .ref m18, .ref m19, .ref m20, .int 0, .ref m22, .ref m23, .ref m24, .ref m25, .ref m26, .ref m27, .int 0, .ref m29])) from rfl), rd_pre hPc hKc⟩ rfl rfl hl.1 rfl (lv_room (Nat.le_of_ble_eq_true rfl)) d_MO_recorded_3 ⟨Nat.le_of_ble_eq_true rfl, Nat.le_of_ble_eq_true rfl⟩) ?_
  refine W.eq (g2 := F0 m 6 ls [.int 0, .ref g0]) rfl ?_
  refine lv_if_eq (tgt := 13) hx hb d_MO_recorded_6 (by decide) (fun _ => ?_) (fun h9 => absurd (rfl) h9)
  refine lv_iconst (v := 1) hx hb d_MO_recorded_13 (by decide) ?_
  have hPc := hP.sub (ws' := [(g0, .inr (5, [.int 0, .int 0, .int (-1), .ref m3, .int 0, .ref m5, .ref m6, .ref m7, .ref m8, .ref m9, .ref m10, .ref m11, .ref m12, .ref m13, .ref m14, .ref m15, .ref m16, .ref m17, .ref m18, .ref m19, .ref m20, .int 0, .ref m22, .ref m23, .ref m24, .ref m25, .ref m26, .ref m27, .int 0, .ref m29]))]) [0] rfl
  have hKc := hK.sub (tys' := []) [] rfl
  have hDc := hD.sub (ws' := [(g0, .inr (5, [.int 0, .int 0, .int (-1), .ref m3, .int 0, .ref m5, .ref m6, .ref m7, .ref m8, .ref m9, .ref m10, .ref m11, .ref m12, .ref m13, .ref m14, .ref m15, .ref m16, .ref m17, .ref m18, .ref m19, .ref m20, .int 0, .ref m22, .ref m23, .ref m24, .ref m25, .ref m26, .ref m27, .int 0, .ref m29]))]) [0] (by decide) rfl
  have hFc := va_free (wc := [(g0, .inr (5, [.int 0, .int 0, .int (-1), .ref m3, .int 0, .ref m5, .ref m6, .ref m7, .ref m8, .ref m9, .ref m10, .ref m11, .ref m12, .ref m13, .ref m14, .ref m15, .ref m16, .ref m17, .ref m18, .ref m19, .ref m20, .int 0, .ref m22, .ref m23, .ref m24, .ref m25, .ref m26, .ref m27, .int 0, .ref m29]))]) hD hS hA [0] rfl
  refine fr_call (va_runV (C := R_MO) (As := [.int 1]) (rest := []) ⟨hx, hb, hml, hown, ht⟩ (c_MO_refused_yes l dC dI s.heap.size Bd g0 m3 m5 m6 m7 m8 m9 m10 m11 m12 m13 m14 m15 m16 m17 m18 m19 m20 m22 m23 m24 m25 m26 m27 m29 0 0) (cwV 1 ht (gV tb_736 tb_738 ts_23 tb_5 tb_739) rfl rfl rfl (by decide +kernel) ⟨Nat.le_of_ble_eq_true rfl, Nat.le_of_ble_eq_true rfl⟩) ⟨frP_blind, va_recv (q := (R_MO, F_MO, 30)) hK hP rfl (show ([(g0, .inr (5, [.int 0, .int 0, .int (-1), .ref m3, .int 0, .ref m5, .ref m6, .ref m7, .ref m8, .ref m9, .ref m10, .ref m11, .ref m12, .ref m13, .ref m14, .ref m15, .ref m16, .ref m17, .ref m18, .ref m19, .ref m20, .int 0, .ref m22, .ref m23, .ref m24, .ref m25, .ref m26, .ref m27, .int 0, .ref m29]))] : va_W)[0]? = some (g0, .inr (5, [.int 0, .int 0, .int (-1), .ref m3, .int 0, .ref m5, .ref m6, .ref m7, .ref m8, .ref m9, .ref m10, .ref m11, .ref m12, .ref m13, .ref m14, .ref m15, .ref m16, .ref m17, .ref m18, .ref m19, .ref m20, .int 0, .ref m22, .ref m23, .ref m24, .ref m25, .ref m26, .ref m27, .int 0, .ref m29])) from rfl), fr_pre hPc hKc hDc hAB hBs hS hV⟩ rfl rfl hl.1 rfl (lv_room (Nat.le_of_ble_eq_true rfl)) d_MO_recorded_14 ⟨Nat.le_of_ble_eq_true rfl, Nat.le_of_ble_eq_true rfl⟩) hS (fun q _ h => hFc q h) hFc (fun t H1 locs ht1 hvm hB1 hz1 hk1 hS => ?_)
  obtain ⟨hP1, hK1, hD1⟩ := hB1
  rw [ht1] at hP1
  have hK1 := va_K.moved hvm.symm hK1
  obtain ⟨hP, hD⟩ := va_join (wr := []) (w1 := [(g0, .inr (5, [.int 1, .int 0, .int (-1), .ref m3, .int 0, .ref m5, .ref m6, .ref m7, .ref m8, .ref m9, .ref m10, .ref m11, .ref m12, .ref m13, .ref m14, .ref m15, .ref m16, .ref m17, .ref m18, .ref m19, .ref m20, .int 0, .ref m22, .ref m23, .ref m24, .ref m25, .ref m26, .ref m27, .int 0, .ref m29]))]) hP hD [0] [] rfl rfl (by decide) (by decide) hk1 hFc hP1 hD1
  have hK := hK.app hK1
  generalize H1 = H at hP hS ⊢
  have hP : va_P (dC, dI) cls_ [(g0, .inr (5, [.int 1, .int 0, .int (-1), .ref m3, .int 0, .ref m5, .ref m6, .ref m7, .ref m8, .ref m9, .ref m10, .ref m11, .ref m12, .ref m13, .ref m14, .ref m15, .ref m16, .ref m17, .ref m18, .ref m19, .ref m20, .int 0, .ref m22, .ref m23, .ref m24, .ref m25, .ref m26, .ref m27, .int 0, .ref m29]))] H := hP
  have hD : va_D A [(g0, .inr (5, [.int 1, .int 0, .int (-1), .ref m3, .int 0, .ref m5, .ref m6, .ref m7, .ref m8, .ref m9, .ref m10, .ref m11, .ref m12, .ref m13, .ref m14, .ref m15, .ref m16, .ref m17, .ref m18, .ref m19, .ref m20, .int 0, .ref m22, .ref m23, .ref m24, .ref m25, .ref m26, .ref m27, .int 0, .ref m29]))] := hD
  have hK : va_K (dC, dI) cls_ [] s := hK
  refine W.eq (g2 := F0 m 17 ls [.int 1]) rfl ?_
  refine W.cs (cells' := 0) (slots' := 0) rfl rfl ?_
  refine lv_if_eq (tgt := 22) hx hb d_MO_recorded_17 (by decide) (fun h9 => absurd h9 (by decide)) (fun _ => ?_)
  refine lv_iconst (v := 0) hx hb d_MO_recorded_20 (by decide) ?_
  have hP9 := hP.sub (ws' := [(g0, .inr (5, [.int 1, .int 0, .int (-1), .ref m3, .int 0, .ref m5, .ref m6, .ref m7, .ref m8, .ref m9, .ref m10, .ref m11, .ref m12, .ref m13, .ref m14, .ref m15, .ref m16, .ref m17, .ref m18, .ref m19, .ref m20, .int 0, .ref m22, .ref m23, .ref m24, .ref m25, .ref m26, .ref m27, .int 0, .ref m29]))]) [0] rfl
  have hD9 := hD.sub (ws' := [(g0, .inr (5, [.int 1, .int 0, .int (-1), .ref m3, .int 0, .ref m5, .ref m6, .ref m7, .ref m8, .ref m9, .ref m10, .ref m11, .ref m12, .ref m13, .ref m14, .ref m15, .ref m16, .ref m17, .ref m18, .ref m19, .ref m20, .int 0, .ref m22, .ref m23, .ref m24, .ref m25, .ref m26, .ref m27, .int 0, .ref m29]))]) [0] (by decide) rfl
  have hK9 := hK.sub (tys' := []) [] rfl
  exact W.iret (v := 0) hx hb hr (fun t ht9 hW => ⟨rfl, ⟨by rw [ht9]; exact hP9, va_K.moved hW.alike hK9, hD9⟩, hS.F ht9⟩) hS.2.2 d_MO_recorded_21
set_option maxHeartbeats 4000000 in
set_option maxRecDepth 100000 in
theorem c_MO_shortBy_bad (l : Launch) (dC : Nat → ClassId) (dI : Nat → Nat → Nat) (sz Bd : Nat) (g0 m3 m5 m6 m7 m8 m9 m10 m11 m12 m13 m14 m15 m16 m17 m18 m19 m20 m22 m23 m24 m25 m26 m27 m29 : Nat) (x : Int32) : Met l y_MO_shortBy w_MO_shortBy ({ frames := 1, cells := 0, slots := 0, locals := 21 }) (frP (dC, dI) [(g0, .inr (5, [.int 0, .int 0, .int (-1), .ref m3, .int 0, .ref m5, .ref m6, .ref m7, .ref m8, .ref m9, .ref m10, .ref m11, .ref m12, .ref m13, .ref m14, .ref m15, .ref m16, .ref m17, .ref m18, .ref m19, .ref m20, .int 0, .ref m22, .ref m23, .ref m24, .ref m25, .ref m26, .ref m27, .int 0, .ref m29]))] [] sz Bd [.ref g0, .int x]) (frQ (some (.int 0)) (fun t => va_P (dC, dI) cls_ [(g0, .inr (5, [.int 1, .int 0, .int (-1), .ref m3, .int 0, .ref m5, .ref m6, .ref m7, .ref m8, .ref m9, .ref m10, .ref m11, .ref m12, .ref m13, .ref m14, .ref m15, .ref m16, .ref m17, .ref m18, .ref m19, .ref m20, .int 0, .ref m22, .ref m23, .ref m24, .ref m25, .ref m26, .ref m27, .int 0, .ref m29]))] t.heap ∧ va_K (dC, dI) cls_ [] t ∧ va_D (va_A [(g0, .inr (5, [.int 0, .int 0, .int (-1), .ref m3, .int 0, .ref m5, .ref m6, .ref m7, .ref m8, .ref m9, .ref m10, .ref m11, .ref m12, .ref m13, .ref m14, .ref m15, .ref m16, .ref m17, .ref m18, .ref m19, .ref m20, .int 0, .ref m22, .ref m23, .ref m24, .ref m25, .ref m26, .ref m27, .int 0, .ref m29]))] sz) [(g0, .inr (5, [.int 1, .int 0, .int (-1), .ref m3, .int 0, .ref m5, .ref m6, .ref m7, .ref m8, .ref m9, .ref m10, .ref m11, .ref m12, .ref m13, .ref m14, .ref m15, .ref m16, .ref m17, .ref m18, .ref m19, .ref m20, .int 0, .ref m22, .ref m23, .ref m24, .ref m25, .ref m26, .ref m27, .int 0, .ref m29]))]) (va_A [(g0, .inr (5, [.int 0, .int 0, .int (-1), .ref m3, .int 0, .ref m5, .ref m6, .ref m7, .ref m8, .ref m9, .ref m10, .ref m11, .ref m12, .ref m13, .ref m14, .ref m15, .ref m16, .ref m17, .ref m18, .ref m19, .ref m20, .int 0, .ref m22, .ref m23, .ref m24, .ref m25, .ref m26, .ref m27, .int 0, .ref m29]))] sz)) 0 0 (va_A [(g0, .inr (5, [.int 0, .int 0, .int (-1), .ref m3, .int 0, .ref m5, .ref m6, .ref m7, .ref m8, .ref m9, .ref m10, .ref m11, .ref m12, .ref m13, .ref m14, .ref m15, .ref m16, .ref m17, .ref m18, .ref m19, .ref m20, .int 0, .ref m22, .ref m23, .ref m24, .ref m25, .ref m26, .ref m27, .int 0, .ref m29]))] sz) := by
  refine Met.ofW (cc := c_MO_shortBy) (maxL := 2) (ret := (some .int)) (by decide) rfl ?_
  intro p e s m args below meth c s₁ B hml hv
  obtain ⟨rfl, ⟨hsz, hBs⟩, hP, hK, hD0, hV⟩ := hv
  have hx := B.exec
  have hb := B.bytes
  have hr := B.returns
  have ht : ∀ w ∈ tb_, w.before _ s = true := fun w h => atoms_spec (ws := w_MO_shortBy) B.pre w (List.mem_cons_of_mem _ h)
  have hown : s.vm.findClass R_MO = some m.cls := findClass_of_methodNamed B.named
  have hlocks := B.notSynchronized
  subst hsz
  have hD := hD0.self (sz := s.heap.size)
  have hAB : ∀ q, va_A [(g0, .inr (5, [.int 0, .int 0, .int (-1), .ref m3, .int 0, .ref m5, .ref m6, .ref m7, .ref m8, .ref m9, .ref m10, .ref m11, .ref m12, .ref m13, .ref m14, .ref m15, .ref m16, .ref m17, .ref m18, .ref m19, .ref m20, .int 0, .ref m22, .ref m23, .ref m24, .ref m25, .ref m26, .ref m27, .int 0, .ref m29]))] s.heap.size q → Bd ≤ q := fr_AB hD0 hBs
  generalize hAe : va_A [(g0, .inr (5, [.int 0, .int 0, .int (-1), .ref m3, .int 0, .ref m5, .ref m6, .ref m7, .ref m8, .ref m9, .ref m10, .ref m11, .ref m12, .ref m13, .ref m14, .ref m15, .ref m16, .ref m17, .ref m18, .ref m19, .ref m20, .int 0, .ref m22, .ref m23, .ref m24, .ref m25, .ref m26, .ref m27, .int 0, .ref m29]))] s.heap.size = A at hD hAB ⊢
  have hA : ∀ q : Nat, s.heap.size ≤ q → A q := fun q h => by rw [← hAe]; exact Or.inr h
  have hS : va_S A s.heap s.heap [] := va_S.rf
  have hAO := hV.2.2.2.1
  have hN_PL := hV.2.2.1.1
  have hN_RW := hV.2.2.1.2
  have hP : va_P (dC, dI) cls_ [(g0, .inr (5, [.int 0, .int 0, .int (-1), .ref m3, .int 0, .ref m5, .ref m6, .ref m7, .ref m8, .ref m9, .ref m10, .ref m11, .ref m12, .ref m13, .ref m14, .ref m15, .ref m16, .ref m17, .ref m18, .ref m19, .ref m20, .int 0, .ref m22, .ref m23, .ref m24, .ref m25, .ref m26, .ref m27, .int 0, .ref m29]))] s.heap := hP
  have hl := lv_entry ([.ref g0, .int x]) (n := 2) (Nat.le_of_ble_eq_true rfl)
  rw [lg_entry_eq]
  generalize (lg_sl ([.ref g0, .int x]) ++ List.replicate (2 - (lg_sl ([.ref g0, .int x])).length) Slot.unset).toArray = ls at hl ⊢
  have hl : lv_has ls 2 [(0, .ref g0), (1, .int x)] := hl
  refine lv_aload_n hx hb d_MO_shortBy_0 rfl (lv_at hl 0 rfl) ?_
  refine lv_aload_n hx hb d_MO_shortBy_1 rfl (lv_at hl 0 rfl) ?_
  refine lv_iload_n hx hb d_MO_shortBy_2 rfl (lv_at hl 1 rfl) ?_
  have hPc := hP.sub (ws' := [(g0, .inr (5, [.int 0, .int 0, .int (-1), .ref m3, .int 0, .ref m5, .ref m6, .ref m7, .ref m8, .ref m9, .ref m10, .ref m11, .ref m12, .ref m13, .ref m14, .ref m15, .ref m16, .ref m17, .ref m18, .ref m19, .ref m20, .int 0, .ref m22, .ref m23, .ref m24, .ref m25, .ref m26, .ref m27, .int 0, .ref m29]))]) [0] rfl
  have hKc := hK.sub (tys' := []) [] rfl
  refine rd_call (va_runV (C := R_MO) (As := [.int x]) (rest := [.ref g0]) ⟨hx, hb, hml, hown, ht⟩ (c_MO_isRequest_0 l dC dI g0 m3 m5 m6 m7 m8 m9 m10 m11 m12 m13 m14 m15 m16 m17 m18 m19 m20 m22 m23 m24 m25 m26 m27 m29 x) (cwV 1 ht (gV tb_744 tb_746 ts_24 tb_5 tb_747) rfl rfl rfl (by decide +kernel) ⟨Nat.le_of_ble_eq_true rfl, Nat.le_of_ble_eq_true rfl⟩) ⟨rdP_blind, va_recv (q := (R_MO, F_MO, 30)) hK hP rfl (show ([(g0, .inr (5, [.int 0, .int 0, .int (-1), .ref m3, .int 0, .ref m5, .ref m6, .ref m7, .ref m8, .ref m9, .ref m10, .ref m11, .ref m12, .ref m13, .ref m14, .ref m15, .ref m16, .ref m17, .ref m18, .ref m19, .ref m20, .int 0, .ref m22, .ref m23, .ref m24, .ref m25, .ref m26, .ref m27, .int 0, .ref m29]))] : va_W)[0]? = some (g0, .inr (5, [.int 0, .int 0, .int (-1), .ref m3, .int 0, .ref m5, .ref m6, .ref m7, .ref m8, .ref m9, .ref m10, .ref m11, .ref m12, .ref m13, .ref m14, .ref m15, .ref m16, .ref m17, .ref m18, .ref m19, .ref m20, .int 0, .ref m22, .ref m23, .ref m24, .ref m25, .ref m26, .ref m27, .int 0, .ref m29])) from rfl), rd_pre hPc hKc⟩ rfl rfl hl.1 rfl (lv_room (Nat.le_of_ble_eq_true rfl)) d_MO_shortBy_3 ⟨Nat.le_of_ble_eq_true rfl, Nat.le_of_ble_eq_true rfl⟩) ?_
  refine W.eq (g2 := F0 m 6 ls [.int 0, .ref g0]) rfl ?_
  refine lv_if_eq (tgt := 13) hx hb d_MO_shortBy_6 (by decide) (fun _ => ?_) (fun h9 => absurd (rfl) h9)
  refine lv_iconst (v := 1) hx hb d_MO_shortBy_13 (by decide) ?_
  have hPc := hP.sub (ws' := [(g0, .inr (5, [.int 0, .int 0, .int (-1), .ref m3, .int 0, .ref m5, .ref m6, .ref m7, .ref m8, .ref m9, .ref m10, .ref m11, .ref m12, .ref m13, .ref m14, .ref m15, .ref m16, .ref m17, .ref m18, .ref m19, .ref m20, .int 0, .ref m22, .ref m23, .ref m24, .ref m25, .ref m26, .ref m27, .int 0, .ref m29]))]) [0] rfl
  have hKc := hK.sub (tys' := []) [] rfl
  have hDc := hD.sub (ws' := [(g0, .inr (5, [.int 0, .int 0, .int (-1), .ref m3, .int 0, .ref m5, .ref m6, .ref m7, .ref m8, .ref m9, .ref m10, .ref m11, .ref m12, .ref m13, .ref m14, .ref m15, .ref m16, .ref m17, .ref m18, .ref m19, .ref m20, .int 0, .ref m22, .ref m23, .ref m24, .ref m25, .ref m26, .ref m27, .int 0, .ref m29]))]) [0] (by decide) rfl
  have hFc := va_free (wc := [(g0, .inr (5, [.int 0, .int 0, .int (-1), .ref m3, .int 0, .ref m5, .ref m6, .ref m7, .ref m8, .ref m9, .ref m10, .ref m11, .ref m12, .ref m13, .ref m14, .ref m15, .ref m16, .ref m17, .ref m18, .ref m19, .ref m20, .int 0, .ref m22, .ref m23, .ref m24, .ref m25, .ref m26, .ref m27, .int 0, .ref m29]))]) hD hS hA [0] rfl
  refine fr_call (va_runV (C := R_MO) (As := [.int 1]) (rest := []) ⟨hx, hb, hml, hown, ht⟩ (c_MO_refused_yes l dC dI s.heap.size Bd g0 m3 m5 m6 m7 m8 m9 m10 m11 m12 m13 m14 m15 m16 m17 m18 m19 m20 m22 m23 m24 m25 m26 m27 m29 0 0) (cwV 1 ht (gV tb_736 tb_738 ts_23 tb_5 tb_739) rfl rfl rfl (by decide +kernel) ⟨Nat.le_of_ble_eq_true rfl, Nat.le_of_ble_eq_true rfl⟩) ⟨frP_blind, va_recv (q := (R_MO, F_MO, 30)) hK hP rfl (show ([(g0, .inr (5, [.int 0, .int 0, .int (-1), .ref m3, .int 0, .ref m5, .ref m6, .ref m7, .ref m8, .ref m9, .ref m10, .ref m11, .ref m12, .ref m13, .ref m14, .ref m15, .ref m16, .ref m17, .ref m18, .ref m19, .ref m20, .int 0, .ref m22, .ref m23, .ref m24, .ref m25, .ref m26, .ref m27, .int 0, .ref m29]))] : va_W)[0]? = some (g0, .inr (5, [.int 0, .int 0, .int (-1), .ref m3, .int 0, .ref m5, .ref m6, .ref m7, .ref m8, .ref m9, .ref m10, .ref m11, .ref m12, .ref m13, .ref m14, .ref m15, .ref m16, .ref m17, .ref m18, .ref m19, .ref m20, .int 0, .ref m22, .ref m23, .ref m24, .ref m25, .ref m26, .ref m27, .int 0, .ref m29])) from rfl), fr_pre hPc hKc hDc hAB hBs hS hV⟩ rfl rfl hl.1 rfl (lv_room (Nat.le_of_ble_eq_true rfl)) d_MO_shortBy_14 ⟨Nat.le_of_ble_eq_true rfl, Nat.le_of_ble_eq_true rfl⟩) hS (fun q _ h => hFc q h) hFc (fun t H1 locs ht1 hvm hB1 hz1 hk1 hS => ?_)
  obtain ⟨hP1, hK1, hD1⟩ := hB1
  rw [ht1] at hP1
  have hK1 := va_K.moved hvm.symm hK1
  obtain ⟨hP, hD⟩ := va_join (wr := []) (w1 := [(g0, .inr (5, [.int 1, .int 0, .int (-1), .ref m3, .int 0, .ref m5, .ref m6, .ref m7, .ref m8, .ref m9, .ref m10, .ref m11, .ref m12, .ref m13, .ref m14, .ref m15, .ref m16, .ref m17, .ref m18, .ref m19, .ref m20, .int 0, .ref m22, .ref m23, .ref m24, .ref m25, .ref m26, .ref m27, .int 0, .ref m29]))]) hP hD [0] [] rfl rfl (by decide) (by decide) hk1 hFc hP1 hD1
  have hK := hK.app hK1
  generalize H1 = H at hP hS ⊢
  have hP : va_P (dC, dI) cls_ [(g0, .inr (5, [.int 1, .int 0, .int (-1), .ref m3, .int 0, .ref m5, .ref m6, .ref m7, .ref m8, .ref m9, .ref m10, .ref m11, .ref m12, .ref m13, .ref m14, .ref m15, .ref m16, .ref m17, .ref m18, .ref m19, .ref m20, .int 0, .ref m22, .ref m23, .ref m24, .ref m25, .ref m26, .ref m27, .int 0, .ref m29]))] H := hP
  have hD : va_D A [(g0, .inr (5, [.int 1, .int 0, .int (-1), .ref m3, .int 0, .ref m5, .ref m6, .ref m7, .ref m8, .ref m9, .ref m10, .ref m11, .ref m12, .ref m13, .ref m14, .ref m15, .ref m16, .ref m17, .ref m18, .ref m19, .ref m20, .int 0, .ref m22, .ref m23, .ref m24, .ref m25, .ref m26, .ref m27, .int 0, .ref m29]))] := hD
  have hK : va_K (dC, dI) cls_ [] s := hK
  refine W.eq (g2 := F0 m 17 ls [.int 1]) rfl ?_
  refine W.cs (cells' := 0) (slots' := 0) rfl rfl ?_
  refine lv_if_eq (tgt := 24) hx hb d_MO_shortBy_17 (by decide) (fun h9 => absurd h9 (by decide)) (fun _ => ?_)
  refine lv_iconst (v := 0) hx hb d_MO_shortBy_20 (by decide) ?_
  refine lv_goto (tgt := 30) hx hb d_MO_shortBy_21 (by decide) ?_
  have hP9 := hP.sub (ws' := [(g0, .inr (5, [.int 1, .int 0, .int (-1), .ref m3, .int 0, .ref m5, .ref m6, .ref m7, .ref m8, .ref m9, .ref m10, .ref m11, .ref m12, .ref m13, .ref m14, .ref m15, .ref m16, .ref m17, .ref m18, .ref m19, .ref m20, .int 0, .ref m22, .ref m23, .ref m24, .ref m25, .ref m26, .ref m27, .int 0, .ref m29]))]) [0] rfl
  have hD9 := hD.sub (ws' := [(g0, .inr (5, [.int 1, .int 0, .int (-1), .ref m3, .int 0, .ref m5, .ref m6, .ref m7, .ref m8, .ref m9, .ref m10, .ref m11, .ref m12, .ref m13, .ref m14, .ref m15, .ref m16, .ref m17, .ref m18, .ref m19, .ref m20, .int 0, .ref m22, .ref m23, .ref m24, .ref m25, .ref m26, .ref m27, .int 0, .ref m29]))]) [0] (by decide) rfl
  have hK9 := hK.sub (tys' := []) [] rfl
  exact W.iret (v := 0) hx hb hr (fun t ht9 hW => ⟨rfl, ⟨by rw [ht9]; exact hP9, va_K.moved hW.alike hK9, hD9⟩, hS.F ht9⟩) hS.2.2 d_MO_shortBy_30
set_option maxHeartbeats 4000000 in
set_option maxRecDepth 100000 in
theorem c_MO_word_bad (l : Launch) (dC : Nat → ClassId) (dI : Nat → Nat → Nat) (sz Bd : Nat) (g0 m3 m5 m6 m7 m8 m9 m10 m11 m12 m13 m14 m15 m16 m17 m18 m19 m20 m22 m23 m24 m25 m26 m27 m29 : Nat) (x y : Int32) : Met l y_MO_word w_MO_word ({ frames := 1, cells := 0, slots := 0, locals := 21 }) (frP (dC, dI) [(g0, .inr (5, [.int 0, .int 0, .int (-1), .ref m3, .int 0, .ref m5, .ref m6, .ref m7, .ref m8, .ref m9, .ref m10, .ref m11, .ref m12, .ref m13, .ref m14, .ref m15, .ref m16, .ref m17, .ref m18, .ref m19, .ref m20, .int 0, .ref m22, .ref m23, .ref m24, .ref m25, .ref m26, .ref m27, .int 0, .ref m29]))] [] sz Bd [.ref g0, .int x, .int y]) (frQ (some (.long 0)) (fun t => va_P (dC, dI) cls_ [(g0, .inr (5, [.int 1, .int 0, .int (-1), .ref m3, .int 0, .ref m5, .ref m6, .ref m7, .ref m8, .ref m9, .ref m10, .ref m11, .ref m12, .ref m13, .ref m14, .ref m15, .ref m16, .ref m17, .ref m18, .ref m19, .ref m20, .int 0, .ref m22, .ref m23, .ref m24, .ref m25, .ref m26, .ref m27, .int 0, .ref m29]))] t.heap ∧ va_K (dC, dI) cls_ [] t ∧ va_D (va_A [(g0, .inr (5, [.int 0, .int 0, .int (-1), .ref m3, .int 0, .ref m5, .ref m6, .ref m7, .ref m8, .ref m9, .ref m10, .ref m11, .ref m12, .ref m13, .ref m14, .ref m15, .ref m16, .ref m17, .ref m18, .ref m19, .ref m20, .int 0, .ref m22, .ref m23, .ref m24, .ref m25, .ref m26, .ref m27, .int 0, .ref m29]))] sz) [(g0, .inr (5, [.int 1, .int 0, .int (-1), .ref m3, .int 0, .ref m5, .ref m6, .ref m7, .ref m8, .ref m9, .ref m10, .ref m11, .ref m12, .ref m13, .ref m14, .ref m15, .ref m16, .ref m17, .ref m18, .ref m19, .ref m20, .int 0, .ref m22, .ref m23, .ref m24, .ref m25, .ref m26, .ref m27, .int 0, .ref m29]))]) (va_A [(g0, .inr (5, [.int 0, .int 0, .int (-1), .ref m3, .int 0, .ref m5, .ref m6, .ref m7, .ref m8, .ref m9, .ref m10, .ref m11, .ref m12, .ref m13, .ref m14, .ref m15, .ref m16, .ref m17, .ref m18, .ref m19, .ref m20, .int 0, .ref m22, .ref m23, .ref m24, .ref m25, .ref m26, .ref m27, .int 0, .ref m29]))] sz)) 0 0 (va_A [(g0, .inr (5, [.int 0, .int 0, .int (-1), .ref m3, .int 0, .ref m5, .ref m6, .ref m7, .ref m8, .ref m9, .ref m10, .ref m11, .ref m12, .ref m13, .ref m14, .ref m15, .ref m16, .ref m17, .ref m18, .ref m19, .ref m20, .int 0, .ref m22, .ref m23, .ref m24, .ref m25, .ref m26, .ref m27, .int 0, .ref m29]))] sz) := by
  refine Met.ofW (cc := c_MO_word) (maxL := 3) (ret := (some .long)) (by decide) rfl ?_
  intro p e s m args below meth c s₁ B hml hv
  obtain ⟨rfl, ⟨hsz, hBs⟩, hP, hK, hD0, hV⟩ := hv
  have hx := B.exec
  have hb := B.bytes
  have hr := B.returns
  have ht : ∀ w ∈ tb_, w.before _ s = true := fun w h => atoms_spec (ws := w_MO_word) B.pre w (List.mem_cons_of_mem _ h)
  have hown : s.vm.findClass R_MO = some m.cls := findClass_of_methodNamed B.named
  have hlocks := B.notSynchronized
  subst hsz
  have hD := hD0.self (sz := s.heap.size)
  have hAB : ∀ q, va_A [(g0, .inr (5, [.int 0, .int 0, .int (-1), .ref m3, .int 0, .ref m5, .ref m6, .ref m7, .ref m8, .ref m9, .ref m10, .ref m11, .ref m12, .ref m13, .ref m14, .ref m15, .ref m16, .ref m17, .ref m18, .ref m19, .ref m20, .int 0, .ref m22, .ref m23, .ref m24, .ref m25, .ref m26, .ref m27, .int 0, .ref m29]))] s.heap.size q → Bd ≤ q := fr_AB hD0 hBs
  generalize hAe : va_A [(g0, .inr (5, [.int 0, .int 0, .int (-1), .ref m3, .int 0, .ref m5, .ref m6, .ref m7, .ref m8, .ref m9, .ref m10, .ref m11, .ref m12, .ref m13, .ref m14, .ref m15, .ref m16, .ref m17, .ref m18, .ref m19, .ref m20, .int 0, .ref m22, .ref m23, .ref m24, .ref m25, .ref m26, .ref m27, .int 0, .ref m29]))] s.heap.size = A at hD hAB ⊢
  have hA : ∀ q : Nat, s.heap.size ≤ q → A q := fun q h => by rw [← hAe]; exact Or.inr h
  have hS : va_S A s.heap s.heap [] := va_S.rf
  have hAO := hV.2.2.2.1
  have hN_PL := hV.2.2.1.1
  have hN_RW := hV.2.2.1.2
  have hP : va_P (dC, dI) cls_ [(g0, .inr (5, [.int 0, .int 0, .int (-1), .ref m3, .int 0, .ref m5, .ref m6, .ref m7, .ref m8, .ref m9, .ref m10, .ref m11, .ref m12, .ref m13, .ref m14, .ref m15, .ref m16, .ref m17, .ref m18, .ref m19, .ref m20, .int 0, .ref m22, .ref m23, .ref m24, .ref m25, .ref m26, .ref m27, .int 0, .ref m29]))] s.heap := hP
  have hl := lv_entry ([.ref g0, .int x, .int y]) (n := 3) (Nat.le_of_ble_eq_true rfl)
  rw [lg_entry_eq]
  generalize (lg_sl ([.ref g0, .int x, .int y]) ++ List.replicate (3 - (lg_sl ([.ref g0, .int x, .int y])).length) Slot.unset).toArray = ls at hl ⊢
  have hl : lv_has ls 3 [(0, .ref g0), (1, .int x), (2, .int y)] := hl
  refine lv_aload_n hx hb d_MO_word_0 rfl (lv_at hl 0 rfl) ?_
  refine lv_aload_n hx hb d_MO_word_1 rfl (lv_at hl 0 rfl) ?_
  refine lv_iload_n hx hb d_MO_word_2 rfl (lv_at hl 1 rfl) ?_
  have hPc := hP.sub (ws' := [(g0, .inr (5, [.int 0, .int 0, .int (-1), .ref m3, .int 0, .ref m5, .ref m6, .ref m7, .ref m8, .ref m9, .ref m10, .ref m11, .ref m12, .ref m13, .ref m14, .ref m15, .ref m16, .ref m17, .ref m18, .ref m19, .ref m20, .int 0, .ref m22, .ref m23, .ref m24, .ref m25, .ref m26, .ref m27, .int 0, .ref m29]))]) [0] rfl
  have hKc := hK.sub (tys' := []) [] rfl
  refine rd_call (va_runV (C := R_MO) (As := [.int x]) (rest := [.ref g0]) ⟨hx, hb, hml, hown, ht⟩ (c_MO_isRequest_0 l dC dI g0 m3 m5 m6 m7 m8 m9 m10 m11 m12 m13 m14 m15 m16 m17 m18 m19 m20 m22 m23 m24 m25 m26 m27 m29 x) (cwV 1 ht (gV tb_744 tb_746 ts_24 tb_5 tb_747) rfl rfl rfl (by decide +kernel) ⟨Nat.le_of_ble_eq_true rfl, Nat.le_of_ble_eq_true rfl⟩) ⟨rdP_blind, va_recv (q := (R_MO, F_MO, 30)) hK hP rfl (show ([(g0, .inr (5, [.int 0, .int 0, .int (-1), .ref m3, .int 0, .ref m5, .ref m6, .ref m7, .ref m8, .ref m9, .ref m10, .ref m11, .ref m12, .ref m13, .ref m14, .ref m15, .ref m16, .ref m17, .ref m18, .ref m19, .ref m20, .int 0, .ref m22, .ref m23, .ref m24, .ref m25, .ref m26, .ref m27, .int 0, .ref m29]))] : va_W)[0]? = some (g0, .inr (5, [.int 0, .int 0, .int (-1), .ref m3, .int 0, .ref m5, .ref m6, .ref m7, .ref m8, .ref m9, .ref m10, .ref m11, .ref m12, .ref m13, .ref m14, .ref m15, .ref m16, .ref m17, .ref m18, .ref m19, .ref m20, .int 0, .ref m22, .ref m23, .ref m24, .ref m25, .ref m26, .ref m27, .int 0, .ref m29])) from rfl), rd_pre hPc hKc⟩ rfl rfl hl.1 rfl (lv_room (Nat.le_of_ble_eq_true rfl)) d_MO_word_3 ⟨Nat.le_of_ble_eq_true rfl, Nat.le_of_ble_eq_true rfl⟩) ?_
  refine W.eq (g2 := F0 m 6 ls [.int 0, .ref g0]) rfl ?_
  refine lv_if_eq (tgt := 13) hx hb d_MO_word_6 (by decide) (fun _ => ?_) (fun h9 => absurd (rfl) h9)
  refine lv_iconst (v := 1) hx hb d_MO_word_13 (by decide) ?_
  have hPc := hP.sub (ws' := [(g0, .inr (5, [.int 0, .int 0, .int (-1), .ref m3, .int 0, .ref m5, .ref m6, .ref m7, .ref m8, .ref m9, .ref m10, .ref m11, .ref m12, .ref m13, .ref m14, .ref m15, .ref m16, .ref m17, .ref m18, .ref m19, .ref m20, .int 0, .ref m22, .ref m23, .ref m24, .ref m25, .ref m26, .ref m27, .int 0, .ref m29]))]) [0] rfl
  have hKc := hK.sub (tys' := []) [] rfl
  have hDc := hD.sub (ws' := [(g0, .inr (5, [.int 0, .int 0, .int (-1), .ref m3, .int 0, .ref m5, .ref m6, .ref m7, .ref m8, .ref m9, .ref m10, .ref m11, .ref m12, .ref m13, .ref m14, .ref m15, .ref m16, .ref m17, .ref m18, .ref m19, .ref m20, .int 0, .ref m22, .ref m23, .ref m24, .ref m25, .ref m26, .ref m27, .int 0, .ref m29]))]) [0] (by decide) rfl
  have hFc := va_free (wc := [(g0, .inr (5, [.int 0, .int 0, .int (-1), .ref m3, .int 0, .ref m5, .ref m6, .ref m7, .ref m8, .ref m9, .ref m10, .ref m11, .ref m12, .ref m13, .ref m14, .ref m15, .ref m16, .ref m17, .ref m18, .ref m19, .ref m20, .int 0, .ref m22, .ref m23, .ref m24, .ref m25, .ref m26, .ref m27, .int 0, .ref m29]))]) hD hS hA [0] rfl
  refine fr_call (va_runV (C := R_MO) (As := [.int 1]) (rest := []) ⟨hx, hb, hml, hown, ht⟩ (c_MO_refused_yes l dC dI s.heap.size Bd g0 m3 m5 m6 m7 m8 m9 m10 m11 m12 m13 m14 m15 m16 m17 m18 m19 m20 m22 m23 m24 m25 m26 m27 m29 0 0) (cwV 1 ht (gV tb_736 tb_738 ts_23 tb_5 tb_739) rfl rfl rfl (by decide +kernel) ⟨Nat.le_of_ble_eq_true rfl, Nat.le_of_ble_eq_true rfl⟩) ⟨frP_blind, va_recv (q := (R_MO, F_MO, 30)) hK hP rfl (show ([(g0, .inr (5, [.int 0, .int 0, .int (-1), .ref m3, .int 0, .ref m5, .ref m6, .ref m7, .ref m8, .ref m9, .ref m10, .ref m11, .ref m12, .ref m13, .ref m14, .ref m15, .ref m16, .ref m17, .ref m18, .ref m19, .ref m20, .int 0, .ref m22, .ref m23, .ref m24, .ref m25, .ref m26, .ref m27, .int 0, .ref m29]))] : va_W)[0]? = some (g0, .inr (5, [.int 0, .int 0, .int (-1), .ref m3, .int 0, .ref m5, .ref m6, .ref m7, .ref m8, .ref m9, .ref m10, .ref m11, .ref m12, .ref m13, .ref m14, .ref m15, .ref m16, .ref m17, .ref m18, .ref m19, .ref m20, .int 0, .ref m22, .ref m23, .ref m24, .ref m25, .ref m26, .ref m27, .int 0, .ref m29])) from rfl), fr_pre hPc hKc hDc hAB hBs hS hV⟩ rfl rfl hl.1 rfl (lv_room (Nat.le_of_ble_eq_true rfl)) d_MO_word_14 ⟨Nat.le_of_ble_eq_true rfl, Nat.le_of_ble_eq_true rfl⟩) hS (fun q _ h => hFc q h) hFc (fun t H1 locs ht1 hvm hB1 hz1 hk1 hS => ?_)
  obtain ⟨hP1, hK1, hD1⟩ := hB1
  rw [ht1] at hP1
  have hK1 := va_K.moved hvm.symm hK1
  obtain ⟨hP, hD⟩ := va_join (wr := []) (w1 := [(g0, .inr (5, [.int 1, .int 0, .int (-1), .ref m3, .int 0, .ref m5, .ref m6, .ref m7, .ref m8, .ref m9, .ref m10, .ref m11, .ref m12, .ref m13, .ref m14, .ref m15, .ref m16, .ref m17, .ref m18, .ref m19, .ref m20, .int 0, .ref m22, .ref m23, .ref m24, .ref m25, .ref m26, .ref m27, .int 0, .ref m29]))]) hP hD [0] [] rfl rfl (by decide) (by decide) hk1 hFc hP1 hD1
  have hK := hK.app hK1
  generalize H1 = H at hP hS ⊢
  have hP : va_P (dC, dI) cls_ [(g0, .inr (5, [.int 1, .int 0, .int (-1), .ref m3, .int 0, .ref m5, .ref m6, .ref m7, .ref m8, .ref m9, .ref m10, .ref m11, .ref m12, .ref m13, .ref m14, .ref m15, .ref m16, .ref m17, .ref m18, .ref m19, .ref m20, .int 0, .ref m22, .ref m23, .ref m24, .ref m25, .ref m26, .ref m27, .int 0, .ref m29]))] H := hP
  have hD : va_D A [(g0, .inr (5, [.int 1, .int 0, .int (-1), .ref m3, .int 0, .ref m5, .ref m6, .ref m7, .ref m8, .ref m9, .ref m10, .ref m11, .ref m12, .ref m13, .ref m14, .ref m15, .ref m16, .ref m17, .ref m18, .ref m19, .ref m20, .int 0, .ref m22, .ref m23, .ref m24, .ref m25, .ref m26, .ref m27, .int 0, .ref m29]))] := hD
  have hK : va_K (dC, dI) cls_ [] s := hK
  refine W.eq (g2 := F0 m 17 ls [.int 1]) rfl ?_
  refine W.cs (cells' := 0) (slots' := 0) rfl rfl ?_
  refine lv_if_eq (tgt := 22) hx hb d_MO_word_17 (by decide) (fun h9 => absurd h9 (by decide)) (fun _ => ?_)
  refine lv_lconst (v := 0) hx hb d_MO_word_20 (by decide) ?_
  have hP9 := hP.sub (ws' := [(g0, .inr (5, [.int 1, .int 0, .int (-1), .ref m3, .int 0, .ref m5, .ref m6, .ref m7, .ref m8, .ref m9, .ref m10, .ref m11, .ref m12, .ref m13, .ref m14, .ref m15, .ref m16, .ref m17, .ref m18, .ref m19, .ref m20, .int 0, .ref m22, .ref m23, .ref m24, .ref m25, .ref m26, .ref m27, .int 0, .ref m29]))]) [0] rfl
  have hD9 := hD.sub (ws' := [(g0, .inr (5, [.int 1, .int 0, .int (-1), .ref m3, .int 0, .ref m5, .ref m6, .ref m7, .ref m8, .ref m9, .ref m10, .ref m11, .ref m12, .ref m13, .ref m14, .ref m15, .ref m16, .ref m17, .ref m18, .ref m19, .ref m20, .int 0, .ref m22, .ref m23, .ref m24, .ref m25, .ref m26, .ref m27, .int 0, .ref m29]))]) [0] (by decide) rfl
  have hK9 := hK.sub (tys' := []) [] rfl
  exact W.lret (v := 0) hx hb hr (fun t ht9 hW => ⟨rfl, ⟨by rw [ht9]; exact hP9, va_K.moved hW.alike hK9, hD9⟩, hS.F ht9⟩) hS.2.2 d_MO_word_21
set_option maxHeartbeats 4000000 in
set_option maxRecDepth 100000 in
theorem c_MO_bookmarkAt_bad (l : Launch) (dC : Nat → ClassId) (dI : Nat → Nat → Nat) (sz Bd : Nat) (g0 m3 m5 m6 m7 m8 m9 m10 m11 m12 m13 m14 m15 m16 m17 m18 m19 m20 m22 m23 m24 m25 m26 m27 m29 : Nat) (x y : Int32) : Met l y_MO_bookmarkAt w_MO_bookmarkAt ({ frames := 1, cells := 0, slots := 0, locals := 21 }) (frP (dC, dI) [(g0, .inr (5, [.int 0, .int 0, .int (-1), .ref m3, .int 0, .ref m5, .ref m6, .ref m7, .ref m8, .ref m9, .ref m10, .ref m11, .ref m12, .ref m13, .ref m14, .ref m15, .ref m16, .ref m17, .ref m18, .ref m19, .ref m20, .int 0, .ref m22, .ref m23, .ref m24, .ref m25, .ref m26, .ref m27, .int 0, .ref m29]))] [] sz Bd [.ref g0, .int x, .int y]) (frQ (some (.int 0)) (fun t => va_P (dC, dI) cls_ [(g0, .inr (5, [.int 1, .int 0, .int (-1), .ref m3, .int 0, .ref m5, .ref m6, .ref m7, .ref m8, .ref m9, .ref m10, .ref m11, .ref m12, .ref m13, .ref m14, .ref m15, .ref m16, .ref m17, .ref m18, .ref m19, .ref m20, .int 0, .ref m22, .ref m23, .ref m24, .ref m25, .ref m26, .ref m27, .int 0, .ref m29]))] t.heap ∧ va_K (dC, dI) cls_ [] t ∧ va_D (va_A [(g0, .inr (5, [.int 0, .int 0, .int (-1), .ref m3, .int 0, .ref m5, .ref m6, .ref m7, .ref m8, .ref m9, .ref m10, .ref m11, .ref m12, .ref m13, .ref m14, .ref m15, .ref m16, .ref m17, .ref m18, .ref m19, .ref m20, .int 0, .ref m22, .ref m23, .ref m24, .ref m25, .ref m26, .ref m27, .int 0, .ref m29]))] sz) [(g0, .inr (5, [.int 1, .int 0, .int (-1), .ref m3, .int 0, .ref m5, .ref m6, .ref m7, .ref m8, .ref m9, .ref m10, .ref m11, .ref m12, .ref m13, .ref m14, .ref m15, .ref m16, .ref m17, .ref m18, .ref m19, .ref m20, .int 0, .ref m22, .ref m23, .ref m24, .ref m25, .ref m26, .ref m27, .int 0, .ref m29]))]) (va_A [(g0, .inr (5, [.int 0, .int 0, .int (-1), .ref m3, .int 0, .ref m5, .ref m6, .ref m7, .ref m8, .ref m9, .ref m10, .ref m11, .ref m12, .ref m13, .ref m14, .ref m15, .ref m16, .ref m17, .ref m18, .ref m19, .ref m20, .int 0, .ref m22, .ref m23, .ref m24, .ref m25, .ref m26, .ref m27, .int 0, .ref m29]))] sz)) 0 0 (va_A [(g0, .inr (5, [.int 0, .int 0, .int (-1), .ref m3, .int 0, .ref m5, .ref m6, .ref m7, .ref m8, .ref m9, .ref m10, .ref m11, .ref m12, .ref m13, .ref m14, .ref m15, .ref m16, .ref m17, .ref m18, .ref m19, .ref m20, .int 0, .ref m22, .ref m23, .ref m24, .ref m25, .ref m26, .ref m27, .int 0, .ref m29]))] sz) := by
  refine Met.ofW (cc := c_MO_bookmarkAt) (maxL := 6) (ret := (some .int)) (by decide) rfl ?_
  intro p e s m args below meth c s₁ B hml hv
  obtain ⟨rfl, ⟨hsz, hBs⟩, hP, hK, hD0, hV⟩ := hv
  have hx := B.exec
  have hb := B.bytes
  have hr := B.returns
  have ht : ∀ w ∈ tb_, w.before _ s = true := fun w h => atoms_spec (ws := w_MO_bookmarkAt) B.pre w (List.mem_cons_of_mem _ h)
  have hown : s.vm.findClass R_MO = some m.cls := findClass_of_methodNamed B.named
  have hlocks := B.notSynchronized
  subst hsz
  have hD := hD0.self (sz := s.heap.size)
  have hAB : ∀ q, va_A [(g0, .inr (5, [.int 0, .int 0, .int (-1), .ref m3, .int 0, .ref m5, .ref m6, .ref m7, .ref m8, .ref m9, .ref m10, .ref m11, .ref m12, .ref m13, .ref m14, .ref m15, .ref m16, .ref m17, .ref m18, .ref m19, .ref m20, .int 0, .ref m22, .ref m23, .ref m24, .ref m25, .ref m26, .ref m27, .int 0, .ref m29]))] s.heap.size q → Bd ≤ q := fr_AB hD0 hBs
  generalize hAe : va_A [(g0, .inr (5, [.int 0, .int 0, .int (-1), .ref m3, .int 0, .ref m5, .ref m6, .ref m7, .ref m8, .ref m9, .ref m10, .ref m11, .ref m12, .ref m13, .ref m14, .ref m15, .ref m16, .ref m17, .ref m18, .ref m19, .ref m20, .int 0, .ref m22, .ref m23, .ref m24, .ref m25, .ref m26, .ref m27, .int 0, .ref m29]))] s.heap.size = A at hD hAB ⊢
  have hA : ∀ q : Nat, s.heap.size ≤ q → A q := fun q h => by rw [← hAe]; exact Or.inr h
  have hS : va_S A s.heap s.heap [] := va_S.rf
  have hAO := hV.2.2.2.1
  have hN_PL := hV.2.2.1.1
  have hN_RW := hV.2.2.1.2
  have hP : va_P (dC, dI) cls_ [(g0, .inr (5, [.int 0, .int 0, .int (-1), .ref m3, .int 0, .ref m5, .ref m6, .ref m7, .ref m8, .ref m9, .ref m10, .ref m11, .ref m12, .ref m13, .ref m14, .ref m15, .ref m16, .ref m17, .ref m18, .ref m19, .ref m20, .int 0, .ref m22, .ref m23, .ref m24, .ref m25, .ref m26, .ref m27, .int 0, .ref m29]))] s.heap := hP
  have hl := lv_entry ([.ref g0, .int x, .int y]) (n := 6) (Nat.le_of_ble_eq_true rfl)
  rw [lg_entry_eq]
  generalize (lg_sl ([.ref g0, .int x, .int y]) ++ List.replicate (6 - (lg_sl ([.ref g0, .int x, .int y])).length) Slot.unset).toArray = ls at hl ⊢
  have hl : lv_has ls 6 [(0, .ref g0), (1, .int x), (2, .int y)] := hl
  refine lv_aload_n hx hb d_MO_bookmarkAt_0 rfl (lv_at hl 0 rfl) ?_
  refine lv_aload_n hx hb d_MO_bookmarkAt_1 rfl (lv_at hl 0 rfl) ?_
  refine lv_iload_n hx hb d_MO_bookmarkAt_2 rfl (lv_at hl 1 rfl) ?_
  have hPc := hP.sub (ws' := [(g0, .inr (5, [.int 0, .int 0, .int (-1), .ref m3, .int 0, .ref m5, .ref m6, .ref m7, .ref m8, .ref m9, .ref m10, .ref m11, .ref m12, .ref m13, .ref m14, .ref m15, .ref m16, .ref m17, .ref m18, .ref m19, .ref m20, .int 0, .ref m22, .ref m23, .ref m24, .ref m25, .ref m26, .ref m27, .int 0, .ref m29]))]) [0] rfl
  have hKc := hK.sub (tys' := []) [] rfl
  refine rd_call (va_runV (C := R_MO) (As := [.int x]) (rest := [.ref g0]) ⟨hx, hb, hml, hown, ht⟩ (c_MO_isRequest_0 l dC dI g0 m3 m5 m6 m7 m8 m9 m10 m11 m12 m13 m14 m15 m16 m17 m18 m19 m20 m22 m23 m24 m25 m26 m27 m29 x) (cwV 1 ht (gV tb_744 tb_746 ts_24 tb_5 tb_747) rfl rfl rfl (by decide +kernel) ⟨Nat.le_of_ble_eq_true rfl, Nat.le_of_ble_eq_true rfl⟩) ⟨rdP_blind, va_recv (q := (R_MO, F_MO, 30)) hK hP rfl (show ([(g0, .inr (5, [.int 0, .int 0, .int (-1), .ref m3, .int 0, .ref m5, .ref m6, .ref m7, .ref m8, .ref m9, .ref m10, .ref m11, .ref m12, .ref m13, .ref m14, .ref m15, .ref m16, .ref m17, .ref m18, .ref m19, .ref m20, .int 0, .ref m22, .ref m23, .ref m24, .ref m25, .ref m26, .ref m27, .int 0, .ref m29]))] : va_W)[0]? = some (g0, .inr (5, [.int 0, .int 0, .int (-1), .ref m3, .int 0, .ref m5, .ref m6, .ref m7, .ref m8, .ref m9, .ref m10, .ref m11, .ref m12, .ref m13, .ref m14, .ref m15, .ref m16, .ref m17, .ref m18, .ref m19, .ref m20, .int 0, .ref m22, .ref m23, .ref m24, .ref m25, .ref m26, .ref m27, .int 0, .ref m29])) from rfl), rd_pre hPc hKc⟩ rfl rfl hl.1 rfl (lv_room (Nat.le_of_ble_eq_true rfl)) d_MO_bookmarkAt_3 ⟨Nat.le_of_ble_eq_true rfl, Nat.le_of_ble_eq_true rfl⟩) ?_
  refine W.eq (g2 := F0 m 6 ls [.int 0, .ref g0]) rfl ?_
  refine lv_if_eq (tgt := 13) hx hb d_MO_bookmarkAt_6 (by decide) (fun _ => ?_) (fun h9 => absurd (rfl) h9)
  refine lv_iconst (v := 1) hx hb d_MO_bookmarkAt_13 (by decide) ?_
  have hPc := hP.sub (ws' := [(g0, .inr (5, [.int 0, .int 0, .int (-1), .ref m3, .int 0, .ref m5, .ref m6, .ref m7, .ref m8, .ref m9, .ref m10, .ref m11, .ref m12, .ref m13, .ref m14, .ref m15, .ref m16, .ref m17, .ref m18, .ref m19, .ref m20, .int 0, .ref m22, .ref m23, .ref m24, .ref m25, .ref m26, .ref m27, .int 0, .ref m29]))]) [0] rfl
  have hKc := hK.sub (tys' := []) [] rfl
  have hDc := hD.sub (ws' := [(g0, .inr (5, [.int 0, .int 0, .int (-1), .ref m3, .int 0, .ref m5, .ref m6, .ref m7, .ref m8, .ref m9, .ref m10, .ref m11, .ref m12, .ref m13, .ref m14, .ref m15, .ref m16, .ref m17, .ref m18, .ref m19, .ref m20, .int 0, .ref m22, .ref m23, .ref m24, .ref m25, .ref m26, .ref m27, .int 0, .ref m29]))]) [0] (by decide) rfl
  have hFc := va_free (wc := [(g0, .inr (5, [.int 0, .int 0, .int (-1), .ref m3, .int 0, .ref m5, .ref m6, .ref m7, .ref m8, .ref m9, .ref m10, .ref m11, .ref m12, .ref m13, .ref m14, .ref m15, .ref m16, .ref m17, .ref m18, .ref m19, .ref m20, .int 0, .ref m22, .ref m23, .ref m24, .ref m25, .ref m26, .ref m27, .int 0, .ref m29]))]) hD hS hA [0] rfl
  refine fr_call (va_runV (C := R_MO) (As := [.int 1]) (rest := []) ⟨hx, hb, hml, hown, ht⟩ (c_MO_refused_yes l dC dI s.heap.size Bd g0 m3 m5 m6 m7 m8 m9 m10 m11 m12 m13 m14 m15 m16 m17 m18 m19 m20 m22 m23 m24 m25 m26 m27 m29 0 0) (cwV 1 ht (gV tb_736 tb_738 ts_23 tb_5 tb_739) rfl rfl rfl (by decide +kernel) ⟨Nat.le_of_ble_eq_true rfl, Nat.le_of_ble_eq_true rfl⟩) ⟨frP_blind, va_recv (q := (R_MO, F_MO, 30)) hK hP rfl (show ([(g0, .inr (5, [.int 0, .int 0, .int (-1), .ref m3, .int 0, .ref m5, .ref m6, .ref m7, .ref m8, .ref m9, .ref m10, .ref m11, .ref m12, .ref m13, .ref m14, .ref m15, .ref m16, .ref m17, .ref m18, .ref m19, .ref m20, .int 0, .ref m22, .ref m23, .ref m24, .ref m25, .ref m26, .ref m27, .int 0, .ref m29]))] : va_W)[0]? = some (g0, .inr (5, [.int 0, .int 0, .int (-1), .ref m3, .int 0, .ref m5, .ref m6, .ref m7, .ref m8, .ref m9, .ref m10, .ref m11, .ref m12, .ref m13, .ref m14, .ref m15, .ref m16, .ref m17, .ref m18, .ref m19, .ref m20, .int 0, .ref m22, .ref m23, .ref m24, .ref m25, .ref m26, .ref m27, .int 0, .ref m29])) from rfl), fr_pre hPc hKc hDc hAB hBs hS hV⟩ rfl rfl hl.1 rfl (lv_room (Nat.le_of_ble_eq_true rfl)) d_MO_bookmarkAt_14 ⟨Nat.le_of_ble_eq_true rfl, Nat.le_of_ble_eq_true rfl⟩) hS (fun q _ h => hFc q h) hFc (fun t H1 locs ht1 hvm hB1 hz1 hk1 hS => ?_)
  obtain ⟨hP1, hK1, hD1⟩ := hB1
  rw [ht1] at hP1
  have hK1 := va_K.moved hvm.symm hK1
  obtain ⟨hP, hD⟩ := va_join (wr := []) (w1 := [(g0, .inr (5, [.int 1, .int 0, .int (-1), .ref m3, .int 0, .ref m5, .ref m6, .ref m7, .ref m8, .ref m9, .ref m10, .ref m11, .ref m12, .ref m13, .ref m14, .ref m15, .ref m16, .ref m17, .ref m18, .ref m19, .ref m20, .int 0, .ref m22, .ref m23, .ref m24, .ref m25, .ref m26, .ref m27, .int 0, .ref m29]))]) hP hD [0] [] rfl rfl (by decide) (by decide) hk1 hFc hP1 hD1
  have hK := hK.app hK1
  generalize H1 = H at hP hS ⊢
  have hP : va_P (dC, dI) cls_ [(g0, .inr (5, [.int 1, .int 0, .int (-1), .ref m3, .int 0, .ref m5, .ref m6, .ref m7, .ref m8, .ref m9, .ref m10, .ref m11, .ref m12, .ref m13, .ref m14, .ref m15, .ref m16, .ref m17, .ref m18, .ref m19, .ref m20, .int 0, .ref m22, .ref m23, .ref m24, .ref m25, .ref m26, .ref m27, .int 0, .ref m29]))] H := hP
  have hD : va_D A [(g0, .inr (5, [.int 1, .int 0, .int (-1), .ref m3, .int 0, .ref m5, .ref m6, .ref m7, .ref m8, .ref m9, .ref m10, .ref m11, .ref m12, .ref m13, .ref m14, .ref m15, .ref m16, .ref m17, .ref m18, .ref m19, .ref m20, .int 0, .ref m22, .ref m23, .ref m24, .ref m25, .ref m26, .ref m27, .int 0, .ref m29]))] := hD
  have hK : va_K (dC, dI) cls_ [] s := hK
  refine W.eq (g2 := F0 m 17 ls [.int 1]) rfl ?_
  refine W.cs (cells' := 0) (slots' := 0) rfl rfl ?_
  refine lv_if_eq (tgt := 22) hx hb d_MO_bookmarkAt_17 (by decide) (fun h9 => absurd h9 (by decide)) (fun _ => ?_)
  refine lv_iconst (v := 0) hx hb d_MO_bookmarkAt_20 (by decide) ?_
  have hP9 := hP.sub (ws' := [(g0, .inr (5, [.int 1, .int 0, .int (-1), .ref m3, .int 0, .ref m5, .ref m6, .ref m7, .ref m8, .ref m9, .ref m10, .ref m11, .ref m12, .ref m13, .ref m14, .ref m15, .ref m16, .ref m17, .ref m18, .ref m19, .ref m20, .int 0, .ref m22, .ref m23, .ref m24, .ref m25, .ref m26, .ref m27, .int 0, .ref m29]))]) [0] rfl
  have hD9 := hD.sub (ws' := [(g0, .inr (5, [.int 1, .int 0, .int (-1), .ref m3, .int 0, .ref m5, .ref m6, .ref m7, .ref m8, .ref m9, .ref m10, .ref m11, .ref m12, .ref m13, .ref m14, .ref m15, .ref m16, .ref m17, .ref m18, .ref m19, .ref m20, .int 0, .ref m22, .ref m23, .ref m24, .ref m25, .ref m26, .ref m27, .int 0, .ref m29]))]) [0] (by decide) rfl
  have hK9 := hK.sub (tys' := []) [] rfl
  exact W.iret (v := 0) hx hb hr (fun t ht9 hW => ⟨rfl, ⟨by rw [ht9]; exact hP9, va_K.moved hW.alike hK9, hD9⟩, hS.F ht9⟩) hS.2.2 d_MO_bookmarkAt_21
set_option maxHeartbeats 4000000 in
set_option maxRecDepth 100000 in
theorem c_MO_protect_bad (l : Launch) (dC : Nat → ClassId) (dI : Nat → Nat → Nat) (sz Bd : Nat) (g0 m3 m5 m6 m7 m8 m9 m10 m11 m12 m13 m14 m15 m16 m17 m18 m19 m20 m22 m23 m24 m25 m26 m27 m29 : Nat) (x y : Int32) : Met l y_MO_protect w_MO_protect ({ frames := 1, cells := 0, slots := 0, locals := 21 }) (frP (dC, dI) [(g0, .inr (5, [.int 0, .int 0, .int (-1), .ref m3, .int 0, .ref m5, .ref m6, .ref m7, .ref m8, .ref m9, .ref m10, .ref m11, .ref m12, .ref m13, .ref m14, .ref m15, .ref m16, .ref m17, .ref m18, .ref m19, .ref m20, .int 0, .ref m22, .ref m23, .ref m24, .ref m25, .ref m26, .ref m27, .int 0, .ref m29]))] [] sz Bd [.ref g0, .int x, .int y]) (frQ none (fun t => va_P (dC, dI) cls_ [(g0, .inr (5, [.int 1, .int 0, .int (-1), .ref m3, .int 0, .ref m5, .ref m6, .ref m7, .ref m8, .ref m9, .ref m10, .ref m11, .ref m12, .ref m13, .ref m14, .ref m15, .ref m16, .ref m17, .ref m18, .ref m19, .ref m20, .int 0, .ref m22, .ref m23, .ref m24, .ref m25, .ref m26, .ref m27, .int 0, .ref m29]))] t.heap ∧ va_K (dC, dI) cls_ [] t ∧ va_D (va_A [(g0, .inr (5, [.int 0, .int 0, .int (-1), .ref m3, .int 0, .ref m5, .ref m6, .ref m7, .ref m8, .ref m9, .ref m10, .ref m11, .ref m12, .ref m13, .ref m14, .ref m15, .ref m16, .ref m17, .ref m18, .ref m19, .ref m20, .int 0, .ref m22, .ref m23, .ref m24, .ref m25, .ref m26, .ref m27, .int 0, .ref m29]))] sz) [(g0, .inr (5, [.int 1, .int 0, .int (-1), .ref m3, .int 0, .ref m5, .ref m6, .ref m7, .ref m8, .ref m9, .ref m10, .ref m11, .ref m12, .ref m13, .ref m14, .ref m15, .ref m16, .ref m17, .ref m18, .ref m19, .ref m20, .int 0, .ref m22, .ref m23, .ref m24, .ref m25, .ref m26, .ref m27, .int 0, .ref m29]))]) (va_A [(g0, .inr (5, [.int 0, .int 0, .int (-1), .ref m3, .int 0, .ref m5, .ref m6, .ref m7, .ref m8, .ref m9, .ref m10, .ref m11, .ref m12, .ref m13, .ref m14, .ref m15, .ref m16, .ref m17, .ref m18, .ref m19, .ref m20, .int 0, .ref m22, .ref m23, .ref m24, .ref m25, .ref m26, .ref m27, .int 0, .ref m29]))] sz)) 0 0 (va_A [(g0, .inr (5, [.int 0, .int 0, .int (-1), .ref m3, .int 0, .ref m5, .ref m6, .ref m7, .ref m8, .ref m9, .ref m10, .ref m11, .ref m12, .ref m13, .ref m14, .ref m15, .ref m16, .ref m17, .ref m18, .ref m19, .ref m20, .int 0, .ref m22, .ref m23, .ref m24, .ref m25, .ref m26, .ref m27, .int 0, .ref m29]))] sz) := by
  refine Met.ofW (cc := c_MO_protect) (maxL := 3) (ret := none) (by decide) rfl ?_
  intro p e s m args below meth c s₁ B hml hv
  obtain ⟨rfl, ⟨hsz, hBs⟩, hP, hK, hD0, hV⟩ := hv
  have hx := B.exec
  have hb := B.bytes
  have hr := B.returns
  have ht : ∀ w ∈ tb_, w.before _ s = true := fun w h => atoms_spec (ws := w_MO_protect) B.pre w (List.mem_cons_of_mem _ h)
  have hown : s.vm.findClass R_MO = some m.cls := findClass_of_methodNamed B.named
  have hlocks := B.notSynchronized
  subst hsz
  have hD := hD0.self (sz := s.heap.size)
  have hAB : ∀ q, va_A [(g0, .inr (5, [.int 0, .int 0, .int (-1), .ref m3, .int 0, .ref m5, .ref m6, .ref m7, .ref m8, .ref m9, .ref m10, .ref m11, .ref m12, .ref m13, .ref m14, .ref m15, .ref m16, .ref m17, .ref m18, .ref m19, .ref m20, .int 0, .ref m22, .ref m23, .ref m24, .ref m25, .ref m26, .ref m27, .int 0, .ref m29]))] s.heap.size q → Bd ≤ q := fr_AB hD0 hBs
  generalize hAe : va_A [(g0, .inr (5, [.int 0, .int 0, .int (-1), .ref m3, .int 0, .ref m5, .ref m6, .ref m7, .ref m8, .ref m9, .ref m10, .ref m11, .ref m12, .ref m13, .ref m14, .ref m15, .ref m16, .ref m17, .ref m18, .ref m19, .ref m20, .int 0, .ref m22, .ref m23, .ref m24, .ref m25, .ref m26, .ref m27, .int 0, .ref m29]))] s.heap.size = A at hD hAB ⊢
  have hA : ∀ q : Nat, s.heap.size ≤ q → A q := fun q h => by rw [← hAe]; exact Or.inr h
  have hS : va_S A s.heap s.heap [] := va_S.rf
  have hAO := hV.2.2.2.1
  have hN_PL := hV.2.2.1.1
  have hN_RW := hV.2.2.1.2
  have hP : va_P (dC, dI) cls_ [(g0, .inr (5, [.int 0, .int 0, .int (-1), .ref m3, .int 0, .ref m5, .ref m6, .ref m7, .ref m8, .ref m9, .ref m10, .ref m11, .ref m12, .ref m13, .ref m14, .ref m15, .ref m16, .ref m17, .ref m18, .ref m19, .ref m20, .int 0, .ref m22, .ref m23, .ref m24, .ref m25, .ref m26, .ref m27, .int 0, .ref m29]))] s.heap := hP
  have hl := lv_entry ([.ref g0, .int x, .int y]) (n := 3) (Nat.le_of_ble_eq_true rfl)
  rw [lg_entry_eq]
  generalize (lg_sl ([.ref g0, .int x, .int y]) ++ List.replicate (3 - (lg_sl ([.ref g0, .int x, .int y])).length) Slot.unset).toArray = ls at hl ⊢
  have hl : lv_has ls 3 [(0, .ref g0), (1, .int x), (2, .int y)] := hl
  refine lv_aload_n hx hb d_MO_protect_0 rfl (lv_at hl 0 rfl) ?_
  refine lv_aload_n hx hb d_MO_protect_1 rfl (lv_at hl 0 rfl) ?_
  refine lv_iload_n hx hb d_MO_protect_2 rfl (lv_at hl 1 rfl) ?_
  have hPc := hP.sub (ws' := [(g0, .inr (5, [.int 0, .int 0, .int (-1), .ref m3, .int 0, .ref m5, .ref m6, .ref m7, .ref m8, .ref m9, .ref m10, .ref m11, .ref m12, .ref m13, .ref m14, .ref m15, .ref m16, .ref m17, .ref m18, .ref m19, .ref m20, .int 0, .ref m22, .ref m23, .ref m24, .ref m25, .ref m26, .ref m27, .int 0, .ref m29]))]) [0] rfl
  have hKc := hK.sub (tys' := []) [] rfl
  refine rd_call (va_runV (C := R_MO) (As := [.int x]) (rest := [.ref g0]) ⟨hx, hb, hml, hown, ht⟩ (c_MO_isRequest_0 l dC dI g0 m3 m5 m6 m7 m8 m9 m10 m11 m12 m13 m14 m15 m16 m17 m18 m19 m20 m22 m23 m24 m25 m26 m27 m29 x) (cwV 1 ht (gV tb_744 tb_746 ts_24 tb_5 tb_747) rfl rfl rfl (by decide +kernel) ⟨Nat.le_of_ble_eq_true rfl, Nat.le_of_ble_eq_true rfl⟩) ⟨rdP_blind, va_recv (q := (R_MO, F_MO, 30)) hK hP rfl (show ([(g0, .inr (5, [.int 0, .int 0, .int (-1), .ref m3, .int 0, .ref m5, .ref m6, .ref m7, .ref m8, .ref m9, .ref m10, .ref m11, .ref m12, .ref m13, .ref m14, .ref m15, .ref m16, .ref m17, .ref m18, .ref m19, .ref m20, .int 0, .ref m22, .ref m23, .ref m24, .ref m25, .ref m26, .ref m27, .int 0, .ref m29]))] : va_W)[0]? = some (g0, .inr (5, [.int 0, .int 0, .int (-1), .ref m3, .int 0, .ref m5, .ref m6, .ref m7, .ref m8, .ref m9, .ref m10, .ref m11, .ref m12, .ref m13, .ref m14, .ref m15, .ref m16, .ref m17, .ref m18, .ref m19, .ref m20, .int 0, .ref m22, .ref m23, .ref m24, .ref m25, .ref m26, .ref m27, .int 0, .ref m29])) from rfl), rd_pre hPc hKc⟩ rfl rfl hl.1 rfl (lv_room (Nat.le_of_ble_eq_true rfl)) d_MO_protect_3 ⟨Nat.le_of_ble_eq_true rfl, Nat.le_of_ble_eq_true rfl⟩) ?_
  refine W.eq (g2 := F0 m 6 ls [.int 0, .ref g0]) rfl ?_
  refine lv_if_ne (tgt := 13) hx hb d_MO_protect_6 (by decide) (fun h9 => absurd (rfl) h9) (fun _ => ?_)
  refine lv_iconst (v := 1) hx hb d_MO_protect_9 (by decide) ?_
  refine lv_goto (tgt := 26) hx hb d_MO_protect_10 (by decide) ?_
  have hPc := hP.sub (ws' := [(g0, .inr (5, [.int 0, .int 0, .int (-1), .ref m3, .int 0, .ref m5, .ref m6, .ref m7, .ref m8, .ref m9, .ref m10, .ref m11, .ref m12, .ref m13, .ref m14, .ref m15, .ref m16, .ref m17, .ref m18, .ref m19, .ref m20, .int 0, .ref m22, .ref m23, .ref m24, .ref m25, .ref m26, .ref m27, .int 0, .ref m29]))]) [0] rfl
  have hKc := hK.sub (tys' := []) [] rfl
  have hDc := hD.sub (ws' := [(g0, .inr (5, [.int 0, .int 0, .int (-1), .ref m3, .int 0, .ref m5, .ref m6, .ref m7, .ref m8, .ref m9, .ref m10, .ref m11, .ref m12, .ref m13, .ref m14, .ref m15, .ref m16, .ref m17, .ref m18, .ref m19, .ref m20, .int 0, .ref m22, .ref m23, .ref m24, .ref m25, .ref m26, .ref m27, .int 0, .ref m29]))]) [0] (by decide) rfl
  have hFc := va_free (wc := [(g0, .inr (5, [.int 0, .int 0, .int (-1), .ref m3, .int 0, .ref m5, .ref m6, .ref m7, .ref m8, .ref m9, .ref m10, .ref m11, .ref m12, .ref m13, .ref m14, .ref m15, .ref m16, .ref m17, .ref m18, .ref m19, .ref m20, .int 0, .ref m22, .ref m23, .ref m24, .ref m25, .ref m26, .ref m27, .int 0, .ref m29]))]) hD hS hA [0] rfl
  refine fr_call (va_runV (C := R_MO) (As := [.int 1]) (rest := []) ⟨hx, hb, hml, hown, ht⟩ (c_MO_refused_yes l dC dI s.heap.size Bd g0 m3 m5 m6 m7 m8 m9 m10 m11 m12 m13 m14 m15 m16 m17 m18 m19 m20 m22 m23 m24 m25 m26 m27 m29 0 0) (cwV 1 ht (gV tb_736 tb_738 ts_23 tb_5 tb_739) rfl rfl rfl (by decide +kernel) ⟨Nat.le_of_ble_eq_true rfl, Nat.le_of_ble_eq_true rfl⟩) ⟨frP_blind, va_recv (q := (R_MO, F_MO, 30)) hK hP rfl (show ([(g0, .inr (5, [.int 0, .int 0, .int (-1), .ref m3, .int 0, .ref m5, .ref m6, .ref m7, .ref m8, .ref m9, .ref m10, .ref m11, .ref m12, .ref m13, .ref m14, .ref m15, .ref m16, .ref m17, .ref m18, .ref m19, .ref m20, .int 0, .ref m22, .ref m23, .ref m24, .ref m25, .ref m26, .ref m27, .int 0, .ref m29]))] : va_W)[0]? = some (g0, .inr (5, [.int 0, .int 0, .int (-1), .ref m3, .int 0, .ref m5, .ref m6, .ref m7, .ref m8, .ref m9, .ref m10, .ref m11, .ref m12, .ref m13, .ref m14, .ref m15, .ref m16, .ref m17, .ref m18, .ref m19, .ref m20, .int 0, .ref m22, .ref m23, .ref m24, .ref m25, .ref m26, .ref m27, .int 0, .ref m29])) from rfl), fr_pre hPc hKc hDc hAB hBs hS hV⟩ rfl rfl hl.1 rfl (lv_room (Nat.le_of_ble_eq_true rfl)) d_MO_protect_26 ⟨Nat.le_of_ble_eq_true rfl, Nat.le_of_ble_eq_true rfl⟩) hS (fun q _ h => hFc q h) hFc (fun t H1 locs ht1 hvm hB1 hz1 hk1 hS => ?_)
  obtain ⟨hP1, hK1, hD1⟩ := hB1
  rw [ht1] at hP1
  have hK1 := va_K.moved hvm.symm hK1
  obtain ⟨hP, hD⟩ := va_join (wr := []) (w1 := [(g0, .inr (5, [.int 1, .int 0, .int (-1), .ref m3, .int 0, .ref m5, .ref m6, .ref m7, .ref m8, .ref m9, .ref m10, .ref m11, .ref m12, .ref m13, .ref m14, .ref m15, .ref m16, .ref m17, .ref m18, .ref m19, .ref m20, .int 0, .ref m22, .ref m23, .ref m24, .ref m25, .ref m26, .ref m27, .int 0, .ref m29]))]) hP hD [0] [] rfl rfl (by decide) (by decide) hk1 hFc hP1 hD1
  have hK := hK.app hK1
  generalize H1 = H at hP hS ⊢
  have hP : va_P (dC, dI) cls_ [(g0, .inr (5, [.int 1, .int 0, .int (-1), .ref m3, .int 0, .ref m5, .ref m6, .ref m7, .ref m8, .ref m9, .ref m10, .ref m11, .ref m12, .ref m13, .ref m14, .ref m15, .ref m16, .ref m17, .ref m18, .ref m19, .ref m20, .int 0, .ref m22, .ref m23, .ref m24, .ref m25, .ref m26, .ref m27, .int 0, .ref m29]))] H := hP
  have hD : va_D A [(g0, .inr (5, [.int 1, .int 0, .int (-1), .ref m3, .int 0, .ref m5, .ref m6, .ref m7, .ref m8, .ref m9, .ref m10, .ref m11, .ref m12, .ref m13, .ref m14, .ref m15, .ref m16, .ref m17, .ref m18, .ref m19, .ref m20, .int 0, .ref m22, .ref m23, .ref m24, .ref m25, .ref m26, .ref m27, .int 0, .ref m29]))] := hD
  have hK : va_K (dC, dI) cls_ [] s := hK
  refine W.eq (g2 := F0 m 29 ls [.int 1]) rfl ?_
  refine W.cs (cells' := 0) (slots' := 0) rfl rfl ?_
  refine lv_if_ne (tgt := 39) hx hb d_MO_protect_29 (by decide) (fun _ => ?_) (fun h9 => absurd h9 (by decide))
  have hP9 := hP.sub (ws' := [(g0, .inr (5, [.int 1, .int 0, .int (-1), .ref m3, .int 0, .ref m5, .ref m6, .ref m7, .ref m8, .ref m9, .ref m10, .ref m11, .ref m12, .ref m13, .ref m14, .ref m15, .ref m16, .ref m17, .ref m18, .ref m19, .ref m20, .int 0, .ref m22, .ref m23, .ref m24, .ref m25, .ref m26, .ref m27, .int 0, .ref m29]))]) [0] rfl
  have hD9 := hD.sub (ws' := [(g0, .inr (5, [.int 1, .int 0, .int (-1), .ref m3, .int 0, .ref m5, .ref m6, .ref m7, .ref m8, .ref m9, .ref m10, .ref m11, .ref m12, .ref m13, .ref m14, .ref m15, .ref m16, .ref m17, .ref m18, .ref m19, .ref m20, .int 0, .ref m22, .ref m23, .ref m24, .ref m25, .ref m26, .ref m27, .int 0, .ref m29]))]) [0] (by decide) rfl
  have hK9 := hK.sub (tys' := []) [] rfl
  exact W.vret hx hb hr (fun t ht9 hW => ⟨rfl, ⟨by rw [ht9]; exact hP9, va_K.moved hW.alike hK9, hD9⟩, hS.F ht9⟩) hS.2.2 d_MO_protect_39
set_option maxHeartbeats 4000000 in
set_option maxRecDepth 100000 in
theorem c_MO_seen_bad (l : Launch) (dC : Nat → ClassId) (dI : Nat → Nat → Nat) (sz Bd : Nat) (g0 m3 m5 m6 m7 m8 m9 m10 m11 m12 m13 m14 m15 m16 m17 m18 m19 m20 m22 m23 m24 m25 m26 m27 m29 : Nat) (x y : Int32) : Met l y_MO_seen w_MO_seen ({ frames := 1, cells := 0, slots := 0, locals := 21 }) (frP (dC, dI) [(g0, .inr (5, [.int 0, .int 0, .int (-1), .ref m3, .int 0, .ref m5, .ref m6, .ref m7, .ref m8, .ref m9, .ref m10, .ref m11, .ref m12, .ref m13, .ref m14, .ref m15, .ref m16, .ref m17, .ref m18, .ref m19, .ref m20, .int 0, .ref m22, .ref m23, .ref m24, .ref m25, .ref m26, .ref m27, .int 0, .ref m29]))] [] sz Bd [.ref g0, .int x, .int y]) (frQ none (fun t => va_P (dC, dI) cls_ [(g0, .inr (5, [.int 1, .int 0, .int (-1), .ref m3, .int 0, .ref m5, .ref m6, .ref m7, .ref m8, .ref m9, .ref m10, .ref m11, .ref m12, .ref m13, .ref m14, .ref m15, .ref m16, .ref m17, .ref m18, .ref m19, .ref m20, .int 0, .ref m22, .ref m23, .ref m24, .ref m25, .ref m26, .ref m27, .int 0, .ref m29]))] t.heap ∧ va_K (dC, dI) cls_ [] t ∧ va_D (va_A [(g0, .inr (5, [.int 0, .int 0, .int (-1), .ref m3, .int 0, .ref m5, .ref m6, .ref m7, .ref m8, .ref m9, .ref m10, .ref m11, .ref m12, .ref m13, .ref m14, .ref m15, .ref m16, .ref m17, .ref m18, .ref m19, .ref m20, .int 0, .ref m22, .ref m23, .ref m24, .ref m25, .ref m26, .ref m27, .int 0, .ref m29]))] sz) [(g0, .inr (5, [.int 1, .int 0, .int (-1), .ref m3, .int 0, .ref m5, .ref m6, .ref m7, .ref m8, .ref m9, .ref m10, .ref m11, .ref m12, .ref m13, .ref m14, .ref m15, .ref m16, .ref m17, .ref m18, .ref m19, .ref m20, .int 0, .ref m22, .ref m23, .ref m24, .ref m25, .ref m26, .ref m27, .int 0, .ref m29]))]) (va_A [(g0, .inr (5, [.int 0, .int 0, .int (-1), .ref m3, .int 0, .ref m5, .ref m6, .ref m7, .ref m8, .ref m9, .ref m10, .ref m11, .ref m12, .ref m13, .ref m14, .ref m15, .ref m16, .ref m17, .ref m18, .ref m19, .ref m20, .int 0, .ref m22, .ref m23, .ref m24, .ref m25, .ref m26, .ref m27, .int 0, .ref m29]))] sz)) 0 0 (va_A [(g0, .inr (5, [.int 0, .int 0, .int (-1), .ref m3, .int 0, .ref m5, .ref m6, .ref m7, .ref m8, .ref m9, .ref m10, .ref m11, .ref m12, .ref m13, .ref m14, .ref m15, .ref m16, .ref m17, .ref m18, .ref m19, .ref m20, .int 0, .ref m22, .ref m23, .ref m24, .ref m25, .ref m26, .ref m27, .int 0, .ref m29]))] sz) := by
  refine Met.ofW (cc := c_MO_seen) (maxL := 3) (ret := none) (by decide) rfl ?_
  intro p e s m args below meth c s₁ B hml hv
  obtain ⟨rfl, ⟨hsz, hBs⟩, hP, hK, hD0, hV⟩ := hv
  have hx := B.exec
  have hb := B.bytes
  have hr := B.returns
  have ht : ∀ w ∈ tb_, w.before _ s = true := fun w h => atoms_spec (ws := w_MO_seen) B.pre w (List.mem_cons_of_mem _ h)
  have hown : s.vm.findClass R_MO = some m.cls := findClass_of_methodNamed B.named
  have hlocks := B.notSynchronized
  subst hsz
  have hD := hD0.self (sz := s.heap.size)
  have hAB : ∀ q, va_A [(g0, .inr (5, [.int 0, .int 0, .int (-1), .ref m3, .int 0, .ref m5, .ref m6, .ref m7, .ref m8, .ref m9, .ref m10, .ref m11, .ref m12, .ref m13, .ref m14, .ref m15, .ref m16, .ref m17, .ref m18, .ref m19, .ref m20, .int 0, .ref m22, .ref m23, .ref m24, .ref m25, .ref m26, .ref m27, .int 0, .ref m29]))] s.heap.size q → Bd ≤ q := fr_AB hD0 hBs
  generalize hAe : va_A [(g0, .inr (5, [.int 0, .int 0, .int (-1), .ref m3, .int 0, .ref m5, .ref m6, .ref m7, .ref m8, .ref m9, .ref m10, .ref m11, .ref m12, .ref m13, .ref m14, .ref m15, .ref m16, .ref m17, .ref m18, .ref m19, .ref m20, .int 0, .ref m22, .ref m23, .ref m24, .ref m25, .ref m26, .ref m27, .int 0, .ref m29]))] s.heap.size = A at hD hAB ⊢
  have hA : ∀ q : Nat, s.heap.size ≤ q → A q := fun q h => by rw [← hAe]; exact Or.inr h
  have hS : va_S A s.heap s.heap [] := va_S.rf
  have hAO := hV.2.2.2.1
  have hN_PL := hV.2.2.1.1
  have hN_RW := hV.2.2.1.2
  have hP : va_P (dC, dI) cls_ [(g0, .inr (5, [.int 0, .int 0, .int (-1), .ref m3, .int 0, .ref m5, .ref m6, .ref m7, .ref m8, .ref m9, .ref m10, .ref m11, .ref m12, .ref m13, .ref m14, .ref m15, .ref m16, .ref m17, .ref m18, .ref m19, .ref m20, .int 0, .ref m22, .ref m23, .ref m24, .ref m25, .ref m26, .ref m27, .int 0, .ref m29]))] s.heap := hP
  have hl := lv_entry ([.ref g0, .int x, .int y]) (n := 3) (Nat.le_of_ble_eq_true rfl)
  rw [lg_entry_eq]
  generalize (lg_sl ([.ref g0, .int x, .int y]) ++ List.replicate (3 - (lg_sl ([.ref g0, .int x, .int y])).length) Slot.unset).toArray = ls at hl ⊢
  have hl : lv_has ls 3 [(0, .ref g0), (1, .int x), (2, .int y)] := hl
  refine lv_aload_n hx hb d_MO_seen_0 rfl (lv_at hl 0 rfl) ?_
  refine lv_aload_n hx hb d_MO_seen_1 rfl (lv_at hl 0 rfl) ?_
  refine lv_iload_n hx hb d_MO_seen_2 rfl (lv_at hl 1 rfl) ?_
  have hPc := hP.sub (ws' := [(g0, .inr (5, [.int 0, .int 0, .int (-1), .ref m3, .int 0, .ref m5, .ref m6, .ref m7, .ref m8, .ref m9, .ref m10, .ref m11, .ref m12, .ref m13, .ref m14, .ref m15, .ref m16, .ref m17, .ref m18, .ref m19, .ref m20, .int 0, .ref m22, .ref m23, .ref m24, .ref m25, .ref m26, .ref m27, .int 0, .ref m29]))]) [0] rfl
  have hKc := hK.sub (tys' := []) [] rfl
  refine rd_call (va_runV (C := R_MO) (As := [.int x]) (rest := [.ref g0]) ⟨hx, hb, hml, hown, ht⟩ (c_MO_isRequest_0 l dC dI g0 m3 m5 m6 m7 m8 m9 m10 m11 m12 m13 m14 m15 m16 m17 m18 m19 m20 m22 m23 m24 m25 m26 m27 m29 x) (cwV 1 ht (gV tb_744 tb_746 ts_24 tb_5 tb_747) rfl rfl rfl (by decide +kernel) ⟨Nat.le_of_ble_eq_true rfl, Nat.le_of_ble_eq_true rfl⟩) ⟨rdP_blind, va_recv (q := (R_MO, F_MO, 30)) hK hP rfl (show ([(g0, .inr (5, [.int 0, .int 0, .int (-1), .ref m3, .int 0, .ref m5, .ref m6, .ref m7, .ref m8, .ref m9, .ref m10, .ref m11, .ref m12, .ref m13, .ref m14, .ref m15, .ref m16, .ref m17, .ref m18, .ref m19, .ref m20, .int 0, .ref m22, .ref m23, .ref m24, .ref m25, .ref m26, .ref m27, .int 0, .ref m29]))] : va_W)[0]? = some (g0, .inr (5, [.int 0, .int 0, .int (-1), .ref m3, .int 0, .ref m5, .ref m6, .ref m7, .ref m8, .ref m9, .ref m10, .ref m11, .ref m12, .ref m13, .ref m14, .ref m15, .ref m16, .ref m17, .ref m18, .ref m19, .ref m20, .int 0, .ref m22, .ref m23, .ref m24, .ref m25, .ref m26, .ref m27, .int 0, .ref m29])) from rfl), rd_pre hPc hKc⟩ rfl rfl hl.1 rfl (lv_room (Nat.le_of_ble_eq_true rfl)) d_MO_seen_3 ⟨Nat.le_of_ble_eq_true rfl, Nat.le_of_ble_eq_true rfl⟩) ?_
  refine W.eq (g2 := F0 m 6 ls [.int 0, .ref g0]) rfl ?_
  refine lv_if_ne (tgt := 13) hx hb d_MO_seen_6 (by decide) (fun h9 => absurd (rfl) h9) (fun _ => ?_)
  refine lv_iconst (v := 1) hx hb d_MO_seen_9 (by decide) ?_
  refine lv_goto (tgt := 26) hx hb d_MO_seen_10 (by decide) ?_
  have hPc := hP.sub (ws' := [(g0, .inr (5, [.int 0, .int 0, .int (-1), .ref m3, .int 0, .ref m5, .ref m6, .ref m7, .ref m8, .ref m9, .ref m10, .ref m11, .ref m12, .ref m13, .ref m14, .ref m15, .ref m16, .ref m17, .ref m18, .ref m19, .ref m20, .int 0, .ref m22, .ref m23, .ref m24, .ref m25, .ref m26, .ref m27, .int 0, .ref m29]))]) [0] rfl
  have hKc := hK.sub (tys' := []) [] rfl
  have hDc := hD.sub (ws' := [(g0, .inr (5, [.int 0, .int 0, .int (-1), .ref m3, .int 0, .ref m5, .ref m6, .ref m7, .ref m8, .ref m9, .ref m10, .ref m11, .ref m12, .ref m13, .ref m14, .ref m15, .ref m16, .ref m17, .ref m18, .ref m19, .ref m20, .int 0, .ref m22, .ref m23, .ref m24, .ref m25, .ref m26, .ref m27, .int 0, .ref m29]))]) [0] (by decide) rfl
  have hFc := va_free (wc := [(g0, .inr (5, [.int 0, .int 0, .int (-1), .ref m3, .int 0, .ref m5, .ref m6, .ref m7, .ref m8, .ref m9, .ref m10, .ref m11, .ref m12, .ref m13, .ref m14, .ref m15, .ref m16, .ref m17, .ref m18, .ref m19, .ref m20, .int 0, .ref m22, .ref m23, .ref m24, .ref m25, .ref m26, .ref m27, .int 0, .ref m29]))]) hD hS hA [0] rfl
  refine fr_call (va_runV (C := R_MO) (As := [.int 1]) (rest := []) ⟨hx, hb, hml, hown, ht⟩ (c_MO_refused_yes l dC dI s.heap.size Bd g0 m3 m5 m6 m7 m8 m9 m10 m11 m12 m13 m14 m15 m16 m17 m18 m19 m20 m22 m23 m24 m25 m26 m27 m29 0 0) (cwV 1 ht (gV tb_736 tb_738 ts_23 tb_5 tb_739) rfl rfl rfl (by decide +kernel) ⟨Nat.le_of_ble_eq_true rfl, Nat.le_of_ble_eq_true rfl⟩) ⟨frP_blind, va_recv (q := (R_MO, F_MO, 30)) hK hP rfl (show ([(g0, .inr (5, [.int 0, .int 0, .int (-1), .ref m3, .int 0, .ref m5, .ref m6, .ref m7, .ref m8, .ref m9, .ref m10, .ref m11, .ref m12, .ref m13, .ref m14, .ref m15, .ref m16, .ref m17, .ref m18, .ref m19, .ref m20, .int 0, .ref m22, .ref m23, .ref m24, .ref m25, .ref m26, .ref m27, .int 0, .ref m29]))] : va_W)[0]? = some (g0, .inr (5, [.int 0, .int 0, .int (-1), .ref m3, .int 0, .ref m5, .ref m6, .ref m7, .ref m8, .ref m9, .ref m10, .ref m11, .ref m12, .ref m13, .ref m14, .ref m15, .ref m16, .ref m17, .ref m18, .ref m19, .ref m20, .int 0, .ref m22, .ref m23, .ref m24, .ref m25, .ref m26, .ref m27, .int 0, .ref m29])) from rfl), fr_pre hPc hKc hDc hAB hBs hS hV⟩ rfl rfl hl.1 rfl (lv_room (Nat.le_of_ble_eq_true rfl)) d_MO_seen_26 ⟨Nat.le_of_ble_eq_true rfl, Nat.le_of_ble_eq_true rfl⟩) hS (fun q _ h => hFc q h) hFc (fun t H1 locs ht1 hvm hB1 hz1 hk1 hS => ?_)
  obtain ⟨hP1, hK1, hD1⟩ := hB1
  rw [ht1] at hP1
  have hK1 := va_K.moved hvm.symm hK1
  obtain ⟨hP, hD⟩ := va_join (wr := []) (w1 := [(g0, .inr (5, [.int 1, .int 0, .int (-1), .ref m3, .int 0, .ref m5, .ref m6, .ref m7, .ref m8, .ref m9, .ref m10, .ref m11, .ref m12, .ref m13, .ref m14, .ref m15, .ref m16, .ref m17, .ref m18, .ref m19, .ref m20, .int 0, .ref m22, .ref m23, .ref m24, .ref m25, .ref m26, .ref m27, .int 0, .ref m29]))]) hP hD [0] [] rfl rfl (by decide) (by decide) hk1 hFc hP1 hD1
  have hK := hK.app hK1
  generalize H1 = H at hP hS ⊢
  have hP : va_P (dC, dI) cls_ [(g0, .inr (5, [.int 1, .int 0, .int (-1), .ref m3, .int 0, .ref m5, .ref m6, .ref m7, .ref m8, .ref m9, .ref m10, .ref m11, .ref m12, .ref m13, .ref m14, .ref m15, .ref m16, .ref m17, .ref m18, .ref m19, .ref m20, .int 0, .ref m22, .ref m23, .ref m24, .ref m25, .ref m26, .ref m27, .int 0, .ref m29]))] H := hP
  have hD : va_D A [(g0, .inr (5, [.int 1, .int 0, .int (-1), .ref m3, .int 0, .ref m5, .ref m6, .ref m7, .ref m8, .ref m9, .ref m10, .ref m11, .ref m12, .ref m13, .ref m14, .ref m15, .ref m16, .ref m17, .ref m18, .ref m19, .ref m20, .int 0, .ref m22, .ref m23, .ref m24, .ref m25, .ref m26, .ref m27, .int 0, .ref m29]))] := hD
  have hK : va_K (dC, dI) cls_ [] s := hK
  refine W.eq (g2 := F0 m 29 ls [.int 1]) rfl ?_
  refine W.cs (cells' := 0) (slots' := 0) rfl rfl ?_
  refine lv_if_ne (tgt := 39) hx hb d_MO_seen_29 (by decide) (fun _ => ?_) (fun h9 => absurd h9 (by decide))
  have hP9 := hP.sub (ws' := [(g0, .inr (5, [.int 1, .int 0, .int (-1), .ref m3, .int 0, .ref m5, .ref m6, .ref m7, .ref m8, .ref m9, .ref m10, .ref m11, .ref m12, .ref m13, .ref m14, .ref m15, .ref m16, .ref m17, .ref m18, .ref m19, .ref m20, .int 0, .ref m22, .ref m23, .ref m24, .ref m25, .ref m26, .ref m27, .int 0, .ref m29]))]) [0] rfl
  have hD9 := hD.sub (ws' := [(g0, .inr (5, [.int 1, .int 0, .int (-1), .ref m3, .int 0, .ref m5, .ref m6, .ref m7, .ref m8, .ref m9, .ref m10, .ref m11, .ref m12, .ref m13, .ref m14, .ref m15, .ref m16, .ref m17, .ref m18, .ref m19, .ref m20, .int 0, .ref m22, .ref m23, .ref m24, .ref m25, .ref m26, .ref m27, .int 0, .ref m29]))]) [0] (by decide) rfl
  have hK9 := hK.sub (tys' := []) [] rfl
  exact W.vret hx hb hr (fun t ht9 hW => ⟨rfl, ⟨by rw [ht9]; exact hP9, va_K.moved hW.alike hK9, hD9⟩, hS.F ht9⟩) hS.2.2 d_MO_seen_39
set_option maxHeartbeats 4000000 in
set_option maxRecDepth 100000 in
theorem c_MO_erase_bad (l : Launch) (dC : Nat → ClassId) (dI : Nat → Nat → Nat) (sz Bd : Nat) (g0 m3 m5 m6 m7 m8 m9 m10 m11 m12 m13 m14 m15 m16 m17 m18 m19 m20 m22 m23 m24 m25 m26 m27 m29 : Nat) (x : Int32) : Met l y_MO_erase w_MO_erase ({ frames := 1, cells := 0, slots := 0, locals := 21 }) (frP (dC, dI) [(g0, .inr (5, [.int 0, .int 0, .int (-1), .ref m3, .int 0, .ref m5, .ref m6, .ref m7, .ref m8, .ref m9, .ref m10, .ref m11, .ref m12, .ref m13, .ref m14, .ref m15, .ref m16, .ref m17, .ref m18, .ref m19, .ref m20, .int 0, .ref m22, .ref m23, .ref m24, .ref m25, .ref m26, .ref m27, .int 0, .ref m29]))] [] sz Bd [.ref g0, .int x]) (frQ (some (.int 0)) (fun t => va_P (dC, dI) cls_ [(g0, .inr (5, [.int 1, .int 0, .int (-1), .ref m3, .int 0, .ref m5, .ref m6, .ref m7, .ref m8, .ref m9, .ref m10, .ref m11, .ref m12, .ref m13, .ref m14, .ref m15, .ref m16, .ref m17, .ref m18, .ref m19, .ref m20, .int 0, .ref m22, .ref m23, .ref m24, .ref m25, .ref m26, .ref m27, .int 0, .ref m29]))] t.heap ∧ va_K (dC, dI) cls_ [] t ∧ va_D (va_A [(g0, .inr (5, [.int 0, .int 0, .int (-1), .ref m3, .int 0, .ref m5, .ref m6, .ref m7, .ref m8, .ref m9, .ref m10, .ref m11, .ref m12, .ref m13, .ref m14, .ref m15, .ref m16, .ref m17, .ref m18, .ref m19, .ref m20, .int 0, .ref m22, .ref m23, .ref m24, .ref m25, .ref m26, .ref m27, .int 0, .ref m29]))] sz) [(g0, .inr (5, [.int 1, .int 0, .int (-1), .ref m3, .int 0, .ref m5, .ref m6, .ref m7, .ref m8, .ref m9, .ref m10, .ref m11, .ref m12, .ref m13, .ref m14, .ref m15, .ref m16, .ref m17, .ref m18, .ref m19, .ref m20, .int 0, .ref m22, .ref m23, .ref m24, .ref m25, .ref m26, .ref m27, .int 0, .ref m29]))]) (va_A [(g0, .inr (5, [.int 0, .int 0, .int (-1), .ref m3, .int 0, .ref m5, .ref m6, .ref m7, .ref m8, .ref m9, .ref m10, .ref m11, .ref m12, .ref m13, .ref m14, .ref m15, .ref m16, .ref m17, .ref m18, .ref m19, .ref m20, .int 0, .ref m22, .ref m23, .ref m24, .ref m25, .ref m26, .ref m27, .int 0, .ref m29]))] sz)) 0 0 (va_A [(g0, .inr (5, [.int 0, .int 0, .int (-1), .ref m3, .int 0, .ref m5, .ref m6, .ref m7, .ref m8, .ref m9, .ref m10, .ref m11, .ref m12, .ref m13, .ref m14, .ref m15, .ref m16, .ref m17, .ref m18, .ref m19, .ref m20, .int 0, .ref m22, .ref m23, .ref m24, .ref m25, .ref m26, .ref m27, .int 0, .ref m29]))] sz) := by
  refine Met.ofW (cc := c_MO_erase) (maxL := 2) (ret := (some .int)) (by decide) rfl ?_
  intro p e s m args below meth c s₁ B hml hv
  obtain ⟨rfl, ⟨hsz, hBs⟩, hP, hK, hD0, hV⟩ := hv
  have hx := B.exec
  have hb := B.bytes
  have hr := B.returns
  have ht : ∀ w ∈ tb_, w.before _ s = true := fun w h => atoms_spec (ws := w_MO_erase) B.pre w (List.mem_cons_of_mem _ h)
  have hown : s.vm.findClass R_MO = some m.cls := findClass_of_methodNamed B.named
  have hlocks := B.notSynchronized
  subst hsz
  have hD := hD0.self (sz := s.heap.size)
  have hAB : ∀ q, va_A [(g0, .inr (5, [.int 0, .int 0, .int (-1), .ref m3, .int 0, .ref m5, .ref m6, .ref m7, .ref m8, .ref m9, .ref m10, .ref m11, .ref m12, .ref m13, .ref m14, .ref m15, .ref m16, .ref m17, .ref m18, .ref m19, .ref m20, .int 0, .ref m22, .ref m23, .ref m24, .ref m25, .ref m26, .ref m27, .int 0, .ref m29]))] s.heap.size q → Bd ≤ q := fr_AB hD0 hBs
  generalize hAe : va_A [(g0, .inr (5, [.int 0, .int 0, .int (-1), .ref m3, .int 0, .ref m5, .ref m6, .ref m7, .ref m8, .ref m9, .ref m10, .ref m11, .ref m12, .ref m13, .ref m14, .ref m15, .ref m16, .ref m17, .ref m18, .ref m19, .ref m20, .int 0, .ref m22, .ref m23, .ref m24, .ref m25, .ref m26, .ref m27, .int 0, .ref m29]))] s.heap.size = A at hD hAB ⊢
  have hA : ∀ q : Nat, s.heap.size ≤ q → A q := fun q h => by rw [← hAe]; exact Or.inr h
  have hS : va_S A s.heap s.heap [] := va_S.rf
  have hAO := hV.2.2.2.1
  have hN_PL := hV.2.2.1.1
  have hN_RW := hV.2.2.1.2
  have hP : va_P (dC, dI) cls_ [(g0, .inr (5, [.int 0, .int 0, .int (-1), .ref m3, .int 0, .ref m5, .ref m6, .ref m7, .ref m8, .ref m9, .ref m10, .ref m11, .ref m12, .ref m13, .ref m14, .ref m15, .ref m16, .ref m17, .ref m18, .ref m19, .ref m20, .int 0, .ref m22, .ref m23, .ref m24, .ref m25, .ref m26, .ref m27, .int 0, .ref m29]))] s.heap := hP
  have hl := lv_entry ([.ref g0, .int x]) (n := 2) (Nat.le_of_ble_eq_true rfl)
  rw [lg_entry_eq]
  generalize (lg_sl ([.ref g0, .int x]) ++ List.replicate (2 - (lg_sl ([.ref g0, .int x])).length) Slot.unset).toArray = ls at hl ⊢
  have hl : lv_has ls 2 [(0, .ref g0), (1, .int x)] := hl
  refine lv_aload_n hx hb d_MO_erase_0 rfl (lv_at hl 0 rfl) ?_
  refine lv_aload_n hx hb d_MO_erase_1 rfl (lv_at hl 0 rfl) ?_
  refine lv_iload_n hx hb d_MO_erase_2 rfl (lv_at hl 1 rfl) ?_
  have hPc := hP.sub (ws' := [(g0, .inr (5, [.int 0, .int 0, .int (-1), .ref m3, .int 0, .ref m5, .ref m6, .ref m7, .ref m8, .ref m9, .ref m10, .ref m11, .ref m12, .ref m13, .ref m14, .ref m15, .ref m16, .ref m17, .ref m18, .ref m19, .ref m20, .int 0, .ref m22, .ref m23, .ref m24, .ref m25, .ref m26, .ref m27, .int 0, .ref m29]))]) [0] rfl
  have hKc := hK.sub (tys' := []) [] rfl
  refine rd_call (va_runV (C := R_MO) (As := [.int x]) (rest := [.ref g0]) ⟨hx, hb, hml, hown, ht⟩ (c_MO_isRequest_0 l dC dI g0 m3 m5 m6 m7 m8 m9 m10 m11 m12 m13 m14 m15 m16 m17 m18 m19 m20 m22 m23 m24 m25 m26 m27 m29 x) (cwV 1 ht (gV tb_744 tb_746 ts_24 tb_5 tb_747) rfl rfl rfl (by decide +kernel) ⟨Nat.le_of_ble_eq_true rfl, Nat.le_of_ble_eq_true rfl⟩) ⟨rdP_blind, va_recv (q := (R_MO, F_MO, 30)) hK hP rfl (show ([(g0, .inr (5, [.int 0, .int 0, .int (-1), .ref m3, .int 0, .ref m5, .ref m6, .ref m7, .ref m8, .ref m9, .ref m10, .ref m11, .ref m12, .ref m13, .ref m14, .ref m15, .ref m16, .ref m17, .ref m18, .ref m19, .ref m20, .int 0, .ref m22, .ref m23, .ref m24, .ref m25, .ref m26, .ref m27, .int 0, .ref m29]))] : va_W)[0]? = some (g0, .inr (5, [.int 0, .int 0, .int (-1), .ref m3, .int 0, .ref m5, .ref m6, .ref m7, .ref m8, .ref m9, .ref m10, .ref m11, .ref m12, .ref m13, .ref m14, .ref m15, .ref m16, .ref m17, .ref m18, .ref m19, .ref m20, .int 0, .ref m22, .ref m23, .ref m24, .ref m25, .ref m26, .ref m27, .int 0, .ref m29])) from rfl), rd_pre hPc hKc⟩ rfl rfl hl.1 rfl (lv_room (Nat.le_of_ble_eq_true rfl)) d_MO_erase_3 ⟨Nat.le_of_ble_eq_true rfl, Nat.le_of_ble_eq_true rfl⟩) ?_
  refine W.eq (g2 := F0 m 6 ls [.int 0, .ref g0]) rfl ?_
  refine lv_if_ne (tgt := 13) hx hb d_MO_erase_6 (by decide) (fun h9 => absurd (rfl) h9) (fun _ => ?_)
  refine lv_iconst (v := 1) hx hb d_MO_erase_9 (by decide) ?_
  refine lv_goto (tgt := 28) hx hb d_MO_erase_10 (by decide) ?_
  have hPc := hP.sub (ws' := [(g0, .inr (5, [.int 0, .int 0, .int (-1), .ref m3, .int 0, .ref m5, .ref m6, .ref m7, .ref m8, .ref m9, .ref m10, .ref m11, .ref m12, .ref m13, .ref m14, .ref m15, .ref m16, .ref m17, .ref m18, .ref m19, .ref m20, .int 0, .ref m22, .ref m23, .ref m24, .ref m25, .ref m26, .ref m27, .int 0, .ref m29]))]) [0] rfl
  have hKc := hK.sub (tys' := []) [] rfl
  have hDc := hD.sub (ws' := [(g0, .inr (5, [.int 0, .int 0, .int (-1), .ref m3, .int 0, .ref m5, .ref m6, .ref m7, .ref m8, .ref m9, .ref m10, .ref m11, .ref m12, .ref m13, .ref m14, .ref m15, .ref m16, .ref m17, .ref m18, .ref m19, .ref m20, .int 0, .ref m22, .ref m23, .ref m24, .ref m25, .ref m26, .ref m27, .int 0, .ref m29]))]) [0] (by decide) rfl
  have hFc := va_free (wc := [(g0, .inr (5, [.int 0, .int 0, .int (-1), .ref m3, .int 0, .ref m5, .ref m6, .ref m7, .ref m8, .ref m9, .ref m10, .ref m11, .ref m12, .ref m13, .ref m14, .ref m15, .ref m16, .ref m17, .ref m18, .ref m19, .ref m20, .int 0, .ref m22, .ref m23, .ref m24, .ref m25, .ref m26, .ref m27, .int 0, .ref m29]))]) hD hS hA [0] rfl
  refine fr_call (va_runV (C := R_MO) (As := [.int 1]) (rest := []) ⟨hx, hb, hml, hown, ht⟩ (c_MO_refused_yes l dC dI s.heap.size Bd g0 m3 m5 m6 m7 m8 m9 m10 m11 m12 m13 m14 m15 m16 m17 m18 m19 m20 m22 m23 m24 m25 m26 m27 m29 0 0) (cwV 1 ht (gV tb_736 tb_738 ts_23 tb_5 tb_739) rfl rfl rfl (by decide +kernel) ⟨Nat.le_of_ble_eq_true rfl, Nat.le_of_ble_eq_true rfl⟩) ⟨frP_blind, va_recv (q := (R_MO, F_MO, 30)) hK hP rfl (show ([(g0, .inr (5, [.int 0, .int 0, .int (-1), .ref m3, .int 0, .ref m5, .ref m6, .ref m7, .ref m8, .ref m9, .ref m10, .ref m11, .ref m12, .ref m13, .ref m14, .ref m15, .ref m16, .ref m17, .ref m18, .ref m19, .ref m20, .int 0, .ref m22, .ref m23, .ref m24, .ref m25, .ref m26, .ref m27, .int 0, .ref m29]))] : va_W)[0]? = some (g0, .inr (5, [.int 0, .int 0, .int (-1), .ref m3, .int 0, .ref m5, .ref m6, .ref m7, .ref m8, .ref m9, .ref m10, .ref m11, .ref m12, .ref m13, .ref m14, .ref m15, .ref m16, .ref m17, .ref m18, .ref m19, .ref m20, .int 0, .ref m22, .ref m23, .ref m24, .ref m25, .ref m26, .ref m27, .int 0, .ref m29])) from rfl), fr_pre hPc hKc hDc hAB hBs hS hV⟩ rfl rfl hl.1 rfl (lv_room (Nat.le_of_ble_eq_true rfl)) d_MO_erase_28 ⟨Nat.le_of_ble_eq_true rfl, Nat.le_of_ble_eq_true rfl⟩) hS (fun q _ h => hFc q h) hFc (fun t H1 locs ht1 hvm hB1 hz1 hk1 hS => ?_)
  obtain ⟨hP1, hK1, hD1⟩ := hB1
  rw [ht1] at hP1
  have hK1 := va_K.moved hvm.symm hK1
  obtain ⟨hP, hD⟩ := va_join (wr := []) (w1 := [(g0, .inr (5, [.int 1, .int 0, .int (-1), .ref m3, .int 0, .ref m5, .ref m6, .ref m7, .ref m8, .ref m9, .ref m10, .ref m11, .ref m12, .ref m13, .ref m14, .ref m15, .ref m16, .ref m17, .ref m18, .ref m19, .ref m20, .int 0, .ref m22, .ref m23, .ref m24, .ref m25, .ref m26, .ref m27, .int 0, .ref m29]))]) hP hD [0] [] rfl rfl (by decide) (by decide) hk1 hFc hP1 hD1
  have hK := hK.app hK1
  generalize H1 = H at hP hS ⊢
  have hP : va_P (dC, dI) cls_ [(g0, .inr (5, [.int 1, .int 0, .int (-1), .ref m3, .int 0, .ref m5, .ref m6, .ref m7, .ref m8, .ref m9, .ref m10, .ref m11, .ref m12, .ref m13, .ref m14, .ref m15, .ref m16, .ref m17, .ref m18, .ref m19, .ref m20, .int 0, .ref m22, .ref m23, .ref m24, .ref m25, .ref m26, .ref m27, .int 0, .ref m29]))] H := hP
  have hD : va_D A [(g0, .inr (5, [.int 1, .int 0, .int (-1), .ref m3, .int 0, .ref m5, .ref m6, .ref m7, .ref m8, .ref m9, .ref m10, .ref m11, .ref m12, .ref m13, .ref m14, .ref m15, .ref m16, .ref m17, .ref m18, .ref m19, .ref m20, .int 0, .ref m22, .ref m23, .ref m24, .ref m25, .ref m26, .ref m27, .int 0, .ref m29]))] := hD
  have hK : va_K (dC, dI) cls_ [] s := hK
  refine W.eq (g2 := F0 m 31 ls [.int 1]) rfl ?_
  refine W.cs (cells' := 0) (slots' := 0) rfl rfl ?_
  refine lv_if_eq (tgt := 38) hx hb d_MO_erase_31 (by decide) (fun h9 => absurd h9 (by decide)) (fun _ => ?_)
  refine lv_iconst (v := 0) hx hb d_MO_erase_34 (by decide) ?_
  refine lv_goto (tgt := 43) hx hb d_MO_erase_35 (by decide) ?_
  have hP9 := hP.sub (ws' := [(g0, .inr (5, [.int 1, .int 0, .int (-1), .ref m3, .int 0, .ref m5, .ref m6, .ref m7, .ref m8, .ref m9, .ref m10, .ref m11, .ref m12, .ref m13, .ref m14, .ref m15, .ref m16, .ref m17, .ref m18, .ref m19, .ref m20, .int 0, .ref m22, .ref m23, .ref m24, .ref m25, .ref m26, .ref m27, .int 0, .ref m29]))]) [0] rfl
  have hD9 := hD.sub (ws' := [(g0, .inr (5, [.int 1, .int 0, .int (-1), .ref m3, .int 0, .ref m5, .ref m6, .ref m7, .ref m8, .ref m9, .ref m10, .ref m11, .ref m12, .ref m13, .ref m14, .ref m15, .ref m16, .ref m17, .ref m18, .ref m19, .ref m20, .int 0, .ref m22, .ref m23, .ref m24, .ref m25, .ref m26, .ref m27, .int 0, .ref m29]))]) [0] (by decide) rfl
  have hK9 := hK.sub (tys' := []) [] rfl
  exact W.iret (v := 0) hx hb hr (fun t ht9 hW => ⟨rfl, ⟨by rw [ht9]; exact hP9, va_K.moved hW.alike hK9, hD9⟩, hS.F ht9⟩) hS.2.2 d_MO_erase_43
set_option maxHeartbeats 4000000 in
set_option maxRecDepth 100000 in
theorem c_MO_bookmark_bad (l : Launch) (dC : Nat → ClassId) (dI : Nat → Nat → Nat) (sz Bd : Nat) (g0 m3 m5 m6 m7 m8 m9 m10 m11 m12 m13 m14 m15 m16 m17 m18 m19 m20 m22 m23 m24 m25 m26 m27 m29 : Nat) (x y : Int32) : Met l y_MO_bookmark w_MO_bookmark ({ frames := 1, cells := 0, slots := 0, locals := 21 }) (frP (dC, dI) [(g0, .inr (5, [.int 0, .int 0, .int (-1), .ref m3, .int 0, .ref m5, .ref m6, .ref m7, .ref m8, .ref m9, .ref m10, .ref m11, .ref m12, .ref m13, .ref m14, .ref m15, .ref m16, .ref m17, .ref m18, .ref m19, .ref m20, .int 0, .ref m22, .ref m23, .ref m24, .ref m25, .ref m26, .ref m27, .int 0, .ref m29]))] [] sz Bd [.ref g0, .int x, .int y]) (frQ (some (.int 0)) (fun t => va_P (dC, dI) cls_ [(g0, .inr (5, [.int 1, .int 0, .int (-1), .ref m3, .int 0, .ref m5, .ref m6, .ref m7, .ref m8, .ref m9, .ref m10, .ref m11, .ref m12, .ref m13, .ref m14, .ref m15, .ref m16, .ref m17, .ref m18, .ref m19, .ref m20, .int 0, .ref m22, .ref m23, .ref m24, .ref m25, .ref m26, .ref m27, .int 0, .ref m29]))] t.heap ∧ va_K (dC, dI) cls_ [] t ∧ va_D (va_A [(g0, .inr (5, [.int 0, .int 0, .int (-1), .ref m3, .int 0, .ref m5, .ref m6, .ref m7, .ref m8, .ref m9, .ref m10, .ref m11, .ref m12, .ref m13, .ref m14, .ref m15, .ref m16, .ref m17, .ref m18, .ref m19, .ref m20, .int 0, .ref m22, .ref m23, .ref m24, .ref m25, .ref m26, .ref m27, .int 0, .ref m29]))] sz) [(g0, .inr (5, [.int 1, .int 0, .int (-1), .ref m3, .int 0, .ref m5, .ref m6, .ref m7, .ref m8, .ref m9, .ref m10, .ref m11, .ref m12, .ref m13, .ref m14, .ref m15, .ref m16, .ref m17, .ref m18, .ref m19, .ref m20, .int 0, .ref m22, .ref m23, .ref m24, .ref m25, .ref m26, .ref m27, .int 0, .ref m29]))]) (va_A [(g0, .inr (5, [.int 0, .int 0, .int (-1), .ref m3, .int 0, .ref m5, .ref m6, .ref m7, .ref m8, .ref m9, .ref m10, .ref m11, .ref m12, .ref m13, .ref m14, .ref m15, .ref m16, .ref m17, .ref m18, .ref m19, .ref m20, .int 0, .ref m22, .ref m23, .ref m24, .ref m25, .ref m26, .ref m27, .int 0, .ref m29]))] sz)) 0 0 (va_A [(g0, .inr (5, [.int 0, .int 0, .int (-1), .ref m3, .int 0, .ref m5, .ref m6, .ref m7, .ref m8, .ref m9, .ref m10, .ref m11, .ref m12, .ref m13, .ref m14, .ref m15, .ref m16, .ref m17, .ref m18, .ref m19, .ref m20, .int 0, .ref m22, .ref m23, .ref m24, .ref m25, .ref m26, .ref m27, .int 0, .ref m29]))] sz) := by
  refine Met.ofW (cc := c_MO_bookmark) (maxL := 3) (ret := (some .int)) (by decide) rfl ?_
  intro p e s m args below meth c s₁ B hml hv
  obtain ⟨rfl, ⟨hsz, hBs⟩, hP, hK, hD0, hV⟩ := hv
  have hx := B.exec
  have hb := B.bytes
  have hr := B.returns
  have ht : ∀ w ∈ tb_, w.before _ s = true := fun w h => atoms_spec (ws := w_MO_bookmark) B.pre w (List.mem_cons_of_mem _ h)
  have hown : s.vm.findClass R_MO = some m.cls := findClass_of_methodNamed B.named
  have hlocks := B.notSynchronized
  subst hsz
  have hD := hD0.self (sz := s.heap.size)
  have hAB : ∀ q, va_A [(g0, .inr (5, [.int 0, .int 0, .int (-1), .ref m3, .int 0, .ref m5, .ref m6, .ref m7, .ref m8, .ref m9, .ref m10, .ref m11, .ref m12, .ref m13, .ref m14, .ref m15, .ref m16, .ref m17, .ref m18, .ref m19, .ref m20, .int 0, .ref m22, .ref m23, .ref m24, .ref m25, .ref m26, .ref m27, .int 0, .ref m29]))] s.heap.size q → Bd ≤ q := fr_AB hD0 hBs
  generalize hAe : va_A [(g0, .inr (5, [.int 0, .int 0, .int (-1), .ref m3, .int 0, .ref m5, .ref m6, .ref m7, .ref m8, .ref m9, .ref m10, .ref m11, .ref m12, .ref m13, .ref m14, .ref m15, .ref m16, .ref m17, .ref m18, .ref m19, .ref m20, .int 0, .ref m22, .ref m23, .ref m24, .ref m25, .ref m26, .ref m27, .int 0, .ref m29]))] s.heap.size = A at hD hAB ⊢
  have hA : ∀ q : Nat, s.heap.size ≤ q → A q := fun q h => by rw [← hAe]; exact Or.inr h
  have hS : va_S A s.heap s.heap [] := va_S.rf
  have hAO := hV.2.2.2.1
  have hN_PL := hV.2.2.1.1
  have hN_RW := hV.2.2.1.2
  have hP : va_P (dC, dI) cls_ [(g0, .inr (5, [.int 0, .int 0, .int (-1), .ref m3, .int 0, .ref m5, .ref m6, .ref m7, .ref m8, .ref m9, .ref m10, .ref m11, .ref m12, .ref m13, .ref m14, .ref m15, .ref m16, .ref m17, .ref m18, .ref m19, .ref m20, .int 0, .ref m22, .ref m23, .ref m24, .ref m25, .ref m26, .ref m27, .int 0, .ref m29]))] s.heap := hP
  have hl := lv_entry ([.ref g0, .int x, .int y]) (n := 3) (Nat.le_of_ble_eq_true rfl)
  rw [lg_entry_eq]
  generalize (lg_sl ([.ref g0, .int x, .int y]) ++ List.replicate (3 - (lg_sl ([.ref g0, .int x, .int y])).length) Slot.unset).toArray = ls at hl ⊢
  have hl : lv_has ls 3 [(0, .ref g0), (1, .int x), (2, .int y)] := hl
  refine lv_aload_n hx hb d_MO_bookmark_0 rfl (lv_at hl 0 rfl) ?_
  refine lv_aload_n hx hb d_MO_bookmark_1 rfl (lv_at hl 0 rfl) ?_
  refine lv_iload_n hx hb d_MO_bookmark_2 rfl (lv_at hl 1 rfl) ?_
  have hPc := hP.sub (ws' := [(g0, .inr (5, [.int 0, .int 0, .int (-1), .ref m3, .int 0, .ref m5, .ref m6, .ref m7, .ref m8, .ref m9, .ref m10, .ref m11, .ref m12, .ref m13, .ref m14, .ref m15, .ref m16, .ref m17, .ref m18, .ref m19, .ref m20, .int 0, .ref m22, .ref m23, .ref m24, .ref m25, .ref m26, .ref m27, .int 0, .ref m29]))]) [0] rfl
  have hKc := hK.sub (tys' := []) [] rfl
  refine rd_call (va_runV (C := R_MO) (As := [.int x]) (rest := [.ref g0]) ⟨hx, hb, hml, hown, ht⟩ (c_MO_isRequest_0 l dC dI g0 m3 m5 m6 m7 m8 m9 m10 m11 m12 m13 m14 m15 m16 m17 m18 m19 m20 m22 m23 m24 m25 m26 m27 m29 x) (cwV 1 ht (gV tb_744 tb_746 ts_24 tb_5 tb_747) rfl rfl rfl (by decide +kernel) ⟨Nat.le_of_ble_eq_true rfl, Nat.le_of_ble_eq_true rfl⟩) ⟨rdP_blind, va_recv (q := (R_MO, F_MO, 30)) hK hP rfl (show ([(g0, .inr (5, [.int 0, .int 0, .int (-1), .ref m3, .int 0, .ref m5, .ref m6, .ref m7, .ref m8, .ref m9, .ref m10, .ref m11, .ref m12, .ref m13, .ref m14, .ref m15, .ref m16, .ref m17, .ref m18, .ref m19, .ref m20, .int 0, .ref m22, .ref m23, .ref m24, .ref m25, .ref m26, .ref m27, .int 0, .ref m29]))] : va_W)[0]? = some (g0, .inr (5, [.int 0, .int 0, .int (-1), .ref m3, .int 0, .ref m5, .ref m6, .ref m7, .ref m8, .ref m9, .ref m10, .ref m11, .ref m12, .ref m13, .ref m14, .ref m15, .ref m16, .ref m17, .ref m18, .ref m19, .ref m20, .int 0, .ref m22, .ref m23, .ref m24, .ref m25, .ref m26, .ref m27, .int 0, .ref m29])) from rfl), rd_pre hPc hKc⟩ rfl rfl hl.1 rfl (lv_room (Nat.le_of_ble_eq_true rfl)) d_MO_bookmark_3 ⟨Nat.le_of_ble_eq_true rfl, Nat.le_of_ble_eq_true rfl⟩) ?_
  refine W.eq (g2 := F0 m 6 ls [.int 0, .ref g0]) rfl ?_
  refine lv_if_ne (tgt := 13) hx hb d_MO_bookmark_6 (by decide) (fun h9 => absurd (rfl) h9) (fun _ => ?_)
  refine lv_iconst (v := 1) hx hb d_MO_bookmark_9 (by decide) ?_
  refine lv_goto (tgt := 50) hx hb d_MO_bookmark_10 (by decide) ?_
  have hPc := hP.sub (ws' := [(g0, .inr (5, [.int 0, .int 0, .int (-1), .ref m3, .int 0, .ref m5, .ref m6, .ref m7, .ref m8, .ref m9, .ref m10, .ref m11, .ref m12, .ref m13, .ref m14, .ref m15, .ref m16, .ref m17, .ref m18, .ref m19, .ref m20, .int 0, .ref m22, .ref m23, .ref m24, .ref m25, .ref m26, .ref m27, .int 0, .ref m29]))]) [0] rfl
  have hKc := hK.sub (tys' := []) [] rfl
  have hDc := hD.sub (ws' := [(g0, .inr (5, [.int 0, .int 0, .int (-1), .ref m3, .int 0, .ref m5, .ref m6, .ref m7, .ref m8, .ref m9, .ref m10, .ref m11, .ref m12, .ref m13, .ref m14, .ref m15, .ref m16, .ref m17, .ref m18, .ref m19, .ref m20, .int 0, .ref m22, .ref m23, .ref m24, .ref m25, .ref m26, .ref m27, .int 0, .ref m29]))]) [0] (by decide) rfl
  have hFc := va_free (wc := [(g0, .inr (5, [.int 0, .int 0, .int (-1), .ref m3, .int 0, .ref m5, .ref m6, .ref m7, .ref m8, .ref m9, .ref m10, .ref m11, .ref m12, .ref m13, .ref m14, .ref m15, .ref m16, .ref m17, .ref m18, .ref m19, .ref m20, .int 0, .ref m22, .ref m23, .ref m24, .ref m25, .ref m26, .ref m27, .int 0, .ref m29]))]) hD hS hA [0] rfl
  refine fr_call (va_runV (C := R_MO) (As := [.int 1]) (rest := []) ⟨hx, hb, hml, hown, ht⟩ (c_MO_refused_yes l dC dI s.heap.size Bd g0 m3 m5 m6 m7 m8 m9 m10 m11 m12 m13 m14 m15 m16 m17 m18 m19 m20 m22 m23 m24 m25 m26 m27 m29 0 0) (cwV 1 ht (gV tb_736 tb_738 ts_23 tb_5 tb_739) rfl rfl rfl (by decide +kernel) ⟨Nat.le_of_ble_eq_true rfl, Nat.le_of_ble_eq_true rfl⟩) ⟨frP_blind, va_recv (q := (R_MO, F_MO, 30)) hK hP rfl (show ([(g0, .inr (5, [.int 0, .int 0, .int (-1), .ref m3, .int 0, .ref m5, .ref m6, .ref m7, .ref m8, .ref m9, .ref m10, .ref m11, .ref m12, .ref m13, .ref m14, .ref m15, .ref m16, .ref m17, .ref m18, .ref m19, .ref m20, .int 0, .ref m22, .ref m23, .ref m24, .ref m25, .ref m26, .ref m27, .int 0, .ref m29]))] : va_W)[0]? = some (g0, .inr (5, [.int 0, .int 0, .int (-1), .ref m3, .int 0, .ref m5, .ref m6, .ref m7, .ref m8, .ref m9, .ref m10, .ref m11, .ref m12, .ref m13, .ref m14, .ref m15, .ref m16, .ref m17, .ref m18, .ref m19, .ref m20, .int 0, .ref m22, .ref m23, .ref m24, .ref m25, .ref m26, .ref m27, .int 0, .ref m29])) from rfl), fr_pre hPc hKc hDc hAB hBs hS hV⟩ rfl rfl hl.1 rfl (lv_room (Nat.le_of_ble_eq_true rfl)) d_MO_bookmark_50 ⟨Nat.le_of_ble_eq_true rfl, Nat.le_of_ble_eq_true rfl⟩) hS (fun q _ h => hFc q h) hFc (fun t H1 locs ht1 hvm hB1 hz1 hk1 hS => ?_)
  obtain ⟨hP1, hK1, hD1⟩ := hB1
  rw [ht1] at hP1
  have hK1 := va_K.moved hvm.symm hK1
  obtain ⟨hP, hD⟩ := va_join (wr := []) (w1 := [(g0, .inr (5, [.int 1, .int 0, .int (-1), .ref m3, .int 0, .ref m5, .ref m6, .ref m7, .ref m8, .ref m9, .ref m10, .ref m11, .ref m12, .ref m13, .ref m14, .ref m15, .ref m16, .ref m17, .ref m18, .ref m19, .ref m20, .int 0, .ref m22, .ref m23, .ref m24, .ref m25, .ref m26, .ref m27, .int 0, .ref m29]))]) hP hD [0] [] rfl rfl (by decide) (by decide) hk1 hFc hP1 hD1
  have hK := hK.app hK1
  generalize H1 = H at hP hS ⊢
  have hP : va_P (dC, dI) cls_ [(g0, .inr (5, [.int 1, .int 0, .int (-1), .ref m3, .int 0, .ref m5, .ref m6, .ref m7, .ref m8, .ref m9, .ref m10, .ref m11, .ref m12, .ref m13, .ref m14, .ref m15, .ref m16, .ref m17, .ref m18, .ref m19, .ref m20, .int 0, .ref m22, .ref m23, .ref m24, .ref m25, .ref m26, .ref m27, .int 0, .ref m29]))] H := hP
  have hD : va_D A [(g0, .inr (5, [.int 1, .int 0, .int (-1), .ref m3, .int 0, .ref m5, .ref m6, .ref m7, .ref m8, .ref m9, .ref m10, .ref m11, .ref m12, .ref m13, .ref m14, .ref m15, .ref m16, .ref m17, .ref m18, .ref m19, .ref m20, .int 0, .ref m22, .ref m23, .ref m24, .ref m25, .ref m26, .ref m27, .int 0, .ref m29]))] := hD
  have hK : va_K (dC, dI) cls_ [] s := hK
  refine W.eq (g2 := F0 m 53 ls [.int 1]) rfl ?_
  refine W.cs (cells' := 0) (slots' := 0) rfl rfl ?_
  refine lv_if_eq (tgt := 58) hx hb d_MO_bookmark_53 (by decide) (fun h9 => absurd h9 (by decide)) (fun _ => ?_)
  refine lv_iconst (v := 0) hx hb d_MO_bookmark_56 (by decide) ?_
  have hP9 := hP.sub (ws' := [(g0, .inr (5, [.int 1, .int 0, .int (-1), .ref m3, .int 0, .ref m5, .ref m6, .ref m7, .ref m8, .ref m9, .ref m10, .ref m11, .ref m12, .ref m13, .ref m14, .ref m15, .ref m16, .ref m17, .ref m18, .ref m19, .ref m20, .int 0, .ref m22, .ref m23, .ref m24, .ref m25, .ref m26, .ref m27, .int 0, .ref m29]))]) [0] rfl
  have hD9 := hD.sub (ws' := [(g0, .inr (5, [.int 1, .int 0, .int (-1), .ref m3, .int 0, .ref m5, .ref m6, .ref m7, .ref m8, .ref m9, .ref m10, .ref m11, .ref m12, .ref m13, .ref m14, .ref m15, .ref m16, .ref m17, .ref m18, .ref m19, .ref m20, .int 0, .ref m22, .ref m23, .ref m24, .ref m25, .ref m26, .ref m27, .int 0, .ref m29]))]) [0] (by decide) rfl
  have hK9 := hK.sub (tys' := []) [] rfl
  exact W.iret (v := 0) hx hb hr (fun t ht9 hW => ⟨rfl, ⟨by rw [ht9]; exact hP9, va_K.moved hW.alike hK9, hD9⟩, hS.F ht9⟩) hS.2.2 d_MO_bookmark_57
set_option maxHeartbeats 4000000 in
set_option maxRecDepth 100000 in
theorem c_MO_request_ok (l : Launch) (dC : Nat → ClassId) (dI : Nat → Nat → Nat) (sz Bd : Nat) (g0 m3 m5 m6 m7 m8 m9 m10 m11 m12 m13 m14 m15 m16 m17 m18 m19 m20 m22 m23 m24 m25 m26 m27 m29 : Nat) (j5 j6 j7 j8 j9 j10 : ClassId) (ch st ln pr pd : Int32) (h : ((0 ≤ ch ∧ ch ≤ 7) ∧ (0 ≤ st ∧ st ≤ 1000) ∧ (1 ≤ ln ∧ ln ≤ 60) ∧ (1 ≤ pr ∧ pr ≤ 9) ∧ (0 ≤ pd ∧ pd ≤ 99))) : Met l y_MO_request w_MO_request ({ frames := 1, cells := 0, slots := 0, locals := 22 }) (frP (dC, dI) [(g0, .inr (5, [.int 0, .int 0, .int (-1), .ref m3, .int 0, .ref m5, .ref m6, .ref m7, .ref m8, .ref m9, .ref m10, .ref m11, .ref m12, .ref m13, .ref m14, .ref m15, .ref m16, .ref m17, .ref m18, .ref m19, .ref m20, .int 0, .ref m22, .ref m23, .ref m24, .ref m25, .ref m26, .ref m27, .int 0, .ref m29])), (m5, .inl (j5, 40, .inl (fun _ => 0))), (m6, .inl (j6, 40, .inl (fun _ => 0))), (m7, .inl (j7, 40, .inl (fun _ => 0))), (m8, .inl (j8, 40, .inl (fun _ => 0))), (m9, .inl (j9, 40, .inl (fun _ => 0))), (m10, .inl (j10, 40, .inl (fun _ => 0)))] [(j5, .int), (j6, .int), (j7, .int), (j8, .int), (j9, .int), (j10, .int)] sz Bd [.ref g0, .int ch, .int st, .int ln, .int pr, .int pd]) (frQ (some (.int 0)) (fun t => va_P (dC, dI) cls_ [(g0, .inr (5, [.int 0, .int 0, .int (-1), .ref m3, .int (0 + 1), .ref m5, .ref m6, .ref m7, .ref m8, .ref m9, .ref m10, .ref m11, .ref m12, .ref m13, .ref m14, .ref m15, .ref m16, .ref m17, .ref m18, .ref m19, .ref m20, .int 0, .ref m22, .ref m23, .ref m24, .ref m25, .ref m26, .ref m27, .int 0, .ref m29]))] t.heap ∧ va_K (dC, dI) cls_ [] t ∧ va_D (va_A [(g0, .inr (5, [.int 0, .int 0, .int (-1), .ref m3, .int 0, .ref m5, .ref m6, .ref m7, .ref m8, .ref m9, .ref m10, .ref m11, .ref m12, .ref m13, .ref m14, .ref m15, .ref m16, .ref m17, .ref m18, .ref m19, .ref m20, .int 0, .ref m22, .ref m23, .ref m24, .ref m25, .ref m26, .ref m27, .int 0, .ref m29])), (m5, .inl (j5, 40, .inl (fun _ => 0))), (m6, .inl (j6, 40, .inl (fun _ => 0))), (m7, .inl (j7, 40, .inl (fun _ => 0))), (m8, .inl (j8, 40, .inl (fun _ => 0))), (m9, .inl (j9, 40, .inl (fun _ => 0))), (m10, .inl (j10, 40, .inl (fun _ => 0)))] sz) [(g0, .inr (5, [.int 0, .int 0, .int (-1), .ref m3, .int (0 + 1), .ref m5, .ref m6, .ref m7, .ref m8, .ref m9, .ref m10, .ref m11, .ref m12, .ref m13, .ref m14, .ref m15, .ref m16, .ref m17, .ref m18, .ref m19, .ref m20, .int 0, .ref m22, .ref m23, .ref m24, .ref m25, .ref m26, .ref m27, .int 0, .ref m29]))]) (va_A [(g0, .inr (5, [.int 0, .int 0, .int (-1), .ref m3, .int 0, .ref m5, .ref m6, .ref m7, .ref m8, .ref m9, .ref m10, .ref m11, .ref m12, .ref m13, .ref m14, .ref m15, .ref m16, .ref m17, .ref m18, .ref m19, .ref m20, .int 0, .ref m22, .ref m23, .ref m24, .ref m25, .ref m26, .ref m27, .int 0, .ref m29])), (m5, .inl (j5, 40, .inl (fun _ => 0))), (m6, .inl (j6, 40, .inl (fun _ => 0))), (m7, .inl (j7, 40, .inl (fun _ => 0))), (m8, .inl (j8, 40, .inl (fun _ => 0))), (m9, .inl (j9, 40, .inl (fun _ => 0))), (m10, .inl (j10, 40, .inl (fun _ => 0)))] sz)) 0 0 (va_A [(g0, .inr (5, [.int 0, .int 0, .int (-1), .ref m3, .int 0, .ref m5, .ref m6, .ref m7, .ref m8, .ref m9, .ref m10, .ref m11, .ref m12, .ref m13, .ref m14, .ref m15, .ref m16, .ref m17, .ref m18, .ref m19, .ref m20, .int 0, .ref m22, .ref m23, .ref m24, .ref m25, .ref m26, .ref m27, .int 0, .ref m29])), (m5, .inl (j5, 40, .inl (fun _ => 0))), (m6, .inl (j6, 40, .inl (fun _ => 0))), (m7, .inl (j7, 40, .inl (fun _ => 0))), (m8, .inl (j8, 40, .inl (fun _ => 0))), (m9, .inl (j9, 40, .inl (fun _ => 0))), (m10, .inl (j10, 40, .inl (fun _ => 0)))] sz) := by
  refine Met.ofW (cc := c_MO_request) (maxL := 8) (ret := (some .int)) (by decide) rfl ?_
  intro p e s m args below meth c s₁ B hml hv
  obtain ⟨rfl, ⟨hsz, hBs⟩, hP, hK, hD0, hV⟩ := hv
  have hx := B.exec
  have hb := B.bytes
  have hr := B.returns
  have ht : ∀ w ∈ tb_, w.before _ s = true := fun w h => atoms_spec (ws := w_MO_request) B.pre w (List.mem_cons_of_mem _ h)
  have hown : s.vm.findClass R_MO = some m.cls := findClass_of_methodNamed B.named
  have hlocks := B.notSynchronized
  subst hsz
  have hD := hD0.self (sz := s.heap.size)
  have hAB : ∀ q, va_A [(g0, .inr (5, [.int 0, .int 0, .int (-1), .ref m3, .int 0, .ref m5, .ref m6, .ref m7, .ref m8, .ref m9, .ref m10, .ref m11, .ref m12, .ref m13, .ref m14, .ref m15, .ref m16, .ref m17, .ref m18, .ref m19, .ref m20, .int 0, .ref m22, .ref m23, .ref m24, .ref m25, .ref m26, .ref m27, .int 0, .ref m29])), (m5, .inl (j5, 40, .inl (fun _ => 0))), (m6, .inl (j6, 40, .inl (fun _ => 0))), (m7, .inl (j7, 40, .inl (fun _ => 0))), (m8, .inl (j8, 40, .inl (fun _ => 0))), (m9, .inl (j9, 40, .inl (fun _ => 0))), (m10, .inl (j10, 40, .inl (fun _ => 0)))] s.heap.size q → Bd ≤ q := fr_AB hD0 hBs
  generalize hAe : va_A [(g0, .inr (5, [.int 0, .int 0, .int (-1), .ref m3, .int 0, .ref m5, .ref m6, .ref m7, .ref m8, .ref m9, .ref m10, .ref m11, .ref m12, .ref m13, .ref m14, .ref m15, .ref m16, .ref m17, .ref m18, .ref m19, .ref m20, .int 0, .ref m22, .ref m23, .ref m24, .ref m25, .ref m26, .ref m27, .int 0, .ref m29])), (m5, .inl (j5, 40, .inl (fun _ => 0))), (m6, .inl (j6, 40, .inl (fun _ => 0))), (m7, .inl (j7, 40, .inl (fun _ => 0))), (m8, .inl (j8, 40, .inl (fun _ => 0))), (m9, .inl (j9, 40, .inl (fun _ => 0))), (m10, .inl (j10, 40, .inl (fun _ => 0)))] s.heap.size = A at hD hAB ⊢
  have hA : ∀ q : Nat, s.heap.size ≤ q → A q := fun q h => by rw [← hAe]; exact Or.inr h
  have hS : va_S A s.heap s.heap [] := va_S.rf
  have hAO := hV.2.2.2.1
  have hN_PL := hV.2.2.1.1
  have hN_RW := hV.2.2.1.2
  have hP : va_P (dC, dI) cls_ [(g0, .inr (5, [.int 0, .int 0, .int (-1), .ref m3, .int 0, .ref m5, .ref m6, .ref m7, .ref m8, .ref m9, .ref m10, .ref m11, .ref m12, .ref m13, .ref m14, .ref m15, .ref m16, .ref m17, .ref m18, .ref m19, .ref m20, .int 0, .ref m22, .ref m23, .ref m24, .ref m25, .ref m26, .ref m27, .int 0, .ref m29])), (m5, .inl (j5, 40, .inl (fun _ => 0))), (m6, .inl (j6, 40, .inl (fun _ => 0))), (m7, .inl (j7, 40, .inl (fun _ => 0))), (m8, .inl (j8, 40, .inl (fun _ => 0))), (m9, .inl (j9, 40, .inl (fun _ => 0))), (m10, .inl (j10, 40, .inl (fun _ => 0)))] s.heap := hP
  have hl := lv_entry ([.ref g0, .int ch, .int st, .int ln, .int pr, .int pd]) (n := 8) (Nat.le_of_ble_eq_true rfl)
  rw [lg_entry_eq]
  generalize (lg_sl ([.ref g0, .int ch, .int st, .int ln, .int pr, .int pd]) ++ List.replicate (8 - (lg_sl ([.ref g0, .int ch, .int st, .int ln, .int pr, .int pd])).length) Slot.unset).toArray = ls at hl ⊢
  have hl : lv_has ls 8 [(0, .ref g0), (1, .int ch), (2, .int st), (3, .int ln), (4, .int pr), (5, .int pd)] := hl
  refine lv_iload_n hx hb d_MO_request_0 rfl (lv_at hl 1 rfl) ?_
  refine lv_if_lt (tgt := 73) hx hb d_MO_request_1 (by decide) (fun h9 => absurd h9 (Int32.not_lt.mpr h.1.1)) (fun _ => ?_)
  refine lv_iload_n hx hb d_MO_request_4 rfl (lv_at hl 1 rfl) ?_
  refine lv_bipush (v := 7) hx hb d_MO_request_5 (by decide) ?_
  refine lv_icmp_gt (tgt := 73) hx hb d_MO_request_7 (by decide) (fun h9 => absurd h9 (Int32.not_lt.mpr h.1.2)) (fun _ => ?_)
  refine lv_iload_n hx hb d_MO_request_10 rfl (lv_at hl 2 rfl) ?_
  refine lv_aload_n hx hb d_MO_request_11 rfl (lv_at hl 0 rfl) ?_
  refine va_get (D := (dC, dI)) (ci := 5) (v := .int 0) (C := R_MO) (T := F_MO) (N := 30) hx hb ht in_MO hown hK hP 0 rfl rfl 1 (by decide) (ht _ tb_632) (fun _ h9 => h9) rfl d_MO_request_12 ?_
  refine lv_icmp_lt (tgt := 73) hx hb d_MO_request_15 (by decide) (fun h9 => absurd h9 (Int32.not_lt.mpr h.2.1.1)) (fun _ => ?_)
  refine lv_iload_n hx hb d_MO_request_18 rfl (lv_at hl 2 rfl) ?_
  refine lv_i2l hx hb d_MO_request_19 rfl ?_
  refine lv_aload_n hx hb d_MO_request_20 rfl (lv_at hl 0 rfl) ?_
  refine va_get (D := (dC, dI)) (ci := 5) (v := .int 0) (C := R_MO) (T := F_MO) (N := 30) hx hb ht in_MO hown hK hP 0 rfl rfl 1 (by decide) (ht _ tb_632) (fun _ h9 => h9) rfl d_MO_request_21 ?_
  refine lv_i2l hx hb d_MO_request_24 rfl ?_
  refine lv_ldc2 (v := 1000) hx hb hown (ht _ tb_731) d_MO_request_25 ?_
  refine lv_ladd hx hb d_MO_request_28 ?_
  refine W.lcmp hx hb d_MO_request_29 ?_
  refine lv_if_gt (tgt := 73) hx hb d_MO_request_30 (by decide) (fun h9 => absurd h9 (cm_ng h.2.1.2)) (fun _ => ?_)
  refine lv_iload_n hx hb d_MO_request_33 rfl (lv_at hl 3 rfl) ?_
  refine lv_iconst (v := 1) hx hb d_MO_request_34 (by decide) ?_
  refine lv_icmp_lt (tgt := 73) hx hb d_MO_request_35 (by decide) (fun h9 => absurd h9 (Int32.not_lt.mpr h.2.2.1.1)) (fun _ => ?_)
  refine lv_iload_n hx hb d_MO_request_38 rfl (lv_at hl 3 rfl) ?_
  refine lv_bipush (v := 60) hx hb d_MO_request_39 (by decide) ?_
  refine lv_icmp_gt (tgt := 73) hx hb d_MO_request_41 (by decide) (fun h9 => absurd h9 (Int32.not_lt.mpr h.2.2.1.2)) (fun _ => ?_)
  refine lv_iload hx hb d_MO_request_44 (lv_at hl 4 rfl) ?_
  refine lv_iconst (v := 1) hx hb d_MO_request_46 (by decide) ?_
  refine lv_icmp_lt (tgt := 73) hx hb d_MO_request_47 (by decide) (fun h9 => absurd h9 (Int32.not_lt.mpr h.2.2.2.1.1)) (fun _ => ?_)
  refine lv_iload hx hb d_MO_request_50 (lv_at hl 4 rfl) ?_
  refine lv_bipush (v := 9) hx hb d_MO_request_52 (by decide) ?_
  refine lv_icmp_gt (tgt := 73) hx hb d_MO_request_54 (by decide) (fun h9 => absurd h9 (Int32.not_lt.mpr h.2.2.2.1.2)) (fun _ => ?_)
  refine lv_iload hx hb d_MO_request_57 (lv_at hl 5 rfl) ?_
  refine lv_if_lt (tgt := 73) hx hb d_MO_request_59 (by decide) (fun h9 => absurd h9 (Int32.not_lt.mpr h.2.2.2.2.1)) (fun _ => ?_)
  refine lv_iload hx hb d_MO_request_62 (lv_at hl 5 rfl) ?_
  refine lv_bipush (v := 99) hx hb d_MO_request_64 (by decide) ?_
  refine lv_icmp_gt (tgt := 73) hx hb d_MO_request_66 (by decide) (fun h9 => absurd h9 (Int32.not_lt.mpr h.2.2.2.2.2)) (fun _ => ?_)
  refine lv_iconst (v := 1) hx hb d_MO_request_69 (by decide) ?_
  refine lv_goto (tgt := 74) hx hb d_MO_request_70 (by decide) ?_
  refine lv_istore hx hb d_MO_request_74 hl (by decide) rfl (fun ls hl => ?_)
  have hl : lv_has ls 8 [(6, .int 1), (0, .ref g0), (1, .int ch), (2, .int st), (3, .int ln), (4, .int pr), (5, .int pd)] := hl
  refine lv_aload_n hx hb d_MO_request_76 rfl (lv_at hl 1 rfl) ?_
  refine lv_iload hx hb d_MO_request_77 (lv_at hl 0 rfl) ?_
  refine lv_if_ne (tgt := 86) hx hb d_MO_request_79 (by decide) (fun _ => ?_) (fun h9 => absurd h9 (by decide))
  refine lv_aload_n hx hb d_MO_request_86 rfl (lv_at hl 1 rfl) ?_
  have hPc := hP.sub (ws' := [(g0, .inr (5, [.int 0, .int 0, .int (-1), .ref m3, .int 0, .ref m5, .ref m6, .ref m7, .ref m8, .ref m9, .ref m10, .ref m11, .ref m12, .ref m13, .ref m14, .ref m15, .ref m16, .ref m17, .ref m18, .ref m19, .ref m20, .int 0, .ref m22, .ref m23, .ref m24, .ref m25, .ref m26, .ref m27, .int 0, .ref m29]))]) [0] rfl
  have hKc := hK.sub (tys' := []) [] rfl
  refine rd_call (va_runV (C := R_MO) (As := []) (rest := [.ref g0]) ⟨hx, hb, hml, hown, ht⟩ (c_MO_open_0 l dC dI g0 m3 m5 m6 m7 m8 m9 m10 m11 m12 m13 m14 m15 m16 m17 m18 m19 m20 m22 m23 m24 m25 m26 m27 m29) (cwV 0 ht (gV tb_732 tb_734 ts_22 tb_5 tb_735) rfl rfl rfl (by decide +kernel) ⟨Nat.le_of_ble_eq_true rfl, Nat.le_of_ble_eq_true rfl⟩) ⟨rdP_blind, va_recv (q := (R_MO, F_MO, 30)) hK hP rfl (show ([(g0, .inr (5, [.int 0, .int 0, .int (-1), .ref m3, .int 0, .ref m5, .ref m6, .ref m7, .ref m8, .ref m9, .ref m10, .ref m11, .ref m12, .ref m13, .ref m14, .ref m15, .ref m16, .ref m17, .ref m18, .ref m19, .ref m20, .int 0, .ref m22, .ref m23, .ref m24, .ref m25, .ref m26, .ref m27, .int 0, .ref m29])), (m5, .inl (j5, 40, .inl (fun _ => 0))), (m6, .inl (j6, 40, .inl (fun _ => 0))), (m7, .inl (j7, 40, .inl (fun _ => 0))), (m8, .inl (j8, 40, .inl (fun _ => 0))), (m9, .inl (j9, 40, .inl (fun _ => 0))), (m10, .inl (j10, 40, .inl (fun _ => 0)))] : va_W)[0]? = some (g0, .inr (5, [.int 0, .int 0, .int (-1), .ref m3, .int 0, .ref m5, .ref m6, .ref m7, .ref m8, .ref m9, .ref m10, .ref m11, .ref m12, .ref m13, .ref m14, .ref m15, .ref m16, .ref m17, .ref m18, .ref m19, .ref m20, .int 0, .ref m22, .ref m23, .ref m24, .ref m25, .ref m26, .ref m27, .int 0, .ref m29])) from rfl), rd_pre hPc hKc⟩ rfl rfl hl.1 rfl (lv_room (Nat.le_of_ble_eq_true rfl)) d_MO_request_87 ⟨Nat.le_of_ble_eq_true rfl, Nat.le_of_ble_eq_true rfl⟩) ?_
  refine W.eq (g2 := F0 m 90 ls [.int 0, .ref g0]) rfl ?_
  refine lv_bipush (v := 12) hx hb d_MO_request_90 (by decide) ?_
  refine lv_icmp_eq (tgt := 104) hx hb d_MO_request_92 (by decide) (fun h9 => absurd h9 (by decide)) (fun _ => ?_)
  refine lv_aload_n hx hb d_MO_request_95 rfl (lv_at hl 1 rfl) ?_
  refine va_get (D := (dC, dI)) (ci := 5) (v := .int 0) (C := R_MO) (T := F_MO) (N := 30) hx hb ht in_MO hown hK hP 0 rfl rfl 4 (by decide) (ht _ tb_635) (fun _ h9 => h9) rfl d_MO_request_96 ?_
  refine lv_bipush (v := 40) hx hb d_MO_request_99 (by decide) ?_
  refine lv_icmp_ne (tgt := 108) hx hb d_MO_request_101 (by decide) (fun _ => ?_) (fun h9 => absurd h9 (by decide))
  refine lv_iconst (v := 0) hx hb d_MO_request_108 (by decide) ?_
  have hPc := hP.sub (ws' := [(g0, .inr (5, [.int 0, .int 0, .int (-1), .ref m3, .int 0, .ref m5, .ref m6, .ref m7, .ref m8, .ref m9, .ref m10, .ref m11, .ref m12, .ref m13, .ref m14, .ref m15, .ref m16, .ref m17, .ref m18, .ref m19, .ref m20, .int 0, .ref m22, .ref m23, .ref m24, .ref m25, .ref m26, .ref m27, .int 0, .ref m29]))]) [0] rfl
  have hKc := hK.sub (tys' := []) [] rfl
  have hDc := hD.sub (ws' := [(g0, .inr (5, [.int 0, .int 0, .int (-1), .ref m3, .int 0, .ref m5, .ref m6, .ref m7, .ref m8, .ref m9, .ref m10, .ref m11, .ref m12, .ref m13, .ref m14, .ref m15, .ref m16, .ref m17, .ref m18, .ref m19, .ref m20, .int 0, .ref m22, .ref m23, .ref m24, .ref m25, .ref m26, .ref m27, .int 0, .ref m29]))]) [0] (by decide) rfl
  have hFc := va_free (wc := [(g0, .inr (5, [.int 0, .int 0, .int (-1), .ref m3, .int 0, .ref m5, .ref m6, .ref m7, .ref m8, .ref m9, .ref m10, .ref m11, .ref m12, .ref m13, .ref m14, .ref m15, .ref m16, .ref m17, .ref m18, .ref m19, .ref m20, .int 0, .ref m22, .ref m23, .ref m24, .ref m25, .ref m26, .ref m27, .int 0, .ref m29]))]) hD hS hA [0] rfl
  refine fr_call (va_runV (C := R_MO) (As := [.int 0]) (rest := []) ⟨hx, hb, hml, hown, ht⟩ (c_MO_refused_no l dC dI s.heap.size Bd g0 m3 m5 m6 m7 m8 m9 m10 m11 m12 m13 m14 m15 m16 m17 m18 m19 m20 m22 m23 m24 m25 m26 m27 m29 0 0) (cwV 1 ht (gV tb_736 tb_738 ts_23 tb_5 tb_739) rfl rfl rfl (by decide +kernel) ⟨Nat.le_of_ble_eq_true rfl, Nat.le_of_ble_eq_true rfl⟩) ⟨frP_blind, va_recv (q := (R_MO, F_MO, 30)) hK hP rfl (show ([(g0, .inr (5, [.int 0, .int 0, .int (-1), .ref m3, .int 0, .ref m5, .ref m6, .ref m7, .ref m8, .ref m9, .ref m10, .ref m11, .ref m12, .ref m13, .ref m14, .ref m15, .ref m16, .ref m17, .ref m18, .ref m19, .ref m20, .int 0, .ref m22, .ref m23, .ref m24, .ref m25, .ref m26, .ref m27, .int 0, .ref m29])), (m5, .inl (j5, 40, .inl (fun _ => 0))), (m6, .inl (j6, 40, .inl (fun _ => 0))), (m7, .inl (j7, 40, .inl (fun _ => 0))), (m8, .inl (j8, 40, .inl (fun _ => 0))), (m9, .inl (j9, 40, .inl (fun _ => 0))), (m10, .inl (j10, 40, .inl (fun _ => 0)))] : va_W)[0]? = some (g0, .inr (5, [.int 0, .int 0, .int (-1), .ref m3, .int 0, .ref m5, .ref m6, .ref m7, .ref m8, .ref m9, .ref m10, .ref m11, .ref m12, .ref m13, .ref m14, .ref m15, .ref m16, .ref m17, .ref m18, .ref m19, .ref m20, .int 0, .ref m22, .ref m23, .ref m24, .ref m25, .ref m26, .ref m27, .int 0, .ref m29])) from rfl), fr_pre hPc hKc hDc hAB hBs hS hV⟩ rfl rfl hl.1 rfl (lv_room (Nat.le_of_ble_eq_true rfl)) d_MO_request_109 ⟨Nat.le_of_ble_eq_true rfl, Nat.le_of_ble_eq_true rfl⟩) hS (fun q _ h => hFc q h) hFc (fun t H1 locs ht1 hvm hB1 hz1 hk1 hS => ?_)
  obtain ⟨hP1, hK1, hD1⟩ := hB1
  rw [ht1] at hP1
  have hK1 := va_K.moved hvm.symm hK1
  obtain ⟨hP, hD⟩ := va_join (wr := [(m5, .inl (j5, 40, .inl (fun _ => 0))), (m6, .inl (j6, 40, .inl (fun _ => 0))), (m7, .inl (j7, 40, .inl (fun _ => 0))), (m8, .inl (j8, 40, .inl (fun _ => 0))), (m9, .inl (j9, 40, .inl (fun _ => 0))), (m10, .inl (j10, 40, .inl (fun _ => 0)))]) (w1 := [(g0, .inr (5, [.int 0, .int 0, .int (-1), .ref m3, .int 0, .ref m5, .ref m6, .ref m7, .ref m8, .ref m9, .ref m10, .ref m11, .ref m12, .ref m13, .ref m14, .ref m15, .ref m16, .ref m17, .ref m18, .ref m19, .ref m20, .int 0, .ref m22, .ref m23, .ref m24, .ref m25, .ref m26, .ref m27, .int 0, .ref m29]))]) hP hD [0] [1, 2, 3, 4, 5, 6] rfl rfl (by decide) (by decide) hk1 hFc hP1 hD1
  have hK := hK.app hK1
  generalize H1 = H at hP hS ⊢
  have hP : va_P (dC, dI) cls_ [(m5, .inl (j5, 40, .inl (fun _ => 0))), (m6, .inl (j6, 40, .inl (fun _ => 0))), (m7, .inl (j7, 40, .inl (fun _ => 0))), (m8, .inl (j8, 40, .inl (fun _ => 0))), (m9, .inl (j9, 40, .inl (fun _ => 0))), (m10, .inl (j10, 40, .inl (fun _ => 0))), (g0, .inr (5, [.int 0, .int 0, .int (-1), .ref m3, .int 0, .ref m5, .ref m6, .ref m7, .ref m8, .ref m9, .ref m10, .ref m11, .ref m12, .ref m13, .ref m14, .ref m15, .ref m16, .ref m17, .ref m18, .ref m19, .ref m20, .int 0, .ref m22, .ref m23, .ref m24, .ref m25, .ref m26, .ref m27, .int 0, .ref m29]))] H := hP
  have hD : va_D A [(m5, .inl (j5, 40, .inl (fun _ => 0))), (m6, .inl (j6, 40, .inl (fun _ => 0))), (m7, .inl (j7, 40, .inl (fun _ => 0))), (m8, .inl (j8, 40, .inl (fun _ => 0))), (m9, .inl (j9, 40, .inl (fun _ => 0))), (m10, .inl (j10, 40, .inl (fun _ => 0))), (g0, .inr (5, [.int 0, .int 0, .int (-1), .ref m3, .int 0, .ref m5, .ref m6, .ref m7, .ref m8, .ref m9, .ref m10, .ref m11, .ref m12, .ref m13, .ref m14, .ref m15, .ref m16, .ref m17, .ref m18, .ref m19, .ref m20, .int 0, .ref m22, .ref m23, .ref m24, .ref m25, .ref m26, .ref m27, .int 0, .ref m29]))] := hD
  have hK : va_K (dC, dI) cls_ [(j5, .int), (j6, .int), (j7, .int), (j8, .int), (j9, .int), (j10, .int)] s := hK
  refine W.eq (g2 := F0 m 112 ls [.int 0]) rfl ?_
  refine W.cs (cells' := 0) (slots' := 0) rfl rfl ?_
  refine lv_if_eq (tgt := 117) hx hb d_MO_request_112 (by decide) (fun _ => ?_) (fun h9 => absurd (rfl) h9)
  refine lv_aload_n hx hb d_MO_request_117 rfl (lv_at hl 1 rfl) ?_
  refine va_get (D := (dC, dI)) (ci := 5) (v := .int 0) (C := R_MO) (T := F_MO) (N := 30) hx hb ht in_MO hown hK hP 6 rfl rfl 4 (by decide) (ht _ tb_635) (fun _ h9 => h9) rfl d_MO_request_118 ?_
  refine lv_istore hx hb d_MO_request_121 hl (by decide) rfl (fun ls hl => ?_)
  have hl : lv_has ls 8 [(7, .int 0), (6, .int 1), (0, .ref g0), (1, .int ch), (2, .int st), (3, .int ln), (4, .int pr), (5, .int pd)] := hl
  refine lv_aload_n hx hb d_MO_request_123 rfl (lv_at hl 2 rfl) ?_
  refine va_get (D := (dC, dI)) (ci := 5) (v := .ref m5) (C := R_MO) (T := F_MO) (N := 30) hx hb ht in_MO hown hK hP 6 rfl rfl 5 (by decide) (ht _ tb_636) (fun _ h9 => h9) rfl d_MO_request_124 ?_
  refine lv_iload hx hb d_MO_request_127 (lv_at hl 0 rfl) ?_
  refine lv_iload_n hx hb d_MO_request_129 rfl (lv_at hl 3 rfl) ?_
  refine va_iast hx hb hK hP hD hS 0 0 rfl rfl (show vp_in (nI 0) 40 from vp_in_nI (by decide) (by decide)) d_MO_request_130 (fun H locs hP hD hS => ?_)
  have hP : va_P (dC, dI) cls_ [(m5, .inl (j5, 40, .inl (upd (fun _ => 0) (0 : Int32).toNatClampNeg (ch)))), (m6, .inl (j6, 40, .inl (fun _ => 0))), (m7, .inl (j7, 40, .inl (fun _ => 0))), (m8, .inl (j8, 40, .inl (fun _ => 0))), (m9, .inl (j9, 40, .inl (fun _ => 0))), (m10, .inl (j10, 40, .inl (fun _ => 0))), (g0, .inr (5, [.int 0, .int 0, .int (-1), .ref m3, .int 0, .ref m5, .ref m6, .ref m7, .ref m8, .ref m9, .ref m10, .ref m11, .ref m12, .ref m13, .ref m14, .ref m15, .ref m16, .ref m17, .ref m18, .ref m19, .ref m20, .int 0, .ref m22, .ref m23, .ref m24, .ref m25, .ref m26, .ref m27, .int 0, .ref m29]))] H := hP
  have hD : va_D A [(m5, .inl (j5, 40, .inl (upd (fun _ => 0) (0 : Int32).toNatClampNeg (ch)))), (m6, .inl (j6, 40, .inl (fun _ => 0))), (m7, .inl (j7, 40, .inl (fun _ => 0))), (m8, .inl (j8, 40, .inl (fun _ => 0))), (m9, .inl (j9, 40, .inl (fun _ => 0))), (m10, .inl (j10, 40, .inl (fun _ => 0))), (g0, .inr (5, [.int 0, .int 0, .int (-1), .ref m3, .int 0, .ref m5, .ref m6, .ref m7, .ref m8, .ref m9, .ref m10, .ref m11, .ref m12, .ref m13, .ref m14, .ref m15, .ref m16, .ref m17, .ref m18, .ref m19, .ref m20, .int 0, .ref m22, .ref m23, .ref m24, .ref m25, .ref m26, .ref m27, .int 0, .ref m29]))] := hD
  refine lv_aload_n hx hb d_MO_request_131 rfl (lv_at hl 2 rfl) ?_
  refine va_get (D := (dC, dI)) (ci := 5) (v := .ref m6) (C := R_MO) (T := F_MO) (N := 30) hx hb ht in_MO hown hK hP 6 rfl rfl 6 (by decide) (ht _ tb_637) (fun _ h9 => h9) rfl d_MO_request_132 ?_
  refine lv_iload hx hb d_MO_request_135 (lv_at hl 0 rfl) ?_
  refine lv_iload_n hx hb d_MO_request_137 rfl (lv_at hl 4 rfl) ?_
  refine va_iast hx hb hK hP hD hS 1 1 rfl rfl (show vp_in (nI 0) 40 from vp_in_nI (by decide) (by decide)) d_MO_request_138 (fun H locs hP hD hS => ?_)
  have hP : va_P (dC, dI) cls_ [(m5, .inl (j5, 40, .inl (upd (fun _ => 0) (0 : Int32).toNatClampNeg (ch)))), (m6, .inl (j6, 40, .inl (upd (fun _ => 0) (0 : Int32).toNatClampNeg (st)))), (m7, .inl (j7, 40, .inl (fun _ => 0))), (m8, .inl (j8, 40, .inl (fun _ => 0))), (m9, .inl (j9, 40, .inl (fun _ => 0))), (m10, .inl (j10, 40, .inl (fun _ => 0))), (g0, .inr (5, [.int 0, .int 0, .int (-1), .ref m3, .int 0, .ref m5, .ref m6, .ref m7, .ref m8, .ref m9, .ref m10, .ref m11, .ref m12, .ref m13, .ref m14, .ref m15, .ref m16, .ref m17, .ref m18, .ref m19, .ref m20, .int 0, .ref m22, .ref m23, .ref m24, .ref m25, .ref m26, .ref m27, .int 0, .ref m29]))] H := hP
  have hD : va_D A [(m5, .inl (j5, 40, .inl (upd (fun _ => 0) (0 : Int32).toNatClampNeg (ch)))), (m6, .inl (j6, 40, .inl (upd (fun _ => 0) (0 : Int32).toNatClampNeg (st)))), (m7, .inl (j7, 40, .inl (fun _ => 0))), (m8, .inl (j8, 40, .inl (fun _ => 0))), (m9, .inl (j9, 40, .inl (fun _ => 0))), (m10, .inl (j10, 40, .inl (fun _ => 0))), (g0, .inr (5, [.int 0, .int 0, .int (-1), .ref m3, .int 0, .ref m5, .ref m6, .ref m7, .ref m8, .ref m9, .ref m10, .ref m11, .ref m12, .ref m13, .ref m14, .ref m15, .ref m16, .ref m17, .ref m18, .ref m19, .ref m20, .int 0, .ref m22, .ref m23, .ref m24, .ref m25, .ref m26, .ref m27, .int 0, .ref m29]))] := hD
  refine lv_aload_n hx hb d_MO_request_139 rfl (lv_at hl 2 rfl) ?_
  refine va_get (D := (dC, dI)) (ci := 5) (v := .ref m7) (C := R_MO) (T := F_MO) (N := 30) hx hb ht in_MO hown hK hP 6 rfl rfl 7 (by decide) (ht _ tb_638) (fun _ h9 => h9) rfl d_MO_request_140 ?_
  refine lv_iload hx hb d_MO_request_143 (lv_at hl 0 rfl) ?_
  refine lv_iload_n hx hb d_MO_request_145 rfl (lv_at hl 5 rfl) ?_
  refine va_iast hx hb hK hP hD hS 2 2 rfl rfl (show vp_in (nI 0) 40 from vp_in_nI (by decide) (by decide)) d_MO_request_146 (fun H locs hP hD hS => ?_)
  have hP : va_P (dC, dI) cls_ [(m5, .inl (j5, 40, .inl (upd (fun _ => 0) (0 : Int32).toNatClampNeg (ch)))), (m6, .inl (j6, 40, .inl (upd (fun _ => 0) (0 : Int32).toNatClampNeg (st)))), (m7, .inl (j7, 40, .inl (upd (fun _ => 0) (0 : Int32).toNatClampNeg (ln)))), (m8, .inl (j8, 40, .inl (fun _ => 0))), (m9, .inl (j9, 40, .inl (fun _ => 0))), (m10, .inl (j10, 40, .inl (fun _ => 0))), (g0, .inr (5, [.int 0, .int 0, .int (-1), .ref m3, .int 0, .ref m5, .ref m6, .ref m7, .ref m8, .ref m9, .ref m10, .ref m11, .ref m12, .ref m13, .ref m14, .ref m15, .ref m16, .ref m17, .ref m18, .ref m19, .ref m20, .int 0, .ref m22, .ref m23, .ref m24, .ref m25, .ref m26, .ref m27, .int 0, .ref m29]))] H := hP
  have hD : va_D A [(m5, .inl (j5, 40, .inl (upd (fun _ => 0) (0 : Int32).toNatClampNeg (ch)))), (m6, .inl (j6, 40, .inl (upd (fun _ => 0) (0 : Int32).toNatClampNeg (st)))), (m7, .inl (j7, 40, .inl (upd (fun _ => 0) (0 : Int32).toNatClampNeg (ln)))), (m8, .inl (j8, 40, .inl (fun _ => 0))), (m9, .inl (j9, 40, .inl (fun _ => 0))), (m10, .inl (j10, 40, .inl (fun _ => 0))), (g0, .inr (5, [.int 0, .int 0, .int (-1), .ref m3, .int 0, .ref m5, .ref m6, .ref m7, .ref m8, .ref m9, .ref m10, .ref m11, .ref m12, .ref m13, .ref m14, .ref m15, .ref m16, .ref m17, .ref m18, .ref m19, .ref m20, .int 0, .ref m22, .ref m23, .ref m24, .ref m25, .ref m26, .ref m27, .int 0, .ref m29]))] := hD
  refine lv_aload_n hx hb d_MO_request_147 rfl (lv_at hl 2 rfl) ?_
  refine va_get (D := (dC, dI)) (ci := 5) (v := .ref m8) (C := R_MO) (T := F_MO) (N := 30) hx hb ht in_MO hown hK hP 6 rfl rfl 8 (by decide) (ht _ tb_639) (fun _ h9 => h9) rfl d_MO_request_148 ?_
  refine lv_iload hx hb d_MO_request_151 (lv_at hl 0 rfl) ?_
  refine lv_iload hx hb d_MO_request_153 (lv_at hl 6 rfl) ?_
  refine va_iast hx hb hK hP hD hS 3 3 rfl rfl (show vp_in (nI 0) 40 from vp_in_nI (by decide) (by decide)) d_MO_request_155 (fun H locs hP hD hS => ?_)
  have hP : va_P (dC, dI) cls_ [(m5, .inl (j5, 40, .inl (upd (fun _ => 0) (0 : Int32).toNatClampNeg (ch)))), (m6, .inl (j6, 40, .inl (upd (fun _ => 0) (0 : Int32).toNatClampNeg (st)))), (m7, .inl (j7, 40, .inl (upd (fun _ => 0) (0 : Int32).toNatClampNeg (ln)))), (m8, .inl (j8, 40, .inl (upd (fun _ => 0) (0 : Int32).toNatClampNeg (pr)))), (m9, .inl (j9, 40, .inl (fun _ => 0))), (m10, .inl (j10, 40, .inl (fun _ => 0))), (g0, .inr (5, [.int 0, .int 0, .int (-1), .ref m3, .int 0, .ref m5, .ref m6, .ref m7, .ref m8, .ref m9, .ref m10, .ref m11, .ref m12, .ref m13, .ref m14, .ref m15, .ref m16, .ref m17, .ref m18, .ref m19, .ref m20, .int 0, .ref m22, .ref m23, .ref m24, .ref m25, .ref m26, .ref m27, .int 0, .ref m29]))] H := hP
  have hD : va_D A [(m5, .inl (j5, 40, .inl (upd (fun _ => 0) (0 : Int32).toNatClampNeg (ch)))), (m6, .inl (j6, 40, .inl (upd (fun _ => 0) (0 : Int32).toNatClampNeg (st)))), (m7, .inl (j7, 40, .inl (upd (fun _ => 0) (0 : Int32).toNatClampNeg (ln)))), (m8, .inl (j8, 40, .inl (upd (fun _ => 0) (0 : Int32).toNatClampNeg (pr)))), (m9, .inl (j9, 40, .inl (fun _ => 0))), (m10, .inl (j10, 40, .inl (fun _ => 0))), (g0, .inr (5, [.int 0, .int 0, .int (-1), .ref m3, .int 0, .ref m5, .ref m6, .ref m7, .ref m8, .ref m9, .ref m10, .ref m11, .ref m12, .ref m13, .ref m14, .ref m15, .ref m16, .ref m17, .ref m18, .ref m19, .ref m20, .int 0, .ref m22, .ref m23, .ref m24, .ref m25, .ref m26, .ref m27, .int 0, .ref m29]))] := hD
  refine lv_aload_n hx hb d_MO_request_156 rfl (lv_at hl 2 rfl) ?_
  refine va_get (D := (dC, dI)) (ci := 5) (v := .ref m9) (C := R_MO) (T := F_MO) (N := 30) hx hb ht in_MO hown hK hP 6 rfl rfl 9 (by decide) (ht _ tb_640) (fun _ h9 => h9) rfl d_MO_request_157 ?_
  refine lv_iload hx hb d_MO_request_160 (lv_at hl 0 rfl) ?_
  refine lv_iload hx hb d_MO_request_162 (lv_at hl 7 rfl) ?_
  refine lv_bipush (v := 10) hx hb d_MO_request_164 (by decide) ?_
  refine lv_idiv hx hb d_MO_request_166 (by decide) ?_
  refine va_iast hx hb hK hP hD hS 4 4 rfl rfl (show vp_in (nI 0) 40 from vp_in_nI (by decide) (by decide)) d_MO_request_167 (fun H locs hP hD hS => ?_)
  have hP : va_P (dC, dI) cls_ [(m5, .inl (j5, 40, .inl (upd (fun _ => 0) (0 : Int32).toNatClampNeg (ch)))), (m6, .inl (j6, 40, .inl (upd (fun _ => 0) (0 : Int32).toNatClampNeg (st)))), (m7, .inl (j7, 40, .inl (upd (fun _ => 0) (0 : Int32).toNatClampNeg (ln)))), (m8, .inl (j8, 40, .inl (upd (fun _ => 0) (0 : Int32).toNatClampNeg (pr)))), (m9, .inl (j9, 40, .inl (upd (fun _ => 0) (0 : Int32).toNatClampNeg (pd / 10)))), (m10, .inl (j10, 40, .inl (fun _ => 0))), (g0, .inr (5, [.int 0, .int 0, .int (-1), .ref m3, .int 0, .ref m5, .ref m6, .ref m7, .ref m8, .ref m9, .ref m10, .ref m11, .ref m12, .ref m13, .ref m14, .ref m15, .ref m16, .ref m17, .ref m18, .ref m19, .ref m20, .int 0, .ref m22, .ref m23, .ref m24, .ref m25, .ref m26, .ref m27, .int 0, .ref m29]))] H := hP
  have hD : va_D A [(m5, .inl (j5, 40, .inl (upd (fun _ => 0) (0 : Int32).toNatClampNeg (ch)))), (m6, .inl (j6, 40, .inl (upd (fun _ => 0) (0 : Int32).toNatClampNeg (st)))), (m7, .inl (j7, 40, .inl (upd (fun _ => 0) (0 : Int32).toNatClampNeg (ln)))), (m8, .inl (j8, 40, .inl (upd (fun _ => 0) (0 : Int32).toNatClampNeg (pr)))), (m9, .inl (j9, 40, .inl (upd (fun _ => 0) (0 : Int32).toNatClampNeg (pd / 10)))), (m10, .inl (j10, 40, .inl (fun _ => 0))), (g0, .inr (5, [.int 0, .int 0, .int (-1), .ref m3, .int 0, .ref m5, .ref m6, .ref m7, .ref m8, .ref m9, .ref m10, .ref m11, .ref m12, .ref m13, .ref m14, .ref m15, .ref m16, .ref m17, .ref m18, .ref m19, .ref m20, .int 0, .ref m22, .ref m23, .ref m24, .ref m25, .ref m26, .ref m27, .int 0, .ref m29]))] := hD
  refine lv_aload_n hx hb d_MO_request_168 rfl (lv_at hl 2 rfl) ?_
  refine va_get (D := (dC, dI)) (ci := 5) (v := .ref m10) (C := R_MO) (T := F_MO) (N := 30) hx hb ht in_MO hown hK hP 6 rfl rfl 10 (by decide) (ht _ tb_641) (fun _ h9 => h9) rfl d_MO_request_169 ?_
  refine lv_iload hx hb d_MO_request_172 (lv_at hl 0 rfl) ?_
  refine lv_iload hx hb d_MO_request_174 (lv_at hl 7 rfl) ?_
  refine lv_bipush (v := 10) hx hb d_MO_request_176 (by decide) ?_
  refine lv_irem hx hb d_MO_request_178 (by decide) ?_
  refine va_iast hx hb hK hP hD hS 5 5 rfl rfl (show vp_in (nI 0) 40 from vp_in_nI (by decide) (by decide)) d_MO_request_179 (fun H locs hP hD hS => ?_)
  have hP : va_P (dC, dI) cls_ [(m5, .inl (j5, 40, .inl (upd (fun _ => 0) (0 : Int32).toNatClampNeg (ch)))), (m6, .inl (j6, 40, .inl (upd (fun _ => 0) (0 : Int32).toNatClampNeg (st)))), (m7, .inl (j7, 40, .inl (upd (fun _ => 0) (0 : Int32).toNatClampNeg (ln)))), (m8, .inl (j8, 40, .inl (upd (fun _ => 0) (0 : Int32).toNatClampNeg (pr)))), (m9, .inl (j9, 40, .inl (upd (fun _ => 0) (0 : Int32).toNatClampNeg (pd / 10)))), (m10, .inl (j10, 40, .inl (upd (fun _ => 0) (0 : Int32).toNatClampNeg (pd - pd / 10 * 10)))), (g0, .inr (5, [.int 0, .int 0, .int (-1), .ref m3, .int 0, .ref m5, .ref m6, .ref m7, .ref m8, .ref m9, .ref m10, .ref m11, .ref m12, .ref m13, .ref m14, .ref m15, .ref m16, .ref m17, .ref m18, .ref m19, .ref m20, .int 0, .ref m22, .ref m23, .ref m24, .ref m25, .ref m26, .ref m27, .int 0, .ref m29]))] H := hP
  have hD : va_D A [(m5, .inl (j5, 40, .inl (upd (fun _ => 0) (0 : Int32).toNatClampNeg (ch)))), (m6, .inl (j6, 40, .inl (upd (fun _ => 0) (0 : Int32).toNatClampNeg (st)))), (m7, .inl (j7, 40, .inl (upd (fun _ => 0) (0 : Int32).toNatClampNeg (ln)))), (m8, .inl (j8, 40, .inl (upd (fun _ => 0) (0 : Int32).toNatClampNeg (pr)))), (m9, .inl (j9, 40, .inl (upd (fun _ => 0) (0 : Int32).toNatClampNeg (pd / 10)))), (m10, .inl (j10, 40, .inl (upd (fun _ => 0) (0 : Int32).toNatClampNeg (pd - pd / 10 * 10)))), (g0, .inr (5, [.int 0, .int 0, .int (-1), .ref m3, .int 0, .ref m5, .ref m6, .ref m7, .ref m8, .ref m9, .ref m10, .ref m11, .ref m12, .ref m13, .ref m14, .ref m15, .ref m16, .ref m17, .ref m18, .ref m19, .ref m20, .int 0, .ref m22, .ref m23, .ref m24, .ref m25, .ref m26, .ref m27, .int 0, .ref m29]))] := hD
  refine lv_aload_n hx hb d_MO_request_180 rfl (lv_at hl 2 rfl) ?_
  refine lv_dup hx hb d_MO_request_181 rfl ?_
  refine va_get (D := (dC, dI)) (ci := 5) (v := .int 0) (C := R_MO) (T := F_MO) (N := 30) hx hb ht in_MO hown hK hP 6 rfl rfl 4 (by decide) (ht _ tb_635) (fun _ h9 => h9) rfl d_MO_request_182 ?_
  refine lv_iconst (v := 1) hx hb d_MO_request_185 (by decide) ?_
  refine lv_iadd hx hb d_MO_request_186 ?_
  refine va_put (D := (dC, dI)) (ci := 5) (v := .int (0 + 1)) (ty := .int) (C := R_MO) (T := F_MO) (N := 30) hx hb ht in_MO t_MO t_MO_ok n_MO hown hK hP hD hS 6 rfl rfl 4 (by decide) (ht _ tb_635) (fun _ h9 => h9) rfl (by decide +kernel) rfl rfl (Nat.le_of_ble_eq_true rfl) d_MO_request_187 (fun H locs hP hD hS => ?_)
  have hP : va_P (dC, dI) cls_ [(m5, .inl (j5, 40, .inl (upd (fun _ => 0) (0 : Int32).toNatClampNeg (ch)))), (m6, .inl (j6, 40, .inl (upd (fun _ => 0) (0 : Int32).toNatClampNeg (st)))), (m7, .inl (j7, 40, .inl (upd (fun _ => 0) (0 : Int32).toNatClampNeg (ln)))), (m8, .inl (j8, 40, .inl (upd (fun _ => 0) (0 : Int32).toNatClampNeg (pr)))), (m9, .inl (j9, 40, .inl (upd (fun _ => 0) (0 : Int32).toNatClampNeg (pd / 10)))), (m10, .inl (j10, 40, .inl (upd (fun _ => 0) (0 : Int32).toNatClampNeg (pd - pd / 10 * 10)))), (g0, .inr (5, [.int 0, .int 0, .int (-1), .ref m3, .int (0 + 1), .ref m5, .ref m6, .ref m7, .ref m8, .ref m9, .ref m10, .ref m11, .ref m12, .ref m13, .ref m14, .ref m15, .ref m16, .ref m17, .ref m18, .ref m19, .ref m20, .int 0, .ref m22, .ref m23, .ref m24, .ref m25, .ref m26, .ref m27, .int 0, .ref m29]))] H := hP
  have hD : va_D A [(m5, .inl (j5, 40, .inl (upd (fun _ => 0) (0 : Int32).toNatClampNeg (ch)))), (m6, .inl (j6, 40, .inl (upd (fun _ => 0) (0 : Int32).toNatClampNeg (st)))), (m7, .inl (j7, 40, .inl (upd (fun _ => 0) (0 : Int32).toNatClampNeg (ln)))), (m8, .inl (j8, 40, .inl (upd (fun _ => 0) (0 : Int32).toNatClampNeg (pr)))), (m9, .inl (j9, 40, .inl (upd (fun _ => 0) (0 : Int32).toNatClampNeg (pd / 10)))), (m10, .inl (j10, 40, .inl (upd (fun _ => 0) (0 : Int32).toNatClampNeg (pd - pd / 10 * 10)))), (g0, .inr (5, [.int 0, .int 0, .int (-1), .ref m3, .int (0 + 1), .ref m5, .ref m6, .ref m7, .ref m8, .ref m9, .ref m10, .ref m11, .ref m12, .ref m13, .ref m14, .ref m15, .ref m16, .ref m17, .ref m18, .ref m19, .ref m20, .int 0, .ref m22, .ref m23, .ref m24, .ref m25, .ref m26, .ref m27, .int 0, .ref m29]))] := hD
  refine lv_iload hx hb d_MO_request_190 (lv_at hl 0 rfl) ?_
  have hP9 := hP.sub (ws' := [(g0, .inr (5, [.int 0, .int 0, .int (-1), .ref m3, .int (0 + 1), .ref m5, .ref m6, .ref m7, .ref m8, .ref m9, .ref m10, .ref m11, .ref m12, .ref m13, .ref m14, .ref m15, .ref m16, .ref m17, .ref m18, .ref m19, .ref m20, .int 0, .ref m22, .ref m23, .ref m24, .ref m25, .ref m26, .ref m27, .int 0, .ref m29]))]) [6] rfl
  have hD9 := hD.sub (ws' := [(g0, .inr (5, [.int 0, .int 0, .int (-1), .ref m3, .int (0 + 1), .ref m5, .ref m6, .ref m7, .ref m8, .ref m9, .ref m10, .ref m11, .ref m12, .ref m13, .ref m14, .ref m15, .ref m16, .ref m17, .ref m18, .ref m19, .ref m20, .int 0, .ref m22, .ref m23, .ref m24, .ref m25, .ref m26, .ref m27, .int 0, .ref m29]))]) [6] (by decide) rfl
  have hK9 := hK.sub (tys' := []) [] rfl
  exact W.iret (v := 0) hx hb hr (fun t ht9 hW => ⟨rfl, ⟨by rw [ht9]; exact hP9, va_K.moved hW.alike hK9, hD9⟩, hS.F ht9⟩) hS.2.2 d_MO_request_192
set_option maxHeartbeats 4000000 in
set_option maxRecDepth 100000 in
theorem c_MO_request_bad (l : Launch) (dC : Nat → ClassId) (dI : Nat → Nat → Nat) (sz Bd : Nat) (g0 m3 m5 m6 m7 m8 m9 m10 m11 m12 m13 m14 m15 m16 m17 m18 m19 m20 m22 m23 m24 m25 m26 m27 m29 : Nat) (ch st ln pr pd : Int32) (h : ¬ ((0 ≤ ch ∧ ch ≤ 7) ∧ (0 ≤ st ∧ st ≤ 1000) ∧ (1 ≤ ln ∧ ln ≤ 60) ∧ (1 ≤ pr ∧ pr ≤ 9) ∧ (0 ≤ pd ∧ pd ≤ 99))) : Met l y_MO_request w_MO_request ({ frames := 1, cells := 0, slots := 0, locals := 21 }) (frP (dC, dI) [(g0, .inr (5, [.int 0, .int 0, .int (-1), .ref m3, .int 0, .ref m5, .ref m6, .ref m7, .ref m8, .ref m9, .ref m10, .ref m11, .ref m12, .ref m13, .ref m14, .ref m15, .ref m16, .ref m17, .ref m18, .ref m19, .ref m20, .int 0, .ref m22, .ref m23, .ref m24, .ref m25, .ref m26, .ref m27, .int 0, .ref m29]))] [] sz Bd [.ref g0, .int ch, .int st, .int ln, .int pr, .int pd]) (frQ (some (.int 0)) (fun t => va_P (dC, dI) cls_ [(g0, .inr (5, [.int 1, .int 0, .int (-1), .ref m3, .int 0, .ref m5, .ref m6, .ref m7, .ref m8, .ref m9, .ref m10, .ref m11, .ref m12, .ref m13, .ref m14, .ref m15, .ref m16, .ref m17, .ref m18, .ref m19, .ref m20, .int 0, .ref m22, .ref m23, .ref m24, .ref m25, .ref m26, .ref m27, .int 0, .ref m29]))] t.heap ∧ va_K (dC, dI) cls_ [] t ∧ va_D (va_A [(g0, .inr (5, [.int 0, .int 0, .int (-1), .ref m3, .int 0, .ref m5, .ref m6, .ref m7, .ref m8, .ref m9, .ref m10, .ref m11, .ref m12, .ref m13, .ref m14, .ref m15, .ref m16, .ref m17, .ref m18, .ref m19, .ref m20, .int 0, .ref m22, .ref m23, .ref m24, .ref m25, .ref m26, .ref m27, .int 0, .ref m29]))] sz) [(g0, .inr (5, [.int 1, .int 0, .int (-1), .ref m3, .int 0, .ref m5, .ref m6, .ref m7, .ref m8, .ref m9, .ref m10, .ref m11, .ref m12, .ref m13, .ref m14, .ref m15, .ref m16, .ref m17, .ref m18, .ref m19, .ref m20, .int 0, .ref m22, .ref m23, .ref m24, .ref m25, .ref m26, .ref m27, .int 0, .ref m29]))]) (va_A [(g0, .inr (5, [.int 0, .int 0, .int (-1), .ref m3, .int 0, .ref m5, .ref m6, .ref m7, .ref m8, .ref m9, .ref m10, .ref m11, .ref m12, .ref m13, .ref m14, .ref m15, .ref m16, .ref m17, .ref m18, .ref m19, .ref m20, .int 0, .ref m22, .ref m23, .ref m24, .ref m25, .ref m26, .ref m27, .int 0, .ref m29]))] sz)) 0 0 (va_A [(g0, .inr (5, [.int 0, .int 0, .int (-1), .ref m3, .int 0, .ref m5, .ref m6, .ref m7, .ref m8, .ref m9, .ref m10, .ref m11, .ref m12, .ref m13, .ref m14, .ref m15, .ref m16, .ref m17, .ref m18, .ref m19, .ref m20, .int 0, .ref m22, .ref m23, .ref m24, .ref m25, .ref m26, .ref m27, .int 0, .ref m29]))] sz) := by
  refine Met.ofW (cc := c_MO_request) (maxL := 8) (ret := (some .int)) (by decide) rfl ?_
  intro p e s m args below meth c s₁ B hml hv
  obtain ⟨rfl, ⟨hsz, hBs⟩, hP, hK, hD0, hV⟩ := hv
  have hx := B.exec
  have hb := B.bytes
  have hr := B.returns
  have ht : ∀ w ∈ tb_, w.before _ s = true := fun w h => atoms_spec (ws := w_MO_request) B.pre w (List.mem_cons_of_mem _ h)
  have hown : s.vm.findClass R_MO = some m.cls := findClass_of_methodNamed B.named
  have hlocks := B.notSynchronized
  subst hsz
  have hD := hD0.self (sz := s.heap.size)
  have hAB : ∀ q, va_A [(g0, .inr (5, [.int 0, .int 0, .int (-1), .ref m3, .int 0, .ref m5, .ref m6, .ref m7, .ref m8, .ref m9, .ref m10, .ref m11, .ref m12, .ref m13, .ref m14, .ref m15, .ref m16, .ref m17, .ref m18, .ref m19, .ref m20, .int 0, .ref m22, .ref m23, .ref m24, .ref m25, .ref m26, .ref m27, .int 0, .ref m29]))] s.heap.size q → Bd ≤ q := fr_AB hD0 hBs
  generalize hAe : va_A [(g0, .inr (5, [.int 0, .int 0, .int (-1), .ref m3, .int 0, .ref m5, .ref m6, .ref m7, .ref m8, .ref m9, .ref m10, .ref m11, .ref m12, .ref m13, .ref m14, .ref m15, .ref m16, .ref m17, .ref m18, .ref m19, .ref m20, .int 0, .ref m22, .ref m23, .ref m24, .ref m25, .ref m26, .ref m27, .int 0, .ref m29]))] s.heap.size = A at hD hAB ⊢
  have hA : ∀ q : Nat, s.heap.size ≤ q → A q := fun q h => by rw [← hAe]; exact Or.inr h
  have hS : va_S A s.heap s.heap [] := va_S.rf
  have hAO := hV.2.2.2.1
  have hN_PL := hV.2.2.1.1
  have hN_RW := hV.2.2.1.2
  have hP : va_P (dC, dI) cls_ [(g0, .inr (5, [.int 0, .int 0, .int (-1), .ref m3, .int 0, .ref m5, .ref m6, .ref m7, .ref m8, .ref m9, .ref m10, .ref m11, .ref m12, .ref m13, .ref m14, .ref m15, .ref m16, .ref m17, .ref m18, .ref m19, .ref m20, .int 0, .ref m22, .ref m23, .ref m24, .ref m25, .ref m26, .ref m27, .int 0, .ref m29]))] s.heap := hP
  have hl := lv_entry ([.ref g0, .int ch, .int st, .int ln, .int pr, .int pd]) (n := 8) (Nat.le_of_ble_eq_true rfl)
  rw [lg_entry_eq]
  generalize (lg_sl ([.ref g0, .int ch, .int st, .int ln, .int pr, .int pd]) ++ List.replicate (8 - (lg_sl ([.ref g0, .int ch, .int st, .int ln, .int pr, .int pd])).length) Slot.unset).toArray = ls at hl ⊢
  have hl : lv_has ls 8 [(0, .ref g0), (1, .int ch), (2, .int st), (3, .int ln), (4, .int pr), (5, .int pd)] := hl
  have join : W p l e (headSpec w_MO_request ({ frames := 1, cells := 0, slots := 0, locals := 21 })).room s m (([.ref g0, .int ch, .int st, .int ln, .int pr, .int pd] : List Value).toArray) below meth c s.heap [] 0 0 (MQ below (frQ (some (.int 0)) (fun t => va_P (dC, dI) cls_ [(g0, .inr (5, [.int 1, .int 0, .int (-1), .ref m3, .int 0, .ref m5, .ref m6, .ref m7, .ref m8, .ref m9, .ref m10, .ref m11, .ref m12, .ref m13, .ref m14, .ref m15, .ref m16, .ref m17, .ref m18, .ref m19, .ref m20, .int 0, .ref m22, .ref m23, .ref m24, .ref m25, .ref m26, .ref m27, .int 0, .ref m29]))] t.heap ∧ va_K (dC, dI) cls_ [] t ∧ va_D A [(g0, .inr (5, [.int 1, .int 0, .int (-1), .ref m3, .int 0, .ref m5, .ref m6, .ref m7, .ref m8, .ref m9, .ref m10, .ref m11, .ref m12, .ref m13, .ref m14, .ref m15, .ref m16, .ref m17, .ref m18, .ref m19, .ref m20, .int 0, .ref m22, .ref m23, .ref m24, .ref m25, .ref m26, .ref m27, .int 0, .ref m29]))]) A) (([.ref g0, .int ch, .int st, .int ln, .int pr, .int pd] : List Value).toArray) s 0 0 A) (F0 m 73 ls []) := by
    refine lv_iconst (v := 0) hx hb d_MO_request_73 (by decide) ?_
    refine lv_istore hx hb d_MO_request_74 hl (by decide) rfl (fun ls hl => ?_)
    have hl : lv_has ls 8 [(6, .int 0), (0, .ref g0), (1, .int ch), (2, .int st), (3, .int ln), (4, .int pr), (5, .int pd)] := hl
    refine lv_aload_n hx hb d_MO_request_76 rfl (lv_at hl 1 rfl) ?_
    refine lv_iload hx hb d_MO_request_77 (lv_at hl 0 rfl) ?_
    refine lv_if_ne (tgt := 86) hx hb d_MO_request_79 (by decide) (fun h9 => absurd (by decide) h9) (fun _ => ?_)
    refine lv_iconst (v := 1) hx hb d_MO_request_82 (by decide) ?_
    refine lv_goto (tgt := 109) hx hb d_MO_request_83 (by decide) ?_
    have hPc := hP.sub (ws' := [(g0, .inr (5, [.int 0, .int 0, .int (-1), .ref m3, .int 0, .ref m5, .ref m6, .ref m7, .ref m8, .ref m9, .ref m10, .ref m11, .ref m12, .ref m13, .ref m14, .ref m15, .ref m16, .ref m17, .ref m18, .ref m19, .ref m20, .int 0, .ref m22, .ref m23, .ref m24, .ref m25, .ref m26, .ref m27, .int 0, .ref m29]))]) [0] rfl
    have hKc := hK.sub (tys' := []) [] rfl
    have hDc := hD.sub (ws' := [(g0, .inr (5, [.int 0, .int 0, .int (-1), .ref m3, .int 0, .ref m5, .ref m6, .ref m7, .ref m8, .ref m9, .ref m10, .ref m11, .ref m12, .ref m13, .ref m14, .ref m15, .ref m16, .ref m17, .ref m18, .ref m19, .ref m20, .int 0, .ref m22, .ref m23, .ref m24, .ref m25, .ref m26, .ref m27, .int 0, .ref m29]))]) [0] (by decide) rfl
    have hFc := va_free (wc := [(g0, .inr (5, [.int 0, .int 0, .int (-1), .ref m3, .int 0, .ref m5, .ref m6, .ref m7, .ref m8, .ref m9, .ref m10, .ref m11, .ref m12, .ref m13, .ref m14, .ref m15, .ref m16, .ref m17, .ref m18, .ref m19, .ref m20, .int 0, .ref m22, .ref m23, .ref m24, .ref m25, .ref m26, .ref m27, .int 0, .ref m29]))]) hD hS hA [0] rfl
    refine fr_call (va_runV (C := R_MO) (As := [.int 1]) (rest := []) ⟨hx, hb, hml, hown, ht⟩ (c_MO_refused_yes l dC dI s.heap.size Bd g0 m3 m5 m6 m7 m8 m9 m10 m11 m12 m13 m14 m15 m16 m17 m18 m19 m20 m22 m23 m24 m25 m26 m27 m29 0 0) (cwV 1 ht (gV tb_736 tb_738 ts_23 tb_5 tb_739) rfl rfl rfl (by decide +kernel) ⟨Nat.le_of_ble_eq_true rfl, Nat.le_of_ble_eq_true rfl⟩) ⟨frP_blind, va_recv (q := (R_MO, F_MO, 30)) hK hP rfl (show ([(g0, .inr (5, [.int 0, .int 0, .int (-1), .ref m3, .int 0, .ref m5, .ref m6, .ref m7, .ref m8, .ref m9, .ref m10, .ref m11, .ref m12, .ref m13, .ref m14, .ref m15, .ref m16, .ref m17, .ref m18, .ref m19, .ref m20, .int 0, .ref m22, .ref m23, .ref m24, .ref m25, .ref m26, .ref m27, .int 0, .ref m29]))] : va_W)[0]? = some (g0, .inr (5, [.int 0, .int 0, .int (-1), .ref m3, .int 0, .ref m5, .ref m6, .ref m7, .ref m8, .ref m9, .ref m10, .ref m11, .ref m12, .ref m13, .ref m14, .ref m15, .ref m16, .ref m17, .ref m18, .ref m19, .ref m20, .int 0, .ref m22, .ref m23, .ref m24, .ref m25, .ref m26, .ref m27, .int 0, .ref m29])) from rfl), fr_pre hPc hKc hDc hAB hBs hS hV⟩ rfl rfl hl.1 rfl (lv_room (Nat.le_of_ble_eq_true rfl)) d_MO_request_109 ⟨Nat.le_of_ble_eq_true rfl, Nat.le_of_ble_eq_true rfl⟩) hS (fun q _ h => hFc q h) hFc (fun t H1 locs ht1 hvm hB1 hz1 hk1 hS => ?_)
    obtain ⟨hP1, hK1, hD1⟩ := hB1
    rw [ht1] at hP1
    have hK1 := va_K.moved hvm.symm hK1
    obtain ⟨hP, hD⟩ := va_join (wr := []) (w1 := [(g0, .inr (5, [.int 1, .int 0, .int (-1), .ref m3, .int 0, .ref m5, .ref m6, .ref m7, .ref m8, .ref m9, .ref m10, .ref m11, .ref m12, .ref m13, .ref m14, .ref m15, .ref m16, .ref m17, .ref m18, .ref m19, .ref m20, .int 0, .ref m22, .ref m23, .ref m24, .ref m25, .ref m26, .ref m27, .int 0, .ref m29]))]) hP hD [0] [] rfl rfl (by decide) (by decide) hk1 hFc hP1 hD1
    have hK := hK.app hK1
    generalize H1 = H at hP hS ⊢
    have hP : va_P (dC, dI) cls_ [(g0, .inr (5, [.int 1, .int 0, .int (-1), .ref m3, .int 0, .ref m5, .ref m6, .ref m7, .ref m8, .ref m9, .ref m10, .ref m11, .ref m12, .ref m13, .ref m14, .ref m15, .ref m16, .ref m17, .ref m18, .ref m19, .ref m20, .int 0, .ref m22, .ref m23, .ref m24, .ref m25, .ref m26, .ref m27, .int 0, .ref m29]))] H := hP
    have hD : va_D A [(g0, .inr (5, [.int 1, .int 0, .int (-1), .ref m3, .int 0, .ref m5, .ref m6, .ref m7, .ref m8, .ref m9, .ref m10, .ref m11, .ref m12, .ref m13, .ref m14, .ref m15, .ref m16, .ref m17, .ref m18, .ref m19, .ref m20, .int 0, .ref m22, .ref m23, .ref m24, .ref m25, .ref m26, .ref m27, .int 0, .ref m29]))] := hD
    have hK : va_K (dC, dI) cls_ [] s := hK
    refine W.eq (g2 := F0 m 112 ls [.int 1]) rfl ?_
    refine W.cs (cells' := 0) (slots' := 0) rfl rfl ?_
    refine lv_if_eq (tgt := 117) hx hb d_MO_request_112 (by decide) (fun h9 => absurd h9 (by decide)) (fun _ => ?_)
    refine lv_iconst (v := 0) hx hb d_MO_request_115 (by decide) ?_
    have hP9 := hP.sub (ws' := [(g0, .inr (5, [.int 1, .int 0, .int (-1), .ref m3, .int 0, .ref m5, .ref m6, .ref m7, .ref m8, .ref m9, .ref m10, .ref m11, .ref m12, .ref m13, .ref m14, .ref m15, .ref m16, .ref m17, .ref m18, .ref m19, .ref m20, .int 0, .ref m22, .ref m23, .ref m24, .ref m25, .ref m26, .ref m27, .int 0, .ref m29]))]) [0] rfl
    have hD9 := hD.sub (ws' := [(g0, .inr (5, [.int 1, .int 0, .int (-1), .ref m3, .int 0, .ref m5, .ref m6, .ref m7, .ref m8, .ref m9, .ref m10, .ref m11, .ref m12, .ref m13, .ref m14, .ref m15, .ref m16, .ref m17, .ref m18, .ref m19, .ref m20, .int 0, .ref m22, .ref m23, .ref m24, .ref m25, .ref m26, .ref m27, .int 0, .ref m29]))]) [0] (by decide) rfl
    have hK9 := hK.sub (tys' := []) [] rfl
    exact W.iret (v := 0) hx hb hr (fun t ht9 hW => ⟨rfl, ⟨by rw [ht9]; exact hP9, va_K.moved hW.alike hK9, hD9⟩, hS.F ht9⟩) hS.2.2 d_MO_request_116
  refine lv_iload_n hx hb d_MO_request_0 rfl (lv_at hl 1 rfl) ?_
  refine lv_if_lt (tgt := 73) hx hb d_MO_request_1 (by decide) (fun _ => join) (fun a0 => ?_)
  refine lv_iload_n hx hb d_MO_request_4 rfl (lv_at hl 1 rfl) ?_
  refine lv_bipush (v := 7) hx hb d_MO_request_5 (by decide) ?_
  refine lv_icmp_gt (tgt := 73) hx hb d_MO_request_7 (by decide) (fun _ => join) (fun a1 => ?_)
  refine lv_iload_n hx hb d_MO_request_10 rfl (lv_at hl 2 rfl) ?_
  refine lv_aload_n hx hb d_MO_request_11 rfl (lv_at hl 0 rfl) ?_
  refine va_get (D := (dC, dI)) (ci := 5) (v := .int 0) (C := R_MO) (T := F_MO) (N := 30) hx hb ht in_MO hown hK hP 0 rfl rfl 1 (by decide) (ht _ tb_632) (fun _ h9 => h9) rfl d_MO_request_12 ?_
  refine lv_icmp_lt (tgt := 73) hx hb d_MO_request_15 (by decide) (fun _ => join) (fun a2 => ?_)
  refine lv_iload_n hx hb d_MO_request_18 rfl (lv_at hl 2 rfl) ?_
  refine lv_i2l hx hb d_MO_request_19 rfl ?_
  refine lv_aload_n hx hb d_MO_request_20 rfl (lv_at hl 0 rfl) ?_
  refine va_get (D := (dC, dI)) (ci := 5) (v := .int 0) (C := R_MO) (T := F_MO) (N := 30) hx hb ht in_MO hown hK hP 0 rfl rfl 1 (by decide) (ht _ tb_632) (fun _ h9 => h9) rfl d_MO_request_21 ?_
  refine lv_i2l hx hb d_MO_request_24 rfl ?_
  refine lv_ldc2 (v := 1000) hx hb hown (ht _ tb_731) d_MO_request_25 ?_
  refine lv_ladd hx hb d_MO_request_28 ?_
  refine W.lcmp hx hb d_MO_request_29 ?_
  refine lv_if_gt (tgt := 73) hx hb d_MO_request_30 (by decide) (fun _ => join) (fun a3 => ?_)
  refine lv_iload_n hx hb d_MO_request_33 rfl (lv_at hl 3 rfl) ?_
  refine lv_iconst (v := 1) hx hb d_MO_request_34 (by decide) ?_
  refine lv_icmp_lt (tgt := 73) hx hb d_MO_request_35 (by decide) (fun _ => join) (fun a4 => ?_)
  refine lv_iload_n hx hb d_MO_request_38 rfl (lv_at hl 3 rfl) ?_
  refine lv_bipush (v := 60) hx hb d_MO_request_39 (by decide) ?_
  refine lv_icmp_gt (tgt := 73) hx hb d_MO_request_41 (by decide) (fun _ => join) (fun a5 => ?_)
  refine lv_iload hx hb d_MO_request_44 (lv_at hl 4 rfl) ?_
  refine lv_iconst (v := 1) hx hb d_MO_request_46 (by decide) ?_
  refine lv_icmp_lt (tgt := 73) hx hb d_MO_request_47 (by decide) (fun _ => join) (fun a6 => ?_)
  refine lv_iload hx hb d_MO_request_50 (lv_at hl 4 rfl) ?_
  refine lv_bipush (v := 9) hx hb d_MO_request_52 (by decide) ?_
  refine lv_icmp_gt (tgt := 73) hx hb d_MO_request_54 (by decide) (fun _ => join) (fun a7 => ?_)
  refine lv_iload hx hb d_MO_request_57 (lv_at hl 5 rfl) ?_
  refine lv_if_lt (tgt := 73) hx hb d_MO_request_59 (by decide) (fun _ => join) (fun a8 => ?_)
  refine lv_iload hx hb d_MO_request_62 (lv_at hl 5 rfl) ?_
  refine lv_bipush (v := 99) hx hb d_MO_request_64 (by decide) ?_
  refine lv_icmp_gt (tgt := 73) hx hb d_MO_request_66 (by decide) (fun _ => join) (fun a9 => ?_)
  exact absurd ⟨⟨Int32.not_lt.mp a0, Int32.not_lt.mp a1⟩, ⟨Int32.not_lt.mp a2, cm_T.mp ((lg_cmp_le _ _).mp (Int32.not_lt.mp a3))⟩, ⟨Int32.not_lt.mp a4, Int32.not_lt.mp a5⟩, ⟨Int32.not_lt.mp a6, Int32.not_lt.mp a7⟩, ⟨Int32.not_lt.mp a8, Int32.not_lt.mp a9⟩⟩ h
set_option maxHeartbeats 4000000 in
set_option maxRecDepth 100000 in
theorem c_MO_air_ok (l : Launch) (dC : Nat → ClassId) (dI : Nat → Nat → Nat) (sz Bd : Nat) (g0 m3 m5 m6 m7 m8 m9 m10 m11 m12 m13 m14 m15 m16 m17 m18 m19 m20 m22 m23 m24 m25 m26 m27 m29 : Nat) (j3 : ClassId) (x y : Int32) (h : 0 ≤ x ∧ x ≤ 7) : Met l y_MO_air w_MO_air ({ frames := 1, cells := 0, slots := 0, locals := 21 }) (frP (dC, dI) [(g0, .inr (5, [.int 0, .int 0, .int (-1), .ref m3, .int 0, .ref m5, .ref m6, .ref m7, .ref m8, .ref m9, .ref m10, .ref m11, .ref m12, .ref m13, .ref m14, .ref m15, .ref m16, .ref m17, .ref m18, .ref m19, .ref m20, .int 0, .ref m22, .ref m23, .ref m24, .ref m25, .ref m26, .ref m27, .int 0, .ref m29])), (m3, .inl (j3, 8, .inl (fun _ => 0)))] [(j3, .int)] sz Bd [.ref g0, .int x, .int y]) (frQ none (fun t => va_P (dC, dI) cls_ [(g0, .inr (5, [.int 0, .int 0, .int (-1), .ref m3, .int 0, .ref m5, .ref m6, .ref m7, .ref m8, .ref m9, .ref m10, .ref m11, .ref m12, .ref m13, .ref m14, .ref m15, .ref m16, .ref m17, .ref m18, .ref m19, .ref m20, .int 0, .ref m22, .ref m23, .ref m24, .ref m25, .ref m26, .ref m27, .int 0, .ref m29]))] t.heap ∧ va_K (dC, dI) cls_ [] t ∧ va_D (va_A [(g0, .inr (5, [.int 0, .int 0, .int (-1), .ref m3, .int 0, .ref m5, .ref m6, .ref m7, .ref m8, .ref m9, .ref m10, .ref m11, .ref m12, .ref m13, .ref m14, .ref m15, .ref m16, .ref m17, .ref m18, .ref m19, .ref m20, .int 0, .ref m22, .ref m23, .ref m24, .ref m25, .ref m26, .ref m27, .int 0, .ref m29])), (m3, .inl (j3, 8, .inl (fun _ => 0)))] sz) [(g0, .inr (5, [.int 0, .int 0, .int (-1), .ref m3, .int 0, .ref m5, .ref m6, .ref m7, .ref m8, .ref m9, .ref m10, .ref m11, .ref m12, .ref m13, .ref m14, .ref m15, .ref m16, .ref m17, .ref m18, .ref m19, .ref m20, .int 0, .ref m22, .ref m23, .ref m24, .ref m25, .ref m26, .ref m27, .int 0, .ref m29]))]) (va_A [(g0, .inr (5, [.int 0, .int 0, .int (-1), .ref m3, .int 0, .ref m5, .ref m6, .ref m7, .ref m8, .ref m9, .ref m10, .ref m11, .ref m12, .ref m13, .ref m14, .ref m15, .ref m16, .ref m17, .ref m18, .ref m19, .ref m20, .int 0, .ref m22, .ref m23, .ref m24, .ref m25, .ref m26, .ref m27, .int 0, .ref m29])), (m3, .inl (j3, 8, .inl (fun _ => 0)))] sz)) 0 0 (va_A [(g0, .inr (5, [.int 0, .int 0, .int (-1), .ref m3, .int 0, .ref m5, .ref m6, .ref m7, .ref m8, .ref m9, .ref m10, .ref m11, .ref m12, .ref m13, .ref m14, .ref m15, .ref m16, .ref m17, .ref m18, .ref m19, .ref m20, .int 0, .ref m22, .ref m23, .ref m24, .ref m25, .ref m26, .ref m27, .int 0, .ref m29])), (m3, .inl (j3, 8, .inl (fun _ => 0)))] sz) := by
  refine Met.ofW (cc := c_MO_air) (maxL := 3) (ret := none) (by decide) rfl ?_
  intro p e s m args below meth c s₁ B hml hv
  obtain ⟨rfl, ⟨hsz, hBs⟩, hP, hK, hD0, hV⟩ := hv
  have hx := B.exec
  have hb := B.bytes
  have hr := B.returns
  have ht : ∀ w ∈ tb_, w.before _ s = true := fun w h => atoms_spec (ws := w_MO_air) B.pre w (List.mem_cons_of_mem _ h)
  have hown : s.vm.findClass R_MO = some m.cls := findClass_of_methodNamed B.named
  have hlocks := B.notSynchronized
  subst hsz
  have hD := hD0.self (sz := s.heap.size)
  have hAB : ∀ q, va_A [(g0, .inr (5, [.int 0, .int 0, .int (-1), .ref m3, .int 0, .ref m5, .ref m6, .ref m7, .ref m8, .ref m9, .ref m10, .ref m11, .ref m12, .ref m13, .ref m14, .ref m15, .ref m16, .ref m17, .ref m18, .ref m19, .ref m20, .int 0, .ref m22, .ref m23, .ref m24, .ref m25, .ref m26, .ref m27, .int 0, .ref m29])), (m3, .inl (j3, 8, .inl (fun _ => 0)))] s.heap.size q → Bd ≤ q := fr_AB hD0 hBs
  generalize hAe : va_A [(g0, .inr (5, [.int 0, .int 0, .int (-1), .ref m3, .int 0, .ref m5, .ref m6, .ref m7, .ref m8, .ref m9, .ref m10, .ref m11, .ref m12, .ref m13, .ref m14, .ref m15, .ref m16, .ref m17, .ref m18, .ref m19, .ref m20, .int 0, .ref m22, .ref m23, .ref m24, .ref m25, .ref m26, .ref m27, .int 0, .ref m29])), (m3, .inl (j3, 8, .inl (fun _ => 0)))] s.heap.size = A at hD hAB ⊢
  have hA : ∀ q : Nat, s.heap.size ≤ q → A q := fun q h => by rw [← hAe]; exact Or.inr h
  have hS : va_S A s.heap s.heap [] := va_S.rf
  have hAO := hV.2.2.2.1
  have hN_PL := hV.2.2.1.1
  have hN_RW := hV.2.2.1.2
  have hP : va_P (dC, dI) cls_ [(g0, .inr (5, [.int 0, .int 0, .int (-1), .ref m3, .int 0, .ref m5, .ref m6, .ref m7, .ref m8, .ref m9, .ref m10, .ref m11, .ref m12, .ref m13, .ref m14, .ref m15, .ref m16, .ref m17, .ref m18, .ref m19, .ref m20, .int 0, .ref m22, .ref m23, .ref m24, .ref m25, .ref m26, .ref m27, .int 0, .ref m29])), (m3, .inl (j3, 8, .inl (fun _ => 0)))] s.heap := hP
  have hl := lv_entry ([.ref g0, .int x, .int y]) (n := 3) (Nat.le_of_ble_eq_true rfl)
  rw [lg_entry_eq]
  generalize (lg_sl ([.ref g0, .int x, .int y]) ++ List.replicate (3 - (lg_sl ([.ref g0, .int x, .int y])).length) Slot.unset).toArray = ls at hl ⊢
  have hl : lv_has ls 3 [(0, .ref g0), (1, .int x), (2, .int y)] := hl
  refine lv_aload_n hx hb d_MO_air_0 rfl (lv_at hl 0 rfl) ?_
  refine lv_iload_n hx hb d_MO_air_1 rfl (lv_at hl 1 rfl) ?_
  refine lv_if_lt (tgt := 11) hx hb d_MO_air_2 (by decide) (fun h9 => absurd h9 (Int32.not_lt.mpr h.1)) (fun _ => ?_)
  refine lv_iload_n hx hb d_MO_air_5 rfl (lv_at hl 1 rfl) ?_
  refine lv_bipush (v := 7) hx hb d_MO_air_6 (by decide) ?_
  refine lv_icmp_le (tgt := 15) hx hb d_MO_air_8 (by decide) (fun _ => ?_) (fun h9 => absurd (h.2) h9)
  refine lv_iconst (v := 0) hx hb d_MO_air_15 (by decide) ?_
  have hPc := hP.sub (ws' := [(g0, .inr (5, [.int 0, .int 0, .int (-1), .ref m3, .int 0, .ref m5, .ref m6, .ref m7, .ref m8, .ref m9, .ref m10, .ref m11, .ref m12, .ref m13, .ref m14, .ref m15, .ref m16, .ref m17, .ref m18, .ref m19, .ref m20, .int 0, .ref m22, .ref m23, .ref m24, .ref m25, .ref m26, .ref m27, .int 0, .ref m29]))]) [0] rfl
  have hKc := hK.sub (tys' := []) [] rfl
  have hDc := hD.sub (ws' := [(g0, .inr (5, [.int 0, .int 0, .int (-1), .ref m3, .int 0, .ref m5, .ref m6, .ref m7, .ref m8, .ref m9, .ref m10, .ref m11, .ref m12, .ref m13, .ref m14, .ref m15, .ref m16, .ref m17, .ref m18, .ref m19, .ref m20, .int 0, .ref m22, .ref m23, .ref m24, .ref m25, .ref m26, .ref m27, .int 0, .ref m29]))]) [0] (by decide) rfl
  have hFc := va_free (wc := [(g0, .inr (5, [.int 0, .int 0, .int (-1), .ref m3, .int 0, .ref m5, .ref m6, .ref m7, .ref m8, .ref m9, .ref m10, .ref m11, .ref m12, .ref m13, .ref m14, .ref m15, .ref m16, .ref m17, .ref m18, .ref m19, .ref m20, .int 0, .ref m22, .ref m23, .ref m24, .ref m25, .ref m26, .ref m27, .int 0, .ref m29]))]) hD hS hA [0] rfl
  refine fr_call (va_runV (C := R_MO) (As := [.int 0]) (rest := []) ⟨hx, hb, hml, hown, ht⟩ (c_MO_refused_no l dC dI s.heap.size Bd g0 m3 m5 m6 m7 m8 m9 m10 m11 m12 m13 m14 m15 m16 m17 m18 m19 m20 m22 m23 m24 m25 m26 m27 m29 0 0) (cwV 1 ht (gV tb_736 tb_738 ts_23 tb_5 tb_739) rfl rfl rfl (by decide +kernel) ⟨Nat.le_of_ble_eq_true rfl, Nat.le_of_ble_eq_true rfl⟩) ⟨frP_blind, va_recv (q := (R_MO, F_MO, 30)) hK hP rfl (show ([(g0, .inr (5, [.int 0, .int 0, .int (-1), .ref m3, .int 0, .ref m5, .ref m6, .ref m7, .ref m8, .ref m9, .ref m10, .ref m11, .ref m12, .ref m13, .ref m14, .ref m15, .ref m16, .ref m17, .ref m18, .ref m19, .ref m20, .int 0, .ref m22, .ref m23, .ref m24, .ref m25, .ref m26, .ref m27, .int 0, .ref m29])), (m3, .inl (j3, 8, .inl (fun _ => 0)))] : va_W)[0]? = some (g0, .inr (5, [.int 0, .int 0, .int (-1), .ref m3, .int 0, .ref m5, .ref m6, .ref m7, .ref m8, .ref m9, .ref m10, .ref m11, .ref m12, .ref m13, .ref m14, .ref m15, .ref m16, .ref m17, .ref m18, .ref m19, .ref m20, .int 0, .ref m22, .ref m23, .ref m24, .ref m25, .ref m26, .ref m27, .int 0, .ref m29])) from rfl), fr_pre hPc hKc hDc hAB hBs hS hV⟩ rfl rfl hl.1 rfl (lv_room (Nat.le_of_ble_eq_true rfl)) d_MO_air_16 ⟨Nat.le_of_ble_eq_true rfl, Nat.le_of_ble_eq_true rfl⟩) hS (fun q _ h => hFc q h) hFc (fun t H1 locs ht1 hvm hB1 hz1 hk1 hS => ?_)
  obtain ⟨hP1, hK1, hD1⟩ := hB1
  rw [ht1] at hP1
  have hK1 := va_K.moved hvm.symm hK1
  obtain ⟨hP, hD⟩ := va_join (wr := [(m3, .inl (j3, 8, .inl (fun _ => 0)))]) (w1 := [(g0, .inr (5, [.int 0, .int 0, .int (-1), .ref m3, .int 0, .ref m5, .ref m6, .ref m7, .ref m8, .ref m9, .ref m10, .ref m11, .ref m12, .ref m13, .ref m14, .ref m15, .ref m16, .ref m17, .ref m18, .ref m19, .ref m20, .int 0, .ref m22, .ref m23, .ref m24, .ref m25, .ref m26, .ref m27, .int 0, .ref m29]))]) hP hD [0] [1] rfl rfl (by decide) (by decide) hk1 hFc hP1 hD1
  have hK := hK.app hK1
  generalize H1 = H at hP hS ⊢
  have hP : va_P (dC, dI) cls_ [(m3, .inl (j3, 8, .inl (fun _ => 0))), (g0, .inr (5, [.int 0, .int 0, .int (-1), .ref m3, .int 0, .ref m5, .ref m6, .ref m7, .ref m8, .ref m9, .ref m10, .ref m11, .ref m12, .ref m13, .ref m14, .ref m15, .ref m16, .ref m17, .ref m18, .ref m19, .ref m20, .int 0, .ref m22, .ref m23, .ref m24, .ref m25, .ref m26, .ref m27, .int 0, .ref m29]))] H := hP
  have hD : va_D A [(m3, .inl (j3, 8, .inl (fun _ => 0))), (g0, .inr (5, [.int 0, .int 0, .int (-1), .ref m3, .int 0, .ref m5, .ref m6, .ref m7, .ref m8, .ref m9, .ref m10, .ref m11, .ref m12, .ref m13, .ref m14, .ref m15, .ref m16, .ref m17, .ref m18, .ref m19, .ref m20, .int 0, .ref m22, .ref m23, .ref m24, .ref m25, .ref m26, .ref m27, .int 0, .ref m29]))] := hD
  have hK : va_K (dC, dI) cls_ [(j3, .int)] s := hK
  refine W.eq (g2 := F0 m 19 ls [.int 0]) rfl ?_
  refine W.cs (cells' := 0) (slots' := 0) rfl rfl ?_
  refine lv_if_ne (tgt := 29) hx hb d_MO_air_19 (by decide) (fun h9 => absurd (by decide) h9) (fun _ => ?_)
  refine lv_aload_n hx hb d_MO_air_22 rfl (lv_at hl 0 rfl) ?_
  refine va_get (D := (dC, dI)) (ci := 5) (v := .ref m3) (C := R_MO) (T := F_MO) (N := 30) hx hb ht in_MO hown hK hP 1 rfl rfl 3 (by decide) (ht _ tb_634) (fun _ h9 => h9) rfl d_MO_air_23 ?_
  refine lv_iload_n hx hb d_MO_air_26 rfl (lv_at hl 1 rfl) ?_
  refine lv_iload_n hx hb d_MO_air_27 rfl (lv_at hl 2 rfl) ?_
  refine va_iast hx hb hK hP hD hS 0 0 rfl rfl (in_8 h.1 h.2) d_MO_air_28 (fun H locs hP hD hS => ?_)
  have hP : va_P (dC, dI) cls_ [(m3, .inl (j3, 8, .inl (upd (fun _ => 0) x.toNatClampNeg y))), (g0, .inr (5, [.int 0, .int 0, .int (-1), .ref m3, .int 0, .ref m5, .ref m6, .ref m7, .ref m8, .ref m9, .ref m10, .ref m11, .ref m12, .ref m13, .ref m14, .ref m15, .ref m16, .ref m17, .ref m18, .ref m19, .ref m20, .int 0, .ref m22, .ref m23, .ref m24, .ref m25, .ref m26, .ref m27, .int 0, .ref m29]))] H := hP
  have hD : va_D A [(m3, .inl (j3, 8, .inl (upd (fun _ => 0) x.toNatClampNeg y))), (g0, .inr (5, [.int 0, .int 0, .int (-1), .ref m3, .int 0, .ref m5, .ref m6, .ref m7, .ref m8, .ref m9, .ref m10, .ref m11, .ref m12, .ref m13, .ref m14, .ref m15, .ref m16, .ref m17, .ref m18, .ref m19, .ref m20, .int 0, .ref m22, .ref m23, .ref m24, .ref m25, .ref m26, .ref m27, .int 0, .ref m29]))] := hD
  have hP9 := hP.sub (ws' := [(g0, .inr (5, [.int 0, .int 0, .int (-1), .ref m3, .int 0, .ref m5, .ref m6, .ref m7, .ref m8, .ref m9, .ref m10, .ref m11, .ref m12, .ref m13, .ref m14, .ref m15, .ref m16, .ref m17, .ref m18, .ref m19, .ref m20, .int 0, .ref m22, .ref m23, .ref m24, .ref m25, .ref m26, .ref m27, .int 0, .ref m29]))]) [1] rfl
  have hD9 := hD.sub (ws' := [(g0, .inr (5, [.int 0, .int 0, .int (-1), .ref m3, .int 0, .ref m5, .ref m6, .ref m7, .ref m8, .ref m9, .ref m10, .ref m11, .ref m12, .ref m13, .ref m14, .ref m15, .ref m16, .ref m17, .ref m18, .ref m19, .ref m20, .int 0, .ref m22, .ref m23, .ref m24, .ref m25, .ref m26, .ref m27, .int 0, .ref m29]))]) [1] (by decide) rfl
  have hK9 := hK.sub (tys' := []) [] rfl
  exact W.vret hx hb hr (fun t ht9 hW => ⟨rfl, ⟨by rw [ht9]; exact hP9, va_K.moved hW.alike hK9, hD9⟩, hS.F ht9⟩) hS.2.2 d_MO_air_29
set_option maxHeartbeats 4000000 in
set_option maxRecDepth 100000 in
theorem c_MO_air_bad (l : Launch) (dC : Nat → ClassId) (dI : Nat → Nat → Nat) (sz Bd : Nat) (g0 m3 m5 m6 m7 m8 m9 m10 m11 m12 m13 m14 m15 m16 m17 m18 m19 m20 m22 m23 m24 m25 m26 m27 m29 : Nat) (x y : Int32) (h : ¬ (0 ≤ x ∧ x ≤ 7)) : Met l y_MO_air w_MO_air ({ frames := 1, cells := 0, slots := 0, locals := 21 }) (frP (dC, dI) [(g0, .inr (5, [.int 0, .int 0, .int (-1), .ref m3, .int 0, .ref m5, .ref m6, .ref m7, .ref m8, .ref m9, .ref m10, .ref m11, .ref m12, .ref m13, .ref m14, .ref m15, .ref m16, .ref m17, .ref m18, .ref m19, .ref m20, .int 0, .ref m22, .ref m23, .ref m24, .ref m25, .ref m26, .ref m27, .int 0, .ref m29]))] [] sz Bd [.ref g0, .int x, .int y]) (frQ none (fun t => va_P (dC, dI) cls_ [(g0, .inr (5, [.int 1, .int 0, .int (-1), .ref m3, .int 0, .ref m5, .ref m6, .ref m7, .ref m8, .ref m9, .ref m10, .ref m11, .ref m12, .ref m13, .ref m14, .ref m15, .ref m16, .ref m17, .ref m18, .ref m19, .ref m20, .int 0, .ref m22, .ref m23, .ref m24, .ref m25, .ref m26, .ref m27, .int 0, .ref m29]))] t.heap ∧ va_K (dC, dI) cls_ [] t ∧ va_D (va_A [(g0, .inr (5, [.int 0, .int 0, .int (-1), .ref m3, .int 0, .ref m5, .ref m6, .ref m7, .ref m8, .ref m9, .ref m10, .ref m11, .ref m12, .ref m13, .ref m14, .ref m15, .ref m16, .ref m17, .ref m18, .ref m19, .ref m20, .int 0, .ref m22, .ref m23, .ref m24, .ref m25, .ref m26, .ref m27, .int 0, .ref m29]))] sz) [(g0, .inr (5, [.int 1, .int 0, .int (-1), .ref m3, .int 0, .ref m5, .ref m6, .ref m7, .ref m8, .ref m9, .ref m10, .ref m11, .ref m12, .ref m13, .ref m14, .ref m15, .ref m16, .ref m17, .ref m18, .ref m19, .ref m20, .int 0, .ref m22, .ref m23, .ref m24, .ref m25, .ref m26, .ref m27, .int 0, .ref m29]))]) (va_A [(g0, .inr (5, [.int 0, .int 0, .int (-1), .ref m3, .int 0, .ref m5, .ref m6, .ref m7, .ref m8, .ref m9, .ref m10, .ref m11, .ref m12, .ref m13, .ref m14, .ref m15, .ref m16, .ref m17, .ref m18, .ref m19, .ref m20, .int 0, .ref m22, .ref m23, .ref m24, .ref m25, .ref m26, .ref m27, .int 0, .ref m29]))] sz)) 0 0 (va_A [(g0, .inr (5, [.int 0, .int 0, .int (-1), .ref m3, .int 0, .ref m5, .ref m6, .ref m7, .ref m8, .ref m9, .ref m10, .ref m11, .ref m12, .ref m13, .ref m14, .ref m15, .ref m16, .ref m17, .ref m18, .ref m19, .ref m20, .int 0, .ref m22, .ref m23, .ref m24, .ref m25, .ref m26, .ref m27, .int 0, .ref m29]))] sz) := by
  refine Met.ofW (cc := c_MO_air) (maxL := 3) (ret := none) (by decide) rfl ?_
  intro p e s m args below meth c s₁ B hml hv
  obtain ⟨rfl, ⟨hsz, hBs⟩, hP, hK, hD0, hV⟩ := hv
  have hx := B.exec
  have hb := B.bytes
  have hr := B.returns
  have ht : ∀ w ∈ tb_, w.before _ s = true := fun w h => atoms_spec (ws := w_MO_air) B.pre w (List.mem_cons_of_mem _ h)
  have hown : s.vm.findClass R_MO = some m.cls := findClass_of_methodNamed B.named
  have hlocks := B.notSynchronized
  subst hsz
  have hD := hD0.self (sz := s.heap.size)
  have hAB : ∀ q, va_A [(g0, .inr (5, [.int 0, .int 0, .int (-1), .ref m3, .int 0, .ref m5, .ref m6, .ref m7, .ref m8, .ref m9, .ref m10, .ref m11, .ref m12, .ref m13, .ref m14, .ref m15, .ref m16, .ref m17, .ref m18, .ref m19, .ref m20, .int 0, .ref m22, .ref m23, .ref m24, .ref m25, .ref m26, .ref m27, .int 0, .ref m29]))] s.heap.size q → Bd ≤ q := fr_AB hD0 hBs
  generalize hAe : va_A [(g0, .inr (5, [.int 0, .int 0, .int (-1), .ref m3, .int 0, .ref m5, .ref m6, .ref m7, .ref m8, .ref m9, .ref m10, .ref m11, .ref m12, .ref m13, .ref m14, .ref m15, .ref m16, .ref m17, .ref m18, .ref m19, .ref m20, .int 0, .ref m22, .ref m23, .ref m24, .ref m25, .ref m26, .ref m27, .int 0, .ref m29]))] s.heap.size = A at hD hAB ⊢
  have hA : ∀ q : Nat, s.heap.size ≤ q → A q := fun q h => by rw [← hAe]; exact Or.inr h
  have hS : va_S A s.heap s.heap [] := va_S.rf
  have hAO := hV.2.2.2.1
  have hN_PL := hV.2.2.1.1
  have hN_RW := hV.2.2.1.2
  have hP : va_P (dC, dI) cls_ [(g0, .inr (5, [.int 0, .int 0, .int (-1), .ref m3, .int 0, .ref m5, .ref m6, .ref m7, .ref m8, .ref m9, .ref m10, .ref m11, .ref m12, .ref m13, .ref m14, .ref m15, .ref m16, .ref m17, .ref m18, .ref m19, .ref m20, .int 0, .ref m22, .ref m23, .ref m24, .ref m25, .ref m26, .ref m27, .int 0, .ref m29]))] s.heap := hP
  have hl := lv_entry ([.ref g0, .int x, .int y]) (n := 3) (Nat.le_of_ble_eq_true rfl)
  rw [lg_entry_eq]
  generalize (lg_sl ([.ref g0, .int x, .int y]) ++ List.replicate (3 - (lg_sl ([.ref g0, .int x, .int y])).length) Slot.unset).toArray = ls at hl ⊢
  have hl : lv_has ls 3 [(0, .ref g0), (1, .int x), (2, .int y)] := hl
  refine lv_aload_n hx hb d_MO_air_0 rfl (lv_at hl 0 rfl) ?_
  refine lv_iload_n hx hb d_MO_air_1 rfl (lv_at hl 1 rfl) ?_
  refine lv_if_lt (tgt := 11) hx hb d_MO_air_2 (by decide) (fun a1 => ?_) (fun a1 => ?_)
  · refine lv_iconst (v := 1) hx hb d_MO_air_11 (by decide) ?_
    refine lv_goto (tgt := 16) hx hb d_MO_air_12 (by decide) ?_
    have hPc := hP.sub (ws' := [(g0, .inr (5, [.int 0, .int 0, .int (-1), .ref m3, .int 0, .ref m5, .ref m6, .ref m7, .ref m8, .ref m9, .ref m10, .ref m11, .ref m12, .ref m13, .ref m14, .ref m15, .ref m16, .ref m17, .ref m18, .ref m19, .ref m20, .int 0, .ref m22, .ref m23, .ref m24, .ref m25, .ref m26, .ref m27, .int 0, .ref m29]))]) [0] rfl
    have hKc := hK.sub (tys' := []) [] rfl
    have hDc := hD.sub (ws' := [(g0, .inr (5, [.int 0, .int 0, .int (-1), .ref m3, .int 0, .ref m5, .ref m6, .ref m7, .ref m8, .ref m9, .ref m10, .ref m11, .ref m12, .ref m13, .ref m14, .ref m15, .ref m16, .ref m17, .ref m18, .ref m19, .ref m20, .int 0, .ref m22, .ref m23, .ref m24, .ref m25, .ref m26, .ref m27, .int 0, .ref m29]))]) [0] (by decide) rfl
    have hFc := va_free (wc := [(g0, .inr (5, [.int 0, .int 0, .int (-1), .ref m3, .int 0, .ref m5, .ref m6, .ref m7, .ref m8, .ref m9, .ref m10, .ref m11, .ref m12, .ref m13, .ref m14, .ref m15, .ref m16, .ref m17, .ref m18, .ref m19, .ref m20, .int 0, .ref m22, .ref m23, .ref m24, .ref m25, .ref m26, .ref m27, .int 0, .ref m29]))]) hD hS hA [0] rfl
    refine fr_call (va_runV (C := R_MO) (As := [.int 1]) (rest := []) ⟨hx, hb, hml, hown, ht⟩ (c_MO_refused_yes l dC dI s.heap.size Bd g0 m3 m5 m6 m7 m8 m9 m10 m11 m12 m13 m14 m15 m16 m17 m18 m19 m20 m22 m23 m24 m25 m26 m27 m29 0 0) (cwV 1 ht (gV tb_736 tb_738 ts_23 tb_5 tb_739) rfl rfl rfl (by decide +kernel) ⟨Nat.le_of_ble_eq_true rfl, Nat.le_of_ble_eq_true rfl⟩) ⟨frP_blind, va_recv (q := (R_MO, F_MO, 30)) hK hP rfl (show ([(g0, .inr (5, [.int 0, .int 0, .int (-1), .ref m3, .int 0, .ref m5, .ref m6, .ref m7, .ref m8, .ref m9, .ref m10, .ref m11, .ref m12, .ref m13, .ref m14, .ref m15, .ref m16, .ref m17, .ref m18, .ref m19, .ref m20, .int 0, .ref m22, .ref m23, .ref m24, .ref m25, .ref m26, .ref m27, .int 0, .ref m29]))] : va_W)[0]? = some (g0, .inr (5, [.int 0, .int 0, .int (-1), .ref m3, .int 0, .ref m5, .ref m6, .ref m7, .ref m8, .ref m9, .ref m10, .ref m11, .ref m12, .ref m13, .ref m14, .ref m15, .ref m16, .ref m17, .ref m18, .ref m19, .ref m20, .int 0, .ref m22, .ref m23, .ref m24, .ref m25, .ref m26, .ref m27, .int 0, .ref m29])) from rfl), fr_pre hPc hKc hDc hAB hBs hS hV⟩ rfl rfl hl.1 rfl (lv_room (Nat.le_of_ble_eq_true rfl)) d_MO_air_16 ⟨Nat.le_of_ble_eq_true rfl, Nat.le_of_ble_eq_true rfl⟩) hS (fun q _ h => hFc q h) hFc (fun t H1 locs ht1 hvm hB1 hz1 hk1 hS => ?_)
    obtain ⟨hP1, hK1, hD1⟩ := hB1
    rw [ht1] at hP1
    have hK1 := va_K.moved hvm.symm hK1
    obtain ⟨hP, hD⟩ := va_join (wr := []) (w1 := [(g0, .inr (5, [.int 1, .int 0, .int (-1), .ref m3, .int 0, .ref m5, .ref m6, .ref m7, .ref m8, .ref m9, .ref m10, .ref m11, .ref m12, .ref m13, .ref m14, .ref m15, .ref m16, .ref m17, .ref m18, .ref m19, .ref m20, .int 0, .ref m22, .ref m23, .ref m24, .ref m25, .ref m26, .ref m27, .int 0, .ref m29]))]) hP hD [0] [] rfl rfl (by decide) (by decide) hk1 hFc hP1 hD1
    have hK := hK.app hK1
    generalize H1 = H at hP hS ⊢
    have hP : va_P (dC, dI) cls_ [(g0, .inr (5, [.int 1, .int 0, .int (-1), .ref m3, .int 0, .ref m5, .ref m6, .ref m7, .ref m8, .ref m9, .ref m10, .ref m11, .ref m12, .ref m13, .ref m14, .ref m15, .ref m16, .ref m17, .ref m18, .ref m19, .ref m20, .int 0, .ref m22, .ref m23, .ref m24, .ref m25, .ref m26, .ref m27, .int 0, .ref m29]))] H := hP
    have hD : va_D A [(g0, .inr (5, [.int 1, .int 0, .int (-1), .ref m3, .int 0, .ref m5, .ref m6, .ref m7, .ref m8, .ref m9, .ref m10, .ref m11, .ref m12, .ref m13, .ref m14, .ref m15, .ref m16, .ref m17, .ref m18, .ref m19, .ref m20, .int 0, .ref m22, .ref m23, .ref m24, .ref m25, .ref m26, .ref m27, .int 0, .ref m29]))] := hD
    have hK : va_K (dC, dI) cls_ [] s := hK
    refine W.eq (g2 := F0 m 19 ls [.int 1]) rfl ?_
    refine W.cs (cells' := 0) (slots' := 0) rfl rfl ?_
    refine lv_if_ne (tgt := 29) hx hb d_MO_air_19 (by decide) (fun _ => ?_) (fun h9 => absurd h9 (by decide))
    have hP9 := hP.sub (ws' := [(g0, .inr (5, [.int 1, .int 0, .int (-1), .ref m3, .int 0, .ref m5, .ref m6, .ref m7, .ref m8, .ref m9, .ref m10, .ref m11, .ref m12, .ref m13, .ref m14, .ref m15, .ref m16, .ref m17, .ref m18, .ref m19, .ref m20, .int 0, .ref m22, .ref m23, .ref m24, .ref m25, .ref m26, .ref m27, .int 0, .ref m29]))]) [0] rfl
    have hD9 := hD.sub (ws' := [(g0, .inr (5, [.int 1, .int 0, .int (-1), .ref m3, .int 0, .ref m5, .ref m6, .ref m7, .ref m8, .ref m9, .ref m10, .ref m11, .ref m12, .ref m13, .ref m14, .ref m15, .ref m16, .ref m17, .ref m18, .ref m19, .ref m20, .int 0, .ref m22, .ref m23, .ref m24, .ref m25, .ref m26, .ref m27, .int 0, .ref m29]))]) [0] (by decide) rfl
    have hK9 := hK.sub (tys' := []) [] rfl
    exact W.vret hx hb hr (fun t ht9 hW => ⟨rfl, ⟨by rw [ht9]; exact hP9, va_K.moved hW.alike hK9, hD9⟩, hS.F ht9⟩) hS.2.2 d_MO_air_29
  · refine lv_iload_n hx hb d_MO_air_5 rfl (lv_at hl 1 rfl) ?_
    refine lv_bipush (v := 7) hx hb d_MO_air_6 (by decide) ?_
    refine lv_icmp_le (tgt := 15) hx hb d_MO_air_8 (by decide) (fun a2 => ?_) (fun a2 => ?_)
    · exact absurd ⟨Int32.not_lt.mp a1, a2⟩ h
    · refine lv_iconst (v := 1) hx hb d_MO_air_11 (by decide) ?_
      refine lv_goto (tgt := 16) hx hb d_MO_air_12 (by decide) ?_
      have hPc := hP.sub (ws' := [(g0, .inr (5, [.int 0, .int 0, .int (-1), .ref m3, .int 0, .ref m5, .ref m6, .ref m7, .ref m8, .ref m9, .ref m10, .ref m11, .ref m12, .ref m13, .ref m14, .ref m15, .ref m16, .ref m17, .ref m18, .ref m19, .ref m20, .int 0, .ref m22, .ref m23, .ref m24, .ref m25, .ref m26, .ref m27, .int 0, .ref m29]))]) [0] rfl
      have hKc := hK.sub (tys' := []) [] rfl
      have hDc := hD.sub (ws' := [(g0, .inr (5, [.int 0, .int 0, .int (-1), .ref m3, .int 0, .ref m5, .ref m6, .ref m7, .ref m8, .ref m9, .ref m10, .ref m11, .ref m12, .ref m13, .ref m14, .ref m15, .ref m16, .ref m17, .ref m18, .ref m19, .ref m20, .int 0, .ref m22, .ref m23, .ref m24, .ref m25, .ref m26, .ref m27, .int 0, .ref m29]))]) [0] (by decide) rfl
      have hFc := va_free (wc := [(g0, .inr (5, [.int 0, .int 0, .int (-1), .ref m3, .int 0, .ref m5, .ref m6, .ref m7, .ref m8, .ref m9, .ref m10, .ref m11, .ref m12, .ref m13, .ref m14, .ref m15, .ref m16, .ref m17, .ref m18, .ref m19, .ref m20, .int 0, .ref m22, .ref m23, .ref m24, .ref m25, .ref m26, .ref m27, .int 0, .ref m29]))]) hD hS hA [0] rfl
      refine fr_call (va_runV (C := R_MO) (As := [.int 1]) (rest := []) ⟨hx, hb, hml, hown, ht⟩ (c_MO_refused_yes l dC dI s.heap.size Bd g0 m3 m5 m6 m7 m8 m9 m10 m11 m12 m13 m14 m15 m16 m17 m18 m19 m20 m22 m23 m24 m25 m26 m27 m29 0 0) (cwV 1 ht (gV tb_736 tb_738 ts_23 tb_5 tb_739) rfl rfl rfl (by decide +kernel) ⟨Nat.le_of_ble_eq_true rfl, Nat.le_of_ble_eq_true rfl⟩) ⟨frP_blind, va_recv (q := (R_MO, F_MO, 30)) hK hP rfl (show ([(g0, .inr (5, [.int 0, .int 0, .int (-1), .ref m3, .int 0, .ref m5, .ref m6, .ref m7, .ref m8, .ref m9, .ref m10, .ref m11, .ref m12, .ref m13, .ref m14, .ref m15, .ref m16, .ref m17, .ref m18, .ref m19, .ref m20, .int 0, .ref m22, .ref m23, .ref m24, .ref m25, .ref m26, .ref m27, .int 0, .ref m29]))] : va_W)[0]? = some (g0, .inr (5, [.int 0, .int 0, .int (-1), .ref m3, .int 0, .ref m5, .ref m6, .ref m7, .ref m8, .ref m9, .ref m10, .ref m11, .ref m12, .ref m13, .ref m14, .ref m15, .ref m16, .ref m17, .ref m18, .ref m19, .ref m20, .int 0, .ref m22, .ref m23, .ref m24, .ref m25, .ref m26, .ref m27, .int 0, .ref m29])) from rfl), fr_pre hPc hKc hDc hAB hBs hS hV⟩ rfl rfl hl.1 rfl (lv_room (Nat.le_of_ble_eq_true rfl)) d_MO_air_16 ⟨Nat.le_of_ble_eq_true rfl, Nat.le_of_ble_eq_true rfl⟩) hS (fun q _ h => hFc q h) hFc (fun t H1 locs ht1 hvm hB1 hz1 hk1 hS => ?_)
      obtain ⟨hP1, hK1, hD1⟩ := hB1
      rw [ht1] at hP1
      have hK1 := va_K.moved hvm.symm hK1
      obtain ⟨hP, hD⟩ := va_join (wr := []) (w1 := [(g0, .inr (5, [.int 1, .int 0, .int (-1), .ref m3, .int 0, .ref m5, .ref m6, .ref m7, .ref m8, .ref m9, .ref m10, .ref m11, .ref m12, .ref m13, .ref m14, .ref m15, .ref m16, .ref m17, .ref m18, .ref m19, .ref m20, .int 0, .ref m22, .ref m23, .ref m24, .ref m25, .ref m26, .ref m27, .int 0, .ref m29]))]) hP hD [0] [] rfl rfl (by decide) (by decide) hk1 hFc hP1 hD1
      have hK := hK.app hK1
      generalize H1 = H at hP hS ⊢
      have hP : va_P (dC, dI) cls_ [(g0, .inr (5, [.int 1, .int 0, .int (-1), .ref m3, .int 0, .ref m5, .ref m6, .ref m7, .ref m8, .ref m9, .ref m10, .ref m11, .ref m12, .ref m13, .ref m14, .ref m15, .ref m16, .ref m17, .ref m18, .ref m19, .ref m20, .int 0, .ref m22, .ref m23, .ref m24, .ref m25, .ref m26, .ref m27, .int 0, .ref m29]))] H := hP
      have hD : va_D A [(g0, .inr (5, [.int 1, .int 0, .int (-1), .ref m3, .int 0, .ref m5, .ref m6, .ref m7, .ref m8, .ref m9, .ref m10, .ref m11, .ref m12, .ref m13, .ref m14, .ref m15, .ref m16, .ref m17, .ref m18, .ref m19, .ref m20, .int 0, .ref m22, .ref m23, .ref m24, .ref m25, .ref m26, .ref m27, .int 0, .ref m29]))] := hD
      have hK : va_K (dC, dI) cls_ [] s := hK
      refine W.eq (g2 := F0 m 19 ls [.int 1]) rfl ?_
      refine W.cs (cells' := 0) (slots' := 0) rfl rfl ?_
      refine lv_if_ne (tgt := 29) hx hb d_MO_air_19 (by decide) (fun _ => ?_) (fun h9 => absurd h9 (by decide))
      have hP9 := hP.sub (ws' := [(g0, .inr (5, [.int 1, .int 0, .int (-1), .ref m3, .int 0, .ref m5, .ref m6, .ref m7, .ref m8, .ref m9, .ref m10, .ref m11, .ref m12, .ref m13, .ref m14, .ref m15, .ref m16, .ref m17, .ref m18, .ref m19, .ref m20, .int 0, .ref m22, .ref m23, .ref m24, .ref m25, .ref m26, .ref m27, .int 0, .ref m29]))]) [0] rfl
      have hD9 := hD.sub (ws' := [(g0, .inr (5, [.int 1, .int 0, .int (-1), .ref m3, .int 0, .ref m5, .ref m6, .ref m7, .ref m8, .ref m9, .ref m10, .ref m11, .ref m12, .ref m13, .ref m14, .ref m15, .ref m16, .ref m17, .ref m18, .ref m19, .ref m20, .int 0, .ref m22, .ref m23, .ref m24, .ref m25, .ref m26, .ref m27, .int 0, .ref m29]))]) [0] (by decide) rfl
      have hK9 := hK.sub (tys' := []) [] rfl
      exact W.vret hx hb hr (fun t ht9 hW => ⟨rfl, ⟨by rw [ht9]; exact hP9, va_K.moved hW.alike hK9, hD9⟩, hS.F ht9⟩) hS.2.2 d_MO_air_29
set_option maxHeartbeats 4000000 in
set_option maxRecDepth 100000 in
theorem c_MO_watch_ok (l : Launch) (dC : Nat → ClassId) (dI : Nat → Nat → Nat) (sz Bd : Nat) (g0 m3 m5 m6 m7 m8 m9 m10 m11 m12 m13 m14 m15 m16 m17 m18 m19 m20 m22 m23 m24 m25 m26 m27 m29 : Nat) (x : Int32) (h : -1 ≤ x ∧ x ≤ 7) : Met l y_MO_watch w_MO_watch ({ frames := 1, cells := 0, slots := 0, locals := 21 }) (frP (dC, dI) [(g0, .inr (5, [.int 0, .int 0, .int (-1), .ref m3, .int 0, .ref m5, .ref m6, .ref m7, .ref m8, .ref m9, .ref m10, .ref m11, .ref m12, .ref m13, .ref m14, .ref m15, .ref m16, .ref m17, .ref m18, .ref m19, .ref m20, .int 0, .ref m22, .ref m23, .ref m24, .ref m25, .ref m26, .ref m27, .int 0, .ref m29]))] [] sz Bd [.ref g0, .int x]) (frQ (some (.int (-1))) (fun t => va_P (dC, dI) cls_ [(g0, .inr (5, [.int 0, .int 0, .int x, .ref m3, .int 0, .ref m5, .ref m6, .ref m7, .ref m8, .ref m9, .ref m10, .ref m11, .ref m12, .ref m13, .ref m14, .ref m15, .ref m16, .ref m17, .ref m18, .ref m19, .ref m20, .int 0, .ref m22, .ref m23, .ref m24, .ref m25, .ref m26, .ref m27, .int 0, .ref m29]))] t.heap ∧ va_K (dC, dI) cls_ [] t ∧ va_D (va_A [(g0, .inr (5, [.int 0, .int 0, .int (-1), .ref m3, .int 0, .ref m5, .ref m6, .ref m7, .ref m8, .ref m9, .ref m10, .ref m11, .ref m12, .ref m13, .ref m14, .ref m15, .ref m16, .ref m17, .ref m18, .ref m19, .ref m20, .int 0, .ref m22, .ref m23, .ref m24, .ref m25, .ref m26, .ref m27, .int 0, .ref m29]))] sz) [(g0, .inr (5, [.int 0, .int 0, .int x, .ref m3, .int 0, .ref m5, .ref m6, .ref m7, .ref m8, .ref m9, .ref m10, .ref m11, .ref m12, .ref m13, .ref m14, .ref m15, .ref m16, .ref m17, .ref m18, .ref m19, .ref m20, .int 0, .ref m22, .ref m23, .ref m24, .ref m25, .ref m26, .ref m27, .int 0, .ref m29]))]) (va_A [(g0, .inr (5, [.int 0, .int 0, .int (-1), .ref m3, .int 0, .ref m5, .ref m6, .ref m7, .ref m8, .ref m9, .ref m10, .ref m11, .ref m12, .ref m13, .ref m14, .ref m15, .ref m16, .ref m17, .ref m18, .ref m19, .ref m20, .int 0, .ref m22, .ref m23, .ref m24, .ref m25, .ref m26, .ref m27, .int 0, .ref m29]))] sz)) 0 0 (va_A [(g0, .inr (5, [.int 0, .int 0, .int (-1), .ref m3, .int 0, .ref m5, .ref m6, .ref m7, .ref m8, .ref m9, .ref m10, .ref m11, .ref m12, .ref m13, .ref m14, .ref m15, .ref m16, .ref m17, .ref m18, .ref m19, .ref m20, .int 0, .ref m22, .ref m23, .ref m24, .ref m25, .ref m26, .ref m27, .int 0, .ref m29]))] sz) := by
  refine Met.ofW (cc := c_MO_watch) (maxL := 3) (ret := (some .int)) (by decide) rfl ?_
  intro p e s m args below meth c s₁ B hml hv
  obtain ⟨rfl, ⟨hsz, hBs⟩, hP, hK, hD0, hV⟩ := hv
  have hx := B.exec
  have hb := B.bytes
  have hr := B.returns
  have ht : ∀ w ∈ tb_, w.before _ s = true := fun w h => atoms_spec (ws := w_MO_watch) B.pre w (List.mem_cons_of_mem _ h)
  have hown : s.vm.findClass R_MO = some m.cls := findClass_of_methodNamed B.named
  have hlocks := B.notSynchronized
  subst hsz
  have hD := hD0.self (sz := s.heap.size)
  have hAB : ∀ q, va_A [(g0, .inr (5, [.int 0, .int 0, .int (-1), .ref m3, .int 0, .ref m5, .ref m6, .ref m7, .ref m8, .ref m9, .ref m10, .ref m11, .ref m12, .ref m13, .ref m14, .ref m15, .ref m16, .ref m17, .ref m18, .ref m19, .ref m20, .int 0, .ref m22, .ref m23, .ref m24, .ref m25, .ref m26, .ref m27, .int 0, .ref m29]))] s.heap.size q → Bd ≤ q := fr_AB hD0 hBs
  generalize hAe : va_A [(g0, .inr (5, [.int 0, .int 0, .int (-1), .ref m3, .int 0, .ref m5, .ref m6, .ref m7, .ref m8, .ref m9, .ref m10, .ref m11, .ref m12, .ref m13, .ref m14, .ref m15, .ref m16, .ref m17, .ref m18, .ref m19, .ref m20, .int 0, .ref m22, .ref m23, .ref m24, .ref m25, .ref m26, .ref m27, .int 0, .ref m29]))] s.heap.size = A at hD hAB ⊢
  have hA : ∀ q : Nat, s.heap.size ≤ q → A q := fun q h => by rw [← hAe]; exact Or.inr h
  have hS : va_S A s.heap s.heap [] := va_S.rf
  have hAO := hV.2.2.2.1
  have hN_PL := hV.2.2.1.1
  have hN_RW := hV.2.2.1.2
  have hP : va_P (dC, dI) cls_ [(g0, .inr (5, [.int 0, .int 0, .int (-1), .ref m3, .int 0, .ref m5, .ref m6, .ref m7, .ref m8, .ref m9, .ref m10, .ref m11, .ref m12, .ref m13, .ref m14, .ref m15, .ref m16, .ref m17, .ref m18, .ref m19, .ref m20, .int 0, .ref m22, .ref m23, .ref m24, .ref m25, .ref m26, .ref m27, .int 0, .ref m29]))] s.heap := hP
  have hl := lv_entry ([.ref g0, .int x]) (n := 3) (Nat.le_of_ble_eq_true rfl)
  rw [lg_entry_eq]
  generalize (lg_sl ([.ref g0, .int x]) ++ List.replicate (3 - (lg_sl ([.ref g0, .int x])).length) Slot.unset).toArray = ls at hl ⊢
  have hl : lv_has ls 3 [(0, .ref g0), (1, .int x)] := hl
  refine lv_aload_n hx hb d_MO_watch_0 rfl (lv_at hl 0 rfl) ?_
  refine lv_iload_n hx hb d_MO_watch_1 rfl (lv_at hl 1 rfl) ?_
  refine lv_iconst (v := -1) hx hb d_MO_watch_2 (by decide) ?_
  refine lv_icmp_lt (tgt := 12) hx hb d_MO_watch_3 (by decide) (fun h9 => absurd h9 (Int32.not_lt.mpr h.1)) (fun _ => ?_)
  refine lv_iload_n hx hb d_MO_watch_6 rfl (lv_at hl 1 rfl) ?_
  refine lv_bipush (v := 7) hx hb d_MO_watch_7 (by decide) ?_
  refine lv_icmp_le (tgt := 16) hx hb d_MO_watch_9 (by decide) (fun _ => ?_) (fun h9 => absurd (h.2) h9)
  refine lv_iconst (v := 0) hx hb d_MO_watch_16 (by decide) ?_
  have hPc := hP.sub (ws' := [(g0, .inr (5, [.int 0, .int 0, .int (-1), .ref m3, .int 0, .ref m5, .ref m6, .ref m7, .ref m8, .ref m9, .ref m10, .ref m11, .ref m12, .ref m13, .ref m14, .ref m15, .ref m16, .ref m17, .ref m18, .ref m19, .ref m20, .int 0, .ref m22, .ref m23, .ref m24, .ref m25, .ref m26, .ref m27, .int 0, .ref m29]))]) [0] rfl
  have hKc := hK.sub (tys' := []) [] rfl
  have hDc := hD.sub (ws' := [(g0, .inr (5, [.int 0, .int 0, .int (-1), .ref m3, .int 0, .ref m5, .ref m6, .ref m7, .ref m8, .ref m9, .ref m10, .ref m11, .ref m12, .ref m13, .ref m14, .ref m15, .ref m16, .ref m17, .ref m18, .ref m19, .ref m20, .int 0, .ref m22, .ref m23, .ref m24, .ref m25, .ref m26, .ref m27, .int 0, .ref m29]))]) [0] (by decide) rfl
  have hFc := va_free (wc := [(g0, .inr (5, [.int 0, .int 0, .int (-1), .ref m3, .int 0, .ref m5, .ref m6, .ref m7, .ref m8, .ref m9, .ref m10, .ref m11, .ref m12, .ref m13, .ref m14, .ref m15, .ref m16, .ref m17, .ref m18, .ref m19, .ref m20, .int 0, .ref m22, .ref m23, .ref m24, .ref m25, .ref m26, .ref m27, .int 0, .ref m29]))]) hD hS hA [0] rfl
  refine fr_call (va_runV (C := R_MO) (As := [.int 0]) (rest := []) ⟨hx, hb, hml, hown, ht⟩ (c_MO_refused_no l dC dI s.heap.size Bd g0 m3 m5 m6 m7 m8 m9 m10 m11 m12 m13 m14 m15 m16 m17 m18 m19 m20 m22 m23 m24 m25 m26 m27 m29 0 0) (cwV 1 ht (gV tb_736 tb_738 ts_23 tb_5 tb_739) rfl rfl rfl (by decide +kernel) ⟨Nat.le_of_ble_eq_true rfl, Nat.le_of_ble_eq_true rfl⟩) ⟨frP_blind, va_recv (q := (R_MO, F_MO, 30)) hK hP rfl (show ([(g0, .inr (5, [.int 0, .int 0, .int (-1), .ref m3, .int 0, .ref m5, .ref m6, .ref m7, .ref m8, .ref m9, .ref m10, .ref m11, .ref m12, .ref m13, .ref m14, .ref m15, .ref m16, .ref m17, .ref m18, .ref m19, .ref m20, .int 0, .ref m22, .ref m23, .ref m24, .ref m25, .ref m26, .ref m27, .int 0, .ref m29]))] : va_W)[0]? = some (g0, .inr (5, [.int 0, .int 0, .int (-1), .ref m3, .int 0, .ref m5, .ref m6, .ref m7, .ref m8, .ref m9, .ref m10, .ref m11, .ref m12, .ref m13, .ref m14, .ref m15, .ref m16, .ref m17, .ref m18, .ref m19, .ref m20, .int 0, .ref m22, .ref m23, .ref m24, .ref m25, .ref m26, .ref m27, .int 0, .ref m29])) from rfl), fr_pre hPc hKc hDc hAB hBs hS hV⟩ rfl rfl hl.1 rfl (lv_room (Nat.le_of_ble_eq_true rfl)) d_MO_watch_17 ⟨Nat.le_of_ble_eq_true rfl, Nat.le_of_ble_eq_true rfl⟩) hS (fun q _ h => hFc q h) hFc (fun t H1 locs ht1 hvm hB1 hz1 hk1 hS => ?_)
  obtain ⟨hP1, hK1, hD1⟩ := hB1
  rw [ht1] at hP1
  have hK1 := va_K.moved hvm.symm hK1
  obtain ⟨hP, hD⟩ := va_join (wr := []) (w1 := [(g0, .inr (5, [.int 0, .int 0, .int (-1), .ref m3, .int 0, .ref m5, .ref m6, .ref m7, .ref m8, .ref m9, .ref m10, .ref m11, .ref m12, .ref m13, .ref m14, .ref m15, .ref m16, .ref m17, .ref m18, .ref m19, .ref m20, .int 0, .ref m22, .ref m23, .ref m24, .ref m25, .ref m26, .ref m27, .int 0, .ref m29]))]) hP hD [0] [] rfl rfl (by decide) (by decide) hk1 hFc hP1 hD1
  have hK := hK.app hK1
  generalize H1 = H at hP hS ⊢
  have hP : va_P (dC, dI) cls_ [(g0, .inr (5, [.int 0, .int 0, .int (-1), .ref m3, .int 0, .ref m5, .ref m6, .ref m7, .ref m8, .ref m9, .ref m10, .ref m11, .ref m12, .ref m13, .ref m14, .ref m15, .ref m16, .ref m17, .ref m18, .ref m19, .ref m20, .int 0, .ref m22, .ref m23, .ref m24, .ref m25, .ref m26, .ref m27, .int 0, .ref m29]))] H := hP
  have hD : va_D A [(g0, .inr (5, [.int 0, .int 0, .int (-1), .ref m3, .int 0, .ref m5, .ref m6, .ref m7, .ref m8, .ref m9, .ref m10, .ref m11, .ref m12, .ref m13, .ref m14, .ref m15, .ref m16, .ref m17, .ref m18, .ref m19, .ref m20, .int 0, .ref m22, .ref m23, .ref m24, .ref m25, .ref m26, .ref m27, .int 0, .ref m29]))] := hD
  have hK : va_K (dC, dI) cls_ [] s := hK
  refine W.eq (g2 := F0 m 20 ls [.int 0]) rfl ?_
  refine W.cs (cells' := 0) (slots' := 0) rfl rfl ?_
  refine lv_if_eq (tgt := 25) hx hb d_MO_watch_20 (by decide) (fun _ => ?_) (fun h9 => absurd (rfl) h9)
  refine lv_aload_n hx hb d_MO_watch_25 rfl (lv_at hl 0 rfl) ?_
  refine va_get (D := (dC, dI)) (ci := 5) (v := .int (-1)) (C := R_MO) (T := F_MO) (N := 30) hx hb ht in_MO hown hK hP 0 rfl rfl 2 (by decide) (ht _ tb_633) (fun _ h9 => h9) rfl d_MO_watch_26 ?_
  refine lv_istore_n hx hb d_MO_watch_29 rfl hl (by decide) rfl (fun ls hl => ?_)
  have hl : lv_has ls 3 [(2, .int (-1)), (0, .ref g0), (1, .int x)] := hl
  refine lv_aload_n hx hb d_MO_watch_30 rfl (lv_at hl 1 rfl) ?_
  refine lv_iload_n hx hb d_MO_watch_31 rfl (lv_at hl 2 rfl) ?_
  refine va_put (D := (dC, dI)) (ci := 5) (v := .int x) (ty := .int) (C := R_MO) (T := F_MO) (N := 30) hx hb ht in_MO t_MO t_MO_ok n_MO hown hK hP hD hS 0 rfl rfl 2 (by decide) (ht _ tb_633) (fun _ h9 => h9) rfl (by decide +kernel) rfl rfl (Nat.le_of_ble_eq_true rfl) d_MO_watch_32 (fun H locs hP hD hS => ?_)
  have hP : va_P (dC, dI) cls_ [(g0, .inr (5, [.int 0, .int 0, .int x, .ref m3, .int 0, .ref m5, .ref m6, .ref m7, .ref m8, .ref m9, .ref m10, .ref m11, .ref m12, .ref m13, .ref m14, .ref m15, .ref m16, .ref m17, .ref m18, .ref m19, .ref m20, .int 0, .ref m22, .ref m23, .ref m24, .ref m25, .ref m26, .ref m27, .int 0, .ref m29]))] H := hP
  have hD : va_D A [(g0, .inr (5, [.int 0, .int 0, .int x, .ref m3, .int 0, .ref m5, .ref m6, .ref m7, .ref m8, .ref m9, .ref m10, .ref m11, .ref m12, .ref m13, .ref m14, .ref m15, .ref m16, .ref m17, .ref m18, .ref m19, .ref m20, .int 0, .ref m22, .ref m23, .ref m24, .ref m25, .ref m26, .ref m27, .int 0, .ref m29]))] := hD
  refine lv_aload_n hx hb d_MO_watch_35 rfl (lv_at hl 1 rfl) ?_
  refine lv_iconst (v := 0) hx hb d_MO_watch_36 (by decide) ?_
  refine va_put (D := (dC, dI)) (ci := 5) (v := .int 0) (ty := .int) (C := R_MO) (T := F_MO) (N := 30) hx hb ht in_MO t_MO t_MO_ok n_MO hown hK hP hD hS 0 rfl rfl 28 (by decide) (ht _ tb_659) (fun _ h9 => h9) rfl (by decide +kernel) rfl rfl (Nat.le_of_ble_eq_true rfl) d_MO_watch_37 (fun H locs hP hD hS => ?_)
  have hP : va_P (dC, dI) cls_ [(g0, .inr (5, [.int 0, .int 0, .int x, .ref m3, .int 0, .ref m5, .ref m6, .ref m7, .ref m8, .ref m9, .ref m10, .ref m11, .ref m12, .ref m13, .ref m14, .ref m15, .ref m16, .ref m17, .ref m18, .ref m19, .ref m20, .int 0, .ref m22, .ref m23, .ref m24, .ref m25, .ref m26, .ref m27, .int 0, .ref m29]))] H := hP
  have hD : va_D A [(g0, .inr (5, [.int 0, .int 0, .int x, .ref m3, .int 0, .ref m5, .ref m6, .ref m7, .ref m8, .ref m9, .ref m10, .ref m11, .ref m12, .ref m13, .ref m14, .ref m15, .ref m16, .ref m17, .ref m18, .ref m19, .ref m20, .int 0, .ref m22, .ref m23, .ref m24, .ref m25, .ref m26, .ref m27, .int 0, .ref m29]))] := hD
  refine lv_iload_n hx hb d_MO_watch_40 rfl (lv_at hl 0 rfl) ?_
  have hP9 := hP.sub (ws' := [(g0, .inr (5, [.int 0, .int 0, .int x, .ref m3, .int 0, .ref m5, .ref m6, .ref m7, .ref m8, .ref m9, .ref m10, .ref m11, .ref m12, .ref m13, .ref m14, .ref m15, .ref m16, .ref m17, .ref m18, .ref m19, .ref m20, .int 0, .ref m22, .ref m23, .ref m24, .ref m25, .ref m26, .ref m27, .int 0, .ref m29]))]) [0] rfl
  have hD9 := hD.sub (ws' := [(g0, .inr (5, [.int 0, .int 0, .int x, .ref m3, .int 0, .ref m5, .ref m6, .ref m7, .ref m8, .ref m9, .ref m10, .ref m11, .ref m12, .ref m13, .ref m14, .ref m15, .ref m16, .ref m17, .ref m18, .ref m19, .ref m20, .int 0, .ref m22, .ref m23, .ref m24, .ref m25, .ref m26, .ref m27, .int 0, .ref m29]))]) [0] (by decide) rfl
  have hK9 := hK.sub (tys' := []) [] rfl
  exact W.iret (v := -1) hx hb hr (fun t ht9 hW => ⟨rfl, ⟨by rw [ht9]; exact hP9, va_K.moved hW.alike hK9, hD9⟩, hS.F ht9⟩) hS.2.2 d_MO_watch_41
set_option maxHeartbeats 4000000 in
set_option maxRecDepth 100000 in
theorem c_MO_watch_bad (l : Launch) (dC : Nat → ClassId) (dI : Nat → Nat → Nat) (sz Bd : Nat) (g0 m3 m5 m6 m7 m8 m9 m10 m11 m12 m13 m14 m15 m16 m17 m18 m19 m20 m22 m23 m24 m25 m26 m27 m29 : Nat) (x : Int32) (h : ¬ (-1 ≤ x ∧ x ≤ 7)) : Met l y_MO_watch w_MO_watch ({ frames := 1, cells := 0, slots := 0, locals := 21 }) (frP (dC, dI) [(g0, .inr (5, [.int 0, .int 0, .int (-1), .ref m3, .int 0, .ref m5, .ref m6, .ref m7, .ref m8, .ref m9, .ref m10, .ref m11, .ref m12, .ref m13, .ref m14, .ref m15, .ref m16, .ref m17, .ref m18, .ref m19, .ref m20, .int 0, .ref m22, .ref m23, .ref m24, .ref m25, .ref m26, .ref m27, .int 0, .ref m29]))] [] sz Bd [.ref g0, .int x]) (frQ (some (.int 0)) (fun t => va_P (dC, dI) cls_ [(g0, .inr (5, [.int 1, .int 0, .int (-1), .ref m3, .int 0, .ref m5, .ref m6, .ref m7, .ref m8, .ref m9, .ref m10, .ref m11, .ref m12, .ref m13, .ref m14, .ref m15, .ref m16, .ref m17, .ref m18, .ref m19, .ref m20, .int 0, .ref m22, .ref m23, .ref m24, .ref m25, .ref m26, .ref m27, .int 0, .ref m29]))] t.heap ∧ va_K (dC, dI) cls_ [] t ∧ va_D (va_A [(g0, .inr (5, [.int 0, .int 0, .int (-1), .ref m3, .int 0, .ref m5, .ref m6, .ref m7, .ref m8, .ref m9, .ref m10, .ref m11, .ref m12, .ref m13, .ref m14, .ref m15, .ref m16, .ref m17, .ref m18, .ref m19, .ref m20, .int 0, .ref m22, .ref m23, .ref m24, .ref m25, .ref m26, .ref m27, .int 0, .ref m29]))] sz) [(g0, .inr (5, [.int 1, .int 0, .int (-1), .ref m3, .int 0, .ref m5, .ref m6, .ref m7, .ref m8, .ref m9, .ref m10, .ref m11, .ref m12, .ref m13, .ref m14, .ref m15, .ref m16, .ref m17, .ref m18, .ref m19, .ref m20, .int 0, .ref m22, .ref m23, .ref m24, .ref m25, .ref m26, .ref m27, .int 0, .ref m29]))]) (va_A [(g0, .inr (5, [.int 0, .int 0, .int (-1), .ref m3, .int 0, .ref m5, .ref m6, .ref m7, .ref m8, .ref m9, .ref m10, .ref m11, .ref m12, .ref m13, .ref m14, .ref m15, .ref m16, .ref m17, .ref m18, .ref m19, .ref m20, .int 0, .ref m22, .ref m23, .ref m24, .ref m25, .ref m26, .ref m27, .int 0, .ref m29]))] sz)) 0 0 (va_A [(g0, .inr (5, [.int 0, .int 0, .int (-1), .ref m3, .int 0, .ref m5, .ref m6, .ref m7, .ref m8, .ref m9, .ref m10, .ref m11, .ref m12, .ref m13, .ref m14, .ref m15, .ref m16, .ref m17, .ref m18, .ref m19, .ref m20, .int 0, .ref m22, .ref m23, .ref m24, .ref m25, .ref m26, .ref m27, .int 0, .ref m29]))] sz) := by
  refine Met.ofW (cc := c_MO_watch) (maxL := 3) (ret := (some .int)) (by decide) rfl ?_
  intro p e s m args below meth c s₁ B hml hv
  obtain ⟨rfl, ⟨hsz, hBs⟩, hP, hK, hD0, hV⟩ := hv
  have hx := B.exec
  have hb := B.bytes
  have hr := B.returns
  have ht : ∀ w ∈ tb_, w.before _ s = true := fun w h => atoms_spec (ws := w_MO_watch) B.pre w (List.mem_cons_of_mem _ h)
  have hown : s.vm.findClass R_MO = some m.cls := findClass_of_methodNamed B.named
  have hlocks := B.notSynchronized
  subst hsz
  have hD := hD0.self (sz := s.heap.size)
  have hAB : ∀ q, va_A [(g0, .inr (5, [.int 0, .int 0, .int (-1), .ref m3, .int 0, .ref m5, .ref m6, .ref m7, .ref m8, .ref m9, .ref m10, .ref m11, .ref m12, .ref m13, .ref m14, .ref m15, .ref m16, .ref m17, .ref m18, .ref m19, .ref m20, .int 0, .ref m22, .ref m23, .ref m24, .ref m25, .ref m26, .ref m27, .int 0, .ref m29]))] s.heap.size q → Bd ≤ q := fr_AB hD0 hBs
  generalize hAe : va_A [(g0, .inr (5, [.int 0, .int 0, .int (-1), .ref m3, .int 0, .ref m5, .ref m6, .ref m7, .ref m8, .ref m9, .ref m10, .ref m11, .ref m12, .ref m13, .ref m14, .ref m15, .ref m16, .ref m17, .ref m18, .ref m19, .ref m20, .int 0, .ref m22, .ref m23, .ref m24, .ref m25, .ref m26, .ref m27, .int 0, .ref m29]))] s.heap.size = A at hD hAB ⊢
  have hA : ∀ q : Nat, s.heap.size ≤ q → A q := fun q h => by rw [← hAe]; exact Or.inr h
  have hS : va_S A s.heap s.heap [] := va_S.rf
  have hAO := hV.2.2.2.1
  have hN_PL := hV.2.2.1.1
  have hN_RW := hV.2.2.1.2
  have hP : va_P (dC, dI) cls_ [(g0, .inr (5, [.int 0, .int 0, .int (-1), .ref m3, .int 0, .ref m5, .ref m6, .ref m7, .ref m8, .ref m9, .ref m10, .ref m11, .ref m12, .ref m13, .ref m14, .ref m15, .ref m16, .ref m17, .ref m18, .ref m19, .ref m20, .int 0, .ref m22, .ref m23, .ref m24, .ref m25, .ref m26, .ref m27, .int 0, .ref m29]))] s.heap := hP
  have hl := lv_entry ([.ref g0, .int x]) (n := 3) (Nat.le_of_ble_eq_true rfl)
  rw [lg_entry_eq]
  generalize (lg_sl ([.ref g0, .int x]) ++ List.replicate (3 - (lg_sl ([.ref g0, .int x])).length) Slot.unset).toArray = ls at hl ⊢
  have hl : lv_has ls 3 [(0, .ref g0), (1, .int x)] := hl
  refine lv_aload_n hx hb d_MO_watch_0 rfl (lv_at hl 0 rfl) ?_
  refine lv_iload_n hx hb d_MO_watch_1 rfl (lv_at hl 1 rfl) ?_
  refine lv_iconst (v := -1) hx hb d_MO_watch_2 (by decide) ?_
  refine lv_icmp_lt (tgt := 12) hx hb d_MO_watch_3 (by decide) (fun a1 => ?_) (fun a1 => ?_)
  · refine lv_iconst (v := 1) hx hb d_MO_watch_12 (by decide) ?_
    refine lv_goto (tgt := 17) hx hb d_MO_watch_13 (by decide) ?_
    have hPc := hP.sub (ws' := [(g0, .inr (5, [.int 0, .int 0, .int (-1), .ref m3, .int 0, .ref m5, .ref m6, .ref m7, .ref m8, .ref m9, .ref m10, .ref m11, .ref m12, .ref m13, .ref m14, .ref m15, .ref m16, .ref m17, .ref m18, .ref m19, .ref m20, .int 0, .ref m22, .ref m23, .ref m24, .ref m25, .ref m26, .ref m27, .int 0, .ref m29]))]) [0] rfl
    have hKc := hK.sub (tys' := []) [] rfl
    have hDc := hD.sub (ws' := [(g0, .inr (5, [.int 0, .int 0, .int (-1), .ref m3, .int 0, .ref m5, .ref m6, .ref m7, .ref m8, .ref m9, .ref m10, .ref m11, .ref m12, .ref m13, .ref m14, .ref m15, .ref m16, .ref m17, .ref m18, .ref m19, .ref m20, .int 0, .ref m22, .ref m23, .ref m24, .ref m25, .ref m26, .ref m27, .int 0, .ref m29]))]) [0] (by decide) rfl
    have hFc := va_free (wc := [(g0, .inr (5, [.int 0, .int 0, .int (-1), .ref m3, .int 0, .ref m5, .ref m6, .ref m7, .ref m8, .ref m9, .ref m10, .ref m11, .ref m12, .ref m13, .ref m14, .ref m15, .ref m16, .ref m17, .ref m18, .ref m19, .ref m20, .int 0, .ref m22, .ref m23, .ref m24, .ref m25, .ref m26, .ref m27, .int 0, .ref m29]))]) hD hS hA [0] rfl
    refine fr_call (va_runV (C := R_MO) (As := [.int 1]) (rest := []) ⟨hx, hb, hml, hown, ht⟩ (c_MO_refused_yes l dC dI s.heap.size Bd g0 m3 m5 m6 m7 m8 m9 m10 m11 m12 m13 m14 m15 m16 m17 m18 m19 m20 m22 m23 m24 m25 m26 m27 m29 0 0) (cwV 1 ht (gV tb_736 tb_738 ts_23 tb_5 tb_739) rfl rfl rfl (by decide +kernel) ⟨Nat.le_of_ble_eq_true rfl, Nat.le_of_ble_eq_true rfl⟩) ⟨frP_blind, va_recv (q := (R_MO, F_MO, 30)) hK hP rfl (show ([(g0, .inr (5, [.int 0, .int 0, .int (-1), .ref m3, .int 0, .ref m5, .ref m6, .ref m7, .ref m8, .ref m9, .ref m10, .ref m11, .ref m12, .ref m13, .ref m14, .ref m15, .ref m16, .ref m17, .ref m18, .ref m19, .ref m20, .int 0, .ref m22, .ref m23, .ref m24, .ref m25, .ref m26, .ref m27, .int 0, .ref m29]))] : va_W)[0]? = some (g0, .inr (5, [.int 0, .int 0, .int (-1), .ref m3, .int 0, .ref m5, .ref m6, .ref m7, .ref m8, .ref m9, .ref m10, .ref m11, .ref m12, .ref m13, .ref m14, .ref m15, .ref m16, .ref m17, .ref m18, .ref m19, .ref m20, .int 0, .ref m22, .ref m23, .ref m24, .ref m25, .ref m26, .ref m27, .int 0, .ref m29])) from rfl), fr_pre hPc hKc hDc hAB hBs hS hV⟩ rfl rfl hl.1 rfl (lv_room (Nat.le_of_ble_eq_true rfl)) d_MO_watch_17 ⟨Nat.le_of_ble_eq_true rfl, Nat.le_of_ble_eq_true rfl⟩) hS (fun q _ h => hFc q h) hFc (fun t H1 locs ht1 hvm hB1 hz1 hk1 hS => ?_)
    obtain ⟨hP1, hK1, hD1⟩ := hB1
    rw [ht1] at hP1
    have hK1 := va_K.moved hvm.symm hK1
    obtain ⟨hP, hD⟩ := va_join (wr := []) (w1 := [(g0, .inr (5, [.int 1, .int 0, .int (-1), .ref m3, .int 0, .ref m5, .ref m6, .ref m7, .ref m8, .ref m9, .ref m10, .ref m11, .ref m12, .ref m13, .ref m14, .ref m15, .ref m16, .ref m17, .ref m18, .ref m19, .ref m20, .int 0, .ref m22, .ref m23, .ref m24, .ref m25, .ref m26, .ref m27, .int 0, .ref m29]))]) hP hD [0] [] rfl rfl (by decide) (by decide) hk1 hFc hP1 hD1
    have hK := hK.app hK1
    generalize H1 = H at hP hS ⊢
    have hP : va_P (dC, dI) cls_ [(g0, .inr (5, [.int 1, .int 0, .int (-1), .ref m3, .int 0, .ref m5, .ref m6, .ref m7, .ref m8, .ref m9, .ref m10, .ref m11, .ref m12, .ref m13, .ref m14, .ref m15, .ref m16, .ref m17, .ref m18, .ref m19, .ref m20, .int 0, .ref m22, .ref m23, .ref m24, .ref m25, .ref m26, .ref m27, .int 0, .ref m29]))] H := hP
    have hD : va_D A [(g0, .inr (5, [.int 1, .int 0, .int (-1), .ref m3, .int 0, .ref m5, .ref m6, .ref m7, .ref m8, .ref m9, .ref m10, .ref m11, .ref m12, .ref m13, .ref m14, .ref m15, .ref m16, .ref m17, .ref m18, .ref m19, .ref m20, .int 0, .ref m22, .ref m23, .ref m24, .ref m25, .ref m26, .ref m27, .int 0, .ref m29]))] := hD
    have hK : va_K (dC, dI) cls_ [] s := hK
    refine W.eq (g2 := F0 m 20 ls [.int 1]) rfl ?_
    refine W.cs (cells' := 0) (slots' := 0) rfl rfl ?_
    refine lv_if_eq (tgt := 25) hx hb d_MO_watch_20 (by decide) (fun h9 => absurd h9 (by decide)) (fun _ => ?_)
    refine lv_iconst (v := 0) hx hb d_MO_watch_23 (by decide) ?_
    have hP9 := hP.sub (ws' := [(g0, .inr (5, [.int 1, .int 0, .int (-1), .ref m3, .int 0, .ref m5, .ref m6, .ref m7, .ref m8, .ref m9, .ref m10, .ref m11, .ref m12, .ref m13, .ref m14, .ref m15, .ref m16, .ref m17, .ref m18, .ref m19, .ref m20, .int 0, .ref m22, .ref m23, .ref m24, .ref m25, .ref m26, .ref m27, .int 0, .ref m29]))]) [0] rfl
    have hD9 := hD.sub (ws' := [(g0, .inr (5, [.int 1, .int 0, .int (-1), .ref m3, .int 0, .ref m5, .ref m6, .ref m7, .ref m8, .ref m9, .ref m10, .ref m11, .ref m12, .ref m13, .ref m14, .ref m15, .ref m16, .ref m17, .ref m18, .ref m19, .ref m20, .int 0, .ref m22, .ref m23, .ref m24, .ref m25, .ref m26, .ref m27, .int 0, .ref m29]))]) [0] (by decide) rfl
    have hK9 := hK.sub (tys' := []) [] rfl
    exact W.iret (v := 0) hx hb hr (fun t ht9 hW => ⟨rfl, ⟨by rw [ht9]; exact hP9, va_K.moved hW.alike hK9, hD9⟩, hS.F ht9⟩) hS.2.2 d_MO_watch_24
  · refine lv_iload_n hx hb d_MO_watch_6 rfl (lv_at hl 1 rfl) ?_
    refine lv_bipush (v := 7) hx hb d_MO_watch_7 (by decide) ?_
    refine lv_icmp_le (tgt := 16) hx hb d_MO_watch_9 (by decide) (fun a2 => ?_) (fun a2 => ?_)
    · exact absurd ⟨Int32.not_lt.mp a1, a2⟩ h
    · refine lv_iconst (v := 1) hx hb d_MO_watch_12 (by decide) ?_
      refine lv_goto (tgt := 17) hx hb d_MO_watch_13 (by decide) ?_
      have hPc := hP.sub (ws' := [(g0, .inr (5, [.int 0, .int 0, .int (-1), .ref m3, .int 0, .ref m5, .ref m6, .ref m7, .ref m8, .ref m9, .ref m10, .ref m11, .ref m12, .ref m13, .ref m14, .ref m15, .ref m16, .ref m17, .ref m18, .ref m19, .ref m20, .int 0, .ref m22, .ref m23, .ref m24, .ref m25, .ref m26, .ref m27, .int 0, .ref m29]))]) [0] rfl
      have hKc := hK.sub (tys' := []) [] rfl
      have hDc := hD.sub (ws' := [(g0, .inr (5, [.int 0, .int 0, .int (-1), .ref m3, .int 0, .ref m5, .ref m6, .ref m7, .ref m8, .ref m9, .ref m10, .ref m11, .ref m12, .ref m13, .ref m14, .ref m15, .ref m16, .ref m17, .ref m18, .ref m19, .ref m20, .int 0, .ref m22, .ref m23, .ref m24, .ref m25, .ref m26, .ref m27, .int 0, .ref m29]))]) [0] (by decide) rfl
      have hFc := va_free (wc := [(g0, .inr (5, [.int 0, .int 0, .int (-1), .ref m3, .int 0, .ref m5, .ref m6, .ref m7, .ref m8, .ref m9, .ref m10, .ref m11, .ref m12, .ref m13, .ref m14, .ref m15, .ref m16, .ref m17, .ref m18, .ref m19, .ref m20, .int 0, .ref m22, .ref m23, .ref m24, .ref m25, .ref m26, .ref m27, .int 0, .ref m29]))]) hD hS hA [0] rfl
      refine fr_call (va_runV (C := R_MO) (As := [.int 1]) (rest := []) ⟨hx, hb, hml, hown, ht⟩ (c_MO_refused_yes l dC dI s.heap.size Bd g0 m3 m5 m6 m7 m8 m9 m10 m11 m12 m13 m14 m15 m16 m17 m18 m19 m20 m22 m23 m24 m25 m26 m27 m29 0 0) (cwV 1 ht (gV tb_736 tb_738 ts_23 tb_5 tb_739) rfl rfl rfl (by decide +kernel) ⟨Nat.le_of_ble_eq_true rfl, Nat.le_of_ble_eq_true rfl⟩) ⟨frP_blind, va_recv (q := (R_MO, F_MO, 30)) hK hP rfl (show ([(g0, .inr (5, [.int 0, .int 0, .int (-1), .ref m3, .int 0, .ref m5, .ref m6, .ref m7, .ref m8, .ref m9, .ref m10, .ref m11, .ref m12, .ref m13, .ref m14, .ref m15, .ref m16, .ref m17, .ref m18, .ref m19, .ref m20, .int 0, .ref m22, .ref m23, .ref m24, .ref m25, .ref m26, .ref m27, .int 0, .ref m29]))] : va_W)[0]? = some (g0, .inr (5, [.int 0, .int 0, .int (-1), .ref m3, .int 0, .ref m5, .ref m6, .ref m7, .ref m8, .ref m9, .ref m10, .ref m11, .ref m12, .ref m13, .ref m14, .ref m15, .ref m16, .ref m17, .ref m18, .ref m19, .ref m20, .int 0, .ref m22, .ref m23, .ref m24, .ref m25, .ref m26, .ref m27, .int 0, .ref m29])) from rfl), fr_pre hPc hKc hDc hAB hBs hS hV⟩ rfl rfl hl.1 rfl (lv_room (Nat.le_of_ble_eq_true rfl)) d_MO_watch_17 ⟨Nat.le_of_ble_eq_true rfl, Nat.le_of_ble_eq_true rfl⟩) hS (fun q _ h => hFc q h) hFc (fun t H1 locs ht1 hvm hB1 hz1 hk1 hS => ?_)
      obtain ⟨hP1, hK1, hD1⟩ := hB1
      rw [ht1] at hP1
      have hK1 := va_K.moved hvm.symm hK1
      obtain ⟨hP, hD⟩ := va_join (wr := []) (w1 := [(g0, .inr (5, [.int 1, .int 0, .int (-1), .ref m3, .int 0, .ref m5, .ref m6, .ref m7, .ref m8, .ref m9, .ref m10, .ref m11, .ref m12, .ref m13, .ref m14, .ref m15, .ref m16, .ref m17, .ref m18, .ref m19, .ref m20, .int 0, .ref m22, .ref m23, .ref m24, .ref m25, .ref m26, .ref m27, .int 0, .ref m29]))]) hP hD [0] [] rfl rfl (by decide) (by decide) hk1 hFc hP1 hD1
      have hK := hK.app hK1
      generalize H1 = H at hP hS ⊢
      have hP : va_P (dC, dI) cls_ [(g0, .inr (5, [.int 1, .int 0, .int (-1), .ref m3, .int 0, .ref m5, .ref m6, .ref m7, .ref m8, .ref m9, .ref m10, .ref m11, .ref m12, .ref m13, .ref m14, .ref m15, .ref m16, .ref m17, .ref m18, .ref m19, .ref m20, .int 0, .ref m22, .ref m23, .ref m24, .ref m25, .ref m26, .ref m27, .int 0, .ref m29]))] H := hP
      have hD : va_D A [(g0, .inr (5, [.int 1, .int 0, .int (-1), .ref m3, .int 0, .ref m5, .ref m6, .ref m7, .ref m8, .ref m9, .ref m10, .ref m11, .ref m12, .ref m13, .ref m14, .ref m15, .ref m16, .ref m17, .ref m18, .ref m19, .ref m20, .int 0, .ref m22, .ref m23, .ref m24, .ref m25, .ref m26, .ref m27, .int 0, .ref m29]))] := hD
      have hK : va_K (dC, dI) cls_ [] s := hK
      refine W.eq (g2 := F0 m 20 ls [.int 1]) rfl ?_
      refine W.cs (cells' := 0) (slots' := 0) rfl rfl ?_
      refine lv_if_eq (tgt := 25) hx hb d_MO_watch_20 (by decide) (fun h9 => absurd h9 (by decide)) (fun _ => ?_)
      refine lv_iconst (v := 0) hx hb d_MO_watch_23 (by decide) ?_
      have hP9 := hP.sub (ws' := [(g0, .inr (5, [.int 1, .int 0, .int (-1), .ref m3, .int 0, .ref m5, .ref m6, .ref m7, .ref m8, .ref m9, .ref m10, .ref m11, .ref m12, .ref m13, .ref m14, .ref m15, .ref m16, .ref m17, .ref m18, .ref m19, .ref m20, .int 0, .ref m22, .ref m23, .ref m24, .ref m25, .ref m26, .ref m27, .int 0, .ref m29]))]) [0] rfl
      have hD9 := hD.sub (ws' := [(g0, .inr (5, [.int 1, .int 0, .int (-1), .ref m3, .int 0, .ref m5, .ref m6, .ref m7, .ref m8, .ref m9, .ref m10, .ref m11, .ref m12, .ref m13, .ref m14, .ref m15, .ref m16, .ref m17, .ref m18, .ref m19, .ref m20, .int 0, .ref m22, .ref m23, .ref m24, .ref m25, .ref m26, .ref m27, .int 0, .ref m29]))]) [0] (by decide) rfl
      have hK9 := hK.sub (tys' := []) [] rfl
      exact W.iret (v := 0) hx hb hr (fun t ht9 hW => ⟨rfl, ⟨by rw [ht9]; exact hP9, va_K.moved hW.alike hK9, hD9⟩, hS.F ht9⟩) hS.2.2 d_MO_watch_24
set_option maxHeartbeats 4000000 in
set_option maxRecDepth 100000 in
theorem c_MO_cut_ok (l : Launch) (dC : Nat → ClassId) (dI : Nat → Nat → Nat) (sz Bd : Nat) (g0 m3 m5 m6 m7 m8 m9 m10 m11 m12 m13 m14 m15 m16 m17 m18 m19 m20 m22 m23 m24 m25 m26 m27 m29 : Nat) (x : Int32) (h : 0 ≤ x ∧ x ≤ 1000) : Met l y_MO_cut w_MO_cut ({ frames := 1, cells := 0, slots := 0, locals := 21 }) (frP (dC, dI) [(g0, .inr (5, [.int 0, .int 0, .int (-1), .ref m3, .int 0, .ref m5, .ref m6, .ref m7, .ref m8, .ref m9, .ref m10, .ref m11, .ref m12, .ref m13, .ref m14, .ref m15, .ref m16, .ref m17, .ref m18, .ref m19, .ref m20, .int 0, .ref m22, .ref m23, .ref m24, .ref m25, .ref m26, .ref m27, .int 0, .ref m29]))] [] sz Bd [.ref g0, .int x]) (frQ (some (.int 0)) (fun t => va_P (dC, dI) cls_ [(g0, .inr (5, [.int 0, .int x, .int (-1), .ref m3, .int 0, .ref m5, .ref m6, .ref m7, .ref m8, .ref m9, .ref m10, .ref m11, .ref m12, .ref m13, .ref m14, .ref m15, .ref m16, .ref m17, .ref m18, .ref m19, .ref m20, .int 0, .ref m22, .ref m23, .ref m24, .ref m25, .ref m26, .ref m27, .int 0, .ref m29]))] t.heap ∧ va_K (dC, dI) cls_ [] t ∧ va_D (va_A [(g0, .inr (5, [.int 0, .int 0, .int (-1), .ref m3, .int 0, .ref m5, .ref m6, .ref m7, .ref m8, .ref m9, .ref m10, .ref m11, .ref m12, .ref m13, .ref m14, .ref m15, .ref m16, .ref m17, .ref m18, .ref m19, .ref m20, .int 0, .ref m22, .ref m23, .ref m24, .ref m25, .ref m26, .ref m27, .int 0, .ref m29]))] sz) [(g0, .inr (5, [.int 0, .int x, .int (-1), .ref m3, .int 0, .ref m5, .ref m6, .ref m7, .ref m8, .ref m9, .ref m10, .ref m11, .ref m12, .ref m13, .ref m14, .ref m15, .ref m16, .ref m17, .ref m18, .ref m19, .ref m20, .int 0, .ref m22, .ref m23, .ref m24, .ref m25, .ref m26, .ref m27, .int 0, .ref m29]))]) (va_A [(g0, .inr (5, [.int 0, .int 0, .int (-1), .ref m3, .int 0, .ref m5, .ref m6, .ref m7, .ref m8, .ref m9, .ref m10, .ref m11, .ref m12, .ref m13, .ref m14, .ref m15, .ref m16, .ref m17, .ref m18, .ref m19, .ref m20, .int 0, .ref m22, .ref m23, .ref m24, .ref m25, .ref m26, .ref m27, .int 0, .ref m29]))] sz)) 0 0 (va_A [(g0, .inr (5, [.int 0, .int 0, .int (-1), .ref m3, .int 0, .ref m5, .ref m6, .ref m7, .ref m8, .ref m9, .ref m10, .ref m11, .ref m12, .ref m13, .ref m14, .ref m15, .ref m16, .ref m17, .ref m18, .ref m19, .ref m20, .int 0, .ref m22, .ref m23, .ref m24, .ref m25, .ref m26, .ref m27, .int 0, .ref m29]))] sz) := by
  refine Met.ofW (cc := c_MO_cut) (maxL := 4) (ret := (some .int)) (by decide) rfl ?_
  intro p e s m args below meth c s₁ B hml hv
  obtain ⟨rfl, ⟨hsz, hBs⟩, hP, hK, hD0, hV⟩ := hv
  have hx := B.exec
  have hb := B.bytes
  have hr := B.returns
  have ht : ∀ w ∈ tb_, w.before _ s = true := fun w h => atoms_spec (ws := w_MO_cut) B.pre w (List.mem_cons_of_mem _ h)
  have hown : s.vm.findClass R_MO = some m.cls := findClass_of_methodNamed B.named
  have hlocks := B.notSynchronized
  subst hsz
  have hD := hD0.self (sz := s.heap.size)
  have hAB : ∀ q, va_A [(g0, .inr (5, [.int 0, .int 0, .int (-1), .ref m3, .int 0, .ref m5, .ref m6, .ref m7, .ref m8, .ref m9, .ref m10, .ref m11, .ref m12, .ref m13, .ref m14, .ref m15, .ref m16, .ref m17, .ref m18, .ref m19, .ref m20, .int 0, .ref m22, .ref m23, .ref m24, .ref m25, .ref m26, .ref m27, .int 0, .ref m29]))] s.heap.size q → Bd ≤ q := fr_AB hD0 hBs
  generalize hAe : va_A [(g0, .inr (5, [.int 0, .int 0, .int (-1), .ref m3, .int 0, .ref m5, .ref m6, .ref m7, .ref m8, .ref m9, .ref m10, .ref m11, .ref m12, .ref m13, .ref m14, .ref m15, .ref m16, .ref m17, .ref m18, .ref m19, .ref m20, .int 0, .ref m22, .ref m23, .ref m24, .ref m25, .ref m26, .ref m27, .int 0, .ref m29]))] s.heap.size = A at hD hAB ⊢
  have hA : ∀ q : Nat, s.heap.size ≤ q → A q := fun q h => by rw [← hAe]; exact Or.inr h
  have hS : va_S A s.heap s.heap [] := va_S.rf
  have hAO := hV.2.2.2.1
  have hN_PL := hV.2.2.1.1
  have hN_RW := hV.2.2.1.2
  have hP : va_P (dC, dI) cls_ [(g0, .inr (5, [.int 0, .int 0, .int (-1), .ref m3, .int 0, .ref m5, .ref m6, .ref m7, .ref m8, .ref m9, .ref m10, .ref m11, .ref m12, .ref m13, .ref m14, .ref m15, .ref m16, .ref m17, .ref m18, .ref m19, .ref m20, .int 0, .ref m22, .ref m23, .ref m24, .ref m25, .ref m26, .ref m27, .int 0, .ref m29]))] s.heap := hP
  have hl := lv_entry ([.ref g0, .int x]) (n := 4) (Nat.le_of_ble_eq_true rfl)
  rw [lg_entry_eq]
  generalize (lg_sl ([.ref g0, .int x]) ++ List.replicate (4 - (lg_sl ([.ref g0, .int x])).length) Slot.unset).toArray = ls at hl ⊢
  have hl : lv_has ls 4 [(0, .ref g0), (1, .int x)] := hl
  refine lv_aload_n hx hb d_MO_cut_0 rfl (lv_at hl 0 rfl) ?_
  refine lv_iload_n hx hb d_MO_cut_1 rfl (lv_at hl 1 rfl) ?_
  refine lv_aload_n hx hb d_MO_cut_2 rfl (lv_at hl 0 rfl) ?_
  refine va_get (D := (dC, dI)) (ci := 5) (v := .int 0) (C := R_MO) (T := F_MO) (N := 30) hx hb ht in_MO hown hK hP 0 rfl rfl 1 (by decide) (ht _ tb_632) (fun _ h9 => h9) rfl d_MO_cut_3 ?_
  refine lv_icmp_lt (tgt := 24) hx hb d_MO_cut_6 (by decide) (fun h9 => absurd h9 (Int32.not_lt.mpr h.1)) (fun _ => ?_)
  refine lv_iload_n hx hb d_MO_cut_9 rfl (lv_at hl 1 rfl) ?_
  refine lv_i2l hx hb d_MO_cut_10 rfl ?_
  refine lv_aload_n hx hb d_MO_cut_11 rfl (lv_at hl 0 rfl) ?_
  refine va_get (D := (dC, dI)) (ci := 5) (v := .int 0) (C := R_MO) (T := F_MO) (N := 30) hx hb ht in_MO hown hK hP 0 rfl rfl 1 (by decide) (ht _ tb_632) (fun _ h9 => h9) rfl d_MO_cut_12 ?_
  refine lv_i2l hx hb d_MO_cut_15 rfl ?_
  refine lv_ldc2 (v := 1000) hx hb hown (ht _ tb_731) d_MO_cut_16 ?_
  refine lv_ladd hx hb d_MO_cut_19 ?_
  refine W.lcmp hx hb d_MO_cut_20 ?_
  refine lv_if_le (tgt := 28) hx hb d_MO_cut_21 (by decide) (fun _ => ?_) (fun h9 => absurd (cm_le h.2) h9)
  refine lv_iconst (v := 0) hx hb d_MO_cut_28 (by decide) ?_
  have hPc := hP.sub (ws' := [(g0, .inr (5, [.int 0, .int 0, .int (-1), .ref m3, .int 0, .ref m5, .ref m6, .ref m7, .ref m8, .ref m9, .ref m10, .ref m11, .ref m12, .ref m13, .ref m14, .ref m15, .ref m16, .ref m17, .ref m18, .ref m19, .ref m20, .int 0, .ref m22, .ref m23, .ref m24, .ref m25, .ref m26, .ref m27, .int 0, .ref m29]))]) [0] rfl
  have hKc := hK.sub (tys' := []) [] rfl
  have hDc := hD.sub (ws' := [(g0, .inr (5, [.int 0, .int 0, .int (-1), .ref m3, .int 0, .ref m5, .ref m6, .ref m7, .ref m8, .ref m9, .ref m10, .ref m11, .ref m12, .ref m13, .ref m14, .ref m15, .ref m16, .ref m17, .ref m18, .ref m19, .ref m20, .int 0, .ref m22, .ref m23, .ref m24, .ref m25, .ref m26, .ref m27, .int 0, .ref m29]))]) [0] (by decide) rfl
  have hFc := va_free (wc := [(g0, .inr (5, [.int 0, .int 0, .int (-1), .ref m3, .int 0, .ref m5, .ref m6, .ref m7, .ref m8, .ref m9, .ref m10, .ref m11, .ref m12, .ref m13, .ref m14, .ref m15, .ref m16, .ref m17, .ref m18, .ref m19, .ref m20, .int 0, .ref m22, .ref m23, .ref m24, .ref m25, .ref m26, .ref m27, .int 0, .ref m29]))]) hD hS hA [0] rfl
  refine fr_call (va_runV (C := R_MO) (As := [.int 0]) (rest := []) ⟨hx, hb, hml, hown, ht⟩ (c_MO_refused_no l dC dI s.heap.size Bd g0 m3 m5 m6 m7 m8 m9 m10 m11 m12 m13 m14 m15 m16 m17 m18 m19 m20 m22 m23 m24 m25 m26 m27 m29 0 0) (cwV 1 ht (gV tb_736 tb_738 ts_23 tb_5 tb_739) rfl rfl rfl (by decide +kernel) ⟨Nat.le_of_ble_eq_true rfl, Nat.le_of_ble_eq_true rfl⟩) ⟨frP_blind, va_recv (q := (R_MO, F_MO, 30)) hK hP rfl (show ([(g0, .inr (5, [.int 0, .int 0, .int (-1), .ref m3, .int 0, .ref m5, .ref m6, .ref m7, .ref m8, .ref m9, .ref m10, .ref m11, .ref m12, .ref m13, .ref m14, .ref m15, .ref m16, .ref m17, .ref m18, .ref m19, .ref m20, .int 0, .ref m22, .ref m23, .ref m24, .ref m25, .ref m26, .ref m27, .int 0, .ref m29]))] : va_W)[0]? = some (g0, .inr (5, [.int 0, .int 0, .int (-1), .ref m3, .int 0, .ref m5, .ref m6, .ref m7, .ref m8, .ref m9, .ref m10, .ref m11, .ref m12, .ref m13, .ref m14, .ref m15, .ref m16, .ref m17, .ref m18, .ref m19, .ref m20, .int 0, .ref m22, .ref m23, .ref m24, .ref m25, .ref m26, .ref m27, .int 0, .ref m29])) from rfl), fr_pre hPc hKc hDc hAB hBs hS hV⟩ rfl rfl hl.1 rfl (lv_room (Nat.le_of_ble_eq_true rfl)) d_MO_cut_29 ⟨Nat.le_of_ble_eq_true rfl, Nat.le_of_ble_eq_true rfl⟩) hS (fun q _ h => hFc q h) hFc (fun t H1 locs ht1 hvm hB1 hz1 hk1 hS => ?_)
  obtain ⟨hP1, hK1, hD1⟩ := hB1
  rw [ht1] at hP1
  have hK1 := va_K.moved hvm.symm hK1
  obtain ⟨hP, hD⟩ := va_join (wr := []) (w1 := [(g0, .inr (5, [.int 0, .int 0, .int (-1), .ref m3, .int 0, .ref m5, .ref m6, .ref m7, .ref m8, .ref m9, .ref m10, .ref m11, .ref m12, .ref m13, .ref m14, .ref m15, .ref m16, .ref m17, .ref m18, .ref m19, .ref m20, .int 0, .ref m22, .ref m23, .ref m24, .ref m25, .ref m26, .ref m27, .int 0, .ref m29]))]) hP hD [0] [] rfl rfl (by decide) (by decide) hk1 hFc hP1 hD1
  have hK := hK.app hK1
  generalize H1 = H at hP hS ⊢
  have hP : va_P (dC, dI) cls_ [(g0, .inr (5, [.int 0, .int 0, .int (-1), .ref m3, .int 0, .ref m5, .ref m6, .ref m7, .ref m8, .ref m9, .ref m10, .ref m11, .ref m12, .ref m13, .ref m14, .ref m15, .ref m16, .ref m17, .ref m18, .ref m19, .ref m20, .int 0, .ref m22, .ref m23, .ref m24, .ref m25, .ref m26, .ref m27, .int 0, .ref m29]))] H := hP
  have hD : va_D A [(g0, .inr (5, [.int 0, .int 0, .int (-1), .ref m3, .int 0, .ref m5, .ref m6, .ref m7, .ref m8, .ref m9, .ref m10, .ref m11, .ref m12, .ref m13, .ref m14, .ref m15, .ref m16, .ref m17, .ref m18, .ref m19, .ref m20, .int 0, .ref m22, .ref m23, .ref m24, .ref m25, .ref m26, .ref m27, .int 0, .ref m29]))] := hD
  have hK : va_K (dC, dI) cls_ [] s := hK
  refine W.eq (g2 := F0 m 32 ls [.int 0]) rfl ?_
  refine W.cs (cells' := 0) (slots' := 0) rfl rfl ?_
  refine lv_if_eq (tgt := 37) hx hb d_MO_cut_32 (by decide) (fun _ => ?_) (fun h9 => absurd (rfl) h9)
  refine lv_iconst (v := 0) hx hb d_MO_cut_37 (by decide) ?_
  refine lv_istore_n hx hb d_MO_cut_38 rfl hl (by decide) rfl (fun ls hl => ?_)
  have hl : lv_has ls 4 [(2, .int 0), (0, .ref g0), (1, .int x)] := hl
  refine lv_iconst (v := 0) hx hb d_MO_cut_39 (by decide) ?_
  refine lv_istore_n hx hb d_MO_cut_40 rfl hl (by decide) rfl (fun ls hl => ?_)
  have hl : lv_has ls 4 [(3, .int 0), (2, .int 0), (0, .ref g0), (1, .int x)] := hl
  refine lv_iload_n hx hb d_MO_cut_41 rfl (lv_at hl 0 rfl) ?_
  refine lv_aload_n hx hb d_MO_cut_42 rfl (lv_at hl 2 rfl) ?_
  refine va_get (D := (dC, dI)) (ci := 5) (v := .int 0) (C := R_MO) (T := F_MO) (N := 30) hx hb ht in_MO hown hK hP 0 rfl rfl 4 (by decide) (ht _ tb_635) (fun _ h9 => h9) rfl d_MO_cut_43 ?_
  refine lv_icmp_ge (tgt := 154) hx hb d_MO_cut_46 (by decide) (fun _ => ?_) (fun h9 => absurd (by decide) h9)
  refine lv_aload_n hx hb d_MO_cut_154 rfl (lv_at hl 2 rfl) ?_
  refine lv_iload_n hx hb d_MO_cut_155 rfl (lv_at hl 3 rfl) ?_
  refine va_put (D := (dC, dI)) (ci := 5) (v := .int x) (ty := .int) (C := R_MO) (T := F_MO) (N := 30) hx hb ht in_MO t_MO t_MO_ok n_MO hown hK hP hD hS 0 rfl rfl 1 (by decide) (ht _ tb_632) (fun _ h9 => h9) rfl (by decide +kernel) rfl rfl (Nat.le_of_ble_eq_true rfl) d_MO_cut_156 (fun H locs hP hD hS => ?_)
  have hP : va_P (dC, dI) cls_ [(g0, .inr (5, [.int 0, .int x, .int (-1), .ref m3, .int 0, .ref m5, .ref m6, .ref m7, .ref m8, .ref m9, .ref m10, .ref m11, .ref m12, .ref m13, .ref m14, .ref m15, .ref m16, .ref m17, .ref m18, .ref m19, .ref m20, .int 0, .ref m22, .ref m23, .ref m24, .ref m25, .ref m26, .ref m27, .int 0, .ref m29]))] H := hP
  have hD : va_D A [(g0, .inr (5, [.int 0, .int x, .int (-1), .ref m3, .int 0, .ref m5, .ref m6, .ref m7, .ref m8, .ref m9, .ref m10, .ref m11, .ref m12, .ref m13, .ref m14, .ref m15, .ref m16, .ref m17, .ref m18, .ref m19, .ref m20, .int 0, .ref m22, .ref m23, .ref m24, .ref m25, .ref m26, .ref m27, .int 0, .ref m29]))] := hD
  refine lv_aload_n hx hb d_MO_cut_159 rfl (lv_at hl 2 rfl) ?_
  refine lv_iconst (v := 0) hx hb d_MO_cut_160 (by decide) ?_
  refine va_put (D := (dC, dI)) (ci := 5) (v := .int 0) (ty := .int) (C := R_MO) (T := F_MO) (N := 30) hx hb ht in_MO t_MO t_MO_ok n_MO hown hK hP hD hS 0 rfl rfl 28 (by decide) (ht _ tb_659) (fun _ h9 => h9) rfl (by decide +kernel) rfl rfl (Nat.le_of_ble_eq_true rfl) d_MO_cut_161 (fun H locs hP hD hS => ?_)
  have hP : va_P (dC, dI) cls_ [(g0, .inr (5, [.int 0, .int x, .int (-1), .ref m3, .int 0, .ref m5, .ref m6, .ref m7, .ref m8, .ref m9, .ref m10, .ref m11, .ref m12, .ref m13, .ref m14, .ref m15, .ref m16, .ref m17, .ref m18, .ref m19, .ref m20, .int 0, .ref m22, .ref m23, .ref m24, .ref m25, .ref m26, .ref m27, .int 0, .ref m29]))] H := hP
  have hD : va_D A [(g0, .inr (5, [.int 0, .int x, .int (-1), .ref m3, .int 0, .ref m5, .ref m6, .ref m7, .ref m8, .ref m9, .ref m10, .ref m11, .ref m12, .ref m13, .ref m14, .ref m15, .ref m16, .ref m17, .ref m18, .ref m19, .ref m20, .int 0, .ref m22, .ref m23, .ref m24, .ref m25, .ref m26, .ref m27, .int 0, .ref m29]))] := hD
  refine lv_iload_n hx hb d_MO_cut_164 rfl (lv_at hl 1 rfl) ?_
  have hP9 := hP.sub (ws' := [(g0, .inr (5, [.int 0, .int x, .int (-1), .ref m3, .int 0, .ref m5, .ref m6, .ref m7, .ref m8, .ref m9, .ref m10, .ref m11, .ref m12, .ref m13, .ref m14, .ref m15, .ref m16, .ref m17, .ref m18, .ref m19, .ref m20, .int 0, .ref m22, .ref m23, .ref m24, .ref m25, .ref m26, .ref m27, .int 0, .ref m29]))]) [0] rfl
  have hD9 := hD.sub (ws' := [(g0, .inr (5, [.int 0, .int x, .int (-1), .ref m3, .int 0, .ref m5, .ref m6, .ref m7, .ref m8, .ref m9, .ref m10, .ref m11, .ref m12, .ref m13, .ref m14, .ref m15, .ref m16, .ref m17, .ref m18, .ref m19, .ref m20, .int 0, .ref m22, .ref m23, .ref m24, .ref m25, .ref m26, .ref m27, .int 0, .ref m29]))]) [0] (by decide) rfl
  have hK9 := hK.sub (tys' := []) [] rfl
  exact W.iret (v := 0) hx hb hr (fun t ht9 hW => ⟨rfl, ⟨by rw [ht9]; exact hP9, va_K.moved hW.alike hK9, hD9⟩, hS.F ht9⟩) hS.2.2 d_MO_cut_165
set_option maxHeartbeats 4000000 in
set_option maxRecDepth 100000 in
theorem c_MO_cut_bad (l : Launch) (dC : Nat → ClassId) (dI : Nat → Nat → Nat) (sz Bd : Nat) (g0 m3 m5 m6 m7 m8 m9 m10 m11 m12 m13 m14 m15 m16 m17 m18 m19 m20 m22 m23 m24 m25 m26 m27 m29 : Nat) (x : Int32) (h : ¬ (0 ≤ x ∧ x ≤ 1000)) : Met l y_MO_cut w_MO_cut ({ frames := 1, cells := 0, slots := 0, locals := 21 }) (frP (dC, dI) [(g0, .inr (5, [.int 0, .int 0, .int (-1), .ref m3, .int 0, .ref m5, .ref m6, .ref m7, .ref m8, .ref m9, .ref m10, .ref m11, .ref m12, .ref m13, .ref m14, .ref m15, .ref m16, .ref m17, .ref m18, .ref m19, .ref m20, .int 0, .ref m22, .ref m23, .ref m24, .ref m25, .ref m26, .ref m27, .int 0, .ref m29]))] [] sz Bd [.ref g0, .int x]) (frQ (some (.int 0)) (fun t => va_P (dC, dI) cls_ [(g0, .inr (5, [.int 1, .int 0, .int (-1), .ref m3, .int 0, .ref m5, .ref m6, .ref m7, .ref m8, .ref m9, .ref m10, .ref m11, .ref m12, .ref m13, .ref m14, .ref m15, .ref m16, .ref m17, .ref m18, .ref m19, .ref m20, .int 0, .ref m22, .ref m23, .ref m24, .ref m25, .ref m26, .ref m27, .int 0, .ref m29]))] t.heap ∧ va_K (dC, dI) cls_ [] t ∧ va_D (va_A [(g0, .inr (5, [.int 0, .int 0, .int (-1), .ref m3, .int 0, .ref m5, .ref m6, .ref m7, .ref m8, .ref m9, .ref m10, .ref m11, .ref m12, .ref m13, .ref m14, .ref m15, .ref m16, .ref m17, .ref m18, .ref m19, .ref m20, .int 0, .ref m22, .ref m23, .ref m24, .ref m25, .ref m26, .ref m27, .int 0, .ref m29]))] sz) [(g0, .inr (5, [.int 1, .int 0, .int (-1), .ref m3, .int 0, .ref m5, .ref m6, .ref m7, .ref m8, .ref m9, .ref m10, .ref m11, .ref m12, .ref m13, .ref m14, .ref m15, .ref m16, .ref m17, .ref m18, .ref m19, .ref m20, .int 0, .ref m22, .ref m23, .ref m24, .ref m25, .ref m26, .ref m27, .int 0, .ref m29]))]) (va_A [(g0, .inr (5, [.int 0, .int 0, .int (-1), .ref m3, .int 0, .ref m5, .ref m6, .ref m7, .ref m8, .ref m9, .ref m10, .ref m11, .ref m12, .ref m13, .ref m14, .ref m15, .ref m16, .ref m17, .ref m18, .ref m19, .ref m20, .int 0, .ref m22, .ref m23, .ref m24, .ref m25, .ref m26, .ref m27, .int 0, .ref m29]))] sz)) 0 0 (va_A [(g0, .inr (5, [.int 0, .int 0, .int (-1), .ref m3, .int 0, .ref m5, .ref m6, .ref m7, .ref m8, .ref m9, .ref m10, .ref m11, .ref m12, .ref m13, .ref m14, .ref m15, .ref m16, .ref m17, .ref m18, .ref m19, .ref m20, .int 0, .ref m22, .ref m23, .ref m24, .ref m25, .ref m26, .ref m27, .int 0, .ref m29]))] sz) := by
  refine Met.ofW (cc := c_MO_cut) (maxL := 4) (ret := (some .int)) (by decide) rfl ?_
  intro p e s m args below meth c s₁ B hml hv
  obtain ⟨rfl, ⟨hsz, hBs⟩, hP, hK, hD0, hV⟩ := hv
  have hx := B.exec
  have hb := B.bytes
  have hr := B.returns
  have ht : ∀ w ∈ tb_, w.before _ s = true := fun w h => atoms_spec (ws := w_MO_cut) B.pre w (List.mem_cons_of_mem _ h)
  have hown : s.vm.findClass R_MO = some m.cls := findClass_of_methodNamed B.named
  have hlocks := B.notSynchronized
  subst hsz
  have hD := hD0.self (sz := s.heap.size)
  have hAB : ∀ q, va_A [(g0, .inr (5, [.int 0, .int 0, .int (-1), .ref m3, .int 0, .ref m5, .ref m6, .ref m7, .ref m8, .ref m9, .ref m10, .ref m11, .ref m12, .ref m13, .ref m14, .ref m15, .ref m16, .ref m17, .ref m18, .ref m19, .ref m20, .int 0, .ref m22, .ref m23, .ref m24, .ref m25, .ref m26, .ref m27, .int 0, .ref m29]))] s.heap.size q → Bd ≤ q := fr_AB hD0 hBs
  generalize hAe : va_A [(g0, .inr (5, [.int 0, .int 0, .int (-1), .ref m3, .int 0, .ref m5, .ref m6, .ref m7, .ref m8, .ref m9, .ref m10, .ref m11, .ref m12, .ref m13, .ref m14, .ref m15, .ref m16, .ref m17, .ref m18, .ref m19, .ref m20, .int 0, .ref m22, .ref m23, .ref m24, .ref m25, .ref m26, .ref m27, .int 0, .ref m29]))] s.heap.size = A at hD hAB ⊢
  have hA : ∀ q : Nat, s.heap.size ≤ q → A q := fun q h => by rw [← hAe]; exact Or.inr h
  have hS : va_S A s.heap s.heap [] := va_S.rf
  have hAO := hV.2.2.2.1
  have hN_PL := hV.2.2.1.1
  have hN_RW := hV.2.2.1.2
  have hP : va_P (dC, dI) cls_ [(g0, .inr (5, [.int 0, .int 0, .int (-1), .ref m3, .int 0, .ref m5, .ref m6, .ref m7, .ref m8, .ref m9, .ref m10, .ref m11, .ref m12, .ref m13, .ref m14, .ref m15, .ref m16, .ref m17, .ref m18, .ref m19, .ref m20, .int 0, .ref m22, .ref m23, .ref m24, .ref m25, .ref m26, .ref m27, .int 0, .ref m29]))] s.heap := hP
  have hl := lv_entry ([.ref g0, .int x]) (n := 4) (Nat.le_of_ble_eq_true rfl)
  rw [lg_entry_eq]
  generalize (lg_sl ([.ref g0, .int x]) ++ List.replicate (4 - (lg_sl ([.ref g0, .int x])).length) Slot.unset).toArray = ls at hl ⊢
  have hl : lv_has ls 4 [(0, .ref g0), (1, .int x)] := hl
  refine lv_aload_n hx hb d_MO_cut_0 rfl (lv_at hl 0 rfl) ?_
  refine lv_iload_n hx hb d_MO_cut_1 rfl (lv_at hl 1 rfl) ?_
  refine lv_aload_n hx hb d_MO_cut_2 rfl (lv_at hl 0 rfl) ?_
  refine va_get (D := (dC, dI)) (ci := 5) (v := .int 0) (C := R_MO) (T := F_MO) (N := 30) hx hb ht in_MO hown hK hP 0 rfl rfl 1 (by decide) (ht _ tb_632) (fun _ h9 => h9) rfl d_MO_cut_3 ?_
  refine lv_icmp_lt (tgt := 24) hx hb d_MO_cut_6 (by decide) (fun a1 => ?_) (fun a1 => ?_)
  · refine lv_iconst (v := 1) hx hb d_MO_cut_24 (by decide) ?_
    refine lv_goto (tgt := 29) hx hb d_MO_cut_25 (by decide) ?_
    have hPc := hP.sub (ws' := [(g0, .inr (5, [.int 0, .int 0, .int (-1), .ref m3, .int 0, .ref m5, .ref m6, .ref m7, .ref m8, .ref m9, .ref m10, .ref m11, .ref m12, .ref m13, .ref m14, .ref m15, .ref m16, .ref m17, .ref m18, .ref m19, .ref m20, .int 0, .ref m22, .ref m23, .ref m24, .ref m25, .ref m26, .ref m27, .int 0, .ref m29]))]) [0] rfl
    have hKc := hK.sub (tys' := []) [] rfl
    have hDc := hD.sub (ws' := [(g0, .inr (5, [.int 0, .int 0, .int (-1), .ref m3, .int 0, .ref m5, .ref m6, .ref m7, .ref m8, .ref m9, .ref m10, .ref m11, .ref m12, .ref m13, .ref m14, .ref m15, .ref m16, .ref m17, .ref m18, .ref m19, .ref m20, .int 0, .ref m22, .ref m23, .ref m24, .ref m25, .ref m26, .ref m27, .int 0, .ref m29]))]) [0] (by decide) rfl
    have hFc := va_free (wc := [(g0, .inr (5, [.int 0, .int 0, .int (-1), .ref m3, .int 0, .ref m5, .ref m6, .ref m7, .ref m8, .ref m9, .ref m10, .ref m11, .ref m12, .ref m13, .ref m14, .ref m15, .ref m16, .ref m17, .ref m18, .ref m19, .ref m20, .int 0, .ref m22, .ref m23, .ref m24, .ref m25, .ref m26, .ref m27, .int 0, .ref m29]))]) hD hS hA [0] rfl
    refine fr_call (va_runV (C := R_MO) (As := [.int 1]) (rest := []) ⟨hx, hb, hml, hown, ht⟩ (c_MO_refused_yes l dC dI s.heap.size Bd g0 m3 m5 m6 m7 m8 m9 m10 m11 m12 m13 m14 m15 m16 m17 m18 m19 m20 m22 m23 m24 m25 m26 m27 m29 0 0) (cwV 1 ht (gV tb_736 tb_738 ts_23 tb_5 tb_739) rfl rfl rfl (by decide +kernel) ⟨Nat.le_of_ble_eq_true rfl, Nat.le_of_ble_eq_true rfl⟩) ⟨frP_blind, va_recv (q := (R_MO, F_MO, 30)) hK hP rfl (show ([(g0, .inr (5, [.int 0, .int 0, .int (-1), .ref m3, .int 0, .ref m5, .ref m6, .ref m7, .ref m8, .ref m9, .ref m10, .ref m11, .ref m12, .ref m13, .ref m14, .ref m15, .ref m16, .ref m17, .ref m18, .ref m19, .ref m20, .int 0, .ref m22, .ref m23, .ref m24, .ref m25, .ref m26, .ref m27, .int 0, .ref m29]))] : va_W)[0]? = some (g0, .inr (5, [.int 0, .int 0, .int (-1), .ref m3, .int 0, .ref m5, .ref m6, .ref m7, .ref m8, .ref m9, .ref m10, .ref m11, .ref m12, .ref m13, .ref m14, .ref m15, .ref m16, .ref m17, .ref m18, .ref m19, .ref m20, .int 0, .ref m22, .ref m23, .ref m24, .ref m25, .ref m26, .ref m27, .int 0, .ref m29])) from rfl), fr_pre hPc hKc hDc hAB hBs hS hV⟩ rfl rfl hl.1 rfl (lv_room (Nat.le_of_ble_eq_true rfl)) d_MO_cut_29 ⟨Nat.le_of_ble_eq_true rfl, Nat.le_of_ble_eq_true rfl⟩) hS (fun q _ h => hFc q h) hFc (fun t H1 locs ht1 hvm hB1 hz1 hk1 hS => ?_)
    obtain ⟨hP1, hK1, hD1⟩ := hB1
    rw [ht1] at hP1
    have hK1 := va_K.moved hvm.symm hK1
    obtain ⟨hP, hD⟩ := va_join (wr := []) (w1 := [(g0, .inr (5, [.int 1, .int 0, .int (-1), .ref m3, .int 0, .ref m5, .ref m6, .ref m7, .ref m8, .ref m9, .ref m10, .ref m11, .ref m12, .ref m13, .ref m14, .ref m15, .ref m16, .ref m17, .ref m18, .ref m19, .ref m20, .int 0, .ref m22, .ref m23, .ref m24, .ref m25, .ref m26, .ref m27, .int 0, .ref m29]))]) hP hD [0] [] rfl rfl (by decide) (by decide) hk1 hFc hP1 hD1
    have hK := hK.app hK1
    generalize H1 = H at hP hS ⊢
    have hP : va_P (dC, dI) cls_ [(g0, .inr (5, [.int 1, .int 0, .int (-1), .ref m3, .int 0, .ref m5, .ref m6, .ref m7, .ref m8, .ref m9, .ref m10, .ref m11, .ref m12, .ref m13, .ref m14, .ref m15, .ref m16, .ref m17, .ref m18, .ref m19, .ref m20, .int 0, .ref m22, .ref m23, .ref m24, .ref m25, .ref m26, .ref m27, .int 0, .ref m29]))] H := hP
    have hD : va_D A [(g0, .inr (5, [.int 1, .int 0, .int (-1), .ref m3, .int 0, .ref m5, .ref m6, .ref m7, .ref m8, .ref m9, .ref m10, .ref m11, .ref m12, .ref m13, .ref m14, .ref m15, .ref m16, .ref m17, .ref m18, .ref m19, .ref m20, .int 0, .ref m22, .ref m23, .ref m24, .ref m25, .ref m26, .ref m27, .int 0, .ref m29]))] := hD
    have hK : va_K (dC, dI) cls_ [] s := hK
    refine W.eq (g2 := F0 m 32 ls [.int 1]) rfl ?_
    refine W.cs (cells' := 0) (slots' := 0) rfl rfl ?_
    refine lv_if_eq (tgt := 37) hx hb d_MO_cut_32 (by decide) (fun h9 => absurd h9 (by decide)) (fun _ => ?_)
    refine lv_iconst (v := 0) hx hb d_MO_cut_35 (by decide) ?_
    have hP9 := hP.sub (ws' := [(g0, .inr (5, [.int 1, .int 0, .int (-1), .ref m3, .int 0, .ref m5, .ref m6, .ref m7, .ref m8, .ref m9, .ref m10, .ref m11, .ref m12, .ref m13, .ref m14, .ref m15, .ref m16, .ref m17, .ref m18, .ref m19, .ref m20, .int 0, .ref m22, .ref m23, .ref m24, .ref m25, .ref m26, .ref m27, .int 0, .ref m29]))]) [0] rfl
    have hD9 := hD.sub (ws' := [(g0, .inr (5, [.int 1, .int 0, .int (-1), .ref m3, .int 0, .ref m5, .ref m6, .ref m7, .ref m8, .ref m9, .ref m10, .ref m11, .ref m12, .ref m13, .ref m14, .ref m15, .ref m16, .ref m17, .ref m18, .ref m19, .ref m20, .int 0, .ref m22, .ref m23, .ref m24, .ref m25, .ref m26, .ref m27, .int 0, .ref m29]))]) [0] (by decide) rfl
    have hK9 := hK.sub (tys' := []) [] rfl
    exact W.iret (v := 0) hx hb hr (fun t ht9 hW => ⟨rfl, ⟨by rw [ht9]; exact hP9, va_K.moved hW.alike hK9, hD9⟩, hS.F ht9⟩) hS.2.2 d_MO_cut_36
  · refine lv_iload_n hx hb d_MO_cut_9 rfl (lv_at hl 1 rfl) ?_
    refine lv_i2l hx hb d_MO_cut_10 rfl ?_
    refine lv_aload_n hx hb d_MO_cut_11 rfl (lv_at hl 0 rfl) ?_
    refine va_get (D := (dC, dI)) (ci := 5) (v := .int 0) (C := R_MO) (T := F_MO) (N := 30) hx hb ht in_MO hown hK hP 0 rfl rfl 1 (by decide) (ht _ tb_632) (fun _ h9 => h9) rfl d_MO_cut_12 ?_
    refine lv_i2l hx hb d_MO_cut_15 rfl ?_
    refine lv_ldc2 (v := 1000) hx hb hown (ht _ tb_731) d_MO_cut_16 ?_
    refine lv_ladd hx hb d_MO_cut_19 ?_
    refine W.lcmp hx hb d_MO_cut_20 ?_
    refine lv_if_le (tgt := 28) hx hb d_MO_cut_21 (by decide) (fun a2 => ?_) (fun a2 => ?_)
    · exact absurd ⟨Int32.not_lt.mp a1, cm_T.mp ((lg_cmp_le _ _).mp a2)⟩ h
    · refine lv_iconst (v := 1) hx hb d_MO_cut_24 (by decide) ?_
      refine lv_goto (tgt := 29) hx hb d_MO_cut_25 (by decide) ?_
      have hPc := hP.sub (ws' := [(g0, .inr (5, [.int 0, .int 0, .int (-1), .ref m3, .int 0, .ref m5, .ref m6, .ref m7, .ref m8, .ref m9, .ref m10, .ref m11, .ref m12, .ref m13, .ref m14, .ref m15, .ref m16, .ref m17, .ref m18, .ref m19, .ref m20, .int 0, .ref m22, .ref m23, .ref m24, .ref m25, .ref m26, .ref m27, .int 0, .ref m29]))]) [0] rfl
      have hKc := hK.sub (tys' := []) [] rfl
      have hDc := hD.sub (ws' := [(g0, .inr (5, [.int 0, .int 0, .int (-1), .ref m3, .int 0, .ref m5, .ref m6, .ref m7, .ref m8, .ref m9, .ref m10, .ref m11, .ref m12, .ref m13, .ref m14, .ref m15, .ref m16, .ref m17, .ref m18, .ref m19, .ref m20, .int 0, .ref m22, .ref m23, .ref m24, .ref m25, .ref m26, .ref m27, .int 0, .ref m29]))]) [0] (by decide) rfl
      have hFc := va_free (wc := [(g0, .inr (5, [.int 0, .int 0, .int (-1), .ref m3, .int 0, .ref m5, .ref m6, .ref m7, .ref m8, .ref m9, .ref m10, .ref m11, .ref m12, .ref m13, .ref m14, .ref m15, .ref m16, .ref m17, .ref m18, .ref m19, .ref m20, .int 0, .ref m22, .ref m23, .ref m24, .ref m25, .ref m26, .ref m27, .int 0, .ref m29]))]) hD hS hA [0] rfl
      refine fr_call (va_runV (C := R_MO) (As := [.int 1]) (rest := []) ⟨hx, hb, hml, hown, ht⟩ (c_MO_refused_yes l dC dI s.heap.size Bd g0 m3 m5 m6 m7 m8 m9 m10 m11 m12 m13 m14 m15 m16 m17 m18 m19 m20 m22 m23 m24 m25 m26 m27 m29 0 0) (cwV 1 ht (gV tb_736 tb_738 ts_23 tb_5 tb_739) rfl rfl rfl (by decide +kernel) ⟨Nat.le_of_ble_eq_true rfl, Nat.le_of_ble_eq_true rfl⟩) ⟨frP_blind, va_recv (q := (R_MO, F_MO, 30)) hK hP rfl (show ([(g0, .inr (5, [.int 0, .int 0, .int (-1), .ref m3, .int 0, .ref m5, .ref m6, .ref m7, .ref m8, .ref m9, .ref m10, .ref m11, .ref m12, .ref m13, .ref m14, .ref m15, .ref m16, .ref m17, .ref m18, .ref m19, .ref m20, .int 0, .ref m22, .ref m23, .ref m24, .ref m25, .ref m26, .ref m27, .int 0, .ref m29]))] : va_W)[0]? = some (g0, .inr (5, [.int 0, .int 0, .int (-1), .ref m3, .int 0, .ref m5, .ref m6, .ref m7, .ref m8, .ref m9, .ref m10, .ref m11, .ref m12, .ref m13, .ref m14, .ref m15, .ref m16, .ref m17, .ref m18, .ref m19, .ref m20, .int 0, .ref m22, .ref m23, .ref m24, .ref m25, .ref m26, .ref m27, .int 0, .ref m29])) from rfl), fr_pre hPc hKc hDc hAB hBs hS hV⟩ rfl rfl hl.1 rfl (lv_room (Nat.le_of_ble_eq_true rfl)) d_MO_cut_29 ⟨Nat.le_of_ble_eq_true rfl, Nat.le_of_ble_eq_true rfl⟩) hS (fun q _ h => hFc q h) hFc (fun t H1 locs ht1 hvm hB1 hz1 hk1 hS => ?_)
      obtain ⟨hP1, hK1, hD1⟩ := hB1
      rw [ht1] at hP1
      have hK1 := va_K.moved hvm.symm hK1
      obtain ⟨hP, hD⟩ := va_join (wr := []) (w1 := [(g0, .inr (5, [.int 1, .int 0, .int (-1), .ref m3, .int 0, .ref m5, .ref m6, .ref m7, .ref m8, .ref m9, .ref m10, .ref m11, .ref m12, .ref m13, .ref m14, .ref m15, .ref m16, .ref m17, .ref m18, .ref m19, .ref m20, .int 0, .ref m22, .ref m23, .ref m24, .ref m25, .ref m26, .ref m27, .int 0, .ref m29]))]) hP hD [0] [] rfl rfl (by decide) (by decide) hk1 hFc hP1 hD1
      have hK := hK.app hK1
      generalize H1 = H at hP hS ⊢
      have hP : va_P (dC, dI) cls_ [(g0, .inr (5, [.int 1, .int 0, .int (-1), .ref m3, .int 0, .ref m5, .ref m6, .ref m7, .ref m8, .ref m9, .ref m10, .ref m11, .ref m12, .ref m13, .ref m14, .ref m15, .ref m16, .ref m17, .ref m18, .ref m19, .ref m20, .int 0, .ref m22, .ref m23, .ref m24, .ref m25, .ref m26, .ref m27, .int 0, .ref m29]))] H := hP
      have hD : va_D A [(g0, .inr (5, [.int 1, .int 0, .int (-1), .ref m3, .int 0, .ref m5, .ref m6, .ref m7, .ref m8, .ref m9, .ref m10, .ref m11, .ref m12, .ref m13, .ref m14, .ref m15, .ref m16, .ref m17, .ref m18, .ref m19, .ref m20, .int 0, .ref m22, .ref m23, .ref m24, .ref m25, .ref m26, .ref m27, .int 0, .ref m29]))] := hD
      have hK : va_K (dC, dI) cls_ [] s := hK
      refine W.eq (g2 := F0 m 32 ls [.int 1]) rfl ?_
      refine W.cs (cells' := 0) (slots' := 0) rfl rfl ?_
      refine lv_if_eq (tgt := 37) hx hb d_MO_cut_32 (by decide) (fun h9 => absurd h9 (by decide)) (fun _ => ?_)
      refine lv_iconst (v := 0) hx hb d_MO_cut_35 (by decide) ?_
      have hP9 := hP.sub (ws' := [(g0, .inr (5, [.int 1, .int 0, .int (-1), .ref m3, .int 0, .ref m5, .ref m6, .ref m7, .ref m8, .ref m9, .ref m10, .ref m11, .ref m12, .ref m13, .ref m14, .ref m15, .ref m16, .ref m17, .ref m18, .ref m19, .ref m20, .int 0, .ref m22, .ref m23, .ref m24, .ref m25, .ref m26, .ref m27, .int 0, .ref m29]))]) [0] rfl
      have hD9 := hD.sub (ws' := [(g0, .inr (5, [.int 1, .int 0, .int (-1), .ref m3, .int 0, .ref m5, .ref m6, .ref m7, .ref m8, .ref m9, .ref m10, .ref m11, .ref m12, .ref m13, .ref m14, .ref m15, .ref m16, .ref m17, .ref m18, .ref m19, .ref m20, .int 0, .ref m22, .ref m23, .ref m24, .ref m25, .ref m26, .ref m27, .int 0, .ref m29]))]) [0] (by decide) rfl
      have hK9 := hK.sub (tys' := []) [] rfl
      exact W.iret (v := 0) hx hb hr (fun t ht9 hW => ⟨rfl, ⟨by rw [ht9]; exact hP9, va_K.moved hW.alike hK9, hD9⟩, hS.F ht9⟩) hS.2.2 d_MO_cut_36
set_option maxHeartbeats 4000000 in
set_option maxRecDepth 100000 in
theorem c_MO_now_0 (l : Launch) (dC : Nat → ClassId) (dI : Nat → Nat → Nat) (sz Bd : Nat) (g0 m3 m5 m6 m7 m8 m9 m10 m11 m12 m13 m14 m15 m16 m17 m18 m19 m20 m22 m23 m24 m25 m26 m27 m29 : Nat) : Met l y_MO_now w_MO_now ({ frames := 0, cells := 0, slots := 0, locals := 0 }) (frP (dC, dI) [(g0, .inr (5, [.int 0, .int 0, .int (-1), .ref m3, .int 0, .ref m5, .ref m6, .ref m7, .ref m8, .ref m9, .ref m10, .ref m11, .ref m12, .ref m13, .ref m14, .ref m15, .ref m16, .ref m17, .ref m18, .ref m19, .ref m20, .int 0, .ref m22, .ref m23, .ref m24, .ref m25, .ref m26, .ref m27, .int 0, .ref m29]))] [] sz Bd [.ref g0]) (frQ (some (.int 0)) (fun t => va_P (dC, dI) cls_ [(g0, .inr (5, [.int 0, .int 0, .int (-1), .ref m3, .int 0, .ref m5, .ref m6, .ref m7, .ref m8, .ref m9, .ref m10, .ref m11, .ref m12, .ref m13, .ref m14, .ref m15, .ref m16, .ref m17, .ref m18, .ref m19, .ref m20, .int 0, .ref m22, .ref m23, .ref m24, .ref m25, .ref m26, .ref m27, .int 0, .ref m29]))] t.heap ∧ va_K (dC, dI) cls_ [] t ∧ va_D (va_A [(g0, .inr (5, [.int 0, .int 0, .int (-1), .ref m3, .int 0, .ref m5, .ref m6, .ref m7, .ref m8, .ref m9, .ref m10, .ref m11, .ref m12, .ref m13, .ref m14, .ref m15, .ref m16, .ref m17, .ref m18, .ref m19, .ref m20, .int 0, .ref m22, .ref m23, .ref m24, .ref m25, .ref m26, .ref m27, .int 0, .ref m29]))] sz) [(g0, .inr (5, [.int 0, .int 0, .int (-1), .ref m3, .int 0, .ref m5, .ref m6, .ref m7, .ref m8, .ref m9, .ref m10, .ref m11, .ref m12, .ref m13, .ref m14, .ref m15, .ref m16, .ref m17, .ref m18, .ref m19, .ref m20, .int 0, .ref m22, .ref m23, .ref m24, .ref m25, .ref m26, .ref m27, .int 0, .ref m29]))]) (va_A [(g0, .inr (5, [.int 0, .int 0, .int (-1), .ref m3, .int 0, .ref m5, .ref m6, .ref m7, .ref m8, .ref m9, .ref m10, .ref m11, .ref m12, .ref m13, .ref m14, .ref m15, .ref m16, .ref m17, .ref m18, .ref m19, .ref m20, .int 0, .ref m22, .ref m23, .ref m24, .ref m25, .ref m26, .ref m27, .int 0, .ref m29]))] sz)) 0 0 (va_A [(g0, .inr (5, [.int 0, .int 0, .int (-1), .ref m3, .int 0, .ref m5, .ref m6, .ref m7, .ref m8, .ref m9, .ref m10, .ref m11, .ref m12, .ref m13, .ref m14, .ref m15, .ref m16, .ref m17, .ref m18, .ref m19, .ref m20, .int 0, .ref m22, .ref m23, .ref m24, .ref m25, .ref m26, .ref m27, .int 0, .ref m29]))] sz) := by
  refine Met.ofW (cc := c_MO_now) (maxL := 1) (ret := (some .int)) (by decide) rfl ?_
  intro p e s m args below meth c s₁ B hml hv
  obtain ⟨rfl, ⟨hsz, hBs⟩, hP, hK, hD0, hV⟩ := hv
  have hx := B.exec
  have hb := B.bytes
  have hr := B.returns
  have ht : ∀ w ∈ tb_, w.before _ s = true := fun w h => atoms_spec (ws := w_MO_now) B.pre w (List.mem_cons_of_mem _ h)
  have hown : s.vm.findClass R_MO = some m.cls := findClass_of_methodNamed B.named
  have hlocks := B.notSynchronized
  subst hsz
  have hD := hD0.self (sz := s.heap.size)
  have hAB : ∀ q, va_A [(g0, .inr (5, [.int 0, .int 0, .int (-1), .ref m3, .int 0, .ref m5, .ref m6, .ref m7, .ref m8, .ref m9, .ref m10, .ref m11, .ref m12, .ref m13, .ref m14, .ref m15, .ref m16, .ref m17, .ref m18, .ref m19, .ref m20, .int 0, .ref m22, .ref m23, .ref m24, .ref m25, .ref m26, .ref m27, .int 0, .ref m29]))] s.heap.size q → Bd ≤ q := fr_AB hD0 hBs
  generalize hAe : va_A [(g0, .inr (5, [.int 0, .int 0, .int (-1), .ref m3, .int 0, .ref m5, .ref m6, .ref m7, .ref m8, .ref m9, .ref m10, .ref m11, .ref m12, .ref m13, .ref m14, .ref m15, .ref m16, .ref m17, .ref m18, .ref m19, .ref m20, .int 0, .ref m22, .ref m23, .ref m24, .ref m25, .ref m26, .ref m27, .int 0, .ref m29]))] s.heap.size = A at hD hAB ⊢
  have hA : ∀ q : Nat, s.heap.size ≤ q → A q := fun q h => by rw [← hAe]; exact Or.inr h
  have hS : va_S A s.heap s.heap [] := va_S.rf
  have hAO := hV.2.2.2.1
  have hN_PL := hV.2.2.1.1
  have hN_RW := hV.2.2.1.2
  have hP : va_P (dC, dI) cls_ [(g0, .inr (5, [.int 0, .int 0, .int (-1), .ref m3, .int 0, .ref m5, .ref m6, .ref m7, .ref m8, .ref m9, .ref m10, .ref m11, .ref m12, .ref m13, .ref m14, .ref m15, .ref m16, .ref m17, .ref m18, .ref m19, .ref m20, .int 0, .ref m22, .ref m23, .ref m24, .ref m25, .ref m26, .ref m27, .int 0, .ref m29]))] s.heap := hP
  have hl := lv_entry ([.ref g0]) (n := 1) (Nat.le_of_ble_eq_true rfl)
  rw [lg_entry_eq]
  generalize (lg_sl ([.ref g0]) ++ List.replicate (1 - (lg_sl ([.ref g0])).length) Slot.unset).toArray = ls at hl ⊢
  have hl : lv_has ls 1 [(0, .ref g0)] := hl
  refine lv_aload_n hx hb d_MO_now_0 rfl (lv_at hl 0 rfl) ?_
  refine lv_iconst (v := 0) hx hb d_MO_now_1 (by decide) ?_
  refine va_put (D := (dC, dI)) (ci := 5) (v := .int 0) (ty := .int) (C := R_MO) (T := F_MO) (N := 30) hx hb ht in_MO t_MO t_MO_ok n_MO hown hK hP hD hS 0 rfl rfl 0 (by decide) (ht _ tb_631) (fun _ h9 => h9) rfl (by decide +kernel) rfl rfl (Nat.le_of_ble_eq_true rfl) d_MO_now_2 (fun H locs hP hD hS => ?_)
  have hP : va_P (dC, dI) cls_ [(g0, .inr (5, [.int 0, .int 0, .int (-1), .ref m3, .int 0, .ref m5, .ref m6, .ref m7, .ref m8, .ref m9, .ref m10, .ref m11, .ref m12, .ref m13, .ref m14, .ref m15, .ref m16, .ref m17, .ref m18, .ref m19, .ref m20, .int 0, .ref m22, .ref m23, .ref m24, .ref m25, .ref m26, .ref m27, .int 0, .ref m29]))] H := hP
  have hD : va_D A [(g0, .inr (5, [.int 0, .int 0, .int (-1), .ref m3, .int 0, .ref m5, .ref m6, .ref m7, .ref m8, .ref m9, .ref m10, .ref m11, .ref m12, .ref m13, .ref m14, .ref m15, .ref m16, .ref m17, .ref m18, .ref m19, .ref m20, .int 0, .ref m22, .ref m23, .ref m24, .ref m25, .ref m26, .ref m27, .int 0, .ref m29]))] := hD
  refine lv_aload_n hx hb d_MO_now_5 rfl (lv_at hl 0 rfl) ?_
  refine va_get (D := (dC, dI)) (ci := 5) (v := .int 0) (C := R_MO) (T := F_MO) (N := 30) hx hb ht in_MO hown hK hP 0 rfl rfl 1 (by decide) (ht _ tb_632) (fun _ h9 => h9) rfl d_MO_now_6 ?_
  have hP9 := hP.sub (ws' := [(g0, .inr (5, [.int 0, .int 0, .int (-1), .ref m3, .int 0, .ref m5, .ref m6, .ref m7, .ref m8, .ref m9, .ref m10, .ref m11, .ref m12, .ref m13, .ref m14, .ref m15, .ref m16, .ref m17, .ref m18, .ref m19, .ref m20, .int 0, .ref m22, .ref m23, .ref m24, .ref m25, .ref m26, .ref m27, .int 0, .ref m29]))]) [0] rfl
  have hD9 := hD.sub (ws' := [(g0, .inr (5, [.int 0, .int 0, .int (-1), .ref m3, .int 0, .ref m5, .ref m6, .ref m7, .ref m8, .ref m9, .ref m10, .ref m11, .ref m12, .ref m13, .ref m14, .ref m15, .ref m16, .ref m17, .ref m18, .ref m19, .ref m20, .int 0, .ref m22, .ref m23, .ref m24, .ref m25, .ref m26, .ref m27, .int 0, .ref m29]))]) [0] (by decide) rfl
  have hK9 := hK.sub (tys' := []) [] rfl
  exact W.iret (v := 0) hx hb hr (fun t ht9 hW => ⟨rfl, ⟨by rw [ht9]; exact hP9, va_K.moved hW.alike hK9, hD9⟩, hS.F ht9⟩) hS.2.2 d_MO_now_9
set_option maxHeartbeats 4000000 in
set_option maxRecDepth 100000 in
theorem c_MO_back_0 (l : Launch) (dC : Nat → ClassId) (dI : Nat → Nat → Nat) (sz Bd : Nat) (g0 m3 m5 m6 m7 m8 m9 m10 m11 m12 m13 m14 m15 m16 m17 m18 m19 m20 m22 m23 m24 m25 m26 m27 m29 : Nat) (x : Int32) : Met l y_MO_back w_MO_back ({ frames := 0, cells := 0, slots := 0, locals := 0 }) (frP (dC, dI) [(g0, .inr (5, [.int 0, .int 0, .int (-1), .ref m3, .int 0, .ref m5, .ref m6, .ref m7, .ref m8, .ref m9, .ref m10, .ref m11, .ref m12, .ref m13, .ref m14, .ref m15, .ref m16, .ref m17, .ref m18, .ref m19, .ref m20, .int 0, .ref m22, .ref m23, .ref m24, .ref m25, .ref m26, .ref m27, .int 0, .ref m29]))] [] sz Bd [.ref g0, .int x]) (frQ (some (.long (-1))) (fun t => va_P (dC, dI) cls_ [(g0, .inr (5, [.int 0, .int 0, .int (-1), .ref m3, .int 0, .ref m5, .ref m6, .ref m7, .ref m8, .ref m9, .ref m10, .ref m11, .ref m12, .ref m13, .ref m14, .ref m15, .ref m16, .ref m17, .ref m18, .ref m19, .ref m20, .int 0, .ref m22, .ref m23, .ref m24, .ref m25, .ref m26, .ref m27, .int 0, .ref m29]))] t.heap ∧ va_K (dC, dI) cls_ [] t ∧ va_D (va_A [(g0, .inr (5, [.int 0, .int 0, .int (-1), .ref m3, .int 0, .ref m5, .ref m6, .ref m7, .ref m8, .ref m9, .ref m10, .ref m11, .ref m12, .ref m13, .ref m14, .ref m15, .ref m16, .ref m17, .ref m18, .ref m19, .ref m20, .int 0, .ref m22, .ref m23, .ref m24, .ref m25, .ref m26, .ref m27, .int 0, .ref m29]))] sz) [(g0, .inr (5, [.int 0, .int 0, .int (-1), .ref m3, .int 0, .ref m5, .ref m6, .ref m7, .ref m8, .ref m9, .ref m10, .ref m11, .ref m12, .ref m13, .ref m14, .ref m15, .ref m16, .ref m17, .ref m18, .ref m19, .ref m20, .int 0, .ref m22, .ref m23, .ref m24, .ref m25, .ref m26, .ref m27, .int 0, .ref m29]))]) (va_A [(g0, .inr (5, [.int 0, .int 0, .int (-1), .ref m3, .int 0, .ref m5, .ref m6, .ref m7, .ref m8, .ref m9, .ref m10, .ref m11, .ref m12, .ref m13, .ref m14, .ref m15, .ref m16, .ref m17, .ref m18, .ref m19, .ref m20, .int 0, .ref m22, .ref m23, .ref m24, .ref m25, .ref m26, .ref m27, .int 0, .ref m29]))] sz)) 0 0 (va_A [(g0, .inr (5, [.int 0, .int 0, .int (-1), .ref m3, .int 0, .ref m5, .ref m6, .ref m7, .ref m8, .ref m9, .ref m10, .ref m11, .ref m12, .ref m13, .ref m14, .ref m15, .ref m16, .ref m17, .ref m18, .ref m19, .ref m20, .int 0, .ref m22, .ref m23, .ref m24, .ref m25, .ref m26, .ref m27, .int 0, .ref m29]))] sz) := by
  refine Met.ofW (cc := c_MO_back) (maxL := 2) (ret := (some .long)) (by decide) rfl ?_
  intro p e s m args below meth c s₁ B hml hv
  obtain ⟨rfl, ⟨hsz, hBs⟩, hP, hK, hD0, hV⟩ := hv
  have hx := B.exec
  have hb := B.bytes
  have hr := B.returns
  have ht : ∀ w ∈ tb_, w.before _ s = true := fun w h => atoms_spec (ws := w_MO_back) B.pre w (List.mem_cons_of_mem _ h)
  have hown : s.vm.findClass R_MO = some m.cls := findClass_of_methodNamed B.named
  have hlocks := B.notSynchronized
  subst hsz
  have hD := hD0.self (sz := s.heap.size)
  have hAB : ∀ q, va_A [(g0, .inr (5, [.int 0, .int 0, .int (-1), .ref m3, .int 0, .ref m5, .ref m6, .ref m7, .ref m8, .ref m9, .ref m10, .ref m11, .ref m12, .ref m13, .ref m14, .ref m15, .ref m16, .ref m17, .ref m18, .ref m19, .ref m20, .int 0, .ref m22, .ref m23, .ref m24, .ref m25, .ref m26, .ref m27, .int 0, .ref m29]))] s.heap.size q → Bd ≤ q := fr_AB hD0 hBs
  generalize hAe : va_A [(g0, .inr (5, [.int 0, .int 0, .int (-1), .ref m3, .int 0, .ref m5, .ref m6, .ref m7, .ref m8, .ref m9, .ref m10, .ref m11, .ref m12, .ref m13, .ref m14, .ref m15, .ref m16, .ref m17, .ref m18, .ref m19, .ref m20, .int 0, .ref m22, .ref m23, .ref m24, .ref m25, .ref m26, .ref m27, .int 0, .ref m29]))] s.heap.size = A at hD hAB ⊢
  have hA : ∀ q : Nat, s.heap.size ≤ q → A q := fun q h => by rw [← hAe]; exact Or.inr h
  have hS : va_S A s.heap s.heap [] := va_S.rf
  have hAO := hV.2.2.2.1
  have hN_PL := hV.2.2.1.1
  have hN_RW := hV.2.2.1.2
  have hP : va_P (dC, dI) cls_ [(g0, .inr (5, [.int 0, .int 0, .int (-1), .ref m3, .int 0, .ref m5, .ref m6, .ref m7, .ref m8, .ref m9, .ref m10, .ref m11, .ref m12, .ref m13, .ref m14, .ref m15, .ref m16, .ref m17, .ref m18, .ref m19, .ref m20, .int 0, .ref m22, .ref m23, .ref m24, .ref m25, .ref m26, .ref m27, .int 0, .ref m29]))] s.heap := hP
  have hl := lv_entry ([.ref g0, .int x]) (n := 2) (Nat.le_of_ble_eq_true rfl)
  rw [lg_entry_eq]
  generalize (lg_sl ([.ref g0, .int x]) ++ List.replicate (2 - (lg_sl ([.ref g0, .int x])).length) Slot.unset).toArray = ls at hl ⊢
  have hl : lv_has ls 2 [(0, .ref g0), (1, .int x)] := hl
  refine lv_aload_n hx hb d_MO_back_0 rfl (lv_at hl 0 rfl) ?_
  refine lv_iconst (v := 0) hx hb d_MO_back_1 (by decide) ?_
  refine va_put (D := (dC, dI)) (ci := 5) (v := .int 0) (ty := .int) (C := R_MO) (T := F_MO) (N := 30) hx hb ht in_MO t_MO t_MO_ok n_MO hown hK hP hD hS 0 rfl rfl 0 (by decide) (ht _ tb_631) (fun _ h9 => h9) rfl (by decide +kernel) rfl rfl (Nat.le_of_ble_eq_true rfl) d_MO_back_2 (fun H locs hP hD hS => ?_)
  have hP : va_P (dC, dI) cls_ [(g0, .inr (5, [.int 0, .int 0, .int (-1), .ref m3, .int 0, .ref m5, .ref m6, .ref m7, .ref m8, .ref m9, .ref m10, .ref m11, .ref m12, .ref m13, .ref m14, .ref m15, .ref m16, .ref m17, .ref m18, .ref m19, .ref m20, .int 0, .ref m22, .ref m23, .ref m24, .ref m25, .ref m26, .ref m27, .int 0, .ref m29]))] H := hP
  have hD : va_D A [(g0, .inr (5, [.int 0, .int 0, .int (-1), .ref m3, .int 0, .ref m5, .ref m6, .ref m7, .ref m8, .ref m9, .ref m10, .ref m11, .ref m12, .ref m13, .ref m14, .ref m15, .ref m16, .ref m17, .ref m18, .ref m19, .ref m20, .int 0, .ref m22, .ref m23, .ref m24, .ref m25, .ref m26, .ref m27, .int 0, .ref m29]))] := hD
  refine lv_iload_n hx hb d_MO_back_5 rfl (lv_at hl 1 rfl) ?_
  refine lv_iconst (v := 1) hx hb d_MO_back_6 (by decide) ?_
  refine lv_icmp_lt (tgt := 18) hx hb d_MO_back_7 (by decide) (fun h1 => ?_) (fun h1 => ?_)
  · refine lv_ldc2 (v := (-1)) hx hb hown (ht _ tb_868) d_MO_back_18 ?_
    refine lv_goto (tgt := 37) hx hb d_MO_back_21 (by decide) ?_
    have hP9 := hP.sub (ws' := [(g0, .inr (5, [.int 0, .int 0, .int (-1), .ref m3, .int 0, .ref m5, .ref m6, .ref m7, .ref m8, .ref m9, .ref m10, .ref m11, .ref m12, .ref m13, .ref m14, .ref m15, .ref m16, .ref m17, .ref m18, .ref m19, .ref m20, .int 0, .ref m22, .ref m23, .ref m24, .ref m25, .ref m26, .ref m27, .int 0, .ref m29]))]) [0] rfl
    have hD9 := hD.sub (ws' := [(g0, .inr (5, [.int 0, .int 0, .int (-1), .ref m3, .int 0, .ref m5, .ref m6, .ref m7, .ref m8, .ref m9, .ref m10, .ref m11, .ref m12, .ref m13, .ref m14, .ref m15, .ref m16, .ref m17, .ref m18, .ref m19, .ref m20, .int 0, .ref m22, .ref m23, .ref m24, .ref m25, .ref m26, .ref m27, .int 0, .ref m29]))]) [0] (by decide) rfl
    have hK9 := hK.sub (tys' := []) [] rfl
    exact W.lret (v := -1) hx hb hr (fun t ht9 hW => ⟨rfl, ⟨by rw [ht9]; exact hP9, va_K.moved hW.alike hK9, hD9⟩, hS.F ht9⟩) hS.2.2 d_MO_back_37
  · refine lv_iload_n hx hb d_MO_back_10 rfl (lv_at hl 1 rfl) ?_
    refine lv_aload_n hx hb d_MO_back_11 rfl (lv_at hl 0 rfl) ?_
    refine va_get (D := (dC, dI)) (ci := 5) (v := .int 0) (C := R_MO) (T := F_MO) (N := 30) hx hb ht in_MO hown hK hP 0 rfl rfl 28 (by decide) (ht _ tb_659) (fun _ h9 => h9) rfl d_MO_back_12 ?_
    refine lv_icmp_le (tgt := 24) hx hb d_MO_back_15 (by decide) (fun h9 => absurd h9 (fun q => h1 (Int32.lt_of_le_of_lt q (by decide)))) (fun _ => ?_)
    refine lv_ldc2 (v := (-1)) hx hb hown (ht _ tb_868) d_MO_back_18 ?_
    refine lv_goto (tgt := 37) hx hb d_MO_back_21 (by decide) ?_
    have hP9 := hP.sub (ws' := [(g0, .inr (5, [.int 0, .int 0, .int (-1), .ref m3, .int 0, .ref m5, .ref m6, .ref m7, .ref m8, .ref m9, .ref m10, .ref m11, .ref m12, .ref m13, .ref m14, .ref m15, .ref m16, .ref m17, .ref m18, .ref m19, .ref m20, .int 0, .ref m22, .ref m23, .ref m24, .ref m25, .ref m26, .ref m27, .int 0, .ref m29]))]) [0] rfl
    have hD9 := hD.sub (ws' := [(g0, .inr (5, [.int 0, .int 0, .int (-1), .ref m3, .int 0, .ref m5, .ref m6, .ref m7, .ref m8, .ref m9, .ref m10, .ref m11, .ref m12, .ref m13, .ref m14, .ref m15, .ref m16, .ref m17, .ref m18, .ref m19, .ref m20, .int 0, .ref m22, .ref m23, .ref m24, .ref m25, .ref m26, .ref m27, .int 0, .ref m29]))]) [0] (by decide) rfl
    have hK9 := hK.sub (tys' := []) [] rfl
    exact W.lret (v := -1) hx hb hr (fun t ht9 hW => ⟨rfl, ⟨by rw [ht9]; exact hP9, va_K.moved hW.alike hK9, hD9⟩, hS.F ht9⟩) hS.2.2 d_MO_back_37
set_option maxHeartbeats 4000000 in
set_option maxRecDepth 100000 in
theorem c_MO_freeSegments_0 (l : Launch) (dC : Nat → ClassId) (dI : Nat → Nat → Nat) (g0 m3 m5 m6 m7 m8 m9 m10 m11 m12 m13 m14 m15 m16 m17 m18 m19 m20 m22 m23 m24 m25 m26 m27 m29 : Nat) : Met l y_MO_freeSegments w_MO_freeSegments ({ frames := 0, cells := 0, slots := 0, locals := 0 }) (rdP (dC, dI) [(g0, .inr (5, [.int 0, .int 0, .int (-1), .ref m3, .int 0, .ref m5, .ref m6, .ref m7, .ref m8, .ref m9, .ref m10, .ref m11, .ref m12, .ref m13, .ref m14, .ref m15, .ref m16, .ref m17, .ref m18, .ref m19, .ref m20, .int 0, .ref m22, .ref m23, .ref m24, .ref m25, .ref m26, .ref m27, .int 0, .ref m29]))] [] [.ref g0]) (rd_Q (some (.int 24))) 0 0 (fun _ => False) := by
  refine Met.ofW (cc := c_MO_freeSegments) (maxL := 3) (ret := (some .int)) (by decide) rfl ?_
  intro p e s m args below meth c s₁ B hml hv
  obtain ⟨rfl, hP, hK⟩ := hv
  have hx := B.exec
  have hb := B.bytes
  have hr := B.returns
  have ht : ∀ w ∈ tb_, w.before _ s = true := fun w h => atoms_spec (ws := w_MO_freeSegments) B.pre w (List.mem_cons_of_mem _ h)
  have hown : s.vm.findClass R_MO = some m.cls := findClass_of_methodNamed B.named
  have hlocks := B.notSynchronized
  have hP : va_P (dC, dI) cls_ [(g0, .inr (5, [.int 0, .int 0, .int (-1), .ref m3, .int 0, .ref m5, .ref m6, .ref m7, .ref m8, .ref m9, .ref m10, .ref m11, .ref m12, .ref m13, .ref m14, .ref m15, .ref m16, .ref m17, .ref m18, .ref m19, .ref m20, .int 0, .ref m22, .ref m23, .ref m24, .ref m25, .ref m26, .ref m27, .int 0, .ref m29]))] s.heap := hP
  have hl := lv_entry ([.ref g0]) (n := 3) (Nat.le_of_ble_eq_true rfl)
  rw [lg_entry_eq]
  generalize (lg_sl ([.ref g0]) ++ List.replicate (3 - (lg_sl ([.ref g0])).length) Slot.unset).toArray = ls at hl ⊢
  have hl : lv_has ls 3 [(0, .ref g0)] := hl
  refine lv_bipush (v := 24) hx hb d_MO_freeSegments_0 (by decide) ?_
  refine lv_istore_n hx hb d_MO_freeSegments_2 rfl hl (by decide) rfl (fun ls hl => ?_)
  have hl : lv_has ls 3 [(1, .int 24), (0, .ref g0)] := hl
  refine lv_iconst (v := 0) hx hb d_MO_freeSegments_3 (by decide) ?_
  refine lv_istore_n hx hb d_MO_freeSegments_4 rfl hl (by decide) rfl (fun ls hl => ?_)
  have hl : lv_has ls 3 [(2, .int 0), (1, .int 24), (0, .ref g0)] := hl
  refine lv_iload_n hx hb d_MO_freeSegments_5 rfl (lv_at hl 0 rfl) ?_
  refine lv_aload_n hx hb d_MO_freeSegments_6 rfl (lv_at hl 2 rfl) ?_
  refine va_get (D := (dC, dI)) (ci := 5) (v := .int 0) (C := R_MO) (T := F_MO) (N := 30) hx hb ht in_MO hown hK hP 0 rfl rfl 4 (by decide) (ht _ tb_635) (fun _ h9 => h9) rfl d_MO_freeSegments_7 ?_
  refine lv_icmp_ge (tgt := 27) hx hb d_MO_freeSegments_10 (by decide) (fun _ => ?_) (fun h9 => absurd (by decide) h9)
  refine lv_iload_n hx hb d_MO_freeSegments_27 rfl (lv_at hl 1 rfl) ?_
  exact W.iret (v := 24) hx hb hr (fun t ht9 hW => ⟨rfl, ht9⟩) (fun q h => by cases h) d_MO_freeSegments_28
set_option maxHeartbeats 4000000 in
set_option maxRecDepth 100000 in
theorem c_MO_free_0 (l : Launch) (dC : Nat → ClassId) (dI : Nat → Nat → Nat) (sz Bd : Nat) (g0 m3 m5 m6 m7 m8 m9 m10 m11 m12 m13 m14 m15 m16 m17 m18 m19 m20 m22 m23 m24 m25 m26 m27 m29 : Nat) : Met l y_MO_free w_MO_free ({ frames := 1, cells := 0, slots := 0, locals := 22 }) (frP (dC, dI) [(g0, .inr (5, [.int 0, .int 0, .int (-1), .ref m3, .int 0, .ref m5, .ref m6, .ref m7, .ref m8, .ref m9, .ref m10, .ref m11, .ref m12, .ref m13, .ref m14, .ref m15, .ref m16, .ref m17, .ref m18, .ref m19, .ref m20, .int 0, .ref m22, .ref m23, .ref m24, .ref m25, .ref m26, .ref m27, .int 0, .ref m29]))] [] sz Bd [.ref g0]) (frQ (some (.int 24)) (fun t => va_P (dC, dI) cls_ [(g0, .inr (5, [.int 0, .int 0, .int (-1), .ref m3, .int 0, .ref m5, .ref m6, .ref m7, .ref m8, .ref m9, .ref m10, .ref m11, .ref m12, .ref m13, .ref m14, .ref m15, .ref m16, .ref m17, .ref m18, .ref m19, .ref m20, .int 0, .ref m22, .ref m23, .ref m24, .ref m25, .ref m26, .ref m27, .int 0, .ref m29]))] t.heap ∧ va_K (dC, dI) cls_ [] t ∧ va_D (va_A [(g0, .inr (5, [.int 0, .int 0, .int (-1), .ref m3, .int 0, .ref m5, .ref m6, .ref m7, .ref m8, .ref m9, .ref m10, .ref m11, .ref m12, .ref m13, .ref m14, .ref m15, .ref m16, .ref m17, .ref m18, .ref m19, .ref m20, .int 0, .ref m22, .ref m23, .ref m24, .ref m25, .ref m26, .ref m27, .int 0, .ref m29]))] sz) [(g0, .inr (5, [.int 0, .int 0, .int (-1), .ref m3, .int 0, .ref m5, .ref m6, .ref m7, .ref m8, .ref m9, .ref m10, .ref m11, .ref m12, .ref m13, .ref m14, .ref m15, .ref m16, .ref m17, .ref m18, .ref m19, .ref m20, .int 0, .ref m22, .ref m23, .ref m24, .ref m25, .ref m26, .ref m27, .int 0, .ref m29]))]) (va_A [(g0, .inr (5, [.int 0, .int 0, .int (-1), .ref m3, .int 0, .ref m5, .ref m6, .ref m7, .ref m8, .ref m9, .ref m10, .ref m11, .ref m12, .ref m13, .ref m14, .ref m15, .ref m16, .ref m17, .ref m18, .ref m19, .ref m20, .int 0, .ref m22, .ref m23, .ref m24, .ref m25, .ref m26, .ref m27, .int 0, .ref m29]))] sz)) 0 0 (va_A [(g0, .inr (5, [.int 0, .int 0, .int (-1), .ref m3, .int 0, .ref m5, .ref m6, .ref m7, .ref m8, .ref m9, .ref m10, .ref m11, .ref m12, .ref m13, .ref m14, .ref m15, .ref m16, .ref m17, .ref m18, .ref m19, .ref m20, .int 0, .ref m22, .ref m23, .ref m24, .ref m25, .ref m26, .ref m27, .int 0, .ref m29]))] sz) := by
  refine Met.ofW (cc := c_MO_free) (maxL := 1) (ret := (some .int)) (by decide) rfl ?_
  intro p e s m args below meth c s₁ B hml hv
  obtain ⟨rfl, ⟨hsz, hBs⟩, hP, hK, hD0, hV⟩ := hv
  have hx := B.exec
  have hb := B.bytes
  have hr := B.returns
  have ht : ∀ w ∈ tb_, w.before _ s = true := fun w h => atoms_spec (ws := w_MO_free) B.pre w (List.mem_cons_of_mem _ h)
  have hown : s.vm.findClass R_MO = some m.cls := findClass_of_methodNamed B.named
  have hlocks := B.notSynchronized
  subst hsz
  have hD := hD0.self (sz := s.heap.size)
  have hAB : ∀ q, va_A [(g0, .inr (5, [.int 0, .int 0, .int (-1), .ref m3, .int 0, .ref m5, .ref m6, .ref m7, .ref m8, .ref m9, .ref m10, .ref m11, .ref m12, .ref m13, .ref m14, .ref m15, .ref m16, .ref m17, .ref m18, .ref m19, .ref m20, .int 0, .ref m22, .ref m23, .ref m24, .ref m25, .ref m26, .ref m27, .int 0, .ref m29]))] s.heap.size q → Bd ≤ q := fr_AB hD0 hBs
  generalize hAe : va_A [(g0, .inr (5, [.int 0, .int 0, .int (-1), .ref m3, .int 0, .ref m5, .ref m6, .ref m7, .ref m8, .ref m9, .ref m10, .ref m11, .ref m12, .ref m13, .ref m14, .ref m15, .ref m16, .ref m17, .ref m18, .ref m19, .ref m20, .int 0, .ref m22, .ref m23, .ref m24, .ref m25, .ref m26, .ref m27, .int 0, .ref m29]))] s.heap.size = A at hD hAB ⊢
  have hA : ∀ q : Nat, s.heap.size ≤ q → A q := fun q h => by rw [← hAe]; exact Or.inr h
  have hS : va_S A s.heap s.heap [] := va_S.rf
  have hAO := hV.2.2.2.1
  have hN_PL := hV.2.2.1.1
  have hN_RW := hV.2.2.1.2
  have hP : va_P (dC, dI) cls_ [(g0, .inr (5, [.int 0, .int 0, .int (-1), .ref m3, .int 0, .ref m5, .ref m6, .ref m7, .ref m8, .ref m9, .ref m10, .ref m11, .ref m12, .ref m13, .ref m14, .ref m15, .ref m16, .ref m17, .ref m18, .ref m19, .ref m20, .int 0, .ref m22, .ref m23, .ref m24, .ref m25, .ref m26, .ref m27, .int 0, .ref m29]))] s.heap := hP
  have hl := lv_entry ([.ref g0]) (n := 1) (Nat.le_of_ble_eq_true rfl)
  rw [lg_entry_eq]
  generalize (lg_sl ([.ref g0]) ++ List.replicate (1 - (lg_sl ([.ref g0])).length) Slot.unset).toArray = ls at hl ⊢
  have hl : lv_has ls 1 [(0, .ref g0)] := hl
  refine lv_aload_n hx hb d_MO_free_0 rfl (lv_at hl 0 rfl) ?_
  refine lv_iconst (v := 0) hx hb d_MO_free_1 (by decide) ?_
  refine va_put (D := (dC, dI)) (ci := 5) (v := .int 0) (ty := .int) (C := R_MO) (T := F_MO) (N := 30) hx hb ht in_MO t_MO t_MO_ok n_MO hown hK hP hD hS 0 rfl rfl 0 (by decide) (ht _ tb_631) (fun _ h9 => h9) rfl (by decide +kernel) rfl rfl (Nat.le_of_ble_eq_true rfl) d_MO_free_2 (fun H locs hP hD hS => ?_)
  have hP : va_P (dC, dI) cls_ [(g0, .inr (5, [.int 0, .int 0, .int (-1), .ref m3, .int 0, .ref m5, .ref m6, .ref m7, .ref m8, .ref m9, .ref m10, .ref m11, .ref m12, .ref m13, .ref m14, .ref m15, .ref m16, .ref m17, .ref m18, .ref m19, .ref m20, .int 0, .ref m22, .ref m23, .ref m24, .ref m25, .ref m26, .ref m27, .int 0, .ref m29]))] H := hP
  have hD : va_D A [(g0, .inr (5, [.int 0, .int 0, .int (-1), .ref m3, .int 0, .ref m5, .ref m6, .ref m7, .ref m8, .ref m9, .ref m10, .ref m11, .ref m12, .ref m13, .ref m14, .ref m15, .ref m16, .ref m17, .ref m18, .ref m19, .ref m20, .int 0, .ref m22, .ref m23, .ref m24, .ref m25, .ref m26, .ref m27, .int 0, .ref m29]))] := hD
  refine lv_aload_n hx hb d_MO_free_5 rfl (lv_at hl 0 rfl) ?_
  have hPc := hP.sub (ws' := [(g0, .inr (5, [.int 0, .int 0, .int (-1), .ref m3, .int 0, .ref m5, .ref m6, .ref m7, .ref m8, .ref m9, .ref m10, .ref m11, .ref m12, .ref m13, .ref m14, .ref m15, .ref m16, .ref m17, .ref m18, .ref m19, .ref m20, .int 0, .ref m22, .ref m23, .ref m24, .ref m25, .ref m26, .ref m27, .int 0, .ref m29]))]) [0] rfl
  have hKc := hK.sub (tys' := []) [] rfl
  refine rd_call (va_runV (C := R_MO) (As := []) (rest := []) ⟨hx, hb, hml, hown, ht⟩ (c_MO_freeSegments_0 l dC dI g0 m3 m5 m6 m7 m8 m9 m10 m11 m12 m13 m14 m15 m16 m17 m18 m19 m20 m22 m23 m24 m25 m26 m27 m29) (cwV 0 ht (gV tb_824 tb_826 ts_39 tb_5 tb_827) rfl rfl rfl (by decide +kernel) ⟨Nat.le_of_ble_eq_true rfl, Nat.le_of_ble_eq_true rfl⟩) ⟨rdP_blind, va_recv (q := (R_MO, F_MO, 30)) hK hP rfl (show ([(g0, .inr (5, [.int 0, .int 0, .int (-1), .ref m3, .int 0, .ref m5, .ref m6, .ref m7, .ref m8, .ref m9, .ref m10, .ref m11, .ref m12, .ref m13, .ref m14, .ref m15, .ref m16, .ref m17, .ref m18, .ref m19, .ref m20, .int 0, .ref m22, .ref m23, .ref m24, .ref m25, .ref m26, .ref m27, .int 0, .ref m29]))] : va_W)[0]? = some (g0, .inr (5, [.int 0, .int 0, .int (-1), .ref m3, .int 0, .ref m5, .ref m6, .ref m7, .ref m8, .ref m9, .ref m10, .ref m11, .ref m12, .ref m13, .ref m14, .ref m15, .ref m16, .ref m17, .ref m18, .ref m19, .ref m20, .int 0, .ref m22, .ref m23, .ref m24, .ref m25, .ref m26, .ref m27, .int 0, .ref m29])) from rfl), rd_pre hPc hKc⟩ rfl rfl hl.1 rfl (lv_room (Nat.le_of_ble_eq_true rfl)) d_MO_free_6 ⟨Nat.le_of_ble_eq_true rfl, Nat.le_of_ble_eq_true rfl⟩) ?_
  refine W.eq (g2 := F0 m 9 ls [.int 24]) rfl ?_
  have hP9 := hP.sub (ws' := [(g0, .inr (5, [.int 0, .int 0, .int (-1), .ref m3, .int 0, .ref m5, .ref m6, .ref m7, .ref m8, .ref m9, .ref m10, .ref m11, .ref m12, .ref m13, .ref m14, .ref m15, .ref m16, .ref m17, .ref m18, .ref m19, .ref m20, .int 0, .ref m22, .ref m23, .ref m24, .ref m25, .ref m26, .ref m27, .int 0, .ref m29]))]) [0] rfl
  have hD9 := hD.sub (ws' := [(g0, .inr (5, [.int 0, .int 0, .int (-1), .ref m3, .int 0, .ref m5, .ref m6, .ref m7, .ref m8, .ref m9, .ref m10, .ref m11, .ref m12, .ref m13, .ref m14, .ref m15, .ref m16, .ref m17, .ref m18, .ref m19, .ref m20, .int 0, .ref m22, .ref m23, .ref m24, .ref m25, .ref m26, .ref m27, .int 0, .ref m29]))]) [0] (by decide) rfl
  have hK9 := hK.sub (tys' := []) [] rfl
  exact W.iret (v := 24) hx hb hr (fun t ht9 hW => ⟨rfl, ⟨by rw [ht9]; exact hP9, va_K.moved hW.alike hK9, hD9⟩, hS.F ht9⟩) hS.2.2 d_MO_free_9
set_option maxHeartbeats 4000000 in
set_option maxRecDepth 100000 in
theorem c_MO_round_0 (l : Launch) (dC : Nat → ClassId) (dI : Nat → Nat → Nat) (g0 m3 m5 m6 m7 m8 m9 m10 m11 m12 m13 m14 m15 m16 m17 m18 m19 m20 m22 m23 m24 m25 m26 m27 m29 : Nat) (fa nw x : Int32) : Met l y_MO_round w_MO_round ({ frames := 0, cells := 0, slots := 0, locals := 0 }) (rdP (dC, dI) [(g0, .inr (5, [.int fa, .int nw, .int (-1), .ref m3, .int 0, .ref m5, .ref m6, .ref m7, .ref m8, .ref m9, .ref m10, .ref m11, .ref m12, .ref m13, .ref m14, .ref m15, .ref m16, .ref m17, .ref m18, .ref m19, .ref m20, .int 0, .ref m22, .ref m23, .ref m24, .ref m25, .ref m26, .ref m27, .int 0, .ref m29]))] [] [.ref g0, .int x]) (rd_Q none) 0 0 (fun _ => False) := by
  refine Met.ofW (cc := c_MO_round) (maxL := 4) (ret := none) (by decide) rfl ?_
  intro p e s m args below meth c s₁ B hml hv
  obtain ⟨rfl, hP, hK⟩ := hv
  have hx := B.exec
  have hb := B.bytes
  have hr := B.returns
  have ht : ∀ w ∈ tb_, w.before _ s = true := fun w h => atoms_spec (ws := w_MO_round) B.pre w (List.mem_cons_of_mem _ h)
  have hown : s.vm.findClass R_MO = some m.cls := findClass_of_methodNamed B.named
  have hlocks := B.notSynchronized
  have hP : va_P (dC, dI) cls_ [(g0, .inr (5, [.int fa, .int nw, .int (-1), .ref m3, .int 0, .ref m5, .ref m6, .ref m7, .ref m8, .ref m9, .ref m10, .ref m11, .ref m12, .ref m13, .ref m14, .ref m15, .ref m16, .ref m17, .ref m18, .ref m19, .ref m20, .int 0, .ref m22, .ref m23, .ref m24, .ref m25, .ref m26, .ref m27, .int 0, .ref m29]))] s.heap := hP
  have hl := lv_entry ([.ref g0, .int x]) (n := 4) (Nat.le_of_ble_eq_true rfl)
  rw [lg_entry_eq]
  generalize (lg_sl ([.ref g0, .int x]) ++ List.replicate (4 - (lg_sl ([.ref g0, .int x])).length) Slot.unset).toArray = ls at hl ⊢
  have hl : lv_has ls 4 [(0, .ref g0), (1, .int x)] := hl
  refine lv_bipush (v := 9) hx hb d_MO_round_0 (by decide) ?_
  refine lv_istore_n hx hb d_MO_round_2 rfl hl (by decide) rfl (fun ls hl => ?_)
  have hl : lv_has ls 4 [(2, .int 9), (0, .ref g0), (1, .int x)] := hl
  refine lv_iload_n hx hb d_MO_round_3 rfl (lv_at hl 0 rfl) ?_
  refine lv_if_le (tgt := 100) hx hb d_MO_round_4 (by decide) (fun h9 => absurd h9 (by decide)) (fun _ => ?_)
  refine lv_iconst (v := 0) hx hb d_MO_round_7 (by decide) ?_
  refine lv_istore_n hx hb d_MO_round_8 rfl hl (by decide) rfl (fun ls hl => ?_)
  have hl : lv_has ls 4 [(3, .int 0), (2, .int 9), (0, .ref g0), (1, .int x)] := hl
  refine lv_iload_n hx hb d_MO_round_9 rfl (lv_at hl 0 rfl) ?_
  refine lv_aload_n hx hb d_MO_round_10 rfl (lv_at hl 2 rfl) ?_
  refine va_get (D := (dC, dI)) (ci := 5) (v := .int 0) (C := R_MO) (T := F_MO) (N := 30) hx hb ht in_MO hown hK hP 0 rfl rfl 4 (by decide) (ht _ tb_635) (fun _ h9 => h9) rfl d_MO_round_11 ?_
  refine lv_icmp_ge (tgt := 94) hx hb d_MO_round_14 (by decide) (fun _ => ?_) (fun h9 => absurd (by decide) h9)
  refine lv_iinc (k := 1) (v := 8) hx hb d_MO_round_94 hl rfl (by decide) (by decide) rfl (fun ls hl => ?_)
  have hl : lv_has ls 4 [(2, .int 8), (3, .int 0), (0, .ref g0), (1, .int x)] := hl
  refine lv_goto (tgt := 3) hx hb d_MO_round_97 (by decide) ?_
  refine lv_iload_n hx hb d_MO_round_3 rfl (lv_at hl 0 rfl) ?_
  refine lv_if_le (tgt := 100) hx hb d_MO_round_4 (by decide) (fun h9 => absurd h9 (by decide)) (fun _ => ?_)
  refine lv_iconst (v := 0) hx hb d_MO_round_7 (by decide) ?_
  refine lv_istore_n hx hb d_MO_round_8 rfl hl (by decide) rfl (fun ls hl => ?_)
  have hl : lv_has ls 4 [(3, .int 0), (2, .int 8), (0, .ref g0), (1, .int x)] := hl
  refine lv_iload_n hx hb d_MO_round_9 rfl (lv_at hl 0 rfl) ?_
  refine lv_aload_n hx hb d_MO_round_10 rfl (lv_at hl 2 rfl) ?_
  refine va_get (D := (dC, dI)) (ci := 5) (v := .int 0) (C := R_MO) (T := F_MO) (N := 30) hx hb ht in_MO hown hK hP 0 rfl rfl 4 (by decide) (ht _ tb_635) (fun _ h9 => h9) rfl d_MO_round_11 ?_
  refine lv_icmp_ge (tgt := 94) hx hb d_MO_round_14 (by decide) (fun _ => ?_) (fun h9 => absurd (by decide) h9)
  refine lv_iinc (k := 1) (v := 7) hx hb d_MO_round_94 hl rfl (by decide) (by decide) rfl (fun ls hl => ?_)
  have hl : lv_has ls 4 [(2, .int 7), (3, .int 0), (0, .ref g0), (1, .int x)] := hl
  refine lv_goto (tgt := 3) hx hb d_MO_round_97 (by decide) ?_
  refine lv_iload_n hx hb d_MO_round_3 rfl (lv_at hl 0 rfl) ?_
  refine lv_if_le (tgt := 100) hx hb d_MO_round_4 (by decide) (fun h9 => absurd h9 (by decide)) (fun _ => ?_)
  refine lv_iconst (v := 0) hx hb d_MO_round_7 (by decide) ?_
  refine lv_istore_n hx hb d_MO_round_8 rfl hl (by decide) rfl (fun ls hl => ?_)
  have hl : lv_has ls 4 [(3, .int 0), (2, .int 7), (0, .ref g0), (1, .int x)] := hl
  refine lv_iload_n hx hb d_MO_round_9 rfl (lv_at hl 0 rfl) ?_
  refine lv_aload_n hx hb d_MO_round_10 rfl (lv_at hl 2 rfl) ?_
  refine va_get (D := (dC, dI)) (ci := 5) (v := .int 0) (C := R_MO) (T := F_MO) (N := 30) hx hb ht in_MO hown hK hP 0 rfl rfl 4 (by decide) (ht _ tb_635) (fun _ h9 => h9) rfl d_MO_round_11 ?_
  refine lv_icmp_ge (tgt := 94) hx hb d_MO_round_14 (by decide) (fun _ => ?_) (fun h9 => absurd (by decide) h9)
  refine lv_iinc (k := 1) (v := 6) hx hb d_MO_round_94 hl rfl (by decide) (by decide) rfl (fun ls hl => ?_)
  have hl : lv_has ls 4 [(2, .int 6), (3, .int 0), (0, .ref g0), (1, .int x)] := hl
  refine lv_goto (tgt := 3) hx hb d_MO_round_97 (by decide) ?_
  refine lv_iload_n hx hb d_MO_round_3 rfl (lv_at hl 0 rfl) ?_
  refine lv_if_le (tgt := 100) hx hb d_MO_round_4 (by decide) (fun h9 => absurd h9 (by decide)) (fun _ => ?_)
  refine lv_iconst (v := 0) hx hb d_MO_round_7 (by decide) ?_
  refine lv_istore_n hx hb d_MO_round_8 rfl hl (by decide) rfl (fun ls hl => ?_)
  have hl : lv_has ls 4 [(3, .int 0), (2, .int 6), (0, .ref g0), (1, .int x)] := hl
  refine lv_iload_n hx hb d_MO_round_9 rfl (lv_at hl 0 rfl) ?_
  refine lv_aload_n hx hb d_MO_round_10 rfl (lv_at hl 2 rfl) ?_
  refine va_get (D := (dC, dI)) (ci := 5) (v := .int 0) (C := R_MO) (T := F_MO) (N := 30) hx hb ht in_MO hown hK hP 0 rfl rfl 4 (by decide) (ht _ tb_635) (fun _ h9 => h9) rfl d_MO_round_11 ?_
  refine lv_icmp_ge (tgt := 94) hx hb d_MO_round_14 (by decide) (fun _ => ?_) (fun h9 => absurd (by decide) h9)
  refine lv_iinc (k := 1) (v := 5) hx hb d_MO_round_94 hl rfl (by decide) (by decide) rfl (fun ls hl => ?_)
  have hl : lv_has ls 4 [(2, .int 5), (3, .int 0), (0, .ref g0), (1, .int x)] := hl
  refine lv_goto (tgt := 3) hx hb d_MO_round_97 (by decide) ?_
  refine lv_iload_n hx hb d_MO_round_3 rfl (lv_at hl 0 rfl) ?_
  refine lv_if_le (tgt := 100) hx hb d_MO_round_4 (by decide) (fun h9 => absurd h9 (by decide)) (fun _ => ?_)
  refine lv_iconst (v := 0) hx hb d_MO_round_7 (by decide) ?_
  refine lv_istore_n hx hb d_MO_round_8 rfl hl (by decide) rfl (fun ls hl => ?_)
  have hl : lv_has ls 4 [(3, .int 0), (2, .int 5), (0, .ref g0), (1, .int x)] := hl
  refine lv_iload_n hx hb d_MO_round_9 rfl (lv_at hl 0 rfl) ?_
  refine lv_aload_n hx hb d_MO_round_10 rfl (lv_at hl 2 rfl) ?_
  refine va_get (D := (dC, dI)) (ci := 5) (v := .int 0) (C := R_MO) (T := F_MO) (N := 30) hx hb ht in_MO hown hK hP 0 rfl rfl 4 (by decide) (ht _ tb_635) (fun _ h9 => h9) rfl d_MO_round_11 ?_
  refine lv_icmp_ge (tgt := 94) hx hb d_MO_round_14 (by decide) (fun _ => ?_) (fun h9 => absurd (by decide) h9)
  refine lv_iinc (k := 1) (v := 4) hx hb d_MO_round_94 hl rfl (by decide) (by decide) rfl (fun ls hl => ?_)
  have hl : lv_has ls 4 [(2, .int 4), (3, .int 0), (0, .ref g0), (1, .int x)] := hl
  refine lv_goto (tgt := 3) hx hb d_MO_round_97 (by decide) ?_
  refine lv_iload_n hx hb d_MO_round_3 rfl (lv_at hl 0 rfl) ?_
  refine lv_if_le (tgt := 100) hx hb d_MO_round_4 (by decide) (fun h9 => absurd h9 (by decide)) (fun _ => ?_)
  refine lv_iconst (v := 0) hx hb d_MO_round_7 (by decide) ?_
  refine lv_istore_n hx hb d_MO_round_8 rfl hl (by decide) rfl (fun ls hl => ?_)
  have hl : lv_has ls 4 [(3, .int 0), (2, .int 4), (0, .ref g0), (1, .int x)] := hl
  refine lv_iload_n hx hb d_MO_round_9 rfl (lv_at hl 0 rfl) ?_
  refine lv_aload_n hx hb d_MO_round_10 rfl (lv_at hl 2 rfl) ?_
  refine va_get (D := (dC, dI)) (ci := 5) (v := .int 0) (C := R_MO) (T := F_MO) (N := 30) hx hb ht in_MO hown hK hP 0 rfl rfl 4 (by decide) (ht _ tb_635) (fun _ h9 => h9) rfl d_MO_round_11 ?_
  refine lv_icmp_ge (tgt := 94) hx hb d_MO_round_14 (by decide) (fun _ => ?_) (fun h9 => absurd (by decide) h9)
  refine lv_iinc (k := 1) (v := 3) hx hb d_MO_round_94 hl rfl (by decide) (by decide) rfl (fun ls hl => ?_)
  have hl : lv_has ls 4 [(2, .int 3), (3, .int 0), (0, .ref g0), (1, .int x)] := hl
  refine lv_goto (tgt := 3) hx hb d_MO_round_97 (by decide) ?_
  refine lv_iload_n hx hb d_MO_round_3 rfl (lv_at hl 0 rfl) ?_
  refine lv_if_le (tgt := 100) hx hb d_MO_round_4 (by decide) (fun h9 => absurd h9 (by decide)) (fun _ => ?_)
  refine lv_iconst (v := 0) hx hb d_MO_round_7 (by decide) ?_
  refine lv_istore_n hx hb d_MO_round_8 rfl hl (by decide) rfl (fun ls hl => ?_)
  have hl : lv_has ls 4 [(3, .int 0), (2, .int 3), (0, .ref g0), (1, .int x)] := hl
  refine lv_iload_n hx hb d_MO_round_9 rfl (lv_at hl 0 rfl) ?_
  refine lv_aload_n hx hb d_MO_round_10 rfl (lv_at hl 2 rfl) ?_
  refine va_get (D := (dC, dI)) (ci := 5) (v := .int 0) (C := R_MO) (T := F_MO) (N := 30) hx hb ht in_MO hown hK hP 0 rfl rfl 4 (by decide) (ht _ tb_635) (fun _ h9 => h9) rfl d_MO_round_11 ?_
  refine lv_icmp_ge (tgt := 94) hx hb d_MO_round_14 (by decide) (fun _ => ?_) (fun h9 => absurd (by decide) h9)
  refine lv_iinc (k := 1) (v := 2) hx hb d_MO_round_94 hl rfl (by decide) (by decide) rfl (fun ls hl => ?_)
  have hl : lv_has ls 4 [(2, .int 2), (3, .int 0), (0, .ref g0), (1, .int x)] := hl
  refine lv_goto (tgt := 3) hx hb d_MO_round_97 (by decide) ?_
  refine lv_iload_n hx hb d_MO_round_3 rfl (lv_at hl 0 rfl) ?_
  refine lv_if_le (tgt := 100) hx hb d_MO_round_4 (by decide) (fun h9 => absurd h9 (by decide)) (fun _ => ?_)
  refine lv_iconst (v := 0) hx hb d_MO_round_7 (by decide) ?_
  refine lv_istore_n hx hb d_MO_round_8 rfl hl (by decide) rfl (fun ls hl => ?_)
  have hl : lv_has ls 4 [(3, .int 0), (2, .int 2), (0, .ref g0), (1, .int x)] := hl
  refine lv_iload_n hx hb d_MO_round_9 rfl (lv_at hl 0 rfl) ?_
  refine lv_aload_n hx hb d_MO_round_10 rfl (lv_at hl 2 rfl) ?_
  refine va_get (D := (dC, dI)) (ci := 5) (v := .int 0) (C := R_MO) (T := F_MO) (N := 30) hx hb ht in_MO hown hK hP 0 rfl rfl 4 (by decide) (ht _ tb_635) (fun _ h9 => h9) rfl d_MO_round_11 ?_
  refine lv_icmp_ge (tgt := 94) hx hb d_MO_round_14 (by decide) (fun _ => ?_) (fun h9 => absurd (by decide) h9)
  refine lv_iinc (k := 1) (v := 1) hx hb d_MO_round_94 hl rfl (by decide) (by decide) rfl (fun ls hl => ?_)
  have hl : lv_has ls 4 [(2, .int 1), (3, .int 0), (0, .ref g0), (1, .int x)] := hl
  refine lv_goto (tgt := 3) hx hb d_MO_round_97 (by decide) ?_
  refine lv_iload_n hx hb d_MO_round_3 rfl (lv_at hl 0 rfl) ?_
  refine lv_if_le (tgt := 100) hx hb d_MO_round_4 (by decide) (fun h9 => absurd h9 (by decide)) (fun _ => ?_)
  refine lv_iconst (v := 0) hx hb d_MO_round_7 (by decide) ?_
  refine lv_istore_n hx hb d_MO_round_8 rfl hl (by decide) rfl (fun ls hl => ?_)
  have hl : lv_has ls 4 [(3, .int 0), (2, .int 1), (0, .ref g0), (1, .int x)] := hl
  refine lv_iload_n hx hb d_MO_round_9 rfl (lv_at hl 0 rfl) ?_
  refine lv_aload_n hx hb d_MO_round_10 rfl (lv_at hl 2 rfl) ?_
  refine va_get (D := (dC, dI)) (ci := 5) (v := .int 0) (C := R_MO) (T := F_MO) (N := 30) hx hb ht in_MO hown hK hP 0 rfl rfl 4 (by decide) (ht _ tb_635) (fun _ h9 => h9) rfl d_MO_round_11 ?_
  refine lv_icmp_ge (tgt := 94) hx hb d_MO_round_14 (by decide) (fun _ => ?_) (fun h9 => absurd (by decide) h9)
  refine lv_iinc (k := 1) (v := 0) hx hb d_MO_round_94 hl rfl (by decide) (by decide) rfl (fun ls hl => ?_)
  have hl : lv_has ls 4 [(2, .int 0), (3, .int 0), (0, .ref g0), (1, .int x)] := hl
  refine lv_goto (tgt := 3) hx hb d_MO_round_97 (by decide) ?_
  refine lv_iload_n hx hb d_MO_round_3 rfl (lv_at hl 0 rfl) ?_
  refine lv_if_le (tgt := 100) hx hb d_MO_round_4 (by decide) (fun _ => ?_) (fun h9 => absurd (by decide) h9)
  exact W.vret hx hb hr (fun t ht9 hW => ⟨rfl, ht9⟩) (fun q h => by cases h) d_MO_round_100
set_option maxHeartbeats 4000000 in
set_option maxRecDepth 100000 in
theorem c_MO_plan_0 (l : Launch) (dC : Nat → ClassId) (dI : Nat → Nat → Nat) (sz Bd : Nat) (g0 m3 m5 m6 m7 m8 m9 m10 m11 m12 m13 m14 m15 m16 m17 m18 m19 m20 m22 m23 m24 m25 m26 m27 m29 : Nat) (fa nw : Int32) : Met l y_MO_plan w_MO_plan ({ frames := 1, cells := 0, slots := 0, locals := 23 }) (frP (dC, dI) [(g0, .inr (5, [.int fa, .int nw, .int (-1), .ref m3, .int 0, .ref m5, .ref m6, .ref m7, .ref m8, .ref m9, .ref m10, .ref m11, .ref m12, .ref m13, .ref m14, .ref m15, .ref m16, .ref m17, .ref m18, .ref m19, .ref m20, .int 0, .ref m22, .ref m23, .ref m24, .ref m25, .ref m26, .ref m27, .int 0, .ref m29]))] [] sz Bd [.ref g0]) (frQ none (fun t => va_P (dC, dI) cls_ [(g0, .inr (5, [.int fa, .int nw, .int (-1), .ref m3, .int 0, .ref m5, .ref m6, .ref m7, .ref m8, .ref m9, .ref m10, .ref m11, .ref m12, .ref m13, .ref m14, .ref m15, .ref m16, .ref m17, .ref m18, .ref m19, .ref m20, .int 0, .ref m22, .ref m23, .ref m24, .ref m25, .ref m26, .ref m27, .int 0, .ref m29]))] t.heap ∧ va_K (dC, dI) cls_ [] t ∧ va_D (va_A [(g0, .inr (5, [.int fa, .int nw, .int (-1), .ref m3, .int 0, .ref m5, .ref m6, .ref m7, .ref m8, .ref m9, .ref m10, .ref m11, .ref m12, .ref m13, .ref m14, .ref m15, .ref m16, .ref m17, .ref m18, .ref m19, .ref m20, .int 0, .ref m22, .ref m23, .ref m24, .ref m25, .ref m26, .ref m27, .int 0, .ref m29]))] sz) [(g0, .inr (5, [.int fa, .int nw, .int (-1), .ref m3, .int 0, .ref m5, .ref m6, .ref m7, .ref m8, .ref m9, .ref m10, .ref m11, .ref m12, .ref m13, .ref m14, .ref m15, .ref m16, .ref m17, .ref m18, .ref m19, .ref m20, .int 0, .ref m22, .ref m23, .ref m24, .ref m25, .ref m26, .ref m27, .int 0, .ref m29]))]) (va_A [(g0, .inr (5, [.int fa, .int nw, .int (-1), .ref m3, .int 0, .ref m5, .ref m6, .ref m7, .ref m8, .ref m9, .ref m10, .ref m11, .ref m12, .ref m13, .ref m14, .ref m15, .ref m16, .ref m17, .ref m18, .ref m19, .ref m20, .int 0, .ref m22, .ref m23, .ref m24, .ref m25, .ref m26, .ref m27, .int 0, .ref m29]))] sz)) 0 0 (va_A [(g0, .inr (5, [.int fa, .int nw, .int (-1), .ref m3, .int 0, .ref m5, .ref m6, .ref m7, .ref m8, .ref m9, .ref m10, .ref m11, .ref m12, .ref m13, .ref m14, .ref m15, .ref m16, .ref m17, .ref m18, .ref m19, .ref m20, .int 0, .ref m22, .ref m23, .ref m24, .ref m25, .ref m26, .ref m27, .int 0, .ref m29]))] sz) := by
  refine Met.ofW (cc := c_MO_plan) (maxL := 3) (ret := none) (by decide) rfl ?_
  intro p e s m args below meth c s₁ B hml hv
  obtain ⟨rfl, ⟨hsz, hBs⟩, hP, hK, hD0, hV⟩ := hv
  have hx := B.exec
  have hb := B.bytes
  have hr := B.returns
  have ht : ∀ w ∈ tb_, w.before _ s = true := fun w h => atoms_spec (ws := w_MO_plan) B.pre w (List.mem_cons_of_mem _ h)
  have hown : s.vm.findClass R_MO = some m.cls := findClass_of_methodNamed B.named
  have hlocks := B.notSynchronized
  subst hsz
  have hD := hD0.self (sz := s.heap.size)
  have hAB : ∀ q, va_A [(g0, .inr (5, [.int fa, .int nw, .int (-1), .ref m3, .int 0, .ref m5, .ref m6, .ref m7, .ref m8, .ref m9, .ref m10, .ref m11, .ref m12, .ref m13, .ref m14, .ref m15, .ref m16, .ref m17, .ref m18, .ref m19, .ref m20, .int 0, .ref m22, .ref m23, .ref m24, .ref m25, .ref m26, .ref m27, .int 0, .ref m29]))] s.heap.size q → Bd ≤ q := fr_AB hD0 hBs
  generalize hAe : va_A [(g0, .inr (5, [.int fa, .int nw, .int (-1), .ref m3, .int 0, .ref m5, .ref m6, .ref m7, .ref m8, .ref m9, .ref m10, .ref m11, .ref m12, .ref m13, .ref m14, .ref m15, .ref m16, .ref m17, .ref m18, .ref m19, .ref m20, .int 0, .ref m22, .ref m23, .ref m24, .ref m25, .ref m26, .ref m27, .int 0, .ref m29]))] s.heap.size = A at hD hAB ⊢
  have hA : ∀ q : Nat, s.heap.size ≤ q → A q := fun q h => by rw [← hAe]; exact Or.inr h
  have hS : va_S A s.heap s.heap [] := va_S.rf
  have hAO := hV.2.2.2.1
  have hN_PL := hV.2.2.1.1
  have hN_RW := hV.2.2.1.2
  have hP : va_P (dC, dI) cls_ [(g0, .inr (5, [.int fa, .int nw, .int (-1), .ref m3, .int 0, .ref m5, .ref m6, .ref m7, .ref m8, .ref m9, .ref m10, .ref m11, .ref m12, .ref m13, .ref m14, .ref m15, .ref m16, .ref m17, .ref m18, .ref m19, .ref m20, .int 0, .ref m22, .ref m23, .ref m24, .ref m25, .ref m26, .ref m27, .int 0, .ref m29]))] s.heap := hP
  have hl := lv_entry ([.ref g0]) (n := 3) (Nat.le_of_ble_eq_true rfl)
  rw [lg_entry_eq]
  generalize (lg_sl ([.ref g0]) ++ List.replicate (3 - (lg_sl ([.ref g0])).length) Slot.unset).toArray = ls at hl ⊢
  have hl : lv_has ls 3 [(0, .ref g0)] := hl
  refine lv_aload_n hx hb d_MO_plan_0 rfl (lv_at hl 0 rfl) ?_
  refine lv_iconst (v := 0) hx hb d_MO_plan_1 (by decide) ?_
  refine va_put (D := (dC, dI)) (ci := 5) (v := .int 0) (ty := .int) (C := R_MO) (T := F_MO) (N := 30) hx hb ht in_MO t_MO t_MO_ok n_MO hown hK hP hD hS 0 rfl rfl 21 (by decide) (ht _ tb_652) (fun _ h9 => h9) rfl (by decide +kernel) rfl rfl (Nat.le_of_ble_eq_true rfl) d_MO_plan_2 (fun H locs hP hD hS => ?_)
  have hP : va_P (dC, dI) cls_ [(g0, .inr (5, [.int fa, .int nw, .int (-1), .ref m3, .int 0, .ref m5, .ref m6, .ref m7, .ref m8, .ref m9, .ref m10, .ref m11, .ref m12, .ref m13, .ref m14, .ref m15, .ref m16, .ref m17, .ref m18, .ref m19, .ref m20, .int 0, .ref m22, .ref m23, .ref m24, .ref m25, .ref m26, .ref m27, .int 0, .ref m29]))] H := hP
  have hD : va_D A [(g0, .inr (5, [.int fa, .int nw, .int (-1), .ref m3, .int 0, .ref m5, .ref m6, .ref m7, .ref m8, .ref m9, .ref m10, .ref m11, .ref m12, .ref m13, .ref m14, .ref m15, .ref m16, .ref m17, .ref m18, .ref m19, .ref m20, .int 0, .ref m22, .ref m23, .ref m24, .ref m25, .ref m26, .ref m27, .int 0, .ref m29]))] := hD
  refine lv_iconst (v := 0) hx hb d_MO_plan_5 (by decide) ?_
  refine lv_istore_n hx hb d_MO_plan_6 rfl hl (by decide) rfl (fun ls hl => ?_)
  have hl : lv_has ls 3 [(1, .int 0), (0, .ref g0)] := hl
  refine lv_iload_n hx hb d_MO_plan_7 rfl (lv_at hl 0 rfl) ?_
  refine lv_aload_n hx hb d_MO_plan_8 rfl (lv_at hl 1 rfl) ?_
  refine va_get (D := (dC, dI)) (ci := 5) (v := .int 0) (C := R_MO) (T := F_MO) (N := 30) hx hb ht in_MO hown hK hP 0 rfl rfl 4 (by decide) (ht _ tb_635) (fun _ h9 => h9) rfl d_MO_plan_9 ?_
  refine lv_icmp_ge (tgt := 100) hx hb d_MO_plan_12 (by decide) (fun _ => ?_) (fun h9 => absurd (by decide) h9)
  refine lv_aload_n hx hb d_MO_plan_100 rfl (lv_at hl 1 rfl) ?_
  refine lv_iconst (v := 0) hx hb d_MO_plan_101 (by decide) ?_
  have hPc := hP.sub (ws' := [(g0, .inr (5, [.int fa, .int nw, .int (-1), .ref m3, .int 0, .ref m5, .ref m6, .ref m7, .ref m8, .ref m9, .ref m10, .ref m11, .ref m12, .ref m13, .ref m14, .ref m15, .ref m16, .ref m17, .ref m18, .ref m19, .ref m20, .int 0, .ref m22, .ref m23, .ref m24, .ref m25, .ref m26, .ref m27, .int 0, .ref m29]))]) [0] rfl
  have hKc := hK.sub (tys' := []) [] rfl
  refine rd_call (va_runV (C := R_MO) (As := [.int 0]) (rest := []) ⟨hx, hb, hml, hown, ht⟩ (c_MO_round_0 l dC dI g0 m3 m5 m6 m7 m8 m9 m10 m11 m12 m13 m14 m15 m16 m17 m18 m19 m20 m22 m23 m24 m25 m26 m27 m29 fa nw 0) (cwV 1 ht (gV tb_768 tb_770 ts_28 tb_5 tb_771) rfl rfl rfl (by decide +kernel) ⟨Nat.le_of_ble_eq_true rfl, Nat.le_of_ble_eq_true rfl⟩) ⟨rdP_blind, va_recv (q := (R_MO, F_MO, 30)) hK hP rfl (show ([(g0, .inr (5, [.int fa, .int nw, .int (-1), .ref m3, .int 0, .ref m5, .ref m6, .ref m7, .ref m8, .ref m9, .ref m10, .ref m11, .ref m12, .ref m13, .ref m14, .ref m15, .ref m16, .ref m17, .ref m18, .ref m19, .ref m20, .int 0, .ref m22, .ref m23, .ref m24, .ref m25, .ref m26, .ref m27, .int 0, .ref m29]))] : va_W)[0]? = some (g0, .inr (5, [.int fa, .int nw, .int (-1), .ref m3, .int 0, .ref m5, .ref m6, .ref m7, .ref m8, .ref m9, .ref m10, .ref m11, .ref m12, .ref m13, .ref m14, .ref m15, .ref m16, .ref m17, .ref m18, .ref m19, .ref m20, .int 0, .ref m22, .ref m23, .ref m24, .ref m25, .ref m26, .ref m27, .int 0, .ref m29])) from rfl), rd_pre hPc hKc⟩ rfl rfl hl.1 rfl (lv_room (Nat.le_of_ble_eq_true rfl)) d_MO_plan_102 ⟨Nat.le_of_ble_eq_true rfl, Nat.le_of_ble_eq_true rfl⟩) ?_
  refine W.eq (g2 := F0 m 105 ls []) rfl ?_
  refine lv_iconst (v := 0) hx hb d_MO_plan_105 (by decide) ?_
  refine lv_istore_n hx hb d_MO_plan_106 rfl hl (by decide) rfl (fun ls hl => ?_)
  have hl : lv_has ls 3 [(1, .int 0), (0, .ref g0)] := hl
  refine lv_iload_n hx hb d_MO_plan_107 rfl (lv_at hl 0 rfl) ?_
  refine lv_aload_n hx hb d_MO_plan_108 rfl (lv_at hl 1 rfl) ?_
  refine va_get (D := (dC, dI)) (ci := 5) (v := .int 0) (C := R_MO) (T := F_MO) (N := 30) hx hb ht in_MO hown hK hP 0 rfl rfl 4 (by decide) (ht _ tb_635) (fun _ h9 => h9) rfl d_MO_plan_109 ?_
  refine lv_icmp_ge (tgt := 148) hx hb d_MO_plan_112 (by decide) (fun _ => ?_) (fun h9 => absurd (by decide) h9)
  refine lv_aload_n hx hb d_MO_plan_148 rfl (lv_at hl 1 rfl) ?_
  refine lv_iconst (v := 1) hx hb d_MO_plan_149 (by decide) ?_
  have hPc := hP.sub (ws' := [(g0, .inr (5, [.int fa, .int nw, .int (-1), .ref m3, .int 0, .ref m5, .ref m6, .ref m7, .ref m8, .ref m9, .ref m10, .ref m11, .ref m12, .ref m13, .ref m14, .ref m15, .ref m16, .ref m17, .ref m18, .ref m19, .ref m20, .int 0, .ref m22, .ref m23, .ref m24, .ref m25, .ref m26, .ref m27, .int 0, .ref m29]))]) [0] rfl
  have hKc := hK.sub (tys' := []) [] rfl
  refine rd_call (va_runV (C := R_MO) (As := [.int 1]) (rest := []) ⟨hx, hb, hml, hown, ht⟩ (c_MO_round_0 l dC dI g0 m3 m5 m6 m7 m8 m9 m10 m11 m12 m13 m14 m15 m16 m17 m18 m19 m20 m22 m23 m24 m25 m26 m27 m29 fa nw 1) (cwV 1 ht (gV tb_768 tb_770 ts_28 tb_5 tb_771) rfl rfl rfl (by decide +kernel) ⟨Nat.le_of_ble_eq_true rfl, Nat.le_of_ble_eq_true rfl⟩) ⟨rdP_blind, va_recv (q := (R_MO, F_MO, 30)) hK hP rfl (show ([(g0, .inr (5, [.int fa, .int nw, .int (-1), .ref m3, .int 0, .ref m5, .ref m6, .ref m7, .ref m8, .ref m9, .ref m10, .ref m11, .ref m12, .ref m13, .ref m14, .ref m15, .ref m16, .ref m17, .ref m18, .ref m19, .ref m20, .int 0, .ref m22, .ref m23, .ref m24, .ref m25, .ref m26, .ref m27, .int 0, .ref m29]))] : va_W)[0]? = some (g0, .inr (5, [.int fa, .int nw, .int (-1), .ref m3, .int 0, .ref m5, .ref m6, .ref m7, .ref m8, .ref m9, .ref m10, .ref m11, .ref m12, .ref m13, .ref m14, .ref m15, .ref m16, .ref m17, .ref m18, .ref m19, .ref m20, .int 0, .ref m22, .ref m23, .ref m24, .ref m25, .ref m26, .ref m27, .int 0, .ref m29])) from rfl), rd_pre hPc hKc⟩ rfl rfl hl.1 rfl (lv_room (Nat.le_of_ble_eq_true rfl)) d_MO_plan_150 ⟨Nat.le_of_ble_eq_true rfl, Nat.le_of_ble_eq_true rfl⟩) ?_
  refine W.eq (g2 := F0 m 153 ls []) rfl ?_
  have hP9 := hP.sub (ws' := [(g0, .inr (5, [.int fa, .int nw, .int (-1), .ref m3, .int 0, .ref m5, .ref m6, .ref m7, .ref m8, .ref m9, .ref m10, .ref m11, .ref m12, .ref m13, .ref m14, .ref m15, .ref m16, .ref m17, .ref m18, .ref m19, .ref m20, .int 0, .ref m22, .ref m23, .ref m24, .ref m25, .ref m26, .ref m27, .int 0, .ref m29]))]) [0] rfl
  have hD9 := hD.sub (ws' := [(g0, .inr (5, [.int fa, .int nw, .int (-1), .ref m3, .int 0, .ref m5, .ref m6, .ref m7, .ref m8, .ref m9, .ref m10, .ref m11, .ref m12, .ref m13, .ref m14, .ref m15, .ref m16, .ref m17, .ref m18, .ref m19, .ref m20, .int 0, .ref m22, .ref m23, .ref m24, .ref m25, .ref m26, .ref m27, .int 0, .ref m29]))]) [0] (by decide) rfl
  have hK9 := hK.sub (tys' := []) [] rfl
  exact W.vret hx hb hr (fun t ht9 hW => ⟨rfl, ⟨by rw [ht9]; exact hP9, va_K.moved hW.alike hK9, hD9⟩, hS.F ht9⟩) hS.2.2 d_MO_plan_153
set_option maxHeartbeats 4000000 in
set_option maxRecDepth 100000 in
theorem c_MO_begin_0 (l : Launch) (dC : Nat → ClassId) (dI : Nat → Nat → Nat) (sz Bd : Nat) (g0 m3 m5 m6 m7 m8 m9 m10 m11 m12 m13 m14 m15 m16 m17 m18 m19 m20 m22 m23 m24 m25 m26 m27 m29 : Nat) (fa nw : Int32) : Met l y_MO_begin w_MO_begin ({ frames := 2, cells := 0, slots := 0, locals := 45 }) (frP (dC, dI) [(g0, .inr (5, [.int fa, .int nw, .int (-1), .ref m3, .int 0, .ref m5, .ref m6, .ref m7, .ref m8, .ref m9, .ref m10, .ref m11, .ref m12, .ref m13, .ref m14, .ref m15, .ref m16, .ref m17, .ref m18, .ref m19, .ref m20, .int 0, .ref m22, .ref m23, .ref m24, .ref m25, .ref m26, .ref m27, .int 0, .ref m29]))] [] sz Bd [.ref g0]) (frQ none (fun t => va_P (dC, dI) cls_ [(g0, .inr (5, [.int fa, .int nw, .int (-1), .ref m3, .int 0, .ref m5, .ref m6, .ref m7, .ref m8, .ref m9, .ref m10, .ref m11, .ref m12, .ref m13, .ref m14, .ref m15, .ref m16, .ref m17, .ref m18, .ref m19, .ref m20, .int 0, .ref m22, .ref m23, .ref m24, .ref m25, .ref m26, .ref m27, .int 0, .ref m29]))] t.heap ∧ va_K (dC, dI) cls_ [] t ∧ va_D (va_A [(g0, .inr (5, [.int fa, .int nw, .int (-1), .ref m3, .int 0, .ref m5, .ref m6, .ref m7, .ref m8, .ref m9, .ref m10, .ref m11, .ref m12, .ref m13, .ref m14, .ref m15, .ref m16, .ref m17, .ref m18, .ref m19, .ref m20, .int 0, .ref m22, .ref m23, .ref m24, .ref m25, .ref m26, .ref m27, .int 0, .ref m29]))] sz) [(g0, .inr (5, [.int fa, .int nw, .int (-1), .ref m3, .int 0, .ref m5, .ref m6, .ref m7, .ref m8, .ref m9, .ref m10, .ref m11, .ref m12, .ref m13, .ref m14, .ref m15, .ref m16, .ref m17, .ref m18, .ref m19, .ref m20, .int 0, .ref m22, .ref m23, .ref m24, .ref m25, .ref m26, .ref m27, .int 0, .ref m29]))]) (va_A [(g0, .inr (5, [.int fa, .int nw, .int (-1), .ref m3, .int 0, .ref m5, .ref m6, .ref m7, .ref m8, .ref m9, .ref m10, .ref m11, .ref m12, .ref m13, .ref m14, .ref m15, .ref m16, .ref m17, .ref m18, .ref m19, .ref m20, .int 0, .ref m22, .ref m23, .ref m24, .ref m25, .ref m26, .ref m27, .int 0, .ref m29]))] sz)) 0 0 (va_A [(g0, .inr (5, [.int fa, .int nw, .int (-1), .ref m3, .int 0, .ref m5, .ref m6, .ref m7, .ref m8, .ref m9, .ref m10, .ref m11, .ref m12, .ref m13, .ref m14, .ref m15, .ref m16, .ref m17, .ref m18, .ref m19, .ref m20, .int 0, .ref m22, .ref m23, .ref m24, .ref m25, .ref m26, .ref m27, .int 0, .ref m29]))] sz) := by
  refine Met.ofW (cc := c_MO_begin) (maxL := 2) (ret := none) (by decide) rfl ?_
  intro p e s m args below meth c s₁ B hml hv
  obtain ⟨rfl, ⟨hsz, hBs⟩, hP, hK, hD0, hV⟩ := hv
  have hx := B.exec
  have hb := B.bytes
  have hr := B.returns
  have ht : ∀ w ∈ tb_, w.before _ s = true := fun w h => atoms_spec (ws := w_MO_begin) B.pre w (List.mem_cons_of_mem _ h)
  have hown : s.vm.findClass R_MO = some m.cls := findClass_of_methodNamed B.named
  have hlocks := B.notSynchronized
  subst hsz
  have hD := hD0.self (sz := s.heap.size)
  have hAB : ∀ q, va_A [(g0, .inr (5, [.int fa, .int nw, .int (-1), .ref m3, .int 0, .ref m5, .ref m6, .ref m7, .ref m8, .ref m9, .ref m10, .ref m11, .ref m12, .ref m13, .ref m14, .ref m15, .ref m16, .ref m17, .ref m18, .ref m19, .ref m20, .int 0, .ref m22, .ref m23, .ref m24, .ref m25, .ref m26, .ref m27, .int 0, .ref m29]))] s.heap.size q → Bd ≤ q := fr_AB hD0 hBs
  generalize hAe : va_A [(g0, .inr (5, [.int fa, .int nw, .int (-1), .ref m3, .int 0, .ref m5, .ref m6, .ref m7, .ref m8, .ref m9, .ref m10, .ref m11, .ref m12, .ref m13, .ref m14, .ref m15, .ref m16, .ref m17, .ref m18, .ref m19, .ref m20, .int 0, .ref m22, .ref m23, .ref m24, .ref m25, .ref m26, .ref m27, .int 0, .ref m29]))] s.heap.size = A at hD hAB ⊢
  have hA : ∀ q : Nat, s.heap.size ≤ q → A q := fun q h => by rw [← hAe]; exact Or.inr h
  have hS : va_S A s.heap s.heap [] := va_S.rf
  have hAO := hV.2.2.2.1
  have hN_PL := hV.2.2.1.1
  have hN_RW := hV.2.2.1.2
  have hP : va_P (dC, dI) cls_ [(g0, .inr (5, [.int fa, .int nw, .int (-1), .ref m3, .int 0, .ref m5, .ref m6, .ref m7, .ref m8, .ref m9, .ref m10, .ref m11, .ref m12, .ref m13, .ref m14, .ref m15, .ref m16, .ref m17, .ref m18, .ref m19, .ref m20, .int 0, .ref m22, .ref m23, .ref m24, .ref m25, .ref m26, .ref m27, .int 0, .ref m29]))] s.heap := hP
  have hl := lv_entry ([.ref g0]) (n := 2) (Nat.le_of_ble_eq_true rfl)
  rw [lg_entry_eq]
  generalize (lg_sl ([.ref g0]) ++ List.replicate (2 - (lg_sl ([.ref g0])).length) Slot.unset).toArray = ls at hl ⊢
  have hl : lv_has ls 2 [(0, .ref g0)] := hl
  refine lv_aload_n hx hb d_MO_begin_0 rfl (lv_at hl 0 rfl) ?_
  have hPc := hP.sub (ws' := [(g0, .inr (5, [.int fa, .int nw, .int (-1), .ref m3, .int 0, .ref m5, .ref m6, .ref m7, .ref m8, .ref m9, .ref m10, .ref m11, .ref m12, .ref m13, .ref m14, .ref m15, .ref m16, .ref m17, .ref m18, .ref m19, .ref m20, .int 0, .ref m22, .ref m23, .ref m24, .ref m25, .ref m26, .ref m27, .int 0, .ref m29]))]) [0] rfl
  have hKc := hK.sub (tys' := []) [] rfl
  have hDc := hD.sub (ws' := [(g0, .inr (5, [.int fa, .int nw, .int (-1), .ref m3, .int 0, .ref m5, .ref m6, .ref m7, .ref m8, .ref m9, .ref m10, .ref m11, .ref m12, .ref m13, .ref m14, .ref m15, .ref m16, .ref m17, .ref m18, .ref m19, .ref m20, .int 0, .ref m22, .ref m23, .ref m24, .ref m25, .ref m26, .ref m27, .int 0, .ref m29]))]) [0] (by decide) rfl
  have hFc := va_free (wc := [(g0, .inr (5, [.int fa, .int nw, .int (-1), .ref m3, .int 0, .ref m5, .ref m6, .ref m7, .ref m8, .ref m9, .ref m10, .ref m11, .ref m12, .ref m13, .ref m14, .ref m15, .ref m16, .ref m17, .ref m18, .ref m19, .ref m20, .int 0, .ref m22, .ref m23, .ref m24, .ref m25, .ref m26, .ref m27, .int 0, .ref m29]))]) hD hS hA [0] rfl
  refine fr_call (va_runV (C := R_MO) (As := []) (rest := []) ⟨hx, hb, hml, hown, ht⟩ (c_MO_plan_0 l dC dI s.heap.size Bd g0 m3 m5 m6 m7 m8 m9 m10 m11 m12 m13 m14 m15 m16 m17 m18 m19 m20 m22 m23 m24 m25 m26 m27 m29 fa nw) (cwV 0 ht (gV tb_756 tb_758 ts_25 tb_5 tb_759) rfl rfl rfl (by decide +kernel) ⟨Nat.le_of_ble_eq_true rfl, Nat.le_of_ble_eq_true rfl⟩) ⟨frP_blind, va_recv (q := (R_MO, F_MO, 30)) hK hP rfl (show ([(g0, .inr (5, [.int fa, .int nw, .int (-1), .ref m3, .int 0, .ref m5, .ref m6, .ref m7, .ref m8, .ref m9, .ref m10, .ref m11, .ref m12, .ref m13, .ref m14, .ref m15, .ref m16, .ref m17, .ref m18, .ref m19, .ref m20, .int 0, .ref m22, .ref m23, .ref m24, .ref m25, .ref m26, .ref m27, .int 0, .ref m29]))] : va_W)[0]? = some (g0, .inr (5, [.int fa, .int nw, .int (-1), .ref m3, .int 0, .ref m5, .ref m6, .ref m7, .ref m8, .ref m9, .ref m10, .ref m11, .ref m12, .ref m13, .ref m14, .ref m15, .ref m16, .ref m17, .ref m18, .ref m19, .ref m20, .int 0, .ref m22, .ref m23, .ref m24, .ref m25, .ref m26, .ref m27, .int 0, .ref m29])) from rfl), fr_pre hPc hKc hDc hAB hBs hS hV⟩ rfl rfl hl.1 rfl (lv_room (Nat.le_of_ble_eq_true rfl)) d_MO_begin_1 ⟨Nat.le_of_ble_eq_true rfl, Nat.le_of_ble_eq_true rfl⟩) hS (fun q _ h => hFc q h) hFc (fun t H1 locs ht1 hvm hB1 hz1 hk1 hS => ?_)
  obtain ⟨hP1, hK1, hD1⟩ := hB1
  rw [ht1] at hP1
  have hK1 := va_K.moved hvm.symm hK1
  obtain ⟨hP, hD⟩ := va_join (wr := []) (w1 := [(g0, .inr (5, [.int fa, .int nw, .int (-1), .ref m3, .int 0, .ref m5, .ref m6, .ref m7, .ref m8, .ref m9, .ref m10, .ref m11, .ref m12, .ref m13, .ref m14, .ref m15, .ref m16, .ref m17, .ref m18, .ref m19, .ref m20, .int 0, .ref m22, .ref m23, .ref m24, .ref m25, .ref m26, .ref m27, .int 0, .ref m29]))]) hP hD [0] [] rfl rfl (by decide) (by decide) hk1 hFc hP1 hD1
  have hK := hK.app hK1
  generalize H1 = H at hP hS ⊢
  have hP : va_P (dC, dI) cls_ [(g0, .inr (5, [.int fa, .int nw, .int (-1), .ref m3, .int 0, .ref m5, .ref m6, .ref m7, .ref m8, .ref m9, .ref m10, .ref m11, .ref m12, .ref m13, .ref m14, .ref m15, .ref m16, .ref m17, .ref m18, .ref m19, .ref m20, .int 0, .ref m22, .ref m23, .ref m24, .ref m25, .ref m26, .ref m27, .int 0, .ref m29]))] H := hP
  have hD : va_D A [(g0, .inr (5, [.int fa, .int nw, .int (-1), .ref m3, .int 0, .ref m5, .ref m6, .ref m7, .ref m8, .ref m9, .ref m10, .ref m11, .ref m12, .ref m13, .ref m14, .ref m15, .ref m16, .ref m17, .ref m18, .ref m19, .ref m20, .int 0, .ref m22, .ref m23, .ref m24, .ref m25, .ref m26, .ref m27, .int 0, .ref m29]))] := hD
  have hK : va_K (dC, dI) cls_ [] s := hK
  refine W.eq (g2 := F0 m 4 ls []) rfl ?_
  refine W.cs (cells' := 0) (slots' := 0) rfl rfl ?_
  refine lv_iconst (v := 0) hx hb d_MO_begin_4 (by decide) ?_
  refine lv_istore_n hx hb d_MO_begin_5 rfl hl (by decide) rfl (fun ls hl => ?_)
  have hl : lv_has ls 2 [(1, .int 0), (0, .ref g0)] := hl
  refine lv_iload_n hx hb d_MO_begin_6 rfl (lv_at hl 0 rfl) ?_
  refine lv_aload_n hx hb d_MO_begin_7 rfl (lv_at hl 1 rfl) ?_
  refine va_get (D := (dC, dI)) (ci := 5) (v := .int 0) (C := R_MO) (T := F_MO) (N := 30) hx hb ht in_MO hown hK hP 0 rfl rfl 4 (by decide) (ht _ tb_635) (fun _ h9 => h9) rfl d_MO_begin_8 ?_
  refine lv_icmp_ge (tgt := 140) hx hb d_MO_begin_11 (by decide) (fun _ => ?_) (fun h9 => absurd (by decide) h9)
  have hP9 := hP.sub (ws' := [(g0, .inr (5, [.int fa, .int nw, .int (-1), .ref m3, .int 0, .ref m5, .ref m6, .ref m7, .ref m8, .ref m9, .ref m10, .ref m11, .ref m12, .ref m13, .ref m14, .ref m15, .ref m16, .ref m17, .ref m18, .ref m19, .ref m20, .int 0, .ref m22, .ref m23, .ref m24, .ref m25, .ref m26, .ref m27, .int 0, .ref m29]))]) [0] rfl
  have hD9 := hD.sub (ws' := [(g0, .inr (5, [.int fa, .int nw, .int (-1), .ref m3, .int 0, .ref m5, .ref m6, .ref m7, .ref m8, .ref m9, .ref m10, .ref m11, .ref m12, .ref m13, .ref m14, .ref m15, .ref m16, .ref m17, .ref m18, .ref m19, .ref m20, .int 0, .ref m22, .ref m23, .ref m24, .ref m25, .ref m26, .ref m27, .int 0, .ref m29]))]) [0] (by decide) rfl
  have hK9 := hK.sub (tys' := []) [] rfl
  exact W.vret hx hb hr (fun t ht9 hW => ⟨rfl, ⟨by rw [ht9]; exact hP9, va_K.moved hW.alike hK9, hD9⟩, hS.F ht9⟩) hS.2.2 d_MO_begin_140
set_option maxHeartbeats 4000000 in
set_option maxRecDepth 100000 in
theorem c_MO_tuned_0 (l : Launch) (dC : Nat → ClassId) (dI : Nat → Nat → Nat) (g0 m3 m5 m6 m7 m8 m9 m10 m11 m12 m13 m14 m15 m16 m17 m18 m19 m20 m22 m23 m24 m25 m26 m27 m29 : Nat) (fa nw : Int32) : Met l y_MO_tuned w_MO_tuned ({ frames := 0, cells := 0, slots := 0, locals := 0 }) (rdP (dC, dI) [(g0, .inr (5, [.int fa, .int nw, .int (-1), .ref m3, .int 0, .ref m5, .ref m6, .ref m7, .ref m8, .ref m9, .ref m10, .ref m11, .ref m12, .ref m13, .ref m14, .ref m15, .ref m16, .ref m17, .ref m18, .ref m19, .ref m20, .int 0, .ref m22, .ref m23, .ref m24, .ref m25, .ref m26, .ref m27, .int 0, .ref m29]))] [] [.ref g0]) (rd_Q (some (.int 0))) 0 0 (fun _ => False) := by
  refine Met.ofW (cc := c_MO_tuned) (maxL := 4) (ret := (some .int)) (by decide) rfl ?_
  intro p e s m args below meth c s₁ B hml hv
  obtain ⟨rfl, hP, hK⟩ := hv
  have hx := B.exec
  have hb := B.bytes
  have hr := B.returns
  have ht : ∀ w ∈ tb_, w.before _ s = true := fun w h => atoms_spec (ws := w_MO_tuned) B.pre w (List.mem_cons_of_mem _ h)
  have hown : s.vm.findClass R_MO = some m.cls := findClass_of_methodNamed B.named
  have hlocks := B.notSynchronized
  have hP : va_P (dC, dI) cls_ [(g0, .inr (5, [.int fa, .int nw, .int (-1), .ref m3, .int 0, .ref m5, .ref m6, .ref m7, .ref m8, .ref m9, .ref m10, .ref m11, .ref m12, .ref m13, .ref m14, .ref m15, .ref m16, .ref m17, .ref m18, .ref m19, .ref m20, .int 0, .ref m22, .ref m23, .ref m24, .ref m25, .ref m26, .ref m27, .int 0, .ref m29]))] s.heap := hP
  have hl := lv_entry ([.ref g0]) (n := 4) (Nat.le_of_ble_eq_true rfl)
  rw [lg_entry_eq]
  generalize (lg_sl ([.ref g0]) ++ List.replicate (4 - (lg_sl ([.ref g0])).length) Slot.unset).toArray = ls at hl ⊢
  have hl : lv_has ls 4 [(0, .ref g0)] := hl
  refine lv_iconst (v := 0) hx hb d_MO_tuned_0 (by decide) ?_
  refine lv_istore_n hx hb d_MO_tuned_1 rfl hl (by decide) rfl (fun ls hl => ?_)
  have hl : lv_has ls 4 [(1, .int 0), (0, .ref g0)] := hl
  refine lv_iconst (v := 0) hx hb d_MO_tuned_2 (by decide) ?_
  refine lv_istore_n hx hb d_MO_tuned_3 rfl hl (by decide) rfl (fun ls hl => ?_)
  have hl : lv_has ls 4 [(2, .int 0), (1, .int 0), (0, .ref g0)] := hl
  refine lv_iload_n hx hb d_MO_tuned_4 rfl (lv_at hl 0 rfl) ?_
  refine lv_aload_n hx hb d_MO_tuned_5 rfl (lv_at hl 2 rfl) ?_
  refine va_get (D := (dC, dI)) (ci := 5) (v := .int 0) (C := R_MO) (T := F_MO) (N := 30) hx hb ht in_MO hown hK hP 0 rfl rfl 4 (by decide) (ht _ tb_635) (fun _ h9 => h9) rfl d_MO_tuned_6 ?_
  refine lv_icmp_ge (tgt := 43) hx hb d_MO_tuned_9 (by decide) (fun _ => ?_) (fun h9 => absurd (by decide) h9)
  refine lv_iconst (v := 0) hx hb d_MO_tuned_43 (by decide) ?_
  refine lv_istore_n hx hb d_MO_tuned_44 rfl hl (by decide) rfl (fun ls hl => ?_)
  have hl : lv_has ls 4 [(2, .int 0), (1, .int 0), (0, .ref g0)] := hl
  refine lv_iconst (v := 0) hx hb d_MO_tuned_45 (by decide) ?_
  refine lv_istore_n hx hb d_MO_tuned_46 rfl hl (by decide) rfl (fun ls hl => ?_)
  have hl : lv_has ls 4 [(3, .int 0), (2, .int 0), (1, .int 0), (0, .ref g0)] := hl
  refine lv_iload_n hx hb d_MO_tuned_47 rfl (lv_at hl 0 rfl) ?_
  refine lv_bipush (v := 8) hx hb d_MO_tuned_48 (by decide) ?_
  refine lv_icmp_ge (tgt := 67) hx hb d_MO_tuned_50 (by decide) (fun h9 => absurd h9 (by decide)) (fun _ => ?_)
  refine lv_iload_n hx hb d_MO_tuned_53 rfl (lv_at hl 1 rfl) ?_
  refine lv_iload_n hx hb d_MO_tuned_54 rfl (lv_at hl 2 rfl) ?_
  refine lv_iload_n hx hb d_MO_tuned_55 rfl (lv_at hl 0 rfl) ?_
  refine lv_ishr hx hb d_MO_tuned_56 ?_
  refine lv_iconst (v := 1) hx hb d_MO_tuned_57 (by decide) ?_
  refine lv_iand hx hb d_MO_tuned_58 ?_
  refine lv_iadd hx hb d_MO_tuned_59 ?_
  refine lv_topi (fun v1 ev1 => ?_)
  obtain rfl : v1 = 0 := ev1.trans (by decide)
  refine lv_istore_n hx hb d_MO_tuned_60 rfl hl (by decide) rfl (fun ls hl => ?_)
  have hl : lv_has ls 4 [(2, .int 0), (3, .int 0), (1, .int 0), (0, .ref g0)] := hl
  refine lv_iinc (k := 1) (v := 1) hx hb d_MO_tuned_61 hl rfl (by decide) (by decide) rfl (fun ls hl => ?_)
  have hl : lv_has ls 4 [(3, .int 1), (2, .int 0), (1, .int 0), (0, .ref g0)] := hl
  refine lv_goto (tgt := 47) hx hb d_MO_tuned_64 (by decide) ?_
  refine lv_iload_n hx hb d_MO_tuned_47 rfl (lv_at hl 0 rfl) ?_
  refine lv_bipush (v := 8) hx hb d_MO_tuned_48 (by decide) ?_
  refine lv_icmp_ge (tgt := 67) hx hb d_MO_tuned_50 (by decide) (fun h9 => absurd h9 (by decide)) (fun _ => ?_)
  refine lv_iload_n hx hb d_MO_tuned_53 rfl (lv_at hl 1 rfl) ?_
  refine lv_iload_n hx hb d_MO_tuned_54 rfl (lv_at hl 2 rfl) ?_
  refine lv_iload_n hx hb d_MO_tuned_55 rfl (lv_at hl 0 rfl) ?_
  refine lv_ishr hx hb d_MO_tuned_56 ?_
  refine lv_iconst (v := 1) hx hb d_MO_tuned_57 (by decide) ?_
  refine lv_iand hx hb d_MO_tuned_58 ?_
  refine lv_iadd hx hb d_MO_tuned_59 ?_
  refine lv_topi (fun v2 ev2 => ?_)
  obtain rfl : v2 = 0 := ev2.trans (by decide)
  refine lv_istore_n hx hb d_MO_tuned_60 rfl hl (by decide) rfl (fun ls hl => ?_)
  have hl : lv_has ls 4 [(2, .int 0), (3, .int 1), (1, .int 0), (0, .ref g0)] := hl
  refine lv_iinc (k := 1) (v := 2) hx hb d_MO_tuned_61 hl rfl (by decide) (by decide) rfl (fun ls hl => ?_)
  have hl : lv_has ls 4 [(3, .int 2), (2, .int 0), (1, .int 0), (0, .ref g0)] := hl
  refine lv_goto (tgt := 47) hx hb d_MO_tuned_64 (by decide) ?_
  refine lv_iload_n hx hb d_MO_tuned_47 rfl (lv_at hl 0 rfl) ?_
  refine lv_bipush (v := 8) hx hb d_MO_tuned_48 (by decide) ?_
  refine lv_icmp_ge (tgt := 67) hx hb d_MO_tuned_50 (by decide) (fun h9 => absurd h9 (by decide)) (fun _ => ?_)
  refine lv_iload_n hx hb d_MO_tuned_53 rfl (lv_at hl 1 rfl) ?_
  refine lv_iload_n hx hb d_MO_tuned_54 rfl (lv_at hl 2 rfl) ?_
  refine lv_iload_n hx hb d_MO_tuned_55 rfl (lv_at hl 0 rfl) ?_
  refine lv_ishr hx hb d_MO_tuned_56 ?_
  refine lv_iconst (v := 1) hx hb d_MO_tuned_57 (by decide) ?_
  refine lv_iand hx hb d_MO_tuned_58 ?_
  refine lv_iadd hx hb d_MO_tuned_59 ?_
  refine lv_topi (fun v3 ev3 => ?_)
  obtain rfl : v3 = 0 := ev3.trans (by decide)
  refine lv_istore_n hx hb d_MO_tuned_60 rfl hl (by decide) rfl (fun ls hl => ?_)
  have hl : lv_has ls 4 [(2, .int 0), (3, .int 2), (1, .int 0), (0, .ref g0)] := hl
  refine lv_iinc (k := 1) (v := 3) hx hb d_MO_tuned_61 hl rfl (by decide) (by decide) rfl (fun ls hl => ?_)
  have hl : lv_has ls 4 [(3, .int 3), (2, .int 0), (1, .int 0), (0, .ref g0)] := hl
  refine lv_goto (tgt := 47) hx hb d_MO_tuned_64 (by decide) ?_
  refine lv_iload_n hx hb d_MO_tuned_47 rfl (lv_at hl 0 rfl) ?_
  refine lv_bipush (v := 8) hx hb d_MO_tuned_48 (by decide) ?_
  refine lv_icmp_ge (tgt := 67) hx hb d_MO_tuned_50 (by decide) (fun h9 => absurd h9 (by decide)) (fun _ => ?_)
  refine lv_iload_n hx hb d_MO_tuned_53 rfl (lv_at hl 1 rfl) ?_
  refine lv_iload_n hx hb d_MO_tuned_54 rfl (lv_at hl 2 rfl) ?_
  refine lv_iload_n hx hb d_MO_tuned_55 rfl (lv_at hl 0 rfl) ?_
  refine lv_ishr hx hb d_MO_tuned_56 ?_
  refine lv_iconst (v := 1) hx hb d_MO_tuned_57 (by decide) ?_
  refine lv_iand hx hb d_MO_tuned_58 ?_
  refine lv_iadd hx hb d_MO_tuned_59 ?_
  refine lv_topi (fun v4 ev4 => ?_)
  obtain rfl : v4 = 0 := ev4.trans (by decide)
  refine lv_istore_n hx hb d_MO_tuned_60 rfl hl (by decide) rfl (fun ls hl => ?_)
  have hl : lv_has ls 4 [(2, .int 0), (3, .int 3), (1, .int 0), (0, .ref g0)] := hl
  refine lv_iinc (k := 1) (v := 4) hx hb d_MO_tuned_61 hl rfl (by decide) (by decide) rfl (fun ls hl => ?_)
  have hl : lv_has ls 4 [(3, .int 4), (2, .int 0), (1, .int 0), (0, .ref g0)] := hl
  refine lv_goto (tgt := 47) hx hb d_MO_tuned_64 (by decide) ?_
  refine lv_iload_n hx hb d_MO_tuned_47 rfl (lv_at hl 0 rfl) ?_
  refine lv_bipush (v := 8) hx hb d_MO_tuned_48 (by decide) ?_
  refine lv_icmp_ge (tgt := 67) hx hb d_MO_tuned_50 (by decide) (fun h9 => absurd h9 (by decide)) (fun _ => ?_)
  refine lv_iload_n hx hb d_MO_tuned_53 rfl (lv_at hl 1 rfl) ?_
  refine lv_iload_n hx hb d_MO_tuned_54 rfl (lv_at hl 2 rfl) ?_
  refine lv_iload_n hx hb d_MO_tuned_55 rfl (lv_at hl 0 rfl) ?_
  refine lv_ishr hx hb d_MO_tuned_56 ?_
  refine lv_iconst (v := 1) hx hb d_MO_tuned_57 (by decide) ?_
  refine lv_iand hx hb d_MO_tuned_58 ?_
  refine lv_iadd hx hb d_MO_tuned_59 ?_
  refine lv_topi (fun v5 ev5 => ?_)
  obtain rfl : v5 = 0 := ev5.trans (by decide)
  refine lv_istore_n hx hb d_MO_tuned_60 rfl hl (by decide) rfl (fun ls hl => ?_)
  have hl : lv_has ls 4 [(2, .int 0), (3, .int 4), (1, .int 0), (0, .ref g0)] := hl
  refine lv_iinc (k := 1) (v := 5) hx hb d_MO_tuned_61 hl rfl (by decide) (by decide) rfl (fun ls hl => ?_)
  have hl : lv_has ls 4 [(3, .int 5), (2, .int 0), (1, .int 0), (0, .ref g0)] := hl
  refine lv_goto (tgt := 47) hx hb d_MO_tuned_64 (by decide) ?_
  refine lv_iload_n hx hb d_MO_tuned_47 rfl (lv_at hl 0 rfl) ?_
  refine lv_bipush (v := 8) hx hb d_MO_tuned_48 (by decide) ?_
  refine lv_icmp_ge (tgt := 67) hx hb d_MO_tuned_50 (by decide) (fun h9 => absurd h9 (by decide)) (fun _ => ?_)
  refine lv_iload_n hx hb d_MO_tuned_53 rfl (lv_at hl 1 rfl) ?_
  refine lv_iload_n hx hb d_MO_tuned_54 rfl (lv_at hl 2 rfl) ?_
  refine lv_iload_n hx hb d_MO_tuned_55 rfl (lv_at hl 0 rfl) ?_
  refine lv_ishr hx hb d_MO_tuned_56 ?_
  refine lv_iconst (v := 1) hx hb d_MO_tuned_57 (by decide) ?_
  refine lv_iand hx hb d_MO_tuned_58 ?_
  refine lv_iadd hx hb d_MO_tuned_59 ?_
  refine lv_topi (fun v6 ev6 => ?_)
  obtain rfl : v6 = 0 := ev6.trans (by decide)
  refine lv_istore_n hx hb d_MO_tuned_60 rfl hl (by decide) rfl (fun ls hl => ?_)
  have hl : lv_has ls 4 [(2, .int 0), (3, .int 5), (1, .int 0), (0, .ref g0)] := hl
  refine lv_iinc (k := 1) (v := 6) hx hb d_MO_tuned_61 hl rfl (by decide) (by decide) rfl (fun ls hl => ?_)
  have hl : lv_has ls 4 [(3, .int 6), (2, .int 0), (1, .int 0), (0, .ref g0)] := hl
  refine lv_goto (tgt := 47) hx hb d_MO_tuned_64 (by decide) ?_
  refine lv_iload_n hx hb d_MO_tuned_47 rfl (lv_at hl 0 rfl) ?_
  refine lv_bipush (v := 8) hx hb d_MO_tuned_48 (by decide) ?_
  refine lv_icmp_ge (tgt := 67) hx hb d_MO_tuned_50 (by decide) (fun h9 => absurd h9 (by decide)) (fun _ => ?_)
  refine lv_iload_n hx hb d_MO_tuned_53 rfl (lv_at hl 1 rfl) ?_
  refine lv_iload_n hx hb d_MO_tuned_54 rfl (lv_at hl 2 rfl) ?_
  refine lv_iload_n hx hb d_MO_tuned_55 rfl (lv_at hl 0 rfl) ?_
  refine lv_ishr hx hb d_MO_tuned_56 ?_
  refine lv_iconst (v := 1) hx hb d_MO_tuned_57 (by decide) ?_
  refine lv_iand hx hb d_MO_tuned_58 ?_
  refine lv_iadd hx hb d_MO_tuned_59 ?_
  refine lv_topi (fun v7 ev7 => ?_)
  obtain rfl : v7 = 0 := ev7.trans (by decide)
  refine lv_istore_n hx hb d_MO_tuned_60 rfl hl (by decide) rfl (fun ls hl => ?_)
  have hl : lv_has ls 4 [(2, .int 0), (3, .int 6), (1, .int 0), (0, .ref g0)] := hl
  refine lv_iinc (k := 1) (v := 7) hx hb d_MO_tuned_61 hl rfl (by decide) (by decide) rfl (fun ls hl => ?_)
  have hl : lv_has ls 4 [(3, .int 7), (2, .int 0), (1, .int 0), (0, .ref g0)] := hl
  refine lv_goto (tgt := 47) hx hb d_MO_tuned_64 (by decide) ?_
  refine lv_iload_n hx hb d_MO_tuned_47 rfl (lv_at hl 0 rfl) ?_
  refine lv_bipush (v := 8) hx hb d_MO_tuned_48 (by decide) ?_
  refine lv_icmp_ge (tgt := 67) hx hb d_MO_tuned_50 (by decide) (fun h9 => absurd h9 (by decide)) (fun _ => ?_)
  refine lv_iload_n hx hb d_MO_tuned_53 rfl (lv_at hl 1 rfl) ?_
  refine lv_iload_n hx hb d_MO_tuned_54 rfl (lv_at hl 2 rfl) ?_
  refine lv_iload_n hx hb d_MO_tuned_55 rfl (lv_at hl 0 rfl) ?_
  refine lv_ishr hx hb d_MO_tuned_56 ?_
  refine lv_iconst (v := 1) hx hb d_MO_tuned_57 (by decide) ?_
  refine lv_iand hx hb d_MO_tuned_58 ?_
  refine lv_iadd hx hb d_MO_tuned_59 ?_
  refine lv_topi (fun v8 ev8 => ?_)
  obtain rfl : v8 = 0 := ev8.trans (by decide)
  refine lv_istore_n hx hb d_MO_tuned_60 rfl hl (by decide) rfl (fun ls hl => ?_)
  have hl : lv_has ls 4 [(2, .int 0), (3, .int 7), (1, .int 0), (0, .ref g0)] := hl
  refine lv_iinc (k := 1) (v := 8) hx hb d_MO_tuned_61 hl rfl (by decide) (by decide) rfl (fun ls hl => ?_)
  have hl : lv_has ls 4 [(3, .int 8), (2, .int 0), (1, .int 0), (0, .ref g0)] := hl
  refine lv_goto (tgt := 47) hx hb d_MO_tuned_64 (by decide) ?_
  refine lv_iload_n hx hb d_MO_tuned_47 rfl (lv_at hl 0 rfl) ?_
  refine lv_bipush (v := 8) hx hb d_MO_tuned_48 (by decide) ?_
  refine lv_icmp_ge (tgt := 67) hx hb d_MO_tuned_50 (by decide) (fun _ => ?_) (fun h9 => absurd (by decide) h9)
  refine lv_aload_n hx hb d_MO_tuned_67 rfl (lv_at hl 3 rfl) ?_
  refine va_get (D := (dC, dI)) (ci := 5) (v := .int (-1)) (C := R_MO) (T := F_MO) (N := 30) hx hb ht in_MO hown hK hP 0 rfl rfl 2 (by decide) (ht _ tb_633) (fun _ h9 => h9) rfl d_MO_tuned_68 ?_
  refine lv_if_lt (tgt := 90) hx hb d_MO_tuned_71 (by decide) (fun _ => ?_) (fun h9 => absurd (by decide) h9)
  refine lv_iload_n hx hb d_MO_tuned_90 rfl (lv_at hl 2 rfl) ?_
  exact W.iret (v := 0) hx hb hr (fun t ht9 hW => ⟨rfl, ht9⟩) (fun q h => by cases h) d_MO_tuned_91
set_option maxHeartbeats 4000000 in
set_option maxRecDepth 100000 in
theorem c_MO_recordAll_0 (l : Launch) (dC : Nat → ClassId) (dI : Nat → Nat → Nat) (g0 m3 m5 m6 m7 m8 m9 m10 m11 m12 m13 m14 m15 m16 m17 m18 m19 m20 m22 m23 m24 m25 m26 m27 m29 : Nat) (fa nw : Int32) : Met l y_MO_recordAll w_MO_recordAll ({ frames := 0, cells := 0, slots := 0, locals := 0 }) (rdP (dC, dI) [(g0, .inr (5, [.int fa, .int nw, .int (-1), .ref m3, .int 0, .ref m5, .ref m6, .ref m7, .ref m8, .ref m9, .ref m10, .ref m11, .ref m12, .ref m13, .ref m14, .ref m15, .ref m16, .ref m17, .ref m18, .ref m19, .ref m20, .int 0, .ref m22, .ref m23, .ref m24, .ref m25, .ref m26, .ref m27, .int 0, .ref m29]))] [] [.ref g0]) (rd_Q (some (.int 0))) 0 0 (fun _ => False) := by
  refine Met.ofW (cc := c_MO_recordAll) (maxL := 3) (ret := (some .int)) (by decide) rfl ?_
  intro p e s m args below meth c s₁ B hml hv
  obtain ⟨rfl, hP, hK⟩ := hv
  have hx := B.exec
  have hb := B.bytes
  have hr := B.returns
  have ht : ∀ w ∈ tb_, w.before _ s = true := fun w h => atoms_spec (ws := w_MO_recordAll) B.pre w (List.mem_cons_of_mem _ h)
  have hown : s.vm.findClass R_MO = some m.cls := findClass_of_methodNamed B.named
  have hlocks := B.notSynchronized
  have hP : va_P (dC, dI) cls_ [(g0, .inr (5, [.int fa, .int nw, .int (-1), .ref m3, .int 0, .ref m5, .ref m6, .ref m7, .ref m8, .ref m9, .ref m10, .ref m11, .ref m12, .ref m13, .ref m14, .ref m15, .ref m16, .ref m17, .ref m18, .ref m19, .ref m20, .int 0, .ref m22, .ref m23, .ref m24, .ref m25, .ref m26, .ref m27, .int 0, .ref m29]))] s.heap := hP
  have hl := lv_entry ([.ref g0]) (n := 3) (Nat.le_of_ble_eq_true rfl)
  rw [lg_entry_eq]
  generalize (lg_sl ([.ref g0]) ++ List.replicate (3 - (lg_sl ([.ref g0])).length) Slot.unset).toArray = ls at hl ⊢
  have hl : lv_has ls 3 [(0, .ref g0)] := hl
  refine lv_iconst (v := 0) hx hb d_MO_recordAll_0 (by decide) ?_
  refine lv_istore_n hx hb d_MO_recordAll_1 rfl hl (by decide) rfl (fun ls hl => ?_)
  have hl : lv_has ls 3 [(1, .int 0), (0, .ref g0)] := hl
  refine lv_iconst (v := 0) hx hb d_MO_recordAll_2 (by decide) ?_
  refine lv_istore_n hx hb d_MO_recordAll_3 rfl hl (by decide) rfl (fun ls hl => ?_)
  have hl : lv_has ls 3 [(2, .int 0), (1, .int 0), (0, .ref g0)] := hl
  refine lv_iload_n hx hb d_MO_recordAll_4 rfl (lv_at hl 0 rfl) ?_
  refine lv_aload_n hx hb d_MO_recordAll_5 rfl (lv_at hl 2 rfl) ?_
  refine va_get (D := (dC, dI)) (ci := 5) (v := .int 0) (C := R_MO) (T := F_MO) (N := 30) hx hb ht in_MO hown hK hP 0 rfl rfl 4 (by decide) (ht _ tb_635) (fun _ h9 => h9) rfl d_MO_recordAll_6 ?_
  refine lv_icmp_ge (tgt := 44) hx hb d_MO_recordAll_9 (by decide) (fun _ => ?_) (fun h9 => absurd (by decide) h9)
  refine lv_iload_n hx hb d_MO_recordAll_44 rfl (lv_at hl 1 rfl) ?_
  exact W.iret (v := 0) hx hb hr (fun t ht9 hW => ⟨rfl, ht9⟩) (fun q h => by cases h) d_MO_recordAll_45
set_option maxHeartbeats 4000000 in
set_option maxRecDepth 100000 in
theorem c_MO_keepBack_0 (l : Launch) (dC : Nat → ClassId) (dI : Nat → Nat → Nat) (sz Bd : Nat) (g0 m3 m5 m6 m7 m8 m9 m10 m11 m12 m13 m14 m15 m16 m17 m18 m19 m20 m22 m23 m24 m25 m26 m27 m29 : Nat) (fa nw x : Int32) : Met l y_MO_keepBack w_MO_keepBack ({ frames := 0, cells := 0, slots := 0, locals := 0 }) (frP (dC, dI) [(g0, .inr (5, [.int fa, .int nw, .int (-1), .ref m3, .int 0, .ref m5, .ref m6, .ref m7, .ref m8, .ref m9, .ref m10, .ref m11, .ref m12, .ref m13, .ref m14, .ref m15, .ref m16, .ref m17, .ref m18, .ref m19, .ref m20, .int 0, .ref m22, .ref m23, .ref m24, .ref m25, .ref m26, .ref m27, .int 0, .ref m29]))] [] sz Bd [.ref g0, .int x]) (frQ none (fun t => va_P (dC, dI) cls_ [(g0, .inr (5, [.int fa, .int nw, .int (-1), .ref m3, .int 0, .ref m5, .ref m6, .ref m7, .ref m8, .ref m9, .ref m10, .ref m11, .ref m12, .ref m13, .ref m14, .ref m15, .ref m16, .ref m17, .ref m18, .ref m19, .ref m20, .int 0, .ref m22, .ref m23, .ref m24, .ref m25, .ref m26, .ref m27, .int 0, .ref m29]))] t.heap ∧ va_K (dC, dI) cls_ [] t ∧ va_D (va_A [(g0, .inr (5, [.int fa, .int nw, .int (-1), .ref m3, .int 0, .ref m5, .ref m6, .ref m7, .ref m8, .ref m9, .ref m10, .ref m11, .ref m12, .ref m13, .ref m14, .ref m15, .ref m16, .ref m17, .ref m18, .ref m19, .ref m20, .int 0, .ref m22, .ref m23, .ref m24, .ref m25, .ref m26, .ref m27, .int 0, .ref m29]))] sz) [(g0, .inr (5, [.int fa, .int nw, .int (-1), .ref m3, .int 0, .ref m5, .ref m6, .ref m7, .ref m8, .ref m9, .ref m10, .ref m11, .ref m12, .ref m13, .ref m14, .ref m15, .ref m16, .ref m17, .ref m18, .ref m19, .ref m20, .int 0, .ref m22, .ref m23, .ref m24, .ref m25, .ref m26, .ref m27, .int 0, .ref m29]))]) (va_A [(g0, .inr (5, [.int fa, .int nw, .int (-1), .ref m3, .int 0, .ref m5, .ref m6, .ref m7, .ref m8, .ref m9, .ref m10, .ref m11, .ref m12, .ref m13, .ref m14, .ref m15, .ref m16, .ref m17, .ref m18, .ref m19, .ref m20, .int 0, .ref m22, .ref m23, .ref m24, .ref m25, .ref m26, .ref m27, .int 0, .ref m29]))] sz)) 0 0 (va_A [(g0, .inr (5, [.int fa, .int nw, .int (-1), .ref m3, .int 0, .ref m5, .ref m6, .ref m7, .ref m8, .ref m9, .ref m10, .ref m11, .ref m12, .ref m13, .ref m14, .ref m15, .ref m16, .ref m17, .ref m18, .ref m19, .ref m20, .int 0, .ref m22, .ref m23, .ref m24, .ref m25, .ref m26, .ref m27, .int 0, .ref m29]))] sz) := by
  refine Met.ofW (cc := c_MO_keepBack) (maxL := 3) (ret := none) (by decide) rfl ?_
  intro p e s m args below meth c s₁ B hml hv
  obtain ⟨rfl, ⟨hsz, hBs⟩, hP, hK, hD0, hV⟩ := hv
  have hx := B.exec
  have hb := B.bytes
  have hr := B.returns
  have ht : ∀ w ∈ tb_, w.before _ s = true := fun w h => atoms_spec (ws := w_MO_keepBack) B.pre w (List.mem_cons_of_mem _ h)
  have hown : s.vm.findClass R_MO = some m.cls := findClass_of_methodNamed B.named
  have hlocks := B.notSynchronized
  subst hsz
  have hD := hD0.self (sz := s.heap.size)
  have hAB : ∀ q, va_A [(g0, .inr (5, [.int fa, .int nw, .int (-1), .ref m3, .int 0, .ref m5, .ref m6, .ref m7, .ref m8, .ref m9, .ref m10, .ref m11, .ref m12, .ref m13, .ref m14, .ref m15, .ref m16, .ref m17, .ref m18, .ref m19, .ref m20, .int 0, .ref m22, .ref m23, .ref m24, .ref m25, .ref m26, .ref m27, .int 0, .ref m29]))] s.heap.size q → Bd ≤ q := fr_AB hD0 hBs
  generalize hAe : va_A [(g0, .inr (5, [.int fa, .int nw, .int (-1), .ref m3, .int 0, .ref m5, .ref m6, .ref m7, .ref m8, .ref m9, .ref m10, .ref m11, .ref m12, .ref m13, .ref m14, .ref m15, .ref m16, .ref m17, .ref m18, .ref m19, .ref m20, .int 0, .ref m22, .ref m23, .ref m24, .ref m25, .ref m26, .ref m27, .int 0, .ref m29]))] s.heap.size = A at hD hAB ⊢
  have hA : ∀ q : Nat, s.heap.size ≤ q → A q := fun q h => by rw [← hAe]; exact Or.inr h
  have hS : va_S A s.heap s.heap [] := va_S.rf
  have hAO := hV.2.2.2.1
  have hN_PL := hV.2.2.1.1
  have hN_RW := hV.2.2.1.2
  have hP : va_P (dC, dI) cls_ [(g0, .inr (5, [.int fa, .int nw, .int (-1), .ref m3, .int 0, .ref m5, .ref m6, .ref m7, .ref m8, .ref m9, .ref m10, .ref m11, .ref m12, .ref m13, .ref m14, .ref m15, .ref m16, .ref m17, .ref m18, .ref m19, .ref m20, .int 0, .ref m22, .ref m23, .ref m24, .ref m25, .ref m26, .ref m27, .int 0, .ref m29]))] s.heap := hP
  have hl := lv_entry ([.ref g0, .int x]) (n := 3) (Nat.le_of_ble_eq_true rfl)
  rw [lg_entry_eq]
  generalize (lg_sl ([.ref g0, .int x]) ++ List.replicate (3 - (lg_sl ([.ref g0, .int x])).length) Slot.unset).toArray = ls at hl ⊢
  have hl : lv_has ls 3 [(0, .ref g0), (1, .int x)] := hl
  refine lv_aload_n hx hb d_MO_keepBack_0 rfl (lv_at hl 0 rfl) ?_
  refine va_get (D := (dC, dI)) (ci := 5) (v := .int (-1)) (C := R_MO) (T := F_MO) (N := 30) hx hb ht in_MO hown hK hP 0 rfl rfl 2 (by decide) (ht _ tb_633) (fun _ h9 => h9) rfl d_MO_keepBack_1 ?_
  refine lv_if_lt (tgt := 18) hx hb d_MO_keepBack_4 (by decide) (fun _ => ?_) (fun h9 => absurd (by decide) h9)
  refine lv_aload_n hx hb d_MO_keepBack_18 rfl (lv_at hl 0 rfl) ?_
  refine lv_iconst (v := 0) hx hb d_MO_keepBack_19 (by decide) ?_
  refine va_put (D := (dC, dI)) (ci := 5) (v := .int 0) (ty := .int) (C := R_MO) (T := F_MO) (N := 30) hx hb ht in_MO t_MO t_MO_ok n_MO hown hK hP hD hS 0 rfl rfl 28 (by decide) (ht _ tb_659) (fun _ h9 => h9) rfl (by decide +kernel) rfl rfl (Nat.le_of_ble_eq_true rfl) d_MO_keepBack_20 (fun H locs hP hD hS => ?_)
  have hP : va_P (dC, dI) cls_ [(g0, .inr (5, [.int fa, .int nw, .int (-1), .ref m3, .int 0, .ref m5, .ref m6, .ref m7, .ref m8, .ref m9, .ref m10, .ref m11, .ref m12, .ref m13, .ref m14, .ref m15, .ref m16, .ref m17, .ref m18, .ref m19, .ref m20, .int 0, .ref m22, .ref m23, .ref m24, .ref m25, .ref m26, .ref m27, .int 0, .ref m29]))] H := hP
  have hD : va_D A [(g0, .inr (5, [.int fa, .int nw, .int (-1), .ref m3, .int 0, .ref m5, .ref m6, .ref m7, .ref m8, .ref m9, .ref m10, .ref m11, .ref m12, .ref m13, .ref m14, .ref m15, .ref m16, .ref m17, .ref m18, .ref m19, .ref m20, .int 0, .ref m22, .ref m23, .ref m24, .ref m25, .ref m26, .ref m27, .int 0, .ref m29]))] := hD
  have hP9 := hP.sub (ws' := [(g0, .inr (5, [.int fa, .int nw, .int (-1), .ref m3, .int 0, .ref m5, .ref m6, .ref m7, .ref m8, .ref m9, .ref m10, .ref m11, .ref m12, .ref m13, .ref m14, .ref m15, .ref m16, .ref m17, .ref m18, .ref m19, .ref m20, .int 0, .ref m22, .ref m23, .ref m24, .ref m25, .ref m26, .ref m27, .int 0, .ref m29]))]) [0] rfl
  have hD9 := hD.sub (ws' := [(g0, .inr (5, [.int fa, .int nw, .int (-1), .ref m3, .int 0, .ref m5, .ref m6, .ref m7, .ref m8, .ref m9, .ref m10, .ref m11, .ref m12, .ref m13, .ref m14, .ref m15, .ref m16, .ref m17, .ref m18, .ref m19, .ref m20, .int 0, .ref m22, .ref m23, .ref m24, .ref m25, .ref m26, .ref m27, .int 0, .ref m29]))]) [0] (by decide) rfl
  have hK9 := hK.sub (tys' := []) [] rfl
  exact W.vret hx hb hr (fun t ht9 hW => ⟨rfl, ⟨by rw [ht9]; exact hP9, va_K.moved hW.alike hK9, hD9⟩, hS.F ht9⟩) hS.2.2 d_MO_keepBack_23
set_option maxHeartbeats 4000000 in
set_option maxRecDepth 100000 in
theorem c_MO_end_0 (l : Launch) (dC : Nat → ClassId) (dI : Nat → Nat → Nat) (sz Bd : Nat) (g0 m3 m5 m6 m7 m8 m9 m10 m11 m12 m13 m14 m15 m16 m17 m18 m19 m20 m22 m23 m24 m25 m26 m27 m29 : Nat) (fa nw : Int32) : Met l y_MO_end w_MO_end ({ frames := 0, cells := 0, slots := 0, locals := 0 }) (frP (dC, dI) [(g0, .inr (5, [.int fa, .int nw, .int (-1), .ref m3, .int 0, .ref m5, .ref m6, .ref m7, .ref m8, .ref m9, .ref m10, .ref m11, .ref m12, .ref m13, .ref m14, .ref m15, .ref m16, .ref m17, .ref m18, .ref m19, .ref m20, .int 0, .ref m22, .ref m23, .ref m24, .ref m25, .ref m26, .ref m27, .int 0, .ref m29]))] [] sz Bd [.ref g0]) (frQ none (fun t => va_P (dC, dI) cls_ [(g0, .inr (5, [.int fa, .int (nw + 1), .int (-1), .ref m3, .int 0, .ref m5, .ref m6, .ref m7, .ref m8, .ref m9, .ref m10, .ref m11, .ref m12, .ref m13, .ref m14, .ref m15, .ref m16, .ref m17, .ref m18, .ref m19, .ref m20, .int 0, .ref m22, .ref m23, .ref m24, .ref m25, .ref m26, .ref m27, .int 0, .ref m29]))] t.heap ∧ va_K (dC, dI) cls_ [] t ∧ va_D (va_A [(g0, .inr (5, [.int fa, .int nw, .int (-1), .ref m3, .int 0, .ref m5, .ref m6, .ref m7, .ref m8, .ref m9, .ref m10, .ref m11, .ref m12, .ref m13, .ref m14, .ref m15, .ref m16, .ref m17, .ref m18, .ref m19, .ref m20, .int 0, .ref m22, .ref m23, .ref m24, .ref m25, .ref m26, .ref m27, .int 0, .ref m29]))] sz) [(g0, .inr (5, [.int fa, .int (nw + 1), .int (-1), .ref m3, .int 0, .ref m5, .ref m6, .ref m7, .ref m8, .ref m9, .ref m10, .ref m11, .ref m12, .ref m13, .ref m14, .ref m15, .ref m16, .ref m17, .ref m18, .ref m19, .ref m20, .int 0, .ref m22, .ref m23, .ref m24, .ref m25, .ref m26, .ref m27, .int 0, .ref m29]))]) (va_A [(g0, .inr (5, [.int fa, .int nw, .int (-1), .ref m3, .int 0, .ref m5, .ref m6, .ref m7, .ref m8, .ref m9, .ref m10, .ref m11, .ref m12, .ref m13, .ref m14, .ref m15, .ref m16, .ref m17, .ref m18, .ref m19, .ref m20, .int 0, .ref m22, .ref m23, .ref m24, .ref m25, .ref m26, .ref m27, .int 0, .ref m29]))] sz)) 0 0 (va_A [(g0, .inr (5, [.int fa, .int nw, .int (-1), .ref m3, .int 0, .ref m5, .ref m6, .ref m7, .ref m8, .ref m9, .ref m10, .ref m11, .ref m12, .ref m13, .ref m14, .ref m15, .ref m16, .ref m17, .ref m18, .ref m19, .ref m20, .int 0, .ref m22, .ref m23, .ref m24, .ref m25, .ref m26, .ref m27, .int 0, .ref m29]))] sz) := by
  refine Met.ofW (cc := c_MO_end) (maxL := 2) (ret := none) (by decide) rfl ?_
  intro p e s m args below meth c s₁ B hml hv
  obtain ⟨rfl, ⟨hsz, hBs⟩, hP, hK, hD0, hV⟩ := hv
  have hx := B.exec
  have hb := B.bytes
  have hr := B.returns
  have ht : ∀ w ∈ tb_, w.before _ s = true := fun w h => atoms_spec (ws := w_MO_end) B.pre w (List.mem_cons_of_mem _ h)
  have hown : s.vm.findClass R_MO = some m.cls := findClass_of_methodNamed B.named
  have hlocks := B.notSynchronized
  subst hsz
  have hD := hD0.self (sz := s.heap.size)
  have hAB : ∀ q, va_A [(g0, .inr (5, [.int fa, .int nw, .int (-1), .ref m3, .int 0, .ref m5, .ref m6, .ref m7, .ref m8, .ref m9, .ref m10, .ref m11, .ref m12, .ref m13, .ref m14, .ref m15, .ref m16, .ref m17, .ref m18, .ref m19, .ref m20, .int 0, .ref m22, .ref m23, .ref m24, .ref m25, .ref m26, .ref m27, .int 0, .ref m29]))] s.heap.size q → Bd ≤ q := fr_AB hD0 hBs
  generalize hAe : va_A [(g0, .inr (5, [.int fa, .int nw, .int (-1), .ref m3, .int 0, .ref m5, .ref m6, .ref m7, .ref m8, .ref m9, .ref m10, .ref m11, .ref m12, .ref m13, .ref m14, .ref m15, .ref m16, .ref m17, .ref m18, .ref m19, .ref m20, .int 0, .ref m22, .ref m23, .ref m24, .ref m25, .ref m26, .ref m27, .int 0, .ref m29]))] s.heap.size = A at hD hAB ⊢
  have hA : ∀ q : Nat, s.heap.size ≤ q → A q := fun q h => by rw [← hAe]; exact Or.inr h
  have hS : va_S A s.heap s.heap [] := va_S.rf
  have hAO := hV.2.2.2.1
  have hN_PL := hV.2.2.1.1
  have hN_RW := hV.2.2.1.2
  have hP : va_P (dC, dI) cls_ [(g0, .inr (5, [.int fa, .int nw, .int (-1), .ref m3, .int 0, .ref m5, .ref m6, .ref m7, .ref m8, .ref m9, .ref m10, .ref m11, .ref m12, .ref m13, .ref m14, .ref m15, .ref m16, .ref m17, .ref m18, .ref m19, .ref m20, .int 0, .ref m22, .ref m23, .ref m24, .ref m25, .ref m26, .ref m27, .int 0, .ref m29]))] s.heap := hP
  have hl := lv_entry ([.ref g0]) (n := 2) (Nat.le_of_ble_eq_true rfl)
  rw [lg_entry_eq]
  generalize (lg_sl ([.ref g0]) ++ List.replicate (2 - (lg_sl ([.ref g0])).length) Slot.unset).toArray = ls at hl ⊢
  have hl : lv_has ls 2 [(0, .ref g0)] := hl
  refine lv_aload_n hx hb d_MO_end_0 rfl (lv_at hl 0 rfl) ?_
  refine lv_dup hx hb d_MO_end_1 rfl ?_
  refine va_get (D := (dC, dI)) (ci := 5) (v := .int nw) (C := R_MO) (T := F_MO) (N := 30) hx hb ht in_MO hown hK hP 0 rfl rfl 1 (by decide) (ht _ tb_632) (fun _ h9 => h9) rfl d_MO_end_2 ?_
  refine lv_iconst (v := 1) hx hb d_MO_end_5 (by decide) ?_
  refine lv_iadd hx hb d_MO_end_6 ?_
  refine va_put (D := (dC, dI)) (ci := 5) (v := .int (nw + 1)) (ty := .int) (C := R_MO) (T := F_MO) (N := 30) hx hb ht in_MO t_MO t_MO_ok n_MO hown hK hP hD hS 0 rfl rfl 1 (by decide) (ht _ tb_632) (fun _ h9 => h9) rfl (by decide +kernel) rfl rfl (Nat.le_of_ble_eq_true rfl) d_MO_end_7 (fun H locs hP hD hS => ?_)
  have hP : va_P (dC, dI) cls_ [(g0, .inr (5, [.int fa, .int (nw + 1), .int (-1), .ref m3, .int 0, .ref m5, .ref m6, .ref m7, .ref m8, .ref m9, .ref m10, .ref m11, .ref m12, .ref m13, .ref m14, .ref m15, .ref m16, .ref m17, .ref m18, .ref m19, .ref m20, .int 0, .ref m22, .ref m23, .ref m24, .ref m25, .ref m26, .ref m27, .int 0, .ref m29]))] H := hP
  have hD : va_D A [(g0, .inr (5, [.int fa, .int (nw + 1), .int (-1), .ref m3, .int 0, .ref m5, .ref m6, .ref m7, .ref m8, .ref m9, .ref m10, .ref m11, .ref m12, .ref m13, .ref m14, .ref m15, .ref m16, .ref m17, .ref m18, .ref m19, .ref m20, .int 0, .ref m22, .ref m23, .ref m24, .ref m25, .ref m26, .ref m27, .int 0, .ref m29]))] := hD
  refine lv_iconst (v := 0) hx hb d_MO_end_10 (by decide) ?_
  refine lv_istore_n hx hb d_MO_end_11 rfl hl (by decide) rfl (fun ls hl => ?_)
  have hl : lv_has ls 2 [(1, .int 0), (0, .ref g0)] := hl
  refine lv_iload_n hx hb d_MO_end_12 rfl (lv_at hl 0 rfl) ?_
  refine lv_aload_n hx hb d_MO_end_13 rfl (lv_at hl 1 rfl) ?_
  refine va_get (D := (dC, dI)) (ci := 5) (v := .int 0) (C := R_MO) (T := F_MO) (N := 30) hx hb ht in_MO hown hK hP 0 rfl rfl 4 (by decide) (ht _ tb_635) (fun _ h9 => h9) rfl d_MO_end_14 ?_
  refine lv_icmp_ge (tgt := 65) hx hb d_MO_end_17 (by decide) (fun _ => ?_) (fun h9 => absurd (by decide) h9)
  have hP9 := hP.sub (ws' := [(g0, .inr (5, [.int fa, .int (nw + 1), .int (-1), .ref m3, .int 0, .ref m5, .ref m6, .ref m7, .ref m8, .ref m9, .ref m10, .ref m11, .ref m12, .ref m13, .ref m14, .ref m15, .ref m16, .ref m17, .ref m18, .ref m19, .ref m20, .int 0, .ref m22, .ref m23, .ref m24, .ref m25, .ref m26, .ref m27, .int 0, .ref m29]))]) [0] rfl
  have hD9 := hD.sub (ws' := [(g0, .inr (5, [.int fa, .int (nw + 1), .int (-1), .ref m3, .int 0, .ref m5, .ref m6, .ref m7, .ref m8, .ref m9, .ref m10, .ref m11, .ref m12, .ref m13, .ref m14, .ref m15, .ref m16, .ref m17, .ref m18, .ref m19, .ref m20, .int 0, .ref m22, .ref m23, .ref m24, .ref m25, .ref m26, .ref m27, .int 0, .ref m29]))]) [0] (by decide) rfl
  have hK9 := hK.sub (tys' := []) [] rfl
  exact W.vret hx hb hr (fun t ht9 hW => ⟨rfl, ⟨by rw [ht9]; exact hP9, va_K.moved hW.alike hK9, hD9⟩, hS.F ht9⟩) hS.2.2 d_MO_end_65
set_option maxHeartbeats 4000000 in
set_option maxRecDepth 100000 in
theorem c_MO_tick_0 (l : Launch) (dC : Nat → ClassId) (dI : Nat → Nat → Nat) (sz Bd : Nat) (g0 m3 m5 m6 m7 m8 m9 m10 m11 m12 m13 m14 m15 m16 m17 m18 m19 m20 m22 m23 m24 m25 m26 m27 m29 : Nat) : Met l y_MO_tick w_MO_tick ({ frames := 3, cells := 0, slots := 0, locals := 66 }) (frP (dC, dI) [(g0, .inr (5, [.int 0, .int 0, .int (-1), .ref m3, .int 0, .ref m5, .ref m6, .ref m7, .ref m8, .ref m9, .ref m10, .ref m11, .ref m12, .ref m13, .ref m14, .ref m15, .ref m16, .ref m17, .ref m18, .ref m19, .ref m20, .int 0, .ref m22, .ref m23, .ref m24, .ref m25, .ref m26, .ref m27, .int 0, .ref m29]))] [] sz Bd [.ref g0]) (frQ (some (.int 0)) (fun t => va_P (dC, dI) cls_ [] t.heap ∧ va_K (dC, dI) cls_ [] t ∧ va_D (va_A [(g0, .inr (5, [.int 0, .int 0, .int (-1), .ref m3, .int 0, .ref m5, .ref m6, .ref m7, .ref m8, .ref m9, .ref m10, .ref m11, .ref m12, .ref m13, .ref m14, .ref m15, .ref m16, .ref m17, .ref m18, .ref m19, .ref m20, .int 0, .ref m22, .ref m23, .ref m24, .ref m25, .ref m26, .ref m27, .int 0, .ref m29]))] sz) []) (va_A [(g0, .inr (5, [.int 0, .int 0, .int (-1), .ref m3, .int 0, .ref m5, .ref m6, .ref m7, .ref m8, .ref m9, .ref m10, .ref m11, .ref m12, .ref m13, .ref m14, .ref m15, .ref m16, .ref m17, .ref m18, .ref m19, .ref m20, .int 0, .ref m22, .ref m23, .ref m24, .ref m25, .ref m26, .ref m27, .int 0, .ref m29]))] sz)) 0 0 (va_A [(g0, .inr (5, [.int 0, .int 0, .int (-1), .ref m3, .int 0, .ref m5, .ref m6, .ref m7, .ref m8, .ref m9, .ref m10, .ref m11, .ref m12, .ref m13, .ref m14, .ref m15, .ref m16, .ref m17, .ref m18, .ref m19, .ref m20, .int 0, .ref m22, .ref m23, .ref m24, .ref m25, .ref m26, .ref m27, .int 0, .ref m29]))] sz) := by
  refine Met.ofW (cc := c_MO_tick) (maxL := 2) (ret := (some .int)) (by decide) rfl ?_
  intro p e s m args below meth c s₁ B hml hv
  obtain ⟨rfl, ⟨hsz, hBs⟩, hP, hK, hD0, hV⟩ := hv
  have hx := B.exec
  have hb := B.bytes
  have hr := B.returns
  have ht : ∀ w ∈ tb_, w.before _ s = true := fun w h => atoms_spec (ws := w_MO_tick) B.pre w (List.mem_cons_of_mem _ h)
  have hown : s.vm.findClass R_MO = some m.cls := findClass_of_methodNamed B.named
  have hlocks := B.notSynchronized
  subst hsz
  have hD := hD0.self (sz := s.heap.size)
  have hAB : ∀ q, va_A [(g0, .inr (5, [.int 0, .int 0, .int (-1), .ref m3, .int 0, .ref m5, .ref m6, .ref m7, .ref m8, .ref m9, .ref m10, .ref m11, .ref m12, .ref m13, .ref m14, .ref m15, .ref m16, .ref m17, .ref m18, .ref m19, .ref m20, .int 0, .ref m22, .ref m23, .ref m24, .ref m25, .ref m26, .ref m27, .int 0, .ref m29]))] s.heap.size q → Bd ≤ q := fr_AB hD0 hBs
  generalize hAe : va_A [(g0, .inr (5, [.int 0, .int 0, .int (-1), .ref m3, .int 0, .ref m5, .ref m6, .ref m7, .ref m8, .ref m9, .ref m10, .ref m11, .ref m12, .ref m13, .ref m14, .ref m15, .ref m16, .ref m17, .ref m18, .ref m19, .ref m20, .int 0, .ref m22, .ref m23, .ref m24, .ref m25, .ref m26, .ref m27, .int 0, .ref m29]))] s.heap.size = A at hD hAB ⊢
  have hA : ∀ q : Nat, s.heap.size ≤ q → A q := fun q h => by rw [← hAe]; exact Or.inr h
  have hS : va_S A s.heap s.heap [] := va_S.rf
  have hAO := hV.2.2.2.1
  have hN_PL := hV.2.2.1.1
  have hN_RW := hV.2.2.1.2
  have hP : va_P (dC, dI) cls_ [(g0, .inr (5, [.int 0, .int 0, .int (-1), .ref m3, .int 0, .ref m5, .ref m6, .ref m7, .ref m8, .ref m9, .ref m10, .ref m11, .ref m12, .ref m13, .ref m14, .ref m15, .ref m16, .ref m17, .ref m18, .ref m19, .ref m20, .int 0, .ref m22, .ref m23, .ref m24, .ref m25, .ref m26, .ref m27, .int 0, .ref m29]))] s.heap := hP
  have hl := lv_entry ([.ref g0]) (n := 2) (Nat.le_of_ble_eq_true rfl)
  rw [lg_entry_eq]
  generalize (lg_sl ([.ref g0]) ++ List.replicate (2 - (lg_sl ([.ref g0])).length) Slot.unset).toArray = ls at hl ⊢
  have hl : lv_has ls 2 [(0, .ref g0)] := hl
  refine lv_aload_n hx hb d_MO_tick_0 rfl (lv_at hl 0 rfl) ?_
  refine lv_iconst (v := 0) hx hb d_MO_tick_1 (by decide) ?_
  refine va_put (D := (dC, dI)) (ci := 5) (v := .int 0) (ty := .int) (C := R_MO) (T := F_MO) (N := 30) hx hb ht in_MO t_MO t_MO_ok n_MO hown hK hP hD hS 0 rfl rfl 0 (by decide) (ht _ tb_631) (fun _ h9 => h9) rfl (by decide +kernel) rfl rfl (Nat.le_of_ble_eq_true rfl) d_MO_tick_2 (fun H locs hP hD hS => ?_)
  have hP : va_P (dC, dI) cls_ [(g0, .inr (5, [.int 0, .int 0, .int (-1), .ref m3, .int 0, .ref m5, .ref m6, .ref m7, .ref m8, .ref m9, .ref m10, .ref m11, .ref m12, .ref m13, .ref m14, .ref m15, .ref m16, .ref m17, .ref m18, .ref m19, .ref m20, .int 0, .ref m22, .ref m23, .ref m24, .ref m25, .ref m26, .ref m27, .int 0, .ref m29]))] H := hP
  have hD : va_D A [(g0, .inr (5, [.int 0, .int 0, .int (-1), .ref m3, .int 0, .ref m5, .ref m6, .ref m7, .ref m8, .ref m9, .ref m10, .ref m11, .ref m12, .ref m13, .ref m14, .ref m15, .ref m16, .ref m17, .ref m18, .ref m19, .ref m20, .int 0, .ref m22, .ref m23, .ref m24, .ref m25, .ref m26, .ref m27, .int 0, .ref m29]))] := hD
  refine lv_aload_n hx hb d_MO_tick_5 rfl (lv_at hl 0 rfl) ?_
  have hPc := hP.sub (ws' := [(g0, .inr (5, [.int 0, .int 0, .int (-1), .ref m3, .int 0, .ref m5, .ref m6, .ref m7, .ref m8, .ref m9, .ref m10, .ref m11, .ref m12, .ref m13, .ref m14, .ref m15, .ref m16, .ref m17, .ref m18, .ref m19, .ref m20, .int 0, .ref m22, .ref m23, .ref m24, .ref m25, .ref m26, .ref m27, .int 0, .ref m29]))]) [0] rfl
  have hKc := hK.sub (tys' := []) [] rfl
  have hDc := hD.sub (ws' := [(g0, .inr (5, [.int 0, .int 0, .int (-1), .ref m3, .int 0, .ref m5, .ref m6, .ref m7, .ref m8, .ref m9, .ref m10, .ref m11, .ref m12, .ref m13, .ref m14, .ref m15, .ref m16, .ref m17, .ref m18, .ref m19, .ref m20, .int 0, .ref m22, .ref m23, .ref m24, .ref m25, .ref m26, .ref m27, .int 0, .ref m29]))]) [0] (by decide) rfl
  have hFc := va_free (wc := [(g0, .inr (5, [.int 0, .int 0, .int (-1), .ref m3, .int 0, .ref m5, .ref m6, .ref m7, .ref m8, .ref m9, .ref m10, .ref m11, .ref m12, .ref m13, .ref m14, .ref m15, .ref m16, .ref m17, .ref m18, .ref m19, .ref m20, .int 0, .ref m22, .ref m23, .ref m24, .ref m25, .ref m26, .ref m27, .int 0, .ref m29]))]) hD hS hA [0] rfl
  refine fr_call (va_runV (C := R_MO) (As := []) (rest := []) ⟨hx, hb, hml, hown, ht⟩ (c_MO_begin_0 l dC dI H.size Bd g0 m3 m5 m6 m7 m8 m9 m10 m11 m12 m13 m14 m15 m16 m17 m18 m19 m20 m22 m23 m24 m25 m26 m27 m29 0 0) (cwV 0 ht (gV tb_808 tb_810 ts_35 tb_5 tb_811) rfl rfl rfl (by decide +kernel) ⟨Nat.le_of_ble_eq_true rfl, Nat.le_of_ble_eq_true rfl⟩) ⟨frP_blind, va_recv (q := (R_MO, F_MO, 30)) hK hP rfl (show ([(g0, .inr (5, [.int 0, .int 0, .int (-1), .ref m3, .int 0, .ref m5, .ref m6, .ref m7, .ref m8, .ref m9, .ref m10, .ref m11, .ref m12, .ref m13, .ref m14, .ref m15, .ref m16, .ref m17, .ref m18, .ref m19, .ref m20, .int 0, .ref m22, .ref m23, .ref m24, .ref m25, .ref m26, .ref m27, .int 0, .ref m29]))] : va_W)[0]? = some (g0, .inr (5, [.int 0, .int 0, .int (-1), .ref m3, .int 0, .ref m5, .ref m6, .ref m7, .ref m8, .ref m9, .ref m10, .ref m11, .ref m12, .ref m13, .ref m14, .ref m15, .ref m16, .ref m17, .ref m18, .ref m19, .ref m20, .int 0, .ref m22, .ref m23, .ref m24, .ref m25, .ref m26, .ref m27, .int 0, .ref m29])) from rfl), fr_pre hPc hKc hDc hAB hBs hS hV⟩ rfl rfl hl.1 rfl (lv_room (Nat.le_of_ble_eq_true rfl)) d_MO_tick_6 ⟨Nat.le_of_ble_eq_true rfl, Nat.le_of_ble_eq_true rfl⟩) hS (fun q _ h => hFc q h) hFc (fun t H1 locs ht1 hvm hB1 hz1 hk1 hS => ?_)
  obtain ⟨hP1, hK1, hD1⟩ := hB1
  rw [ht1] at hP1
  have hK1 := va_K.moved hvm.symm hK1
  obtain ⟨hP, hD⟩ := va_join (wr := []) (w1 := [(g0, .inr (5, [.int 0, .int 0, .int (-1), .ref m3, .int 0, .ref m5, .ref m6, .ref m7, .ref m8, .ref m9, .ref m10, .ref m11, .ref m12, .ref m13, .ref m14, .ref m15, .ref m16, .ref m17, .ref m18, .ref m19, .ref m20, .int 0, .ref m22, .ref m23, .ref m24, .ref m25, .ref m26, .ref m27, .int 0, .ref m29]))]) hP hD [0] [] rfl rfl (by decide) (by decide) hk1 hFc hP1 hD1
  have hK := hK.app hK1
  generalize H1 = H at hP hS ⊢
  have hP : va_P (dC, dI) cls_ [(g0, .inr (5, [.int 0, .int 0, .int (-1), .ref m3, .int 0, .ref m5, .ref m6, .ref m7, .ref m8, .ref m9, .ref m10, .ref m11, .ref m12, .ref m13, .ref m14, .ref m15, .ref m16, .ref m17, .ref m18, .ref m19, .ref m20, .int 0, .ref m22, .ref m23, .ref m24, .ref m25, .ref m26, .ref m27, .int 0, .ref m29]))] H := hP
  have hD : va_D A [(g0, .inr (5, [.int 0, .int 0, .int (-1), .ref m3, .int 0, .ref m5, .ref m6, .ref m7, .ref m8, .ref m9, .ref m10, .ref m11, .ref m12, .ref m13, .ref m14, .ref m15, .ref m16, .ref m17, .ref m18, .ref m19, .ref m20, .int 0, .ref m22, .ref m23, .ref m24, .ref m25, .ref m26, .ref m27, .int 0, .ref m29]))] := hD
  have hK : va_K (dC, dI) cls_ [] s := hK
  refine W.eq (g2 := F0 m 9 ls []) rfl ?_
  refine W.cs (cells' := 0) (slots' := 0) rfl rfl ?_
  refine lv_aload_n hx hb d_MO_tick_9 rfl (lv_at hl 0 rfl) ?_
  have hPc := hP.sub (ws' := [(g0, .inr (5, [.int 0, .int 0, .int (-1), .ref m3, .int 0, .ref m5, .ref m6, .ref m7, .ref m8, .ref m9, .ref m10, .ref m11, .ref m12, .ref m13, .ref m14, .ref m15, .ref m16, .ref m17, .ref m18, .ref m19, .ref m20, .int 0, .ref m22, .ref m23, .ref m24, .ref m25, .ref m26, .ref m27, .int 0, .ref m29]))]) [0] rfl
  have hKc := hK.sub (tys' := []) [] rfl
  refine rd_call (va_runV (C := R_MO) (As := []) (rest := []) ⟨hx, hb, hml, hown, ht⟩ (c_MO_tuned_0 l dC dI g0 m3 m5 m6 m7 m8 m9 m10 m11 m12 m13 m14 m15 m16 m17 m18 m19 m20 m22 m23 m24 m25 m26 m27 m29 0 0) (cwV 0 ht (gV tb_812 tb_814 ts_36 tb_5 tb_815) rfl rfl rfl (by decide +kernel) ⟨Nat.le_of_ble_eq_true rfl, Nat.le_of_ble_eq_true rfl⟩) ⟨rdP_blind, va_recv (q := (R_MO, F_MO, 30)) hK hP rfl (show ([(g0, .inr (5, [.int 0, .int 0, .int (-1), .ref m3, .int 0, .ref m5, .ref m6, .ref m7, .ref m8, .ref m9, .ref m10, .ref m11, .ref m12, .ref m13, .ref m14, .ref m15, .ref m16, .ref m17, .ref m18, .ref m19, .ref m20, .int 0, .ref m22, .ref m23, .ref m24, .ref m25, .ref m26, .ref m27, .int 0, .ref m29]))] : va_W)[0]? = some (g0, .inr (5, [.int 0, .int 0, .int (-1), .ref m3, .int 0, .ref m5, .ref m6, .ref m7, .ref m8, .ref m9, .ref m10, .ref m11, .ref m12, .ref m13, .ref m14, .ref m15, .ref m16, .ref m17, .ref m18, .ref m19, .ref m20, .int 0, .ref m22, .ref m23, .ref m24, .ref m25, .ref m26, .ref m27, .int 0, .ref m29])) from rfl), rd_pre hPc hKc⟩ rfl rfl hl.1 rfl (lv_room (Nat.le_of_ble_eq_true rfl)) d_MO_tick_10 ⟨Nat.le_of_ble_eq_true rfl, Nat.le_of_ble_eq_true rfl⟩) ?_
  refine W.eq (g2 := F0 m 13 ls [.int 0]) rfl ?_
  refine lv_istore_n hx hb d_MO_tick_13 rfl hl (by decide) rfl (fun ls hl => ?_)
  have hl : lv_has ls 2 [(1, .int 0), (0, .ref g0)] := hl
  refine lv_aload_n hx hb d_MO_tick_14 rfl (lv_at hl 1 rfl) ?_
  have hPc := hP.sub (ws' := [(g0, .inr (5, [.int 0, .int 0, .int (-1), .ref m3, .int 0, .ref m5, .ref m6, .ref m7, .ref m8, .ref m9, .ref m10, .ref m11, .ref m12, .ref m13, .ref m14, .ref m15, .ref m16, .ref m17, .ref m18, .ref m19, .ref m20, .int 0, .ref m22, .ref m23, .ref m24, .ref m25, .ref m26, .ref m27, .int 0, .ref m29]))]) [0] rfl
  have hKc := hK.sub (tys' := []) [] rfl
  refine rd_call (va_runV (C := R_MO) (As := []) (rest := []) ⟨hx, hb, hml, hown, ht⟩ (c_MO_recordAll_0 l dC dI g0 m3 m5 m6 m7 m8 m9 m10 m11 m12 m13 m14 m15 m16 m17 m18 m19 m20 m22 m23 m24 m25 m26 m27 m29 0 0) (cwV 0 ht (gV tb_816 tb_818 ts_37 tb_5 tb_819) rfl rfl rfl (by decide +kernel) ⟨Nat.le_of_ble_eq_true rfl, Nat.le_of_ble_eq_true rfl⟩) ⟨rdP_blind, va_recv (q := (R_MO, F_MO, 30)) hK hP rfl (show ([(g0, .inr (5, [.int 0, .int 0, .int (-1), .ref m3, .int 0, .ref m5, .ref m6, .ref m7, .ref m8, .ref m9, .ref m10, .ref m11, .ref m12, .ref m13, .ref m14, .ref m15, .ref m16, .ref m17, .ref m18, .ref m19, .ref m20, .int 0, .ref m22, .ref m23, .ref m24, .ref m25, .ref m26, .ref m27, .int 0, .ref m29]))] : va_W)[0]? = some (g0, .inr (5, [.int 0, .int 0, .int (-1), .ref m3, .int 0, .ref m5, .ref m6, .ref m7, .ref m8, .ref m9, .ref m10, .ref m11, .ref m12, .ref m13, .ref m14, .ref m15, .ref m16, .ref m17, .ref m18, .ref m19, .ref m20, .int 0, .ref m22, .ref m23, .ref m24, .ref m25, .ref m26, .ref m27, .int 0, .ref m29])) from rfl), rd_pre hPc hKc⟩ rfl rfl hl.1 rfl (lv_room (Nat.le_of_ble_eq_true rfl)) d_MO_tick_15 ⟨Nat.le_of_ble_eq_true rfl, Nat.le_of_ble_eq_true rfl⟩) ?_
  refine W.eq (g2 := F0 m 18 ls [.int 0]) rfl ?_
  refine lv_pop hx hb d_MO_tick_18 rfl ?_
  refine lv_aload_n hx hb d_MO_tick_19 rfl (lv_at hl 1 rfl) ?_
  refine lv_iload_n hx hb d_MO_tick_20 rfl (lv_at hl 0 rfl) ?_
  have hPc := hP.sub (ws' := [(g0, .inr (5, [.int 0, .int 0, .int (-1), .ref m3, .int 0, .ref m5, .ref m6, .ref m7, .ref m8, .ref m9, .ref m10, .ref m11, .ref m12, .ref m13, .ref m14, .ref m15, .ref m16, .ref m17, .ref m18, .ref m19, .ref m20, .int 0, .ref m22, .ref m23, .ref m24, .ref m25, .ref m26, .ref m27, .int 0, .ref m29]))]) [0] rfl
  have hKc := hK.sub (tys' := []) [] rfl
  have hDc := hD.sub (ws' := [(g0, .inr (5, [.int 0, .int 0, .int (-1), .ref m3, .int 0, .ref m5, .ref m6, .ref m7, .ref m8, .ref m9, .ref m10, .ref m11, .ref m12, .ref m13, .ref m14, .ref m15, .ref m16, .ref m17, .ref m18, .ref m19, .ref m20, .int 0, .ref m22, .ref m23, .ref m24, .ref m25, .ref m26, .ref m27, .int 0, .ref m29]))]) [0] (by decide) rfl
  have hFc := va_free (wc := [(g0, .inr (5, [.int 0, .int 0, .int (-1), .ref m3, .int 0, .ref m5, .ref m6, .ref m7, .ref m8, .ref m9, .ref m10, .ref m11, .ref m12, .ref m13, .ref m14, .ref m15, .ref m16, .ref m17, .ref m18, .ref m19, .ref m20, .int 0, .ref m22, .ref m23, .ref m24, .ref m25, .ref m26, .ref m27, .int 0, .ref m29]))]) hD hS hA [0] rfl
  refine fr_call (va_runV (C := R_MO) (As := [.int 0]) (rest := []) ⟨hx, hb, hml, hown, ht⟩ (c_MO_keepBack_0 l dC dI H.size Bd g0 m3 m5 m6 m7 m8 m9 m10 m11 m12 m13 m14 m15 m16 m17 m18 m19 m20 m22 m23 m24 m25 m26 m27 m29 0 0 0) (cwV 1 ht (gV tb_844 tb_846 ts_44 tb_5 tb_847) rfl rfl rfl (by decide +kernel) ⟨Nat.le_of_ble_eq_true rfl, Nat.le_of_ble_eq_true rfl⟩) ⟨frP_blind, va_recv (q := (R_MO, F_MO, 30)) hK hP rfl (show ([(g0, .inr (5, [.int 0, .int 0, .int (-1), .ref m3, .int 0, .ref m5, .ref m6, .ref m7, .ref m8, .ref m9, .ref m10, .ref m11, .ref m12, .ref m13, .ref m14, .ref m15, .ref m16, .ref m17, .ref m18, .ref m19, .ref m20, .int 0, .ref m22, .ref m23, .ref m24, .ref m25, .ref m26, .ref m27, .int 0, .ref m29]))] : va_W)[0]? = some (g0, .inr (5, [.int 0, .int 0, .int (-1), .ref m3, .int 0, .ref m5, .ref m6, .ref m7, .ref m8, .ref m9, .ref m10, .ref m11, .ref m12, .ref m13, .ref m14, .ref m15, .ref m16, .ref m17, .ref m18, .ref m19, .ref m20, .int 0, .ref m22, .ref m23, .ref m24, .ref m25, .ref m26, .ref m27, .int 0, .ref m29])) from rfl), fr_pre hPc hKc hDc hAB hBs hS hV⟩ rfl rfl hl.1 rfl (lv_room (Nat.le_of_ble_eq_true rfl)) d_MO_tick_21 ⟨Nat.le_of_ble_eq_true rfl, Nat.le_of_ble_eq_true rfl⟩) hS (fun q _ h => hFc q h) hFc (fun t H1 locs ht1 hvm hB1 hz1 hk1 hS => ?_)
  obtain ⟨hP1, hK1, hD1⟩ := hB1
  rw [ht1] at hP1
  have hK1 := va_K.moved hvm.symm hK1
  obtain ⟨hP, hD⟩ := va_join (wr := []) (w1 := [(g0, .inr (5, [.int 0, .int 0, .int (-1), .ref m3, .int 0, .ref m5, .ref m6, .ref m7, .ref m8, .ref m9, .ref m10, .ref m11, .ref m12, .ref m13, .ref m14, .ref m15, .ref m16, .ref m17, .ref m18, .ref m19, .ref m20, .int 0, .ref m22, .ref m23, .ref m24, .ref m25, .ref m26, .ref m27, .int 0, .ref m29]))]) hP hD [0] [] rfl rfl (by decide) (by decide) hk1 hFc hP1 hD1
  have hK := hK.app hK1
  generalize H1 = H at hP hS ⊢
  have hP : va_P (dC, dI) cls_ [(g0, .inr (5, [.int 0, .int 0, .int (-1), .ref m3, .int 0, .ref m5, .ref m6, .ref m7, .ref m8, .ref m9, .ref m10, .ref m11, .ref m12, .ref m13, .ref m14, .ref m15, .ref m16, .ref m17, .ref m18, .ref m19, .ref m20, .int 0, .ref m22, .ref m23, .ref m24, .ref m25, .ref m26, .ref m27, .int 0, .ref m29]))] H := hP
  have hD : va_D A [(g0, .inr (5, [.int 0, .int 0, .int (-1), .ref m3, .int 0, .ref m5, .ref m6, .ref m7, .ref m8, .ref m9, .ref m10, .ref m11, .ref m12, .ref m13, .ref m14, .ref m15, .ref m16, .ref m17, .ref m18, .ref m19, .ref m20, .int 0, .ref m22, .ref m23, .ref m24, .ref m25, .ref m26, .ref m27, .int 0, .ref m29]))] := hD
  have hK : va_K (dC, dI) cls_ [] s := hK
  refine W.eq (g2 := F0 m 24 ls []) rfl ?_
  refine W.cs (cells' := 0) (slots' := 0) rfl rfl ?_
  refine lv_aload_n hx hb d_MO_tick_24 rfl (lv_at hl 1 rfl) ?_
  have hPc := hP.sub (ws' := [(g0, .inr (5, [.int 0, .int 0, .int (-1), .ref m3, .int 0, .ref m5, .ref m6, .ref m7, .ref m8, .ref m9, .ref m10, .ref m11, .ref m12, .ref m13, .ref m14, .ref m15, .ref m16, .ref m17, .ref m18, .ref m19, .ref m20, .int 0, .ref m22, .ref m23, .ref m24, .ref m25, .ref m26, .ref m27, .int 0, .ref m29]))]) [0] rfl
  have hKc := hK.sub (tys' := []) [] rfl
  have hDc := hD.sub (ws' := [(g0, .inr (5, [.int 0, .int 0, .int (-1), .ref m3, .int 0, .ref m5, .ref m6, .ref m7, .ref m8, .ref m9, .ref m10, .ref m11, .ref m12, .ref m13, .ref m14, .ref m15, .ref m16, .ref m17, .ref m18, .ref m19, .ref m20, .int 0, .ref m22, .ref m23, .ref m24, .ref m25, .ref m26, .ref m27, .int 0, .ref m29]))]) [0] (by decide) rfl
  have hFc := va_free (wc := [(g0, .inr (5, [.int 0, .int 0, .int (-1), .ref m3, .int 0, .ref m5, .ref m6, .ref m7, .ref m8, .ref m9, .ref m10, .ref m11, .ref m12, .ref m13, .ref m14, .ref m15, .ref m16, .ref m17, .ref m18, .ref m19, .ref m20, .int 0, .ref m22, .ref m23, .ref m24, .ref m25, .ref m26, .ref m27, .int 0, .ref m29]))]) hD hS hA [0] rfl
  refine fr_call (va_runV (C := R_MO) (As := []) (rest := []) ⟨hx, hb, hml, hown, ht⟩ (c_MO_end_0 l dC dI H.size Bd g0 m3 m5 m6 m7 m8 m9 m10 m11 m12 m13 m14 m15 m16 m17 m18 m19 m20 m22 m23 m24 m25 m26 m27 m29 0 0) (cwV 0 ht (gV tb_848 tb_850 ts_45 tb_5 tb_851) rfl rfl rfl (by decide +kernel) ⟨Nat.le_of_ble_eq_true rfl, Nat.le_of_ble_eq_true rfl⟩) ⟨frP_blind, va_recv (q := (R_MO, F_MO, 30)) hK hP rfl (show ([(g0, .inr (5, [.int 0, .int 0, .int (-1), .ref m3, .int 0, .ref m5, .ref m6, .ref m7, .ref m8, .ref m9, .ref m10, .ref m11, .ref m12, .ref m13, .ref m14, .ref m15, .ref m16, .ref m17, .ref m18, .ref m19, .ref m20, .int 0, .ref m22, .ref m23, .ref m24, .ref m25, .ref m26, .ref m27, .int 0, .ref m29]))] : va_W)[0]? = some (g0, .inr (5, [.int 0, .int 0, .int (-1), .ref m3, .int 0, .ref m5, .ref m6, .ref m7, .ref m8, .ref m9, .ref m10, .ref m11, .ref m12, .ref m13, .ref m14, .ref m15, .ref m16, .ref m17, .ref m18, .ref m19, .ref m20, .int 0, .ref m22, .ref m23, .ref m24, .ref m25, .ref m26, .ref m27, .int 0, .ref m29])) from rfl), fr_pre hPc hKc hDc hAB hBs hS hV⟩ rfl rfl hl.1 rfl (lv_room (Nat.le_of_ble_eq_true rfl)) d_MO_tick_25 ⟨Nat.le_of_ble_eq_true rfl, Nat.le_of_ble_eq_true rfl⟩) hS (fun q _ h => hFc q h) hFc (fun t H1 locs ht1 hvm hB1 hz1 hk1 hS => ?_)
  obtain ⟨hP1, hK1, hD1⟩ := hB1
  rw [ht1] at hP1
  have hK1 := va_K.moved hvm.symm hK1
  obtain ⟨hP, hD⟩ := va_join (wr := []) (w1 := [(g0, .inr (5, [.int 0, .int (0 + 1), .int (-1), .ref m3, .int 0, .ref m5, .ref m6, .ref m7, .ref m8, .ref m9, .ref m10, .ref m11, .ref m12, .ref m13, .ref m14, .ref m15, .ref m16, .ref m17, .ref m18, .ref m19, .ref m20, .int 0, .ref m22, .ref m23, .ref m24, .ref m25, .ref m26, .ref m27, .int 0, .ref m29]))]) hP hD [0] [] rfl rfl (by decide) (by decide) hk1 hFc hP1 hD1
  have hK := hK.app hK1
  generalize H1 = H at hP hS ⊢
  have hP : va_P (dC, dI) cls_ [(g0, .inr (5, [.int 0, .int (0 + 1), .int (-1), .ref m3, .int 0, .ref m5, .ref m6, .ref m7, .ref m8, .ref m9, .ref m10, .ref m11, .ref m12, .ref m13, .ref m14, .ref m15, .ref m16, .ref m17, .ref m18, .ref m19, .ref m20, .int 0, .ref m22, .ref m23, .ref m24, .ref m25, .ref m26, .ref m27, .int 0, .ref m29]))] H := hP
  have hD : va_D A [(g0, .inr (5, [.int 0, .int (0 + 1), .int (-1), .ref m3, .int 0, .ref m5, .ref m6, .ref m7, .ref m8, .ref m9, .ref m10, .ref m11, .ref m12, .ref m13, .ref m14, .ref m15, .ref m16, .ref m17, .ref m18, .ref m19, .ref m20, .int 0, .ref m22, .ref m23, .ref m24, .ref m25, .ref m26, .ref m27, .int 0, .ref m29]))] := hD
  have hK : va_K (dC, dI) cls_ [] s := hK
  refine W.eq (g2 := F0 m 28 ls []) rfl ?_
  refine W.cs (cells' := 0) (slots' := 0) rfl rfl ?_
  refine lv_iload_n hx hb d_MO_tick_28 rfl (lv_at hl 0 rfl) ?_
  have hP9 := hP.sub (ws' := []) [] rfl
  have hD9 := hD.sub (ws' := []) [] (by decide) rfl
  have hK9 := hK.sub (tys' := []) [] rfl
  exact W.iret (v := 0) hx hb hr (fun t ht9 hW => ⟨rfl, ⟨by rw [ht9]; exact hP9, va_K.moved hW.alike hK9, hD9⟩, hS.F ht9⟩) hS.2.2 d_MO_tick_29
set_option maxHeartbeats 4000000 in
set_option maxRecDepth 100000 in
theorem lp_MO_ticks {p : Program} {l : Launch} {e : Env} {s : State} {m : MethodId} {args : Array Value} {below : List Frame} {meth : Method} {c : Code} {Q : State → Prop} {A : Nat → Prop} (dC : Nat → ClassId) (dI : Nat → Nat → Nat) (Bd : Nat) (g0 m3 m5 m6 m7 m8 m9 m10 m11 m12 m13 m14 m15 m16 m17 m18 m19 m20 m22 m23 m24 m25 m26 m27 m29 : Nat) (N : Nat) (hN : N ≤ 100) (hx : p.tables.exec = Jvm.exec) (hb : c.code = c_MO_ticks) (hml : c.maxLocals = 5) (ht : ∀ w ∈ tb_, w.before args s = true) (hown : s.vm.findClass R_MO = some m.cls) (hK : va_K (dC, dI) cls_ [] s) (hA : ∀ q : Nat, s.heap.size ≤ q → A q) (hAB : ∀ q, A q → Bd ≤ q) (hBs : Bd ≤ s.heap.size) (hV : tw_V Bd s s.heap)
    (kk : ∀ (nw : Int32) (H : Heap) (locs : List Loc) (ls : Array Slot), lv_has ls 5 [(3, .int (nI N)), (2, .int 0), (1, .int (nI N)), (0, .ref g0)] → va_P (dC, dI) cls_ [(g0, .inr (5, [.int 0, .int nw, .int (-1), .ref m3, .int 0, .ref m5, .ref m6, .ref m7, .ref m8, .ref m9, .ref m10, .ref m11, .ref m12, .ref m13, .ref m14, .ref m15, .ref m16, .ref m17, .ref m18, .ref m19, .ref m20, .int 0, .ref m22, .ref m23, .ref m24, .ref m25, .ref m26, .ref m27, .int 0, .ref m29]))] H → va_D A [(g0, .inr (5, [.int 0, .int nw, .int (-1), .ref m3, .int 0, .ref m5, .ref m6, .ref m7, .ref m8, .ref m9, .ref m10, .ref m11, .ref m12, .ref m13, .ref m14, .ref m15, .ref m16, .ref m17, .ref m18, .ref m19, .ref m20, .int 0, .ref m22, .ref m23, .ref m24, .ref m25, .ref m26, .ref m27, .int 0, .ref m29]))] → va_S A s.heap H locs → W p l e ({ frames := 3, cells := 0, slots := 0, locals := 66 } : Room) s m args below meth c H locs 0 0 Q (F0 m 67 ls [])) :
    ∀ (n k : Nat) (nw : Int32) (H : Heap) (locs : List Loc) (ls : Array Slot), k + n = N → lv_has ls 5 [(3, .int (nI k)), (2, .int 0), (1, .int (nI N)), (0, .ref g0)] → va_P (dC, dI) cls_ [(g0, .inr (5, [.int 0, .int nw, .int (-1), .ref m3, .int 0, .ref m5, .ref m6, .ref m7, .ref m8, .ref m9, .ref m10, .ref m11, .ref m12, .ref m13, .ref m14, .ref m15, .ref m16, .ref m17, .ref m18, .ref m19, .ref m20, .int 0, .ref m22, .ref m23, .ref m24, .ref m25, .ref m26, .ref m27, .int 0, .ref m29]))] H → va_D A [(g0, .inr (5, [.int 0, .int nw, .int (-1), .ref m3, .int 0, .ref m5, .ref m6, .ref m7, .ref m8, .ref m9, .ref m10, .ref m11, .ref m12, .ref m13, .ref m14, .ref m15, .ref m16, .ref m17, .ref m18, .ref m19, .ref m20, .int 0, .ref m22, .ref m23, .ref m24, .ref m25, .ref m26, .ref m27, .int 0, .ref m29]))] → va_S A s.heap H locs → W p l e ({ frames := 3, cells := 0, slots := 0, locals := 66 } : Room) s m args below meth c H locs 0 0 Q (F0 m 29 ls []) := by
  intro n
  induction n with
  | zero =>
    intro k nw H locs ls hn hl hP hD hS
    obtain rfl : k = N := by omega
    refine lv_iload_n hx hb d_MO_ticks_29 rfl (lv_at hl 0 rfl) ?_
    refine lv_iload_n hx hb d_MO_ticks_30 rfl (lv_at hl 2 rfl) ?_
    refine lv_icmp_ge (tgt := 67) hx hb d_MO_ticks_31 (by decide) (fun _ => ?_) (fun h9 => absurd (Int32.le_refl _) h9)
    exact kk nw H locs ls hl hP hD hS
  | succ n ih =>
    intro k nw H locs ls hn hl hP hD hS
    refine lv_iload_n hx hb d_MO_ticks_29 rfl (lv_at hl 0 rfl) ?_
    refine lv_iload_n hx hb d_MO_ticks_30 rfl (lv_at hl 2 rfl) ?_
    refine lv_icmp_ge (tgt := 67) hx hb d_MO_ticks_31 (by decide) (fun h9 => absurd h9 (nI_ge (show k < N by omega) (by omega))) (fun _ => ?_)
    refine lv_aload_n hx hb d_MO_ticks_34 rfl (lv_at hl 3 rfl) ?_
    have hPc := hP.sub (ws' := [(g0, .inr (5, [.int 0, .int nw, .int (-1), .ref m3, .int 0, .ref m5, .ref m6, .ref m7, .ref m8, .ref m9, .ref m10, .ref m11, .ref m12, .ref m13, .ref m14, .ref m15, .ref m16, .ref m17, .ref m18, .ref m19, .ref m20, .int 0, .ref m22, .ref m23, .ref m24, .ref m25, .ref m26, .ref m27, .int 0, .ref m29]))]) [0] rfl
    have hKc := hK.sub (tys' := []) [] rfl
    have hDc := hD.sub (ws' := [(g0, .inr (5, [.int 0, .int nw, .int (-1), .ref m3, .int 0, .ref m5, .ref m6, .ref m7, .ref m8, .ref m9, .ref m10, .ref m11, .ref m12, .ref m13, .ref m14, .ref m15, .ref m16, .ref m17, .ref m18, .ref m19, .ref m20, .int 0, .ref m22, .ref m23, .ref m24, .ref m25, .ref m26, .ref m27, .int 0, .ref m29]))]) [0] (by decide) rfl
    have hFc := va_free (wc := [(g0, .inr (5, [.int 0, .int nw, .int (-1), .ref m3, .int 0, .ref m5, .ref m6, .ref m7, .ref m8, .ref m9, .ref m10, .ref m11, .ref m12, .ref m13, .ref m14, .ref m15, .ref m16, .ref m17, .ref m18, .ref m19, .ref m20, .int 0, .ref m22, .ref m23, .ref m24, .ref m25, .ref m26, .ref m27, .int 0, .ref m29]))]) hD hS hA [0] rfl
    refine fr_call (va_runV (C := R_MO) (As := []) (rest := []) ⟨hx, hb, hml, hown, ht⟩ (c_MO_begin_0 l dC dI H.size Bd g0 m3 m5 m6 m7 m8 m9 m10 m11 m12 m13 m14 m15 m16 m17 m18 m19 m20 m22 m23 m24 m25 m26 m27 m29 0 nw) (cwV 0 ht (gV tb_808 tb_810 ts_35 tb_5 tb_811) rfl rfl rfl (by decide +kernel) ⟨Nat.le_of_ble_eq_true rfl, Nat.le_of_ble_eq_true rfl⟩) ⟨frP_blind, va_recv (q := (R_MO, F_MO, 30)) hK hP rfl (show ([(g0, .inr (5, [.int 0, .int nw, .int (-1), .ref m3, .int 0, .ref m5, .ref m6, .ref m7, .ref m8, .ref m9, .ref m10, .ref m11, .ref m12, .ref m13, .ref m14, .ref m15, .ref m16, .ref m17, .ref m18, .ref m19, .ref m20, .int 0, .ref m22, .ref m23, .ref m24, .ref m25, .ref m26, .ref m27, .int 0, .ref m29]))] : va_W)[0]? = some (g0, .inr (5, [.int 0, .int nw, .int (-1), .ref m3, .int 0, .ref m5, .ref m6, .ref m7, .ref m8, .ref m9, .ref m10, .ref m11, .ref m12, .ref m13, .ref m14, .ref m15, .ref m16, .ref m17, .ref m18, .ref m19, .ref m20, .int 0, .ref m22, .ref m23, .ref m24, .ref m25, .ref m26, .ref m27, .int 0, .ref m29])) from rfl), fr_pre hPc hKc hDc hAB hBs hS hV⟩ rfl rfl hl.1 rfl (lv_room (Nat.le_of_ble_eq_true rfl)) d_MO_ticks_35 ⟨Nat.le_of_ble_eq_true rfl, Nat.le_of_ble_eq_true rfl⟩) hS (fun q _ h => hFc q h) hFc (fun t H1 locs ht1 hvm hB1 hz1 hk1 hS => ?_)
    obtain ⟨hP1, hK1, hD1⟩ := hB1
    rw [ht1] at hP1
    have hK1 := va_K.moved hvm.symm hK1
    obtain ⟨hP, hD⟩ := va_join (wr := []) (w1 := [(g0, .inr (5, [.int 0, .int nw, .int (-1), .ref m3, .int 0, .ref m5, .ref m6, .ref m7, .ref m8, .ref m9, .ref m10, .ref m11, .ref m12, .ref m13, .ref m14, .ref m15, .ref m16, .ref m17, .ref m18, .ref m19, .ref m20, .int 0, .ref m22, .ref m23, .ref m24, .ref m25, .ref m26, .ref m27, .int 0, .ref m29]))]) hP hD [0] [] rfl rfl (by decide) (by decide) hk1 hFc hP1 hD1
    have hK := hK.app hK1
    generalize H1 = H at hP hS ⊢
    have hP : va_P (dC, dI) cls_ [(g0, .inr (5, [.int 0, .int nw, .int (-1), .ref m3, .int 0, .ref m5, .ref m6, .ref m7, .ref m8, .ref m9, .ref m10, .ref m11, .ref m12, .ref m13, .ref m14, .ref m15, .ref m16, .ref m17, .ref m18, .ref m19, .ref m20, .int 0, .ref m22, .ref m23, .ref m24, .ref m25, .ref m26, .ref m27, .int 0, .ref m29]))] H := hP
    have hD : va_D A [(g0, .inr (5, [.int 0, .int nw, .int (-1), .ref m3, .int 0, .ref m5, .ref m6, .ref m7, .ref m8, .ref m9, .ref m10, .ref m11, .ref m12, .ref m13, .ref m14, .ref m15, .ref m16, .ref m17, .ref m18, .ref m19, .ref m20, .int 0, .ref m22, .ref m23, .ref m24, .ref m25, .ref m26, .ref m27, .int 0, .ref m29]))] := hD
    have hK : va_K (dC, dI) cls_ [] s := hK
    refine W.eq (g2 := F0 m 38 ls []) rfl ?_
    refine W.cs (cells' := 0) (slots' := 0) rfl rfl ?_
    refine lv_aload_n hx hb d_MO_ticks_38 rfl (lv_at hl 3 rfl) ?_
    have hPc := hP.sub (ws' := [(g0, .inr (5, [.int 0, .int nw, .int (-1), .ref m3, .int 0, .ref m5, .ref m6, .ref m7, .ref m8, .ref m9, .ref m10, .ref m11, .ref m12, .ref m13, .ref m14, .ref m15, .ref m16, .ref m17, .ref m18, .ref m19, .ref m20, .int 0, .ref m22, .ref m23, .ref m24, .ref m25, .ref m26, .ref m27, .int 0, .ref m29]))]) [0] rfl
    have hKc := hK.sub (tys' := []) [] rfl
    refine rd_call (va_runV (C := R_MO) (As := []) (rest := []) ⟨hx, hb, hml, hown, ht⟩ (c_MO_tuned_0 l dC dI g0 m3 m5 m6 m7 m8 m9 m10 m11 m12 m13 m14 m15 m16 m17 m18 m19 m20 m22 m23 m24 m25 m26 m27 m29 0 nw) (cwV 0 ht (gV tb_812 tb_814 ts_36 tb_5 tb_815) rfl rfl rfl (by decide +kernel) ⟨Nat.le_of_ble_eq_true rfl, Nat.le_of_ble_eq_true rfl⟩) ⟨rdP_blind, va_recv (q := (R_MO, F_MO, 30)) hK hP rfl (show ([(g0, .inr (5, [.int 0, .int nw, .int (-1), .ref m3, .int 0, .ref m5, .ref m6, .ref m7, .ref m8, .ref m9, .ref m10, .ref m11, .ref m12, .ref m13, .ref m14, .ref m15, .ref m16, .ref m17, .ref m18, .ref m19, .ref m20, .int 0, .ref m22, .ref m23, .ref m24, .ref m25, .ref m26, .ref m27, .int 0, .ref m29]))] : va_W)[0]? = some (g0, .inr (5, [.int 0, .int nw, .int (-1), .ref m3, .int 0, .ref m5, .ref m6, .ref m7, .ref m8, .ref m9, .ref m10, .ref m11, .ref m12, .ref m13, .ref m14, .ref m15, .ref m16, .ref m17, .ref m18, .ref m19, .ref m20, .int 0, .ref m22, .ref m23, .ref m24, .ref m25, .ref m26, .ref m27, .int 0, .ref m29])) from rfl), rd_pre hPc hKc⟩ rfl rfl hl.1 rfl (lv_room (Nat.le_of_ble_eq_true rfl)) d_MO_ticks_39 ⟨Nat.le_of_ble_eq_true rfl, Nat.le_of_ble_eq_true rfl⟩) ?_
    refine W.eq (g2 := F0 m 42 ls [.int 0]) rfl ?_
    refine lv_istore hx hb d_MO_ticks_42 hl (by decide) rfl (fun ls hl => ?_)
    have hl : lv_has ls 5 [(4, .int 0), (3, .int (nI k)), (2, .int 0), (1, .int (nI N)), (0, .ref g0)] := hl
    refine lv_iload_n hx hb d_MO_ticks_44 rfl (lv_at hl 2 rfl) ?_
    refine lv_aload_n hx hb d_MO_ticks_45 rfl (lv_at hl 4 rfl) ?_
    have hPc := hP.sub (ws' := [(g0, .inr (5, [.int 0, .int nw, .int (-1), .ref m3, .int 0, .ref m5, .ref m6, .ref m7, .ref m8, .ref m9, .ref m10, .ref m11, .ref m12, .ref m13, .ref m14, .ref m15, .ref m16, .ref m17, .ref m18, .ref m19, .ref m20, .int 0, .ref m22, .ref m23, .ref m24, .ref m25, .ref m26, .ref m27, .int 0, .ref m29]))]) [0] rfl
    have hKc := hK.sub (tys' := []) [] rfl
    refine rd_call (va_runV (C := R_MO) (As := []) (rest := [.int 0]) ⟨hx, hb, hml, hown, ht⟩ (c_MO_recordAll_0 l dC dI g0 m3 m5 m6 m7 m8 m9 m10 m11 m12 m13 m14 m15 m16 m17 m18 m19 m20 m22 m23 m24 m25 m26 m27 m29 0 nw) (cwV 0 ht (gV tb_816 tb_818 ts_37 tb_5 tb_819) rfl rfl rfl (by decide +kernel) ⟨Nat.le_of_ble_eq_true rfl, Nat.le_of_ble_eq_true rfl⟩) ⟨rdP_blind, va_recv (q := (R_MO, F_MO, 30)) hK hP rfl (show ([(g0, .inr (5, [.int 0, .int nw, .int (-1), .ref m3, .int 0, .ref m5, .ref m6, .ref m7, .ref m8, .ref m9, .ref m10, .ref m11, .ref m12, .ref m13, .ref m14, .ref m15, .ref m16, .ref m17, .ref m18, .ref m19, .ref m20, .int 0, .ref m22, .ref m23, .ref m24, .ref m25, .ref m26, .ref m27, .int 0, .ref m29]))] : va_W)[0]? = some (g0, .inr (5, [.int 0, .int nw, .int (-1), .ref m3, .int 0, .ref m5, .ref m6, .ref m7, .ref m8, .ref m9, .ref m10, .ref m11, .ref m12, .ref m13, .ref m14, .ref m15, .ref m16, .ref m17, .ref m18, .ref m19, .ref m20, .int 0, .ref m22, .ref m23, .ref m24, .ref m25, .ref m26, .ref m27, .int 0, .ref m29])) from rfl), rd_pre hPc hKc⟩ rfl rfl hl.1 rfl (lv_room (Nat.le_of_ble_eq_true rfl)) d_MO_ticks_46 ⟨Nat.le_of_ble_eq_true rfl, Nat.le_of_ble_eq_true rfl⟩) ?_
    refine W.eq (g2 := F0 m 49 ls [.int 0, .int 0]) rfl ?_
    refine lv_iadd hx hb d_MO_ticks_49 ?_
    refine lv_topi (fun v1 ev1 => ?_)
    obtain rfl : v1 = 0 := ev1.trans (by decide)
    refine lv_istore_n hx hb d_MO_ticks_50 rfl hl (by decide) rfl (fun ls hl => ?_)
    have hl : lv_has ls 5 [(2, .int 0), (4, .int 0), (3, .int (nI k)), (1, .int (nI N)), (0, .ref g0)] := hl
    refine lv_aload_n hx hb d_MO_ticks_51 rfl (lv_at hl 4 rfl) ?_
    refine lv_iload hx hb d_MO_ticks_52 (lv_at hl 1 rfl) ?_
    have hPc := hP.sub (ws' := [(g0, .inr (5, [.int 0, .int nw, .int (-1), .ref m3, .int 0, .ref m5, .ref m6, .ref m7, .ref m8, .ref m9, .ref m10, .ref m11, .ref m12, .ref m13, .ref m14, .ref m15, .ref m16, .ref m17, .ref m18, .ref m19, .ref m20, .int 0, .ref m22, .ref m23, .ref m24, .ref m25, .ref m26, .ref m27, .int 0, .ref m29]))]) [0] rfl
    have hKc := hK.sub (tys' := []) [] rfl
    have hDc := hD.sub (ws' := [(g0, .inr (5, [.int 0, .int nw, .int (-1), .ref m3, .int 0, .ref m5, .ref m6, .ref m7, .ref m8, .ref m9, .ref m10, .ref m11, .ref m12, .ref m13, .ref m14, .ref m15, .ref m16, .ref m17, .ref m18, .ref m19, .ref m20, .int 0, .ref m22, .ref m23, .ref m24, .ref m25, .ref m26, .ref m27, .int 0, .ref m29]))]) [0] (by decide) rfl
    have hFc := va_free (wc := [(g0, .inr (5, [.int 0, .int nw, .int (-1), .ref m3, .int 0, .ref m5, .ref m6, .ref m7, .ref m8, .ref m9, .ref m10, .ref m11, .ref m12, .ref m13, .ref m14, .ref m15, .ref m16, .ref m17, .ref m18, .ref m19, .ref m20, .int 0, .ref m22, .ref m23, .ref m24, .ref m25, .ref m26, .ref m27, .int 0, .ref m29]))]) hD hS hA [0] rfl
    refine fr_call (va_runV (C := R_MO) (As := [.int 0]) (rest := []) ⟨hx, hb, hml, hown, ht⟩ (c_MO_keepBack_0 l dC dI H.size Bd g0 m3 m5 m6 m7 m8 m9 m10 m11 m12 m13 m14 m15 m16 m17 m18 m19 m20 m22 m23 m24 m25 m26 m27 m29 0 nw 0) (cwV 1 ht (gV tb_844 tb_846 ts_44 tb_5 tb_847) rfl rfl rfl (by decide +kernel) ⟨Nat.le_of_ble_eq_true rfl, Nat.le_of_ble_eq_true rfl⟩) ⟨frP_blind, va_recv (q := (R_MO, F_MO, 30)) hK hP rfl (show ([(g0, .inr (5, [.int 0, .int nw, .int (-1), .ref m3, .int 0, .ref m5, .ref m6, .ref m7, .ref m8, .ref m9, .ref m10, .ref m11, .ref m12, .ref m13, .ref m14, .ref m15, .ref m16, .ref m17, .ref m18, .ref m19, .ref m20, .int 0, .ref m22, .ref m23, .ref m24, .ref m25, .ref m26, .ref m27, .int 0, .ref m29]))] : va_W)[0]? = some (g0, .inr (5, [.int 0, .int nw, .int (-1), .ref m3, .int 0, .ref m5, .ref m6, .ref m7, .ref m8, .ref m9, .ref m10, .ref m11, .ref m12, .ref m13, .ref m14, .ref m15, .ref m16, .ref m17, .ref m18, .ref m19, .ref m20, .int 0, .ref m22, .ref m23, .ref m24, .ref m25, .ref m26, .ref m27, .int 0, .ref m29])) from rfl), fr_pre hPc hKc hDc hAB hBs hS hV⟩ rfl rfl hl.1 rfl (lv_room (Nat.le_of_ble_eq_true rfl)) d_MO_ticks_54 ⟨Nat.le_of_ble_eq_true rfl, Nat.le_of_ble_eq_true rfl⟩) hS (fun q _ h => hFc q h) hFc (fun t H1 locs ht1 hvm hB1 hz1 hk1 hS => ?_)
    obtain ⟨hP1, hK1, hD1⟩ := hB1
    rw [ht1] at hP1
    have hK1 := va_K.moved hvm.symm hK1
    obtain ⟨hP, hD⟩ := va_join (wr := []) (w1 := [(g0, .inr (5, [.int 0, .int nw, .int (-1), .ref m3, .int 0, .ref m5, .ref m6, .ref m7, .ref m8, .ref m9, .ref m10, .ref m11, .ref m12, .ref m13, .ref m14, .ref m15, .ref m16, .ref m17, .ref m18, .ref m19, .ref m20, .int 0, .ref m22, .ref m23, .ref m24, .ref m25, .ref m26, .ref m27, .int 0, .ref m29]))]) hP hD [0] [] rfl rfl (by decide) (by decide) hk1 hFc hP1 hD1
    have hK := hK.app hK1
    generalize H1 = H at hP hS ⊢
    have hP : va_P (dC, dI) cls_ [(g0, .inr (5, [.int 0, .int nw, .int (-1), .ref m3, .int 0, .ref m5, .ref m6, .ref m7, .ref m8, .ref m9, .ref m10, .ref m11, .ref m12, .ref m13, .ref m14, .ref m15, .ref m16, .ref m17, .ref m18, .ref m19, .ref m20, .int 0, .ref m22, .ref m23, .ref m24, .ref m25, .ref m26, .ref m27, .int 0, .ref m29]))] H := hP
    have hD : va_D A [(g0, .inr (5, [.int 0, .int nw, .int (-1), .ref m3, .int 0, .ref m5, .ref m6, .ref m7, .ref m8, .ref m9, .ref m10, .ref m11, .ref m12, .ref m13, .ref m14, .ref m15, .ref m16, .ref m17, .ref m18, .ref m19, .ref m20, .int 0, .ref m22, .ref m23, .ref m24, .ref m25, .ref m26, .ref m27, .int 0, .ref m29]))] := hD
    have hK : va_K (dC, dI) cls_ [] s := hK
    refine W.eq (g2 := F0 m 57 ls []) rfl ?_
    refine W.cs (cells' := 0) (slots' := 0) rfl rfl ?_
    refine lv_aload_n hx hb d_MO_ticks_57 rfl (lv_at hl 4 rfl) ?_
    have hPc := hP.sub (ws' := [(g0, .inr (5, [.int 0, .int nw, .int (-1), .ref m3, .int 0, .ref m5, .ref m6, .ref m7, .ref m8, .ref m9, .ref m10, .ref m11, .ref m12, .ref m13, .ref m14, .ref m15, .ref m16, .ref m17, .ref m18, .ref m19, .ref m20, .int 0, .ref m22, .ref m23, .ref m24, .ref m25, .ref m26, .ref m27, .int 0, .ref m29]))]) [0] rfl
    have hKc := hK.sub (tys' := []) [] rfl
    have hDc := hD.sub (ws' := [(g0, .inr (5, [.int 0, .int nw, .int (-1), .ref m3, .int 0, .ref m5, .ref m6, .ref m7, .ref m8, .ref m9, .ref m10, .ref m11, .ref m12, .ref m13, .ref m14, .ref m15, .ref m16, .ref m17, .ref m18, .ref m19, .ref m20, .int 0, .ref m22, .ref m23, .ref m24, .ref m25, .ref m26, .ref m27, .int 0, .ref m29]))]) [0] (by decide) rfl
    have hFc := va_free (wc := [(g0, .inr (5, [.int 0, .int nw, .int (-1), .ref m3, .int 0, .ref m5, .ref m6, .ref m7, .ref m8, .ref m9, .ref m10, .ref m11, .ref m12, .ref m13, .ref m14, .ref m15, .ref m16, .ref m17, .ref m18, .ref m19, .ref m20, .int 0, .ref m22, .ref m23, .ref m24, .ref m25, .ref m26, .ref m27, .int 0, .ref m29]))]) hD hS hA [0] rfl
    refine fr_call (va_runV (C := R_MO) (As := []) (rest := []) ⟨hx, hb, hml, hown, ht⟩ (c_MO_end_0 l dC dI H.size Bd g0 m3 m5 m6 m7 m8 m9 m10 m11 m12 m13 m14 m15 m16 m17 m18 m19 m20 m22 m23 m24 m25 m26 m27 m29 0 nw) (cwV 0 ht (gV tb_848 tb_850 ts_45 tb_5 tb_851) rfl rfl rfl (by decide +kernel) ⟨Nat.le_of_ble_eq_true rfl, Nat.le_of_ble_eq_true rfl⟩) ⟨frP_blind, va_recv (q := (R_MO, F_MO, 30)) hK hP rfl (show ([(g0, .inr (5, [.int 0, .int nw, .int (-1), .ref m3, .int 0, .ref m5, .ref m6, .ref m7, .ref m8, .ref m9, .ref m10, .ref m11, .ref m12, .ref m13, .ref m14, .ref m15, .ref m16, .ref m17, .ref m18, .ref m19, .ref m20, .int 0, .ref m22, .ref m23, .ref m24, .ref m25, .ref m26, .ref m27, .int 0, .ref m29]))] : va_W)[0]? = some (g0, .inr (5, [.int 0, .int nw, .int (-1), .ref m3, .int 0, .ref m5, .ref m6, .ref m7, .ref m8, .ref m9, .ref m10, .ref m11, .ref m12, .ref m13, .ref m14, .ref m15, .ref m16, .ref m17, .ref m18, .ref m19, .ref m20, .int 0, .ref m22, .ref m23, .ref m24, .ref m25, .ref m26, .ref m27, .int 0, .ref m29])) from rfl), fr_pre hPc hKc hDc hAB hBs hS hV⟩ rfl rfl hl.1 rfl (lv_room (Nat.le_of_ble_eq_true rfl)) d_MO_ticks_58 ⟨Nat.le_of_ble_eq_true rfl, Nat.le_of_ble_eq_true rfl⟩) hS (fun q _ h => hFc q h) hFc (fun t H1 locs ht1 hvm hB1 hz1 hk1 hS => ?_)
    obtain ⟨hP1, hK1, hD1⟩ := hB1
    rw [ht1] at hP1
    have hK1 := va_K.moved hvm.symm hK1
    obtain ⟨hP, hD⟩ := va_join (wr := []) (w1 := [(g0, .inr (5, [.int 0, .int (nw + 1), .int (-1), .ref m3, .int 0, .ref m5, .ref m6, .ref m7, .ref m8, .ref m9, .ref m10, .ref m11, .ref m12, .ref m13, .ref m14, .ref m15, .ref m16, .ref m17, .ref m18, .ref m19, .ref m20, .int 0, .ref m22, .ref m23, .ref m24, .ref m25, .ref m26, .ref m27, .int 0, .ref m29]))]) hP hD [0] [] rfl rfl (by decide) (by decide) hk1 hFc hP1 hD1
    have hK := hK.app hK1
    generalize H1 = H at hP hS ⊢
    have hP : va_P (dC, dI) cls_ [(g0, .inr (5, [.int 0, .int (nw + 1), .int (-1), .ref m3, .int 0, .ref m5, .ref m6, .ref m7, .ref m8, .ref m9, .ref m10, .ref m11, .ref m12, .ref m13, .ref m14, .ref m15, .ref m16, .ref m17, .ref m18, .ref m19, .ref m20, .int 0, .ref m22, .ref m23, .ref m24, .ref m25, .ref m26, .ref m27, .int 0, .ref m29]))] H := hP
    have hD : va_D A [(g0, .inr (5, [.int 0, .int (nw + 1), .int (-1), .ref m3, .int 0, .ref m5, .ref m6, .ref m7, .ref m8, .ref m9, .ref m10, .ref m11, .ref m12, .ref m13, .ref m14, .ref m15, .ref m16, .ref m17, .ref m18, .ref m19, .ref m20, .int 0, .ref m22, .ref m23, .ref m24, .ref m25, .ref m26, .ref m27, .int 0, .ref m29]))] := hD
    have hK : va_K (dC, dI) cls_ [] s := hK
    refine W.eq (g2 := F0 m 61 ls []) rfl ?_
    refine W.cs (cells' := 0) (slots' := 0) rfl rfl ?_
    refine lv_iinc (k := 2) (v := nI (k + 1)) hx hb d_MO_ticks_61 hl rfl ((nI_succ k).symm) (by decide) rfl (fun ls hl => ?_)
    have hl : lv_has ls 5 [(3, .int (nI (k + 1))), (2, .int 0), (4, .int 0), (1, .int (nI N)), (0, .ref g0)] := hl
    refine lv_goto (tgt := 29) hx hb d_MO_ticks_64 (by decide) ?_
    have hl := lv_sub hl [0, 1, 3, 4] (l' := [(3, .int (nI (k + 1))), (2, .int 0), (1, .int (nI N)), (0, .ref g0)]) rfl
    have hP := hP.sub (ws' := [(g0, .inr (5, [.int 0, .int (nw + 1), .int (-1), .ref m3, .int 0, .ref m5, .ref m6, .ref m7, .ref m8, .ref m9, .ref m10, .ref m11, .ref m12, .ref m13, .ref m14, .ref m15, .ref m16, .ref m17, .ref m18, .ref m19, .ref m20, .int 0, .ref m22, .ref m23, .ref m24, .ref m25, .ref m26, .ref m27, .int 0, .ref m29]))]) [0] rfl
    have hD := hD.sub (ws' := [(g0, .inr (5, [.int 0, .int (nw + 1), .int (-1), .ref m3, .int 0, .ref m5, .ref m6, .ref m7, .ref m8, .ref m9, .ref m10, .ref m11, .ref m12, .ref m13, .ref m14, .ref m15, .ref m16, .ref m17, .ref m18, .ref m19, .ref m20, .int 0, .ref m22, .ref m23, .ref m24, .ref m25, .ref m26, .ref m27, .int 0, .ref m29]))]) [0] (by decide) rfl
    exact ih (k + 1) (nw + 1) H locs ls (by omega) hl hP hD hS
set_option maxHeartbeats 4000000 in
set_option maxRecDepth 100000 in
theorem c_MO_ticks_ok (l : Launch) (dC : Nat → ClassId) (dI : Nat → Nat → Nat) (sz Bd : Nat) (g0 m3 m5 m6 m7 m8 m9 m10 m11 m12 m13 m14 m15 m16 m17 m18 m19 m20 m22 m23 m24 m25 m26 m27 m29 : Nat) (N : Nat) (h : 1 ≤ N ∧ N ≤ 100) : Met l y_MO_ticks w_MO_ticks ({ frames := 3, cells := 0, slots := 0, locals := 66 }) (frP (dC, dI) [(g0, .inr (5, [.int 0, .int 0, .int (-1), .ref m3, .int 0, .ref m5, .ref m6, .ref m7, .ref m8, .ref m9, .ref m10, .ref m11, .ref m12, .ref m13, .ref m14, .ref m15, .ref m16, .ref m17, .ref m18, .ref m19, .ref m20, .int 0, .ref m22, .ref m23, .ref m24, .ref m25, .ref m26, .ref m27, .int 0, .ref m29]))] [] sz Bd [.ref g0, .int (nI N)]) (frQ (some (.int 0)) (fun t => ∃ (nw : Int32), va_P (dC, dI) cls_ [(g0, .inr (5, [.int 0, .int nw, .int (-1), .ref m3, .int 0, .ref m5, .ref m6, .ref m7, .ref m8, .ref m9, .ref m10, .ref m11, .ref m12, .ref m13, .ref m14, .ref m15, .ref m16, .ref m17, .ref m18, .ref m19, .ref m20, .int 0, .ref m22, .ref m23, .ref m24, .ref m25, .ref m26, .ref m27, .int 0, .ref m29]))] t.heap ∧ va_K (dC, dI) cls_ [] t ∧ va_D (va_A [(g0, .inr (5, [.int 0, .int 0, .int (-1), .ref m3, .int 0, .ref m5, .ref m6, .ref m7, .ref m8, .ref m9, .ref m10, .ref m11, .ref m12, .ref m13, .ref m14, .ref m15, .ref m16, .ref m17, .ref m18, .ref m19, .ref m20, .int 0, .ref m22, .ref m23, .ref m24, .ref m25, .ref m26, .ref m27, .int 0, .ref m29]))] sz) [(g0, .inr (5, [.int 0, .int nw, .int (-1), .ref m3, .int 0, .ref m5, .ref m6, .ref m7, .ref m8, .ref m9, .ref m10, .ref m11, .ref m12, .ref m13, .ref m14, .ref m15, .ref m16, .ref m17, .ref m18, .ref m19, .ref m20, .int 0, .ref m22, .ref m23, .ref m24, .ref m25, .ref m26, .ref m27, .int 0, .ref m29]))]) (va_A [(g0, .inr (5, [.int 0, .int 0, .int (-1), .ref m3, .int 0, .ref m5, .ref m6, .ref m7, .ref m8, .ref m9, .ref m10, .ref m11, .ref m12, .ref m13, .ref m14, .ref m15, .ref m16, .ref m17, .ref m18, .ref m19, .ref m20, .int 0, .ref m22, .ref m23, .ref m24, .ref m25, .ref m26, .ref m27, .int 0, .ref m29]))] sz)) 0 0 (va_A [(g0, .inr (5, [.int 0, .int 0, .int (-1), .ref m3, .int 0, .ref m5, .ref m6, .ref m7, .ref m8, .ref m9, .ref m10, .ref m11, .ref m12, .ref m13, .ref m14, .ref m15, .ref m16, .ref m17, .ref m18, .ref m19, .ref m20, .int 0, .ref m22, .ref m23, .ref m24, .ref m25, .ref m26, .ref m27, .int 0, .ref m29]))] sz) := by
  refine Met.ofW (cc := c_MO_ticks) (maxL := 5) (ret := (some .int)) (by decide) rfl ?_
  intro p e s m args below meth c s₁ B hml hv
  obtain ⟨rfl, ⟨hsz, hBs⟩, hP, hK, hD0, hV⟩ := hv
  have hx := B.exec
  have hb := B.bytes
  have hr := B.returns
  have ht : ∀ w ∈ tb_, w.before _ s = true := fun w h => atoms_spec (ws := w_MO_ticks) B.pre w (List.mem_cons_of_mem _ h)
  have hown : s.vm.findClass R_MO = some m.cls := findClass_of_methodNamed B.named
  have hlocks := B.notSynchronized
  subst hsz
  have hD := hD0.self (sz := s.heap.size)
  have hAB : ∀ q, va_A [(g0, .inr (5, [.int 0, .int 0, .int (-1), .ref m3, .int 0, .ref m5, .ref m6, .ref m7, .ref m8, .ref m9, .ref m10, .ref m11, .ref m12, .ref m13, .ref m14, .ref m15, .ref m16, .ref m17, .ref m18, .ref m19, .ref m20, .int 0, .ref m22, .ref m23, .ref m24, .ref m25, .ref m26, .ref m27, .int 0, .ref m29]))] s.heap.size q → Bd ≤ q := fr_AB hD0 hBs
  generalize hAe : va_A [(g0, .inr (5, [.int 0, .int 0, .int (-1), .ref m3, .int 0, .ref m5, .ref m6, .ref m7, .ref m8, .ref m9, .ref m10, .ref m11, .ref m12, .ref m13, .ref m14, .ref m15, .ref m16, .ref m17, .ref m18, .ref m19, .ref m20, .int 0, .ref m22, .ref m23, .ref m24, .ref m25, .ref m26, .ref m27, .int 0, .ref m29]))] s.heap.size = A at hD hAB ⊢
  have hA : ∀ q : Nat, s.heap.size ≤ q → A q := fun q h => by rw [← hAe]; exact Or.inr h
  have hS : va_S A s.heap s.heap [] := va_S.rf
  have hAO := hV.2.2.2.1
  have hN_PL := hV.2.2.1.1
  have hN_RW := hV.2.2.1.2
  have hP : va_P (dC, dI) cls_ [(g0, .inr (5, [.int 0, .int 0, .int (-1), .ref m3, .int 0, .ref m5, .ref m6, .ref m7, .ref m8, .ref m9, .ref m10, .ref m11, .ref m12, .ref m13, .ref m14, .ref m15, .ref m16, .ref m17, .ref m18, .ref m19, .ref m20, .int 0, .ref m22, .ref m23, .ref m24, .ref m25, .ref m26, .ref m27, .int 0, .ref m29]))] s.heap := hP
  have hl := lv_entry ([.ref g0, .int (nI N)]) (n := 5) (Nat.le_of_ble_eq_true rfl)
  rw [lg_entry_eq]
  generalize (lg_sl ([.ref g0, .int (nI N)]) ++ List.replicate (5 - (lg_sl ([.ref g0, .int (nI N)])).length) Slot.unset).toArray = ls at hl ⊢
  have hl : lv_has ls 5 [(0, .ref g0), (1, .int (nI N))] := hl
  refine lv_aload_n hx hb d_MO_ticks_0 rfl (lv_at hl 0 rfl) ?_
  refine lv_iload_n hx hb d_MO_ticks_1 rfl (lv_at hl 1 rfl) ?_
  refine lv_iconst (v := 1) hx hb d_MO_ticks_2 (by decide) ?_
  refine lv_icmp_lt (tgt := 12) hx hb d_MO_ticks_3 (by decide) (fun h9 => absurd h9 (Int32.not_lt.mpr (show nI 1 ≤ nI N from nI_le h.1 (by omega)))) (fun _ => ?_)
  refine lv_iload_n hx hb d_MO_ticks_6 rfl (lv_at hl 1 rfl) ?_
  refine lv_bipush (v := 100) hx hb d_MO_ticks_7 (by decide) ?_
  refine lv_icmp_le (tgt := 16) hx hb d_MO_ticks_9 (by decide) (fun _ => ?_) (fun h9 => absurd (show nI N ≤ nI 100 from nI_le h.2 (by decide)) h9)
  refine lv_iconst (v := 0) hx hb d_MO_ticks_16 (by decide) ?_
  have hPc := hP.sub (ws' := [(g0, .inr (5, [.int 0, .int 0, .int (-1), .ref m3, .int 0, .ref m5, .ref m6, .ref m7, .ref m8, .ref m9, .ref m10, .ref m11, .ref m12, .ref m13, .ref m14, .ref m15, .ref m16, .ref m17, .ref m18, .ref m19, .ref m20, .int 0, .ref m22, .ref m23, .ref m24, .ref m25, .ref m26, .ref m27, .int 0, .ref m29]))]) [0] rfl
  have hKc := hK.sub (tys' := []) [] rfl
  have hDc := hD.sub (ws' := [(g0, .inr (5, [.int 0, .int 0, .int (-1), .ref m3, .int 0, .ref m5, .ref m6, .ref m7, .ref m8, .ref m9, .ref m10, .ref m11, .ref m12, .ref m13, .ref m14, .ref m15, .ref m16, .ref m17, .ref m18, .ref m19, .ref m20, .int 0, .ref m22, .ref m23, .ref m24, .ref m25, .ref m26, .ref m27, .int 0, .ref m29]))]) [0] (by decide) rfl
  have hFc := va_free (wc := [(g0, .inr (5, [.int 0, .int 0, .int (-1), .ref m3, .int 0, .ref m5, .ref m6, .ref m7, .ref m8, .ref m9, .ref m10, .ref m11, .ref m12, .ref m13, .ref m14, .ref m15, .ref m16, .ref m17, .ref m18, .ref m19, .ref m20, .int 0, .ref m22, .ref m23, .ref m24, .ref m25, .ref m26, .ref m27, .int 0, .ref m29]))]) hD hS hA [0] rfl
  refine fr_call (va_runV (C := R_MO) (As := [.int 0]) (rest := []) ⟨hx, hb, hml, hown, ht⟩ (c_MO_refused_no l dC dI s.heap.size Bd g0 m3 m5 m6 m7 m8 m9 m10 m11 m12 m13 m14 m15 m16 m17 m18 m19 m20 m22 m23 m24 m25 m26 m27 m29 0 0) (cwV 1 ht (gV tb_736 tb_738 ts_23 tb_5 tb_739) rfl rfl rfl (by decide +kernel) ⟨Nat.le_of_ble_eq_true rfl, Nat.le_of_ble_eq_true rfl⟩) ⟨frP_blind, va_recv (q := (R_MO, F_MO, 30)) hK hP rfl (show ([(g0, .inr (5, [.int 0, .int 0, .int (-1), .ref m3, .int 0, .ref m5, .ref m6, .ref m7, .ref m8, .ref m9, .ref m10, .ref m11, .ref m12, .ref m13, .ref m14, .ref m15, .ref m16, .ref m17, .ref m18, .ref m19, .ref m20, .int 0, .ref m22, .ref m23, .ref m24, .ref m25, .ref m26, .ref m27, .int 0, .ref m29]))] : va_W)[0]? = some (g0, .inr (5, [.int 0, .int 0, .int (-1), .ref m3, .int 0, .ref m5, .ref m6, .ref m7, .ref m8, .ref m9, .ref m10, .ref m11, .ref m12, .ref m13, .ref m14, .ref m15, .ref m16, .ref m17, .ref m18, .ref m19, .ref m20, .int 0, .ref m22, .ref m23, .ref m24, .ref m25, .ref m26, .ref m27, .int 0, .ref m29])) from rfl), fr_pre hPc hKc hDc hAB hBs hS hV⟩ rfl rfl hl.1 rfl (lv_room (Nat.le_of_ble_eq_true rfl)) d_MO_ticks_17 ⟨Nat.le_of_ble_eq_true rfl, Nat.le_of_ble_eq_true rfl⟩) hS (fun q _ h => hFc q h) hFc (fun t H1 locs ht1 hvm hB1 hz1 hk1 hS => ?_)
  obtain ⟨hP1, hK1, hD1⟩ := hB1
  rw [ht1] at hP1
  have hK1 := va_K.moved hvm.symm hK1
  obtain ⟨hP, hD⟩ := va_join (wr := []) (w1 := [(g0, .inr (5, [.int 0, .int 0, .int (-1), .ref m3, .int 0, .ref m5, .ref m6, .ref m7, .ref m8, .ref m9, .ref m10, .ref m11, .ref m12, .ref m13, .ref m14, .ref m15, .ref m16, .ref m17, .ref m18, .ref m19, .ref m20, .int 0, .ref m22, .ref m23, .ref m24, .ref m25, .ref m26, .ref m27, .int 0, .ref m29]))]) hP hD [0] [] rfl rfl (by decide) (by decide) hk1 hFc hP1 hD1
  have hK := hK.app hK1
  generalize H1 = H at hP hS ⊢
  have hP : va_P (dC, dI) cls_ [(g0, .inr (5, [.int 0, .int 0, .int (-1), .ref m3, .int 0, .ref m5, .ref m6, .ref m7, .ref m8, .ref m9, .ref m10, .ref m11, .ref m12, .ref m13, .ref m14, .ref m15, .ref m16, .ref m17, .ref m18, .ref m19, .ref m20, .int 0, .ref m22, .ref m23, .ref m24, .ref m25, .ref m26, .ref m27, .int 0, .ref m29]))] H := hP
  have hD : va_D A [(g0, .inr (5, [.int 0, .int 0, .int (-1), .ref m3, .int 0, .ref m5, .ref m6, .ref m7, .ref m8, .ref m9, .ref m10, .ref m11, .ref m12, .ref m13, .ref m14, .ref m15, .ref m16, .ref m17, .ref m18, .ref m19, .ref m20, .int 0, .ref m22, .ref m23, .ref m24, .ref m25, .ref m26, .ref m27, .int 0, .ref m29]))] := hD
  have hK : va_K (dC, dI) cls_ [] s := hK
  refine W.eq (g2 := F0 m 20 ls [.int 0]) rfl ?_
  refine W.cs (cells' := 0) (slots' := 0) rfl rfl ?_
  refine lv_if_eq (tgt := 25) hx hb d_MO_ticks_20 (by decide) (fun _ => ?_) (fun h9 => absurd (rfl) h9)
  refine lv_iconst (v := 0) hx hb d_MO_ticks_25 (by decide) ?_
  refine lv_istore_n hx hb d_MO_ticks_26 rfl hl (by decide) rfl (fun ls hl => ?_)
  have hl : lv_has ls 5 [(2, .int 0), (0, .ref g0), (1, .int (nI N))] := hl
  refine lv_iconst (v := 0) hx hb d_MO_ticks_27 (by decide) ?_
  refine lv_istore_n hx hb d_MO_ticks_28 rfl hl (by decide) rfl (fun ls hl => ?_)
  have hl : lv_has ls 5 [(3, .int 0), (2, .int 0), (0, .ref g0), (1, .int (nI N))] := hl
  have hl := lv_sub hl [0, 1, 3, 2] (l' := [(3, .int 0), (2, .int 0), (1, .int (nI N)), (0, .ref g0)]) rfl
  refine lp_MO_ticks dC dI Bd g0 m3 m5 m6 m7 m8 m9 m10 m11 m12 m13 m14 m15 m16 m17 m18 m19 m20 m22 m23 m24 m25 m26 m27 m29 N h.2 hx hb hml ht hown (hK.sub (tys' := []) [] rfl) hA hAB hBs hV (fun nw H locs ls hl hP hD hS => ?_) N 0 0 _ _ _ (Nat.zero_add N) (by rw [nI_0]; exact hl) hP hD hS
  have hP := hP
  refine lv_iload_n hx hb d_MO_ticks_67 rfl (lv_at hl 1 rfl) ?_
  have hP9 := hP.sub (ws' := [(g0, .inr (5, [.int 0, .int nw, .int (-1), .ref m3, .int 0, .ref m5, .ref m6, .ref m7, .ref m8, .ref m9, .ref m10, .ref m11, .ref m12, .ref m13, .ref m14, .ref m15, .ref m16, .ref m17, .ref m18, .ref m19, .ref m20, .int 0, .ref m22, .ref m23, .ref m24, .ref m25, .ref m26, .ref m27, .int 0, .ref m29]))]) [0] rfl
  have hD9 := hD.sub (ws' := [(g0, .inr (5, [.int 0, .int nw, .int (-1), .ref m3, .int 0, .ref m5, .ref m6, .ref m7, .ref m8, .ref m9, .ref m10, .ref m11, .ref m12, .ref m13, .ref m14, .ref m15, .ref m16, .ref m17, .ref m18, .ref m19, .ref m20, .int 0, .ref m22, .ref m23, .ref m24, .ref m25, .ref m26, .ref m27, .int 0, .ref m29]))]) [0] (by decide) rfl
  have hK9 := hK.sub (tys' := []) [] rfl
  exact W.iret (v := 0) hx hb hr (fun t ht9 hW => ⟨rfl, ⟨nw, by rw [ht9]; exact hP9, va_K.moved hW.alike hK9, hD9⟩, hS.F ht9⟩) hS.2.2 d_MO_ticks_68
set_option maxHeartbeats 4000000 in
set_option maxRecDepth 100000 in
theorem c_MO_ticks_bad (l : Launch) (dC : Nat → ClassId) (dI : Nat → Nat → Nat) (sz Bd : Nat) (g0 m3 m5 m6 m7 m8 m9 m10 m11 m12 m13 m14 m15 m16 m17 m18 m19 m20 m22 m23 m24 m25 m26 m27 m29 : Nat) (x : Int32) (h : ¬ (1 ≤ x ∧ x ≤ 100)) : Met l y_MO_ticks w_MO_ticks ({ frames := 1, cells := 0, slots := 0, locals := 21 }) (frP (dC, dI) [(g0, .inr (5, [.int 0, .int 0, .int (-1), .ref m3, .int 0, .ref m5, .ref m6, .ref m7, .ref m8, .ref m9, .ref m10, .ref m11, .ref m12, .ref m13, .ref m14, .ref m15, .ref m16, .ref m17, .ref m18, .ref m19, .ref m20, .int 0, .ref m22, .ref m23, .ref m24, .ref m25, .ref m26, .ref m27, .int 0, .ref m29]))] [] sz Bd [.ref g0, .int x]) (frQ (some (.int 0)) (fun t => va_P (dC, dI) cls_ [(g0, .inr (5, [.int 1, .int 0, .int (-1), .ref m3, .int 0, .ref m5, .ref m6, .ref m7, .ref m8, .ref m9, .ref m10, .ref m11, .ref m12, .ref m13, .ref m14, .ref m15, .ref m16, .ref m17, .ref m18, .ref m19, .ref m20, .int 0, .ref m22, .ref m23, .ref m24, .ref m25, .ref m26, .ref m27, .int 0, .ref m29]))] t.heap ∧ va_K (dC, dI) cls_ [] t ∧ va_D (va_A [(g0, .inr (5, [.int 0, .int 0, .int (-1), .ref m3, .int 0, .ref m5, .ref m6, .ref m7, .ref m8, .ref m9, .ref m10, .ref m11, .ref m12, .ref m13, .ref m14, .ref m15, .ref m16, .ref m17, .ref m18, .ref m19, .ref m20, .int 0, .ref m22, .ref m23, .ref m24, .ref m25, .ref m26, .ref m27, .int 0, .ref m29]))] sz) [(g0, .inr (5, [.int 1, .int 0, .int (-1), .ref m3, .int 0, .ref m5, .ref m6, .ref m7, .ref m8, .ref m9, .ref m10, .ref m11, .ref m12, .ref m13, .ref m14, .ref m15, .ref m16, .ref m17, .ref m18, .ref m19, .ref m20, .int 0, .ref m22, .ref m23, .ref m24, .ref m25, .ref m26, .ref m27, .int 0, .ref m29]))]) (va_A [(g0, .inr (5, [.int 0, .int 0, .int (-1), .ref m3, .int 0, .ref m5, .ref m6, .ref m7, .ref m8, .ref m9, .ref m10, .ref m11, .ref m12, .ref m13, .ref m14, .ref m15, .ref m16, .ref m17, .ref m18, .ref m19, .ref m20, .int 0, .ref m22, .ref m23, .ref m24, .ref m25, .ref m26, .ref m27, .int 0, .ref m29]))] sz)) 0 0 (va_A [(g0, .inr (5, [.int 0, .int 0, .int (-1), .ref m3, .int 0, .ref m5, .ref m6, .ref m7, .ref m8, .ref m9, .ref m10, .ref m11, .ref m12, .ref m13, .ref m14, .ref m15, .ref m16, .ref m17, .ref m18, .ref m19, .ref m20, .int 0, .ref m22, .ref m23, .ref m24, .ref m25, .ref m26, .ref m27, .int 0, .ref m29]))] sz) := by
  refine Met.ofW (cc := c_MO_ticks) (maxL := 5) (ret := (some .int)) (by decide) rfl ?_
  intro p e s m args below meth c s₁ B hml hv
  obtain ⟨rfl, ⟨hsz, hBs⟩, hP, hK, hD0, hV⟩ := hv
  have hx := B.exec
  have hb := B.bytes
  have hr := B.returns
  have ht : ∀ w ∈ tb_, w.before _ s = true := fun w h => atoms_spec (ws := w_MO_ticks) B.pre w (List.mem_cons_of_mem _ h)
  have hown : s.vm.findClass R_MO = some m.cls := findClass_of_methodNamed B.named
  have hlocks := B.notSynchronized
  subst hsz
  have hD := hD0.self (sz := s.heap.size)
  have hAB : ∀ q, va_A [(g0, .inr (5, [.int 0, .int 0, .int (-1), .ref m3, .int 0, .ref m5, .ref m6, .ref m7, .ref m8, .ref m9, .ref m10, .ref m11, .ref m12, .ref m13, .ref m14, .ref m15, .ref m16, .ref m17, .ref m18, .ref m19, .ref m20, .int 0, .ref m22, .ref m23, .ref m24, .ref m25, .ref m26, .ref m27, .int 0, .ref m29]))] s.heap.size q → Bd ≤ q := fr_AB hD0 hBs
  generalize hAe : va_A [(g0, .inr (5, [.int 0, .int 0, .int (-1), .ref m3, .int 0, .ref m5, .ref m6, .ref m7, .ref m8, .ref m9, .ref m10, .ref m11, .ref m12, .ref m13, .ref m14, .ref m15, .ref m16, .ref m17, .ref m18, .ref m19, .ref m20, .int 0, .ref m22, .ref m23, .ref m24, .ref m25, .ref m26, .ref m27, .int 0, .ref m29]))] s.heap.size = A at hD hAB ⊢
  have hA : ∀ q : Nat, s.heap.size ≤ q → A q := fun q h => by rw [← hAe]; exact Or.inr h
  have hS : va_S A s.heap s.heap [] := va_S.rf
  have hAO := hV.2.2.2.1
  have hN_PL := hV.2.2.1.1
  have hN_RW := hV.2.2.1.2
  have hP : va_P (dC, dI) cls_ [(g0, .inr (5, [.int 0, .int 0, .int (-1), .ref m3, .int 0, .ref m5, .ref m6, .ref m7, .ref m8, .ref m9, .ref m10, .ref m11, .ref m12, .ref m13, .ref m14, .ref m15, .ref m16, .ref m17, .ref m18, .ref m19, .ref m20, .int 0, .ref m22, .ref m23, .ref m24, .ref m25, .ref m26, .ref m27, .int 0, .ref m29]))] s.heap := hP
  have hl := lv_entry ([.ref g0, .int x]) (n := 5) (Nat.le_of_ble_eq_true rfl)
  rw [lg_entry_eq]
  generalize (lg_sl ([.ref g0, .int x]) ++ List.replicate (5 - (lg_sl ([.ref g0, .int x])).length) Slot.unset).toArray = ls at hl ⊢
  have hl : lv_has ls 5 [(0, .ref g0), (1, .int x)] := hl
  refine lv_aload_n hx hb d_MO_ticks_0 rfl (lv_at hl 0 rfl) ?_
  refine lv_iload_n hx hb d_MO_ticks_1 rfl (lv_at hl 1 rfl) ?_
  refine lv_iconst (v := 1) hx hb d_MO_ticks_2 (by decide) ?_
  refine lv_icmp_lt (tgt := 12) hx hb d_MO_ticks_3 (by decide) (fun a1 => ?_) (fun a1 => ?_)
  · refine lv_iconst (v := 1) hx hb d_MO_ticks_12 (by decide) ?_
    refine lv_goto (tgt := 17) hx hb d_MO_ticks_13 (by decide) ?_
    have hPc := hP.sub (ws' := [(g0, .inr (5, [.int 0, .int 0, .int (-1), .ref m3, .int 0, .ref m5, .ref m6, .ref m7, .ref m8, .ref m9, .ref m10, .ref m11, .ref m12, .ref m13, .ref m14, .ref m15, .ref m16, .ref m17, .ref m18, .ref m19, .ref m20, .int 0, .ref m22, .ref m23, .ref m24, .ref m25, .ref m26, .ref m27, .int 0, .ref m29]))]) [0] rfl
    have hKc := hK.sub (tys' := []) [] rfl
    have hDc := hD.sub (ws' := [(g0, .inr (5, [.int 0, .int 0, .int (-1), .ref m3, .int 0, .ref m5, .ref m6, .ref m7, .ref m8, .ref m9, .ref m10, .ref m11, .ref m12, .ref m13, .ref m14, .ref m15, .ref m16, .ref m17, .ref m18, .ref m19, .ref m20, .int 0, .ref m22, .ref m23, .ref m24, .ref m25, .ref m26, .ref m27, .int 0, .ref m29]))]) [0] (by decide) rfl
    have hFc := va_free (wc := [(g0, .inr (5, [.int 0, .int 0, .int (-1), .ref m3, .int 0, .ref m5, .ref m6, .ref m7, .ref m8, .ref m9, .ref m10, .ref m11, .ref m12, .ref m13, .ref m14, .ref m15, .ref m16, .ref m17, .ref m18, .ref m19, .ref m20, .int 0, .ref m22, .ref m23, .ref m24, .ref m25, .ref m26, .ref m27, .int 0, .ref m29]))]) hD hS hA [0] rfl
    refine fr_call (va_runV (C := R_MO) (As := [.int 1]) (rest := []) ⟨hx, hb, hml, hown, ht⟩ (c_MO_refused_yes l dC dI s.heap.size Bd g0 m3 m5 m6 m7 m8 m9 m10 m11 m12 m13 m14 m15 m16 m17 m18 m19 m20 m22 m23 m24 m25 m26 m27 m29 0 0) (cwV 1 ht (gV tb_736 tb_738 ts_23 tb_5 tb_739) rfl rfl rfl (by decide +kernel) ⟨Nat.le_of_ble_eq_true rfl, Nat.le_of_ble_eq_true rfl⟩) ⟨frP_blind, va_recv (q := (R_MO, F_MO, 30)) hK hP rfl (show ([(g0, .inr (5, [.int 0, .int 0, .int (-1), .ref m3, .int 0, .ref m5, .ref m6, .ref m7, .ref m8, .ref m9, .ref m10, .ref m11, .ref m12, .ref m13, .ref m14, .ref m15, .ref m16, .ref m17, .ref m18, .ref m19, .ref m20, .int 0, .ref m22, .ref m23, .ref m24, .ref m25, .ref m26, .ref m27, .int 0, .ref m29]))] : va_W)[0]? = some (g0, .inr (5, [.int 0, .int 0, .int (-1), .ref m3, .int 0, .ref m5, .ref m6, .ref m7, .ref m8, .ref m9, .ref m10, .ref m11, .ref m12, .ref m13, .ref m14, .ref m15, .ref m16, .ref m17, .ref m18, .ref m19, .ref m20, .int 0, .ref m22, .ref m23, .ref m24, .ref m25, .ref m26, .ref m27, .int 0, .ref m29])) from rfl), fr_pre hPc hKc hDc hAB hBs hS hV⟩ rfl rfl hl.1 rfl (lv_room (Nat.le_of_ble_eq_true rfl)) d_MO_ticks_17 ⟨Nat.le_of_ble_eq_true rfl, Nat.le_of_ble_eq_true rfl⟩) hS (fun q _ h => hFc q h) hFc (fun t H1 locs ht1 hvm hB1 hz1 hk1 hS => ?_)
    obtain ⟨hP1, hK1, hD1⟩ := hB1
    rw [ht1] at hP1
    have hK1 := va_K.moved hvm.symm hK1
    obtain ⟨hP, hD⟩ := va_join (wr := []) (w1 := [(g0, .inr (5, [.int 1, .int 0, .int (-1), .ref m3, .int 0, .ref m5, .ref m6, .ref m7, .ref m8, .ref m9, .ref m10, .ref m11, .ref m12, .ref m13, .ref m14, .ref m15, .ref m16, .ref m17, .ref m18, .ref m19, .ref m20, .int 0, .ref m22, .ref m23, .ref m24, .ref m25, .ref m26, .ref m27, .int 0, .ref m29]))]) hP hD [0] [] rfl rfl (by decide) (by decide) hk1 hFc hP1 hD1
    have hK := hK.app hK1
    generalize H1 = H at hP hS ⊢
    have hP : va_P (dC, dI) cls_ [(g0, .inr (5, [.int 1, .int 0, .int (-1), .ref m3, .int 0, .ref m5, .ref m6, .ref m7, .ref m8, .ref m9, .ref m10, .ref m11, .ref m12, .ref m13, .ref m14, .ref m15, .ref m16, .ref m17, .ref m18, .ref m19, .ref m20, .int 0, .ref m22, .ref m23, .ref m24, .ref m25, .ref m26, .ref m27, .int 0, .ref m29]))] H := hP
    have hD : va_D A [(g0, .inr (5, [.int 1, .int 0, .int (-1), .ref m3, .int 0, .ref m5, .ref m6, .ref m7, .ref m8, .ref m9, .ref m10, .ref m11, .ref m12, .ref m13, .ref m14, .ref m15, .ref m16, .ref m17, .ref m18, .ref m19, .ref m20, .int 0, .ref m22, .ref m23, .ref m24, .ref m25, .ref m26, .ref m27, .int 0, .ref m29]))] := hD
    have hK : va_K (dC, dI) cls_ [] s := hK
    refine W.eq (g2 := F0 m 20 ls [.int 1]) rfl ?_
    refine W.cs (cells' := 0) (slots' := 0) rfl rfl ?_
    refine lv_if_eq (tgt := 25) hx hb d_MO_ticks_20 (by decide) (fun h9 => absurd h9 (by decide)) (fun _ => ?_)
    refine lv_iconst (v := 0) hx hb d_MO_ticks_23 (by decide) ?_
    have hP9 := hP.sub (ws' := [(g0, .inr (5, [.int 1, .int 0, .int (-1), .ref m3, .int 0, .ref m5, .ref m6, .ref m7, .ref m8, .ref m9, .ref m10, .ref m11, .ref m12, .ref m13, .ref m14, .ref m15, .ref m16, .ref m17, .ref m18, .ref m19, .ref m20, .int 0, .ref m22, .ref m23, .ref m24, .ref m25, .ref m26, .ref m27, .int 0, .ref m29]))]) [0] rfl
    have hD9 := hD.sub (ws' := [(g0, .inr (5, [.int 1, .int 0, .int (-1), .ref m3, .int 0, .ref m5, .ref m6, .ref m7, .ref m8, .ref m9, .ref m10, .ref m11, .ref m12, .ref m13, .ref m14, .ref m15, .ref m16, .ref m17, .ref m18, .ref m19, .ref m20, .int 0, .ref m22, .ref m23, .ref m24, .ref m25, .ref m26, .ref m27, .int 0, .ref m29]))]) [0] (by decide) rfl
    have hK9 := hK.sub (tys' := []) [] rfl
    exact W.iret (v := 0) hx hb hr (fun t ht9 hW => ⟨rfl, ⟨by rw [ht9]; exact hP9, va_K.moved hW.alike hK9, hD9⟩, hS.F ht9⟩) hS.2.2 d_MO_ticks_24
  · refine lv_iload_n hx hb d_MO_ticks_6 rfl (lv_at hl 1 rfl) ?_
    refine lv_bipush (v := 100) hx hb d_MO_ticks_7 (by decide) ?_
    refine lv_icmp_le (tgt := 16) hx hb d_MO_ticks_9 (by decide) (fun a2 => ?_) (fun a2 => ?_)
    · exact absurd ⟨Int32.not_lt.mp a1, a2⟩ h
    · refine lv_iconst (v := 1) hx hb d_MO_ticks_12 (by decide) ?_
      refine lv_goto (tgt := 17) hx hb d_MO_ticks_13 (by decide) ?_
      have hPc := hP.sub (ws' := [(g0, .inr (5, [.int 0, .int 0, .int (-1), .ref m3, .int 0, .ref m5, .ref m6, .ref m7, .ref m8, .ref m9, .ref m10, .ref m11, .ref m12, .ref m13, .ref m14, .ref m15, .ref m16, .ref m17, .ref m18, .ref m19, .ref m20, .int 0, .ref m22, .ref m23, .ref m24, .ref m25, .ref m26, .ref m27, .int 0, .ref m29]))]) [0] rfl
      have hKc := hK.sub (tys' := []) [] rfl
      have hDc := hD.sub (ws' := [(g0, .inr (5, [.int 0, .int 0, .int (-1), .ref m3, .int 0, .ref m5, .ref m6, .ref m7, .ref m8, .ref m9, .ref m10, .ref m11, .ref m12, .ref m13, .ref m14, .ref m15, .ref m16, .ref m17, .ref m18, .ref m19, .ref m20, .int 0, .ref m22, .ref m23, .ref m24, .ref m25, .ref m26, .ref m27, .int 0, .ref m29]))]) [0] (by decide) rfl
      have hFc := va_free (wc := [(g0, .inr (5, [.int 0, .int 0, .int (-1), .ref m3, .int 0, .ref m5, .ref m6, .ref m7, .ref m8, .ref m9, .ref m10, .ref m11, .ref m12, .ref m13, .ref m14, .ref m15, .ref m16, .ref m17, .ref m18, .ref m19, .ref m20, .int 0, .ref m22, .ref m23, .ref m24, .ref m25, .ref m26, .ref m27, .int 0, .ref m29]))]) hD hS hA [0] rfl
      refine fr_call (va_runV (C := R_MO) (As := [.int 1]) (rest := []) ⟨hx, hb, hml, hown, ht⟩ (c_MO_refused_yes l dC dI s.heap.size Bd g0 m3 m5 m6 m7 m8 m9 m10 m11 m12 m13 m14 m15 m16 m17 m18 m19 m20 m22 m23 m24 m25 m26 m27 m29 0 0) (cwV 1 ht (gV tb_736 tb_738 ts_23 tb_5 tb_739) rfl rfl rfl (by decide +kernel) ⟨Nat.le_of_ble_eq_true rfl, Nat.le_of_ble_eq_true rfl⟩) ⟨frP_blind, va_recv (q := (R_MO, F_MO, 30)) hK hP rfl (show ([(g0, .inr (5, [.int 0, .int 0, .int (-1), .ref m3, .int 0, .ref m5, .ref m6, .ref m7, .ref m8, .ref m9, .ref m10, .ref m11, .ref m12, .ref m13, .ref m14, .ref m15, .ref m16, .ref m17, .ref m18, .ref m19, .ref m20, .int 0, .ref m22, .ref m23, .ref m24, .ref m25, .ref m26, .ref m27, .int 0, .ref m29]))] : va_W)[0]? = some (g0, .inr (5, [.int 0, .int 0, .int (-1), .ref m3, .int 0, .ref m5, .ref m6, .ref m7, .ref m8, .ref m9, .ref m10, .ref m11, .ref m12, .ref m13, .ref m14, .ref m15, .ref m16, .ref m17, .ref m18, .ref m19, .ref m20, .int 0, .ref m22, .ref m23, .ref m24, .ref m25, .ref m26, .ref m27, .int 0, .ref m29])) from rfl), fr_pre hPc hKc hDc hAB hBs hS hV⟩ rfl rfl hl.1 rfl (lv_room (Nat.le_of_ble_eq_true rfl)) d_MO_ticks_17 ⟨Nat.le_of_ble_eq_true rfl, Nat.le_of_ble_eq_true rfl⟩) hS (fun q _ h => hFc q h) hFc (fun t H1 locs ht1 hvm hB1 hz1 hk1 hS => ?_)
      obtain ⟨hP1, hK1, hD1⟩ := hB1
      rw [ht1] at hP1
      have hK1 := va_K.moved hvm.symm hK1
      obtain ⟨hP, hD⟩ := va_join (wr := []) (w1 := [(g0, .inr (5, [.int 1, .int 0, .int (-1), .ref m3, .int 0, .ref m5, .ref m6, .ref m7, .ref m8, .ref m9, .ref m10, .ref m11, .ref m12, .ref m13, .ref m14, .ref m15, .ref m16, .ref m17, .ref m18, .ref m19, .ref m20, .int 0, .ref m22, .ref m23, .ref m24, .ref m25, .ref m26, .ref m27, .int 0, .ref m29]))]) hP hD [0] [] rfl rfl (by decide) (by decide) hk1 hFc hP1 hD1
      have hK := hK.app hK1
      generalize H1 = H at hP hS ⊢
      have hP : va_P (dC, dI) cls_ [(g0, .inr (5, [.int 1, .int 0, .int (-1), .ref m3, .int 0, .ref m5, .ref m6, .ref m7, .ref m8, .ref m9, .ref m10, .ref m11, .ref m12, .ref m13, .ref m14, .ref m15, .ref m16, .ref m17, .ref m18, .ref m19, .ref m20, .int 0, .ref m22, .ref m23, .ref m24, .ref m25, .ref m26, .ref m27, .int 0, .ref m29]))] H := hP
      have hD : va_D A [(g0, .inr (5, [.int 1, .int 0, .int (-1), .ref m3, .int 0, .ref m5, .ref m6, .ref m7, .ref m8, .ref m9, .ref m10, .ref m11, .ref m12, .ref m13, .ref m14, .ref m15, .ref m16, .ref m17, .ref m18, .ref m19, .ref m20, .int 0, .ref m22, .ref m23, .ref m24, .ref m25, .ref m26, .ref m27, .int 0, .ref m29]))] := hD
      have hK : va_K (dC, dI) cls_ [] s := hK
      refine W.eq (g2 := F0 m 20 ls [.int 1]) rfl ?_
      refine W.cs (cells' := 0) (slots' := 0) rfl rfl ?_
      refine lv_if_eq (tgt := 25) hx hb d_MO_ticks_20 (by decide) (fun h9 => absurd h9 (by decide)) (fun _ => ?_)
      refine lv_iconst (v := 0) hx hb d_MO_ticks_23 (by decide) ?_
      have hP9 := hP.sub (ws' := [(g0, .inr (5, [.int 1, .int 0, .int (-1), .ref m3, .int 0, .ref m5, .ref m6, .ref m7, .ref m8, .ref m9, .ref m10, .ref m11, .ref m12, .ref m13, .ref m14, .ref m15, .ref m16, .ref m17, .ref m18, .ref m19, .ref m20, .int 0, .ref m22, .ref m23, .ref m24, .ref m25, .ref m26, .ref m27, .int 0, .ref m29]))]) [0] rfl
      have hD9 := hD.sub (ws' := [(g0, .inr (5, [.int 1, .int 0, .int (-1), .ref m3, .int 0, .ref m5, .ref m6, .ref m7, .ref m8, .ref m9, .ref m10, .ref m11, .ref m12, .ref m13, .ref m14, .ref m15, .ref m16, .ref m17, .ref m18, .ref m19, .ref m20, .int 0, .ref m22, .ref m23, .ref m24, .ref m25, .ref m26, .ref m27, .int 0, .ref m29]))]) [0] (by decide) rfl
      have hK9 := hK.sub (tys' := []) [] rfl
      exact W.iret (v := 0) hx hb hr (fun t ht9 hW => ⟨rfl, ⟨by rw [ht9]; exact hP9, va_K.moved hW.alike hK9, hD9⟩, hS.F ht9⟩) hS.2.2 d_MO_ticks_24
