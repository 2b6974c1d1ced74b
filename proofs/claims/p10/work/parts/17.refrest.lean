abbrev c_MO_word : ByteArray := prog_7_method_38_code
abbrev y_MO_word : MethodName := ⟨"TwinTunersModel", "word", "(II)J"⟩
def w_MO_word : List Cond := .code y_MO_word c_MO_word 3 (some .long) :: tb_
abbrev c_MO_recorded : ByteArray := prog_7_method_39_code
abbrev y_MO_recorded : MethodName := ⟨"TwinTunersModel", "recorded", "(I)I"⟩
def w_MO_recorded : List Cond := .code y_MO_recorded c_MO_recorded 4 (some .int) :: tb_
abbrev c_MO_protect : ByteArray := prog_7_method_42_code
abbrev y_MO_protect : MethodName := ⟨"TwinTunersModel", "protect", "(IZ)V"⟩
def w_MO_protect : List Cond := .code y_MO_protect c_MO_protect 3 none :: tb_
abbrev c_MO_seen : ByteArray := prog_7_method_43_code
abbrev y_MO_seen : MethodName := ⟨"TwinTunersModel", "seen", "(IZ)V"⟩
def w_MO_seen : List Cond := .code y_MO_seen c_MO_seen 3 none :: tb_
abbrev c_MO_erase : ByteArray := prog_7_method_44_code
abbrev y_MO_erase : MethodName := ⟨"TwinTunersModel", "erase", "(I)I"⟩
def w_MO_erase : List Cond := .code y_MO_erase c_MO_erase 2 (some .int) :: tb_
abbrev c_MO_free : ByteArray := prog_7_method_45_code
abbrev y_MO_free : MethodName := ⟨"TwinTunersModel", "free", "()I"⟩
def w_MO_free : List Cond := .code y_MO_free c_MO_free 1 (some .int) :: tb_
abbrev c_MO_marksOf : ByteArray := prog_7_method_46_code
abbrev y_MO_marksOf : MethodName := ⟨"TwinTunersModel", "marksOf", "(I)I"⟩
def w_MO_marksOf : List Cond := .code y_MO_marksOf c_MO_marksOf 4 (some .int) :: tb_
abbrev c_MO_bookmark : ByteArray := prog_7_method_47_code
abbrev y_MO_bookmark : MethodName := ⟨"TwinTunersModel", "bookmark", "(II)I"⟩
def w_MO_bookmark : List Cond := .code y_MO_bookmark c_MO_bookmark 3 (some .int) :: tb_
abbrev c_MO_bookmarkAt : ByteArray := prog_7_method_48_code
abbrev y_MO_bookmarkAt : MethodName := ⟨"TwinTunersModel", "bookmarkAt", "(II)I"⟩
def w_MO_bookmarkAt : List Cond := .code y_MO_bookmarkAt c_MO_bookmarkAt 6 (some .int) :: tb_
abbrev c_MO_lose : ByteArray := prog_7_method_49_code
abbrev y_MO_lose : MethodName := ⟨"TwinTunersModel", "lose", "(I)I"⟩
def w_MO_lose : List Cond := .code y_MO_lose c_MO_lose 5 (some .int) :: tb_
abbrev c_MO_cut : ByteArray := prog_7_method_50_code
abbrev y_MO_cut : MethodName := ⟨"TwinTunersModel", "cut", "(I)I"⟩
def w_MO_cut : List Cond := .code y_MO_cut c_MO_cut 4 (some .int) :: tb_
abbrev c_MO_request : ByteArray := prog_7_method_5_code
abbrev y_MO_request : MethodName := ⟨"TwinTunersModel", "request", "(IIIII)I"⟩
def w_MO_request : List Cond := .code y_MO_request c_MO_request 8 (some .int) :: tb_
set_option maxRecDepth 100000 in
theorem tb_726 : (.code ⟨"TwinTunersModel", "request", "(IIIII)I"⟩ prog_7_method_5_code 8 (some .int) : Cond) ∈ tb_ := tb_w 726 rfl rfl
set_option maxRecDepth 100000 in
theorem tb_727 : (.constantLong "TwinTunersModel" 96 (1000) : Cond) ∈ tb_ := tb_w 727 rfl rfl
set_option maxRecDepth 100000 in
theorem tb_728 : (.methodLink "TwinTunersModel" 98 ⟨"TwinTunersModel", "open", "()I"⟩ : Cond) ∈ tb_ := tb_w 728 rfl rfl
set_option maxRecDepth 100000 in
theorem tb_730 : (.instanceMethod ⟨"TwinTunersModel", "open", "()I"⟩ : Cond) ∈ tb_ := tb_w 730 rfl rfl
set_option maxRecDepth 100000 in
theorem tb_869 : (.code ⟨"TwinTunersModel", "word", "(II)J"⟩ prog_7_method_38_code 3 (some .long) : Cond) ∈ tb_ := tb_w 869 rfl rfl
set_option maxRecDepth 100000 in
theorem tb_873 : (.code ⟨"TwinTunersModel", "recorded", "(I)I"⟩ prog_7_method_39_code 4 (some .int) : Cond) ∈ tb_ := tb_w 873 rfl rfl
set_option maxRecDepth 100000 in
theorem tb_881 : (.code ⟨"TwinTunersModel", "protect", "(IZ)V"⟩ prog_7_method_42_code 3 none : Cond) ∈ tb_ := tb_w 881 rfl rfl
set_option maxRecDepth 100000 in
theorem tb_882 : (.methodLink "TwinTunersModel" 187 ⟨"TwinTunersModel", "isKept", "(I)Z"⟩ : Cond) ∈ tb_ := tb_w 882 rfl rfl
set_option maxRecDepth 100000 in
theorem tb_884 : (.instanceMethod ⟨"TwinTunersModel", "isKept", "(I)Z"⟩ : Cond) ∈ tb_ := tb_w 884 rfl rfl
set_option maxRecDepth 100000 in
theorem tb_889 : (.code ⟨"TwinTunersModel", "seen", "(IZ)V"⟩ prog_7_method_43_code 3 none : Cond) ∈ tb_ := tb_w 889 rfl rfl
set_option maxRecDepth 100000 in
theorem tb_893 : (.code ⟨"TwinTunersModel", "erase", "(I)I"⟩ prog_7_method_44_code 2 (some .int) : Cond) ∈ tb_ := tb_w 893 rfl rfl
set_option maxRecDepth 100000 in
theorem tb_897 : (.code ⟨"TwinTunersModel", "free", "()I"⟩ prog_7_method_45_code 1 (some .int) : Cond) ∈ tb_ := tb_w 897 rfl rfl
set_option maxRecDepth 100000 in
theorem tb_901 : (.code ⟨"TwinTunersModel", "bookmark", "(II)I"⟩ prog_7_method_47_code 3 (some .int) : Cond) ∈ tb_ := tb_w 901 rfl rfl
set_option maxRecDepth 100000 in
theorem tb_902 : (.methodLink "TwinTunersModel" 190 ⟨"TwinTunersModel", "marksOf", "(I)I"⟩ : Cond) ∈ tb_ := tb_w 902 rfl rfl
set_option maxRecDepth 100000 in
theorem tb_904 : (.instanceMethod ⟨"TwinTunersModel", "marksOf", "(I)I"⟩ : Cond) ∈ tb_ := tb_w 904 rfl rfl
set_option maxRecDepth 100000 in
theorem tb_905 : (.code ⟨"TwinTunersModel", "marksOf", "(I)I"⟩ prog_7_method_46_code 4 (some .int) : Cond) ∈ tb_ := tb_w 905 rfl rfl
set_option maxRecDepth 100000 in
theorem tb_909 : (.code ⟨"TwinTunersModel", "bookmarkAt", "(II)I"⟩ prog_7_method_48_code 6 (some .int) : Cond) ∈ tb_ := tb_w 909 rfl rfl
set_option maxRecDepth 100000 in
theorem tb_913 : (.code ⟨"TwinTunersModel", "cut", "(I)I"⟩ prog_7_method_50_code 4 (some .int) : Cond) ∈ tb_ := tb_w 913 rfl rfl
set_option maxRecDepth 100000 in
theorem tb_914 : (.methodLink "TwinTunersModel" 193 ⟨"TwinTunersModel", "lose", "(I)I"⟩ : Cond) ∈ tb_ := tb_w 914 rfl rfl
set_option maxRecDepth 100000 in
theorem tb_916 : (.instanceMethod ⟨"TwinTunersModel", "lose", "(I)I"⟩ : Cond) ∈ tb_ := tb_w 916 rfl rfl
set_option maxRecDepth 100000 in
theorem tb_917 : (.code ⟨"TwinTunersModel", "lose", "(I)I"⟩ prog_7_method_49_code 5 (some .int) : Cond) ∈ tb_ := tb_w 917 rfl rfl
theorem ts_22 : (.selects "TwinTunersModel" ⟨"TwinTunersModel", "open", "()I"⟩ ⟨"TwinTunersModel", "open", "()I"⟩ : Cond) ∈ tb_ := ts_w 22 rfl rfl
theorem ts_46 : (.selects "TwinTunersModel" ⟨"TwinTunersModel", "isKept", "(I)Z"⟩ ⟨"TwinTunersModel", "isKept", "(I)Z"⟩ : Cond) ∈ tb_ := ts_w 46 rfl rfl
theorem ts_47 : (.selects "TwinTunersModel" ⟨"TwinTunersModel", "marksOf", "(I)I"⟩ ⟨"TwinTunersModel", "marksOf", "(I)I"⟩ : Cond) ∈ tb_ := ts_w 47 rfl rfl
theorem ts_48 : (.selects "TwinTunersModel" ⟨"TwinTunersModel", "lose", "(I)I"⟩ ⟨"TwinTunersModel", "lose", "(I)I"⟩ : Cond) ∈ tb_ := ts_w 48 rfl rfl
theorem d_MO_bookmark_0 : decode c_MO_bookmark 0 = .ok (.aload_n 0, 1) := by decide +kernel
theorem d_MO_bookmark_1 : decode c_MO_bookmark 1 = .ok (.aload_n 0, 1) := by decide +kernel
theorem d_MO_bookmark_2 : decode c_MO_bookmark 2 = .ok (.iload_n 1, 1) := by decide +kernel
theorem d_MO_bookmark_3 : decode c_MO_bookmark 3 = .ok (.invokevirtual 106, 3) := by decide +kernel
theorem d_MO_bookmark_6 : decode c_MO_bookmark 6 = .ok (.ifCond .ne 7, 3) := by decide +kernel
theorem d_MO_bookmark_9 : decode c_MO_bookmark 9 = .ok (.iconst 1, 1) := by decide +kernel
theorem d_MO_bookmark_10 : decode c_MO_bookmark 10 = .ok (.goto 40, 3) := by decide +kernel
theorem d_MO_bookmark_13 : decode c_MO_bookmark 13 = .ok (.iload_n 2, 1) := by decide +kernel
theorem d_MO_bookmark_14 : decode c_MO_bookmark 14 = .ok (.ifCond .lt 9, 3) := by decide +kernel
theorem d_MO_bookmark_17 : decode c_MO_bookmark 17 = .ok (.iload_n 2, 1) := by decide +kernel
theorem d_MO_bookmark_18 : decode c_MO_bookmark 18 = .ok (.bipush 99, 2) := by decide +kernel
theorem d_MO_bookmark_20 : decode c_MO_bookmark 20 = .ok (.if_icmp .le 7, 3) := by decide +kernel
theorem d_MO_bookmark_23 : decode c_MO_bookmark 23 = .ok (.iconst 2, 1) := by decide +kernel
theorem d_MO_bookmark_24 : decode c_MO_bookmark 24 = .ok (.goto 26, 3) := by decide +kernel
theorem d_MO_bookmark_27 : decode c_MO_bookmark 27 = .ok (.aload_n 0, 1) := by decide +kernel
theorem d_MO_bookmark_28 : decode c_MO_bookmark 28 = .ok (.iload_n 1, 1) := by decide +kernel
theorem d_MO_bookmark_29 : decode c_MO_bookmark 29 = .ok (.invokevirtual 187, 3) := by decide +kernel
theorem d_MO_bookmark_32 : decode c_MO_bookmark 32 = .ok (.ifCond .eq 13, 3) := by decide +kernel
theorem d_MO_bookmark_35 : decode c_MO_bookmark 35 = .ok (.aload_n 0, 1) := by decide +kernel
theorem d_MO_bookmark_36 : decode c_MO_bookmark 36 = .ok (.iload_n 1, 1) := by decide +kernel
theorem d_MO_bookmark_37 : decode c_MO_bookmark 37 = .ok (.invokevirtual 190, 3) := by decide +kernel
theorem d_MO_bookmark_40 : decode c_MO_bookmark 40 = .ok (.bipush 6, 2) := by decide +kernel
theorem d_MO_bookmark_42 : decode c_MO_bookmark 42 = .ok (.if_icmp .ne 7, 3) := by decide +kernel
theorem d_MO_bookmark_45 : decode c_MO_bookmark 45 = .ok (.iconst 3, 1) := by decide +kernel
theorem d_MO_bookmark_46 : decode c_MO_bookmark 46 = .ok (.goto 4, 3) := by decide +kernel
theorem d_MO_bookmark_49 : decode c_MO_bookmark 49 = .ok (.iconst 0, 1) := by decide +kernel
theorem d_MO_bookmark_50 : decode c_MO_bookmark 50 = .ok (.invokevirtual 102, 3) := by decide +kernel
theorem d_MO_bookmark_53 : decode c_MO_bookmark 53 = .ok (.ifCond .eq 5, 3) := by decide +kernel
theorem d_MO_bookmark_56 : decode c_MO_bookmark 56 = .ok (.iconst 0, 1) := by decide +kernel
theorem d_MO_bookmark_57 : decode c_MO_bookmark 57 = .ok (.ireturn, 1) := by decide +kernel
theorem d_MO_bookmark_58 : decode c_MO_bookmark 58 = .ok (.aload_n 0, 1) := by decide +kernel
theorem d_MO_bookmark_59 : decode c_MO_bookmark 59 = .ok (.getfield 60, 3) := by decide +kernel
theorem d_MO_bookmark_62 : decode c_MO_bookmark 62 = .ok (.bipush 100, 2) := by decide +kernel
theorem d_MO_bookmark_64 : decode c_MO_bookmark 64 = .ok (.iload_n 1, 1) := by decide +kernel
theorem d_MO_bookmark_65 : decode c_MO_bookmark 65 = .ok (.imul, 1) := by decide +kernel
theorem d_MO_bookmark_66 : decode c_MO_bookmark 66 = .ok (.iload_n 2, 1) := by decide +kernel
theorem d_MO_bookmark_67 : decode c_MO_bookmark 67 = .ok (.iadd, 1) := by decide +kernel
theorem d_MO_bookmark_68 : decode c_MO_bookmark 68 = .ok (.iconst 1, 1) := by decide +kernel
theorem d_MO_bookmark_69 : decode c_MO_bookmark 69 = .ok (.bastore, 1) := by decide +kernel
theorem d_MO_bookmark_70 : decode c_MO_bookmark 70 = .ok (.aload_n 0, 1) := by decide +kernel
theorem d_MO_bookmark_71 : decode c_MO_bookmark 71 = .ok (.iload_n 1, 1) := by decide +kernel
theorem d_MO_bookmark_72 : decode c_MO_bookmark 72 = .ok (.invokevirtual 190, 3) := by decide +kernel
theorem d_MO_bookmark_75 : decode c_MO_bookmark 75 = .ok (.ireturn, 1) := by decide +kernel
theorem d_MO_bookmarkAt_0 : decode c_MO_bookmarkAt 0 = .ok (.aload_n 0, 1) := by decide +kernel
theorem d_MO_bookmarkAt_1 : decode c_MO_bookmarkAt 1 = .ok (.aload_n 0, 1) := by decide +kernel
theorem d_MO_bookmarkAt_2 : decode c_MO_bookmarkAt 2 = .ok (.iload_n 1, 1) := by decide +kernel
theorem d_MO_bookmarkAt_3 : decode c_MO_bookmarkAt 3 = .ok (.invokevirtual 106, 3) := by decide +kernel
theorem d_MO_bookmarkAt_6 : decode c_MO_bookmarkAt 6 = .ok (.ifCond .eq 7, 3) := by decide +kernel
theorem d_MO_bookmarkAt_9 : decode c_MO_bookmarkAt 9 = .ok (.iconst 0, 1) := by decide +kernel
theorem d_MO_bookmarkAt_10 : decode c_MO_bookmarkAt 10 = .ok (.goto 4, 3) := by decide +kernel
theorem d_MO_bookmarkAt_13 : decode c_MO_bookmarkAt 13 = .ok (.iconst 1, 1) := by decide +kernel
theorem d_MO_bookmarkAt_14 : decode c_MO_bookmarkAt 14 = .ok (.invokevirtual 102, 3) := by decide +kernel
theorem d_MO_bookmarkAt_17 : decode c_MO_bookmarkAt 17 = .ok (.ifCond .eq 5, 3) := by decide +kernel
theorem d_MO_bookmarkAt_20 : decode c_MO_bookmarkAt 20 = .ok (.iconst 0, 1) := by decide +kernel
theorem d_MO_bookmarkAt_21 : decode c_MO_bookmarkAt 21 = .ok (.ireturn, 1) := by decide +kernel
theorem d_MO_bookmarkAt_22 : decode c_MO_bookmarkAt 22 = .ok (.iconst 0, 1) := by decide +kernel
theorem d_MO_bookmarkAt_23 : decode c_MO_bookmarkAt 23 = .ok (.istore_n 3, 1) := by decide +kernel
theorem d_MO_bookmarkAt_24 : decode c_MO_bookmarkAt 24 = .ok (.iconst (-1), 1) := by decide +kernel
theorem d_MO_bookmarkAt_25 : decode c_MO_bookmarkAt 25 = .ok (.istore 4, 2) := by decide +kernel
theorem d_MO_bookmarkAt_27 : decode c_MO_bookmarkAt 27 = .ok (.iconst 0, 1) := by decide +kernel
theorem d_MO_bookmarkAt_28 : decode c_MO_bookmarkAt 28 = .ok (.istore 5, 2) := by decide +kernel
theorem d_MO_bookmarkAt_30 : decode c_MO_bookmarkAt 30 = .ok (.iload 5, 2) := by decide +kernel
theorem d_MO_bookmarkAt_32 : decode c_MO_bookmarkAt 32 = .ok (.bipush 100, 2) := by decide +kernel
theorem d_MO_bookmarkAt_34 : decode c_MO_bookmarkAt 34 = .ok (.if_icmp .ge 61, 3) := by decide +kernel
theorem d_MO_bookmarkAt_37 : decode c_MO_bookmarkAt 37 = .ok (.aload_n 0, 1) := by decide +kernel
theorem d_MO_bookmarkAt_38 : decode c_MO_bookmarkAt 38 = .ok (.getfield 60, 3) := by decide +kernel
theorem d_MO_bookmarkAt_41 : decode c_MO_bookmarkAt 41 = .ok (.bipush 100, 2) := by decide +kernel
theorem d_MO_bookmarkAt_43 : decode c_MO_bookmarkAt 43 = .ok (.iload_n 1, 1) := by decide +kernel
theorem d_MO_bookmarkAt_44 : decode c_MO_bookmarkAt 44 = .ok (.imul, 1) := by decide +kernel
theorem d_MO_bookmarkAt_45 : decode c_MO_bookmarkAt 45 = .ok (.iload 5, 2) := by decide +kernel
theorem d_MO_bookmarkAt_47 : decode c_MO_bookmarkAt 47 = .ok (.iadd, 1) := by decide +kernel
theorem d_MO_bookmarkAt_48 : decode c_MO_bookmarkAt 48 = .ok (.baload, 1) := by decide +kernel
theorem d_MO_bookmarkAt_49 : decode c_MO_bookmarkAt 49 = .ok (.ifCond .eq 13, 3) := by decide +kernel
theorem d_MO_bookmarkAt_52 : decode c_MO_bookmarkAt 52 = .ok (.iload_n 3, 1) := by decide +kernel
theorem d_MO_bookmarkAt_53 : decode c_MO_bookmarkAt 53 = .ok (.iload_n 2, 1) := by decide +kernel
theorem d_MO_bookmarkAt_54 : decode c_MO_bookmarkAt 54 = .ok (.if_icmp .ne 8, 3) := by decide +kernel
theorem d_MO_bookmarkAt_57 : decode c_MO_bookmarkAt 57 = .ok (.iload 5, 2) := by decide +kernel
theorem d_MO_bookmarkAt_59 : decode c_MO_bookmarkAt 59 = .ok (.goto 5, 3) := by decide +kernel
theorem d_MO_bookmarkAt_62 : decode c_MO_bookmarkAt 62 = .ok (.iload 4, 2) := by decide +kernel
theorem d_MO_bookmarkAt_64 : decode c_MO_bookmarkAt 64 = .ok (.istore 4, 2) := by decide +kernel
theorem d_MO_bookmarkAt_66 : decode c_MO_bookmarkAt 66 = .ok (.aload_n 0, 1) := by decide +kernel
theorem d_MO_bookmarkAt_67 : decode c_MO_bookmarkAt 67 = .ok (.getfield 60, 3) := by decide +kernel
theorem d_MO_bookmarkAt_70 : decode c_MO_bookmarkAt 70 = .ok (.bipush 100, 2) := by decide +kernel
theorem d_MO_bookmarkAt_72 : decode c_MO_bookmarkAt 72 = .ok (.iload_n 1, 1) := by decide +kernel
theorem d_MO_bookmarkAt_73 : decode c_MO_bookmarkAt 73 = .ok (.imul, 1) := by decide +kernel
theorem d_MO_bookmarkAt_74 : decode c_MO_bookmarkAt 74 = .ok (.iload 5, 2) := by decide +kernel
theorem d_MO_bookmarkAt_76 : decode c_MO_bookmarkAt 76 = .ok (.iadd, 1) := by decide +kernel
theorem d_MO_bookmarkAt_77 : decode c_MO_bookmarkAt 77 = .ok (.baload, 1) := by decide +kernel
theorem d_MO_bookmarkAt_78 : decode c_MO_bookmarkAt 78 = .ok (.ifCond .eq 9, 3) := by decide +kernel
theorem d_MO_bookmarkAt_81 : decode c_MO_bookmarkAt 81 = .ok (.iload_n 3, 1) := by decide +kernel
theorem d_MO_bookmarkAt_82 : decode c_MO_bookmarkAt 82 = .ok (.iconst 1, 1) := by decide +kernel
theorem d_MO_bookmarkAt_83 : decode c_MO_bookmarkAt 83 = .ok (.iadd, 1) := by decide +kernel
theorem d_MO_bookmarkAt_84 : decode c_MO_bookmarkAt 84 = .ok (.goto 4, 3) := by decide +kernel
theorem d_MO_bookmarkAt_87 : decode c_MO_bookmarkAt 87 = .ok (.iload_n 3, 1) := by decide +kernel
theorem d_MO_bookmarkAt_88 : decode c_MO_bookmarkAt 88 = .ok (.istore_n 3, 1) := by decide +kernel
theorem d_MO_bookmarkAt_89 : decode c_MO_bookmarkAt 89 = .ok (.iinc 5 1, 3) := by decide +kernel
theorem d_MO_bookmarkAt_92 : decode c_MO_bookmarkAt 92 = .ok (.goto (-62), 3) := by decide +kernel
theorem d_MO_bookmarkAt_95 : decode c_MO_bookmarkAt 95 = .ok (.iload 4, 2) := by decide +kernel
theorem d_MO_bookmarkAt_97 : decode c_MO_bookmarkAt 97 = .ok (.ireturn, 1) := by decide +kernel
theorem d_MO_cut_0 : decode c_MO_cut 0 = .ok (.aload_n 0, 1) := by decide +kernel
theorem d_MO_cut_1 : decode c_MO_cut 1 = .ok (.iload_n 1, 1) := by decide +kernel
theorem d_MO_cut_2 : decode c_MO_cut 2 = .ok (.aload_n 0, 1) := by decide +kernel
theorem d_MO_cut_3 : decode c_MO_cut 3 = .ok (.getfield 93, 3) := by decide +kernel
theorem d_MO_cut_6 : decode c_MO_cut 6 = .ok (.if_icmp .lt 18, 3) := by decide +kernel
theorem d_MO_cut_9 : decode c_MO_cut 9 = .ok (.iload_n 1, 1) := by decide +kernel
theorem d_MO_cut_10 : decode c_MO_cut 10 = .ok (.i2l, 1) := by decide +kernel
theorem d_MO_cut_11 : decode c_MO_cut 11 = .ok (.aload_n 0, 1) := by decide +kernel
theorem d_MO_cut_12 : decode c_MO_cut 12 = .ok (.getfield 93, 3) := by decide +kernel
theorem d_MO_cut_15 : decode c_MO_cut 15 = .ok (.i2l, 1) := by decide +kernel
theorem d_MO_cut_16 : decode c_MO_cut 16 = .ok (.ldc2_w 96, 3) := by decide +kernel
theorem d_MO_cut_19 : decode c_MO_cut 19 = .ok (.ladd, 1) := by decide +kernel
theorem d_MO_cut_20 : decode c_MO_cut 20 = .ok (.lcmp, 1) := by decide +kernel
theorem d_MO_cut_21 : decode c_MO_cut 21 = .ok (.ifCond .le 7, 3) := by decide +kernel
theorem d_MO_cut_24 : decode c_MO_cut 24 = .ok (.iconst 1, 1) := by decide +kernel
theorem d_MO_cut_25 : decode c_MO_cut 25 = .ok (.goto 4, 3) := by decide +kernel
theorem d_MO_cut_28 : decode c_MO_cut 28 = .ok (.iconst 0, 1) := by decide +kernel
theorem d_MO_cut_29 : decode c_MO_cut 29 = .ok (.invokevirtual 102, 3) := by decide +kernel
theorem d_MO_cut_32 : decode c_MO_cut 32 = .ok (.ifCond .eq 5, 3) := by decide +kernel
theorem d_MO_cut_35 : decode c_MO_cut 35 = .ok (.iconst 0, 1) := by decide +kernel
theorem d_MO_cut_36 : decode c_MO_cut 36 = .ok (.ireturn, 1) := by decide +kernel
theorem d_MO_cut_37 : decode c_MO_cut 37 = .ok (.iconst 0, 1) := by decide +kernel
theorem d_MO_cut_38 : decode c_MO_cut 38 = .ok (.istore_n 2, 1) := by decide +kernel
theorem d_MO_cut_39 : decode c_MO_cut 39 = .ok (.iconst 0, 1) := by decide +kernel
theorem d_MO_cut_40 : decode c_MO_cut 40 = .ok (.istore_n 3, 1) := by decide +kernel
theorem d_MO_cut_41 : decode c_MO_cut 41 = .ok (.iload_n 3, 1) := by decide +kernel
theorem d_MO_cut_42 : decode c_MO_cut 42 = .ok (.aload_n 0, 1) := by decide +kernel
theorem d_MO_cut_43 : decode c_MO_cut 43 = .ok (.getfield 90, 3) := by decide +kernel
theorem d_MO_cut_46 : decode c_MO_cut 46 = .ok (.if_icmp .ge 108, 3) := by decide +kernel
theorem d_MO_cut_49 : decode c_MO_cut 49 = .ok (.aload_n 0, 1) := by decide +kernel
theorem d_MO_cut_50 : decode c_MO_cut 50 = .ok (.getfield 35, 3) := by decide +kernel
theorem d_MO_cut_53 : decode c_MO_cut 53 = .ok (.iload_n 3, 1) := by decide +kernel
theorem d_MO_cut_54 : decode c_MO_cut 54 = .ok (.iaload, 1) := by decide +kernel
theorem d_MO_cut_55 : decode c_MO_cut 55 = .ok (.iconst 1, 1) := by decide +kernel
theorem d_MO_cut_56 : decode c_MO_cut 56 = .ok (.if_icmp .ne 57, 3) := by decide +kernel
theorem d_MO_cut_59 : decode c_MO_cut 59 = .ok (.iload_n 2, 1) := by decide +kernel
theorem d_MO_cut_60 : decode c_MO_cut 60 = .ok (.aload_n 0, 1) := by decide +kernel
theorem d_MO_cut_61 : decode c_MO_cut 61 = .ok (.iload_n 3, 1) := by decide +kernel
theorem d_MO_cut_62 : decode c_MO_cut 62 = .ok (.invokevirtual 193, 3) := by decide +kernel
theorem d_MO_cut_65 : decode c_MO_cut 65 = .ok (.iadd, 1) := by decide +kernel
theorem d_MO_cut_66 : decode c_MO_cut 66 = .ok (.istore_n 2, 1) := by decide +kernel
theorem d_MO_cut_67 : decode c_MO_cut 67 = .ok (.aload_n 0, 1) := by decide +kernel
theorem d_MO_cut_68 : decode c_MO_cut 68 = .ok (.iload_n 3, 1) := by decide +kernel
theorem d_MO_cut_69 : decode c_MO_cut 69 = .ok (.invokevirtual 120, 3) := by decide +kernel
theorem d_MO_cut_72 : decode c_MO_cut 72 = .ok (.iload_n 1, 1) := by decide +kernel
theorem d_MO_cut_73 : decode c_MO_cut 73 = .ok (.if_icmp .gt 40, 3) := by decide +kernel
theorem d_MO_cut_76 : decode c_MO_cut 76 = .ok (.aload_n 0, 1) := by decide +kernel
theorem d_MO_cut_77 : decode c_MO_cut 77 = .ok (.getfield 35, 3) := by decide +kernel
theorem d_MO_cut_80 : decode c_MO_cut 80 = .ok (.iload_n 3, 1) := by decide +kernel
theorem d_MO_cut_81 : decode c_MO_cut 81 = .ok (.iconst 2, 1) := by decide +kernel
theorem d_MO_cut_82 : decode c_MO_cut 82 = .ok (.iastore, 1) := by decide +kernel
theorem d_MO_cut_83 : decode c_MO_cut 83 = .ok (.aload_n 0, 1) := by decide +kernel
theorem d_MO_cut_84 : decode c_MO_cut 84 = .ok (.getfield 41, 3) := by decide +kernel
theorem d_MO_cut_87 : decode c_MO_cut 87 = .ok (.iload_n 3, 1) := by decide +kernel
theorem d_MO_cut_88 : decode c_MO_cut 88 = .ok (.aload_n 0, 1) := by decide +kernel
theorem d_MO_cut_89 : decode c_MO_cut 89 = .ok (.iload_n 3, 1) := by decide +kernel
theorem d_MO_cut_90 : decode c_MO_cut 90 = .ok (.invokevirtual 120, 3) := by decide +kernel
theorem d_MO_cut_93 : decode c_MO_cut 93 = .ok (.aload_n 0, 1) := by decide +kernel
theorem d_MO_cut_94 : decode c_MO_cut 94 = .ok (.getfield 93, 3) := by decide +kernel
theorem d_MO_cut_97 : decode c_MO_cut 97 = .ok (.if_icmp .ge 10, 3) := by decide +kernel
theorem d_MO_cut_100 : decode c_MO_cut 100 = .ok (.aload_n 0, 1) := by decide +kernel
theorem d_MO_cut_101 : decode c_MO_cut 101 = .ok (.getfield 93, 3) := by decide +kernel
theorem d_MO_cut_104 : decode c_MO_cut 104 = .ok (.goto 8, 3) := by decide +kernel
theorem d_MO_cut_107 : decode c_MO_cut 107 = .ok (.aload_n 0, 1) := by decide +kernel
theorem d_MO_cut_108 : decode c_MO_cut 108 = .ok (.iload_n 3, 1) := by decide +kernel
theorem d_MO_cut_109 : decode c_MO_cut 109 = .ok (.invokevirtual 120, 3) := by decide +kernel
theorem d_MO_cut_112 : decode c_MO_cut 112 = .ok (.iastore, 1) := by decide +kernel
theorem d_MO_cut_113 : decode c_MO_cut 113 = .ok (.aload_n 0, 1) := by decide +kernel
theorem d_MO_cut_114 : decode c_MO_cut 114 = .ok (.getfield 35, 3) := by decide +kernel
theorem d_MO_cut_117 : decode c_MO_cut 117 = .ok (.iload_n 3, 1) := by decide +kernel
theorem d_MO_cut_118 : decode c_MO_cut 118 = .ok (.aload_n 0, 1) := by decide +kernel
theorem d_MO_cut_119 : decode c_MO_cut 119 = .ok (.getfield 35, 3) := by decide +kernel
theorem d_MO_cut_122 : decode c_MO_cut 122 = .ok (.iload_n 3, 1) := by decide +kernel
theorem d_MO_cut_123 : decode c_MO_cut 123 = .ok (.iaload, 1) := by decide +kernel
theorem d_MO_cut_124 : decode c_MO_cut 124 = .ok (.ifCond .ne 17, 3) := by decide +kernel
theorem d_MO_cut_127 : decode c_MO_cut 127 = .ok (.aload_n 0, 1) := by decide +kernel
theorem d_MO_cut_128 : decode c_MO_cut 128 = .ok (.getfield 20, 3) := by decide +kernel
theorem d_MO_cut_131 : decode c_MO_cut 131 = .ok (.iload_n 3, 1) := by decide +kernel
theorem d_MO_cut_132 : decode c_MO_cut 132 = .ok (.iaload, 1) := by decide +kernel
theorem d_MO_cut_133 : decode c_MO_cut 133 = .ok (.iload_n 1, 1) := by decide +kernel
theorem d_MO_cut_134 : decode c_MO_cut 134 = .ok (.if_icmp .ge 7, 3) := by decide +kernel
theorem d_MO_cut_137 : decode c_MO_cut 137 = .ok (.iconst 3, 1) := by decide +kernel
theorem d_MO_cut_138 : decode c_MO_cut 138 = .ok (.goto 9, 3) := by decide +kernel
theorem d_MO_cut_141 : decode c_MO_cut 141 = .ok (.aload_n 0, 1) := by decide +kernel
theorem d_MO_cut_142 : decode c_MO_cut 142 = .ok (.getfield 35, 3) := by decide +kernel
theorem d_MO_cut_145 : decode c_MO_cut 145 = .ok (.iload_n 3, 1) := by decide +kernel
theorem d_MO_cut_146 : decode c_MO_cut 146 = .ok (.iaload, 1) := by decide +kernel
theorem d_MO_cut_147 : decode c_MO_cut 147 = .ok (.iastore, 1) := by decide +kernel
theorem d_MO_cut_148 : decode c_MO_cut 148 = .ok (.iinc 3 1, 3) := by decide +kernel
theorem d_MO_cut_151 : decode c_MO_cut 151 = .ok (.goto (-110), 3) := by decide +kernel
theorem d_MO_cut_154 : decode c_MO_cut 154 = .ok (.aload_n 0, 1) := by decide +kernel
theorem d_MO_cut_155 : decode c_MO_cut 155 = .ok (.iload_n 1, 1) := by decide +kernel
theorem d_MO_cut_156 : decode c_MO_cut 156 = .ok (.putfield 93, 3) := by decide +kernel
theorem d_MO_cut_159 : decode c_MO_cut 159 = .ok (.aload_n 0, 1) := by decide +kernel
theorem d_MO_cut_160 : decode c_MO_cut 160 = .ok (.iconst 0, 1) := by decide +kernel
theorem d_MO_cut_161 : decode c_MO_cut 161 = .ok (.putfield 162, 3) := by decide +kernel
theorem d_MO_cut_164 : decode c_MO_cut 164 = .ok (.iload_n 2, 1) := by decide +kernel
theorem d_MO_cut_165 : decode c_MO_cut 165 = .ok (.ireturn, 1) := by decide +kernel
theorem d_MO_erase_0 : decode c_MO_erase 0 = .ok (.aload_n 0, 1) := by decide +kernel
theorem d_MO_erase_1 : decode c_MO_erase 1 = .ok (.aload_n 0, 1) := by decide +kernel
theorem d_MO_erase_2 : decode c_MO_erase 2 = .ok (.iload_n 1, 1) := by decide +kernel
theorem d_MO_erase_3 : decode c_MO_erase 3 = .ok (.invokevirtual 106, 3) := by decide +kernel
theorem d_MO_erase_6 : decode c_MO_erase 6 = .ok (.ifCond .ne 7, 3) := by decide +kernel
theorem d_MO_erase_9 : decode c_MO_erase 9 = .ok (.iconst 1, 1) := by decide +kernel
theorem d_MO_erase_10 : decode c_MO_erase 10 = .ok (.goto 18, 3) := by decide +kernel
theorem d_MO_erase_13 : decode c_MO_erase 13 = .ok (.aload_n 0, 1) := by decide +kernel
theorem d_MO_erase_14 : decode c_MO_erase 14 = .ok (.getfield 35, 3) := by decide +kernel
theorem d_MO_erase_17 : decode c_MO_erase 17 = .ok (.iload_n 1, 1) := by decide +kernel
theorem d_MO_erase_18 : decode c_MO_erase 18 = .ok (.iaload, 1) := by decide +kernel
theorem d_MO_erase_19 : decode c_MO_erase 19 = .ok (.iconst 2, 1) := by decide +kernel
theorem d_MO_erase_20 : decode c_MO_erase 20 = .ok (.if_icmp .eq 7, 3) := by decide +kernel
theorem d_MO_erase_23 : decode c_MO_erase 23 = .ok (.iconst 2, 1) := by decide +kernel
theorem d_MO_erase_24 : decode c_MO_erase 24 = .ok (.goto 4, 3) := by decide +kernel
theorem d_MO_erase_27 : decode c_MO_erase 27 = .ok (.iconst 0, 1) := by decide +kernel
theorem d_MO_erase_28 : decode c_MO_erase 28 = .ok (.invokevirtual 102, 3) := by decide +kernel
theorem d_MO_erase_31 : decode c_MO_erase 31 = .ok (.ifCond .eq 7, 3) := by decide +kernel
theorem d_MO_erase_34 : decode c_MO_erase 34 = .ok (.iconst 0, 1) := by decide +kernel
theorem d_MO_erase_35 : decode c_MO_erase 35 = .ok (.goto 8, 3) := by decide +kernel
theorem d_MO_erase_38 : decode c_MO_erase 38 = .ok (.aload_n 0, 1) := by decide +kernel
theorem d_MO_erase_39 : decode c_MO_erase 39 = .ok (.iload_n 1, 1) := by decide +kernel
theorem d_MO_erase_40 : decode c_MO_erase 40 = .ok (.invokevirtual 153, 3) := by decide +kernel
theorem d_MO_erase_43 : decode c_MO_erase 43 = .ok (.ireturn, 1) := by decide +kernel
theorem d_MO_free_0 : decode c_MO_free 0 = .ok (.aload_n 0, 1) := by decide +kernel
theorem d_MO_free_1 : decode c_MO_free 1 = .ok (.iconst 0, 1) := by decide +kernel
theorem d_MO_free_2 : decode c_MO_free 2 = .ok (.putfield 87, 3) := by decide +kernel
theorem d_MO_free_5 : decode c_MO_free 5 = .ok (.aload_n 0, 1) := by decide +kernel
theorem d_MO_free_6 : decode c_MO_free 6 = .ok (.invokevirtual 156, 3) := by decide +kernel
theorem d_MO_free_9 : decode c_MO_free 9 = .ok (.ireturn, 1) := by decide +kernel
theorem d_MO_lose_0 : decode c_MO_lose 0 = .ok (.aload_n 0, 1) := by decide +kernel
theorem d_MO_lose_1 : decode c_MO_lose 1 = .ok (.getfield 93, 3) := by decide +kernel
theorem d_MO_lose_4 : decode c_MO_lose 4 = .ok (.aload_n 0, 1) := by decide +kernel
theorem d_MO_lose_5 : decode c_MO_lose 5 = .ok (.getfield 38, 3) := by decide +kernel
theorem d_MO_lose_8 : decode c_MO_lose 8 = .ok (.iload_n 1, 1) := by decide +kernel
theorem d_MO_lose_9 : decode c_MO_lose 9 = .ok (.iaload, 1) := by decide +kernel
theorem d_MO_lose_10 : decode c_MO_lose 10 = .ok (.isub, 1) := by decide +kernel
theorem d_MO_lose_11 : decode c_MO_lose 11 = .ok (.istore_n 2, 1) := by decide +kernel
theorem d_MO_lose_12 : decode c_MO_lose 12 = .ok (.iload_n 2, 1) := by decide +kernel
theorem d_MO_lose_13 : decode c_MO_lose 13 = .ok (.iconst 4, 1) := by decide +kernel
theorem d_MO_lose_14 : decode c_MO_lose 14 = .ok (.irem, 1) := by decide +kernel
theorem d_MO_lose_15 : decode c_MO_lose 15 = .ok (.ifCond .ne 5, 3) := by decide +kernel
theorem d_MO_lose_18 : decode c_MO_lose 18 = .ok (.iconst 0, 1) := by decide +kernel
theorem d_MO_lose_19 : decode c_MO_lose 19 = .ok (.ireturn, 1) := by decide +kernel
theorem d_MO_lose_20 : decode c_MO_lose 20 = .ok (.iconst 0, 1) := by decide +kernel
theorem d_MO_lose_21 : decode c_MO_lose 21 = .ok (.istore_n 3, 1) := by decide +kernel
theorem d_MO_lose_22 : decode c_MO_lose 22 = .ok (.iload_n 2, 1) := by decide +kernel
theorem d_MO_lose_23 : decode c_MO_lose 23 = .ok (.iconst 4, 1) := by decide +kernel
theorem d_MO_lose_24 : decode c_MO_lose 24 = .ok (.idiv, 1) := by decide +kernel
theorem d_MO_lose_25 : decode c_MO_lose 25 = .ok (.iconst 4, 1) := by decide +kernel
theorem d_MO_lose_26 : decode c_MO_lose 26 = .ok (.imul, 1) := by decide +kernel
theorem d_MO_lose_27 : decode c_MO_lose 27 = .ok (.istore 4, 2) := by decide +kernel
theorem d_MO_lose_29 : decode c_MO_lose 29 = .ok (.iload 4, 2) := by decide +kernel
theorem d_MO_lose_31 : decode c_MO_lose 31 = .ok (.iload_n 2, 1) := by decide +kernel
theorem d_MO_lose_32 : decode c_MO_lose 32 = .ok (.iconst 4, 1) := by decide +kernel
theorem d_MO_lose_33 : decode c_MO_lose 33 = .ok (.idiv, 1) := by decide +kernel
theorem d_MO_lose_34 : decode c_MO_lose 34 = .ok (.iconst 4, 1) := by decide +kernel
theorem d_MO_lose_35 : decode c_MO_lose 35 = .ok (.imul, 1) := by decide +kernel
theorem d_MO_lose_36 : decode c_MO_lose 36 = .ok (.iconst 4, 1) := by decide +kernel
theorem d_MO_lose_37 : decode c_MO_lose 37 = .ok (.iadd, 1) := by decide +kernel
theorem d_MO_lose_38 : decode c_MO_lose 38 = .ok (.if_icmp .ge 45, 3) := by decide +kernel
theorem d_MO_lose_41 : decode c_MO_lose 41 = .ok (.aload_n 0, 1) := by decide +kernel
theorem d_MO_lose_42 : decode c_MO_lose 42 = .ok (.getfield 54, 3) := by decide +kernel
theorem d_MO_lose_45 : decode c_MO_lose 45 = .ok (.bipush 100, 2) := by decide +kernel
theorem d_MO_lose_47 : decode c_MO_lose 47 = .ok (.iload_n 1, 1) := by decide +kernel
theorem d_MO_lose_48 : decode c_MO_lose 48 = .ok (.imul, 1) := by decide +kernel
theorem d_MO_lose_49 : decode c_MO_lose 49 = .ok (.iload 4, 2) := by decide +kernel
theorem d_MO_lose_51 : decode c_MO_lose 51 = .ok (.iadd, 1) := by decide +kernel
theorem d_MO_lose_52 : decode c_MO_lose 52 = .ok (.baload, 1) := by decide +kernel
theorem d_MO_lose_53 : decode c_MO_lose 53 = .ok (.ifCond .eq 9, 3) := by decide +kernel
theorem d_MO_lose_56 : decode c_MO_lose 56 = .ok (.iload_n 3, 1) := by decide +kernel
theorem d_MO_lose_57 : decode c_MO_lose 57 = .ok (.iconst 1, 1) := by decide +kernel
theorem d_MO_lose_58 : decode c_MO_lose 58 = .ok (.iadd, 1) := by decide +kernel
theorem d_MO_lose_59 : decode c_MO_lose 59 = .ok (.goto 4, 3) := by decide +kernel
theorem d_MO_lose_62 : decode c_MO_lose 62 = .ok (.iload_n 3, 1) := by decide +kernel
theorem d_MO_lose_63 : decode c_MO_lose 63 = .ok (.istore_n 3, 1) := by decide +kernel
theorem d_MO_lose_64 : decode c_MO_lose 64 = .ok (.aload_n 0, 1) := by decide +kernel
theorem d_MO_lose_65 : decode c_MO_lose 65 = .ok (.getfield 54, 3) := by decide +kernel
theorem d_MO_lose_68 : decode c_MO_lose 68 = .ok (.bipush 100, 2) := by decide +kernel
theorem d_MO_lose_70 : decode c_MO_lose 70 = .ok (.iload_n 1, 1) := by decide +kernel
theorem d_MO_lose_71 : decode c_MO_lose 71 = .ok (.imul, 1) := by decide +kernel
theorem d_MO_lose_72 : decode c_MO_lose 72 = .ok (.iload 4, 2) := by decide +kernel
theorem d_MO_lose_74 : decode c_MO_lose 74 = .ok (.iadd, 1) := by decide +kernel
theorem d_MO_lose_75 : decode c_MO_lose 75 = .ok (.iconst 0, 1) := by decide +kernel
theorem d_MO_lose_76 : decode c_MO_lose 76 = .ok (.bastore, 1) := by decide +kernel
theorem d_MO_lose_77 : decode c_MO_lose 77 = .ok (.iinc 4 1, 3) := by decide +kernel
theorem d_MO_lose_80 : decode c_MO_lose 80 = .ok (.goto (-51), 3) := by decide +kernel
theorem d_MO_lose_83 : decode c_MO_lose 83 = .ok (.aload_n 0, 1) := by decide +kernel
theorem d_MO_lose_84 : decode c_MO_lose 84 = .ok (.getfield 63, 3) := by decide +kernel
theorem d_MO_lose_87 : decode c_MO_lose 87 = .ok (.bipush 25, 2) := by decide +kernel
theorem d_MO_lose_89 : decode c_MO_lose 89 = .ok (.iload_n 1, 1) := by decide +kernel
theorem d_MO_lose_90 : decode c_MO_lose 90 = .ok (.imul, 1) := by decide +kernel
theorem d_MO_lose_91 : decode c_MO_lose 91 = .ok (.iload_n 2, 1) := by decide +kernel
theorem d_MO_lose_92 : decode c_MO_lose 92 = .ok (.iconst 4, 1) := by decide +kernel
theorem d_MO_lose_93 : decode c_MO_lose 93 = .ok (.idiv, 1) := by decide +kernel
theorem d_MO_lose_94 : decode c_MO_lose 94 = .ok (.iadd, 1) := by decide +kernel
theorem d_MO_lose_95 : decode c_MO_lose 95 = .ok (.iconst 0, 1) := by decide +kernel
theorem d_MO_lose_96 : decode c_MO_lose 96 = .ok (.bastore, 1) := by decide +kernel
theorem d_MO_lose_97 : decode c_MO_lose 97 = .ok (.iload_n 3, 1) := by decide +kernel
theorem d_MO_lose_98 : decode c_MO_lose 98 = .ok (.ireturn, 1) := by decide +kernel
theorem d_MO_marksOf_0 : decode c_MO_marksOf 0 = .ok (.iconst 0, 1) := by decide +kernel
theorem d_MO_marksOf_1 : decode c_MO_marksOf 1 = .ok (.istore_n 2, 1) := by decide +kernel
theorem d_MO_marksOf_2 : decode c_MO_marksOf 2 = .ok (.iconst 0, 1) := by decide +kernel
theorem d_MO_marksOf_3 : decode c_MO_marksOf 3 = .ok (.istore_n 3, 1) := by decide +kernel
theorem d_MO_marksOf_4 : decode c_MO_marksOf 4 = .ok (.iload_n 3, 1) := by decide +kernel
theorem d_MO_marksOf_5 : decode c_MO_marksOf 5 = .ok (.bipush 100, 2) := by decide +kernel
theorem d_MO_marksOf_7 : decode c_MO_marksOf 7 = .ok (.if_icmp .ge 31, 3) := by decide +kernel
theorem d_MO_marksOf_10 : decode c_MO_marksOf 10 = .ok (.aload_n 0, 1) := by decide +kernel
theorem d_MO_marksOf_11 : decode c_MO_marksOf 11 = .ok (.getfield 60, 3) := by decide +kernel
theorem d_MO_marksOf_14 : decode c_MO_marksOf 14 = .ok (.bipush 100, 2) := by decide +kernel
theorem d_MO_marksOf_16 : decode c_MO_marksOf 16 = .ok (.iload_n 1, 1) := by decide +kernel
theorem d_MO_marksOf_17 : decode c_MO_marksOf 17 = .ok (.imul, 1) := by decide +kernel
theorem d_MO_marksOf_18 : decode c_MO_marksOf 18 = .ok (.iload_n 3, 1) := by decide +kernel
theorem d_MO_marksOf_19 : decode c_MO_marksOf 19 = .ok (.iadd, 1) := by decide +kernel
theorem d_MO_marksOf_20 : decode c_MO_marksOf 20 = .ok (.baload, 1) := by decide +kernel
theorem d_MO_marksOf_21 : decode c_MO_marksOf 21 = .ok (.ifCond .eq 9, 3) := by decide +kernel
theorem d_MO_marksOf_24 : decode c_MO_marksOf 24 = .ok (.iload_n 2, 1) := by decide +kernel
theorem d_MO_marksOf_25 : decode c_MO_marksOf 25 = .ok (.iconst 1, 1) := by decide +kernel
theorem d_MO_marksOf_26 : decode c_MO_marksOf 26 = .ok (.iadd, 1) := by decide +kernel
theorem d_MO_marksOf_27 : decode c_MO_marksOf 27 = .ok (.goto 4, 3) := by decide +kernel
theorem d_MO_marksOf_30 : decode c_MO_marksOf 30 = .ok (.iload_n 2, 1) := by decide +kernel
theorem d_MO_marksOf_31 : decode c_MO_marksOf 31 = .ok (.istore_n 2, 1) := by decide +kernel
theorem d_MO_marksOf_32 : decode c_MO_marksOf 32 = .ok (.iinc 3 1, 3) := by decide +kernel
theorem d_MO_marksOf_35 : decode c_MO_marksOf 35 = .ok (.goto (-31), 3) := by decide +kernel
theorem d_MO_marksOf_38 : decode c_MO_marksOf 38 = .ok (.iload_n 2, 1) := by decide +kernel
theorem d_MO_marksOf_39 : decode c_MO_marksOf 39 = .ok (.ireturn, 1) := by decide +kernel
theorem d_MO_protect_0 : decode c_MO_protect 0 = .ok (.aload_n 0, 1) := by decide +kernel
theorem d_MO_protect_1 : decode c_MO_protect 1 = .ok (.aload_n 0, 1) := by decide +kernel
theorem d_MO_protect_2 : decode c_MO_protect 2 = .ok (.iload_n 1, 1) := by decide +kernel
theorem d_MO_protect_3 : decode c_MO_protect 3 = .ok (.invokevirtual 106, 3) := by decide +kernel
theorem d_MO_protect_6 : decode c_MO_protect 6 = .ok (.ifCond .ne 7, 3) := by decide +kernel
theorem d_MO_protect_9 : decode c_MO_protect 9 = .ok (.iconst 1, 1) := by decide +kernel
theorem d_MO_protect_10 : decode c_MO_protect 10 = .ok (.goto 16, 3) := by decide +kernel
theorem d_MO_protect_13 : decode c_MO_protect 13 = .ok (.aload_n 0, 1) := by decide +kernel
theorem d_MO_protect_14 : decode c_MO_protect 14 = .ok (.iload_n 1, 1) := by decide +kernel
theorem d_MO_protect_15 : decode c_MO_protect 15 = .ok (.invokevirtual 187, 3) := by decide +kernel
theorem d_MO_protect_18 : decode c_MO_protect 18 = .ok (.ifCond .eq 7, 3) := by decide +kernel
theorem d_MO_protect_21 : decode c_MO_protect 21 = .ok (.iconst 0, 1) := by decide +kernel
theorem d_MO_protect_22 : decode c_MO_protect 22 = .ok (.goto 4, 3) := by decide +kernel
theorem d_MO_protect_25 : decode c_MO_protect 25 = .ok (.iconst 2, 1) := by decide +kernel
theorem d_MO_protect_26 : decode c_MO_protect 26 = .ok (.invokevirtual 102, 3) := by decide +kernel
theorem d_MO_protect_29 : decode c_MO_protect 29 = .ok (.ifCond .ne 10, 3) := by decide +kernel
theorem d_MO_protect_32 : decode c_MO_protect 32 = .ok (.aload_n 0, 1) := by decide +kernel
theorem d_MO_protect_33 : decode c_MO_protect 33 = .ok (.getfield 47, 3) := by decide +kernel
theorem d_MO_protect_36 : decode c_MO_protect 36 = .ok (.iload_n 1, 1) := by decide +kernel
theorem d_MO_protect_37 : decode c_MO_protect 37 = .ok (.iload_n 2, 1) := by decide +kernel
theorem d_MO_protect_38 : decode c_MO_protect 38 = .ok (.bastore, 1) := by decide +kernel
theorem d_MO_protect_39 : decode c_MO_protect 39 = .ok (.return_, 1) := by decide +kernel
theorem d_MO_recorded_0 : decode c_MO_recorded 0 = .ok (.aload_n 0, 1) := by decide +kernel
theorem d_MO_recorded_1 : decode c_MO_recorded 1 = .ok (.aload_n 0, 1) := by decide +kernel
theorem d_MO_recorded_2 : decode c_MO_recorded 2 = .ok (.iload_n 1, 1) := by decide +kernel
theorem d_MO_recorded_3 : decode c_MO_recorded 3 = .ok (.invokevirtual 106, 3) := by decide +kernel
theorem d_MO_recorded_6 : decode c_MO_recorded 6 = .ok (.ifCond .eq 7, 3) := by decide +kernel
theorem d_MO_recorded_9 : decode c_MO_recorded 9 = .ok (.iconst 0, 1) := by decide +kernel
theorem d_MO_recorded_10 : decode c_MO_recorded 10 = .ok (.goto 4, 3) := by decide +kernel
theorem d_MO_recorded_13 : decode c_MO_recorded 13 = .ok (.iconst 1, 1) := by decide +kernel
theorem d_MO_recorded_14 : decode c_MO_recorded 14 = .ok (.invokevirtual 102, 3) := by decide +kernel
theorem d_MO_recorded_17 : decode c_MO_recorded 17 = .ok (.ifCond .eq 5, 3) := by decide +kernel
theorem d_MO_recorded_20 : decode c_MO_recorded 20 = .ok (.iconst 0, 1) := by decide +kernel
theorem d_MO_recorded_21 : decode c_MO_recorded 21 = .ok (.ireturn, 1) := by decide +kernel
theorem d_MO_recorded_22 : decode c_MO_recorded 22 = .ok (.iconst 0, 1) := by decide +kernel
theorem d_MO_recorded_23 : decode c_MO_recorded 23 = .ok (.istore_n 2, 1) := by decide +kernel
theorem d_MO_recorded_24 : decode c_MO_recorded 24 = .ok (.iconst 0, 1) := by decide +kernel
theorem d_MO_recorded_25 : decode c_MO_recorded 25 = .ok (.istore_n 3, 1) := by decide +kernel
theorem d_MO_recorded_26 : decode c_MO_recorded 26 = .ok (.iload_n 3, 1) := by decide +kernel
theorem d_MO_recorded_27 : decode c_MO_recorded 27 = .ok (.bipush 100, 2) := by decide +kernel
theorem d_MO_recorded_29 : decode c_MO_recorded 29 = .ok (.if_icmp .ge 31, 3) := by decide +kernel
theorem d_MO_recorded_32 : decode c_MO_recorded 32 = .ok (.aload_n 0, 1) := by decide +kernel
theorem d_MO_recorded_33 : decode c_MO_recorded 33 = .ok (.getfield 54, 3) := by decide +kernel
theorem d_MO_recorded_36 : decode c_MO_recorded 36 = .ok (.bipush 100, 2) := by decide +kernel
theorem d_MO_recorded_38 : decode c_MO_recorded 38 = .ok (.iload_n 1, 1) := by decide +kernel
theorem d_MO_recorded_39 : decode c_MO_recorded 39 = .ok (.imul, 1) := by decide +kernel
theorem d_MO_recorded_40 : decode c_MO_recorded 40 = .ok (.iload_n 3, 1) := by decide +kernel
theorem d_MO_recorded_41 : decode c_MO_recorded 41 = .ok (.iadd, 1) := by decide +kernel
theorem d_MO_recorded_42 : decode c_MO_recorded 42 = .ok (.baload, 1) := by decide +kernel
theorem d_MO_recorded_43 : decode c_MO_recorded 43 = .ok (.ifCond .eq 9, 3) := by decide +kernel
theorem d_MO_recorded_46 : decode c_MO_recorded 46 = .ok (.iload_n 2, 1) := by decide +kernel
theorem d_MO_recorded_47 : decode c_MO_recorded 47 = .ok (.iconst 1, 1) := by decide +kernel
theorem d_MO_recorded_48 : decode c_MO_recorded 48 = .ok (.iadd, 1) := by decide +kernel
theorem d_MO_recorded_49 : decode c_MO_recorded 49 = .ok (.goto 4, 3) := by decide +kernel
theorem d_MO_recorded_52 : decode c_MO_recorded 52 = .ok (.iload_n 2, 1) := by decide +kernel
theorem d_MO_recorded_53 : decode c_MO_recorded 53 = .ok (.istore_n 2, 1) := by decide +kernel
theorem d_MO_recorded_54 : decode c_MO_recorded 54 = .ok (.iinc 3 1, 3) := by decide +kernel
theorem d_MO_recorded_57 : decode c_MO_recorded 57 = .ok (.goto (-31), 3) := by decide +kernel
theorem d_MO_recorded_60 : decode c_MO_recorded 60 = .ok (.iload_n 2, 1) := by decide +kernel
theorem d_MO_recorded_61 : decode c_MO_recorded 61 = .ok (.ireturn, 1) := by decide +kernel
theorem d_MO_request_0 : decode c_MO_request 0 = .ok (.iload_n 1, 1) := by decide +kernel
theorem d_MO_request_1 : decode c_MO_request 1 = .ok (.ifCond .lt 72, 3) := by decide +kernel
theorem d_MO_request_4 : decode c_MO_request 4 = .ok (.iload_n 1, 1) := by decide +kernel
theorem d_MO_request_5 : decode c_MO_request 5 = .ok (.bipush 7, 2) := by decide +kernel
theorem d_MO_request_7 : decode c_MO_request 7 = .ok (.if_icmp .gt 66, 3) := by decide +kernel
theorem d_MO_request_10 : decode c_MO_request 10 = .ok (.iload_n 2, 1) := by decide +kernel
theorem d_MO_request_11 : decode c_MO_request 11 = .ok (.aload_n 0, 1) := by decide +kernel
theorem d_MO_request_12 : decode c_MO_request 12 = .ok (.getfield 93, 3) := by decide +kernel
theorem d_MO_request_15 : decode c_MO_request 15 = .ok (.if_icmp .lt 58, 3) := by decide +kernel
theorem d_MO_request_18 : decode c_MO_request 18 = .ok (.iload_n 2, 1) := by decide +kernel
theorem d_MO_request_19 : decode c_MO_request 19 = .ok (.i2l, 1) := by decide +kernel
theorem d_MO_request_20 : decode c_MO_request 20 = .ok (.aload_n 0, 1) := by decide +kernel
theorem d_MO_request_21 : decode c_MO_request 21 = .ok (.getfield 93, 3) := by decide +kernel
theorem d_MO_request_24 : decode c_MO_request 24 = .ok (.i2l, 1) := by decide +kernel
theorem d_MO_request_25 : decode c_MO_request 25 = .ok (.ldc2_w 96, 3) := by decide +kernel
theorem d_MO_request_28 : decode c_MO_request 28 = .ok (.ladd, 1) := by decide +kernel
theorem d_MO_request_29 : decode c_MO_request 29 = .ok (.lcmp, 1) := by decide +kernel
theorem d_MO_request_30 : decode c_MO_request 30 = .ok (.ifCond .gt 43, 3) := by decide +kernel
theorem d_MO_request_33 : decode c_MO_request 33 = .ok (.iload_n 3, 1) := by decide +kernel
theorem d_MO_request_34 : decode c_MO_request 34 = .ok (.iconst 1, 1) := by decide +kernel
theorem d_MO_request_35 : decode c_MO_request 35 = .ok (.if_icmp .lt 38, 3) := by decide +kernel
theorem d_MO_request_38 : decode c_MO_request 38 = .ok (.iload_n 3, 1) := by decide +kernel
theorem d_MO_request_39 : decode c_MO_request 39 = .ok (.bipush 60, 2) := by decide +kernel
theorem d_MO_request_41 : decode c_MO_request 41 = .ok (.if_icmp .gt 32, 3) := by decide +kernel
theorem d_MO_request_44 : decode c_MO_request 44 = .ok (.iload 4, 2) := by decide +kernel
theorem d_MO_request_46 : decode c_MO_request 46 = .ok (.iconst 1, 1) := by decide +kernel
theorem d_MO_request_47 : decode c_MO_request 47 = .ok (.if_icmp .lt 26, 3) := by decide +kernel
theorem d_MO_request_50 : decode c_MO_request 50 = .ok (.iload 4, 2) := by decide +kernel
theorem d_MO_request_52 : decode c_MO_request 52 = .ok (.bipush 9, 2) := by decide +kernel
theorem d_MO_request_54 : decode c_MO_request 54 = .ok (.if_icmp .gt 19, 3) := by decide +kernel
theorem d_MO_request_57 : decode c_MO_request 57 = .ok (.iload 5, 2) := by decide +kernel
theorem d_MO_request_59 : decode c_MO_request 59 = .ok (.ifCond .lt 14, 3) := by decide +kernel
theorem d_MO_request_62 : decode c_MO_request 62 = .ok (.iload 5, 2) := by decide +kernel
theorem d_MO_request_64 : decode c_MO_request 64 = .ok (.bipush 99, 2) := by decide +kernel
theorem d_MO_request_66 : decode c_MO_request 66 = .ok (.if_icmp .gt 7, 3) := by decide +kernel
theorem d_MO_request_69 : decode c_MO_request 69 = .ok (.iconst 1, 1) := by decide +kernel
theorem d_MO_request_70 : decode c_MO_request 70 = .ok (.goto 4, 3) := by decide +kernel
theorem d_MO_request_73 : decode c_MO_request 73 = .ok (.iconst 0, 1) := by decide +kernel
theorem d_MO_request_74 : decode c_MO_request 74 = .ok (.istore 6, 2) := by decide +kernel
theorem d_MO_request_76 : decode c_MO_request 76 = .ok (.aload_n 0, 1) := by decide +kernel
theorem d_MO_request_77 : decode c_MO_request 77 = .ok (.iload 6, 2) := by decide +kernel
theorem d_MO_request_79 : decode c_MO_request 79 = .ok (.ifCond .ne 7, 3) := by decide +kernel
theorem d_MO_request_82 : decode c_MO_request 82 = .ok (.iconst 1, 1) := by decide +kernel
theorem d_MO_request_83 : decode c_MO_request 83 = .ok (.goto 26, 3) := by decide +kernel
theorem d_MO_request_86 : decode c_MO_request 86 = .ok (.aload_n 0, 1) := by decide +kernel
theorem d_MO_request_87 : decode c_MO_request 87 = .ok (.invokevirtual 98, 3) := by decide +kernel
theorem d_MO_request_90 : decode c_MO_request 90 = .ok (.bipush 12, 2) := by decide +kernel
theorem d_MO_request_92 : decode c_MO_request 92 = .ok (.if_icmp .eq 12, 3) := by decide +kernel
theorem d_MO_request_95 : decode c_MO_request 95 = .ok (.aload_n 0, 1) := by decide +kernel
theorem d_MO_request_96 : decode c_MO_request 96 = .ok (.getfield 90, 3) := by decide +kernel
theorem d_MO_request_99 : decode c_MO_request 99 = .ok (.bipush 40, 2) := by decide +kernel
theorem d_MO_request_101 : decode c_MO_request 101 = .ok (.if_icmp .ne 7, 3) := by decide +kernel
theorem d_MO_request_104 : decode c_MO_request 104 = .ok (.iconst 2, 1) := by decide +kernel
theorem d_MO_request_105 : decode c_MO_request 105 = .ok (.goto 4, 3) := by decide +kernel
theorem d_MO_request_108 : decode c_MO_request 108 = .ok (.iconst 0, 1) := by decide +kernel
theorem d_MO_request_109 : decode c_MO_request 109 = .ok (.invokevirtual 102, 3) := by decide +kernel
theorem d_MO_request_112 : decode c_MO_request 112 = .ok (.ifCond .eq 5, 3) := by decide +kernel
theorem d_MO_request_115 : decode c_MO_request 115 = .ok (.iconst 0, 1) := by decide +kernel
theorem d_MO_request_116 : decode c_MO_request 116 = .ok (.ireturn, 1) := by decide +kernel
theorem d_MO_request_117 : decode c_MO_request 117 = .ok (.aload_n 0, 1) := by decide +kernel
theorem d_MO_request_118 : decode c_MO_request 118 = .ok (.getfield 90, 3) := by decide +kernel
theorem d_MO_request_121 : decode c_MO_request 121 = .ok (.istore 7, 2) := by decide +kernel
theorem d_MO_request_123 : decode c_MO_request 123 = .ok (.aload_n 0, 1) := by decide +kernel
theorem d_MO_request_124 : decode c_MO_request 124 = .ok (.getfield 17, 3) := by decide +kernel
theorem d_MO_request_127 : decode c_MO_request 127 = .ok (.iload 7, 2) := by decide +kernel
theorem d_MO_request_129 : decode c_MO_request 129 = .ok (.iload_n 1, 1) := by decide +kernel
theorem d_MO_request_130 : decode c_MO_request 130 = .ok (.iastore, 1) := by decide +kernel
theorem d_MO_request_131 : decode c_MO_request 131 = .ok (.aload_n 0, 1) := by decide +kernel
theorem d_MO_request_132 : decode c_MO_request 132 = .ok (.getfield 20, 3) := by decide +kernel
theorem d_MO_request_135 : decode c_MO_request 135 = .ok (.iload 7, 2) := by decide +kernel
theorem d_MO_request_137 : decode c_MO_request 137 = .ok (.iload_n 2, 1) := by decide +kernel
theorem d_MO_request_138 : decode c_MO_request 138 = .ok (.iastore, 1) := by decide +kernel
theorem d_MO_request_139 : decode c_MO_request 139 = .ok (.aload_n 0, 1) := by decide +kernel
theorem d_MO_request_140 : decode c_MO_request 140 = .ok (.getfield 23, 3) := by decide +kernel
theorem d_MO_request_143 : decode c_MO_request 143 = .ok (.iload 7, 2) := by decide +kernel
theorem d_MO_request_145 : decode c_MO_request 145 = .ok (.iload_n 3, 1) := by decide +kernel
theorem d_MO_request_146 : decode c_MO_request 146 = .ok (.iastore, 1) := by decide +kernel
theorem d_MO_request_147 : decode c_MO_request 147 = .ok (.aload_n 0, 1) := by decide +kernel
theorem d_MO_request_148 : decode c_MO_request 148 = .ok (.getfield 26, 3) := by decide +kernel
theorem d_MO_request_151 : decode c_MO_request 151 = .ok (.iload 7, 2) := by decide +kernel
theorem d_MO_request_153 : decode c_MO_request 153 = .ok (.iload 4, 2) := by decide +kernel
theorem d_MO_request_155 : decode c_MO_request 155 = .ok (.iastore, 1) := by decide +kernel
theorem d_MO_request_156 : decode c_MO_request 156 = .ok (.aload_n 0, 1) := by decide +kernel
theorem d_MO_request_157 : decode c_MO_request 157 = .ok (.getfield 29, 3) := by decide +kernel
theorem d_MO_request_160 : decode c_MO_request 160 = .ok (.iload 7, 2) := by decide +kernel
theorem d_MO_request_162 : decode c_MO_request 162 = .ok (.iload 5, 2) := by decide +kernel
theorem d_MO_request_164 : decode c_MO_request 164 = .ok (.bipush 10, 2) := by decide +kernel
theorem d_MO_request_166 : decode c_MO_request 166 = .ok (.idiv, 1) := by decide +kernel
theorem d_MO_request_167 : decode c_MO_request 167 = .ok (.iastore, 1) := by decide +kernel
theorem d_MO_request_168 : decode c_MO_request 168 = .ok (.aload_n 0, 1) := by decide +kernel
theorem d_MO_request_169 : decode c_MO_request 169 = .ok (.getfield 32, 3) := by decide +kernel
theorem d_MO_request_172 : decode c_MO_request 172 = .ok (.iload 7, 2) := by decide +kernel
theorem d_MO_request_174 : decode c_MO_request 174 = .ok (.iload 5, 2) := by decide +kernel
theorem d_MO_request_176 : decode c_MO_request 176 = .ok (.bipush 10, 2) := by decide +kernel
theorem d_MO_request_178 : decode c_MO_request 178 = .ok (.irem, 1) := by decide +kernel
theorem d_MO_request_179 : decode c_MO_request 179 = .ok (.iastore, 1) := by decide +kernel
theorem d_MO_request_180 : decode c_MO_request 180 = .ok (.aload_n 0, 1) := by decide +kernel
theorem d_MO_request_181 : decode c_MO_request 181 = .ok (.dup, 1) := by decide +kernel
theorem d_MO_request_182 : decode c_MO_request 182 = .ok (.getfield 90, 3) := by decide +kernel
theorem d_MO_request_185 : decode c_MO_request 185 = .ok (.iconst 1, 1) := by decide +kernel
theorem d_MO_request_186 : decode c_MO_request 186 = .ok (.iadd, 1) := by decide +kernel
theorem d_MO_request_187 : decode c_MO_request 187 = .ok (.putfield 90, 3) := by decide +kernel
theorem d_MO_request_190 : decode c_MO_request 190 = .ok (.iload 7, 2) := by decide +kernel
theorem d_MO_request_192 : decode c_MO_request 192 = .ok (.ireturn, 1) := by decide +kernel
theorem d_MO_seen_0 : decode c_MO_seen 0 = .ok (.aload_n 0, 1) := by decide +kernel
theorem d_MO_seen_1 : decode c_MO_seen 1 = .ok (.aload_n 0, 1) := by decide +kernel
theorem d_MO_seen_2 : decode c_MO_seen 2 = .ok (.iload_n 1, 1) := by decide +kernel
theorem d_MO_seen_3 : decode c_MO_seen 3 = .ok (.invokevirtual 106, 3) := by decide +kernel
theorem d_MO_seen_6 : decode c_MO_seen 6 = .ok (.ifCond .ne 7, 3) := by decide +kernel
theorem d_MO_seen_9 : decode c_MO_seen 9 = .ok (.iconst 1, 1) := by decide +kernel
theorem d_MO_seen_10 : decode c_MO_seen 10 = .ok (.goto 16, 3) := by decide +kernel
theorem d_MO_seen_13 : decode c_MO_seen 13 = .ok (.aload_n 0, 1) := by decide +kernel
theorem d_MO_seen_14 : decode c_MO_seen 14 = .ok (.iload_n 1, 1) := by decide +kernel
theorem d_MO_seen_15 : decode c_MO_seen 15 = .ok (.invokevirtual 187, 3) := by decide +kernel
theorem d_MO_seen_18 : decode c_MO_seen 18 = .ok (.ifCond .eq 7, 3) := by decide +kernel
theorem d_MO_seen_21 : decode c_MO_seen 21 = .ok (.iconst 0, 1) := by decide +kernel
theorem d_MO_seen_22 : decode c_MO_seen 22 = .ok (.goto 4, 3) := by decide +kernel
theorem d_MO_seen_25 : decode c_MO_seen 25 = .ok (.iconst 2, 1) := by decide +kernel
theorem d_MO_seen_26 : decode c_MO_seen 26 = .ok (.invokevirtual 102, 3) := by decide +kernel
theorem d_MO_seen_29 : decode c_MO_seen 29 = .ok (.ifCond .ne 10, 3) := by decide +kernel
theorem d_MO_seen_32 : decode c_MO_seen 32 = .ok (.aload_n 0, 1) := by decide +kernel
theorem d_MO_seen_33 : decode c_MO_seen 33 = .ok (.getfield 51, 3) := by decide +kernel
theorem d_MO_seen_36 : decode c_MO_seen 36 = .ok (.iload_n 1, 1) := by decide +kernel
theorem d_MO_seen_37 : decode c_MO_seen 37 = .ok (.iload_n 2, 1) := by decide +kernel
theorem d_MO_seen_38 : decode c_MO_seen 38 = .ok (.bastore, 1) := by decide +kernel
theorem d_MO_seen_39 : decode c_MO_seen 39 = .ok (.return_, 1) := by decide +kernel
theorem d_MO_word_0 : decode c_MO_word 0 = .ok (.aload_n 0, 1) := by decide +kernel
theorem d_MO_word_1 : decode c_MO_word 1 = .ok (.aload_n 0, 1) := by decide +kernel
theorem d_MO_word_2 : decode c_MO_word 2 = .ok (.iload_n 1, 1) := by decide +kernel
theorem d_MO_word_3 : decode c_MO_word 3 = .ok (.invokevirtual 106, 3) := by decide +kernel
theorem d_MO_word_6 : decode c_MO_word 6 = .ok (.ifCond .eq 7, 3) := by decide +kernel
theorem d_MO_word_9 : decode c_MO_word 9 = .ok (.iconst 0, 1) := by decide +kernel
theorem d_MO_word_10 : decode c_MO_word 10 = .ok (.goto 4, 3) := by decide +kernel
theorem d_MO_word_13 : decode c_MO_word 13 = .ok (.iconst 1, 1) := by decide +kernel
theorem d_MO_word_14 : decode c_MO_word 14 = .ok (.invokevirtual 102, 3) := by decide +kernel
theorem d_MO_word_17 : decode c_MO_word 17 = .ok (.ifCond .eq 5, 3) := by decide +kernel
theorem d_MO_word_20 : decode c_MO_word 20 = .ok (.lconst 0, 1) := by decide +kernel
theorem d_MO_word_21 : decode c_MO_word 21 = .ok (.lreturn, 1) := by decide +kernel
theorem d_MO_word_22 : decode c_MO_word 22 = .ok (.iload_n 2, 1) := by decide +kernel
theorem d_MO_word_23 : decode c_MO_word 23 = .ok (.ifCond .lt 23, 3) := by decide +kernel
theorem d_MO_word_26 : decode c_MO_word 26 = .ok (.iload_n 2, 1) := by decide +kernel
theorem d_MO_word_27 : decode c_MO_word 27 = .ok (.bipush 99, 2) := by decide +kernel
theorem d_MO_word_29 : decode c_MO_word 29 = .ok (.if_icmp .gt 17, 3) := by decide +kernel
theorem d_MO_word_32 : decode c_MO_word 32 = .ok (.aload_n 0, 1) := by decide +kernel
theorem d_MO_word_33 : decode c_MO_word 33 = .ok (.getfield 54, 3) := by decide +kernel
theorem d_MO_word_36 : decode c_MO_word 36 = .ok (.bipush 100, 2) := by decide +kernel
theorem d_MO_word_38 : decode c_MO_word 38 = .ok (.iload_n 1, 1) := by decide +kernel
theorem d_MO_word_39 : decode c_MO_word 39 = .ok (.imul, 1) := by decide +kernel
theorem d_MO_word_40 : decode c_MO_word 40 = .ok (.iload_n 2, 1) := by decide +kernel
theorem d_MO_word_41 : decode c_MO_word 41 = .ok (.iadd, 1) := by decide +kernel
theorem d_MO_word_42 : decode c_MO_word 42 = .ok (.baload, 1) := by decide +kernel
theorem d_MO_word_43 : decode c_MO_word 43 = .ok (.ifCond .ne 9, 3) := by decide +kernel
theorem d_MO_word_46 : decode c_MO_word 46 = .ok (.ldc2_w 183, 3) := by decide +kernel
theorem d_MO_word_49 : decode c_MO_word 49 = .ok (.goto 19, 3) := by decide +kernel
theorem d_MO_word_52 : decode c_MO_word 52 = .ok (.aload_n 0, 1) := by decide +kernel
theorem d_MO_word_53 : decode c_MO_word 53 = .ok (.getfield 57, 3) := by decide +kernel
theorem d_MO_word_56 : decode c_MO_word 56 = .ok (.bipush 100, 2) := by decide +kernel
theorem d_MO_word_58 : decode c_MO_word 58 = .ok (.iload_n 1, 1) := by decide +kernel
theorem d_MO_word_59 : decode c_MO_word 59 = .ok (.imul, 1) := by decide +kernel
theorem d_MO_word_60 : decode c_MO_word 60 = .ok (.iload_n 2, 1) := by decide +kernel
theorem d_MO_word_61 : decode c_MO_word 61 = .ok (.iadd, 1) := by decide +kernel
theorem d_MO_word_62 : decode c_MO_word 62 = .ok (.iaload, 1) := by decide +kernel
theorem d_MO_word_63 : decode c_MO_word 63 = .ok (.i2l, 1) := by decide +kernel
theorem d_MO_word_64 : decode c_MO_word 64 = .ok (.ldc2_w 185, 3) := by decide +kernel
theorem d_MO_word_67 : decode c_MO_word 67 = .ok (.land, 1) := by decide +kernel
theorem d_MO_word_68 : decode c_MO_word 68 = .ok (.lreturn, 1) := by decide +kernel
set_option maxHeartbeats 8000000 in
set_option maxRecDepth 100000 in
theorem t_MO_word (l : Launch) (dC : Nat → ClassId) (dI : Nat → Nat → Nat) (g0 : Nat) (ad : Nat → Nat) (kI kZ : ClassId) (sc : Nat → Int32) (ia : Nat → Nat → Int32) (sz Bd : Nat) (T : Int) (N : Nat) (hI : MI T N sc ia) (x : Int32) (y : Int32) : Met l y_MO_word w_MO_word ({ frames := 1, cells := 0, slots := 0, locals := 21 }) (frP (dC, dI) (MOW g0 ad kI kZ sc ia) (MOT kI kZ) sz Bd [.ref g0, .int x, .int y]) (tQ (dC, dI) (mW g0 ad kI kZ) (va_A (MOW g0 ad kI kZ sc ia) sz) vJ (fun r u => same [0] sc u.1 ∧ same [] ia u.2 ∧ MI T N u.1 u.2)) 0 0 (va_A (MOW g0 ad kI kZ sc ia) sz) := by
  refine Met.ofW (cc := c_MO_word) (maxL := 3) (ret := (some .long)) (by decide) rfl ?_
  intro p e s m args below meth c s₁ B hml hv
  obtain ⟨rfl, ⟨hsz, hBs⟩, hP, hK, hD0, hV⟩ := hv
  have hx := B.exec
  have hb := B.bytes
  have hr := B.returns
  have ht : ∀ w ∈ tb_, w.before _ s = true := fun w h => atoms_spec (ws := w_MO_word) B.pre w (List.mem_cons_of_mem _ h)
  have hown : s.vm.findClass R_MO = some m.cls := findClass_of_methodNamed B.named
  have hlocks := B.notSynchronized
  subst hsz
  have hD := hD0.self (sz := s.heap.size)
  have hAB : ∀ q, va_A (MOW g0 ad kI kZ sc ia) s.heap.size q → Bd ≤ q := fr_AB hD0 hBs
  generalize hAe : va_A (MOW g0 ad kI kZ sc ia) s.heap.size = A at hD hAB ⊢
  have hA : ∀ q : Nat, s.heap.size ≤ q → A q := fun q h => by rw [← hAe]; exact Or.inr h
  have hS : va_S A s.heap s.heap [] := va_S.rf
  have hs : same [0] sc sc := same.rf
  have hi : same [] ia ia := same.rf
  have hP : va_P (dC, dI) cls_ (MOW g0 ad kI kZ sc ia) s.heap := hP
  have hl := lv_entry ([.ref g0, .int x, .int y]) (n := 3) (Nat.le_of_ble_eq_true rfl)
  rw [lg_entry_eq]
  generalize (lg_sl ([.ref g0, .int x, .int y]) ++ List.replicate (3 - (lg_sl ([.ref g0, .int x, .int y])).length) Slot.unset).toArray = ls at hl ⊢
  have hl : lv_has ls 3 [(0, .ref g0), (1, .int x), (2, .int y)] := hl
  have e4 := hI.e4
  have hN := hI.hN
  have hT := hI.T
  refine lv_aload_n hx hb d_MO_word_0 rfl (lv_at hl 0 rfl) ?_
  refine lv_aload_n hx hb d_MO_word_1 rfl (lv_at hl 0 rfl) ?_
  refine lv_iload_n hx hb d_MO_word_2 rfl (lv_at hl 1 rfl) ?_
  refine r_call (va_runV (C := R_MO) (As := [.int x]) (rest := [.ref g0]) ⟨hx, hb, hml, hown, ht⟩ (t_MO_isRequest l dC dI g0 ad kI kZ sc ia N ((hs 4 (by decide)).trans e4) hN x) (cwV 1 ht (gV tb_740 tb_742 ts_24 tb_5 tb_743) rfl rfl rfl (by decide +kernel) ⟨Nat.le_of_ble_eq_true rfl, Nat.le_of_ble_eq_true rfl⟩) ⟨rdP_blind, va_recv (q := (R_MO, F_MO, 30)) hK hP rfl (show (MOW g0 ad kI kZ sc ia : va_W)[0]? = some _ from rfl), rd_pre hP hK⟩ rfl rfl hl.1 rfl (lv_room (Nat.le_of_ble_eq_true rfl)) d_MO_word_3 ⟨Nat.le_of_ble_eq_true rfl, Nat.le_of_ble_eq_true rfl⟩) (fun r1 hu => ?_)
  have hu1_0 := hu
  have hu1_0 : ((∃ j, j < N ∧ x = nI j) ∧ r1 = 1 ∨ (∀ j, j < N → x ≠ nI j) ∧ r1 = 0) := hu1_0
  refine W.eq (g2 := F0 m 6 ls [.int r1, .ref g0]) rfl ?_
  rcases hu1_0 with ⟨⟨j, hj, rfl⟩, rfl⟩ | ⟨hno, rfl⟩
  · refine lv_if_eq (tgt := 13) hx hb d_MO_word_6 (by decide) (fun h9 => absurd h9 (by decide)) (fun _ => ?_)
    refine lv_iconst (v := 0) hx hb d_MO_word_9 (by decide) ?_
    refine lv_goto (tgt := 14) hx hb d_MO_word_10 (by decide) ?_
    refine t_call (u0 := (sc, ia)) (va_runV (C := R_MO) (As := [.int 0]) (rest := []) ⟨hx, hb, hml, hown, ht⟩ (t_MO_refused l dC dI g0 ad kI kZ sc ia s.heap.size Bd 0) (cwV 1 ht (gV tb_732 tb_734 ts_23 tb_5 tb_735) rfl rfl rfl (by decide +kernel) ⟨Nat.le_of_ble_eq_true rfl, Nat.le_of_ble_eq_true rfl⟩) ⟨frP_blind, va_recv (q := (R_MO, F_MO, 30)) hK hP rfl (show (MOW g0 ad kI kZ sc ia : va_W)[0]? = some _ from rfl), fr_pre hP hK hD hAB hBs hS hV⟩ rfl rfl hl.1 rfl (lv_room (Nat.le_of_ble_eq_true rfl)) d_MO_word_14 ⟨Nat.le_of_ble_eq_true rfl, Nat.le_of_ble_eq_true rfl⟩) hD hS hA (fun r2 u H locs hu hP hD hS => ?_)
    obtain ⟨sc3, ia4⟩ := u
    obtain ⟨hu2_0, hu2_1, hu2_2, hu2_3⟩ := hu
    have hu2_0 : same [0] sc sc3 := hu2_0
    have hu2_1 : same [] ia ia4 := hu2_1
    have hu2_2 : sc3 0 = 0 := hu2_2
    have hu2_3 : ((0 : Int32) < 0 ∧ r2 = 1 ∨ ¬ (0 : Int32) < 0 ∧ r2 = 0) := hu2_3
    have hP : va_P (dC, dI) cls_ (MOW g0 ad kI kZ sc3 ia4) H := hP
    have hD : va_D A (MOW g0 ad kI kZ sc3 ia4) := hD
    have hs : same [0] sc sc3 := hs.tr (hu2_0.wk (by decide))
    have hi : same [] ia ia4 := hi.tr (hu2_1.wk (by decide))
    refine W.eq (g2 := F0 m 17 ls [.int r2]) rfl ?_
    refine W.cs (cells' := 0) (slots' := 0) rfl rfl ?_
    obtain rfl : r2 = 0 := by rcases hu2_3 with ⟨q, _⟩ | ⟨_, q⟩; { exact absurd q (by decide) }; { exact q }
    refine lv_if_eq (tgt := 22) hx hb d_MO_word_17 (by decide) (fun _ => ?_) (fun h9 => absurd (by decide) h9)
    refine lv_iload_n hx hb d_MO_word_22 rfl (lv_at hl 2 rfl) ?_
    refine lv_if_lt (tgt := 46) hx hb d_MO_word_23 (by decide) (fun h23_1 => ?_) (fun h23_1 => ?_)
    · have h23_1 := h23_1
      have i23_1 := ti_lt h23_1
      (try rw [l_0] at i23_1)
      refine lv_ldc2 (v := (-1)) hx hb hown (ht _ tb_864) d_MO_word_46 ?_
      refine lv_goto (tgt := 68) hx hb d_MO_word_49 (by decide) ?_
      have hz0 : MI T N sc3 ia4 := hI.same (hs.wk (by decide)) (hi.wk (by decide))
      exact W.lret (v := -1) hx hb hr (fun t ht9 hW => ⟨⟨-1, (sc3, ia4), rfl, ⟨hs, hi, hz0⟩, by rw [ht9]; exact hP, hD⟩, hS.F ht9⟩) hS.2.2 d_MO_word_68
    · have h23_1 := h23_1
      have i23_1 := ti_nlt h23_1
      (try rw [l_0] at i23_1)
      refine lv_iload_n hx hb d_MO_word_26 rfl (lv_at hl 2 rfl) ?_
      refine lv_bipush (v := 99) hx hb d_MO_word_27 (by decide) ?_
      refine lv_icmp_gt (tgt := 46) hx hb d_MO_word_29 (by decide) (fun h29_2 => ?_) (fun h29_2 => ?_)
      · have h29_2 := h29_2
        have i29_2 := ti_lt h29_2
        (try rw [l_99] at i29_2)
        refine lv_ldc2 (v := (-1)) hx hb hown (ht _ tb_864) d_MO_word_46 ?_
        refine lv_goto (tgt := 68) hx hb d_MO_word_49 (by decide) ?_
        have hz0 : MI T N sc3 ia4 := hI.same (hs.wk (by decide)) (hi.wk (by decide))
        exact W.lret (v := -1) hx hb hr (fun t ht9 hW => ⟨⟨-1, (sc3, ia4), rfl, ⟨hs, hi, hz0⟩, by rw [ht9]; exact hP, hD⟩, hS.F ht9⟩) hS.2.2 d_MO_word_68
      · have h29_2 := h29_2
        have i29_2 := ti_nlt h29_2
        (try rw [l_99] at i29_2)
        obtain ⟨d, hd, rfl⟩ := of_n (n := 99) (x := y) (by omega) (by omega)
        refine lv_aload_n hx hb d_MO_word_32 rfl (lv_at hl 0 rfl) ?_
        refine va_get (D := (dC, dI)) (ci := 5) (v := .ref (ad 17)) (C := R_MO) (T := F_MO) (N := 30) hx hb ht in_MO hown hK hP 0 rfl rfl 17 (by decide) (ht _ tb_648) (fun _ h9 => h9) rfl d_MO_word_33 ?_
        refine lv_bipush (v := 100) hx hb d_MO_word_36 (by decide) ?_
        refine lv_iload_n hx hb d_MO_word_38 rfl (lv_at hl 1 rfl) ?_
        refine lv_imul hx hb d_MO_word_39 ?_
        refine lv_topi (fun v5 ev5 => ?_)
        obtain rfl : v5 = nI (100 * j) := ev5.trans (by rw [show (100 : Int32) = nI 100 from rfl, pk_mul])
        refine lv_iload_n hx hb d_MO_word_40 rfl (lv_at hl 2 rfl) ?_
        refine lv_iadd hx hb d_MO_word_41 ?_
        refine lv_topi (fun v6 ev6 => ?_)
        obtain rfl : v6 = nI ((100 * j) + d) := ev6.trans (by rw [nI_add])
        refine va_zald hx hb hK hP 14 1 rfl rfl (vp_in_nI (show (100 * j) + d < 4000 by omega) (by decide)) d_MO_word_42 ?_
        refine W.eq (g2 := F0 m 43 ls [.int (ia 17 ((100 * j) + d))]) (by rw [nI_clamp (show (100 * j) + d < 2 ^ 31 by omega), hi 17 (by decide)]) ?_
        refine lv_if_ne (tgt := 52) hx hb d_MO_word_43 (by decide) (fun h43_3 => ?_) (fun h43_3 => ?_)
        · have h43_3 := h43_3
          have i43_3 := ti_ne h43_3
          (try rw [l_0] at i43_3)
          refine lv_aload_n hx hb d_MO_word_52 rfl (lv_at hl 0 rfl) ?_
          refine va_get (D := (dC, dI)) (ci := 5) (v := .ref (ad 18)) (C := R_MO) (T := F_MO) (N := 30) hx hb ht in_MO hown hK hP 0 rfl rfl 18 (by decide) (ht _ tb_649) (fun _ h9 => h9) rfl d_MO_word_53 ?_
          refine lv_bipush (v := 100) hx hb d_MO_word_56 (by decide) ?_
          refine lv_iload_n hx hb d_MO_word_58 rfl (lv_at hl 1 rfl) ?_
          refine lv_imul hx hb d_MO_word_59 ?_
          refine lv_topi (fun v7 ev7 => ?_)
          obtain rfl : v7 = nI (100 * j) := ev7.trans (by rw [show (100 : Int32) = nI 100 from rfl, pk_mul])
          refine lv_iload_n hx hb d_MO_word_60 rfl (lv_at hl 2 rfl) ?_
          refine lv_iadd hx hb d_MO_word_61 ?_
          refine lv_topi (fun v8 ev8 => ?_)
          obtain rfl : v8 = nI ((100 * j) + d) := ev8.trans (by rw [nI_add])
          refine va_iald hx hb hK hP 15 0 rfl rfl (vp_in_nI (show (100 * j) + d < 4000 by omega) (by decide)) d_MO_word_62 ?_
          refine W.eq (g2 := F0 m 63 ls [.int (ia 18 ((100 * j) + d))]) (by rw [nI_clamp (show (100 * j) + d < 2 ^ 31 by omega), hi 18 (by decide)]) ?_
          refine lv_i2l hx hb d_MO_word_63 rfl ?_
          refine lv_ldc2 (v := 4294967295) hx hb hown (ht _ tb_865) d_MO_word_64 ?_
          refine lv_land hx hb d_MO_word_67 ?_
          have hz0 : MI T N sc3 ia4 := hI.same (hs.wk (by decide)) (hi.wk (by decide))
          exact W.lret (v := ((ia 18 ((100 * j) + d)).toInt64) &&& 4294967295) hx hb hr (fun t ht9 hW => ⟨⟨((ia 18 ((100 * j) + d)).toInt64) &&& 4294967295, (sc3, ia4), rfl, ⟨hs, hi, hz0⟩, by rw [ht9]; exact hP, hD⟩, hS.F ht9⟩) hS.2.2 d_MO_word_68
        · have h43_3 := h43_3
          have i43_3 := ti_eq h43_3
          (try rw [l_0] at i43_3)
          refine lv_ldc2 (v := (-1)) hx hb hown (ht _ tb_864) d_MO_word_46 ?_
          refine lv_goto (tgt := 68) hx hb d_MO_word_49 (by decide) ?_
          have hz0 : MI T N sc3 ia4 := hI.same (hs.wk (by decide)) (hi.wk (by decide))
          exact W.lret (v := -1) hx hb hr (fun t ht9 hW => ⟨⟨-1, (sc3, ia4), rfl, ⟨hs, hi, hz0⟩, by rw [ht9]; exact hP, hD⟩, hS.F ht9⟩) hS.2.2 d_MO_word_68
  · refine lv_if_eq (tgt := 13) hx hb d_MO_word_6 (by decide) (fun _ => ?_) (fun h9 => absurd (by decide) h9)
    refine lv_iconst (v := 1) hx hb d_MO_word_13 (by decide) ?_
    refine t_call (u0 := (sc, ia)) (va_runV (C := R_MO) (As := [.int 1]) (rest := []) ⟨hx, hb, hml, hown, ht⟩ (t_MO_refused l dC dI g0 ad kI kZ sc ia s.heap.size Bd 1) (cwV 1 ht (gV tb_732 tb_734 ts_23 tb_5 tb_735) rfl rfl rfl (by decide +kernel) ⟨Nat.le_of_ble_eq_true rfl, Nat.le_of_ble_eq_true rfl⟩) ⟨frP_blind, va_recv (q := (R_MO, F_MO, 30)) hK hP rfl (show (MOW g0 ad kI kZ sc ia : va_W)[0]? = some _ from rfl), fr_pre hP hK hD hAB hBs hS hV⟩ rfl rfl hl.1 rfl (lv_room (Nat.le_of_ble_eq_true rfl)) d_MO_word_14 ⟨Nat.le_of_ble_eq_true rfl, Nat.le_of_ble_eq_true rfl⟩) hD hS hA (fun r9 u H locs hu hP hD hS => ?_)
    obtain ⟨sc10, ia11⟩ := u
    obtain ⟨hu9_0, hu9_1, hu9_2, hu9_3⟩ := hu
    have hu9_0 : same [0] sc sc10 := hu9_0
    have hu9_1 : same [] ia ia11 := hu9_1
    have hu9_2 : sc10 0 = 1 := hu9_2
    have hu9_3 : ((0 : Int32) < 1 ∧ r9 = 1 ∨ ¬ (0 : Int32) < 1 ∧ r9 = 0) := hu9_3
    have hP : va_P (dC, dI) cls_ (MOW g0 ad kI kZ sc10 ia11) H := hP
    have hD : va_D A (MOW g0 ad kI kZ sc10 ia11) := hD
    have hs : same [0] sc sc10 := hs.tr (hu9_0.wk (by decide))
    have hi : same [] ia ia11 := hi.tr (hu9_1.wk (by decide))
    refine W.eq (g2 := F0 m 17 ls [.int r9]) rfl ?_
    refine W.cs (cells' := 0) (slots' := 0) rfl rfl ?_
    obtain rfl : r9 = 1 := by rcases hu9_3 with ⟨_, q⟩ | ⟨q, _⟩; { exact q }; { exact absurd (by decide) q }
    refine lv_if_eq (tgt := 22) hx hb d_MO_word_17 (by decide) (fun h9 => absurd h9 (by decide)) (fun _ => ?_)
    refine lv_lconst (v := 0) hx hb d_MO_word_20 (by decide) ?_
    have hz0 : MI T N sc10 ia11 := hI.same (hs.wk (by decide)) (hi.wk (by decide))
    exact W.lret (v := 0) hx hb hr (fun t ht9 hW => ⟨⟨0, (sc10, ia11), rfl, ⟨hs, hi, hz0⟩, by rw [ht9]; exact hP, hD⟩, hS.F ht9⟩) hS.2.2 d_MO_word_21
set_option maxHeartbeats 8000000 in
set_option maxRecDepth 100000 in
theorem t_MO_recorded (l : Launch) (dC : Nat → ClassId) (dI : Nat → Nat → Nat) (g0 : Nat) (ad : Nat → Nat) (kI kZ : ClassId) (sc : Nat → Int32) (ia : Nat → Nat → Int32) (sz Bd : Nat) (T : Int) (N : Nat) (hI : MI T N sc ia) (x : Int32) : Met l y_MO_recorded w_MO_recorded ({ frames := 1, cells := 0, slots := 0, locals := 21 }) (frP (dC, dI) (MOW g0 ad kI kZ sc ia) (MOT kI kZ) sz Bd [.ref g0, .int x]) (tQ (dC, dI) (mW g0 ad kI kZ) (va_A (MOW g0 ad kI kZ sc ia) sz) vI (fun r u => same [0] sc u.1 ∧ same [] ia u.2 ∧ MI T N u.1 u.2)) 0 0 (va_A (MOW g0 ad kI kZ sc ia) sz) := by
  refine Met.ofW (cc := c_MO_recorded) (maxL := 4) (ret := (some .int)) (by decide) rfl ?_
  intro p e s m args below meth c s₁ B hml hv
  obtain ⟨rfl, ⟨hsz, hBs⟩, hP, hK, hD0, hV⟩ := hv
  have hx := B.exec
  have hb := B.bytes
  have hr := B.returns
  have ht : ∀ w ∈ tb_, w.before _ s = true := fun w h => atoms_spec (ws := w_MO_recorded) B.pre w (List.mem_cons_of_mem _ h)
  have hown : s.vm.findClass R_MO = some m.cls := findClass_of_methodNamed B.named
  have hlocks := B.notSynchronized
  subst hsz
  have hD := hD0.self (sz := s.heap.size)
  have hAB : ∀ q, va_A (MOW g0 ad kI kZ sc ia) s.heap.size q → Bd ≤ q := fr_AB hD0 hBs
  generalize hAe : va_A (MOW g0 ad kI kZ sc ia) s.heap.size = A at hD hAB ⊢
  have hA : ∀ q : Nat, s.heap.size ≤ q → A q := fun q h => by rw [← hAe]; exact Or.inr h
  have hS : va_S A s.heap s.heap [] := va_S.rf
  have hs : same [0] sc sc := same.rf
  have hi : same [] ia ia := same.rf
  have hP : va_P (dC, dI) cls_ (MOW g0 ad kI kZ sc ia) s.heap := hP
  have hl := lv_entry ([.ref g0, .int x]) (n := 4) (Nat.le_of_ble_eq_true rfl)
  rw [lg_entry_eq]
  generalize (lg_sl ([.ref g0, .int x]) ++ List.replicate (4 - (lg_sl ([.ref g0, .int x])).length) Slot.unset).toArray = ls at hl ⊢
  have hl : lv_has ls 4 [(0, .ref g0), (1, .int x)] := hl
  have e4 := hI.e4
  have hN := hI.hN
  have hT := hI.T
  refine lv_aload_n hx hb d_MO_recorded_0 rfl (lv_at hl 0 rfl) ?_
  refine lv_aload_n hx hb d_MO_recorded_1 rfl (lv_at hl 0 rfl) ?_
  refine lv_iload_n hx hb d_MO_recorded_2 rfl (lv_at hl 1 rfl) ?_
  refine r_call (va_runV (C := R_MO) (As := [.int x]) (rest := [.ref g0]) ⟨hx, hb, hml, hown, ht⟩ (t_MO_isRequest l dC dI g0 ad kI kZ sc ia N ((hs 4 (by decide)).trans e4) hN x) (cwV 1 ht (gV tb_740 tb_742 ts_24 tb_5 tb_743) rfl rfl rfl (by decide +kernel) ⟨Nat.le_of_ble_eq_true rfl, Nat.le_of_ble_eq_true rfl⟩) ⟨rdP_blind, va_recv (q := (R_MO, F_MO, 30)) hK hP rfl (show (MOW g0 ad kI kZ sc ia : va_W)[0]? = some _ from rfl), rd_pre hP hK⟩ rfl rfl hl.1 rfl (lv_room (Nat.le_of_ble_eq_true rfl)) d_MO_recorded_3 ⟨Nat.le_of_ble_eq_true rfl, Nat.le_of_ble_eq_true rfl⟩) (fun r1 hu => ?_)
  have hu1_0 := hu
  have hu1_0 : ((∃ j, j < N ∧ x = nI j) ∧ r1 = 1 ∨ (∀ j, j < N → x ≠ nI j) ∧ r1 = 0) := hu1_0
  refine W.eq (g2 := F0 m 6 ls [.int r1, .ref g0]) rfl ?_
  rcases hu1_0 with ⟨⟨j, hj, rfl⟩, rfl⟩ | ⟨hno, rfl⟩
  · refine lv_if_eq (tgt := 13) hx hb d_MO_recorded_6 (by decide) (fun h9 => absurd h9 (by decide)) (fun _ => ?_)
    refine lv_iconst (v := 0) hx hb d_MO_recorded_9 (by decide) ?_
    refine lv_goto (tgt := 14) hx hb d_MO_recorded_10 (by decide) ?_
    refine t_call (u0 := (sc, ia)) (va_runV (C := R_MO) (As := [.int 0]) (rest := []) ⟨hx, hb, hml, hown, ht⟩ (t_MO_refused l dC dI g0 ad kI kZ sc ia s.heap.size Bd 0) (cwV 1 ht (gV tb_732 tb_734 ts_23 tb_5 tb_735) rfl rfl rfl (by decide +kernel) ⟨Nat.le_of_ble_eq_true rfl, Nat.le_of_ble_eq_true rfl⟩) ⟨frP_blind, va_recv (q := (R_MO, F_MO, 30)) hK hP rfl (show (MOW g0 ad kI kZ sc ia : va_W)[0]? = some _ from rfl), fr_pre hP hK hD hAB hBs hS hV⟩ rfl rfl hl.1 rfl (lv_room (Nat.le_of_ble_eq_true rfl)) d_MO_recorded_14 ⟨Nat.le_of_ble_eq_true rfl, Nat.le_of_ble_eq_true rfl⟩) hD hS hA (fun r2 u H locs hu hP hD hS => ?_)
    obtain ⟨sc3, ia4⟩ := u
    obtain ⟨hu2_0, hu2_1, hu2_2, hu2_3⟩ := hu
    have hu2_0 : same [0] sc sc3 := hu2_0
    have hu2_1 : same [] ia ia4 := hu2_1
    have hu2_2 : sc3 0 = 0 := hu2_2
    have hu2_3 : ((0 : Int32) < 0 ∧ r2 = 1 ∨ ¬ (0 : Int32) < 0 ∧ r2 = 0) := hu2_3
    have hP : va_P (dC, dI) cls_ (MOW g0 ad kI kZ sc3 ia4) H := hP
    have hD : va_D A (MOW g0 ad kI kZ sc3 ia4) := hD
    have hs : same [0] sc sc3 := hs.tr (hu2_0.wk (by decide))
    have hi : same [] ia ia4 := hi.tr (hu2_1.wk (by decide))
    refine W.eq (g2 := F0 m 17 ls [.int r2]) rfl ?_
    refine W.cs (cells' := 0) (slots' := 0) rfl rfl ?_
    obtain rfl : r2 = 0 := by rcases hu2_3 with ⟨q, _⟩ | ⟨_, q⟩; { exact absurd q (by decide) }; { exact q }
    refine lv_if_eq (tgt := 22) hx hb d_MO_recorded_17 (by decide) (fun _ => ?_) (fun h9 => absurd (by decide) h9)
    refine lv_iconst (v := 0) hx hb d_MO_recorded_22 (by decide) ?_
    refine lv_istore_n hx hb d_MO_recorded_23 rfl hl (by decide) rfl (fun ls hl => ?_)
    have hl : lv_has ls 4 [(2, .int 0), (0, .ref g0), (1, .int (nI j))] := hl
    refine lv_iconst (v := 0) hx hb d_MO_recorded_24 (by decide) ?_
    refine lv_istore_n hx hb d_MO_recorded_25 rfl hl (by decide) rfl (fun ls hl => ?_)
    have hl : lv_has ls 4 [(3, .int 0), (2, .int 0), (0, .ref g0), (1, .int (nI j))] := hl
    have J_26 : ∀ (n_26 : Nat) (k : Nat) (q : Int32) (sc_26 : Nat → Int32) (ia_26 : Nat → Nat → Int32) (H : Heap) (locs : List Loc) (ls : Array Slot), 100 - k < n_26 → k ≤ 100 → same [0] sc sc_26 → same [] ia ia_26 → lv_has ls 4 [(3, .int (nI k)), (2, .int q), (1, .int (nI j)), (0, .ref g0)] → va_P (dC, dI) cls_ (MOW g0 ad kI kZ sc_26 ia_26) H → va_D A (MOW g0 ad kI kZ sc_26 ia_26) → va_S A s.heap H locs → W p l e (headSpec w_MO_recorded ({ frames := 1, cells := 0, slots := 0, locals := 21 })).room s m (([.ref g0, .int (nI j)] : List Value).toArray) below meth c H locs 0 0 (MQ below (tQ (dC, dI) (mW g0 ad kI kZ) A vI (fun r u => same [0] sc u.1 ∧ same [] ia u.2 ∧ MI T N u.1 u.2)) (([.ref g0, .int (nI j)] : List Value).toArray) s 0 0 A) (F0 m 26 ls []) := by
      intro n_26
      induction n_26 with
      | zero => intro k q sc_26 ia_26 H locs ls hmu hc26_0 hs hi hl hP hD hS; exact absurd hmu (by omega)
      | succ n_26 ih_26 =>
        intro k q sc_26 ia_26 H locs ls hmu hc26_0 hs hi hl hP hD hS
        refine lv_iload_n hx hb d_MO_recorded_26 rfl (lv_at hl 0 rfl) ?_
        refine lv_bipush (v := 100) hx hb d_MO_recorded_27 (by decide) ?_
        refine lv_icmp_ge (tgt := 60) hx hb d_MO_recorded_29 (by decide) (fun h29_1 => ?_) (fun h29_1 => ?_)
        · have h29_1 := h29_1
          have i29_1 := ti_le h29_1
          (try rw [nI_toInt (show k < 2 ^ 31 by omega)] at i29_1)
          (try rw [l_100] at i29_1)
          refine lv_iload_n hx hb d_MO_recorded_60 rfl (lv_at hl 1 rfl) ?_
          have hz0 : MI T N sc_26 ia_26 := hI.same (hs.wk (by decide)) (hi.wk (by decide))
          exact W.iret (v := q) hx hb hr (fun t ht9 hW => ⟨⟨q, (sc_26, ia_26), rfl, ⟨hs, hi, hz0⟩, by rw [ht9]; exact hP, hD⟩, hS.F ht9⟩) hS.2.2 d_MO_recorded_61
        · have h29_1 := h29_1
          have i29_1 := ti_nle h29_1
          (try rw [nI_toInt (show k < 2 ^ 31 by omega)] at i29_1)
          (try rw [l_100] at i29_1)
          refine lv_aload_n hx hb d_MO_recorded_32 rfl (lv_at hl 3 rfl) ?_
          refine va_get (D := (dC, dI)) (ci := 5) (v := .ref (ad 17)) (C := R_MO) (T := F_MO) (N := 30) hx hb ht in_MO hown hK hP 0 rfl rfl 17 (by decide) (ht _ tb_648) (fun _ h9 => h9) rfl d_MO_recorded_33 ?_
          refine lv_bipush (v := 100) hx hb d_MO_recorded_36 (by decide) ?_
          refine lv_iload_n hx hb d_MO_recorded_38 rfl (lv_at hl 2 rfl) ?_
          refine lv_imul hx hb d_MO_recorded_39 ?_
          refine lv_topi (fun v5 ev5 => ?_)
          obtain rfl : v5 = nI (100 * j) := ev5.trans (by rw [show (100 : Int32) = nI 100 from rfl, pk_mul])
          refine lv_iload_n hx hb d_MO_recorded_40 rfl (lv_at hl 0 rfl) ?_
          refine lv_iadd hx hb d_MO_recorded_41 ?_
          refine lv_topi (fun v6 ev6 => ?_)
          obtain rfl : v6 = nI ((100 * j) + k) := ev6.trans (by rw [nI_add])
          refine va_zald hx hb hK hP 14 1 rfl rfl (vp_in_nI (show (100 * j) + k < 4000 by omega) (by decide)) d_MO_recorded_42 ?_
          refine W.eq (g2 := F0 m 43 ls [.int (ia 17 ((100 * j) + k))]) (by rw [nI_clamp (show (100 * j) + k < 2 ^ 31 by omega), hi 17 (by decide)]) ?_
          refine lv_if_eq (tgt := 52) hx hb d_MO_recorded_43 (by decide) (fun h43_2 => ?_) (fun h43_2 => ?_)
          · have h43_2 := h43_2
            have i43_2 := ti_eq h43_2
            (try rw [l_0] at i43_2)
            refine lv_iload_n hx hb d_MO_recorded_52 rfl (lv_at hl 1 rfl) ?_
            refine lv_istore_n hx hb d_MO_recorded_53 rfl hl (by decide) rfl (fun ls hl => ?_)
            have hl : lv_has ls 4 [(2, .int q), (3, .int (nI k)), (1, .int (nI j)), (0, .ref g0)] := hl
            refine lv_iinc (k := 1) (v := nI (k + 1)) hx hb d_MO_recorded_54 hl rfl ((nI_succ k).symm) (by decide) rfl (fun ls hl => ?_)
            have hl : lv_has ls 4 [(3, .int (nI (k + 1))), (2, .int q), (1, .int (nI j)), (0, .ref g0)] := hl
            refine lv_goto (tgt := 26) hx hb d_MO_recorded_57 (by decide) ?_
            exact ih_26 (k + 1) q sc_26 ia_26 H _ ls (by omega) (by omega) hs hi hl hP hD hS
          · have h43_2 := h43_2
            have i43_2 := ti_ne h43_2
            (try rw [l_0] at i43_2)
            refine lv_iload_n hx hb d_MO_recorded_46 rfl (lv_at hl 1 rfl) ?_
            refine lv_iconst (v := 1) hx hb d_MO_recorded_47 (by decide) ?_
            refine lv_iadd hx hb d_MO_recorded_48 ?_
            refine lv_goto (tgt := 53) hx hb d_MO_recorded_49 (by decide) ?_
            refine lv_istore_n hx hb d_MO_recorded_53 rfl hl (by decide) rfl (fun ls hl => ?_)
            have hl : lv_has ls 4 [(2, .int (q + 1)), (3, .int (nI k)), (1, .int (nI j)), (0, .ref g0)] := hl
            refine lv_iinc (k := 1) (v := nI (k + 1)) hx hb d_MO_recorded_54 hl rfl ((nI_succ k).symm) (by decide) rfl (fun ls hl => ?_)
            have hl : lv_has ls 4 [(3, .int (nI (k + 1))), (2, .int (q + 1)), (1, .int (nI j)), (0, .ref g0)] := hl
            refine lv_goto (tgt := 26) hx hb d_MO_recorded_57 (by decide) ?_
            exact ih_26 (k + 1) (q + 1) sc_26 ia_26 H _ ls (by omega) (by omega) hs hi hl hP hD hS
    have hl := lv_sub hl [0, 1, 3, 2] (l' := [(3, .int 0), (2, .int 0), (1, .int (nI j)), (0, .ref g0)]) rfl
    have hl : lv_has ls 4 [(3, .int (nI 0)), (2, .int 0), (1, .int (nI j)), (0, .ref g0)] := hl
    exact J_26 ((100 - 0) + 1) 0 0 sc3 ia4 H _ ls (by omega) (by omega) hs hi hl hP hD hS
  · refine lv_if_eq (tgt := 13) hx hb d_MO_recorded_6 (by decide) (fun _ => ?_) (fun h9 => absurd (by decide) h9)
    refine lv_iconst (v := 1) hx hb d_MO_recorded_13 (by decide) ?_
    refine t_call (u0 := (sc, ia)) (va_runV (C := R_MO) (As := [.int 1]) (rest := []) ⟨hx, hb, hml, hown, ht⟩ (t_MO_refused l dC dI g0 ad kI kZ sc ia s.heap.size Bd 1) (cwV 1 ht (gV tb_732 tb_734 ts_23 tb_5 tb_735) rfl rfl rfl (by decide +kernel) ⟨Nat.le_of_ble_eq_true rfl, Nat.le_of_ble_eq_true rfl⟩) ⟨frP_blind, va_recv (q := (R_MO, F_MO, 30)) hK hP rfl (show (MOW g0 ad kI kZ sc ia : va_W)[0]? = some _ from rfl), fr_pre hP hK hD hAB hBs hS hV⟩ rfl rfl hl.1 rfl (lv_room (Nat.le_of_ble_eq_true rfl)) d_MO_recorded_14 ⟨Nat.le_of_ble_eq_true rfl, Nat.le_of_ble_eq_true rfl⟩) hD hS hA (fun r7 u H locs hu hP hD hS => ?_)
    obtain ⟨sc8, ia9⟩ := u
    obtain ⟨hu7_0, hu7_1, hu7_2, hu7_3⟩ := hu
    have hu7_0 : same [0] sc sc8 := hu7_0
    have hu7_1 : same [] ia ia9 := hu7_1
    have hu7_2 : sc8 0 = 1 := hu7_2
    have hu7_3 : ((0 : Int32) < 1 ∧ r7 = 1 ∨ ¬ (0 : Int32) < 1 ∧ r7 = 0) := hu7_3
    have hP : va_P (dC, dI) cls_ (MOW g0 ad kI kZ sc8 ia9) H := hP
    have hD : va_D A (MOW g0 ad kI kZ sc8 ia9) := hD
    have hs : same [0] sc sc8 := hs.tr (hu7_0.wk (by decide))
    have hi : same [] ia ia9 := hi.tr (hu7_1.wk (by decide))
    refine W.eq (g2 := F0 m 17 ls [.int r7]) rfl ?_
    refine W.cs (cells' := 0) (slots' := 0) rfl rfl ?_
    obtain rfl : r7 = 1 := by rcases hu7_3 with ⟨_, q⟩ | ⟨q, _⟩; { exact q }; { exact absurd (by decide) q }
    refine lv_if_eq (tgt := 22) hx hb d_MO_recorded_17 (by decide) (fun h9 => absurd h9 (by decide)) (fun _ => ?_)
    refine lv_iconst (v := 0) hx hb d_MO_recorded_20 (by decide) ?_
    have hz0 : MI T N sc8 ia9 := hI.same (hs.wk (by decide)) (hi.wk (by decide))
    exact W.iret (v := 0) hx hb hr (fun t ht9 hW => ⟨⟨0, (sc8, ia9), rfl, ⟨hs, hi, hz0⟩, by rw [ht9]; exact hP, hD⟩, hS.F ht9⟩) hS.2.2 d_MO_recorded_21
set_option maxHeartbeats 8000000 in
set_option maxRecDepth 100000 in
theorem t_MO_protect (l : Launch) (dC : Nat → ClassId) (dI : Nat → Nat → Nat) (g0 : Nat) (ad : Nat → Nat) (kI kZ : ClassId) (sc : Nat → Int32) (ia : Nat → Nat → Int32) (sz Bd : Nat) (T : Int) (N : Nat) (hI : MI T N sc ia) (x : Int32) (y : Int32) : Met l y_MO_protect w_MO_protect ({ frames := 1, cells := 0, slots := 0, locals := 21 }) (frP (dC, dI) (MOW g0 ad kI kZ sc ia) (MOT kI kZ) sz Bd [.ref g0, .int x, .int y]) (tQ (dC, dI) (mW g0 ad kI kZ) (va_A (MOW g0 ad kI kZ sc ia) sz) vN (fun r u => same [0] sc u.1 ∧ same [15] ia u.2 ∧ MI T N u.1 u.2)) 0 0 (va_A (MOW g0 ad kI kZ sc ia) sz) := by
  refine Met.ofW (cc := c_MO_protect) (maxL := 3) (ret := none) (by decide) rfl ?_
  intro p e s m args below meth c s₁ B hml hv
  obtain ⟨rfl, ⟨hsz, hBs⟩, hP, hK, hD0, hV⟩ := hv
  have hx := B.exec
  have hb := B.bytes
  have hr := B.returns
  have ht : ∀ w ∈ tb_, w.before _ s = true := fun w h => atoms_spec (ws := w_MO_protect) B.pre w (List.mem_cons_of_mem _ h)
  have hown : s.vm.findClass R_MO = some m.cls := findClass_of_methodNamed B.named
  have hlocks := B.notSynchronized
  subst hsz
  have hD := hD0.self (sz := s.heap.size)
  have hAB : ∀ q, va_A (MOW g0 ad kI kZ sc ia) s.heap.size q → Bd ≤ q := fr_AB hD0 hBs
  generalize hAe : va_A (MOW g0 ad kI kZ sc ia) s.heap.size = A at hD hAB ⊢
  have hA : ∀ q : Nat, s.heap.size ≤ q → A q := fun q h => by rw [← hAe]; exact Or.inr h
  have hS : va_S A s.heap s.heap [] := va_S.rf
  have hs : same [0] sc sc := same.rf
  have hi : same [15] ia ia := same.rf
  have hP : va_P (dC, dI) cls_ (MOW g0 ad kI kZ sc ia) s.heap := hP
  have hl := lv_entry ([.ref g0, .int x, .int y]) (n := 3) (Nat.le_of_ble_eq_true rfl)
  rw [lg_entry_eq]
  generalize (lg_sl ([.ref g0, .int x, .int y]) ++ List.replicate (3 - (lg_sl ([.ref g0, .int x, .int y])).length) Slot.unset).toArray = ls at hl ⊢
  have hl : lv_has ls 3 [(0, .ref g0), (1, .int x), (2, .int y)] := hl
  have e4 := hI.e4
  have hN := hI.hN
  have hT := hI.T
  refine lv_aload_n hx hb d_MO_protect_0 rfl (lv_at hl 0 rfl) ?_
  refine lv_aload_n hx hb d_MO_protect_1 rfl (lv_at hl 0 rfl) ?_
  refine lv_iload_n hx hb d_MO_protect_2 rfl (lv_at hl 1 rfl) ?_
  refine r_call (va_runV (C := R_MO) (As := [.int x]) (rest := [.ref g0]) ⟨hx, hb, hml, hown, ht⟩ (t_MO_isRequest l dC dI g0 ad kI kZ sc ia N ((hs 4 (by decide)).trans e4) hN x) (cwV 1 ht (gV tb_740 tb_742 ts_24 tb_5 tb_743) rfl rfl rfl (by decide +kernel) ⟨Nat.le_of_ble_eq_true rfl, Nat.le_of_ble_eq_true rfl⟩) ⟨rdP_blind, va_recv (q := (R_MO, F_MO, 30)) hK hP rfl (show (MOW g0 ad kI kZ sc ia : va_W)[0]? = some _ from rfl), rd_pre hP hK⟩ rfl rfl hl.1 rfl (lv_room (Nat.le_of_ble_eq_true rfl)) d_MO_protect_3 ⟨Nat.le_of_ble_eq_true rfl, Nat.le_of_ble_eq_true rfl⟩) (fun r1 hu => ?_)
  have hu1_0 := hu
  have hu1_0 : ((∃ j, j < N ∧ x = nI j) ∧ r1 = 1 ∨ (∀ j, j < N → x ≠ nI j) ∧ r1 = 0) := hu1_0
  refine W.eq (g2 := F0 m 6 ls [.int r1, .ref g0]) rfl ?_
  rcases hu1_0 with ⟨⟨j, hj, rfl⟩, rfl⟩ | ⟨hno, rfl⟩
  · refine lv_if_ne (tgt := 13) hx hb d_MO_protect_6 (by decide) (fun _ => ?_) (fun h9 => absurd h9 (by decide))
    refine lv_aload_n hx hb d_MO_protect_13 rfl (lv_at hl 0 rfl) ?_
    refine lv_iload_n hx hb d_MO_protect_14 rfl (lv_at hl 1 rfl) ?_
    refine r_call (va_runV (C := R_MO) (As := [.int (nI j)]) (rest := [.ref g0]) ⟨hx, hb, hml, hown, ht⟩ (t_MO_isKept l dC dI g0 ad kI kZ sc ia j (show j < 40 by omega)) (cwV 1 ht (gV tb_882 tb_884 ts_46 tb_5 tb_885) rfl rfl rfl (by decide +kernel) ⟨Nat.le_of_ble_eq_true rfl, Nat.le_of_ble_eq_true rfl⟩) ⟨rdP_blind, va_recv (q := (R_MO, F_MO, 30)) hK hP rfl (show (MOW g0 ad kI kZ sc ia : va_W)[0]? = some _ from rfl), rd_pre hP hK⟩ rfl rfl hl.1 rfl (lv_room (Nat.le_of_ble_eq_true rfl)) d_MO_protect_15 ⟨Nat.le_of_ble_eq_true rfl, Nat.le_of_ble_eq_true rfl⟩) (fun r2 hu => ?_)
    clear hu
    refine W.eq (g2 := F0 m 18 ls [.int r2, .ref g0]) rfl ?_
    refine lv_if_eq (tgt := 25) hx hb d_MO_protect_18 (by decide) (fun h18_1 => ?_) (fun h18_1 => ?_)
    · have h18_1 := h18_1
      have i18_1 := ti_eq h18_1
      (try rw [l_0] at i18_1)
      refine lv_iconst (v := 2) hx hb d_MO_protect_25 (by decide) ?_
      refine t_call (u0 := (sc, ia)) (va_runV (C := R_MO) (As := [.int 2]) (rest := []) ⟨hx, hb, hml, hown, ht⟩ (t_MO_refused l dC dI g0 ad kI kZ sc ia s.heap.size Bd 2) (cwV 1 ht (gV tb_732 tb_734 ts_23 tb_5 tb_735) rfl rfl rfl (by decide +kernel) ⟨Nat.le_of_ble_eq_true rfl, Nat.le_of_ble_eq_true rfl⟩) ⟨frP_blind, va_recv (q := (R_MO, F_MO, 30)) hK hP rfl (show (MOW g0 ad kI kZ sc ia : va_W)[0]? = some _ from rfl), fr_pre hP hK hD hAB hBs hS hV⟩ rfl rfl hl.1 rfl (lv_room (Nat.le_of_ble_eq_true rfl)) d_MO_protect_26 ⟨Nat.le_of_ble_eq_true rfl, Nat.le_of_ble_eq_true rfl⟩) hD hS hA (fun r3 u H locs hu hP hD hS => ?_)
      obtain ⟨sc4, ia5⟩ := u
      obtain ⟨hu3_0, hu3_1, hu3_2, hu3_3⟩ := hu
      have hu3_0 : same [0] sc sc4 := hu3_0
      have hu3_1 : same [] ia ia5 := hu3_1
      have hu3_2 : sc4 0 = 2 := hu3_2
      have hu3_3 : ((0 : Int32) < 2 ∧ r3 = 1 ∨ ¬ (0 : Int32) < 2 ∧ r3 = 0) := hu3_3
      have hP : va_P (dC, dI) cls_ (MOW g0 ad kI kZ sc4 ia5) H := hP
      have hD : va_D A (MOW g0 ad kI kZ sc4 ia5) := hD
      have hs : same [0] sc sc4 := hs.tr (hu3_0.wk (by decide))
      have hi : same [15] ia ia5 := hi.tr (hu3_1.wk (by decide))
      refine W.eq (g2 := F0 m 29 ls [.int r3]) rfl ?_
      refine W.cs (cells' := 0) (slots' := 0) rfl rfl ?_
      obtain rfl : r3 = 1 := by rcases hu3_3 with ⟨_, q⟩ | ⟨q, _⟩; { exact q }; { exact absurd (by decide) q }
      refine lv_if_ne (tgt := 39) hx hb d_MO_protect_29 (by decide) (fun _ => ?_) (fun h9 => absurd h9 (by decide))
      have hz0 : MI T N sc4 ia5 := hI.same (hs.wk (by decide)) (hi.wk (by decide))
      exact W.vret hx hb hr (fun t ht9 hW => ⟨⟨(), (sc4, ia5), rfl, ⟨hs, hi, hz0⟩, by rw [ht9]; exact hP, hD⟩, hS.F ht9⟩) hS.2.2 d_MO_protect_39
    · have h18_1 := h18_1
      have i18_1 := ti_ne h18_1
      (try rw [l_0] at i18_1)
      refine lv_iconst (v := 0) hx hb d_MO_protect_21 (by decide) ?_
      refine lv_goto (tgt := 26) hx hb d_MO_protect_22 (by decide) ?_
      refine t_call (u0 := (sc, ia)) (va_runV (C := R_MO) (As := [.int 0]) (rest := []) ⟨hx, hb, hml, hown, ht⟩ (t_MO_refused l dC dI g0 ad kI kZ sc ia s.heap.size Bd 0) (cwV 1 ht (gV tb_732 tb_734 ts_23 tb_5 tb_735) rfl rfl rfl (by decide +kernel) ⟨Nat.le_of_ble_eq_true rfl, Nat.le_of_ble_eq_true rfl⟩) ⟨frP_blind, va_recv (q := (R_MO, F_MO, 30)) hK hP rfl (show (MOW g0 ad kI kZ sc ia : va_W)[0]? = some _ from rfl), fr_pre hP hK hD hAB hBs hS hV⟩ rfl rfl hl.1 rfl (lv_room (Nat.le_of_ble_eq_true rfl)) d_MO_protect_26 ⟨Nat.le_of_ble_eq_true rfl, Nat.le_of_ble_eq_true rfl⟩) hD hS hA (fun r6 u H locs hu hP hD hS => ?_)
      obtain ⟨sc7, ia8⟩ := u
      obtain ⟨hu6_0, hu6_1, hu6_2, hu6_3⟩ := hu
      have hu6_0 : same [0] sc sc7 := hu6_0
      have hu6_1 : same [] ia ia8 := hu6_1
      have hu6_2 : sc7 0 = 0 := hu6_2
      have hu6_3 : ((0 : Int32) < 0 ∧ r6 = 1 ∨ ¬ (0 : Int32) < 0 ∧ r6 = 0) := hu6_3
      have hP : va_P (dC, dI) cls_ (MOW g0 ad kI kZ sc7 ia8) H := hP
      have hD : va_D A (MOW g0 ad kI kZ sc7 ia8) := hD
      have hs : same [0] sc sc7 := hs.tr (hu6_0.wk (by decide))
      have hi : same [15] ia ia8 := hi.tr (hu6_1.wk (by decide))
      refine W.eq (g2 := F0 m 29 ls [.int r6]) rfl ?_
      refine W.cs (cells' := 0) (slots' := 0) rfl rfl ?_
      obtain rfl : r6 = 0 := by rcases hu6_3 with ⟨q, _⟩ | ⟨_, q⟩; { exact absurd q (by decide) }; { exact q }
      refine lv_if_ne (tgt := 39) hx hb d_MO_protect_29 (by decide) (fun h9 => absurd (by decide) h9) (fun _ => ?_)
      refine lv_aload_n hx hb d_MO_protect_32 rfl (lv_at hl 0 rfl) ?_
      refine va_get (D := (dC, dI)) (ci := 5) (v := .ref (ad 15)) (C := R_MO) (T := F_MO) (N := 30) hx hb ht in_MO hown hK hP 0 rfl rfl 15 (by decide) (ht _ tb_646) (fun _ h9 => h9) rfl d_MO_protect_33 ?_
      refine lv_iload_n hx hb d_MO_protect_36 rfl (lv_at hl 1 rfl) ?_
      refine lv_iload_n hx hb d_MO_protect_37 rfl (lv_at hl 2 rfl) ?_
      refine va_zast hx hb hK hP hD hS 12 1 rfl rfl (vp_in_nI (show j < 40 by omega) (by decide)) d_MO_protect_38 (fun H locs hP hD hS => ?_)
      rw [nI_clamp (show j < 2 ^ 31 by omega)] at hP hD
      have hP : va_P (dC, dI) cls_ (MOW g0 ad kI kZ sc7 (va_up ia8 15 (upd (ia8 15) j (vp_nar .boolean y)))) H := hP
      have hD : va_D A (MOW g0 ad kI kZ sc7 (va_up ia8 15 (upd (ia8 15) j (vp_nar .boolean y)))) := hD
      obtain ⟨ia9, eia9⟩ : ∃ q9_, q9_ = va_up ia8 15 (upd (ia8 15) j (vp_nar .boolean y)) := ⟨_, rfl⟩
      rw [← eia9] at hP hD
      have hi : same [15] ia ia9 := by rw [eia9]; exact hi.up (by decide)
      have hz0 : MI T N sc7 ia9 := hI.same (hs.wk (by decide)) (hi.wk (by decide))
      exact W.vret hx hb hr (fun t ht9 hW => ⟨⟨(), (sc7, ia9), rfl, ⟨hs, hi, hz0⟩, by rw [ht9]; exact hP, hD⟩, hS.F ht9⟩) hS.2.2 d_MO_protect_39
  · refine lv_if_ne (tgt := 13) hx hb d_MO_protect_6 (by decide) (fun h9 => absurd (by decide) h9) (fun _ => ?_)
    refine lv_iconst (v := 1) hx hb d_MO_protect_9 (by decide) ?_
    refine lv_goto (tgt := 26) hx hb d_MO_protect_10 (by decide) ?_
    refine t_call (u0 := (sc, ia)) (va_runV (C := R_MO) (As := [.int 1]) (rest := []) ⟨hx, hb, hml, hown, ht⟩ (t_MO_refused l dC dI g0 ad kI kZ sc ia s.heap.size Bd 1) (cwV 1 ht (gV tb_732 tb_734 ts_23 tb_5 tb_735) rfl rfl rfl (by decide +kernel) ⟨Nat.le_of_ble_eq_true rfl, Nat.le_of_ble_eq_true rfl⟩) ⟨frP_blind, va_recv (q := (R_MO, F_MO, 30)) hK hP rfl (show (MOW g0 ad kI kZ sc ia : va_W)[0]? = some _ from rfl), fr_pre hP hK hD hAB hBs hS hV⟩ rfl rfl hl.1 rfl (lv_room (Nat.le_of_ble_eq_true rfl)) d_MO_protect_26 ⟨Nat.le_of_ble_eq_true rfl, Nat.le_of_ble_eq_true rfl⟩) hD hS hA (fun r10 u H locs hu hP hD hS => ?_)
    obtain ⟨sc11, ia12⟩ := u
    obtain ⟨hu10_0, hu10_1, hu10_2, hu10_3⟩ := hu
    have hu10_0 : same [0] sc sc11 := hu10_0
    have hu10_1 : same [] ia ia12 := hu10_1
    have hu10_2 : sc11 0 = 1 := hu10_2
    have hu10_3 : ((0 : Int32) < 1 ∧ r10 = 1 ∨ ¬ (0 : Int32) < 1 ∧ r10 = 0) := hu10_3
    have hP : va_P (dC, dI) cls_ (MOW g0 ad kI kZ sc11 ia12) H := hP
    have hD : va_D A (MOW g0 ad kI kZ sc11 ia12) := hD
    have hs : same [0] sc sc11 := hs.tr (hu10_0.wk (by decide))
    have hi : same [15] ia ia12 := hi.tr (hu10_1.wk (by decide))
    refine W.eq (g2 := F0 m 29 ls [.int r10]) rfl ?_
    refine W.cs (cells' := 0) (slots' := 0) rfl rfl ?_
    obtain rfl : r10 = 1 := by rcases hu10_3 with ⟨_, q⟩ | ⟨q, _⟩; { exact q }; { exact absurd (by decide) q }
    refine lv_if_ne (tgt := 39) hx hb d_MO_protect_29 (by decide) (fun _ => ?_) (fun h9 => absurd h9 (by decide))
    have hz0 : MI T N sc11 ia12 := hI.same (hs.wk (by decide)) (hi.wk (by decide))
    exact W.vret hx hb hr (fun t ht9 hW => ⟨⟨(), (sc11, ia12), rfl, ⟨hs, hi, hz0⟩, by rw [ht9]; exact hP, hD⟩, hS.F ht9⟩) hS.2.2 d_MO_protect_39
set_option maxHeartbeats 8000000 in
set_option maxRecDepth 100000 in
theorem t_MO_seen (l : Launch) (dC : Nat → ClassId) (dI : Nat → Nat → Nat) (g0 : Nat) (ad : Nat → Nat) (kI kZ : ClassId) (sc : Nat → Int32) (ia : Nat → Nat → Int32) (sz Bd : Nat) (T : Int) (N : Nat) (hI : MI T N sc ia) (x : Int32) (y : Int32) : Met l y_MO_seen w_MO_seen ({ frames := 1, cells := 0, slots := 0, locals := 21 }) (frP (dC, dI) (MOW g0 ad kI kZ sc ia) (MOT kI kZ) sz Bd [.ref g0, .int x, .int y]) (tQ (dC, dI) (mW g0 ad kI kZ) (va_A (MOW g0 ad kI kZ sc ia) sz) vN (fun r u => same [0] sc u.1 ∧ same [16] ia u.2 ∧ MI T N u.1 u.2)) 0 0 (va_A (MOW g0 ad kI kZ sc ia) sz) := by
  refine Met.ofW (cc := c_MO_seen) (maxL := 3) (ret := none) (by decide) rfl ?_
  intro p e s m args below meth c s₁ B hml hv
  obtain ⟨rfl, ⟨hsz, hBs⟩, hP, hK, hD0, hV⟩ := hv
  have hx := B.exec
  have hb := B.bytes
  have hr := B.returns
  have ht : ∀ w ∈ tb_, w.before _ s = true := fun w h => atoms_spec (ws := w_MO_seen) B.pre w (List.mem_cons_of_mem _ h)
  have hown : s.vm.findClass R_MO = some m.cls := findClass_of_methodNamed B.named
  have hlocks := B.notSynchronized
  subst hsz
  have hD := hD0.self (sz := s.heap.size)
  have hAB : ∀ q, va_A (MOW g0 ad kI kZ sc ia) s.heap.size q → Bd ≤ q := fr_AB hD0 hBs
  generalize hAe : va_A (MOW g0 ad kI kZ sc ia) s.heap.size = A at hD hAB ⊢
  have hA : ∀ q : Nat, s.heap.size ≤ q → A q := fun q h => by rw [← hAe]; exact Or.inr h
  have hS : va_S A s.heap s.heap [] := va_S.rf
  have hs : same [0] sc sc := same.rf
  have hi : same [16] ia ia := same.rf
  have hP : va_P (dC, dI) cls_ (MOW g0 ad kI kZ sc ia) s.heap := hP
  have hl := lv_entry ([.ref g0, .int x, .int y]) (n := 3) (Nat.le_of_ble_eq_true rfl)
  rw [lg_entry_eq]
  generalize (lg_sl ([.ref g0, .int x, .int y]) ++ List.replicate (3 - (lg_sl ([.ref g0, .int x, .int y])).length) Slot.unset).toArray = ls at hl ⊢
  have hl : lv_has ls 3 [(0, .ref g0), (1, .int x), (2, .int y)] := hl
  have e4 := hI.e4
  have hN := hI.hN
  have hT := hI.T
  refine lv_aload_n hx hb d_MO_seen_0 rfl (lv_at hl 0 rfl) ?_
  refine lv_aload_n hx hb d_MO_seen_1 rfl (lv_at hl 0 rfl) ?_
  refine lv_iload_n hx hb d_MO_seen_2 rfl (lv_at hl 1 rfl) ?_
  refine r_call (va_runV (C := R_MO) (As := [.int x]) (rest := [.ref g0]) ⟨hx, hb, hml, hown, ht⟩ (t_MO_isRequest l dC dI g0 ad kI kZ sc ia N ((hs 4 (by decide)).trans e4) hN x) (cwV 1 ht (gV tb_740 tb_742 ts_24 tb_5 tb_743) rfl rfl rfl (by decide +kernel) ⟨Nat.le_of_ble_eq_true rfl, Nat.le_of_ble_eq_true rfl⟩) ⟨rdP_blind, va_recv (q := (R_MO, F_MO, 30)) hK hP rfl (show (MOW g0 ad kI kZ sc ia : va_W)[0]? = some _ from rfl), rd_pre hP hK⟩ rfl rfl hl.1 rfl (lv_room (Nat.le_of_ble_eq_true rfl)) d_MO_seen_3 ⟨Nat.le_of_ble_eq_true rfl, Nat.le_of_ble_eq_true rfl⟩) (fun r1 hu => ?_)
  have hu1_0 := hu
  have hu1_0 : ((∃ j, j < N ∧ x = nI j) ∧ r1 = 1 ∨ (∀ j, j < N → x ≠ nI j) ∧ r1 = 0) := hu1_0
  refine W.eq (g2 := F0 m 6 ls [.int r1, .ref g0]) rfl ?_
  rcases hu1_0 with ⟨⟨j, hj, rfl⟩, rfl⟩ | ⟨hno, rfl⟩
  · refine lv_if_ne (tgt := 13) hx hb d_MO_seen_6 (by decide) (fun _ => ?_) (fun h9 => absurd h9 (by decide))
    refine lv_aload_n hx hb d_MO_seen_13 rfl (lv_at hl 0 rfl) ?_
    refine lv_iload_n hx hb d_MO_seen_14 rfl (lv_at hl 1 rfl) ?_
    refine r_call (va_runV (C := R_MO) (As := [.int (nI j)]) (rest := [.ref g0]) ⟨hx, hb, hml, hown, ht⟩ (t_MO_isKept l dC dI g0 ad kI kZ sc ia j (show j < 40 by omega)) (cwV 1 ht (gV tb_882 tb_884 ts_46 tb_5 tb_885) rfl rfl rfl (by decide +kernel) ⟨Nat.le_of_ble_eq_true rfl, Nat.le_of_ble_eq_true rfl⟩) ⟨rdP_blind, va_recv (q := (R_MO, F_MO, 30)) hK hP rfl (show (MOW g0 ad kI kZ sc ia : va_W)[0]? = some _ from rfl), rd_pre hP hK⟩ rfl rfl hl.1 rfl (lv_room (Nat.le_of_ble_eq_true rfl)) d_MO_seen_15 ⟨Nat.le_of_ble_eq_true rfl, Nat.le_of_ble_eq_true rfl⟩) (fun r2 hu => ?_)
    clear hu
    refine W.eq (g2 := F0 m 18 ls [.int r2, .ref g0]) rfl ?_
    refine lv_if_eq (tgt := 25) hx hb d_MO_seen_18 (by decide) (fun h18_1 => ?_) (fun h18_1 => ?_)
    · have h18_1 := h18_1
      have i18_1 := ti_eq h18_1
      (try rw [l_0] at i18_1)
      refine lv_iconst (v := 2) hx hb d_MO_seen_25 (by decide) ?_
      refine t_call (u0 := (sc, ia)) (va_runV (C := R_MO) (As := [.int 2]) (rest := []) ⟨hx, hb, hml, hown, ht⟩ (t_MO_refused l dC dI g0 ad kI kZ sc ia s.heap.size Bd 2) (cwV 1 ht (gV tb_732 tb_734 ts_23 tb_5 tb_735) rfl rfl rfl (by decide +kernel) ⟨Nat.le_of_ble_eq_true rfl, Nat.le_of_ble_eq_true rfl⟩) ⟨frP_blind, va_recv (q := (R_MO, F_MO, 30)) hK hP rfl (show (MOW g0 ad kI kZ sc ia : va_W)[0]? = some _ from rfl), fr_pre hP hK hD hAB hBs hS hV⟩ rfl rfl hl.1 rfl (lv_room (Nat.le_of_ble_eq_true rfl)) d_MO_seen_26 ⟨Nat.le_of_ble_eq_true rfl, Nat.le_of_ble_eq_true rfl⟩) hD hS hA (fun r3 u H locs hu hP hD hS => ?_)
      obtain ⟨sc4, ia5⟩ := u
      obtain ⟨hu3_0, hu3_1, hu3_2, hu3_3⟩ := hu
      have hu3_0 : same [0] sc sc4 := hu3_0
      have hu3_1 : same [] ia ia5 := hu3_1
      have hu3_2 : sc4 0 = 2 := hu3_2
      have hu3_3 : ((0 : Int32) < 2 ∧ r3 = 1 ∨ ¬ (0 : Int32) < 2 ∧ r3 = 0) := hu3_3
      have hP : va_P (dC, dI) cls_ (MOW g0 ad kI kZ sc4 ia5) H := hP
      have hD : va_D A (MOW g0 ad kI kZ sc4 ia5) := hD
      have hs : same [0] sc sc4 := hs.tr (hu3_0.wk (by decide))
      have hi : same [16] ia ia5 := hi.tr (hu3_1.wk (by decide))
      refine W.eq (g2 := F0 m 29 ls [.int r3]) rfl ?_
      refine W.cs (cells' := 0) (slots' := 0) rfl rfl ?_
      obtain rfl : r3 = 1 := by rcases hu3_3 with ⟨_, q⟩ | ⟨q, _⟩; { exact q }; { exact absurd (by decide) q }
      refine lv_if_ne (tgt := 39) hx hb d_MO_seen_29 (by decide) (fun _ => ?_) (fun h9 => absurd h9 (by decide))
      have hz0 : MI T N sc4 ia5 := hI.same (hs.wk (by decide)) (hi.wk (by decide))
      exact W.vret hx hb hr (fun t ht9 hW => ⟨⟨(), (sc4, ia5), rfl, ⟨hs, hi, hz0⟩, by rw [ht9]; exact hP, hD⟩, hS.F ht9⟩) hS.2.2 d_MO_seen_39
    · have h18_1 := h18_1
      have i18_1 := ti_ne h18_1
      (try rw [l_0] at i18_1)
      refine lv_iconst (v := 0) hx hb d_MO_seen_21 (by decide) ?_
      refine lv_goto (tgt := 26) hx hb d_MO_seen_22 (by decide) ?_
      refine t_call (u0 := (sc, ia)) (va_runV (C := R_MO) (As := [.int 0]) (rest := []) ⟨hx, hb, hml, hown, ht⟩ (t_MO_refused l dC dI g0 ad kI kZ sc ia s.heap.size Bd 0) (cwV 1 ht (gV tb_732 tb_734 ts_23 tb_5 tb_735) rfl rfl rfl (by decide +kernel) ⟨Nat.le_of_ble_eq_true rfl, Nat.le_of_ble_eq_true rfl⟩) ⟨frP_blind, va_recv (q := (R_MO, F_MO, 30)) hK hP rfl (show (MOW g0 ad kI kZ sc ia : va_W)[0]? = some _ from rfl), fr_pre hP hK hD hAB hBs hS hV⟩ rfl rfl hl.1 rfl (lv_room (Nat.le_of_ble_eq_true rfl)) d_MO_seen_26 ⟨Nat.le_of_ble_eq_true rfl, Nat.le_of_ble_eq_true rfl⟩) hD hS hA (fun r6 u H locs hu hP hD hS => ?_)
      obtain ⟨sc7, ia8⟩ := u
      obtain ⟨hu6_0, hu6_1, hu6_2, hu6_3⟩ := hu
      have hu6_0 : same [0] sc sc7 := hu6_0
      have hu6_1 : same [] ia ia8 := hu6_1
      have hu6_2 : sc7 0 = 0 := hu6_2
      have hu6_3 : ((0 : Int32) < 0 ∧ r6 = 1 ∨ ¬ (0 : Int32) < 0 ∧ r6 = 0) := hu6_3
      have hP : va_P (dC, dI) cls_ (MOW g0 ad kI kZ sc7 ia8) H := hP
      have hD : va_D A (MOW g0 ad kI kZ sc7 ia8) := hD
      have hs : same [0] sc sc7 := hs.tr (hu6_0.wk (by decide))
      have hi : same [16] ia ia8 := hi.tr (hu6_1.wk (by decide))
      refine W.eq (g2 := F0 m 29 ls [.int r6]) rfl ?_
      refine W.cs (cells' := 0) (slots' := 0) rfl rfl ?_
      obtain rfl : r6 = 0 := by rcases hu6_3 with ⟨q, _⟩ | ⟨_, q⟩; { exact absurd q (by decide) }; { exact q }
      refine lv_if_ne (tgt := 39) hx hb d_MO_seen_29 (by decide) (fun h9 => absurd (by decide) h9) (fun _ => ?_)
      refine lv_aload_n hx hb d_MO_seen_32 rfl (lv_at hl 0 rfl) ?_
      refine va_get (D := (dC, dI)) (ci := 5) (v := .ref (ad 16)) (C := R_MO) (T := F_MO) (N := 30) hx hb ht in_MO hown hK hP 0 rfl rfl 16 (by decide) (ht _ tb_647) (fun _ h9 => h9) rfl d_MO_seen_33 ?_
      refine lv_iload_n hx hb d_MO_seen_36 rfl (lv_at hl 1 rfl) ?_
      refine lv_iload_n hx hb d_MO_seen_37 rfl (lv_at hl 2 rfl) ?_
      refine va_zast hx hb hK hP hD hS 13 1 rfl rfl (vp_in_nI (show j < 40 by omega) (by decide)) d_MO_seen_38 (fun H locs hP hD hS => ?_)
      rw [nI_clamp (show j < 2 ^ 31 by omega)] at hP hD
      have hP : va_P (dC, dI) cls_ (MOW g0 ad kI kZ sc7 (va_up ia8 16 (upd (ia8 16) j (vp_nar .boolean y)))) H := hP
      have hD : va_D A (MOW g0 ad kI kZ sc7 (va_up ia8 16 (upd (ia8 16) j (vp_nar .boolean y)))) := hD
      obtain ⟨ia9, eia9⟩ : ∃ q9_, q9_ = va_up ia8 16 (upd (ia8 16) j (vp_nar .boolean y)) := ⟨_, rfl⟩
      rw [← eia9] at hP hD
      have hi : same [16] ia ia9 := by rw [eia9]; exact hi.up (by decide)
      have hz0 : MI T N sc7 ia9 := hI.same (hs.wk (by decide)) (hi.wk (by decide))
      exact W.vret hx hb hr (fun t ht9 hW => ⟨⟨(), (sc7, ia9), rfl, ⟨hs, hi, hz0⟩, by rw [ht9]; exact hP, hD⟩, hS.F ht9⟩) hS.2.2 d_MO_seen_39
  · refine lv_if_ne (tgt := 13) hx hb d_MO_seen_6 (by decide) (fun h9 => absurd (by decide) h9) (fun _ => ?_)
    refine lv_iconst (v := 1) hx hb d_MO_seen_9 (by decide) ?_
    refine lv_goto (tgt := 26) hx hb d_MO_seen_10 (by decide) ?_
    refine t_call (u0 := (sc, ia)) (va_runV (C := R_MO) (As := [.int 1]) (rest := []) ⟨hx, hb, hml, hown, ht⟩ (t_MO_refused l dC dI g0 ad kI kZ sc ia s.heap.size Bd 1) (cwV 1 ht (gV tb_732 tb_734 ts_23 tb_5 tb_735) rfl rfl rfl (by decide +kernel) ⟨Nat.le_of_ble_eq_true rfl, Nat.le_of_ble_eq_true rfl⟩) ⟨frP_blind, va_recv (q := (R_MO, F_MO, 30)) hK hP rfl (show (MOW g0 ad kI kZ sc ia : va_W)[0]? = some _ from rfl), fr_pre hP hK hD hAB hBs hS hV⟩ rfl rfl hl.1 rfl (lv_room (Nat.le_of_ble_eq_true rfl)) d_MO_seen_26 ⟨Nat.le_of_ble_eq_true rfl, Nat.le_of_ble_eq_true rfl⟩) hD hS hA (fun r10 u H locs hu hP hD hS => ?_)
    obtain ⟨sc11, ia12⟩ := u
    obtain ⟨hu10_0, hu10_1, hu10_2, hu10_3⟩ := hu
    have hu10_0 : same [0] sc sc11 := hu10_0
    have hu10_1 : same [] ia ia12 := hu10_1
    have hu10_2 : sc11 0 = 1 := hu10_2
    have hu10_3 : ((0 : Int32) < 1 ∧ r10 = 1 ∨ ¬ (0 : Int32) < 1 ∧ r10 = 0) := hu10_3
    have hP : va_P (dC, dI) cls_ (MOW g0 ad kI kZ sc11 ia12) H := hP
    have hD : va_D A (MOW g0 ad kI kZ sc11 ia12) := hD
    have hs : same [0] sc sc11 := hs.tr (hu10_0.wk (by decide))
    have hi : same [16] ia ia12 := hi.tr (hu10_1.wk (by decide))
    refine W.eq (g2 := F0 m 29 ls [.int r10]) rfl ?_
    refine W.cs (cells' := 0) (slots' := 0) rfl rfl ?_
    obtain rfl : r10 = 1 := by rcases hu10_3 with ⟨_, q⟩ | ⟨q, _⟩; { exact q }; { exact absurd (by decide) q }
    refine lv_if_ne (tgt := 39) hx hb d_MO_seen_29 (by decide) (fun _ => ?_) (fun h9 => absurd h9 (by decide))
    have hz0 : MI T N sc11 ia12 := hI.same (hs.wk (by decide)) (hi.wk (by decide))
    exact W.vret hx hb hr (fun t ht9 hW => ⟨⟨(), (sc11, ia12), rfl, ⟨hs, hi, hz0⟩, by rw [ht9]; exact hP, hD⟩, hS.F ht9⟩) hS.2.2 d_MO_seen_39
set_option maxHeartbeats 8000000 in
set_option maxRecDepth 100000 in
theorem t_MO_erase (l : Launch) (dC : Nat → ClassId) (dI : Nat → Nat → Nat) (g0 : Nat) (ad : Nat → Nat) (kI kZ : ClassId) (sc : Nat → Int32) (ia : Nat → Nat → Int32) (sz Bd : Nat) (T : Int) (N : Nat) (hI : MI T N sc ia) (x : Int32) : Met l y_MO_erase w_MO_erase ({ frames := 2, cells := 0, slots := 0, locals := 46 }) (frP (dC, dI) (MOW g0 ad kI kZ sc ia) (MOT kI kZ) sz Bd [.ref g0, .int x]) (tQ (dC, dI) (mW g0 ad kI kZ) (va_A (MOW g0 ad kI kZ sc ia) sz) vI (fun r u => same [0] sc u.1 ∧ same [11, 15, 16, 17, 19, 20] ia u.2 ∧ MI T N u.1 u.2)) 0 0 (va_A (MOW g0 ad kI kZ sc ia) sz) := by
  refine Met.ofW (cc := c_MO_erase) (maxL := 2) (ret := (some .int)) (by decide) rfl ?_
  intro p e s m args below meth c s₁ B hml hv
  obtain ⟨rfl, ⟨hsz, hBs⟩, hP, hK, hD0, hV⟩ := hv
  have hx := B.exec
  have hb := B.bytes
  have hr := B.returns
  have ht : ∀ w ∈ tb_, w.before _ s = true := fun w h => atoms_spec (ws := w_MO_erase) B.pre w (List.mem_cons_of_mem _ h)
  have hown : s.vm.findClass R_MO = some m.cls := findClass_of_methodNamed B.named
  have hlocks := B.notSynchronized
  subst hsz
  have hD := hD0.self (sz := s.heap.size)
  have hAB : ∀ q, va_A (MOW g0 ad kI kZ sc ia) s.heap.size q → Bd ≤ q := fr_AB hD0 hBs
  generalize hAe : va_A (MOW g0 ad kI kZ sc ia) s.heap.size = A at hD hAB ⊢
  have hA : ∀ q : Nat, s.heap.size ≤ q → A q := fun q h => by rw [← hAe]; exact Or.inr h
  have hS : va_S A s.heap s.heap [] := va_S.rf
  have hs : same [0] sc sc := same.rf
  have hi : same [11, 15, 16, 17, 19, 20] ia ia := same.rf
  have hP : va_P (dC, dI) cls_ (MOW g0 ad kI kZ sc ia) s.heap := hP
  have hl := lv_entry ([.ref g0, .int x]) (n := 2) (Nat.le_of_ble_eq_true rfl)
  rw [lg_entry_eq]
  generalize (lg_sl ([.ref g0, .int x]) ++ List.replicate (2 - (lg_sl ([.ref g0, .int x])).length) Slot.unset).toArray = ls at hl ⊢
  have hl : lv_has ls 2 [(0, .ref g0), (1, .int x)] := hl
  have e4 := hI.e4
  have hN := hI.hN
  have hT := hI.T
  refine lv_aload_n hx hb d_MO_erase_0 rfl (lv_at hl 0 rfl) ?_
  refine lv_aload_n hx hb d_MO_erase_1 rfl (lv_at hl 0 rfl) ?_
  refine lv_iload_n hx hb d_MO_erase_2 rfl (lv_at hl 1 rfl) ?_
  refine r_call (va_runV (C := R_MO) (As := [.int x]) (rest := [.ref g0]) ⟨hx, hb, hml, hown, ht⟩ (t_MO_isRequest l dC dI g0 ad kI kZ sc ia N ((hs 4 (by decide)).trans e4) hN x) (cwV 1 ht (gV tb_740 tb_742 ts_24 tb_5 tb_743) rfl rfl rfl (by decide +kernel) ⟨Nat.le_of_ble_eq_true rfl, Nat.le_of_ble_eq_true rfl⟩) ⟨rdP_blind, va_recv (q := (R_MO, F_MO, 30)) hK hP rfl (show (MOW g0 ad kI kZ sc ia : va_W)[0]? = some _ from rfl), rd_pre hP hK⟩ rfl rfl hl.1 rfl (lv_room (Nat.le_of_ble_eq_true rfl)) d_MO_erase_3 ⟨Nat.le_of_ble_eq_true rfl, Nat.le_of_ble_eq_true rfl⟩) (fun r1 hu => ?_)
  have hu1_0 := hu
  have hu1_0 : ((∃ j, j < N ∧ x = nI j) ∧ r1 = 1 ∨ (∀ j, j < N → x ≠ nI j) ∧ r1 = 0) := hu1_0
  refine W.eq (g2 := F0 m 6 ls [.int r1, .ref g0]) rfl ?_
  rcases hu1_0 with ⟨⟨j, hj, rfl⟩, rfl⟩ | ⟨hno, rfl⟩
  · refine lv_if_ne (tgt := 13) hx hb d_MO_erase_6 (by decide) (fun _ => ?_) (fun h9 => absurd h9 (by decide))
    refine lv_aload_n hx hb d_MO_erase_13 rfl (lv_at hl 0 rfl) ?_
    refine va_get (D := (dC, dI)) (ci := 5) (v := .ref (ad 11)) (C := R_MO) (T := F_MO) (N := 30) hx hb ht in_MO hown hK hP 0 rfl rfl 11 (by decide) (ht _ tb_642) (fun _ h9 => h9) rfl d_MO_erase_14 ?_
    refine lv_iload_n hx hb d_MO_erase_17 rfl (lv_at hl 1 rfl) ?_
    refine va_iald hx hb hK hP 8 0 rfl rfl (vp_in_nI (show j < 40 by omega) (by decide)) d_MO_erase_18 ?_
    refine W.eq (g2 := F0 m 19 ls [.int (ia 11 j), .ref g0]) (by rw [nI_clamp (show j < 2 ^ 31 by omega)]) ?_
    refine lv_iconst (v := 2) hx hb d_MO_erase_19 (by decide) ?_
    refine lv_icmp_eq (tgt := 27) hx hb d_MO_erase_20 (by decide) (fun h20_1 => ?_) (fun h20_1 => ?_)
    · have h20_1 := h20_1
      have i20_1 := ti_eq h20_1
      (try rw [l_2] at i20_1)
      refine lv_iconst (v := 0) hx hb d_MO_erase_27 (by decide) ?_
      refine t_call (u0 := (sc, ia)) (va_runV (C := R_MO) (As := [.int 0]) (rest := []) ⟨hx, hb, hml, hown, ht⟩ (t_MO_refused l dC dI g0 ad kI kZ sc ia s.heap.size Bd 0) (cwV 1 ht (gV tb_732 tb_734 ts_23 tb_5 tb_735) rfl rfl rfl (by decide +kernel) ⟨Nat.le_of_ble_eq_true rfl, Nat.le_of_ble_eq_true rfl⟩) ⟨frP_blind, va_recv (q := (R_MO, F_MO, 30)) hK hP rfl (show (MOW g0 ad kI kZ sc ia : va_W)[0]? = some _ from rfl), fr_pre hP hK hD hAB hBs hS hV⟩ rfl rfl hl.1 rfl (lv_room (Nat.le_of_ble_eq_true rfl)) d_MO_erase_28 ⟨Nat.le_of_ble_eq_true rfl, Nat.le_of_ble_eq_true rfl⟩) hD hS hA (fun r2 u H locs hu hP hD hS => ?_)
      obtain ⟨sc3, ia4⟩ := u
      obtain ⟨hu2_0, hu2_1, hu2_2, hu2_3⟩ := hu
      have hu2_0 : same [0] sc sc3 := hu2_0
      have hu2_1 : same [] ia ia4 := hu2_1
      have hu2_2 : sc3 0 = 0 := hu2_2
      have hu2_3 : ((0 : Int32) < 0 ∧ r2 = 1 ∨ ¬ (0 : Int32) < 0 ∧ r2 = 0) := hu2_3
      have hP : va_P (dC, dI) cls_ (MOW g0 ad kI kZ sc3 ia4) H := hP
      have hD : va_D A (MOW g0 ad kI kZ sc3 ia4) := hD
      have hs : same [0] sc sc3 := hs.tr (hu2_0.wk (by decide))
      have hi : same [11, 15, 16, 17, 19, 20] ia ia4 := hi.tr (hu2_1.wk (by decide))
      refine W.eq (g2 := F0 m 31 ls [.int r2]) rfl ?_
      refine W.cs (cells' := 0) (slots' := 0) rfl rfl ?_
      obtain rfl : r2 = 0 := by rcases hu2_3 with ⟨q, _⟩ | ⟨_, q⟩; { exact absurd q (by decide) }; { exact q }
      refine lv_if_eq (tgt := 38) hx hb d_MO_erase_31 (by decide) (fun _ => ?_) (fun h9 => absurd (by decide) h9)
      refine lv_aload_n hx hb d_MO_erase_38 rfl (lv_at hl 0 rfl) ?_
      refine lv_iload_n hx hb d_MO_erase_39 rfl (lv_at hl 1 rfl) ?_
      refine t_call (u0 := (sc3, ia4)) (va_runV (C := R_MO) (As := [.int (nI j)]) (rest := []) ⟨hx, hb, hml, hown, ht⟩ (t_MO_eraseOne l dC dI g0 ad kI kZ sc3 ia4 H.size Bd j (show j < 40 by omega) (((congrFun (hu2_1 11 (by decide)) j)).trans h20_1)) (cwV 1 ht (gV tb_836 tb_838 ts_43 tb_5 tb_839) rfl rfl rfl (by decide +kernel) ⟨Nat.le_of_ble_eq_true rfl, Nat.le_of_ble_eq_true rfl⟩) ⟨frP_blind, va_recv (q := (R_MO, F_MO, 30)) hK hP rfl (show (MOW g0 ad kI kZ sc3 ia4 : va_W)[0]? = some _ from rfl), fr_pre hP hK hD hAB hBs hS hV⟩ rfl rfl hl.1 rfl (lv_room (Nat.le_of_ble_eq_true rfl)) d_MO_erase_40 ⟨Nat.le_of_ble_eq_true rfl, Nat.le_of_ble_eq_true rfl⟩) hD hS hA (fun r5 u H locs hu hP hD hS => ?_)
      obtain ⟨sc6, ia7⟩ := u
      obtain ⟨hu5_0, hu5_1, hu5_2⟩ := hu
      have hu5_0 : same [] sc3 sc6 := hu5_0
      have hu5_1 : same [11, 15, 16, 17, 19, 20] ia4 ia7 := hu5_1
      have hu5_2 : stE (ia4 11) (ia7 11) := hu5_2
      have hP : va_P (dC, dI) cls_ (MOW g0 ad kI kZ sc6 ia7) H := hP
      have hD : va_D A (MOW g0 ad kI kZ sc6 ia7) := hD
      have hs : same [0] sc sc6 := hs.tr (hu5_0.wk (by decide))
      have hi : same [11, 15, 16, 17, 19, 20] ia ia7 := hi.tr (hu5_1.wk (by decide))
      refine W.eq (g2 := F0 m 43 ls [.int r5]) rfl ?_
      refine W.cs (cells' := 0) (slots' := 0) rfl rfl ?_
      have hz0 : MI T N sc6 ia7 := MI_er hI (hs.wk (by decide)) (hi.wk (by decide)) (by rw [show ia 11 = ia4 11 from ((hu2_1 11 (by decide)).symm)]; exact hu5_2)
      exact W.iret (v := r5) hx hb hr (fun t ht9 hW => ⟨⟨r5, (sc6, ia7), rfl, ⟨hs, hi, hz0⟩, by rw [ht9]; exact hP, hD⟩, hS.F ht9⟩) hS.2.2 d_MO_erase_43
    · have h20_1 := h20_1
      have i20_1 := ti_ne h20_1
      (try rw [l_2] at i20_1)
      refine lv_iconst (v := 2) hx hb d_MO_erase_23 (by decide) ?_
      refine lv_goto (tgt := 28) hx hb d_MO_erase_24 (by decide) ?_
      refine t_call (u0 := (sc, ia)) (va_runV (C := R_MO) (As := [.int 2]) (rest := []) ⟨hx, hb, hml, hown, ht⟩ (t_MO_refused l dC dI g0 ad kI kZ sc ia s.heap.size Bd 2) (cwV 1 ht (gV tb_732 tb_734 ts_23 tb_5 tb_735) rfl rfl rfl (by decide +kernel) ⟨Nat.le_of_ble_eq_true rfl, Nat.le_of_ble_eq_true rfl⟩) ⟨frP_blind, va_recv (q := (R_MO, F_MO, 30)) hK hP rfl (show (MOW g0 ad kI kZ sc ia : va_W)[0]? = some _ from rfl), fr_pre hP hK hD hAB hBs hS hV⟩ rfl rfl hl.1 rfl (lv_room (Nat.le_of_ble_eq_true rfl)) d_MO_erase_28 ⟨Nat.le_of_ble_eq_true rfl, Nat.le_of_ble_eq_true rfl⟩) hD hS hA (fun r8 u H locs hu hP hD hS => ?_)
      obtain ⟨sc9, ia10⟩ := u
      obtain ⟨hu8_0, hu8_1, hu8_2, hu8_3⟩ := hu
      have hu8_0 : same [0] sc sc9 := hu8_0
      have hu8_1 : same [] ia ia10 := hu8_1
      have hu8_2 : sc9 0 = 2 := hu8_2
      have hu8_3 : ((0 : Int32) < 2 ∧ r8 = 1 ∨ ¬ (0 : Int32) < 2 ∧ r8 = 0) := hu8_3
      have hP : va_P (dC, dI) cls_ (MOW g0 ad kI kZ sc9 ia10) H := hP
      have hD : va_D A (MOW g0 ad kI kZ sc9 ia10) := hD
      have hs : same [0] sc sc9 := hs.tr (hu8_0.wk (by decide))
      have hi : same [11, 15, 16, 17, 19, 20] ia ia10 := hi.tr (hu8_1.wk (by decide))
      refine W.eq (g2 := F0 m 31 ls [.int r8]) rfl ?_
      refine W.cs (cells' := 0) (slots' := 0) rfl rfl ?_
      obtain rfl : r8 = 1 := by rcases hu8_3 with ⟨_, q⟩ | ⟨q, _⟩; { exact q }; { exact absurd (by decide) q }
      refine lv_if_eq (tgt := 38) hx hb d_MO_erase_31 (by decide) (fun h9 => absurd h9 (by decide)) (fun _ => ?_)
      refine lv_iconst (v := 0) hx hb d_MO_erase_34 (by decide) ?_
      refine lv_goto (tgt := 43) hx hb d_MO_erase_35 (by decide) ?_
      have hz0 : MI T N sc9 ia10 := hI.same (hs.wk (by decide)) ((same.rf).tr (hu8_1.wk (by decide)))
      exact W.iret (v := 0) hx hb hr (fun t ht9 hW => ⟨⟨0, (sc9, ia10), rfl, ⟨hs, hi, hz0⟩, by rw [ht9]; exact hP, hD⟩, hS.F ht9⟩) hS.2.2 d_MO_erase_43
  · refine lv_if_ne (tgt := 13) hx hb d_MO_erase_6 (by decide) (fun h9 => absurd (by decide) h9) (fun _ => ?_)
    refine lv_iconst (v := 1) hx hb d_MO_erase_9 (by decide) ?_
    refine lv_goto (tgt := 28) hx hb d_MO_erase_10 (by decide) ?_
    refine t_call (u0 := (sc, ia)) (va_runV (C := R_MO) (As := [.int 1]) (rest := []) ⟨hx, hb, hml, hown, ht⟩ (t_MO_refused l dC dI g0 ad kI kZ sc ia s.heap.size Bd 1) (cwV 1 ht (gV tb_732 tb_734 ts_23 tb_5 tb_735) rfl rfl rfl (by decide +kernel) ⟨Nat.le_of_ble_eq_true rfl, Nat.le_of_ble_eq_true rfl⟩) ⟨frP_blind, va_recv (q := (R_MO, F_MO, 30)) hK hP rfl (show (MOW g0 ad kI kZ sc ia : va_W)[0]? = some _ from rfl), fr_pre hP hK hD hAB hBs hS hV⟩ rfl rfl hl.1 rfl (lv_room (Nat.le_of_ble_eq_true rfl)) d_MO_erase_28 ⟨Nat.le_of_ble_eq_true rfl, Nat.le_of_ble_eq_true rfl⟩) hD hS hA (fun r11 u H locs hu hP hD hS => ?_)
    obtain ⟨sc12, ia13⟩ := u
    obtain ⟨hu11_0, hu11_1, hu11_2, hu11_3⟩ := hu
    have hu11_0 : same [0] sc sc12 := hu11_0
    have hu11_1 : same [] ia ia13 := hu11_1
    have hu11_2 : sc12 0 = 1 := hu11_2
    have hu11_3 : ((0 : Int32) < 1 ∧ r11 = 1 ∨ ¬ (0 : Int32) < 1 ∧ r11 = 0) := hu11_3
    have hP : va_P (dC, dI) cls_ (MOW g0 ad kI kZ sc12 ia13) H := hP
    have hD : va_D A (MOW g0 ad kI kZ sc12 ia13) := hD
    have hs : same [0] sc sc12 := hs.tr (hu11_0.wk (by decide))
    have hi : same [11, 15, 16, 17, 19, 20] ia ia13 := hi.tr (hu11_1.wk (by decide))
    refine W.eq (g2 := F0 m 31 ls [.int r11]) rfl ?_
    refine W.cs (cells' := 0) (slots' := 0) rfl rfl ?_
    obtain rfl : r11 = 1 := by rcases hu11_3 with ⟨_, q⟩ | ⟨q, _⟩; { exact q }; { exact absurd (by decide) q }
    refine lv_if_eq (tgt := 38) hx hb d_MO_erase_31 (by decide) (fun h9 => absurd h9 (by decide)) (fun _ => ?_)
    refine lv_iconst (v := 0) hx hb d_MO_erase_34 (by decide) ?_
    refine lv_goto (tgt := 43) hx hb d_MO_erase_35 (by decide) ?_
    have hz0 : MI T N sc12 ia13 := hI.same (hs.wk (by decide)) ((same.rf).tr (hu11_1.wk (by decide)))
    exact W.iret (v := 0) hx hb hr (fun t ht9 hW => ⟨⟨0, (sc12, ia13), rfl, ⟨hs, hi, hz0⟩, by rw [ht9]; exact hP, hD⟩, hS.F ht9⟩) hS.2.2 d_MO_erase_43
set_option maxHeartbeats 8000000 in
set_option maxRecDepth 100000 in
theorem t_MO_free (l : Launch) (dC : Nat → ClassId) (dI : Nat → Nat → Nat) (g0 : Nat) (ad : Nat → Nat) (kI kZ : ClassId) (sc : Nat → Int32) (ia : Nat → Nat → Int32) (sz Bd : Nat) (T : Int) (N : Nat) (hI : MI T N sc ia) : Met l y_MO_free w_MO_free ({ frames := 2, cells := 0, slots := 0, locals := 45 }) (frP (dC, dI) (MOW g0 ad kI kZ sc ia) (MOT kI kZ) sz Bd [.ref g0]) (tQ (dC, dI) (mW g0 ad kI kZ) (va_A (MOW g0 ad kI kZ sc ia) sz) vI (fun r u => same [0] sc u.1 ∧ same [] ia u.2 ∧ MI T N u.1 u.2)) 0 0 (va_A (MOW g0 ad kI kZ sc ia) sz) := by
  refine Met.ofW (cc := c_MO_free) (maxL := 1) (ret := (some .int)) (by decide) rfl ?_
  intro p e s m args below meth c s₁ B hml hv
  obtain ⟨rfl, ⟨hsz, hBs⟩, hP, hK, hD0, hV⟩ := hv
  have hx := B.exec
  have hb := B.bytes
  have hr := B.returns
  have ht : ∀ w ∈ tb_, w.before _ s = true := fun w h => atoms_spec (ws := w_MO_free) B.pre w (List.mem_cons_of_mem _ h)
  have hown : s.vm.findClass R_MO = some m.cls := findClass_of_methodNamed B.named
  have hlocks := B.notSynchronized
  subst hsz
  have hD := hD0.self (sz := s.heap.size)
  have hAB : ∀ q, va_A (MOW g0 ad kI kZ sc ia) s.heap.size q → Bd ≤ q := fr_AB hD0 hBs
  generalize hAe : va_A (MOW g0 ad kI kZ sc ia) s.heap.size = A at hD hAB ⊢
  have hA : ∀ q : Nat, s.heap.size ≤ q → A q := fun q h => by rw [← hAe]; exact Or.inr h
  have hS : va_S A s.heap s.heap [] := va_S.rf
  have hs : same [0] sc sc := same.rf
  have hi : same [] ia ia := same.rf
  have hP : va_P (dC, dI) cls_ (MOW g0 ad kI kZ sc ia) s.heap := hP
  have hl := lv_entry ([.ref g0]) (n := 1) (Nat.le_of_ble_eq_true rfl)
  rw [lg_entry_eq]
  generalize (lg_sl ([.ref g0]) ++ List.replicate (1 - (lg_sl ([.ref g0])).length) Slot.unset).toArray = ls at hl ⊢
  have hl : lv_has ls 1 [(0, .ref g0)] := hl
  have e4 := hI.e4
  have hN := hI.hN
  have hT := hI.T
  refine lv_aload_n hx hb d_MO_free_0 rfl (lv_at hl 0 rfl) ?_
  refine lv_iconst (v := 0) hx hb d_MO_free_1 (by decide) ?_
  refine va_put (D := (dC, dI)) (ci := 5) (v := .int 0) (ty := .int) (C := R_MO) (T := F_MO) (N := 30) hx hb ht in_MO t_MO t_MO_ok n_MO hown hK hP hD hS 0 rfl rfl 0 (by decide) (ht _ tb_631) (fun _ h9 => h9) rfl (by decide +kernel) rfl rfl (Nat.le_of_ble_eq_true rfl) d_MO_free_2 (fun H locs hP hD hS => ?_)
  have hP : va_P (dC, dI) cls_ (MOW g0 ad kI kZ (va_up sc 0 0) ia) H := hP
  have hD : va_D A (MOW g0 ad kI kZ (va_up sc 0 0) ia) := hD
  obtain ⟨sc1, esc1⟩ : ∃ q9_, q9_ = va_up sc 0 0 := ⟨_, rfl⟩
  rw [← esc1] at hP hD
  have hs : same [0] sc sc1 := by rw [esc1]; exact hs.up (by decide)
  refine lv_aload_n hx hb d_MO_free_5 rfl (lv_at hl 0 rfl) ?_
  refine r_call (va_runV (C := R_MO) (As := []) (rest := []) ⟨hx, hb, hml, hown, ht⟩ (t_MO_freeSegments l dC dI g0 ad kI kZ sc1 ia N ((hs 4 (by decide)).trans e4) hN) (cwV 0 ht (gV tb_820 tb_822 ts_39 tb_5 tb_823) rfl rfl rfl (by decide +kernel) ⟨Nat.le_of_ble_eq_true rfl, Nat.le_of_ble_eq_true rfl⟩) ⟨rdP_blind, va_recv (q := (R_MO, F_MO, 30)) hK hP rfl (show (MOW g0 ad kI kZ sc1 ia : va_W)[0]? = some _ from rfl), rd_pre hP hK⟩ rfl rfl hl.1 rfl (lv_room (Nat.le_of_ble_eq_true rfl)) d_MO_free_6 ⟨Nat.le_of_ble_eq_true rfl, Nat.le_of_ble_eq_true rfl⟩) (fun r2 hu => ?_)
  clear hu
  refine W.eq (g2 := F0 m 9 ls [.int r2]) rfl ?_
  have hz0 : MI T N sc1 ia := hI.same (hs.wk (by decide)) (hi.wk (by decide))
  exact W.iret (v := r2) hx hb hr (fun t ht9 hW => ⟨⟨r2, (sc1, ia), rfl, ⟨hs, hi, hz0⟩, by rw [ht9]; exact hP, hD⟩, hS.F ht9⟩) hS.2.2 d_MO_free_9
set_option maxHeartbeats 8000000 in
set_option maxRecDepth 100000 in
theorem t_MO_marksOf (l : Launch) (dC : Nat → ClassId) (dI : Nat → Nat → Nat) (g0 : Nat) (ad : Nat → Nat) (kI kZ : ClassId) (sc : Nat → Int32) (ia : Nat → Nat → Int32) (j : Nat) (hj : j < 40) : Met l y_MO_marksOf w_MO_marksOf ({ frames := 0, cells := 0, slots := 0, locals := 0 }) (rdP (dC, dI) (MOW g0 ad kI kZ sc ia) (MOT kI kZ) [.ref g0, .int (nI j)]) (rQ vI (fun r => True)) 0 0 (fun _ => False) := by
  refine Met.ofW (cc := c_MO_marksOf) (maxL := 4) (ret := (some .int)) (by decide) rfl ?_
  intro p e s m args below meth c s₁ B hml hv
  obtain ⟨rfl, hP, hK⟩ := hv
  have hx := B.exec
  have hb := B.bytes
  have hr := B.returns
  have ht : ∀ w ∈ tb_, w.before _ s = true := fun w h => atoms_spec (ws := w_MO_marksOf) B.pre w (List.mem_cons_of_mem _ h)
  have hown : s.vm.findClass R_MO = some m.cls := findClass_of_methodNamed B.named
  have hlocks := B.notSynchronized
  have hP : va_P (dC, dI) cls_ (MOW g0 ad kI kZ sc ia) s.heap := hP
  have hl := lv_entry ([.ref g0, .int (nI j)]) (n := 4) (Nat.le_of_ble_eq_true rfl)
  rw [lg_entry_eq]
  generalize (lg_sl ([.ref g0, .int (nI j)]) ++ List.replicate (4 - (lg_sl ([.ref g0, .int (nI j)])).length) Slot.unset).toArray = ls at hl ⊢
  have hl : lv_has ls 4 [(0, .ref g0), (1, .int (nI j))] := hl
  refine lv_iconst (v := 0) hx hb d_MO_marksOf_0 (by decide) ?_
  refine lv_istore_n hx hb d_MO_marksOf_1 rfl hl (by decide) rfl (fun ls hl => ?_)
  have hl : lv_has ls 4 [(2, .int 0), (0, .ref g0), (1, .int (nI j))] := hl
  refine lv_iconst (v := 0) hx hb d_MO_marksOf_2 (by decide) ?_
  refine lv_istore_n hx hb d_MO_marksOf_3 rfl hl (by decide) rfl (fun ls hl => ?_)
  have hl : lv_has ls 4 [(3, .int 0), (2, .int 0), (0, .ref g0), (1, .int (nI j))] := hl
  have J_4 : ∀ (n_4 : Nat) (k : Nat) (q : Int32)  (ls : Array Slot), 100 - k < n_4 → k ≤ 100 → lv_has ls 4 [(3, .int (nI k)), (2, .int q), (1, .int (nI j)), (0, .ref g0)] → W p l e (headSpec w_MO_marksOf ({ frames := 0, cells := 0, slots := 0, locals := 0 })).room s m (([.ref g0, .int (nI j)] : List Value).toArray) below meth c s.heap [] 0 0 (MQ below (rQ vI (fun r => True)) (([.ref g0, .int (nI j)] : List Value).toArray) s 0 0 (fun _ => False)) (F0 m 4 ls []) := by
    intro n_4
    induction n_4 with
    | zero => intro k q ls hmu hc4_0 hl; exact absurd hmu (by omega)
    | succ n_4 ih_4 =>
      intro k q ls hmu hc4_0 hl
      refine lv_iload_n hx hb d_MO_marksOf_4 rfl (lv_at hl 0 rfl) ?_
      refine lv_bipush (v := 100) hx hb d_MO_marksOf_5 (by decide) ?_
      refine lv_icmp_ge (tgt := 38) hx hb d_MO_marksOf_7 (by decide) (fun h7_1 => ?_) (fun h7_1 => ?_)
      · have h7_1 := h7_1
        have i7_1 := ti_le h7_1
        (try rw [nI_toInt (show k < 2 ^ 31 by omega)] at i7_1)
        (try rw [l_100] at i7_1)
        refine lv_iload_n hx hb d_MO_marksOf_38 rfl (lv_at hl 1 rfl) ?_
        exact W.iret (v := q) hx hb hr (fun t ht9 hW => ⟨q, rfl, trivial, ht9⟩) (fun q h => by cases h) d_MO_marksOf_39
      · have h7_1 := h7_1
        have i7_1 := ti_nle h7_1
        (try rw [nI_toInt (show k < 2 ^ 31 by omega)] at i7_1)
        (try rw [l_100] at i7_1)
        refine lv_aload_n hx hb d_MO_marksOf_10 rfl (lv_at hl 3 rfl) ?_
        refine va_get (D := (dC, dI)) (ci := 5) (v := .ref (ad 19)) (C := R_MO) (T := F_MO) (N := 30) hx hb ht in_MO hown hK hP 0 rfl rfl 19 (by decide) (ht _ tb_650) (fun _ h9 => h9) rfl d_MO_marksOf_11 ?_
        refine lv_bipush (v := 100) hx hb d_MO_marksOf_14 (by decide) ?_
        refine lv_iload_n hx hb d_MO_marksOf_16 rfl (lv_at hl 2 rfl) ?_
        refine lv_imul hx hb d_MO_marksOf_17 ?_
        refine lv_topi (fun v1 ev1 => ?_)
        obtain rfl : v1 = nI (100 * j) := ev1.trans (by rw [show (100 : Int32) = nI 100 from rfl, pk_mul])
        refine lv_iload_n hx hb d_MO_marksOf_18 rfl (lv_at hl 0 rfl) ?_
        refine lv_iadd hx hb d_MO_marksOf_19 ?_
        refine lv_topi (fun v2 ev2 => ?_)
        obtain rfl : v2 = nI ((100 * j) + k) := ev2.trans (by rw [nI_add])
        refine va_zald hx hb hK hP 16 1 rfl rfl (vp_in_nI (show (100 * j) + k < 4000 by omega) (by decide)) d_MO_marksOf_20 ?_
        refine W.eq (g2 := F0 m 21 ls [.int (ia 19 ((100 * j) + k))]) (by rw [nI_clamp (show (100 * j) + k < 2 ^ 31 by omega)]) ?_
        refine lv_if_eq (tgt := 30) hx hb d_MO_marksOf_21 (by decide) (fun h21_2 => ?_) (fun h21_2 => ?_)
        · have h21_2 := h21_2
          have i21_2 := ti_eq h21_2
          (try rw [l_0] at i21_2)
          refine lv_iload_n hx hb d_MO_marksOf_30 rfl (lv_at hl 1 rfl) ?_
          refine lv_istore_n hx hb d_MO_marksOf_31 rfl hl (by decide) rfl (fun ls hl => ?_)
          have hl : lv_has ls 4 [(2, .int q), (3, .int (nI k)), (1, .int (nI j)), (0, .ref g0)] := hl
          refine lv_iinc (k := 1) (v := nI (k + 1)) hx hb d_MO_marksOf_32 hl rfl ((nI_succ k).symm) (by decide) rfl (fun ls hl => ?_)
          have hl : lv_has ls 4 [(3, .int (nI (k + 1))), (2, .int q), (1, .int (nI j)), (0, .ref g0)] := hl
          refine lv_goto (tgt := 4) hx hb d_MO_marksOf_35 (by decide) ?_
          exact ih_4 (k + 1) q ls (by omega) (by omega) hl
        · have h21_2 := h21_2
          have i21_2 := ti_ne h21_2
          (try rw [l_0] at i21_2)
          refine lv_iload_n hx hb d_MO_marksOf_24 rfl (lv_at hl 1 rfl) ?_
          refine lv_iconst (v := 1) hx hb d_MO_marksOf_25 (by decide) ?_
          refine lv_iadd hx hb d_MO_marksOf_26 ?_
          refine lv_goto (tgt := 31) hx hb d_MO_marksOf_27 (by decide) ?_
          refine lv_istore_n hx hb d_MO_marksOf_31 rfl hl (by decide) rfl (fun ls hl => ?_)
          have hl : lv_has ls 4 [(2, .int (q + 1)), (3, .int (nI k)), (1, .int (nI j)), (0, .ref g0)] := hl
          refine lv_iinc (k := 1) (v := nI (k + 1)) hx hb d_MO_marksOf_32 hl rfl ((nI_succ k).symm) (by decide) rfl (fun ls hl => ?_)
          have hl : lv_has ls 4 [(3, .int (nI (k + 1))), (2, .int (q + 1)), (1, .int (nI j)), (0, .ref g0)] := hl
          refine lv_goto (tgt := 4) hx hb d_MO_marksOf_35 (by decide) ?_
          exact ih_4 (k + 1) (q + 1) ls (by omega) (by omega) hl
  have hl := lv_sub hl [0, 1, 3, 2] (l' := [(3, .int 0), (2, .int 0), (1, .int (nI j)), (0, .ref g0)]) rfl
  have hl : lv_has ls 4 [(3, .int (nI 0)), (2, .int 0), (1, .int (nI j)), (0, .ref g0)] := hl
  exact J_4 ((100 - 0) + 1) 0 0 ls (by omega) (by omega) hl
set_option maxHeartbeats 8000000 in
set_option maxRecDepth 100000 in
theorem t_MO_bookmark (l : Launch) (dC : Nat → ClassId) (dI : Nat → Nat → Nat) (g0 : Nat) (ad : Nat → Nat) (kI kZ : ClassId) (sc : Nat → Int32) (ia : Nat → Nat → Int32) (sz Bd : Nat) (T : Int) (N : Nat) (hI : MI T N sc ia) (x : Int32) (y : Int32) : Met l y_MO_bookmark w_MO_bookmark ({ frames := 1, cells := 0, slots := 0, locals := 23 }) (frP (dC, dI) (MOW g0 ad kI kZ sc ia) (MOT kI kZ) sz Bd [.ref g0, .int x, .int y]) (tQ (dC, dI) (mW g0 ad kI kZ) (va_A (MOW g0 ad kI kZ sc ia) sz) vI (fun r u => same [0] sc u.1 ∧ same [19] ia u.2 ∧ MI T N u.1 u.2)) 0 0 (va_A (MOW g0 ad kI kZ sc ia) sz) := by
  refine Met.ofW (cc := c_MO_bookmark) (maxL := 3) (ret := (some .int)) (by decide) rfl ?_
  intro p e s m args below meth c s₁ B hml hv
  obtain ⟨rfl, ⟨hsz, hBs⟩, hP, hK, hD0, hV⟩ := hv
  have hx := B.exec
  have hb := B.bytes
  have hr := B.returns
  have ht : ∀ w ∈ tb_, w.before _ s = true := fun w h => atoms_spec (ws := w_MO_bookmark) B.pre w (List.mem_cons_of_mem _ h)
  have hown : s.vm.findClass R_MO = some m.cls := findClass_of_methodNamed B.named
  have hlocks := B.notSynchronized
  subst hsz
  have hD := hD0.self (sz := s.heap.size)
  have hAB : ∀ q, va_A (MOW g0 ad kI kZ sc ia) s.heap.size q → Bd ≤ q := fr_AB hD0 hBs
  generalize hAe : va_A (MOW g0 ad kI kZ sc ia) s.heap.size = A at hD hAB ⊢
  have hA : ∀ q : Nat, s.heap.size ≤ q → A q := fun q h => by rw [← hAe]; exact Or.inr h
  have hS : va_S A s.heap s.heap [] := va_S.rf
  have hs : same [0] sc sc := same.rf
  have hi : same [19] ia ia := same.rf
  have hP : va_P (dC, dI) cls_ (MOW g0 ad kI kZ sc ia) s.heap := hP
  have hl := lv_entry ([.ref g0, .int x, .int y]) (n := 3) (Nat.le_of_ble_eq_true rfl)
  rw [lg_entry_eq]
  generalize (lg_sl ([.ref g0, .int x, .int y]) ++ List.replicate (3 - (lg_sl ([.ref g0, .int x, .int y])).length) Slot.unset).toArray = ls at hl ⊢
  have hl : lv_has ls 3 [(0, .ref g0), (1, .int x), (2, .int y)] := hl
  have e4 := hI.e4
  have hN := hI.hN
  have hT := hI.T
  refine lv_aload_n hx hb d_MO_bookmark_0 rfl (lv_at hl 0 rfl) ?_
  refine lv_aload_n hx hb d_MO_bookmark_1 rfl (lv_at hl 0 rfl) ?_
  refine lv_iload_n hx hb d_MO_bookmark_2 rfl (lv_at hl 1 rfl) ?_
  refine r_call (va_runV (C := R_MO) (As := [.int x]) (rest := [.ref g0]) ⟨hx, hb, hml, hown, ht⟩ (t_MO_isRequest l dC dI g0 ad kI kZ sc ia N ((hs 4 (by decide)).trans e4) hN x) (cwV 1 ht (gV tb_740 tb_742 ts_24 tb_5 tb_743) rfl rfl rfl (by decide +kernel) ⟨Nat.le_of_ble_eq_true rfl, Nat.le_of_ble_eq_true rfl⟩) ⟨rdP_blind, va_recv (q := (R_MO, F_MO, 30)) hK hP rfl (show (MOW g0 ad kI kZ sc ia : va_W)[0]? = some _ from rfl), rd_pre hP hK⟩ rfl rfl hl.1 rfl (lv_room (Nat.le_of_ble_eq_true rfl)) d_MO_bookmark_3 ⟨Nat.le_of_ble_eq_true rfl, Nat.le_of_ble_eq_true rfl⟩) (fun r1 hu => ?_)
  have hu1_0 := hu
  have hu1_0 : ((∃ j, j < N ∧ x = nI j) ∧ r1 = 1 ∨ (∀ j, j < N → x ≠ nI j) ∧ r1 = 0) := hu1_0
  refine W.eq (g2 := F0 m 6 ls [.int r1, .ref g0]) rfl ?_
  rcases hu1_0 with ⟨⟨j, hj, rfl⟩, rfl⟩ | ⟨hno, rfl⟩
  · refine lv_if_ne (tgt := 13) hx hb d_MO_bookmark_6 (by decide) (fun _ => ?_) (fun h9 => absurd h9 (by decide))
    refine lv_iload_n hx hb d_MO_bookmark_13 rfl (lv_at hl 2 rfl) ?_
    refine lv_if_lt (tgt := 23) hx hb d_MO_bookmark_14 (by decide) (fun h14_1 => ?_) (fun h14_1 => ?_)
    · have h14_1 := h14_1
      have i14_1 := ti_lt h14_1
      (try rw [l_0] at i14_1)
      refine lv_iconst (v := 2) hx hb d_MO_bookmark_23 (by decide) ?_
      refine lv_goto (tgt := 50) hx hb d_MO_bookmark_24 (by decide) ?_
      refine t_call (u0 := (sc, ia)) (va_runV (C := R_MO) (As := [.int 2]) (rest := []) ⟨hx, hb, hml, hown, ht⟩ (t_MO_refused l dC dI g0 ad kI kZ sc ia s.heap.size Bd 2) (cwV 1 ht (gV tb_732 tb_734 ts_23 tb_5 tb_735) rfl rfl rfl (by decide +kernel) ⟨Nat.le_of_ble_eq_true rfl, Nat.le_of_ble_eq_true rfl⟩) ⟨frP_blind, va_recv (q := (R_MO, F_MO, 30)) hK hP rfl (show (MOW g0 ad kI kZ sc ia : va_W)[0]? = some _ from rfl), fr_pre hP hK hD hAB hBs hS hV⟩ rfl rfl hl.1 rfl (lv_room (Nat.le_of_ble_eq_true rfl)) d_MO_bookmark_50 ⟨Nat.le_of_ble_eq_true rfl, Nat.le_of_ble_eq_true rfl⟩) hD hS hA (fun r2 u H locs hu hP hD hS => ?_)
      obtain ⟨sc3, ia4⟩ := u
      obtain ⟨hu2_0, hu2_1, hu2_2, hu2_3⟩ := hu
      have hu2_0 : same [0] sc sc3 := hu2_0
      have hu2_1 : same [] ia ia4 := hu2_1
      have hu2_2 : sc3 0 = 2 := hu2_2
      have hu2_3 : ((0 : Int32) < 2 ∧ r2 = 1 ∨ ¬ (0 : Int32) < 2 ∧ r2 = 0) := hu2_3
      have hP : va_P (dC, dI) cls_ (MOW g0 ad kI kZ sc3 ia4) H := hP
      have hD : va_D A (MOW g0 ad kI kZ sc3 ia4) := hD
      have hs : same [0] sc sc3 := hs.tr (hu2_0.wk (by decide))
      have hi : same [19] ia ia4 := hi.tr (hu2_1.wk (by decide))
      refine W.eq (g2 := F0 m 53 ls [.int r2]) rfl ?_
      refine W.cs (cells' := 0) (slots' := 0) rfl rfl ?_
      obtain rfl : r2 = 1 := by rcases hu2_3 with ⟨_, q⟩ | ⟨q, _⟩; { exact q }; { exact absurd (by decide) q }
      refine lv_if_eq (tgt := 58) hx hb d_MO_bookmark_53 (by decide) (fun h9 => absurd h9 (by decide)) (fun _ => ?_)
      refine lv_iconst (v := 0) hx hb d_MO_bookmark_56 (by decide) ?_
      have hz0 : MI T N sc3 ia4 := hI.same (hs.wk (by decide)) (hi.wk (by decide))
      exact W.iret (v := 0) hx hb hr (fun t ht9 hW => ⟨⟨0, (sc3, ia4), rfl, ⟨hs, hi, hz0⟩, by rw [ht9]; exact hP, hD⟩, hS.F ht9⟩) hS.2.2 d_MO_bookmark_57
    · have h14_1 := h14_1
      have i14_1 := ti_nlt h14_1
      (try rw [l_0] at i14_1)
      refine lv_iload_n hx hb d_MO_bookmark_17 rfl (lv_at hl 2 rfl) ?_
      refine lv_bipush (v := 99) hx hb d_MO_bookmark_18 (by decide) ?_
      refine lv_icmp_le (tgt := 27) hx hb d_MO_bookmark_20 (by decide) (fun h20_2 => ?_) (fun h20_2 => ?_)
      · have h20_2 := h20_2
        have i20_2 := ti_le h20_2
        (try rw [l_99] at i20_2)
        obtain ⟨d, hd, rfl⟩ := of_n (n := 99) (x := y) (by omega) (by omega)
        refine lv_aload_n hx hb d_MO_bookmark_27 rfl (lv_at hl 0 rfl) ?_
        refine lv_iload_n hx hb d_MO_bookmark_28 rfl (lv_at hl 1 rfl) ?_
        refine r_call (va_runV (C := R_MO) (As := [.int (nI j)]) (rest := [.ref g0]) ⟨hx, hb, hml, hown, ht⟩ (t_MO_isKept l dC dI g0 ad kI kZ sc ia j (show j < 40 by omega)) (cwV 1 ht (gV tb_882 tb_884 ts_46 tb_5 tb_885) rfl rfl rfl (by decide +kernel) ⟨Nat.le_of_ble_eq_true rfl, Nat.le_of_ble_eq_true rfl⟩) ⟨rdP_blind, va_recv (q := (R_MO, F_MO, 30)) hK hP rfl (show (MOW g0 ad kI kZ sc ia : va_W)[0]? = some _ from rfl), rd_pre hP hK⟩ rfl rfl hl.1 rfl (lv_room (Nat.le_of_ble_eq_true rfl)) d_MO_bookmark_29 ⟨Nat.le_of_ble_eq_true rfl, Nat.le_of_ble_eq_true rfl⟩) (fun r5 hu => ?_)
        clear hu
        refine W.eq (g2 := F0 m 32 ls [.int r5, .ref g0]) rfl ?_
        refine lv_if_eq (tgt := 45) hx hb d_MO_bookmark_32 (by decide) (fun h32_3 => ?_) (fun h32_3 => ?_)
        · have h32_3 := h32_3
          have i32_3 := ti_eq h32_3
          (try rw [l_0] at i32_3)
          refine lv_iconst (v := 3) hx hb d_MO_bookmark_45 (by decide) ?_
          refine lv_goto (tgt := 50) hx hb d_MO_bookmark_46 (by decide) ?_
          refine t_call (u0 := (sc, ia)) (va_runV (C := R_MO) (As := [.int 3]) (rest := []) ⟨hx, hb, hml, hown, ht⟩ (t_MO_refused l dC dI g0 ad kI kZ sc ia s.heap.size Bd 3) (cwV 1 ht (gV tb_732 tb_734 ts_23 tb_5 tb_735) rfl rfl rfl (by decide +kernel) ⟨Nat.le_of_ble_eq_true rfl, Nat.le_of_ble_eq_true rfl⟩) ⟨frP_blind, va_recv (q := (R_MO, F_MO, 30)) hK hP rfl (show (MOW g0 ad kI kZ sc ia : va_W)[0]? = some _ from rfl), fr_pre hP hK hD hAB hBs hS hV⟩ rfl rfl hl.1 rfl (lv_room (Nat.le_of_ble_eq_true rfl)) d_MO_bookmark_50 ⟨Nat.le_of_ble_eq_true rfl, Nat.le_of_ble_eq_true rfl⟩) hD hS hA (fun r6 u H locs hu hP hD hS => ?_)
          obtain ⟨sc7, ia8⟩ := u
          obtain ⟨hu6_0, hu6_1, hu6_2, hu6_3⟩ := hu
          have hu6_0 : same [0] sc sc7 := hu6_0
          have hu6_1 : same [] ia ia8 := hu6_1
          have hu6_2 : sc7 0 = 3 := hu6_2
          have hu6_3 : ((0 : Int32) < 3 ∧ r6 = 1 ∨ ¬ (0 : Int32) < 3 ∧ r6 = 0) := hu6_3
          have hP : va_P (dC, dI) cls_ (MOW g0 ad kI kZ sc7 ia8) H := hP
          have hD : va_D A (MOW g0 ad kI kZ sc7 ia8) := hD
          have hs : same [0] sc sc7 := hs.tr (hu6_0.wk (by decide))
          have hi : same [19] ia ia8 := hi.tr (hu6_1.wk (by decide))
          refine W.eq (g2 := F0 m 53 ls [.int r6]) rfl ?_
          refine W.cs (cells' := 0) (slots' := 0) rfl rfl ?_
          obtain rfl : r6 = 1 := by rcases hu6_3 with ⟨_, q⟩ | ⟨q, _⟩; { exact q }; { exact absurd (by decide) q }
          refine lv_if_eq (tgt := 58) hx hb d_MO_bookmark_53 (by decide) (fun h9 => absurd h9 (by decide)) (fun _ => ?_)
          refine lv_iconst (v := 0) hx hb d_MO_bookmark_56 (by decide) ?_
          have hz0 : MI T N sc7 ia8 := hI.same (hs.wk (by decide)) (hi.wk (by decide))
          exact W.iret (v := 0) hx hb hr (fun t ht9 hW => ⟨⟨0, (sc7, ia8), rfl, ⟨hs, hi, hz0⟩, by rw [ht9]; exact hP, hD⟩, hS.F ht9⟩) hS.2.2 d_MO_bookmark_57
        · have h32_3 := h32_3
          have i32_3 := ti_ne h32_3
          (try rw [l_0] at i32_3)
          refine lv_aload_n hx hb d_MO_bookmark_35 rfl (lv_at hl 0 rfl) ?_
          refine lv_iload_n hx hb d_MO_bookmark_36 rfl (lv_at hl 1 rfl) ?_
          refine r_call (va_runV (C := R_MO) (As := [.int (nI j)]) (rest := [.ref g0]) ⟨hx, hb, hml, hown, ht⟩ (t_MO_marksOf l dC dI g0 ad kI kZ sc ia j (show j < 40 by omega)) (cwV 1 ht (gV tb_902 tb_904 ts_47 tb_5 tb_905) rfl rfl rfl (by decide +kernel) ⟨Nat.le_of_ble_eq_true rfl, Nat.le_of_ble_eq_true rfl⟩) ⟨rdP_blind, va_recv (q := (R_MO, F_MO, 30)) hK hP rfl (show (MOW g0 ad kI kZ sc ia : va_W)[0]? = some _ from rfl), rd_pre hP hK⟩ rfl rfl hl.1 rfl (lv_room (Nat.le_of_ble_eq_true rfl)) d_MO_bookmark_37 ⟨Nat.le_of_ble_eq_true rfl, Nat.le_of_ble_eq_true rfl⟩) (fun r9 hu => ?_)
          clear hu
          refine W.eq (g2 := F0 m 40 ls [.int r9, .ref g0]) rfl ?_
          refine lv_bipush (v := 6) hx hb d_MO_bookmark_40 (by decide) ?_
          refine lv_icmp_ne (tgt := 49) hx hb d_MO_bookmark_42 (by decide) (fun h42_4 => ?_) (fun h42_4 => ?_)
          · have h42_4 := h42_4
            have i42_4 := ti_ne h42_4
            (try rw [l_6] at i42_4)
            refine lv_iconst (v := 0) hx hb d_MO_bookmark_49 (by decide) ?_
            refine t_call (u0 := (sc, ia)) (va_runV (C := R_MO) (As := [.int 0]) (rest := []) ⟨hx, hb, hml, hown, ht⟩ (t_MO_refused l dC dI g0 ad kI kZ sc ia s.heap.size Bd 0) (cwV 1 ht (gV tb_732 tb_734 ts_23 tb_5 tb_735) rfl rfl rfl (by decide +kernel) ⟨Nat.le_of_ble_eq_true rfl, Nat.le_of_ble_eq_true rfl⟩) ⟨frP_blind, va_recv (q := (R_MO, F_MO, 30)) hK hP rfl (show (MOW g0 ad kI kZ sc ia : va_W)[0]? = some _ from rfl), fr_pre hP hK hD hAB hBs hS hV⟩ rfl rfl hl.1 rfl (lv_room (Nat.le_of_ble_eq_true rfl)) d_MO_bookmark_50 ⟨Nat.le_of_ble_eq_true rfl, Nat.le_of_ble_eq_true rfl⟩) hD hS hA (fun r10 u H locs hu hP hD hS => ?_)
            obtain ⟨sc11, ia12⟩ := u
            obtain ⟨hu10_0, hu10_1, hu10_2, hu10_3⟩ := hu
            have hu10_0 : same [0] sc sc11 := hu10_0
            have hu10_1 : same [] ia ia12 := hu10_1
            have hu10_2 : sc11 0 = 0 := hu10_2
            have hu10_3 : ((0 : Int32) < 0 ∧ r10 = 1 ∨ ¬ (0 : Int32) < 0 ∧ r10 = 0) := hu10_3
            have hP : va_P (dC, dI) cls_ (MOW g0 ad kI kZ sc11 ia12) H := hP
            have hD : va_D A (MOW g0 ad kI kZ sc11 ia12) := hD
            have hs : same [0] sc sc11 := hs.tr (hu10_0.wk (by decide))
            have hi : same [19] ia ia12 := hi.tr (hu10_1.wk (by decide))
            refine W.eq (g2 := F0 m 53 ls [.int r10]) rfl ?_
            refine W.cs (cells' := 0) (slots' := 0) rfl rfl ?_
            obtain rfl : r10 = 0 := by rcases hu10_3 with ⟨q, _⟩ | ⟨_, q⟩; { exact absurd q (by decide) }; { exact q }
            refine lv_if_eq (tgt := 58) hx hb d_MO_bookmark_53 (by decide) (fun _ => ?_) (fun h9 => absurd (by decide) h9)
            refine lv_aload_n hx hb d_MO_bookmark_58 rfl (lv_at hl 0 rfl) ?_
            refine va_get (D := (dC, dI)) (ci := 5) (v := .ref (ad 19)) (C := R_MO) (T := F_MO) (N := 30) hx hb ht in_MO hown hK hP 0 rfl rfl 19 (by decide) (ht _ tb_650) (fun _ h9 => h9) rfl d_MO_bookmark_59 ?_
            refine lv_bipush (v := 100) hx hb d_MO_bookmark_62 (by decide) ?_
            refine lv_iload_n hx hb d_MO_bookmark_64 rfl (lv_at hl 1 rfl) ?_
            refine lv_imul hx hb d_MO_bookmark_65 ?_
            refine lv_topi (fun v13 ev13 => ?_)
            obtain rfl : v13 = nI (100 * j) := ev13.trans (by rw [show (100 : Int32) = nI 100 from rfl, pk_mul])
            refine lv_iload_n hx hb d_MO_bookmark_66 rfl (lv_at hl 2 rfl) ?_
            refine lv_iadd hx hb d_MO_bookmark_67 ?_
            refine lv_topi (fun v14 ev14 => ?_)
            obtain rfl : v14 = nI ((100 * j) + d) := ev14.trans (by rw [nI_add])
            refine lv_iconst (v := 1) hx hb d_MO_bookmark_68 (by decide) ?_
            refine va_zast hx hb hK hP hD hS 16 1 rfl rfl (vp_in_nI (show (100 * j) + d < 4000 by omega) (by decide)) d_MO_bookmark_69 (fun H locs hP hD hS => ?_)
            rw [nI_clamp (show (100 * j) + d < 2 ^ 31 by omega)] at hP hD
            have hP : va_P (dC, dI) cls_ (MOW g0 ad kI kZ sc11 (va_up ia12 19 (upd (ia12 19) ((100 * j) + d) (vp_nar .boolean 1)))) H := hP
            have hD : va_D A (MOW g0 ad kI kZ sc11 (va_up ia12 19 (upd (ia12 19) ((100 * j) + d) (vp_nar .boolean 1)))) := hD
            obtain ⟨ia15, eia15⟩ : ∃ q9_, q9_ = va_up ia12 19 (upd (ia12 19) ((100 * j) + d) (vp_nar .boolean 1)) := ⟨_, rfl⟩
            rw [← eia15] at hP hD
            have hi : same [19] ia ia15 := by rw [eia15]; exact hi.up (by decide)
            refine lv_aload_n hx hb d_MO_bookmark_70 rfl (lv_at hl 0 rfl) ?_
            refine lv_iload_n hx hb d_MO_bookmark_71 rfl (lv_at hl 1 rfl) ?_
            refine r_call (va_runV (C := R_MO) (As := [.int (nI j)]) (rest := []) ⟨hx, hb, hml, hown, ht⟩ (t_MO_marksOf l dC dI g0 ad kI kZ sc11 ia15 j (show j < 40 by omega)) (cwV 1 ht (gV tb_902 tb_904 ts_47 tb_5 tb_905) rfl rfl rfl (by decide +kernel) ⟨Nat.le_of_ble_eq_true rfl, Nat.le_of_ble_eq_true rfl⟩) ⟨rdP_blind, va_recv (q := (R_MO, F_MO, 30)) hK hP rfl (show (MOW g0 ad kI kZ sc11 ia15 : va_W)[0]? = some _ from rfl), rd_pre hP hK⟩ rfl rfl hl.1 rfl (lv_room (Nat.le_of_ble_eq_true rfl)) d_MO_bookmark_72 ⟨Nat.le_of_ble_eq_true rfl, Nat.le_of_ble_eq_true rfl⟩) (fun r16 hu => ?_)
            clear hu
            refine W.eq (g2 := F0 m 75 ls [.int r16]) rfl ?_
            have hz0 : MI T N sc11 ia15 := hI.same (hs.wk (by decide)) (hi.wk (by decide))
            exact W.iret (v := r16) hx hb hr (fun t ht9 hW => ⟨⟨r16, (sc11, ia15), rfl, ⟨hs, hi, hz0⟩, by rw [ht9]; exact hP, hD⟩, hS.F ht9⟩) hS.2.2 d_MO_bookmark_75
          · have h42_4 := h42_4
            have i42_4 := ti_eq h42_4
            (try rw [l_6] at i42_4)
            refine lv_iconst (v := 3) hx hb d_MO_bookmark_45 (by decide) ?_
            refine lv_goto (tgt := 50) hx hb d_MO_bookmark_46 (by decide) ?_
            refine t_call (u0 := (sc, ia)) (va_runV (C := R_MO) (As := [.int 3]) (rest := []) ⟨hx, hb, hml, hown, ht⟩ (t_MO_refused l dC dI g0 ad kI kZ sc ia s.heap.size Bd 3) (cwV 1 ht (gV tb_732 tb_734 ts_23 tb_5 tb_735) rfl rfl rfl (by decide +kernel) ⟨Nat.le_of_ble_eq_true rfl, Nat.le_of_ble_eq_true rfl⟩) ⟨frP_blind, va_recv (q := (R_MO, F_MO, 30)) hK hP rfl (show (MOW g0 ad kI kZ sc ia : va_W)[0]? = some _ from rfl), fr_pre hP hK hD hAB hBs hS hV⟩ rfl rfl hl.1 rfl (lv_room (Nat.le_of_ble_eq_true rfl)) d_MO_bookmark_50 ⟨Nat.le_of_ble_eq_true rfl, Nat.le_of_ble_eq_true rfl⟩) hD hS hA (fun r17 u H locs hu hP hD hS => ?_)
            obtain ⟨sc18, ia19⟩ := u
            obtain ⟨hu17_0, hu17_1, hu17_2, hu17_3⟩ := hu
            have hu17_0 : same [0] sc sc18 := hu17_0
            have hu17_1 : same [] ia ia19 := hu17_1
            have hu17_2 : sc18 0 = 3 := hu17_2
            have hu17_3 : ((0 : Int32) < 3 ∧ r17 = 1 ∨ ¬ (0 : Int32) < 3 ∧ r17 = 0) := hu17_3
            have hP : va_P (dC, dI) cls_ (MOW g0 ad kI kZ sc18 ia19) H := hP
            have hD : va_D A (MOW g0 ad kI kZ sc18 ia19) := hD
            have hs : same [0] sc sc18 := hs.tr (hu17_0.wk (by decide))
            have hi : same [19] ia ia19 := hi.tr (hu17_1.wk (by decide))
            refine W.eq (g2 := F0 m 53 ls [.int r17]) rfl ?_
            refine W.cs (cells' := 0) (slots' := 0) rfl rfl ?_
            obtain rfl : r17 = 1 := by rcases hu17_3 with ⟨_, q⟩ | ⟨q, _⟩; { exact q }; { exact absurd (by decide) q }
            refine lv_if_eq (tgt := 58) hx hb d_MO_bookmark_53 (by decide) (fun h9 => absurd h9 (by decide)) (fun _ => ?_)
            refine lv_iconst (v := 0) hx hb d_MO_bookmark_56 (by decide) ?_
            have hz0 : MI T N sc18 ia19 := hI.same (hs.wk (by decide)) (hi.wk (by decide))
            exact W.iret (v := 0) hx hb hr (fun t ht9 hW => ⟨⟨0, (sc18, ia19), rfl, ⟨hs, hi, hz0⟩, by rw [ht9]; exact hP, hD⟩, hS.F ht9⟩) hS.2.2 d_MO_bookmark_57
      · have h20_2 := h20_2
        have i20_2 := ti_nle h20_2
        (try rw [l_99] at i20_2)
        refine lv_iconst (v := 2) hx hb d_MO_bookmark_23 (by decide) ?_
        refine lv_goto (tgt := 50) hx hb d_MO_bookmark_24 (by decide) ?_
        refine t_call (u0 := (sc, ia)) (va_runV (C := R_MO) (As := [.int 2]) (rest := []) ⟨hx, hb, hml, hown, ht⟩ (t_MO_refused l dC dI g0 ad kI kZ sc ia s.heap.size Bd 2) (cwV 1 ht (gV tb_732 tb_734 ts_23 tb_5 tb_735) rfl rfl rfl (by decide +kernel) ⟨Nat.le_of_ble_eq_true rfl, Nat.le_of_ble_eq_true rfl⟩) ⟨frP_blind, va_recv (q := (R_MO, F_MO, 30)) hK hP rfl (show (MOW g0 ad kI kZ sc ia : va_W)[0]? = some _ from rfl), fr_pre hP hK hD hAB hBs hS hV⟩ rfl rfl hl.1 rfl (lv_room (Nat.le_of_ble_eq_true rfl)) d_MO_bookmark_50 ⟨Nat.le_of_ble_eq_true rfl, Nat.le_of_ble_eq_true rfl⟩) hD hS hA (fun r20 u H locs hu hP hD hS => ?_)
        obtain ⟨sc21, ia22⟩ := u
        obtain ⟨hu20_0, hu20_1, hu20_2, hu20_3⟩ := hu
        have hu20_0 : same [0] sc sc21 := hu20_0
        have hu20_1 : same [] ia ia22 := hu20_1
        have hu20_2 : sc21 0 = 2 := hu20_2
        have hu20_3 : ((0 : Int32) < 2 ∧ r20 = 1 ∨ ¬ (0 : Int32) < 2 ∧ r20 = 0) := hu20_3
        have hP : va_P (dC, dI) cls_ (MOW g0 ad kI kZ sc21 ia22) H := hP
        have hD : va_D A (MOW g0 ad kI kZ sc21 ia22) := hD
        have hs : same [0] sc sc21 := hs.tr (hu20_0.wk (by decide))
        have hi : same [19] ia ia22 := hi.tr (hu20_1.wk (by decide))
        refine W.eq (g2 := F0 m 53 ls [.int r20]) rfl ?_
        refine W.cs (cells' := 0) (slots' := 0) rfl rfl ?_
        obtain rfl : r20 = 1 := by rcases hu20_3 with ⟨_, q⟩ | ⟨q, _⟩; { exact q }; { exact absurd (by decide) q }
        refine lv_if_eq (tgt := 58) hx hb d_MO_bookmark_53 (by decide) (fun h9 => absurd h9 (by decide)) (fun _ => ?_)
        refine lv_iconst (v := 0) hx hb d_MO_bookmark_56 (by decide) ?_
        have hz0 : MI T N sc21 ia22 := hI.same (hs.wk (by decide)) (hi.wk (by decide))
        exact W.iret (v := 0) hx hb hr (fun t ht9 hW => ⟨⟨0, (sc21, ia22), rfl, ⟨hs, hi, hz0⟩, by rw [ht9]; exact hP, hD⟩, hS.F ht9⟩) hS.2.2 d_MO_bookmark_57
  · refine lv_if_ne (tgt := 13) hx hb d_MO_bookmark_6 (by decide) (fun h9 => absurd (by decide) h9) (fun _ => ?_)
    refine lv_iconst (v := 1) hx hb d_MO_bookmark_9 (by decide) ?_
    refine lv_goto (tgt := 50) hx hb d_MO_bookmark_10 (by decide) ?_
    refine t_call (u0 := (sc, ia)) (va_runV (C := R_MO) (As := [.int 1]) (rest := []) ⟨hx, hb, hml, hown, ht⟩ (t_MO_refused l dC dI g0 ad kI kZ sc ia s.heap.size Bd 1) (cwV 1 ht (gV tb_732 tb_734 ts_23 tb_5 tb_735) rfl rfl rfl (by decide +kernel) ⟨Nat.le_of_ble_eq_true rfl, Nat.le_of_ble_eq_true rfl⟩) ⟨frP_blind, va_recv (q := (R_MO, F_MO, 30)) hK hP rfl (show (MOW g0 ad kI kZ sc ia : va_W)[0]? = some _ from rfl), fr_pre hP hK hD hAB hBs hS hV⟩ rfl rfl hl.1 rfl (lv_room (Nat.le_of_ble_eq_true rfl)) d_MO_bookmark_50 ⟨Nat.le_of_ble_eq_true rfl, Nat.le_of_ble_eq_true rfl⟩) hD hS hA (fun r23 u H locs hu hP hD hS => ?_)
    obtain ⟨sc24, ia25⟩ := u
    obtain ⟨hu23_0, hu23_1, hu23_2, hu23_3⟩ := hu
    have hu23_0 : same [0] sc sc24 := hu23_0
    have hu23_1 : same [] ia ia25 := hu23_1
    have hu23_2 : sc24 0 = 1 := hu23_2
    have hu23_3 : ((0 : Int32) < 1 ∧ r23 = 1 ∨ ¬ (0 : Int32) < 1 ∧ r23 = 0) := hu23_3
    have hP : va_P (dC, dI) cls_ (MOW g0 ad kI kZ sc24 ia25) H := hP
    have hD : va_D A (MOW g0 ad kI kZ sc24 ia25) := hD
    have hs : same [0] sc sc24 := hs.tr (hu23_0.wk (by decide))
    have hi : same [19] ia ia25 := hi.tr (hu23_1.wk (by decide))
    refine W.eq (g2 := F0 m 53 ls [.int r23]) rfl ?_
    refine W.cs (cells' := 0) (slots' := 0) rfl rfl ?_
    obtain rfl : r23 = 1 := by rcases hu23_3 with ⟨_, q⟩ | ⟨q, _⟩; { exact q }; { exact absurd (by decide) q }
    refine lv_if_eq (tgt := 58) hx hb d_MO_bookmark_53 (by decide) (fun h9 => absurd h9 (by decide)) (fun _ => ?_)
    refine lv_iconst (v := 0) hx hb d_MO_bookmark_56 (by decide) ?_
    have hz0 : MI T N sc24 ia25 := hI.same (hs.wk (by decide)) (hi.wk (by decide))
    exact W.iret (v := 0) hx hb hr (fun t ht9 hW => ⟨⟨0, (sc24, ia25), rfl, ⟨hs, hi, hz0⟩, by rw [ht9]; exact hP, hD⟩, hS.F ht9⟩) hS.2.2 d_MO_bookmark_57
set_option maxHeartbeats 8000000 in
set_option maxRecDepth 100000 in
theorem t_MO_bookmarkAt (l : Launch) (dC : Nat → ClassId) (dI : Nat → Nat → Nat) (g0 : Nat) (ad : Nat → Nat) (kI kZ : ClassId) (sc : Nat → Int32) (ia : Nat → Nat → Int32) (sz Bd : Nat) (T : Int) (N : Nat) (hI : MI T N sc ia) (x : Int32) (y : Int32) : Met l y_MO_bookmarkAt w_MO_bookmarkAt ({ frames := 1, cells := 0, slots := 0, locals := 21 }) (frP (dC, dI) (MOW g0 ad kI kZ sc ia) (MOT kI kZ) sz Bd [.ref g0, .int x, .int y]) (tQ (dC, dI) (mW g0 ad kI kZ) (va_A (MOW g0 ad kI kZ sc ia) sz) vI (fun r u => same [0] sc u.1 ∧ same [] ia u.2 ∧ MI T N u.1 u.2)) 0 0 (va_A (MOW g0 ad kI kZ sc ia) sz) := by
  refine Met.ofW (cc := c_MO_bookmarkAt) (maxL := 6) (ret := (some .int)) (by decide) rfl ?_
  intro p e s m args below meth c s₁ B hml hv
  obtain ⟨rfl, ⟨hsz, hBs⟩, hP, hK, hD0, hV⟩ := hv
  have hx := B.exec
  have hb := B.bytes
  have hr := B.returns
  have ht : ∀ w ∈ tb_, w.before _ s = true := fun w h => atoms_spec (ws := w_MO_bookmarkAt) B.pre w (List.mem_cons_of_mem _ h)
  have hown : s.vm.findClass R_MO = some m.cls := findClass_of_methodNamed B.named
  have hlocks := B.notSynchronized
  subst hsz
  have hD := hD0.self (sz := s.heap.size)
  have hAB : ∀ q, va_A (MOW g0 ad kI kZ sc ia) s.heap.size q → Bd ≤ q := fr_AB hD0 hBs
  generalize hAe : va_A (MOW g0 ad kI kZ sc ia) s.heap.size = A at hD hAB ⊢
  have hA : ∀ q : Nat, s.heap.size ≤ q → A q := fun q h => by rw [← hAe]; exact Or.inr h
  have hS : va_S A s.heap s.heap [] := va_S.rf
  have hs : same [0] sc sc := same.rf
  have hi : same [] ia ia := same.rf
  have hP : va_P (dC, dI) cls_ (MOW g0 ad kI kZ sc ia) s.heap := hP
  have hl := lv_entry ([.ref g0, .int x, .int y]) (n := 6) (Nat.le_of_ble_eq_true rfl)
  rw [lg_entry_eq]
  generalize (lg_sl ([.ref g0, .int x, .int y]) ++ List.replicate (6 - (lg_sl ([.ref g0, .int x, .int y])).length) Slot.unset).toArray = ls at hl ⊢
  have hl : lv_has ls 6 [(0, .ref g0), (1, .int x), (2, .int y)] := hl
  have e4 := hI.e4
  have hN := hI.hN
  have hT := hI.T
  refine lv_aload_n hx hb d_MO_bookmarkAt_0 rfl (lv_at hl 0 rfl) ?_
  refine lv_aload_n hx hb d_MO_bookmarkAt_1 rfl (lv_at hl 0 rfl) ?_
  refine lv_iload_n hx hb d_MO_bookmarkAt_2 rfl (lv_at hl 1 rfl) ?_
  refine r_call (va_runV (C := R_MO) (As := [.int x]) (rest := [.ref g0]) ⟨hx, hb, hml, hown, ht⟩ (t_MO_isRequest l dC dI g0 ad kI kZ sc ia N ((hs 4 (by decide)).trans e4) hN x) (cwV 1 ht (gV tb_740 tb_742 ts_24 tb_5 tb_743) rfl rfl rfl (by decide +kernel) ⟨Nat.le_of_ble_eq_true rfl, Nat.le_of_ble_eq_true rfl⟩) ⟨rdP_blind, va_recv (q := (R_MO, F_MO, 30)) hK hP rfl (show (MOW g0 ad kI kZ sc ia : va_W)[0]? = some _ from rfl), rd_pre hP hK⟩ rfl rfl hl.1 rfl (lv_room (Nat.le_of_ble_eq_true rfl)) d_MO_bookmarkAt_3 ⟨Nat.le_of_ble_eq_true rfl, Nat.le_of_ble_eq_true rfl⟩) (fun r1 hu => ?_)
  have hu1_0 := hu
  have hu1_0 : ((∃ j, j < N ∧ x = nI j) ∧ r1 = 1 ∨ (∀ j, j < N → x ≠ nI j) ∧ r1 = 0) := hu1_0
  refine W.eq (g2 := F0 m 6 ls [.int r1, .ref g0]) rfl ?_
  rcases hu1_0 with ⟨⟨j, hj, rfl⟩, rfl⟩ | ⟨hno, rfl⟩
  · refine lv_if_eq (tgt := 13) hx hb d_MO_bookmarkAt_6 (by decide) (fun h9 => absurd h9 (by decide)) (fun _ => ?_)
    refine lv_iconst (v := 0) hx hb d_MO_bookmarkAt_9 (by decide) ?_
    refine lv_goto (tgt := 14) hx hb d_MO_bookmarkAt_10 (by decide) ?_
    refine t_call (u0 := (sc, ia)) (va_runV (C := R_MO) (As := [.int 0]) (rest := []) ⟨hx, hb, hml, hown, ht⟩ (t_MO_refused l dC dI g0 ad kI kZ sc ia s.heap.size Bd 0) (cwV 1 ht (gV tb_732 tb_734 ts_23 tb_5 tb_735) rfl rfl rfl (by decide +kernel) ⟨Nat.le_of_ble_eq_true rfl, Nat.le_of_ble_eq_true rfl⟩) ⟨frP_blind, va_recv (q := (R_MO, F_MO, 30)) hK hP rfl (show (MOW g0 ad kI kZ sc ia : va_W)[0]? = some _ from rfl), fr_pre hP hK hD hAB hBs hS hV⟩ rfl rfl hl.1 rfl (lv_room (Nat.le_of_ble_eq_true rfl)) d_MO_bookmarkAt_14 ⟨Nat.le_of_ble_eq_true rfl, Nat.le_of_ble_eq_true rfl⟩) hD hS hA (fun r2 u H locs hu hP hD hS => ?_)
    obtain ⟨sc3, ia4⟩ := u
    obtain ⟨hu2_0, hu2_1, hu2_2, hu2_3⟩ := hu
    have hu2_0 : same [0] sc sc3 := hu2_0
    have hu2_1 : same [] ia ia4 := hu2_1
    have hu2_2 : sc3 0 = 0 := hu2_2
    have hu2_3 : ((0 : Int32) < 0 ∧ r2 = 1 ∨ ¬ (0 : Int32) < 0 ∧ r2 = 0) := hu2_3
    have hP : va_P (dC, dI) cls_ (MOW g0 ad kI kZ sc3 ia4) H := hP
    have hD : va_D A (MOW g0 ad kI kZ sc3 ia4) := hD
    have hs : same [0] sc sc3 := hs.tr (hu2_0.wk (by decide))
    have hi : same [] ia ia4 := hi.tr (hu2_1.wk (by decide))
    refine W.eq (g2 := F0 m 17 ls [.int r2]) rfl ?_
    refine W.cs (cells' := 0) (slots' := 0) rfl rfl ?_
    obtain rfl : r2 = 0 := by rcases hu2_3 with ⟨q, _⟩ | ⟨_, q⟩; { exact absurd q (by decide) }; { exact q }
    refine lv_if_eq (tgt := 22) hx hb d_MO_bookmarkAt_17 (by decide) (fun _ => ?_) (fun h9 => absurd (by decide) h9)
    refine lv_iconst (v := 0) hx hb d_MO_bookmarkAt_22 (by decide) ?_
    refine lv_istore_n hx hb d_MO_bookmarkAt_23 rfl hl (by decide) rfl (fun ls hl => ?_)
    have hl : lv_has ls 6 [(3, .int 0), (0, .ref g0), (1, .int (nI j)), (2, .int y)] := hl
    refine lv_iconst (v := -1) hx hb d_MO_bookmarkAt_24 (by decide) ?_
    refine lv_istore hx hb d_MO_bookmarkAt_25 hl (by decide) rfl (fun ls hl => ?_)
    have hl : lv_has ls 6 [(4, .int (-1)), (3, .int 0), (0, .ref g0), (1, .int (nI j)), (2, .int y)] := hl
    refine lv_iconst (v := 0) hx hb d_MO_bookmarkAt_27 (by decide) ?_
    refine lv_istore hx hb d_MO_bookmarkAt_28 hl (by decide) rfl (fun ls hl => ?_)
    have hl : lv_has ls 6 [(5, .int 0), (4, .int (-1)), (3, .int 0), (0, .ref g0), (1, .int (nI j)), (2, .int y)] := hl
    have J_30 : ∀ (n_30 : Nat) (k : Nat) (q : Int32) (f : Int32) (sc_30 : Nat → Int32) (ia_30 : Nat → Nat → Int32) (H : Heap) (locs : List Loc) (ls : Array Slot), 100 - k < n_30 → k ≤ 100 → same [0] sc sc_30 → same [] ia ia_30 → lv_has ls 6 [(5, .int (nI k)), (4, .int f), (3, .int q), (2, .int y), (1, .int (nI j)), (0, .ref g0)] → va_P (dC, dI) cls_ (MOW g0 ad kI kZ sc_30 ia_30) H → va_D A (MOW g0 ad kI kZ sc_30 ia_30) → va_S A s.heap H locs → W p l e (headSpec w_MO_bookmarkAt ({ frames := 1, cells := 0, slots := 0, locals := 21 })).room s m (([.ref g0, .int (nI j), .int y] : List Value).toArray) below meth c H locs 0 0 (MQ below (tQ (dC, dI) (mW g0 ad kI kZ) A vI (fun r u => same [0] sc u.1 ∧ same [] ia u.2 ∧ MI T N u.1 u.2)) (([.ref g0, .int (nI j), .int y] : List Value).toArray) s 0 0 A) (F0 m 30 ls []) := by
      intro n_30
      induction n_30 with
      | zero => intro k q f sc_30 ia_30 H locs ls hmu hc30_0 hs hi hl hP hD hS; exact absurd hmu (by omega)
      | succ n_30 ih_30 =>
        intro k q f sc_30 ia_30 H locs ls hmu hc30_0 hs hi hl hP hD hS
        refine lv_iload hx hb d_MO_bookmarkAt_30 (lv_at hl 0 rfl) ?_
        refine lv_bipush (v := 100) hx hb d_MO_bookmarkAt_32 (by decide) ?_
        refine lv_icmp_ge (tgt := 95) hx hb d_MO_bookmarkAt_34 (by decide) (fun h34_1 => ?_) (fun h34_1 => ?_)
        · have h34_1 := h34_1
          have i34_1 := ti_le h34_1
          (try rw [nI_toInt (show k < 2 ^ 31 by omega)] at i34_1)
          (try rw [l_100] at i34_1)
          refine lv_iload hx hb d_MO_bookmarkAt_95 (lv_at hl 1 rfl) ?_
          have hz0 : MI T N sc_30 ia_30 := hI.same (hs.wk (by decide)) (hi.wk (by decide))
          exact W.iret (v := f) hx hb hr (fun t ht9 hW => ⟨⟨f, (sc_30, ia_30), rfl, ⟨hs, hi, hz0⟩, by rw [ht9]; exact hP, hD⟩, hS.F ht9⟩) hS.2.2 d_MO_bookmarkAt_97
        · have h34_1 := h34_1
          have i34_1 := ti_nle h34_1
          (try rw [nI_toInt (show k < 2 ^ 31 by omega)] at i34_1)
          (try rw [l_100] at i34_1)
          refine lv_aload_n hx hb d_MO_bookmarkAt_37 rfl (lv_at hl 5 rfl) ?_
          refine va_get (D := (dC, dI)) (ci := 5) (v := .ref (ad 19)) (C := R_MO) (T := F_MO) (N := 30) hx hb ht in_MO hown hK hP 0 rfl rfl 19 (by decide) (ht _ tb_650) (fun _ h9 => h9) rfl d_MO_bookmarkAt_38 ?_
          refine lv_bipush (v := 100) hx hb d_MO_bookmarkAt_41 (by decide) ?_
          refine lv_iload_n hx hb d_MO_bookmarkAt_43 rfl (lv_at hl 4 rfl) ?_
          refine lv_imul hx hb d_MO_bookmarkAt_44 ?_
          refine lv_topi (fun v5 ev5 => ?_)
          obtain rfl : v5 = nI (100 * j) := ev5.trans (by rw [show (100 : Int32) = nI 100 from rfl, pk_mul])
          refine lv_iload hx hb d_MO_bookmarkAt_45 (lv_at hl 0 rfl) ?_
          refine lv_iadd hx hb d_MO_bookmarkAt_47 ?_
          refine lv_topi (fun v6 ev6 => ?_)
          obtain rfl : v6 = nI ((100 * j) + k) := ev6.trans (by rw [nI_add])
          refine va_zald hx hb hK hP 16 1 rfl rfl (vp_in_nI (show (100 * j) + k < 4000 by omega) (by decide)) d_MO_bookmarkAt_48 ?_
          refine W.eq (g2 := F0 m 49 ls [.int (ia 19 ((100 * j) + k))]) (by rw [nI_clamp (show (100 * j) + k < 2 ^ 31 by omega), hi 19 (by decide)]) ?_
          refine lv_if_eq (tgt := 62) hx hb d_MO_bookmarkAt_49 (by decide) (fun h49_2 => ?_) (fun h49_2 => ?_)
          · have h49_2 := h49_2
            have i49_2 := ti_eq h49_2
            (try rw [l_0] at i49_2)
            refine lv_iload hx hb d_MO_bookmarkAt_62 (lv_at hl 1 rfl) ?_
            refine lv_istore hx hb d_MO_bookmarkAt_64 hl (by decide) rfl (fun ls hl => ?_)
            have hl : lv_has ls 6 [(4, .int f), (5, .int (nI k)), (3, .int q), (2, .int y), (1, .int (nI j)), (0, .ref g0)] := hl
            refine lv_aload_n hx hb d_MO_bookmarkAt_66 rfl (lv_at hl 5 rfl) ?_
            refine va_get (D := (dC, dI)) (ci := 5) (v := .ref (ad 19)) (C := R_MO) (T := F_MO) (N := 30) hx hb ht in_MO hown hK hP 0 rfl rfl 19 (by decide) (ht _ tb_650) (fun _ h9 => h9) rfl d_MO_bookmarkAt_67 ?_
            refine lv_bipush (v := 100) hx hb d_MO_bookmarkAt_70 (by decide) ?_
            refine lv_iload_n hx hb d_MO_bookmarkAt_72 rfl (lv_at hl 4 rfl) ?_
            refine lv_imul hx hb d_MO_bookmarkAt_73 ?_
            refine lv_topi (fun v7 ev7 => ?_)
            obtain rfl : v7 = nI (100 * j) := ev7.trans (by rw [show (100 : Int32) = nI 100 from rfl, pk_mul])
            refine lv_iload hx hb d_MO_bookmarkAt_74 (lv_at hl 1 rfl) ?_
            refine lv_iadd hx hb d_MO_bookmarkAt_76 ?_
            refine lv_topi (fun v8 ev8 => ?_)
            obtain rfl : v8 = nI ((100 * j) + k) := ev8.trans (by rw [nI_add])
            refine va_zald hx hb hK hP 16 1 rfl rfl (vp_in_nI (show (100 * j) + k < 4000 by omega) (by decide)) d_MO_bookmarkAt_77 ?_
            refine W.eq (g2 := F0 m 78 ls [.int (ia 19 ((100 * j) + k))]) (by rw [nI_clamp (show (100 * j) + k < 2 ^ 31 by omega), hi 19 (by decide)]) ?_
            refine lv_if_eq (tgt := 87) hx hb d_MO_bookmarkAt_78 (by decide) (fun _ => ?_) (fun h9 => absurd (h49_2) h9)
            refine lv_iload_n hx hb d_MO_bookmarkAt_87 rfl (lv_at hl 2 rfl) ?_
            refine lv_istore_n hx hb d_MO_bookmarkAt_88 rfl hl (by decide) rfl (fun ls hl => ?_)
            have hl : lv_has ls 6 [(3, .int q), (4, .int f), (5, .int (nI k)), (2, .int y), (1, .int (nI j)), (0, .ref g0)] := hl
            refine lv_iinc (k := 2) (v := nI (k + 1)) hx hb d_MO_bookmarkAt_89 hl rfl ((nI_succ k).symm) (by decide) rfl (fun ls hl => ?_)
            have hl : lv_has ls 6 [(5, .int (nI (k + 1))), (3, .int q), (4, .int f), (2, .int y), (1, .int (nI j)), (0, .ref g0)] := hl
            refine lv_goto (tgt := 30) hx hb d_MO_bookmarkAt_92 (by decide) ?_
            have hl := lv_sub hl [0, 2, 1, 3, 4, 5] (l' := [(5, .int (nI (k + 1))), (4, .int f), (3, .int q), (2, .int y), (1, .int (nI j)), (0, .ref g0)]) rfl
            exact ih_30 (k + 1) q f sc_30 ia_30 H _ ls (by omega) (by omega) hs hi hl hP hD hS
          · have h49_2 := h49_2
            have i49_2 := ti_ne h49_2
            (try rw [l_0] at i49_2)
            refine lv_iload_n hx hb d_MO_bookmarkAt_52 rfl (lv_at hl 2 rfl) ?_
            refine lv_iload_n hx hb d_MO_bookmarkAt_53 rfl (lv_at hl 3 rfl) ?_
            refine lv_icmp_ne (tgt := 62) hx hb d_MO_bookmarkAt_54 (by decide) (fun h54_3 => ?_) (fun h54_3 => ?_)
            · have h54_3 := h54_3
              have i54_3 := ti_ne h54_3
              refine lv_iload hx hb d_MO_bookmarkAt_62 (lv_at hl 1 rfl) ?_
              refine lv_istore hx hb d_MO_bookmarkAt_64 hl (by decide) rfl (fun ls hl => ?_)
              have hl : lv_has ls 6 [(4, .int f), (5, .int (nI k)), (3, .int q), (2, .int y), (1, .int (nI j)), (0, .ref g0)] := hl
              refine lv_aload_n hx hb d_MO_bookmarkAt_66 rfl (lv_at hl 5 rfl) ?_
              refine va_get (D := (dC, dI)) (ci := 5) (v := .ref (ad 19)) (C := R_MO) (T := F_MO) (N := 30) hx hb ht in_MO hown hK hP 0 rfl rfl 19 (by decide) (ht _ tb_650) (fun _ h9 => h9) rfl d_MO_bookmarkAt_67 ?_
              refine lv_bipush (v := 100) hx hb d_MO_bookmarkAt_70 (by decide) ?_
              refine lv_iload_n hx hb d_MO_bookmarkAt_72 rfl (lv_at hl 4 rfl) ?_
              refine lv_imul hx hb d_MO_bookmarkAt_73 ?_
              refine lv_topi (fun v9 ev9 => ?_)
              obtain rfl : v9 = nI (100 * j) := ev9.trans (by rw [show (100 : Int32) = nI 100 from rfl, pk_mul])
              refine lv_iload hx hb d_MO_bookmarkAt_74 (lv_at hl 1 rfl) ?_
              refine lv_iadd hx hb d_MO_bookmarkAt_76 ?_
              refine lv_topi (fun v10 ev10 => ?_)
              obtain rfl : v10 = nI ((100 * j) + k) := ev10.trans (by rw [nI_add])
              refine va_zald hx hb hK hP 16 1 rfl rfl (vp_in_nI (show (100 * j) + k < 4000 by omega) (by decide)) d_MO_bookmarkAt_77 ?_
              refine W.eq (g2 := F0 m 78 ls [.int (ia 19 ((100 * j) + k))]) (by rw [nI_clamp (show (100 * j) + k < 2 ^ 31 by omega), hi 19 (by decide)]) ?_
              refine lv_if_eq (tgt := 87) hx hb d_MO_bookmarkAt_78 (by decide) (fun h9 => absurd h9 (h49_2)) (fun _ => ?_)
              refine lv_iload_n hx hb d_MO_bookmarkAt_81 rfl (lv_at hl 2 rfl) ?_
              refine lv_iconst (v := 1) hx hb d_MO_bookmarkAt_82 (by decide) ?_
              refine lv_iadd hx hb d_MO_bookmarkAt_83 ?_
              refine lv_goto (tgt := 88) hx hb d_MO_bookmarkAt_84 (by decide) ?_
              refine lv_istore_n hx hb d_MO_bookmarkAt_88 rfl hl (by decide) rfl (fun ls hl => ?_)
              have hl : lv_has ls 6 [(3, .int (q + 1)), (4, .int f), (5, .int (nI k)), (2, .int y), (1, .int (nI j)), (0, .ref g0)] := hl
              refine lv_iinc (k := 2) (v := nI (k + 1)) hx hb d_MO_bookmarkAt_89 hl rfl ((nI_succ k).symm) (by decide) rfl (fun ls hl => ?_)
              have hl : lv_has ls 6 [(5, .int (nI (k + 1))), (3, .int (q + 1)), (4, .int f), (2, .int y), (1, .int (nI j)), (0, .ref g0)] := hl
              refine lv_goto (tgt := 30) hx hb d_MO_bookmarkAt_92 (by decide) ?_
              have hl := lv_sub hl [0, 2, 1, 3, 4, 5] (l' := [(5, .int (nI (k + 1))), (4, .int f), (3, .int (q + 1)), (2, .int y), (1, .int (nI j)), (0, .ref g0)]) rfl
              exact ih_30 (k + 1) (q + 1) f sc_30 ia_30 H _ ls (by omega) (by omega) hs hi hl hP hD hS
            · have h54_3 := h54_3
              have i54_3 := ti_eq h54_3
              refine lv_iload hx hb d_MO_bookmarkAt_57 (lv_at hl 0 rfl) ?_
              refine lv_goto (tgt := 64) hx hb d_MO_bookmarkAt_59 (by decide) ?_
              refine lv_istore hx hb d_MO_bookmarkAt_64 hl (by decide) rfl (fun ls hl => ?_)
              have hl : lv_has ls 6 [(4, .int (nI k)), (5, .int (nI k)), (3, .int q), (2, .int y), (1, .int (nI j)), (0, .ref g0)] := hl
              refine lv_aload_n hx hb d_MO_bookmarkAt_66 rfl (lv_at hl 5 rfl) ?_
              refine va_get (D := (dC, dI)) (ci := 5) (v := .ref (ad 19)) (C := R_MO) (T := F_MO) (N := 30) hx hb ht in_MO hown hK hP 0 rfl rfl 19 (by decide) (ht _ tb_650) (fun _ h9 => h9) rfl d_MO_bookmarkAt_67 ?_
              refine lv_bipush (v := 100) hx hb d_MO_bookmarkAt_70 (by decide) ?_
              refine lv_iload_n hx hb d_MO_bookmarkAt_72 rfl (lv_at hl 4 rfl) ?_
              refine lv_imul hx hb d_MO_bookmarkAt_73 ?_
              refine lv_topi (fun v11 ev11 => ?_)
              obtain rfl : v11 = nI (100 * j) := ev11.trans (by rw [show (100 : Int32) = nI 100 from rfl, pk_mul])
              refine lv_iload hx hb d_MO_bookmarkAt_74 (lv_at hl 1 rfl) ?_
              refine lv_iadd hx hb d_MO_bookmarkAt_76 ?_
              refine lv_topi (fun v12 ev12 => ?_)
              obtain rfl : v12 = nI ((100 * j) + k) := ev12.trans (by rw [nI_add])
              refine va_zald hx hb hK hP 16 1 rfl rfl (vp_in_nI (show (100 * j) + k < 4000 by omega) (by decide)) d_MO_bookmarkAt_77 ?_
              refine W.eq (g2 := F0 m 78 ls [.int (ia 19 ((100 * j) + k))]) (by rw [nI_clamp (show (100 * j) + k < 2 ^ 31 by omega), hi 19 (by decide)]) ?_
              refine lv_if_eq (tgt := 87) hx hb d_MO_bookmarkAt_78 (by decide) (fun h9 => absurd h9 (h49_2)) (fun _ => ?_)
              refine lv_iload_n hx hb d_MO_bookmarkAt_81 rfl (lv_at hl 2 rfl) ?_
              refine lv_iconst (v := 1) hx hb d_MO_bookmarkAt_82 (by decide) ?_
              refine lv_iadd hx hb d_MO_bookmarkAt_83 ?_
              refine lv_goto (tgt := 88) hx hb d_MO_bookmarkAt_84 (by decide) ?_
              refine lv_istore_n hx hb d_MO_bookmarkAt_88 rfl hl (by decide) rfl (fun ls hl => ?_)
              have hl : lv_has ls 6 [(3, .int (q + 1)), (4, .int (nI k)), (5, .int (nI k)), (2, .int y), (1, .int (nI j)), (0, .ref g0)] := hl
              refine lv_iinc (k := 2) (v := nI (k + 1)) hx hb d_MO_bookmarkAt_89 hl rfl ((nI_succ k).symm) (by decide) rfl (fun ls hl => ?_)
              have hl : lv_has ls 6 [(5, .int (nI (k + 1))), (3, .int (q + 1)), (4, .int (nI k)), (2, .int y), (1, .int (nI j)), (0, .ref g0)] := hl
              refine lv_goto (tgt := 30) hx hb d_MO_bookmarkAt_92 (by decide) ?_
              have hl := lv_sub hl [0, 2, 1, 3, 4, 5] (l' := [(5, .int (nI (k + 1))), (4, .int (nI k)), (3, .int (q + 1)), (2, .int y), (1, .int (nI j)), (0, .ref g0)]) rfl
              exact ih_30 (k + 1) (q + 1) (nI k) sc_30 ia_30 H _ ls (by omega) (by omega) hs hi hl hP hD hS
    have hl := lv_sub hl [0, 1, 2, 5, 4, 3] (l' := [(5, .int 0), (4, .int (-1)), (3, .int 0), (2, .int y), (1, .int (nI j)), (0, .ref g0)]) rfl
    have hl : lv_has ls 6 [(5, .int (nI 0)), (4, .int (-1)), (3, .int 0), (2, .int y), (1, .int (nI j)), (0, .ref g0)] := hl
    exact J_30 ((100 - 0) + 1) 0 0 (-1) sc3 ia4 H _ ls (by omega) (by omega) hs hi hl hP hD hS
  · refine lv_if_eq (tgt := 13) hx hb d_MO_bookmarkAt_6 (by decide) (fun _ => ?_) (fun h9 => absurd (by decide) h9)
    refine lv_iconst (v := 1) hx hb d_MO_bookmarkAt_13 (by decide) ?_
    refine t_call (u0 := (sc, ia)) (va_runV (C := R_MO) (As := [.int 1]) (rest := []) ⟨hx, hb, hml, hown, ht⟩ (t_MO_refused l dC dI g0 ad kI kZ sc ia s.heap.size Bd 1) (cwV 1 ht (gV tb_732 tb_734 ts_23 tb_5 tb_735) rfl rfl rfl (by decide +kernel) ⟨Nat.le_of_ble_eq_true rfl, Nat.le_of_ble_eq_true rfl⟩) ⟨frP_blind, va_recv (q := (R_MO, F_MO, 30)) hK hP rfl (show (MOW g0 ad kI kZ sc ia : va_W)[0]? = some _ from rfl), fr_pre hP hK hD hAB hBs hS hV⟩ rfl rfl hl.1 rfl (lv_room (Nat.le_of_ble_eq_true rfl)) d_MO_bookmarkAt_14 ⟨Nat.le_of_ble_eq_true rfl, Nat.le_of_ble_eq_true rfl⟩) hD hS hA (fun r13 u H locs hu hP hD hS => ?_)
    obtain ⟨sc14, ia15⟩ := u
    obtain ⟨hu13_0, hu13_1, hu13_2, hu13_3⟩ := hu
    have hu13_0 : same [0] sc sc14 := hu13_0
    have hu13_1 : same [] ia ia15 := hu13_1
    have hu13_2 : sc14 0 = 1 := hu13_2
    have hu13_3 : ((0 : Int32) < 1 ∧ r13 = 1 ∨ ¬ (0 : Int32) < 1 ∧ r13 = 0) := hu13_3
    have hP : va_P (dC, dI) cls_ (MOW g0 ad kI kZ sc14 ia15) H := hP
    have hD : va_D A (MOW g0 ad kI kZ sc14 ia15) := hD
    have hs : same [0] sc sc14 := hs.tr (hu13_0.wk (by decide))
    have hi : same [] ia ia15 := hi.tr (hu13_1.wk (by decide))
    refine W.eq (g2 := F0 m 17 ls [.int r13]) rfl ?_
    refine W.cs (cells' := 0) (slots' := 0) rfl rfl ?_
    obtain rfl : r13 = 1 := by rcases hu13_3 with ⟨_, q⟩ | ⟨q, _⟩; { exact q }; { exact absurd (by decide) q }
    refine lv_if_eq (tgt := 22) hx hb d_MO_bookmarkAt_17 (by decide) (fun h9 => absurd h9 (by decide)) (fun _ => ?_)
    refine lv_iconst (v := 0) hx hb d_MO_bookmarkAt_20 (by decide) ?_
    have hz0 : MI T N sc14 ia15 := hI.same (hs.wk (by decide)) (hi.wk (by decide))
    exact W.iret (v := 0) hx hb hr (fun t ht9 hW => ⟨⟨0, (sc14, ia15), rfl, ⟨hs, hi, hz0⟩, by rw [ht9]; exact hP, hD⟩, hS.F ht9⟩) hS.2.2 d_MO_bookmarkAt_21
set_option maxHeartbeats 8000000 in
set_option maxRecDepth 100000 in
theorem t_MO_lose (l : Launch) (dC : Nat → ClassId) (dI : Nat → Nat → Nat) (g0 : Nat) (ad : Nat → Nat) (kI kZ : ClassId) (sc : Nat → Int32) (ia : Nat → Nat → Int32) (sz Bd : Nat) (j : Nat) (hj : j < 40) (q : Nat) (hq : q < 100) (eq : sc 1 - ia 12 j = nI q) : Met l y_MO_lose w_MO_lose ({ frames := 0, cells := 0, slots := 0, locals := 0 }) (frP (dC, dI) (MOW g0 ad kI kZ sc ia) (MOT kI kZ) sz Bd [.ref g0, .int (nI j)]) (tQ (dC, dI) (mW g0 ad kI kZ) (va_A (MOW g0 ad kI kZ sc ia) sz) vI (fun r u => same [] sc u.1 ∧ same [17, 20] ia u.2)) 0 0 (va_A (MOW g0 ad kI kZ sc ia) sz) := by
  refine Met.ofW (cc := c_MO_lose) (maxL := 5) (ret := (some .int)) (by decide) rfl ?_
  intro p e s m args below meth c s₁ B hml hv
  obtain ⟨rfl, ⟨hsz, hBs⟩, hP, hK, hD0, hV⟩ := hv
  have hx := B.exec
  have hb := B.bytes
  have hr := B.returns
  have ht : ∀ w ∈ tb_, w.before _ s = true := fun w h => atoms_spec (ws := w_MO_lose) B.pre w (List.mem_cons_of_mem _ h)
  have hown : s.vm.findClass R_MO = some m.cls := findClass_of_methodNamed B.named
  have hlocks := B.notSynchronized
  subst hsz
  have hD := hD0.self (sz := s.heap.size)
  have hAB : ∀ q, va_A (MOW g0 ad kI kZ sc ia) s.heap.size q → Bd ≤ q := fr_AB hD0 hBs
  generalize hAe : va_A (MOW g0 ad kI kZ sc ia) s.heap.size = A at hD hAB ⊢
  have hA : ∀ q : Nat, s.heap.size ≤ q → A q := fun q h => by rw [← hAe]; exact Or.inr h
  have hS : va_S A s.heap s.heap [] := va_S.rf
  have hs : same [] sc sc := same.rf
  have hi : same [17, 20] ia ia := same.rf
  have hP : va_P (dC, dI) cls_ (MOW g0 ad kI kZ sc ia) s.heap := hP
  have hl := lv_entry ([.ref g0, .int (nI j)]) (n := 5) (Nat.le_of_ble_eq_true rfl)
  rw [lg_entry_eq]
  generalize (lg_sl ([.ref g0, .int (nI j)]) ++ List.replicate (5 - (lg_sl ([.ref g0, .int (nI j)])).length) Slot.unset).toArray = ls at hl ⊢
  have hl : lv_has ls 5 [(0, .ref g0), (1, .int (nI j))] := hl
  refine lv_aload_n hx hb d_MO_lose_0 rfl (lv_at hl 0 rfl) ?_
  refine va_get (D := (dC, dI)) (ci := 5) (v := .int (sc 1)) (C := R_MO) (T := F_MO) (N := 30) hx hb ht in_MO hown hK hP 0 rfl rfl 1 (by decide) (ht _ tb_632) (fun _ h9 => h9) rfl d_MO_lose_1 ?_
  refine lv_aload_n hx hb d_MO_lose_4 rfl (lv_at hl 0 rfl) ?_
  refine va_get (D := (dC, dI)) (ci := 5) (v := .ref (ad 12)) (C := R_MO) (T := F_MO) (N := 30) hx hb ht in_MO hown hK hP 0 rfl rfl 12 (by decide) (ht _ tb_643) (fun _ h9 => h9) rfl d_MO_lose_5 ?_
  refine lv_iload_n hx hb d_MO_lose_8 rfl (lv_at hl 1 rfl) ?_
  refine va_iald hx hb hK hP 9 0 rfl rfl (vp_in_nI (show j < 40 by omega) (by decide)) d_MO_lose_9 ?_
  refine W.eq (g2 := F0 m 10 ls [.int (ia 12 j), .int (sc 1)]) (by rw [nI_clamp (show j < 2 ^ 31 by omega)]) ?_
  refine lv_isub hx hb d_MO_lose_10 ?_
  refine lv_topi (fun v1 ev1 => ?_)
  obtain rfl : v1 = nI q := ev1.trans (eq)
  refine lv_istore_n hx hb d_MO_lose_11 rfl hl (by decide) rfl (fun ls hl => ?_)
  have hl : lv_has ls 5 [(2, .int (nI q)), (0, .ref g0), (1, .int (nI j))] := hl
  refine lv_iload_n hx hb d_MO_lose_12 rfl (lv_at hl 0 rfl) ?_
  refine lv_iconst (v := 4) hx hb d_MO_lose_13 (by decide) ?_
  refine lv_irem hx hb d_MO_lose_14 (by decide) ?_
  refine lv_topi (fun v2 ev2 => ?_)
  obtain rfl : v2 = nI (q % 4) := ev2.trans (by rw [show (4 : Int32) = nI 4 from rfl, pk_rem (show q < 2 ^ 31 by omega) (by decide) (by decide)])
  refine lv_if_ne (tgt := 20) hx hb d_MO_lose_15 (by decide) (fun h15_1 => ?_) (fun h15_1 => ?_)
  · have h15_1 := h15_1
    have i15_1 := ti_ne h15_1
    (try rw [nI_toInt (show q % 4 < 2 ^ 31 by omega)] at i15_1)
    (try rw [l_0] at i15_1)
    refine lv_iconst (v := 0) hx hb d_MO_lose_20 (by decide) ?_
    refine lv_istore_n hx hb d_MO_lose_21 rfl hl (by decide) rfl (fun ls hl => ?_)
    have hl : lv_has ls 5 [(3, .int 0), (2, .int (nI q)), (0, .ref g0), (1, .int (nI j))] := hl
    refine lv_iload_n hx hb d_MO_lose_22 rfl (lv_at hl 1 rfl) ?_
    refine lv_iconst (v := 4) hx hb d_MO_lose_23 (by decide) ?_
    refine lv_idiv hx hb d_MO_lose_24 (by decide) ?_
    refine lv_topi (fun v3 ev3 => ?_)
    obtain rfl : v3 = nI (q / 4) := ev3.trans (by rw [show (4 : Int32) = nI 4 from rfl, pk_div (show q < 2 ^ 31 by omega) (by decide) (by decide)])
    refine lv_iconst (v := 4) hx hb d_MO_lose_25 (by decide) ?_
    refine lv_imul hx hb d_MO_lose_26 ?_
    refine lv_topi (fun v4 ev4 => ?_)
    obtain rfl : v4 = nI ((q / 4) * 4) := ev4.trans (by rw [show (4 : Int32) = nI 4 from rfl, pk_mul])
    refine lv_istore hx hb d_MO_lose_27 hl (by decide) rfl (fun ls hl => ?_)
    have hl : lv_has ls 5 [(4, .int (nI ((q / 4) * 4))), (3, .int 0), (2, .int (nI q)), (0, .ref g0), (1, .int (nI j))] := hl
    have J_29 : ∀ (n_29 : Nat) (k : Nat) (n : Int32) (sc_29 : Nat → Int32) (ia_29 : Nat → Nat → Int32) (H : Heap) (locs : List Loc) (ls : Array Slot), q / 4 * 4 + 4 - k < n_29 → k ≤ q / 4 * 4 + 4 → same [] sc sc_29 → same [17, 20] ia ia_29 → lv_has ls 5 [(4, .int (nI k)), (3, .int n), (2, .int (nI q)), (1, .int (nI j)), (0, .ref g0)] → va_P (dC, dI) cls_ (MOW g0 ad kI kZ sc_29 ia_29) H → va_D A (MOW g0 ad kI kZ sc_29 ia_29) → va_S A s.heap H locs → W p l e (headSpec w_MO_lose ({ frames := 0, cells := 0, slots := 0, locals := 0 })).room s m (([.ref g0, .int (nI j)] : List Value).toArray) below meth c H locs 0 0 (MQ below (tQ (dC, dI) (mW g0 ad kI kZ) A vI (fun r u => same [] sc u.1 ∧ same [17, 20] ia u.2)) (([.ref g0, .int (nI j)] : List Value).toArray) s 0 0 A) (F0 m 29 ls []) := by
      intro n_29
      induction n_29 with
      | zero => intro k n sc_29 ia_29 H locs ls hmu hc29_0 hs hi hl hP hD hS; exact absurd hmu (by omega)
      | succ n_29 ih_29 =>
        intro k n sc_29 ia_29 H locs ls hmu hc29_0 hs hi hl hP hD hS
        refine lv_iload hx hb d_MO_lose_29 (lv_at hl 0 rfl) ?_
        refine lv_iload_n hx hb d_MO_lose_31 rfl (lv_at hl 2 rfl) ?_
        refine lv_iconst (v := 4) hx hb d_MO_lose_32 (by decide) ?_
        refine lv_idiv hx hb d_MO_lose_33 (by decide) ?_
        refine lv_topi (fun v5 ev5 => ?_)
        obtain rfl : v5 = nI (q / 4) := ev5.trans (by rw [show (4 : Int32) = nI 4 from rfl, pk_div (show q < 2 ^ 31 by omega) (by decide) (by decide)])
        refine lv_iconst (v := 4) hx hb d_MO_lose_34 (by decide) ?_
        refine lv_imul hx hb d_MO_lose_35 ?_
        refine lv_topi (fun v6 ev6 => ?_)
        obtain rfl : v6 = nI ((q / 4) * 4) := ev6.trans (by rw [show (4 : Int32) = nI 4 from rfl, pk_mul])
        refine lv_iconst (v := 4) hx hb d_MO_lose_36 (by decide) ?_
        refine lv_iadd hx hb d_MO_lose_37 ?_
        refine lv_topi (fun v7 ev7 => ?_)
        obtain rfl : v7 = nI (((q / 4) * 4) + 4) := ev7.trans (by rw [show (4 : Int32) = nI 4 from rfl, nI_add])
        refine lv_icmp_ge (tgt := 83) hx hb d_MO_lose_38 (by decide) (fun h38_2 => ?_) (fun h38_2 => ?_)
        · have h38_2 := h38_2
          have i38_2 := ti_le h38_2
          (try rw [nI_toInt (show k < 2 ^ 31 by omega)] at i38_2)
          (try rw [nI_toInt (show ((q / 4) * 4) + 4 < 2 ^ 31 by omega)] at i38_2)
          refine lv_aload_n hx hb d_MO_lose_83 rfl (lv_at hl 4 rfl) ?_
          refine va_get (D := (dC, dI)) (ci := 5) (v := .ref (ad 20)) (C := R_MO) (T := F_MO) (N := 30) hx hb ht in_MO hown hK hP 0 rfl rfl 20 (by decide) (ht _ tb_651) (fun _ h9 => h9) rfl d_MO_lose_84 ?_
          refine lv_bipush (v := 25) hx hb d_MO_lose_87 (by decide) ?_
          refine lv_iload_n hx hb d_MO_lose_89 rfl (lv_at hl 3 rfl) ?_
          refine lv_imul hx hb d_MO_lose_90 ?_
          refine lv_topi (fun v8 ev8 => ?_)
          obtain rfl : v8 = nI (25 * j) := ev8.trans (by rw [show (25 : Int32) = nI 25 from rfl, pk_mul])
          refine lv_iload_n hx hb d_MO_lose_91 rfl (lv_at hl 2 rfl) ?_
          refine lv_iconst (v := 4) hx hb d_MO_lose_92 (by decide) ?_
          refine lv_idiv hx hb d_MO_lose_93 (by decide) ?_
          refine lv_topi (fun v9 ev9 => ?_)
          obtain rfl : v9 = nI (q / 4) := ev9.trans (by rw [show (4 : Int32) = nI 4 from rfl, pk_div (show q < 2 ^ 31 by omega) (by decide) (by decide)])
          refine lv_iadd hx hb d_MO_lose_94 ?_
          refine lv_topi (fun v10 ev10 => ?_)
          obtain rfl : v10 = nI ((25 * j) + (q / 4)) := ev10.trans (by rw [nI_add])
          refine lv_iconst (v := 0) hx hb d_MO_lose_95 (by decide) ?_
          refine va_zast hx hb hK hP hD hS 17 1 rfl rfl (vp_in_nI (show (25 * j) + (q / 4) < 1000 by omega) (by decide)) d_MO_lose_96 (fun H locs hP hD hS => ?_)
          rw [nI_clamp (show (25 * j) + (q / 4) < 2 ^ 31 by omega)] at hP hD
          have hP : va_P (dC, dI) cls_ (MOW g0 ad kI kZ sc_29 (va_up ia_29 20 (upd (ia_29 20) ((25 * j) + (q / 4)) (vp_nar .boolean 0)))) H := hP
          have hD : va_D A (MOW g0 ad kI kZ sc_29 (va_up ia_29 20 (upd (ia_29 20) ((25 * j) + (q / 4)) (vp_nar .boolean 0)))) := hD
          obtain ⟨ia11, eia11⟩ : ∃ q9_, q9_ = va_up ia_29 20 (upd (ia_29 20) ((25 * j) + (q / 4)) (vp_nar .boolean 0)) := ⟨_, rfl⟩
          rw [← eia11] at hP hD
          have hi : same [17, 20] ia ia11 := by rw [eia11]; exact hi.up (by decide)
          refine lv_iload_n hx hb d_MO_lose_97 rfl (lv_at hl 1 rfl) ?_
          exact W.iret (v := n) hx hb hr (fun t ht9 hW => ⟨⟨n, (sc_29, ia11), rfl, ⟨hs, hi⟩, by rw [ht9]; exact hP, hD⟩, hS.F ht9⟩) hS.2.2 d_MO_lose_98
        · have h38_2 := h38_2
          have i38_2 := ti_nle h38_2
          (try rw [nI_toInt (show k < 2 ^ 31 by omega)] at i38_2)
          (try rw [nI_toInt (show ((q / 4) * 4) + 4 < 2 ^ 31 by omega)] at i38_2)
          refine lv_aload_n hx hb d_MO_lose_41 rfl (lv_at hl 4 rfl) ?_
          refine va_get (D := (dC, dI)) (ci := 5) (v := .ref (ad 17)) (C := R_MO) (T := F_MO) (N := 30) hx hb ht in_MO hown hK hP 0 rfl rfl 17 (by decide) (ht _ tb_648) (fun _ h9 => h9) rfl d_MO_lose_42 ?_
          refine lv_bipush (v := 100) hx hb d_MO_lose_45 (by decide) ?_
          refine lv_iload_n hx hb d_MO_lose_47 rfl (lv_at hl 3 rfl) ?_
          refine lv_imul hx hb d_MO_lose_48 ?_
          refine lv_topi (fun v12 ev12 => ?_)
          obtain rfl : v12 = nI (100 * j) := ev12.trans (by rw [show (100 : Int32) = nI 100 from rfl, pk_mul])
          refine lv_iload hx hb d_MO_lose_49 (lv_at hl 0 rfl) ?_
          refine lv_iadd hx hb d_MO_lose_51 ?_
          refine lv_topi (fun v13 ev13 => ?_)
          obtain rfl : v13 = nI ((100 * j) + k) := ev13.trans (by rw [nI_add])
          refine va_zald hx hb hK hP 14 1 rfl rfl (vp_in_nI (show (100 * j) + k < 4000 by omega) (by decide)) d_MO_lose_52 ?_
          refine W.eq (g2 := F0 m 53 ls [.int (ia_29 17 ((100 * j) + k))]) (by rw [nI_clamp (show (100 * j) + k < 2 ^ 31 by omega)]) ?_
          refine lv_if_eq (tgt := 62) hx hb d_MO_lose_53 (by decide) (fun h53_3 => ?_) (fun h53_3 => ?_)
          · have h53_3 := h53_3
            have i53_3 := ti_eq h53_3
            (try rw [l_0] at i53_3)
            refine lv_iload_n hx hb d_MO_lose_62 rfl (lv_at hl 1 rfl) ?_
            refine lv_istore_n hx hb d_MO_lose_63 rfl hl (by decide) rfl (fun ls hl => ?_)
            have hl : lv_has ls 5 [(3, .int n), (4, .int (nI k)), (2, .int (nI q)), (1, .int (nI j)), (0, .ref g0)] := hl
            refine lv_aload_n hx hb d_MO_lose_64 rfl (lv_at hl 4 rfl) ?_
            refine va_get (D := (dC, dI)) (ci := 5) (v := .ref (ad 17)) (C := R_MO) (T := F_MO) (N := 30) hx hb ht in_MO hown hK hP 0 rfl rfl 17 (by decide) (ht _ tb_648) (fun _ h9 => h9) rfl d_MO_lose_65 ?_
            refine lv_bipush (v := 100) hx hb d_MO_lose_68 (by decide) ?_
            refine lv_iload_n hx hb d_MO_lose_70 rfl (lv_at hl 3 rfl) ?_
            refine lv_imul hx hb d_MO_lose_71 ?_
            refine lv_topi (fun v14 ev14 => ?_)
            obtain rfl : v14 = nI (100 * j) := ev14.trans (by rw [show (100 : Int32) = nI 100 from rfl, pk_mul])
            refine lv_iload hx hb d_MO_lose_72 (lv_at hl 1 rfl) ?_
            refine lv_iadd hx hb d_MO_lose_74 ?_
            refine lv_topi (fun v15 ev15 => ?_)
            obtain rfl : v15 = nI ((100 * j) + k) := ev15.trans (by rw [nI_add])
            refine lv_iconst (v := 0) hx hb d_MO_lose_75 (by decide) ?_
            refine va_zast hx hb hK hP hD hS 14 1 rfl rfl (vp_in_nI (show (100 * j) + k < 4000 by omega) (by decide)) d_MO_lose_76 (fun H locs hP hD hS => ?_)
            rw [nI_clamp (show (100 * j) + k < 2 ^ 31 by omega)] at hP hD
            have hP : va_P (dC, dI) cls_ (MOW g0 ad kI kZ sc_29 (va_up ia_29 17 (upd (ia_29 17) ((100 * j) + k) (vp_nar .boolean 0)))) H := hP
            have hD : va_D A (MOW g0 ad kI kZ sc_29 (va_up ia_29 17 (upd (ia_29 17) ((100 * j) + k) (vp_nar .boolean 0)))) := hD
            obtain ⟨ia16, eia16⟩ : ∃ q9_, q9_ = va_up ia_29 17 (upd (ia_29 17) ((100 * j) + k) (vp_nar .boolean 0)) := ⟨_, rfl⟩
            rw [← eia16] at hP hD
            have hi : same [17, 20] ia ia16 := by rw [eia16]; exact hi.up (by decide)
            refine lv_iinc (k := 1) (v := nI (k + 1)) hx hb d_MO_lose_77 hl rfl ((nI_succ k).symm) (by decide) rfl (fun ls hl => ?_)
            have hl : lv_has ls 5 [(4, .int (nI (k + 1))), (3, .int n), (2, .int (nI q)), (1, .int (nI j)), (0, .ref g0)] := hl
            refine lv_goto (tgt := 29) hx hb d_MO_lose_80 (by decide) ?_
            exact ih_29 (k + 1) n sc_29 ia16 H _ ls (by omega) (by omega) hs hi hl hP hD hS
          · have h53_3 := h53_3
            have i53_3 := ti_ne h53_3
            (try rw [l_0] at i53_3)
            refine lv_iload_n hx hb d_MO_lose_56 rfl (lv_at hl 1 rfl) ?_
            refine lv_iconst (v := 1) hx hb d_MO_lose_57 (by decide) ?_
            refine lv_iadd hx hb d_MO_lose_58 ?_
            refine lv_goto (tgt := 63) hx hb d_MO_lose_59 (by decide) ?_
            refine lv_istore_n hx hb d_MO_lose_63 rfl hl (by decide) rfl (fun ls hl => ?_)
            have hl : lv_has ls 5 [(3, .int (n + 1)), (4, .int (nI k)), (2, .int (nI q)), (1, .int (nI j)), (0, .ref g0)] := hl
            refine lv_aload_n hx hb d_MO_lose_64 rfl (lv_at hl 4 rfl) ?_
            refine va_get (D := (dC, dI)) (ci := 5) (v := .ref (ad 17)) (C := R_MO) (T := F_MO) (N := 30) hx hb ht in_MO hown hK hP 0 rfl rfl 17 (by decide) (ht _ tb_648) (fun _ h9 => h9) rfl d_MO_lose_65 ?_
            refine lv_bipush (v := 100) hx hb d_MO_lose_68 (by decide) ?_
            refine lv_iload_n hx hb d_MO_lose_70 rfl (lv_at hl 3 rfl) ?_
            refine lv_imul hx hb d_MO_lose_71 ?_
            refine lv_topi (fun v17 ev17 => ?_)
            obtain rfl : v17 = nI (100 * j) := ev17.trans (by rw [show (100 : Int32) = nI 100 from rfl, pk_mul])
            refine lv_iload hx hb d_MO_lose_72 (lv_at hl 1 rfl) ?_
            refine lv_iadd hx hb d_MO_lose_74 ?_
            refine lv_topi (fun v18 ev18 => ?_)
            obtain rfl : v18 = nI ((100 * j) + k) := ev18.trans (by rw [nI_add])
            refine lv_iconst (v := 0) hx hb d_MO_lose_75 (by decide) ?_
            refine va_zast hx hb hK hP hD hS 14 1 rfl rfl (vp_in_nI (show (100 * j) + k < 4000 by omega) (by decide)) d_MO_lose_76 (fun H locs hP hD hS => ?_)
            rw [nI_clamp (show (100 * j) + k < 2 ^ 31 by omega)] at hP hD
            have hP : va_P (dC, dI) cls_ (MOW g0 ad kI kZ sc_29 (va_up ia_29 17 (upd (ia_29 17) ((100 * j) + k) (vp_nar .boolean 0)))) H := hP
            have hD : va_D A (MOW g0 ad kI kZ sc_29 (va_up ia_29 17 (upd (ia_29 17) ((100 * j) + k) (vp_nar .boolean 0)))) := hD
            obtain ⟨ia19, eia19⟩ : ∃ q9_, q9_ = va_up ia_29 17 (upd (ia_29 17) ((100 * j) + k) (vp_nar .boolean 0)) := ⟨_, rfl⟩
            rw [← eia19] at hP hD
            have hi : same [17, 20] ia ia19 := by rw [eia19]; exact hi.up (by decide)
            refine lv_iinc (k := 1) (v := nI (k + 1)) hx hb d_MO_lose_77 hl rfl ((nI_succ k).symm) (by decide) rfl (fun ls hl => ?_)
            have hl : lv_has ls 5 [(4, .int (nI (k + 1))), (3, .int (n + 1)), (2, .int (nI q)), (1, .int (nI j)), (0, .ref g0)] := hl
            refine lv_goto (tgt := 29) hx hb d_MO_lose_80 (by decide) ?_
            exact ih_29 (k + 1) (n + 1) sc_29 ia19 H _ ls (by omega) (by omega) hs hi hl hP hD hS
    have hl := lv_sub hl [0, 1, 2, 4, 3] (l' := [(4, .int (nI ((q / 4) * 4))), (3, .int 0), (2, .int (nI q)), (1, .int (nI j)), (0, .ref g0)]) rfl
    exact J_29 ((q / 4 * 4 + 4 - ((q / 4) * 4)) + 1) ((q / 4) * 4) 0 sc ia s.heap _ ls (by omega) (by omega) hs hi hl hP hD hS
  · have h15_1 := h15_1
    have i15_1 := ti_eq h15_1
    (try rw [nI_toInt (show q % 4 < 2 ^ 31 by omega)] at i15_1)
    (try rw [l_0] at i15_1)
    refine lv_iconst (v := 0) hx hb d_MO_lose_18 (by decide) ?_
    exact W.iret (v := 0) hx hb hr (fun t ht9 hW => ⟨⟨0, (sc, ia), rfl, ⟨hs, hi⟩, by rw [ht9]; exact hP, hD⟩, hS.F ht9⟩) hS.2.2 d_MO_lose_19
set_option maxHeartbeats 8000000 in
set_option maxRecDepth 100000 in
theorem t_MO_cut (l : Launch) (dC : Nat → ClassId) (dI : Nat → Nat → Nat) (g0 : Nat) (ad : Nat → Nat) (kI kZ : ClassId) (sc : Nat → Int32) (ia : Nat → Nat → Int32) (sz Bd : Nat) (T : Int) (N : Nat) (hI : MI T N sc ia) (x : Int32) (hT1 : (sc 1).toInt + 1000 ≤ T) : Met l y_MO_cut w_MO_cut ({ frames := 1, cells := 0, slots := 0, locals := 24 }) (frP (dC, dI) (MOW g0 ad kI kZ sc ia) (MOT kI kZ) sz Bd [.ref g0, .int x]) (tQ (dC, dI) (mW g0 ad kI kZ) (va_A (MOW g0 ad kI kZ sc ia) sz) vI (fun r u => same [0, 1, 28] sc u.1 ∧ same [11, 13, 17, 20] ia u.2 ∧ MI T N u.1 u.2 ∧ (((sc 1).toInt ≤ x.toInt ∧ x.toInt ≤ (sc 1).toInt + 1000) ∧ u.1 0 = 0 ∧ u.1 1 = x ∨ ¬ ((sc 1).toInt ≤ x.toInt ∧ x.toInt ≤ (sc 1).toInt + 1000) ∧ u.1 0 = 1 ∧ u.1 1 = sc 1))) 0 0 (va_A (MOW g0 ad kI kZ sc ia) sz) := by
  refine Met.ofW (cc := c_MO_cut) (maxL := 4) (ret := (some .int)) (by decide) rfl ?_
  intro p e s m args below meth c s₁ B hml hv
  obtain ⟨rfl, ⟨hsz, hBs⟩, hP, hK, hD0, hV⟩ := hv
  have hx := B.exec
  have hb := B.bytes
  have hr := B.returns
  have ht : ∀ w ∈ tb_, w.before _ s = true := fun w h => atoms_spec (ws := w_MO_cut) B.pre w (List.mem_cons_of_mem _ h)
  have hown : s.vm.findClass R_MO = some m.cls := findClass_of_methodNamed B.named
  have hlocks := B.notSynchronized
  subst hsz
  have hD := hD0.self (sz := s.heap.size)
  have hAB : ∀ q, va_A (MOW g0 ad kI kZ sc ia) s.heap.size q → Bd ≤ q := fr_AB hD0 hBs
  generalize hAe : va_A (MOW g0 ad kI kZ sc ia) s.heap.size = A at hD hAB ⊢
  have hA : ∀ q : Nat, s.heap.size ≤ q → A q := fun q h => by rw [← hAe]; exact Or.inr h
  have hS : va_S A s.heap s.heap [] := va_S.rf
  have hs : same [0, 1, 28] sc sc := same.rf
  have hi : same [11, 13, 17, 20] ia ia := same.rf
  have hP : va_P (dC, dI) cls_ (MOW g0 ad kI kZ sc ia) s.heap := hP
  have hl := lv_entry ([.ref g0, .int x]) (n := 4) (Nat.le_of_ble_eq_true rfl)
  rw [lg_entry_eq]
  generalize (lg_sl ([.ref g0, .int x]) ++ List.replicate (4 - (lg_sl ([.ref g0, .int x])).length) Slot.unset).toArray = ls at hl ⊢
  have hl : lv_has ls 4 [(0, .ref g0), (1, .int x)] := hl
  have e4 := hI.e4
  have hN := hI.hN
  have hT := hI.T
  refine lv_aload_n hx hb d_MO_cut_0 rfl (lv_at hl 0 rfl) ?_
  refine lv_iload_n hx hb d_MO_cut_1 rfl (lv_at hl 1 rfl) ?_
  refine lv_aload_n hx hb d_MO_cut_2 rfl (lv_at hl 0 rfl) ?_
  refine va_get (D := (dC, dI)) (ci := 5) (v := .int (sc 1)) (C := R_MO) (T := F_MO) (N := 30) hx hb ht in_MO hown hK hP 0 rfl rfl 1 (by decide) (ht _ tb_632) (fun _ h9 => h9) rfl d_MO_cut_3 ?_
  refine lv_icmp_lt (tgt := 24) hx hb d_MO_cut_6 (by decide) (fun h6_1 => ?_) (fun h6_1 => ?_)
  · have h6_1 := h6_1
    have i6_1 := ti_lt h6_1
    refine lv_iconst (v := 1) hx hb d_MO_cut_24 (by decide) ?_
    refine lv_goto (tgt := 29) hx hb d_MO_cut_25 (by decide) ?_
    refine t_call (u0 := (sc, ia)) (va_runV (C := R_MO) (As := [.int 1]) (rest := []) ⟨hx, hb, hml, hown, ht⟩ (t_MO_refused l dC dI g0 ad kI kZ sc ia s.heap.size Bd 1) (cwV 1 ht (gV tb_732 tb_734 ts_23 tb_5 tb_735) rfl rfl rfl (by decide +kernel) ⟨Nat.le_of_ble_eq_true rfl, Nat.le_of_ble_eq_true rfl⟩) ⟨frP_blind, va_recv (q := (R_MO, F_MO, 30)) hK hP rfl (show (MOW g0 ad kI kZ sc ia : va_W)[0]? = some _ from rfl), fr_pre hP hK hD hAB hBs hS hV⟩ rfl rfl hl.1 rfl (lv_room (Nat.le_of_ble_eq_true rfl)) d_MO_cut_29 ⟨Nat.le_of_ble_eq_true rfl, Nat.le_of_ble_eq_true rfl⟩) hD hS hA (fun r1 u H locs hu hP hD hS => ?_)
    obtain ⟨sc2, ia3⟩ := u
    obtain ⟨hu1_0, hu1_1, hu1_2, hu1_3⟩ := hu
    have hu1_0 : same [0] sc sc2 := hu1_0
    have hu1_1 : same [] ia ia3 := hu1_1
    have hu1_2 : sc2 0 = 1 := hu1_2
    have hu1_3 : ((0 : Int32) < 1 ∧ r1 = 1 ∨ ¬ (0 : Int32) < 1 ∧ r1 = 0) := hu1_3
    have hP : va_P (dC, dI) cls_ (MOW g0 ad kI kZ sc2 ia3) H := hP
    have hD : va_D A (MOW g0 ad kI kZ sc2 ia3) := hD
    have hs : same [0, 1, 28] sc sc2 := hs.tr (hu1_0.wk (by decide))
    have hi : same [11, 13, 17, 20] ia ia3 := hi.tr (hu1_1.wk (by decide))
    refine W.eq (g2 := F0 m 32 ls [.int r1]) rfl ?_
    refine W.cs (cells' := 0) (slots' := 0) rfl rfl ?_
    obtain rfl : r1 = 1 := by rcases hu1_3 with ⟨_, q⟩ | ⟨q, _⟩; { exact q }; { exact absurd (by decide) q }
    refine lv_if_eq (tgt := 37) hx hb d_MO_cut_32 (by decide) (fun h9 => absurd h9 (by decide)) (fun _ => ?_)
    refine lv_iconst (v := 0) hx hb d_MO_cut_35 (by decide) ?_
    have hz0 : MI T N sc2 ia3 := hI.same (hu1_0.wk (by decide)) ((same.rf).tr (hu1_1.wk (by decide)))
    have hz1 : (((sc 1).toInt ≤ x.toInt ∧ x.toInt ≤ (sc 1).toInt + 1000) ∧ sc2 0 = 0 ∧ sc2 1 = x ∨ ¬ ((sc 1).toInt ≤ x.toInt ∧ x.toInt ≤ (sc 1).toInt + 1000) ∧ sc2 0 = 1 ∧ sc2 1 = sc 1) := Or.inr ⟨by omega, hu1_2, hu1_0 1 (by decide)⟩
    exact W.iret (v := 0) hx hb hr (fun t ht9 hW => ⟨⟨0, (sc2, ia3), rfl, ⟨hs, hi, hz0, hz1⟩, by rw [ht9]; exact hP, hD⟩, hS.F ht9⟩) hS.2.2 d_MO_cut_36
  · have h6_1 := h6_1
    have i6_1 := ti_nlt h6_1
    refine lv_iload_n hx hb d_MO_cut_9 rfl (lv_at hl 1 rfl) ?_
    refine lv_i2l hx hb d_MO_cut_10 rfl ?_
    refine lv_aload_n hx hb d_MO_cut_11 rfl (lv_at hl 0 rfl) ?_
    refine va_get (D := (dC, dI)) (ci := 5) (v := .int (sc 1)) (C := R_MO) (T := F_MO) (N := 30) hx hb ht in_MO hown hK hP 0 rfl rfl 1 (by decide) (ht _ tb_632) (fun _ h9 => h9) rfl d_MO_cut_12 ?_
    refine lv_i2l hx hb d_MO_cut_15 rfl ?_
    refine lv_ldc2 (v := 1000) hx hb hown (ht _ tb_727) d_MO_cut_16 ?_
    refine lv_ladd hx hb d_MO_cut_19 ?_
    refine W.lcmp hx hb d_MO_cut_20 ?_
    refine lv_if_le (tgt := 28) hx hb d_MO_cut_21 (by decide) (fun h21_2 => ?_) (fun h21_2 => ?_)
    · have h21_2 := h21_2
      have i21_2 := ti_le h21_2
      (try rw [l_0] at i21_2)
      have lg9 := lc_p hT.2.2.1 (by omega) h21_2
      refine lv_iconst (v := 0) hx hb d_MO_cut_28 (by decide) ?_
      refine t_call (u0 := (sc, ia)) (va_runV (C := R_MO) (As := [.int 0]) (rest := []) ⟨hx, hb, hml, hown, ht⟩ (t_MO_refused l dC dI g0 ad kI kZ sc ia s.heap.size Bd 0) (cwV 1 ht (gV tb_732 tb_734 ts_23 tb_5 tb_735) rfl rfl rfl (by decide +kernel) ⟨Nat.le_of_ble_eq_true rfl, Nat.le_of_ble_eq_true rfl⟩) ⟨frP_blind, va_recv (q := (R_MO, F_MO, 30)) hK hP rfl (show (MOW g0 ad kI kZ sc ia : va_W)[0]? = some _ from rfl), fr_pre hP hK hD hAB hBs hS hV⟩ rfl rfl hl.1 rfl (lv_room (Nat.le_of_ble_eq_true rfl)) d_MO_cut_29 ⟨Nat.le_of_ble_eq_true rfl, Nat.le_of_ble_eq_true rfl⟩) hD hS hA (fun r4 u H locs hu hP hD hS => ?_)
      obtain ⟨sc5, ia6⟩ := u
      obtain ⟨hu4_0, hu4_1, hu4_2, hu4_3⟩ := hu
      have hu4_0 : same [0] sc sc5 := hu4_0
      have hu4_1 : same [] ia ia6 := hu4_1
      have hu4_2 : sc5 0 = 0 := hu4_2
      have hu4_3 : ((0 : Int32) < 0 ∧ r4 = 1 ∨ ¬ (0 : Int32) < 0 ∧ r4 = 0) := hu4_3
      have hP : va_P (dC, dI) cls_ (MOW g0 ad kI kZ sc5 ia6) H := hP
      have hD : va_D A (MOW g0 ad kI kZ sc5 ia6) := hD
      have hs : same [0, 1, 28] sc sc5 := hs.tr (hu4_0.wk (by decide))
      have hi : same [11, 13, 17, 20] ia ia6 := hi.tr (hu4_1.wk (by decide))
      refine W.eq (g2 := F0 m 32 ls [.int r4]) rfl ?_
      refine W.cs (cells' := 0) (slots' := 0) rfl rfl ?_
      obtain rfl : r4 = 0 := by rcases hu4_3 with ⟨q, _⟩ | ⟨_, q⟩; { exact absurd q (by decide) }; { exact q }
      refine lv_if_eq (tgt := 37) hx hb d_MO_cut_32 (by decide) (fun _ => ?_) (fun h9 => absurd (by decide) h9)
      refine lv_iconst (v := 0) hx hb d_MO_cut_37 (by decide) ?_
      refine lv_istore_n hx hb d_MO_cut_38 rfl hl (by decide) rfl (fun ls hl => ?_)
      have hl : lv_has ls 4 [(2, .int 0), (0, .ref g0), (1, .int x)] := hl
      refine lv_iconst (v := 0) hx hb d_MO_cut_39 (by decide) ?_
      refine lv_istore_n hx hb d_MO_cut_40 rfl hl (by decide) rfl (fun ls hl => ?_)
      have hl : lv_has ls 4 [(3, .int 0), (2, .int 0), (0, .ref g0), (1, .int x)] := hl
      have J_41 : ∀ (n_41 : Nat) (k : Nat) (n : Int32) (sc_41 : Nat → Int32) (ia_41 : Nat → Nat → Int32) (H : Heap) (locs : List Loc) (ls : Array Slot), N - k < n_41 → k ≤ N → same [0, 1, 28] sc sc_41 → same [11, 13, 17, 20] ia ia_41 → stC (ia 11) (ia_41 11) → (∀ i, N ≤ i → ia_41 11 i = ia 11 i) → (∀ i, ia_41 11 i = 1 → ia_41 13 i = ia 13 i) → (∀ i, i < k → ia_41 11 i = 1 → x.toInt < (ia 6 i).toInt + (ia 7 i).toInt) → sc_41 0 = 0 → sc_41 1 = sc 1 → lv_has ls 4 [(3, .int (nI k)), (2, .int n), (1, .int x), (0, .ref g0)] → va_P (dC, dI) cls_ (MOW g0 ad kI kZ sc_41 ia_41) H → va_D A (MOW g0 ad kI kZ sc_41 ia_41) → va_S A s.heap H locs → W p l e (headSpec w_MO_cut ({ frames := 1, cells := 0, slots := 0, locals := 24 })).room s m (([.ref g0, .int x] : List Value).toArray) below meth c H locs 0 0 (MQ below (tQ (dC, dI) (mW g0 ad kI kZ) A vI (fun r u => same [0, 1, 28] sc u.1 ∧ same [11, 13, 17, 20] ia u.2 ∧ MI T N u.1 u.2 ∧ (((sc 1).toInt ≤ x.toInt ∧ x.toInt ≤ (sc 1).toInt + 1000) ∧ u.1 0 = 0 ∧ u.1 1 = x ∨ ¬ ((sc 1).toInt ≤ x.toInt ∧ x.toInt ≤ (sc 1).toInt + 1000) ∧ u.1 0 = 1 ∧ u.1 1 = sc 1))) (([.ref g0, .int x] : List Value).toArray) s 0 0 A) (F0 m 41 ls []) := by
        intro n_41
        induction n_41 with
        | zero => intro k n sc_41 ia_41 H locs ls hmu hc41_0 hs hi hO hZ hE hG h0 h1 hl hP hD hS; exact absurd hmu (by omega)
        | succ n_41 ih_41 =>
          intro k n sc_41 ia_41 H locs ls hmu hc41_0 hs hi hO hZ hE hG h0 h1 hl hP hD hS
          refine lv_iload_n hx hb d_MO_cut_41 rfl (lv_at hl 0 rfl) ?_
          refine lv_aload_n hx hb d_MO_cut_42 rfl (lv_at hl 3 rfl) ?_
          refine va_get (D := (dC, dI)) (ci := 5) (v := .int (sc_41 4)) (C := R_MO) (T := F_MO) (N := 30) hx hb ht in_MO hown hK hP 0 rfl rfl 4 (by decide) (ht _ tb_635) (fun _ h9 => h9) rfl d_MO_cut_43 ?_
          refine W.eq (g2 := F0 m 46 ls [.int (nI N), .int (nI k)]) (by rw [show sc_41 4 = nI N from (hs 4 (by decide)).trans e4]) ?_
          refine lv_icmp_ge (tgt := 154) hx hb d_MO_cut_46 (by decide) (fun h46_3 => ?_) (fun h46_3 => ?_)
          · have h46_3 := h46_3
            have i46_3 := ti_le h46_3
            (try rw [nI_toInt (show k < 2 ^ 31 by omega)] at i46_3)
            (try rw [nI_toInt (show N < 2 ^ 31 by omega)] at i46_3)
            refine lv_aload_n hx hb d_MO_cut_154 rfl (lv_at hl 3 rfl) ?_
            refine lv_iload_n hx hb d_MO_cut_155 rfl (lv_at hl 2 rfl) ?_
            refine va_put (D := (dC, dI)) (ci := 5) (v := .int x) (ty := .int) (C := R_MO) (T := F_MO) (N := 30) hx hb ht in_MO t_MO t_MO_ok n_MO hown hK hP hD hS 0 rfl rfl 1 (by decide) (ht _ tb_632) (fun _ h9 => h9) rfl (by decide +kernel) rfl rfl (Nat.le_of_ble_eq_true rfl) d_MO_cut_156 (fun H locs hP hD hS => ?_)
            have hP : va_P (dC, dI) cls_ (MOW g0 ad kI kZ (va_up sc_41 1 x) ia_41) H := hP
            have hD : va_D A (MOW g0 ad kI kZ (va_up sc_41 1 x) ia_41) := hD
            obtain ⟨sc7, esc7⟩ : ∃ q9_, q9_ = va_up sc_41 1 x := ⟨_, rfl⟩
            rw [← esc7] at hP hD
            have hs : same [0, 1, 28] sc sc7 := by rw [esc7]; exact hs.up (by decide)
            refine lv_aload_n hx hb d_MO_cut_159 rfl (lv_at hl 3 rfl) ?_
            refine lv_iconst (v := 0) hx hb d_MO_cut_160 (by decide) ?_
            refine va_put (D := (dC, dI)) (ci := 5) (v := .int 0) (ty := .int) (C := R_MO) (T := F_MO) (N := 30) hx hb ht in_MO t_MO t_MO_ok n_MO hown hK hP hD hS 0 rfl rfl 28 (by decide) (ht _ tb_659) (fun _ h9 => h9) rfl (by decide +kernel) rfl rfl (Nat.le_of_ble_eq_true rfl) d_MO_cut_161 (fun H locs hP hD hS => ?_)
            have hP : va_P (dC, dI) cls_ (MOW g0 ad kI kZ (va_up sc7 28 0) ia_41) H := hP
            have hD : va_D A (MOW g0 ad kI kZ (va_up sc7 28 0) ia_41) := hD
            obtain ⟨sc8, esc8⟩ : ∃ q9_, q9_ = va_up sc7 28 0 := ⟨_, rfl⟩
            rw [← esc8] at hP hD
            have hs : same [0, 1, 28] sc sc8 := by rw [esc8]; exact hs.up (by decide)
            refine lv_iload_n hx hb d_MO_cut_164 rfl (lv_at hl 1 rfl) ?_
            have hz0 : MI T N sc8 ia_41 := MI_cut hI (by omega) (by omega) (((show sc8 1 = sc7 1 by rw [esc8]; rfl)).trans (show sc7 1 = x by rw [esc7]; rfl)) ((show sc8 28 = 0 by rw [esc8]; rfl)) (hs.wk (by decide)) (hi.wk (by decide)) hO hZ hE (fun i h => hG i (by omega))
            have hz1 : (((sc 1).toInt ≤ x.toInt ∧ x.toInt ≤ (sc 1).toInt + 1000) ∧ sc8 0 = 0 ∧ sc8 1 = x ∨ ¬ ((sc 1).toInt ≤ x.toInt ∧ x.toInt ≤ (sc 1).toInt + 1000) ∧ sc8 0 = 1 ∧ sc8 1 = sc 1) := Or.inl ⟨⟨by omega, by omega⟩, (((show sc8 0 = sc7 0 by rw [esc8]; rfl)).trans (show sc7 0 = sc_41 0 by rw [esc7]; rfl)).trans h0, ((show sc8 1 = sc7 1 by rw [esc8]; rfl)).trans (show sc7 1 = x by rw [esc7]; rfl)⟩
            exact W.iret (v := n) hx hb hr (fun t ht9 hW => ⟨⟨n, (sc8, ia_41), rfl, ⟨hs, hi, hz0, hz1⟩, by rw [ht9]; exact hP, hD⟩, hS.F ht9⟩) hS.2.2 d_MO_cut_165
          · have h46_3 := h46_3
            have i46_3 := ti_nle h46_3
            (try rw [nI_toInt (show k < 2 ^ 31 by omega)] at i46_3)
            (try rw [nI_toInt (show N < 2 ^ 31 by omega)] at i46_3)
            refine lv_aload_n hx hb d_MO_cut_49 rfl (lv_at hl 3 rfl) ?_
            refine va_get (D := (dC, dI)) (ci := 5) (v := .ref (ad 11)) (C := R_MO) (T := F_MO) (N := 30) hx hb ht in_MO hown hK hP 0 rfl rfl 11 (by decide) (ht _ tb_642) (fun _ h9 => h9) rfl d_MO_cut_50 ?_
            refine lv_iload_n hx hb d_MO_cut_53 rfl (lv_at hl 0 rfl) ?_
            refine va_iald hx hb hK hP 8 0 rfl rfl (vp_in_nI (show k < 40 by omega) (by decide)) d_MO_cut_54 ?_
            refine W.eq (g2 := F0 m 55 ls [.int (ia_41 11 k)]) (by rw [nI_clamp (show k < 2 ^ 31 by omega)]) ?_
            refine lv_iconst (v := 1) hx hb d_MO_cut_55 (by decide) ?_
            refine lv_icmp_ne (tgt := 113) hx hb d_MO_cut_56 (by decide) (fun h56_4 => ?_) (fun h56_4 => ?_)
            · have h56_4 := h56_4
              have i56_4 := ti_ne h56_4
              (try rw [l_1] at i56_4)
              refine lv_aload_n hx hb d_MO_cut_113 rfl (lv_at hl 3 rfl) ?_
              refine va_get (D := (dC, dI)) (ci := 5) (v := .ref (ad 11)) (C := R_MO) (T := F_MO) (N := 30) hx hb ht in_MO hown hK hP 0 rfl rfl 11 (by decide) (ht _ tb_642) (fun _ h9 => h9) rfl d_MO_cut_114 ?_
              refine lv_iload_n hx hb d_MO_cut_117 rfl (lv_at hl 0 rfl) ?_
              refine lv_aload_n hx hb d_MO_cut_118 rfl (lv_at hl 3 rfl) ?_
              refine va_get (D := (dC, dI)) (ci := 5) (v := .ref (ad 11)) (C := R_MO) (T := F_MO) (N := 30) hx hb ht in_MO hown hK hP 0 rfl rfl 11 (by decide) (ht _ tb_642) (fun _ h9 => h9) rfl d_MO_cut_119 ?_
              refine lv_iload_n hx hb d_MO_cut_122 rfl (lv_at hl 0 rfl) ?_
              refine va_iald hx hb hK hP 8 0 rfl rfl (vp_in_nI (show k < 40 by omega) (by decide)) d_MO_cut_123 ?_
              refine W.eq (g2 := F0 m 124 ls [.int (ia_41 11 k), .int (nI k), .ref (ad 11)]) (by rw [nI_clamp (show k < 2 ^ 31 by omega)]) ?_
              refine lv_if_ne (tgt := 141) hx hb d_MO_cut_124 (by decide) (fun h124_5 => ?_) (fun h124_5 => ?_)
              · have h124_5 := h124_5
                have i124_5 := ti_ne h124_5
                (try rw [l_0] at i124_5)
                refine lv_aload_n hx hb d_MO_cut_141 rfl (lv_at hl 3 rfl) ?_
                refine va_get (D := (dC, dI)) (ci := 5) (v := .ref (ad 11)) (C := R_MO) (T := F_MO) (N := 30) hx hb ht in_MO hown hK hP 0 rfl rfl 11 (by decide) (ht _ tb_642) (fun _ h9 => h9) rfl d_MO_cut_142 ?_
                refine lv_iload_n hx hb d_MO_cut_145 rfl (lv_at hl 0 rfl) ?_
                refine va_iald hx hb hK hP 8 0 rfl rfl (vp_in_nI (show k < 40 by omega) (by decide)) d_MO_cut_146 ?_
                refine W.eq (g2 := F0 m 147 ls [.int (ia_41 11 k), .int (nI k), .ref (ad 11)]) (by rw [nI_clamp (show k < 2 ^ 31 by omega)]) ?_
                refine va_iast hx hb hK hP hD hS 8 0 rfl rfl (vp_in_nI (show k < 40 by omega) (by decide)) d_MO_cut_147 (fun H locs hP hD hS => ?_)
                rw [nI_clamp (show k < 2 ^ 31 by omega)] at hP hD
                have hP : va_P (dC, dI) cls_ (MOW g0 ad kI kZ sc_41 (va_up ia_41 11 (upd (ia_41 11) k (ia_41 11 k)))) H := hP
                have hD : va_D A (MOW g0 ad kI kZ sc_41 (va_up ia_41 11 (upd (ia_41 11) k (ia_41 11 k)))) := hD
                obtain ⟨ia9, eia9⟩ : ∃ q9_, q9_ = va_up ia_41 11 (upd (ia_41 11) k (ia_41 11 k)) := ⟨_, rfl⟩
                rw [← eia9] at hP hD
                have hi : same [11, 13, 17, 20] ia ia9 := by rw [eia9]; exact hi.up (by decide)
                refine lv_iinc (k := 0) (v := nI (k + 1)) hx hb d_MO_cut_148 hl rfl ((nI_succ k).symm) (by decide) rfl (fun ls hl => ?_)
                have hl : lv_has ls 4 [(3, .int (nI (k + 1))), (2, .int n), (1, .int x), (0, .ref g0)] := hl
                refine lv_goto (tgt := 41) hx hb d_MO_cut_151 (by decide) ?_
                have f11 : ia9 11 k = ia_41 11 k := (show ia9 11 k = ia_41 11 k by rw [eia9]; show upd (ia_41 11) k (ia_41 11 k) k = _; exact pk_us)
                exact ih_41 (k + 1) n sc_41 ia9 H _ ls (by omega) (by omega) hs hi (fun i => by by_cases h9 : i = k; { rw [h9]; exact by rw [f11]; exact hO k }; { rw [(show ia9 11 i = ia_41 11 i by rw [eia9]; show upd (ia_41 11) k (ia_41 11 k) i = _; exact pk_un h9)]; exact hO i }) (fun i h => by rw [(fun h9 : i ≠ k => (show ia9 11 i = ia_41 11 i by rw [eia9]; show upd (ia_41 11) k (ia_41 11 k) i = _; exact pk_un h9)) (by omega)]; exact hZ i h) (fun i q => by by_cases h9 : i = k; { rw [h9] at q ⊢; exact by rw [f11] at q; rw [(show ia9 13 k = ia_41 13 k by rw [eia9]; rfl)]; exact hE k q }; { rw [(show ia9 11 i = ia_41 11 i by rw [eia9]; show upd (ia_41 11) k (ia_41 11 k) i = _; exact pk_un h9)] at q; rw [(show ia9 13 i = ia_41 13 i by rw [eia9]; rfl)]; exact hE i q }) (fun i h q => by by_cases h9 : i = k; { rw [h9] at q ⊢; exact by rw [f11] at q; exact absurd q h56_4 }; { rw [(show ia9 11 i = ia_41 11 i by rw [eia9]; show upd (ia_41 11) k (ia_41 11 k) i = _; exact pk_un h9)] at q; exact hG i (by omega) q }) ((rfl).trans h0) ((rfl).trans h1) hl hP hD hS
              · have h124_5 := h124_5
                have i124_5 := ti_eq h124_5
                (try rw [l_0] at i124_5)
                refine lv_aload_n hx hb d_MO_cut_127 rfl (lv_at hl 3 rfl) ?_
                refine va_get (D := (dC, dI)) (ci := 5) (v := .ref (ad 6)) (C := R_MO) (T := F_MO) (N := 30) hx hb ht in_MO hown hK hP 0 rfl rfl 6 (by decide) (ht _ tb_637) (fun _ h9 => h9) rfl d_MO_cut_128 ?_
                refine lv_iload_n hx hb d_MO_cut_131 rfl (lv_at hl 0 rfl) ?_
                refine va_iald hx hb hK hP 3 0 rfl rfl (vp_in_nI (show k < 40 by omega) (by decide)) d_MO_cut_132 ?_
                refine W.eq (g2 := F0 m 133 ls [.int (ia 6 k), .int (nI k), .ref (ad 11)]) (by rw [nI_clamp (show k < 2 ^ 31 by omega), hi 6 (by decide)]) ?_
                refine lv_iload_n hx hb d_MO_cut_133 rfl (lv_at hl 2 rfl) ?_
                refine lv_icmp_ge (tgt := 141) hx hb d_MO_cut_134 (by decide) (fun h134_6 => ?_) (fun h134_6 => ?_)
                · have h134_6 := h134_6
                  have i134_6 := ti_le h134_6
                  refine lv_aload_n hx hb d_MO_cut_141 rfl (lv_at hl 3 rfl) ?_
                  refine va_get (D := (dC, dI)) (ci := 5) (v := .ref (ad 11)) (C := R_MO) (T := F_MO) (N := 30) hx hb ht in_MO hown hK hP 0 rfl rfl 11 (by decide) (ht _ tb_642) (fun _ h9 => h9) rfl d_MO_cut_142 ?_
                  refine lv_iload_n hx hb d_MO_cut_145 rfl (lv_at hl 0 rfl) ?_
                  refine va_iald hx hb hK hP 8 0 rfl rfl (vp_in_nI (show k < 40 by omega) (by decide)) d_MO_cut_146 ?_
                  refine W.eq (g2 := F0 m 147 ls [.int (ia_41 11 k), .int (nI k), .ref (ad 11)]) (by rw [nI_clamp (show k < 2 ^ 31 by omega)]) ?_
                  refine va_iast hx hb hK hP hD hS 8 0 rfl rfl (vp_in_nI (show k < 40 by omega) (by decide)) d_MO_cut_147 (fun H locs hP hD hS => ?_)
                  rw [nI_clamp (show k < 2 ^ 31 by omega)] at hP hD
                  have hP : va_P (dC, dI) cls_ (MOW g0 ad kI kZ sc_41 (va_up ia_41 11 (upd (ia_41 11) k (ia_41 11 k)))) H := hP
                  have hD : va_D A (MOW g0 ad kI kZ sc_41 (va_up ia_41 11 (upd (ia_41 11) k (ia_41 11 k)))) := hD
                  obtain ⟨ia10, eia10⟩ : ∃ q9_, q9_ = va_up ia_41 11 (upd (ia_41 11) k (ia_41 11 k)) := ⟨_, rfl⟩
                  rw [← eia10] at hP hD
                  have hi : same [11, 13, 17, 20] ia ia10 := by rw [eia10]; exact hi.up (by decide)
                  refine lv_iinc (k := 0) (v := nI (k + 1)) hx hb d_MO_cut_148 hl rfl ((nI_succ k).symm) (by decide) rfl (fun ls hl => ?_)
                  have hl : lv_has ls 4 [(3, .int (nI (k + 1))), (2, .int n), (1, .int x), (0, .ref g0)] := hl
                  refine lv_goto (tgt := 41) hx hb d_MO_cut_151 (by decide) ?_
                  have f11 : ia10 11 k = ia_41 11 k := (show ia10 11 k = ia_41 11 k by rw [eia10]; show upd (ia_41 11) k (ia_41 11 k) k = _; exact pk_us)
                  exact ih_41 (k + 1) n sc_41 ia10 H _ ls (by omega) (by omega) hs hi (fun i => by by_cases h9 : i = k; { rw [h9]; exact by rw [f11]; exact hO k }; { rw [(show ia10 11 i = ia_41 11 i by rw [eia10]; show upd (ia_41 11) k (ia_41 11 k) i = _; exact pk_un h9)]; exact hO i }) (fun i h => by rw [(fun h9 : i ≠ k => (show ia10 11 i = ia_41 11 i by rw [eia10]; show upd (ia_41 11) k (ia_41 11 k) i = _; exact pk_un h9)) (by omega)]; exact hZ i h) (fun i q => by by_cases h9 : i = k; { rw [h9] at q ⊢; exact by rw [f11] at q; rw [(show ia10 13 k = ia_41 13 k by rw [eia10]; rfl)]; exact hE k q }; { rw [(show ia10 11 i = ia_41 11 i by rw [eia10]; show upd (ia_41 11) k (ia_41 11 k) i = _; exact pk_un h9)] at q; rw [(show ia10 13 i = ia_41 13 i by rw [eia10]; rfl)]; exact hE i q }) (fun i h q => by by_cases h9 : i = k; { rw [h9] at q ⊢; exact by rw [f11] at q; exact absurd q h56_4 }; { rw [(show ia10 11 i = ia_41 11 i by rw [eia10]; show upd (ia_41 11) k (ia_41 11 k) i = _; exact pk_un h9)] at q; exact hG i (by omega) q }) ((rfl).trans h0) ((rfl).trans h1) hl hP hD hS
                · have h134_6 := h134_6
                  have i134_6 := ti_nle h134_6
                  refine lv_iconst (v := 3) hx hb d_MO_cut_137 (by decide) ?_
                  refine lv_goto (tgt := 147) hx hb d_MO_cut_138 (by decide) ?_
                  refine va_iast hx hb hK hP hD hS 8 0 rfl rfl (vp_in_nI (show k < 40 by omega) (by decide)) d_MO_cut_147 (fun H locs hP hD hS => ?_)
                  rw [nI_clamp (show k < 2 ^ 31 by omega)] at hP hD
                  have hP : va_P (dC, dI) cls_ (MOW g0 ad kI kZ sc_41 (va_up ia_41 11 (upd (ia_41 11) k 3))) H := hP
                  have hD : va_D A (MOW g0 ad kI kZ sc_41 (va_up ia_41 11 (upd (ia_41 11) k 3))) := hD
                  obtain ⟨ia11, eia11⟩ : ∃ q9_, q9_ = va_up ia_41 11 (upd (ia_41 11) k 3) := ⟨_, rfl⟩
                  rw [← eia11] at hP hD
                  have hi : same [11, 13, 17, 20] ia ia11 := by rw [eia11]; exact hi.up (by decide)
                  refine lv_iinc (k := 0) (v := nI (k + 1)) hx hb d_MO_cut_148 hl rfl ((nI_succ k).symm) (by decide) rfl (fun ls hl => ?_)
                  have hl : lv_has ls 4 [(3, .int (nI (k + 1))), (2, .int n), (1, .int x), (0, .ref g0)] := hl
                  refine lv_goto (tgt := 41) hx hb d_MO_cut_151 (by decide) ?_
                  have f11 : ia11 11 k = 3 := (show ia11 11 k = 3 by rw [eia11]; show upd (ia_41 11) k 3 k = _; exact pk_us)
                  exact ih_41 (k + 1) n sc_41 ia11 H _ ls (by omega) (by omega) hs hi (fun i => by by_cases h9 : i = k; { rw [h9]; exact Or.inr ⟨Or.inl ((hO.op (Or.inl h124_5)).symm.trans h124_5), Or.inr f11⟩ }; { rw [(show ia11 11 i = ia_41 11 i by rw [eia11]; show upd (ia_41 11) k 3 i = _; exact pk_un h9)]; exact hO i }) (fun i h => by rw [(fun h9 : i ≠ k => (show ia11 11 i = ia_41 11 i by rw [eia11]; show upd (ia_41 11) k 3 i = _; exact pk_un h9)) (by omega)]; exact hZ i h) (fun i q => by by_cases h9 : i = k; { rw [h9] at q ⊢; exact absurd (f11.symm.trans q) (by decide) }; { rw [(show ia11 11 i = ia_41 11 i by rw [eia11]; show upd (ia_41 11) k 3 i = _; exact pk_un h9)] at q; rw [(show ia11 13 i = ia_41 13 i by rw [eia11]; rfl)]; exact hE i q }) (fun i h q => by by_cases h9 : i = k; { rw [h9] at q ⊢; exact absurd (f11.symm.trans q) (by decide) }; { rw [(show ia11 11 i = ia_41 11 i by rw [eia11]; show upd (ia_41 11) k 3 i = _; exact pk_un h9)] at q; exact hG i (by omega) q }) ((rfl).trans h0) ((rfl).trans h1) hl hP hD hS
            · have h56_4 := h56_4
              have i56_4 := ti_eq h56_4
              (try rw [l_1] at i56_4)
              refine lv_iload_n hx hb d_MO_cut_59 rfl (lv_at hl 1 rfl) ?_
              refine lv_aload_n hx hb d_MO_cut_60 rfl (lv_at hl 3 rfl) ?_
              refine lv_iload_n hx hb d_MO_cut_61 rfl (lv_at hl 0 rfl) ?_
              have hr9 : ia 11 k = 1 := hO.one h56_4
              obtain ⟨q9, hq9, eq9⟩ : ∃ q9 : Nat, q9 < 100 ∧ sc 1 - ia 12 k = nI q9 := by
                obtain ⟨-, m1, m2, -, -, m3⟩ := hI.at (show k < N by omega)
                have m4 := m3 hr9
                exact ix_q (by omega) (by omega) (by omega) (by omega) (by omega)
              refine t_call (u0 := (sc_41, ia_41)) (va_runV (C := R_MO) (As := [.int (nI k)]) (rest := [.int n]) ⟨hx, hb, hml, hown, ht⟩ (t_MO_lose l dC dI g0 ad kI kZ sc_41 ia_41 H.size Bd k (by omega) q9 hq9 (by rw [h1, hi 12 (by decide)]; exact eq9)) (cwV 1 ht (gV tb_914 tb_916 ts_48 tb_5 tb_917) rfl rfl rfl (by decide +kernel) ⟨Nat.le_of_ble_eq_true rfl, Nat.le_of_ble_eq_true rfl⟩) ⟨frP_blind, va_recv (q := (R_MO, F_MO, 30)) hK hP rfl (show (MOW g0 ad kI kZ sc_41 ia_41 : va_W)[0]? = some _ from rfl), fr_pre hP hK hD hAB hBs hS hV⟩ rfl rfl hl.1 rfl (lv_room (Nat.le_of_ble_eq_true rfl)) d_MO_cut_62 ⟨Nat.le_of_ble_eq_true rfl, Nat.le_of_ble_eq_true rfl⟩) hD hS hA (fun r12 u H locs hu hP hD hS => ?_)
              obtain ⟨sc13, ia14⟩ := u
              obtain ⟨hu12_0, hu12_1⟩ := hu
              have hu12_0 : same [] sc_41 sc13 := hu12_0
              have hu12_1 : same [17, 20] ia_41 ia14 := hu12_1
              have hP : va_P (dC, dI) cls_ (MOW g0 ad kI kZ sc13 ia14) H := hP
              have hD : va_D A (MOW g0 ad kI kZ sc13 ia14) := hD
              have hs : same [0, 1, 28] sc sc13 := hs.tr (hu12_0.wk (by decide))
              have hi : same [11, 13, 17, 20] ia ia14 := hi.tr (hu12_1.wk (by decide))
              refine W.eq (g2 := F0 m 65 ls [.int r12, .int n]) rfl ?_
              refine W.cs (cells' := 0) (slots' := 0) rfl rfl ?_
              refine lv_iadd hx hb d_MO_cut_65 ?_
              refine lv_istore_n hx hb d_MO_cut_66 rfl hl (by decide) rfl (fun ls hl => ?_)
              have hl : lv_has ls 4 [(2, .int (n + r12)), (3, .int (nI k)), (1, .int x), (0, .ref g0)] := hl
              refine lv_aload_n hx hb d_MO_cut_67 rfl (lv_at hl 3 rfl) ?_
              refine lv_iload_n hx hb d_MO_cut_68 rfl (lv_at hl 1 rfl) ?_
              refine r_call (va_runV (C := R_MO) (As := [.int (nI k)]) (rest := []) ⟨hx, hb, hml, hown, ht⟩ (t_MO_coreEnd l dC dI g0 ad kI kZ sc13 ia14 k (show k < 40 by omega)) (cwV 1 ht (gV tb_756 tb_758 ts_26 tb_5 tb_759) rfl rfl rfl (by decide +kernel) ⟨Nat.le_of_ble_eq_true rfl, Nat.le_of_ble_eq_true rfl⟩) ⟨rdP_blind, va_recv (q := (R_MO, F_MO, 30)) hK hP rfl (show (MOW g0 ad kI kZ sc13 ia14 : va_W)[0]? = some _ from rfl), rd_pre hP hK⟩ rfl rfl hl.1 rfl (lv_room (Nat.le_of_ble_eq_true rfl)) d_MO_cut_69 ⟨Nat.le_of_ble_eq_true rfl, Nat.le_of_ble_eq_true rfl⟩) (fun r15 hu => ?_)
              have hu15_0 := hu
              have hu15_0 : r15 = ia14 6 k + ia14 7 k := hu15_0
              refine W.eq (g2 := F0 m 72 ls [.int r15]) rfl ?_
              rw [hi 6 (by decide)] at hu15_0
              rw [hi 7 (by decide)] at hu15_0
              refine lv_iload_n hx hb d_MO_cut_72 rfl (lv_at hl 2 rfl) ?_
              refine lv_icmp_gt (tgt := 113) hx hb d_MO_cut_73 (by decide) (fun h73_7 => ?_) (fun h73_7 => ?_)
              · have h73_7 := h73_7
                have i73_7 := ti_lt h73_7
                refine lv_aload_n hx hb d_MO_cut_113 rfl (lv_at hl 3 rfl) ?_
                refine va_get (D := (dC, dI)) (ci := 5) (v := .ref (ad 11)) (C := R_MO) (T := F_MO) (N := 30) hx hb ht in_MO hown hK hP 0 rfl rfl 11 (by decide) (ht _ tb_642) (fun _ h9 => h9) rfl d_MO_cut_114 ?_
                refine lv_iload_n hx hb d_MO_cut_117 rfl (lv_at hl 1 rfl) ?_
                refine lv_aload_n hx hb d_MO_cut_118 rfl (lv_at hl 3 rfl) ?_
                refine va_get (D := (dC, dI)) (ci := 5) (v := .ref (ad 11)) (C := R_MO) (T := F_MO) (N := 30) hx hb ht in_MO hown hK hP 0 rfl rfl 11 (by decide) (ht _ tb_642) (fun _ h9 => h9) rfl d_MO_cut_119 ?_
                refine lv_iload_n hx hb d_MO_cut_122 rfl (lv_at hl 1 rfl) ?_
                refine va_iald hx hb hK hP 8 0 rfl rfl (vp_in_nI (show k < 40 by omega) (by decide)) d_MO_cut_123 ?_
                refine W.eq (g2 := F0 m 124 ls [.int (ia_41 11 k), .int (nI k), .ref (ad 11)]) (by rw [nI_clamp (show k < 2 ^ 31 by omega), (congrFun (hu12_1 11 (by decide)) k)]) ?_
                refine lv_if_ne (tgt := 141) hx hb d_MO_cut_124 (by decide) (fun _ => ?_) (fun h9 => absurd h9 (by rw [h56_4]; decide))
                refine lv_aload_n hx hb d_MO_cut_141 rfl (lv_at hl 3 rfl) ?_
                refine va_get (D := (dC, dI)) (ci := 5) (v := .ref (ad 11)) (C := R_MO) (T := F_MO) (N := 30) hx hb ht in_MO hown hK hP 0 rfl rfl 11 (by decide) (ht _ tb_642) (fun _ h9 => h9) rfl d_MO_cut_142 ?_
                refine lv_iload_n hx hb d_MO_cut_145 rfl (lv_at hl 1 rfl) ?_
                refine va_iald hx hb hK hP 8 0 rfl rfl (vp_in_nI (show k < 40 by omega) (by decide)) d_MO_cut_146 ?_
                refine W.eq (g2 := F0 m 147 ls [.int (ia_41 11 k), .int (nI k), .ref (ad 11)]) (by rw [nI_clamp (show k < 2 ^ 31 by omega), (congrFun (hu12_1 11 (by decide)) k)]) ?_
                refine va_iast hx hb hK hP hD hS 8 0 rfl rfl (vp_in_nI (show k < 40 by omega) (by decide)) d_MO_cut_147 (fun H locs hP hD hS => ?_)
                rw [nI_clamp (show k < 2 ^ 31 by omega)] at hP hD
                have hP : va_P (dC, dI) cls_ (MOW g0 ad kI kZ sc13 (va_up ia14 11 (upd (ia14 11) k (ia_41 11 k)))) H := hP
                have hD : va_D A (MOW g0 ad kI kZ sc13 (va_up ia14 11 (upd (ia14 11) k (ia_41 11 k)))) := hD
                obtain ⟨ia16, eia16⟩ : ∃ q9_, q9_ = va_up ia14 11 (upd (ia14 11) k (ia_41 11 k)) := ⟨_, rfl⟩
                rw [← eia16] at hP hD
                have hi : same [11, 13, 17, 20] ia ia16 := by rw [eia16]; exact hi.up (by decide)
                refine lv_iinc (k := 1) (v := nI (k + 1)) hx hb d_MO_cut_148 hl rfl ((nI_succ k).symm) (by decide) rfl (fun ls hl => ?_)
                have hl : lv_has ls 4 [(3, .int (nI (k + 1))), (2, .int (n + r12)), (1, .int x), (0, .ref g0)] := hl
                refine lv_goto (tgt := 41) hx hb d_MO_cut_151 (by decide) ?_
                have f11 : ia16 11 k = ia_41 11 k := (show ia16 11 k = ia_41 11 k by rw [eia16]; show upd (ia14 11) k (ia_41 11 k) k = _; exact pk_us)
                have hcore := hI.core (show k < N by omega)
                have i73c := i73_7
                rw [hu15_0, hcore] at i73c
                exact ih_41 (k + 1) (n + r12) sc13 ia16 H _ ls (by omega) (by omega) hs hi (fun i => by by_cases h9 : i = k; { rw [h9]; exact by rw [f11]; exact hO k }; { rw [((show ia16 11 i = ia14 11 i by rw [eia16]; show upd (ia14 11) k (ia_41 11 k) i = _; exact pk_un h9)).trans (congrFun (hu12_1 11 (by decide)) i)]; exact hO i }) (fun i h => by rw [(fun h9 : i ≠ k => ((show ia16 11 i = ia14 11 i by rw [eia16]; show upd (ia14 11) k (ia_41 11 k) i = _; exact pk_un h9)).trans (congrFun (hu12_1 11 (by decide)) i)) (by omega)]; exact hZ i h) (fun i q => by by_cases h9 : i = k; { rw [h9] at q ⊢; exact by rw [f11] at q; rw [((show ia16 13 k = ia14 13 k by rw [eia16]; rfl)).trans (congrFun (hu12_1 13 (by decide)) k)]; exact hE k q }; { rw [((show ia16 11 i = ia14 11 i by rw [eia16]; show upd (ia14 11) k (ia_41 11 k) i = _; exact pk_un h9)).trans (congrFun (hu12_1 11 (by decide)) i)] at q; rw [((show ia16 13 i = ia14 13 i by rw [eia16]; rfl)).trans (congrFun (hu12_1 13 (by decide)) i)]; exact hE i q }) (fun i h q => by by_cases h9 : i = k; { rw [h9] at q ⊢; exact by omega }; { rw [((show ia16 11 i = ia14 11 i by rw [eia16]; show upd (ia14 11) k (ia_41 11 k) i = _; exact pk_un h9)).trans (congrFun (hu12_1 11 (by decide)) i)] at q; exact hG i (by omega) q }) (((hu12_0 0 (by decide))).trans h0) (((hu12_0 1 (by decide))).trans h1) hl hP hD hS
              · have h73_7 := h73_7
                have i73_7 := ti_nlt h73_7
                refine lv_aload_n hx hb d_MO_cut_76 rfl (lv_at hl 3 rfl) ?_
                refine va_get (D := (dC, dI)) (ci := 5) (v := .ref (ad 11)) (C := R_MO) (T := F_MO) (N := 30) hx hb ht in_MO hown hK hP 0 rfl rfl 11 (by decide) (ht _ tb_642) (fun _ h9 => h9) rfl d_MO_cut_77 ?_
                refine lv_iload_n hx hb d_MO_cut_80 rfl (lv_at hl 1 rfl) ?_
                refine lv_iconst (v := 2) hx hb d_MO_cut_81 (by decide) ?_
                refine va_iast hx hb hK hP hD hS 8 0 rfl rfl (vp_in_nI (show k < 40 by omega) (by decide)) d_MO_cut_82 (fun H locs hP hD hS => ?_)
                rw [nI_clamp (show k < 2 ^ 31 by omega)] at hP hD
                have hP : va_P (dC, dI) cls_ (MOW g0 ad kI kZ sc13 (va_up ia14 11 (upd (ia14 11) k 2))) H := hP
                have hD : va_D A (MOW g0 ad kI kZ sc13 (va_up ia14 11 (upd (ia14 11) k 2))) := hD
                obtain ⟨ia17, eia17⟩ : ∃ q9_, q9_ = va_up ia14 11 (upd (ia14 11) k 2) := ⟨_, rfl⟩
                rw [← eia17] at hP hD
                have hi : same [11, 13, 17, 20] ia ia17 := by rw [eia17]; exact hi.up (by decide)
                refine lv_aload_n hx hb d_MO_cut_83 rfl (lv_at hl 3 rfl) ?_
                refine va_get (D := (dC, dI)) (ci := 5) (v := .ref (ad 13)) (C := R_MO) (T := F_MO) (N := 30) hx hb ht in_MO hown hK hP 0 rfl rfl 13 (by decide) (ht _ tb_644) (fun _ h9 => h9) rfl d_MO_cut_84 ?_
                refine lv_iload_n hx hb d_MO_cut_87 rfl (lv_at hl 1 rfl) ?_
                refine lv_aload_n hx hb d_MO_cut_88 rfl (lv_at hl 3 rfl) ?_
                refine lv_iload_n hx hb d_MO_cut_89 rfl (lv_at hl 1 rfl) ?_
                refine r_call (va_runV (C := R_MO) (As := [.int (nI k)]) (rest := [.int (nI k), .ref (ad 13)]) ⟨hx, hb, hml, hown, ht⟩ (t_MO_coreEnd l dC dI g0 ad kI kZ sc13 ia17 k (show k < 40 by omega)) (cwV 1 ht (gV tb_756 tb_758 ts_26 tb_5 tb_759) rfl rfl rfl (by decide +kernel) ⟨Nat.le_of_ble_eq_true rfl, Nat.le_of_ble_eq_true rfl⟩) ⟨rdP_blind, va_recv (q := (R_MO, F_MO, 30)) hK hP rfl (show (MOW g0 ad kI kZ sc13 ia17 : va_W)[0]? = some _ from rfl), rd_pre hP hK⟩ rfl rfl hl.1 rfl (lv_room (Nat.le_of_ble_eq_true rfl)) d_MO_cut_90 ⟨Nat.le_of_ble_eq_true rfl, Nat.le_of_ble_eq_true rfl⟩) (fun r18 hu => ?_)
                have hu18_0 := hu
                have hu18_0 : r18 = ia17 6 k + ia17 7 k := hu18_0
                refine W.eq (g2 := F0 m 93 ls [.int r18, .int (nI k), .ref (ad 13)]) rfl ?_
                rw [hi 6 (by decide)] at hu18_0
                rw [hi 7 (by decide)] at hu18_0
                refine lv_aload_n hx hb d_MO_cut_93 rfl (lv_at hl 3 rfl) ?_
                refine va_get (D := (dC, dI)) (ci := 5) (v := .int (sc13 1)) (C := R_MO) (T := F_MO) (N := 30) hx hb ht in_MO hown hK hP 0 rfl rfl 1 (by decide) (ht _ tb_632) (fun _ h9 => h9) rfl d_MO_cut_94 ?_
                refine lv_icmp_ge (tgt := 107) hx hb d_MO_cut_97 (by decide) (fun h97_8 => ?_) (fun h97_8 => ?_)
                · have h97_8 := h97_8
                  have i97_8 := ti_le h97_8
                  refine lv_aload_n hx hb d_MO_cut_107 rfl (lv_at hl 3 rfl) ?_
                  refine lv_iload_n hx hb d_MO_cut_108 rfl (lv_at hl 1 rfl) ?_
                  refine r_call (va_runV (C := R_MO) (As := [.int (nI k)]) (rest := [.int (nI k), .ref (ad 13)]) ⟨hx, hb, hml, hown, ht⟩ (t_MO_coreEnd l dC dI g0 ad kI kZ sc13 ia17 k (show k < 40 by omega)) (cwV 1 ht (gV tb_756 tb_758 ts_26 tb_5 tb_759) rfl rfl rfl (by decide +kernel) ⟨Nat.le_of_ble_eq_true rfl, Nat.le_of_ble_eq_true rfl⟩) ⟨rdP_blind, va_recv (q := (R_MO, F_MO, 30)) hK hP rfl (show (MOW g0 ad kI kZ sc13 ia17 : va_W)[0]? = some _ from rfl), rd_pre hP hK⟩ rfl rfl hl.1 rfl (lv_room (Nat.le_of_ble_eq_true rfl)) d_MO_cut_109 ⟨Nat.le_of_ble_eq_true rfl, Nat.le_of_ble_eq_true rfl⟩) (fun r19 hu => ?_)
                  have hu19_0 := hu
                  have hu19_0 : r19 = ia17 6 k + ia17 7 k := hu19_0
                  refine W.eq (g2 := F0 m 112 ls [.int r19, .int (nI k), .ref (ad 13)]) rfl ?_
                  rw [hi 6 (by decide)] at hu19_0
                  rw [hi 7 (by decide)] at hu19_0
                  refine va_iast hx hb hK hP hD hS 10 0 rfl rfl (vp_in_nI (show k < 40 by omega) (by decide)) d_MO_cut_112 (fun H locs hP hD hS => ?_)
                  rw [nI_clamp (show k < 2 ^ 31 by omega)] at hP hD
                  have hP : va_P (dC, dI) cls_ (MOW g0 ad kI kZ sc13 (va_up ia17 13 (upd (ia17 13) k r19))) H := hP
                  have hD : va_D A (MOW g0 ad kI kZ sc13 (va_up ia17 13 (upd (ia17 13) k r19))) := hD
                  obtain ⟨ia20, eia20⟩ : ∃ q9_, q9_ = va_up ia17 13 (upd (ia17 13) k r19) := ⟨_, rfl⟩
                  rw [← eia20] at hP hD
                  have hi : same [11, 13, 17, 20] ia ia20 := by rw [eia20]; exact hi.up (by decide)
                  refine lv_aload_n hx hb d_MO_cut_113 rfl (lv_at hl 3 rfl) ?_
                  refine va_get (D := (dC, dI)) (ci := 5) (v := .ref (ad 11)) (C := R_MO) (T := F_MO) (N := 30) hx hb ht in_MO hown hK hP 0 rfl rfl 11 (by decide) (ht _ tb_642) (fun _ h9 => h9) rfl d_MO_cut_114 ?_
                  refine lv_iload_n hx hb d_MO_cut_117 rfl (lv_at hl 1 rfl) ?_
                  refine lv_aload_n hx hb d_MO_cut_118 rfl (lv_at hl 3 rfl) ?_
                  refine va_get (D := (dC, dI)) (ci := 5) (v := .ref (ad 11)) (C := R_MO) (T := F_MO) (N := 30) hx hb ht in_MO hown hK hP 0 rfl rfl 11 (by decide) (ht _ tb_642) (fun _ h9 => h9) rfl d_MO_cut_119 ?_
                  refine lv_iload_n hx hb d_MO_cut_122 rfl (lv_at hl 1 rfl) ?_
                  refine va_iald hx hb hK hP 8 0 rfl rfl (vp_in_nI (show k < 40 by omega) (by decide)) d_MO_cut_123 ?_
                  refine W.eq (g2 := F0 m 124 ls [.int 2, .int (nI k), .ref (ad 11)]) (by rw [nI_clamp (show k < 2 ^ 31 by omega), ((show ia20 11 k = ia17 11 k by rw [eia20]; rfl)).trans (show ia17 11 k = 2 by rw [eia17]; show upd (ia14 11) k 2 k = _; exact pk_us)]) ?_
                  refine lv_if_ne (tgt := 141) hx hb d_MO_cut_124 (by decide) (fun _ => ?_) (fun h9 => absurd h9 (by decide))
                  refine lv_aload_n hx hb d_MO_cut_141 rfl (lv_at hl 3 rfl) ?_
                  refine va_get (D := (dC, dI)) (ci := 5) (v := .ref (ad 11)) (C := R_MO) (T := F_MO) (N := 30) hx hb ht in_MO hown hK hP 0 rfl rfl 11 (by decide) (ht _ tb_642) (fun _ h9 => h9) rfl d_MO_cut_142 ?_
                  refine lv_iload_n hx hb d_MO_cut_145 rfl (lv_at hl 1 rfl) ?_
                  refine va_iald hx hb hK hP 8 0 rfl rfl (vp_in_nI (show k < 40 by omega) (by decide)) d_MO_cut_146 ?_
                  refine W.eq (g2 := F0 m 147 ls [.int 2, .int (nI k), .ref (ad 11)]) (by rw [nI_clamp (show k < 2 ^ 31 by omega), ((show ia20 11 k = ia17 11 k by rw [eia20]; rfl)).trans (show ia17 11 k = 2 by rw [eia17]; show upd (ia14 11) k 2 k = _; exact pk_us)]) ?_
                  refine va_iast hx hb hK hP hD hS 8 0 rfl rfl (vp_in_nI (show k < 40 by omega) (by decide)) d_MO_cut_147 (fun H locs hP hD hS => ?_)
                  rw [nI_clamp (show k < 2 ^ 31 by omega)] at hP hD
                  have hP : va_P (dC, dI) cls_ (MOW g0 ad kI kZ sc13 (va_up ia20 11 (upd (ia20 11) k 2))) H := hP
                  have hD : va_D A (MOW g0 ad kI kZ sc13 (va_up ia20 11 (upd (ia20 11) k 2))) := hD
                  obtain ⟨ia21, eia21⟩ : ∃ q9_, q9_ = va_up ia20 11 (upd (ia20 11) k 2) := ⟨_, rfl⟩
                  rw [← eia21] at hP hD
                  have hi : same [11, 13, 17, 20] ia ia21 := by rw [eia21]; exact hi.up (by decide)
                  refine lv_iinc (k := 1) (v := nI (k + 1)) hx hb d_MO_cut_148 hl rfl ((nI_succ k).symm) (by decide) rfl (fun ls hl => ?_)
                  have hl : lv_has ls 4 [(3, .int (nI (k + 1))), (2, .int (n + r12)), (1, .int x), (0, .ref g0)] := hl
                  refine lv_goto (tgt := 41) hx hb d_MO_cut_151 (by decide) ?_
                  have f11 : ia21 11 k = 2 := (show ia21 11 k = 2 by rw [eia21]; show upd (ia20 11) k 2 k = _; exact pk_us)
                  exact ih_41 (k + 1) (n + r12) sc13 ia21 H _ ls (by omega) (by omega) hs hi (fun i => by by_cases h9 : i = k; { rw [h9]; exact Or.inr ⟨Or.inr (hO.one h56_4), Or.inl f11⟩ }; { rw [((((show ia21 11 i = ia20 11 i by rw [eia21]; show upd (ia20 11) k 2 i = _; exact pk_un h9)).trans (show ia20 11 i = ia17 11 i by rw [eia20]; rfl)).trans (show ia17 11 i = ia14 11 i by rw [eia17]; show upd (ia14 11) k 2 i = _; exact pk_un h9)).trans (congrFun (hu12_1 11 (by decide)) i)]; exact hO i }) (fun i h => by rw [(fun h9 : i ≠ k => ((((show ia21 11 i = ia20 11 i by rw [eia21]; show upd (ia20 11) k 2 i = _; exact pk_un h9)).trans (show ia20 11 i = ia17 11 i by rw [eia20]; rfl)).trans (show ia17 11 i = ia14 11 i by rw [eia17]; show upd (ia14 11) k 2 i = _; exact pk_un h9)).trans (congrFun (hu12_1 11 (by decide)) i)) (by omega)]; exact hZ i h) (fun i q => by by_cases h9 : i = k; { rw [h9] at q ⊢; exact absurd (f11.symm.trans q) (by decide) }; { rw [((((show ia21 11 i = ia20 11 i by rw [eia21]; show upd (ia20 11) k 2 i = _; exact pk_un h9)).trans (show ia20 11 i = ia17 11 i by rw [eia20]; rfl)).trans (show ia17 11 i = ia14 11 i by rw [eia17]; show upd (ia14 11) k 2 i = _; exact pk_un h9)).trans (congrFun (hu12_1 11 (by decide)) i)] at q; rw [((((show ia21 13 i = ia20 13 i by rw [eia21]; rfl)).trans (show ia20 13 i = ia17 13 i by rw [eia20]; show upd (ia17 13) k r19 i = _; exact pk_un h9)).trans (show ia17 13 i = ia14 13 i by rw [eia17]; rfl)).trans (congrFun (hu12_1 13 (by decide)) i)]; exact hE i q }) (fun i h q => by by_cases h9 : i = k; { rw [h9] at q ⊢; exact absurd (f11.symm.trans q) (by decide) }; { rw [((((show ia21 11 i = ia20 11 i by rw [eia21]; show upd (ia20 11) k 2 i = _; exact pk_un h9)).trans (show ia20 11 i = ia17 11 i by rw [eia20]; rfl)).trans (show ia17 11 i = ia14 11 i by rw [eia17]; show upd (ia14 11) k 2 i = _; exact pk_un h9)).trans (congrFun (hu12_1 11 (by decide)) i)] at q; exact hG i (by omega) q }) (((hu12_0 0 (by decide))).trans h0) (((hu12_0 1 (by decide))).trans h1) hl hP hD hS
                · have h97_8 := h97_8
                  have i97_8 := ti_nle h97_8
                  refine lv_aload_n hx hb d_MO_cut_100 rfl (lv_at hl 3 rfl) ?_
                  refine va_get (D := (dC, dI)) (ci := 5) (v := .int (sc13 1)) (C := R_MO) (T := F_MO) (N := 30) hx hb ht in_MO hown hK hP 0 rfl rfl 1 (by decide) (ht _ tb_632) (fun _ h9 => h9) rfl d_MO_cut_101 ?_
                  refine lv_goto (tgt := 112) hx hb d_MO_cut_104 (by decide) ?_
                  refine va_iast hx hb hK hP hD hS 10 0 rfl rfl (vp_in_nI (show k < 40 by omega) (by decide)) d_MO_cut_112 (fun H locs hP hD hS => ?_)
                  rw [nI_clamp (show k < 2 ^ 31 by omega)] at hP hD
                  have hP : va_P (dC, dI) cls_ (MOW g0 ad kI kZ sc13 (va_up ia17 13 (upd (ia17 13) k (sc13 1)))) H := hP
                  have hD : va_D A (MOW g0 ad kI kZ sc13 (va_up ia17 13 (upd (ia17 13) k (sc13 1)))) := hD
                  obtain ⟨ia22, eia22⟩ : ∃ q9_, q9_ = va_up ia17 13 (upd (ia17 13) k (sc13 1)) := ⟨_, rfl⟩
                  rw [← eia22] at hP hD
                  have hi : same [11, 13, 17, 20] ia ia22 := by rw [eia22]; exact hi.up (by decide)
                  refine lv_aload_n hx hb d_MO_cut_113 rfl (lv_at hl 3 rfl) ?_
                  refine va_get (D := (dC, dI)) (ci := 5) (v := .ref (ad 11)) (C := R_MO) (T := F_MO) (N := 30) hx hb ht in_MO hown hK hP 0 rfl rfl 11 (by decide) (ht _ tb_642) (fun _ h9 => h9) rfl d_MO_cut_114 ?_
                  refine lv_iload_n hx hb d_MO_cut_117 rfl (lv_at hl 1 rfl) ?_
                  refine lv_aload_n hx hb d_MO_cut_118 rfl (lv_at hl 3 rfl) ?_
                  refine va_get (D := (dC, dI)) (ci := 5) (v := .ref (ad 11)) (C := R_MO) (T := F_MO) (N := 30) hx hb ht in_MO hown hK hP 0 rfl rfl 11 (by decide) (ht _ tb_642) (fun _ h9 => h9) rfl d_MO_cut_119 ?_
                  refine lv_iload_n hx hb d_MO_cut_122 rfl (lv_at hl 1 rfl) ?_
                  refine va_iald hx hb hK hP 8 0 rfl rfl (vp_in_nI (show k < 40 by omega) (by decide)) d_MO_cut_123 ?_
                  refine W.eq (g2 := F0 m 124 ls [.int 2, .int (nI k), .ref (ad 11)]) (by rw [nI_clamp (show k < 2 ^ 31 by omega), ((show ia22 11 k = ia17 11 k by rw [eia22]; rfl)).trans (show ia17 11 k = 2 by rw [eia17]; show upd (ia14 11) k 2 k = _; exact pk_us)]) ?_
                  refine lv_if_ne (tgt := 141) hx hb d_MO_cut_124 (by decide) (fun _ => ?_) (fun h9 => absurd h9 (by decide))
                  refine lv_aload_n hx hb d_MO_cut_141 rfl (lv_at hl 3 rfl) ?_
                  refine va_get (D := (dC, dI)) (ci := 5) (v := .ref (ad 11)) (C := R_MO) (T := F_MO) (N := 30) hx hb ht in_MO hown hK hP 0 rfl rfl 11 (by decide) (ht _ tb_642) (fun _ h9 => h9) rfl d_MO_cut_142 ?_
                  refine lv_iload_n hx hb d_MO_cut_145 rfl (lv_at hl 1 rfl) ?_
                  refine va_iald hx hb hK hP 8 0 rfl rfl (vp_in_nI (show k < 40 by omega) (by decide)) d_MO_cut_146 ?_
                  refine W.eq (g2 := F0 m 147 ls [.int 2, .int (nI k), .ref (ad 11)]) (by rw [nI_clamp (show k < 2 ^ 31 by omega), ((show ia22 11 k = ia17 11 k by rw [eia22]; rfl)).trans (show ia17 11 k = 2 by rw [eia17]; show upd (ia14 11) k 2 k = _; exact pk_us)]) ?_
                  refine va_iast hx hb hK hP hD hS 8 0 rfl rfl (vp_in_nI (show k < 40 by omega) (by decide)) d_MO_cut_147 (fun H locs hP hD hS => ?_)
                  rw [nI_clamp (show k < 2 ^ 31 by omega)] at hP hD
                  have hP : va_P (dC, dI) cls_ (MOW g0 ad kI kZ sc13 (va_up ia22 11 (upd (ia22 11) k 2))) H := hP
                  have hD : va_D A (MOW g0 ad kI kZ sc13 (va_up ia22 11 (upd (ia22 11) k 2))) := hD
                  obtain ⟨ia23, eia23⟩ : ∃ q9_, q9_ = va_up ia22 11 (upd (ia22 11) k 2) := ⟨_, rfl⟩
                  rw [← eia23] at hP hD
                  have hi : same [11, 13, 17, 20] ia ia23 := by rw [eia23]; exact hi.up (by decide)
                  refine lv_iinc (k := 1) (v := nI (k + 1)) hx hb d_MO_cut_148 hl rfl ((nI_succ k).symm) (by decide) rfl (fun ls hl => ?_)
                  have hl : lv_has ls 4 [(3, .int (nI (k + 1))), (2, .int (n + r12)), (1, .int x), (0, .ref g0)] := hl
                  refine lv_goto (tgt := 41) hx hb d_MO_cut_151 (by decide) ?_
                  have f11 : ia23 11 k = 2 := (show ia23 11 k = 2 by rw [eia23]; show upd (ia22 11) k 2 k = _; exact pk_us)
                  exact ih_41 (k + 1) (n + r12) sc13 ia23 H _ ls (by omega) (by omega) hs hi (fun i => by by_cases h9 : i = k; { rw [h9]; exact Or.inr ⟨Or.inr (hO.one h56_4), Or.inl f11⟩ }; { rw [((((show ia23 11 i = ia22 11 i by rw [eia23]; show upd (ia22 11) k 2 i = _; exact pk_un h9)).trans (show ia22 11 i = ia17 11 i by rw [eia22]; rfl)).trans (show ia17 11 i = ia14 11 i by rw [eia17]; show upd (ia14 11) k 2 i = _; exact pk_un h9)).trans (congrFun (hu12_1 11 (by decide)) i)]; exact hO i }) (fun i h => by rw [(fun h9 : i ≠ k => ((((show ia23 11 i = ia22 11 i by rw [eia23]; show upd (ia22 11) k 2 i = _; exact pk_un h9)).trans (show ia22 11 i = ia17 11 i by rw [eia22]; rfl)).trans (show ia17 11 i = ia14 11 i by rw [eia17]; show upd (ia14 11) k 2 i = _; exact pk_un h9)).trans (congrFun (hu12_1 11 (by decide)) i)) (by omega)]; exact hZ i h) (fun i q => by by_cases h9 : i = k; { rw [h9] at q ⊢; exact absurd (f11.symm.trans q) (by decide) }; { rw [((((show ia23 11 i = ia22 11 i by rw [eia23]; show upd (ia22 11) k 2 i = _; exact pk_un h9)).trans (show ia22 11 i = ia17 11 i by rw [eia22]; rfl)).trans (show ia17 11 i = ia14 11 i by rw [eia17]; show upd (ia14 11) k 2 i = _; exact pk_un h9)).trans (congrFun (hu12_1 11 (by decide)) i)] at q; rw [((((show ia23 13 i = ia22 13 i by rw [eia23]; rfl)).trans (show ia22 13 i = ia17 13 i by rw [eia22]; show upd (ia17 13) k (sc13 1) i = _; exact pk_un h9)).trans (show ia17 13 i = ia14 13 i by rw [eia17]; rfl)).trans (congrFun (hu12_1 13 (by decide)) i)]; exact hE i q }) (fun i h q => by by_cases h9 : i = k; { rw [h9] at q ⊢; exact absurd (f11.symm.trans q) (by decide) }; { rw [((((show ia23 11 i = ia22 11 i by rw [eia23]; show upd (ia22 11) k 2 i = _; exact pk_un h9)).trans (show ia22 11 i = ia17 11 i by rw [eia22]; rfl)).trans (show ia17 11 i = ia14 11 i by rw [eia17]; show upd (ia14 11) k 2 i = _; exact pk_un h9)).trans (congrFun (hu12_1 11 (by decide)) i)] at q; exact hG i (by omega) q }) (((hu12_0 0 (by decide))).trans h0) (((hu12_0 1 (by decide))).trans h1) hl hP hD hS
      have hl := lv_sub hl [0, 1, 3, 2] (l' := [(3, .int 0), (2, .int 0), (1, .int x), (0, .ref g0)]) rfl
      have hl : lv_has ls 4 [(3, .int (nI 0)), (2, .int 0), (1, .int x), (0, .ref g0)] := hl
      exact J_41 ((N - 0) + 1) 0 0 sc5 ia6 H _ ls (by omega) (by omega) hs hi (fun i => Or.inl (congrFun (hu4_1 11 (by decide)) i)) (fun i _ => congrFun (hu4_1 11 (by decide)) i) (fun i _ => congrFun (hu4_1 13 (by decide)) i) (fun i h => absurd h (by omega)) (hu4_2) (hu4_0 1 (by decide)) hl hP hD hS
    · have h21_2 := h21_2
      have i21_2 := ti_nle h21_2
      (try rw [l_0] at i21_2)
      have lg9 := lc_g hT.2.2.1 (by omega) h21_2
      refine lv_iconst (v := 1) hx hb d_MO_cut_24 (by decide) ?_
      refine lv_goto (tgt := 29) hx hb d_MO_cut_25 (by decide) ?_
      refine t_call (u0 := (sc, ia)) (va_runV (C := R_MO) (As := [.int 1]) (rest := []) ⟨hx, hb, hml, hown, ht⟩ (t_MO_refused l dC dI g0 ad kI kZ sc ia s.heap.size Bd 1) (cwV 1 ht (gV tb_732 tb_734 ts_23 tb_5 tb_735) rfl rfl rfl (by decide +kernel) ⟨Nat.le_of_ble_eq_true rfl, Nat.le_of_ble_eq_true rfl⟩) ⟨frP_blind, va_recv (q := (R_MO, F_MO, 30)) hK hP rfl (show (MOW g0 ad kI kZ sc ia : va_W)[0]? = some _ from rfl), fr_pre hP hK hD hAB hBs hS hV⟩ rfl rfl hl.1 rfl (lv_room (Nat.le_of_ble_eq_true rfl)) d_MO_cut_29 ⟨Nat.le_of_ble_eq_true rfl, Nat.le_of_ble_eq_true rfl⟩) hD hS hA (fun r24 u H locs hu hP hD hS => ?_)
      obtain ⟨sc25, ia26⟩ := u
      obtain ⟨hu24_0, hu24_1, hu24_2, hu24_3⟩ := hu
      have hu24_0 : same [0] sc sc25 := hu24_0
      have hu24_1 : same [] ia ia26 := hu24_1
      have hu24_2 : sc25 0 = 1 := hu24_2
      have hu24_3 : ((0 : Int32) < 1 ∧ r24 = 1 ∨ ¬ (0 : Int32) < 1 ∧ r24 = 0) := hu24_3
      have hP : va_P (dC, dI) cls_ (MOW g0 ad kI kZ sc25 ia26) H := hP
      have hD : va_D A (MOW g0 ad kI kZ sc25 ia26) := hD
      have hs : same [0, 1, 28] sc sc25 := hs.tr (hu24_0.wk (by decide))
      have hi : same [11, 13, 17, 20] ia ia26 := hi.tr (hu24_1.wk (by decide))
      refine W.eq (g2 := F0 m 32 ls [.int r24]) rfl ?_
      refine W.cs (cells' := 0) (slots' := 0) rfl rfl ?_
      obtain rfl : r24 = 1 := by rcases hu24_3 with ⟨_, q⟩ | ⟨q, _⟩; { exact q }; { exact absurd (by decide) q }
      refine lv_if_eq (tgt := 37) hx hb d_MO_cut_32 (by decide) (fun h9 => absurd h9 (by decide)) (fun _ => ?_)
      refine lv_iconst (v := 0) hx hb d_MO_cut_35 (by decide) ?_
      have hz0 : MI T N sc25 ia26 := hI.same (hu24_0.wk (by decide)) ((same.rf).tr (hu24_1.wk (by decide)))
      have hz1 : (((sc 1).toInt ≤ x.toInt ∧ x.toInt ≤ (sc 1).toInt + 1000) ∧ sc25 0 = 0 ∧ sc25 1 = x ∨ ¬ ((sc 1).toInt ≤ x.toInt ∧ x.toInt ≤ (sc 1).toInt + 1000) ∧ sc25 0 = 1 ∧ sc25 1 = sc 1) := Or.inr ⟨fun q => lg9 q.2, hu24_2, hu24_0 1 (by decide)⟩
      exact W.iret (v := 0) hx hb hr (fun t ht9 hW => ⟨⟨0, (sc25, ia26), rfl, ⟨hs, hi, hz0, hz1⟩, by rw [ht9]; exact hP, hD⟩, hS.F ht9⟩) hS.2.2 d_MO_cut_36
set_option maxHeartbeats 8000000 in
set_option maxRecDepth 100000 in
theorem t_MO_request (l : Launch) (dC : Nat → ClassId) (dI : Nat → Nat → Nat) (g0 : Nat) (ad : Nat → Nat) (kI kZ : ClassId) (sc : Nat → Int32) (ia : Nat → Nat → Int32) (sz Bd : Nat) (T : Int) (N : Nat) (hI : MI T N sc ia) (xc xs xl xp xd : Int32) : Met l y_MO_request w_MO_request ({ frames := 1, cells := 0, slots := 0, locals := 22 }) (frP (dC, dI) (MOW g0 ad kI kZ sc ia) (MOT kI kZ) sz Bd [.ref g0, .int xc, .int xs, .int xl, .int xp, .int xd]) (tQ (dC, dI) (mW g0 ad kI kZ) (va_A (MOW g0 ad kI kZ sc ia) sz) vI (fun r u => same [0, 4] sc u.1 ∧ same [5, 6, 7, 8, 9, 10] ia u.2 ∧ (∃ Nz, MI T Nz u.1 u.2))) 0 0 (va_A (MOW g0 ad kI kZ sc ia) sz) := by
  refine Met.ofW (cc := c_MO_request) (maxL := 8) (ret := (some .int)) (by decide) rfl ?_
  intro p e s m args below meth c s₁ B hml hv
  obtain ⟨rfl, ⟨hsz, hBs⟩, hP, hK, hD0, hV⟩ := hv
  have hx := B.exec
  have hb := B.bytes
  have hr := B.returns
  have ht : ∀ w ∈ tb_, w.before _ s = true := fun w h => atoms_spec (ws := w_MO_request) B.pre w (List.mem_cons_of_mem _ h)
  have hown : s.vm.findClass R_MO = some m.cls := findClass_of_methodNamed B.named
  have hlocks := B.notSynchronized
  subst hsz
  have hD := hD0.self (sz := s.heap.size)
  have hAB : ∀ q, va_A (MOW g0 ad kI kZ sc ia) s.heap.size q → Bd ≤ q := fr_AB hD0 hBs
  generalize hAe : va_A (MOW g0 ad kI kZ sc ia) s.heap.size = A at hD hAB ⊢
  have hA : ∀ q : Nat, s.heap.size ≤ q → A q := fun q h => by rw [← hAe]; exact Or.inr h
  have hS : va_S A s.heap s.heap [] := va_S.rf
  have hs : same [0, 4] sc sc := same.rf
  have hi : same [5, 6, 7, 8, 9, 10] ia ia := same.rf
  have hP : va_P (dC, dI) cls_ (MOW g0 ad kI kZ sc ia) s.heap := hP
  have hl := lv_entry ([.ref g0, .int xc, .int xs, .int xl, .int xp, .int xd]) (n := 8) (Nat.le_of_ble_eq_true rfl)
  rw [lg_entry_eq]
  generalize (lg_sl ([.ref g0, .int xc, .int xs, .int xl, .int xp, .int xd]) ++ List.replicate (8 - (lg_sl ([.ref g0, .int xc, .int xs, .int xl, .int xp, .int xd])).length) Slot.unset).toArray = ls at hl ⊢
  have hl : lv_has ls 8 [(0, .ref g0), (1, .int xc), (2, .int xs), (3, .int xl), (4, .int xp), (5, .int xd)] := hl
  have e4 := hI.e4
  have hN := hI.hN
  have hT := hI.T
  refine lv_iload_n hx hb d_MO_request_0 rfl (lv_at hl 1 rfl) ?_
  refine lv_if_lt (tgt := 73) hx hb d_MO_request_1 (by decide) (fun h1_1 => ?_) (fun h1_1 => ?_)
  · have h1_1 := h1_1
    have i1_1 := ti_lt h1_1
    (try rw [l_0] at i1_1)
    refine lv_iconst (v := 0) hx hb d_MO_request_73 (by decide) ?_
    refine lv_istore hx hb d_MO_request_74 hl (by decide) rfl (fun ls hl => ?_)
    have hl : lv_has ls 8 [(6, .int 0), (0, .ref g0), (1, .int xc), (2, .int xs), (3, .int xl), (4, .int xp), (5, .int xd)] := hl
    refine lv_aload_n hx hb d_MO_request_76 rfl (lv_at hl 1 rfl) ?_
    refine lv_iload hx hb d_MO_request_77 (lv_at hl 0 rfl) ?_
    refine lv_if_ne (tgt := 86) hx hb d_MO_request_79 (by decide) (fun h9 => absurd (by decide) h9) (fun _ => ?_)
    refine lv_iconst (v := 1) hx hb d_MO_request_82 (by decide) ?_
    refine lv_goto (tgt := 109) hx hb d_MO_request_83 (by decide) ?_
    refine t_call (u0 := (sc, ia)) (va_runV (C := R_MO) (As := [.int 1]) (rest := []) ⟨hx, hb, hml, hown, ht⟩ (t_MO_refused l dC dI g0 ad kI kZ sc ia s.heap.size Bd 1) (cwV 1 ht (gV tb_732 tb_734 ts_23 tb_5 tb_735) rfl rfl rfl (by decide +kernel) ⟨Nat.le_of_ble_eq_true rfl, Nat.le_of_ble_eq_true rfl⟩) ⟨frP_blind, va_recv (q := (R_MO, F_MO, 30)) hK hP rfl (show (MOW g0 ad kI kZ sc ia : va_W)[0]? = some _ from rfl), fr_pre hP hK hD hAB hBs hS hV⟩ rfl rfl hl.1 rfl (lv_room (Nat.le_of_ble_eq_true rfl)) d_MO_request_109 ⟨Nat.le_of_ble_eq_true rfl, Nat.le_of_ble_eq_true rfl⟩) hD hS hA (fun r1 u H locs hu hP hD hS => ?_)
    obtain ⟨sc2, ia3⟩ := u
    obtain ⟨hu1_0, hu1_1, hu1_2, hu1_3⟩ := hu
    have hu1_0 : same [0] sc sc2 := hu1_0
    have hu1_1 : same [] ia ia3 := hu1_1
    have hu1_2 : sc2 0 = 1 := hu1_2
    have hu1_3 : ((0 : Int32) < 1 ∧ r1 = 1 ∨ ¬ (0 : Int32) < 1 ∧ r1 = 0) := hu1_3
    have hP : va_P (dC, dI) cls_ (MOW g0 ad kI kZ sc2 ia3) H := hP
    have hD : va_D A (MOW g0 ad kI kZ sc2 ia3) := hD
    have hs : same [0, 4] sc sc2 := hs.tr (hu1_0.wk (by decide))
    have hi : same [5, 6, 7, 8, 9, 10] ia ia3 := hi.tr (hu1_1.wk (by decide))
    refine W.eq (g2 := F0 m 112 ls [.int r1]) rfl ?_
    refine W.cs (cells' := 0) (slots' := 0) rfl rfl ?_
    obtain rfl : r1 = 1 := by rcases hu1_3 with ⟨_, q⟩ | ⟨q, _⟩; { exact q }; { exact absurd (by decide) q }
    refine lv_if_eq (tgt := 117) hx hb d_MO_request_112 (by decide) (fun h9 => absurd h9 (by decide)) (fun _ => ?_)
    refine lv_iconst (v := 0) hx hb d_MO_request_115 (by decide) ?_
    have hz0 : (∃ Nz, MI T Nz sc2 ia3) := ⟨N, hI.same (hu1_0.wk (by decide)) ((same.rf).tr (hu1_1.wk (by decide)))⟩
    exact W.iret (v := 0) hx hb hr (fun t ht9 hW => ⟨⟨0, (sc2, ia3), rfl, ⟨hs, hi, hz0⟩, by rw [ht9]; exact hP, hD⟩, hS.F ht9⟩) hS.2.2 d_MO_request_116
  · have h1_1 := h1_1
    have i1_1 := ti_nlt h1_1
    (try rw [l_0] at i1_1)
    refine lv_iload_n hx hb d_MO_request_4 rfl (lv_at hl 1 rfl) ?_
    refine lv_bipush (v := 7) hx hb d_MO_request_5 (by decide) ?_
    refine lv_icmp_gt (tgt := 73) hx hb d_MO_request_7 (by decide) (fun h7_2 => ?_) (fun h7_2 => ?_)
    · have h7_2 := h7_2
      have i7_2 := ti_lt h7_2
      (try rw [l_7] at i7_2)
      refine lv_iconst (v := 0) hx hb d_MO_request_73 (by decide) ?_
      refine lv_istore hx hb d_MO_request_74 hl (by decide) rfl (fun ls hl => ?_)
      have hl : lv_has ls 8 [(6, .int 0), (0, .ref g0), (1, .int xc), (2, .int xs), (3, .int xl), (4, .int xp), (5, .int xd)] := hl
      refine lv_aload_n hx hb d_MO_request_76 rfl (lv_at hl 1 rfl) ?_
      refine lv_iload hx hb d_MO_request_77 (lv_at hl 0 rfl) ?_
      refine lv_if_ne (tgt := 86) hx hb d_MO_request_79 (by decide) (fun h9 => absurd (by decide) h9) (fun _ => ?_)
      refine lv_iconst (v := 1) hx hb d_MO_request_82 (by decide) ?_
      refine lv_goto (tgt := 109) hx hb d_MO_request_83 (by decide) ?_
      refine t_call (u0 := (sc, ia)) (va_runV (C := R_MO) (As := [.int 1]) (rest := []) ⟨hx, hb, hml, hown, ht⟩ (t_MO_refused l dC dI g0 ad kI kZ sc ia s.heap.size Bd 1) (cwV 1 ht (gV tb_732 tb_734 ts_23 tb_5 tb_735) rfl rfl rfl (by decide +kernel) ⟨Nat.le_of_ble_eq_true rfl, Nat.le_of_ble_eq_true rfl⟩) ⟨frP_blind, va_recv (q := (R_MO, F_MO, 30)) hK hP rfl (show (MOW g0 ad kI kZ sc ia : va_W)[0]? = some _ from rfl), fr_pre hP hK hD hAB hBs hS hV⟩ rfl rfl hl.1 rfl (lv_room (Nat.le_of_ble_eq_true rfl)) d_MO_request_109 ⟨Nat.le_of_ble_eq_true rfl, Nat.le_of_ble_eq_true rfl⟩) hD hS hA (fun r4 u H locs hu hP hD hS => ?_)
      obtain ⟨sc5, ia6⟩ := u
      obtain ⟨hu4_0, hu4_1, hu4_2, hu4_3⟩ := hu
      have hu4_0 : same [0] sc sc5 := hu4_0
      have hu4_1 : same [] ia ia6 := hu4_1
      have hu4_2 : sc5 0 = 1 := hu4_2
      have hu4_3 : ((0 : Int32) < 1 ∧ r4 = 1 ∨ ¬ (0 : Int32) < 1 ∧ r4 = 0) := hu4_3
      have hP : va_P (dC, dI) cls_ (MOW g0 ad kI kZ sc5 ia6) H := hP
      have hD : va_D A (MOW g0 ad kI kZ sc5 ia6) := hD
      have hs : same [0, 4] sc sc5 := hs.tr (hu4_0.wk (by decide))
      have hi : same [5, 6, 7, 8, 9, 10] ia ia6 := hi.tr (hu4_1.wk (by decide))
      refine W.eq (g2 := F0 m 112 ls [.int r4]) rfl ?_
      refine W.cs (cells' := 0) (slots' := 0) rfl rfl ?_
      obtain rfl : r4 = 1 := by rcases hu4_3 with ⟨_, q⟩ | ⟨q, _⟩; { exact q }; { exact absurd (by decide) q }
      refine lv_if_eq (tgt := 117) hx hb d_MO_request_112 (by decide) (fun h9 => absurd h9 (by decide)) (fun _ => ?_)
      refine lv_iconst (v := 0) hx hb d_MO_request_115 (by decide) ?_
      have hz0 : (∃ Nz, MI T Nz sc5 ia6) := ⟨N, hI.same (hu4_0.wk (by decide)) ((same.rf).tr (hu4_1.wk (by decide)))⟩
      exact W.iret (v := 0) hx hb hr (fun t ht9 hW => ⟨⟨0, (sc5, ia6), rfl, ⟨hs, hi, hz0⟩, by rw [ht9]; exact hP, hD⟩, hS.F ht9⟩) hS.2.2 d_MO_request_116
    · have h7_2 := h7_2
      have i7_2 := ti_nlt h7_2
      (try rw [l_7] at i7_2)
      refine lv_iload_n hx hb d_MO_request_10 rfl (lv_at hl 2 rfl) ?_
      refine lv_aload_n hx hb d_MO_request_11 rfl (lv_at hl 0 rfl) ?_
      refine va_get (D := (dC, dI)) (ci := 5) (v := .int (sc 1)) (C := R_MO) (T := F_MO) (N := 30) hx hb ht in_MO hown hK hP 0 rfl rfl 1 (by decide) (ht _ tb_632) (fun _ h9 => h9) rfl d_MO_request_12 ?_
      refine lv_icmp_lt (tgt := 73) hx hb d_MO_request_15 (by decide) (fun h15_3 => ?_) (fun h15_3 => ?_)
      · have h15_3 := h15_3
        have i15_3 := ti_lt h15_3
        refine lv_iconst (v := 0) hx hb d_MO_request_73 (by decide) ?_
        refine lv_istore hx hb d_MO_request_74 hl (by decide) rfl (fun ls hl => ?_)
        have hl : lv_has ls 8 [(6, .int 0), (0, .ref g0), (1, .int xc), (2, .int xs), (3, .int xl), (4, .int xp), (5, .int xd)] := hl
        refine lv_aload_n hx hb d_MO_request_76 rfl (lv_at hl 1 rfl) ?_
        refine lv_iload hx hb d_MO_request_77 (lv_at hl 0 rfl) ?_
        refine lv_if_ne (tgt := 86) hx hb d_MO_request_79 (by decide) (fun h9 => absurd (by decide) h9) (fun _ => ?_)
        refine lv_iconst (v := 1) hx hb d_MO_request_82 (by decide) ?_
        refine lv_goto (tgt := 109) hx hb d_MO_request_83 (by decide) ?_
        refine t_call (u0 := (sc, ia)) (va_runV (C := R_MO) (As := [.int 1]) (rest := []) ⟨hx, hb, hml, hown, ht⟩ (t_MO_refused l dC dI g0 ad kI kZ sc ia s.heap.size Bd 1) (cwV 1 ht (gV tb_732 tb_734 ts_23 tb_5 tb_735) rfl rfl rfl (by decide +kernel) ⟨Nat.le_of_ble_eq_true rfl, Nat.le_of_ble_eq_true rfl⟩) ⟨frP_blind, va_recv (q := (R_MO, F_MO, 30)) hK hP rfl (show (MOW g0 ad kI kZ sc ia : va_W)[0]? = some _ from rfl), fr_pre hP hK hD hAB hBs hS hV⟩ rfl rfl hl.1 rfl (lv_room (Nat.le_of_ble_eq_true rfl)) d_MO_request_109 ⟨Nat.le_of_ble_eq_true rfl, Nat.le_of_ble_eq_true rfl⟩) hD hS hA (fun r7 u H locs hu hP hD hS => ?_)
        obtain ⟨sc8, ia9⟩ := u
        obtain ⟨hu7_0, hu7_1, hu7_2, hu7_3⟩ := hu
        have hu7_0 : same [0] sc sc8 := hu7_0
        have hu7_1 : same [] ia ia9 := hu7_1
        have hu7_2 : sc8 0 = 1 := hu7_2
        have hu7_3 : ((0 : Int32) < 1 ∧ r7 = 1 ∨ ¬ (0 : Int32) < 1 ∧ r7 = 0) := hu7_3
        have hP : va_P (dC, dI) cls_ (MOW g0 ad kI kZ sc8 ia9) H := hP
        have hD : va_D A (MOW g0 ad kI kZ sc8 ia9) := hD
        have hs : same [0, 4] sc sc8 := hs.tr (hu7_0.wk (by decide))
        have hi : same [5, 6, 7, 8, 9, 10] ia ia9 := hi.tr (hu7_1.wk (by decide))
        refine W.eq (g2 := F0 m 112 ls [.int r7]) rfl ?_
        refine W.cs (cells' := 0) (slots' := 0) rfl rfl ?_
        obtain rfl : r7 = 1 := by rcases hu7_3 with ⟨_, q⟩ | ⟨q, _⟩; { exact q }; { exact absurd (by decide) q }
        refine lv_if_eq (tgt := 117) hx hb d_MO_request_112 (by decide) (fun h9 => absurd h9 (by decide)) (fun _ => ?_)
        refine lv_iconst (v := 0) hx hb d_MO_request_115 (by decide) ?_
        have hz0 : (∃ Nz, MI T Nz sc8 ia9) := ⟨N, hI.same (hu7_0.wk (by decide)) ((same.rf).tr (hu7_1.wk (by decide)))⟩
        exact W.iret (v := 0) hx hb hr (fun t ht9 hW => ⟨⟨0, (sc8, ia9), rfl, ⟨hs, hi, hz0⟩, by rw [ht9]; exact hP, hD⟩, hS.F ht9⟩) hS.2.2 d_MO_request_116
      · have h15_3 := h15_3
        have i15_3 := ti_nlt h15_3
        refine lv_iload_n hx hb d_MO_request_18 rfl (lv_at hl 2 rfl) ?_
        refine lv_i2l hx hb d_MO_request_19 rfl ?_
        refine lv_aload_n hx hb d_MO_request_20 rfl (lv_at hl 0 rfl) ?_
        refine va_get (D := (dC, dI)) (ci := 5) (v := .int (sc 1)) (C := R_MO) (T := F_MO) (N := 30) hx hb ht in_MO hown hK hP 0 rfl rfl 1 (by decide) (ht _ tb_632) (fun _ h9 => h9) rfl d_MO_request_21 ?_
        refine lv_i2l hx hb d_MO_request_24 rfl ?_
        refine lv_ldc2 (v := 1000) hx hb hown (ht _ tb_727) d_MO_request_25 ?_
        refine lv_ladd hx hb d_MO_request_28 ?_
        refine W.lcmp hx hb d_MO_request_29 ?_
        refine lv_if_gt (tgt := 73) hx hb d_MO_request_30 (by decide) (fun h30_4 => ?_) (fun h30_4 => ?_)
        · have h30_4 := h30_4
          have i30_4 := ti_lt h30_4
          (try rw [l_0] at i30_4)
          refine lv_iconst (v := 0) hx hb d_MO_request_73 (by decide) ?_
          refine lv_istore hx hb d_MO_request_74 hl (by decide) rfl (fun ls hl => ?_)
          have hl : lv_has ls 8 [(6, .int 0), (0, .ref g0), (1, .int xc), (2, .int xs), (3, .int xl), (4, .int xp), (5, .int xd)] := hl
          refine lv_aload_n hx hb d_MO_request_76 rfl (lv_at hl 1 rfl) ?_
          refine lv_iload hx hb d_MO_request_77 (lv_at hl 0 rfl) ?_
          refine lv_if_ne (tgt := 86) hx hb d_MO_request_79 (by decide) (fun h9 => absurd (by decide) h9) (fun _ => ?_)
          refine lv_iconst (v := 1) hx hb d_MO_request_82 (by decide) ?_
          refine lv_goto (tgt := 109) hx hb d_MO_request_83 (by decide) ?_
          refine t_call (u0 := (sc, ia)) (va_runV (C := R_MO) (As := [.int 1]) (rest := []) ⟨hx, hb, hml, hown, ht⟩ (t_MO_refused l dC dI g0 ad kI kZ sc ia s.heap.size Bd 1) (cwV 1 ht (gV tb_732 tb_734 ts_23 tb_5 tb_735) rfl rfl rfl (by decide +kernel) ⟨Nat.le_of_ble_eq_true rfl, Nat.le_of_ble_eq_true rfl⟩) ⟨frP_blind, va_recv (q := (R_MO, F_MO, 30)) hK hP rfl (show (MOW g0 ad kI kZ sc ia : va_W)[0]? = some _ from rfl), fr_pre hP hK hD hAB hBs hS hV⟩ rfl rfl hl.1 rfl (lv_room (Nat.le_of_ble_eq_true rfl)) d_MO_request_109 ⟨Nat.le_of_ble_eq_true rfl, Nat.le_of_ble_eq_true rfl⟩) hD hS hA (fun r10 u H locs hu hP hD hS => ?_)
          obtain ⟨sc11, ia12⟩ := u
          obtain ⟨hu10_0, hu10_1, hu10_2, hu10_3⟩ := hu
          have hu10_0 : same [0] sc sc11 := hu10_0
          have hu10_1 : same [] ia ia12 := hu10_1
          have hu10_2 : sc11 0 = 1 := hu10_2
          have hu10_3 : ((0 : Int32) < 1 ∧ r10 = 1 ∨ ¬ (0 : Int32) < 1 ∧ r10 = 0) := hu10_3
          have hP : va_P (dC, dI) cls_ (MOW g0 ad kI kZ sc11 ia12) H := hP
          have hD : va_D A (MOW g0 ad kI kZ sc11 ia12) := hD
          have hs : same [0, 4] sc sc11 := hs.tr (hu10_0.wk (by decide))
          have hi : same [5, 6, 7, 8, 9, 10] ia ia12 := hi.tr (hu10_1.wk (by decide))
          refine W.eq (g2 := F0 m 112 ls [.int r10]) rfl ?_
          refine W.cs (cells' := 0) (slots' := 0) rfl rfl ?_
          obtain rfl : r10 = 1 := by rcases hu10_3 with ⟨_, q⟩ | ⟨q, _⟩; { exact q }; { exact absurd (by decide) q }
          refine lv_if_eq (tgt := 117) hx hb d_MO_request_112 (by decide) (fun h9 => absurd h9 (by decide)) (fun _ => ?_)
          refine lv_iconst (v := 0) hx hb d_MO_request_115 (by decide) ?_
          have hz0 : (∃ Nz, MI T Nz sc11 ia12) := ⟨N, hI.same (hu10_0.wk (by decide)) ((same.rf).tr (hu10_1.wk (by decide)))⟩
          exact W.iret (v := 0) hx hb hr (fun t ht9 hW => ⟨⟨0, (sc11, ia12), rfl, ⟨hs, hi, hz0⟩, by rw [ht9]; exact hP, hD⟩, hS.F ht9⟩) hS.2.2 d_MO_request_116
        · have h30_4 := h30_4
          have i30_4 := ti_nlt h30_4
          (try rw [l_0] at i30_4)
          refine lv_iload_n hx hb d_MO_request_33 rfl (lv_at hl 3 rfl) ?_
          refine lv_iconst (v := 1) hx hb d_MO_request_34 (by decide) ?_
          refine lv_icmp_lt (tgt := 73) hx hb d_MO_request_35 (by decide) (fun h35_5 => ?_) (fun h35_5 => ?_)
          · have h35_5 := h35_5
            have i35_5 := ti_lt h35_5
            (try rw [l_1] at i35_5)
            refine lv_iconst (v := 0) hx hb d_MO_request_73 (by decide) ?_
            refine lv_istore hx hb d_MO_request_74 hl (by decide) rfl (fun ls hl => ?_)
            have hl : lv_has ls 8 [(6, .int 0), (0, .ref g0), (1, .int xc), (2, .int xs), (3, .int xl), (4, .int xp), (5, .int xd)] := hl
            refine lv_aload_n hx hb d_MO_request_76 rfl (lv_at hl 1 rfl) ?_
            refine lv_iload hx hb d_MO_request_77 (lv_at hl 0 rfl) ?_
            refine lv_if_ne (tgt := 86) hx hb d_MO_request_79 (by decide) (fun h9 => absurd (by decide) h9) (fun _ => ?_)
            refine lv_iconst (v := 1) hx hb d_MO_request_82 (by decide) ?_
            refine lv_goto (tgt := 109) hx hb d_MO_request_83 (by decide) ?_
            refine t_call (u0 := (sc, ia)) (va_runV (C := R_MO) (As := [.int 1]) (rest := []) ⟨hx, hb, hml, hown, ht⟩ (t_MO_refused l dC dI g0 ad kI kZ sc ia s.heap.size Bd 1) (cwV 1 ht (gV tb_732 tb_734 ts_23 tb_5 tb_735) rfl rfl rfl (by decide +kernel) ⟨Nat.le_of_ble_eq_true rfl, Nat.le_of_ble_eq_true rfl⟩) ⟨frP_blind, va_recv (q := (R_MO, F_MO, 30)) hK hP rfl (show (MOW g0 ad kI kZ sc ia : va_W)[0]? = some _ from rfl), fr_pre hP hK hD hAB hBs hS hV⟩ rfl rfl hl.1 rfl (lv_room (Nat.le_of_ble_eq_true rfl)) d_MO_request_109 ⟨Nat.le_of_ble_eq_true rfl, Nat.le_of_ble_eq_true rfl⟩) hD hS hA (fun r13 u H locs hu hP hD hS => ?_)
            obtain ⟨sc14, ia15⟩ := u
            obtain ⟨hu13_0, hu13_1, hu13_2, hu13_3⟩ := hu
            have hu13_0 : same [0] sc sc14 := hu13_0
            have hu13_1 : same [] ia ia15 := hu13_1
            have hu13_2 : sc14 0 = 1 := hu13_2
            have hu13_3 : ((0 : Int32) < 1 ∧ r13 = 1 ∨ ¬ (0 : Int32) < 1 ∧ r13 = 0) := hu13_3
            have hP : va_P (dC, dI) cls_ (MOW g0 ad kI kZ sc14 ia15) H := hP
            have hD : va_D A (MOW g0 ad kI kZ sc14 ia15) := hD
            have hs : same [0, 4] sc sc14 := hs.tr (hu13_0.wk (by decide))
            have hi : same [5, 6, 7, 8, 9, 10] ia ia15 := hi.tr (hu13_1.wk (by decide))
            refine W.eq (g2 := F0 m 112 ls [.int r13]) rfl ?_
            refine W.cs (cells' := 0) (slots' := 0) rfl rfl ?_
            obtain rfl : r13 = 1 := by rcases hu13_3 with ⟨_, q⟩ | ⟨q, _⟩; { exact q }; { exact absurd (by decide) q }
            refine lv_if_eq (tgt := 117) hx hb d_MO_request_112 (by decide) (fun h9 => absurd h9 (by decide)) (fun _ => ?_)
            refine lv_iconst (v := 0) hx hb d_MO_request_115 (by decide) ?_
            have hz0 : (∃ Nz, MI T Nz sc14 ia15) := ⟨N, hI.same (hu13_0.wk (by decide)) ((same.rf).tr (hu13_1.wk (by decide)))⟩
            exact W.iret (v := 0) hx hb hr (fun t ht9 hW => ⟨⟨0, (sc14, ia15), rfl, ⟨hs, hi, hz0⟩, by rw [ht9]; exact hP, hD⟩, hS.F ht9⟩) hS.2.2 d_MO_request_116
          · have h35_5 := h35_5
            have i35_5 := ti_nlt h35_5
            (try rw [l_1] at i35_5)
            refine lv_iload_n hx hb d_MO_request_38 rfl (lv_at hl 3 rfl) ?_
            refine lv_bipush (v := 60) hx hb d_MO_request_39 (by decide) ?_
            refine lv_icmp_gt (tgt := 73) hx hb d_MO_request_41 (by decide) (fun h41_6 => ?_) (fun h41_6 => ?_)
            · have h41_6 := h41_6
              have i41_6 := ti_lt h41_6
              (try rw [l_60] at i41_6)
              refine lv_iconst (v := 0) hx hb d_MO_request_73 (by decide) ?_
              refine lv_istore hx hb d_MO_request_74 hl (by decide) rfl (fun ls hl => ?_)
              have hl : lv_has ls 8 [(6, .int 0), (0, .ref g0), (1, .int xc), (2, .int xs), (3, .int xl), (4, .int xp), (5, .int xd)] := hl
              refine lv_aload_n hx hb d_MO_request_76 rfl (lv_at hl 1 rfl) ?_
              refine lv_iload hx hb d_MO_request_77 (lv_at hl 0 rfl) ?_
              refine lv_if_ne (tgt := 86) hx hb d_MO_request_79 (by decide) (fun h9 => absurd (by decide) h9) (fun _ => ?_)
              refine lv_iconst (v := 1) hx hb d_MO_request_82 (by decide) ?_
              refine lv_goto (tgt := 109) hx hb d_MO_request_83 (by decide) ?_
              refine t_call (u0 := (sc, ia)) (va_runV (C := R_MO) (As := [.int 1]) (rest := []) ⟨hx, hb, hml, hown, ht⟩ (t_MO_refused l dC dI g0 ad kI kZ sc ia s.heap.size Bd 1) (cwV 1 ht (gV tb_732 tb_734 ts_23 tb_5 tb_735) rfl rfl rfl (by decide +kernel) ⟨Nat.le_of_ble_eq_true rfl, Nat.le_of_ble_eq_true rfl⟩) ⟨frP_blind, va_recv (q := (R_MO, F_MO, 30)) hK hP rfl (show (MOW g0 ad kI kZ sc ia : va_W)[0]? = some _ from rfl), fr_pre hP hK hD hAB hBs hS hV⟩ rfl rfl hl.1 rfl (lv_room (Nat.le_of_ble_eq_true rfl)) d_MO_request_109 ⟨Nat.le_of_ble_eq_true rfl, Nat.le_of_ble_eq_true rfl⟩) hD hS hA (fun r16 u H locs hu hP hD hS => ?_)
              obtain ⟨sc17, ia18⟩ := u
              obtain ⟨hu16_0, hu16_1, hu16_2, hu16_3⟩ := hu
              have hu16_0 : same [0] sc sc17 := hu16_0
              have hu16_1 : same [] ia ia18 := hu16_1
              have hu16_2 : sc17 0 = 1 := hu16_2
              have hu16_3 : ((0 : Int32) < 1 ∧ r16 = 1 ∨ ¬ (0 : Int32) < 1 ∧ r16 = 0) := hu16_3
              have hP : va_P (dC, dI) cls_ (MOW g0 ad kI kZ sc17 ia18) H := hP
              have hD : va_D A (MOW g0 ad kI kZ sc17 ia18) := hD
              have hs : same [0, 4] sc sc17 := hs.tr (hu16_0.wk (by decide))
              have hi : same [5, 6, 7, 8, 9, 10] ia ia18 := hi.tr (hu16_1.wk (by decide))
              refine W.eq (g2 := F0 m 112 ls [.int r16]) rfl ?_
              refine W.cs (cells' := 0) (slots' := 0) rfl rfl ?_
              obtain rfl : r16 = 1 := by rcases hu16_3 with ⟨_, q⟩ | ⟨q, _⟩; { exact q }; { exact absurd (by decide) q }
              refine lv_if_eq (tgt := 117) hx hb d_MO_request_112 (by decide) (fun h9 => absurd h9 (by decide)) (fun _ => ?_)
              refine lv_iconst (v := 0) hx hb d_MO_request_115 (by decide) ?_
              have hz0 : (∃ Nz, MI T Nz sc17 ia18) := ⟨N, hI.same (hu16_0.wk (by decide)) ((same.rf).tr (hu16_1.wk (by decide)))⟩
              exact W.iret (v := 0) hx hb hr (fun t ht9 hW => ⟨⟨0, (sc17, ia18), rfl, ⟨hs, hi, hz0⟩, by rw [ht9]; exact hP, hD⟩, hS.F ht9⟩) hS.2.2 d_MO_request_116
            · have h41_6 := h41_6
              have i41_6 := ti_nlt h41_6
              (try rw [l_60] at i41_6)
              refine lv_iload hx hb d_MO_request_44 (lv_at hl 4 rfl) ?_
              refine lv_iconst (v := 1) hx hb d_MO_request_46 (by decide) ?_
              refine lv_icmp_lt (tgt := 73) hx hb d_MO_request_47 (by decide) (fun h47_7 => ?_) (fun h47_7 => ?_)
              · have h47_7 := h47_7
                have i47_7 := ti_lt h47_7
                (try rw [l_1] at i47_7)
                refine lv_iconst (v := 0) hx hb d_MO_request_73 (by decide) ?_
                refine lv_istore hx hb d_MO_request_74 hl (by decide) rfl (fun ls hl => ?_)
                have hl : lv_has ls 8 [(6, .int 0), (0, .ref g0), (1, .int xc), (2, .int xs), (3, .int xl), (4, .int xp), (5, .int xd)] := hl
                refine lv_aload_n hx hb d_MO_request_76 rfl (lv_at hl 1 rfl) ?_
                refine lv_iload hx hb d_MO_request_77 (lv_at hl 0 rfl) ?_
                refine lv_if_ne (tgt := 86) hx hb d_MO_request_79 (by decide) (fun h9 => absurd (by decide) h9) (fun _ => ?_)
                refine lv_iconst (v := 1) hx hb d_MO_request_82 (by decide) ?_
                refine lv_goto (tgt := 109) hx hb d_MO_request_83 (by decide) ?_
                refine t_call (u0 := (sc, ia)) (va_runV (C := R_MO) (As := [.int 1]) (rest := []) ⟨hx, hb, hml, hown, ht⟩ (t_MO_refused l dC dI g0 ad kI kZ sc ia s.heap.size Bd 1) (cwV 1 ht (gV tb_732 tb_734 ts_23 tb_5 tb_735) rfl rfl rfl (by decide +kernel) ⟨Nat.le_of_ble_eq_true rfl, Nat.le_of_ble_eq_true rfl⟩) ⟨frP_blind, va_recv (q := (R_MO, F_MO, 30)) hK hP rfl (show (MOW g0 ad kI kZ sc ia : va_W)[0]? = some _ from rfl), fr_pre hP hK hD hAB hBs hS hV⟩ rfl rfl hl.1 rfl (lv_room (Nat.le_of_ble_eq_true rfl)) d_MO_request_109 ⟨Nat.le_of_ble_eq_true rfl, Nat.le_of_ble_eq_true rfl⟩) hD hS hA (fun r19 u H locs hu hP hD hS => ?_)
                obtain ⟨sc20, ia21⟩ := u
                obtain ⟨hu19_0, hu19_1, hu19_2, hu19_3⟩ := hu
                have hu19_0 : same [0] sc sc20 := hu19_0
                have hu19_1 : same [] ia ia21 := hu19_1
                have hu19_2 : sc20 0 = 1 := hu19_2
                have hu19_3 : ((0 : Int32) < 1 ∧ r19 = 1 ∨ ¬ (0 : Int32) < 1 ∧ r19 = 0) := hu19_3
                have hP : va_P (dC, dI) cls_ (MOW g0 ad kI kZ sc20 ia21) H := hP
                have hD : va_D A (MOW g0 ad kI kZ sc20 ia21) := hD
                have hs : same [0, 4] sc sc20 := hs.tr (hu19_0.wk (by decide))
                have hi : same [5, 6, 7, 8, 9, 10] ia ia21 := hi.tr (hu19_1.wk (by decide))
                refine W.eq (g2 := F0 m 112 ls [.int r19]) rfl ?_
                refine W.cs (cells' := 0) (slots' := 0) rfl rfl ?_
                obtain rfl : r19 = 1 := by rcases hu19_3 with ⟨_, q⟩ | ⟨q, _⟩; { exact q }; { exact absurd (by decide) q }
                refine lv_if_eq (tgt := 117) hx hb d_MO_request_112 (by decide) (fun h9 => absurd h9 (by decide)) (fun _ => ?_)
                refine lv_iconst (v := 0) hx hb d_MO_request_115 (by decide) ?_
                have hz0 : (∃ Nz, MI T Nz sc20 ia21) := ⟨N, hI.same (hu19_0.wk (by decide)) ((same.rf).tr (hu19_1.wk (by decide)))⟩
                exact W.iret (v := 0) hx hb hr (fun t ht9 hW => ⟨⟨0, (sc20, ia21), rfl, ⟨hs, hi, hz0⟩, by rw [ht9]; exact hP, hD⟩, hS.F ht9⟩) hS.2.2 d_MO_request_116
              · have h47_7 := h47_7
                have i47_7 := ti_nlt h47_7
                (try rw [l_1] at i47_7)
                refine lv_iload hx hb d_MO_request_50 (lv_at hl 4 rfl) ?_
                refine lv_bipush (v := 9) hx hb d_MO_request_52 (by decide) ?_
                refine lv_icmp_gt (tgt := 73) hx hb d_MO_request_54 (by decide) (fun h54_8 => ?_) (fun h54_8 => ?_)
                · have h54_8 := h54_8
                  have i54_8 := ti_lt h54_8
                  (try rw [l_9] at i54_8)
                  refine lv_iconst (v := 0) hx hb d_MO_request_73 (by decide) ?_
                  refine lv_istore hx hb d_MO_request_74 hl (by decide) rfl (fun ls hl => ?_)
                  have hl : lv_has ls 8 [(6, .int 0), (0, .ref g0), (1, .int xc), (2, .int xs), (3, .int xl), (4, .int xp), (5, .int xd)] := hl
                  refine lv_aload_n hx hb d_MO_request_76 rfl (lv_at hl 1 rfl) ?_
                  refine lv_iload hx hb d_MO_request_77 (lv_at hl 0 rfl) ?_
                  refine lv_if_ne (tgt := 86) hx hb d_MO_request_79 (by decide) (fun h9 => absurd (by decide) h9) (fun _ => ?_)
                  refine lv_iconst (v := 1) hx hb d_MO_request_82 (by decide) ?_
                  refine lv_goto (tgt := 109) hx hb d_MO_request_83 (by decide) ?_
                  refine t_call (u0 := (sc, ia)) (va_runV (C := R_MO) (As := [.int 1]) (rest := []) ⟨hx, hb, hml, hown, ht⟩ (t_MO_refused l dC dI g0 ad kI kZ sc ia s.heap.size Bd 1) (cwV 1 ht (gV tb_732 tb_734 ts_23 tb_5 tb_735) rfl rfl rfl (by decide +kernel) ⟨Nat.le_of_ble_eq_true rfl, Nat.le_of_ble_eq_true rfl⟩) ⟨frP_blind, va_recv (q := (R_MO, F_MO, 30)) hK hP rfl (show (MOW g0 ad kI kZ sc ia : va_W)[0]? = some _ from rfl), fr_pre hP hK hD hAB hBs hS hV⟩ rfl rfl hl.1 rfl (lv_room (Nat.le_of_ble_eq_true rfl)) d_MO_request_109 ⟨Nat.le_of_ble_eq_true rfl, Nat.le_of_ble_eq_true rfl⟩) hD hS hA (fun r22 u H locs hu hP hD hS => ?_)
                  obtain ⟨sc23, ia24⟩ := u
                  obtain ⟨hu22_0, hu22_1, hu22_2, hu22_3⟩ := hu
                  have hu22_0 : same [0] sc sc23 := hu22_0
                  have hu22_1 : same [] ia ia24 := hu22_1
                  have hu22_2 : sc23 0 = 1 := hu22_2
                  have hu22_3 : ((0 : Int32) < 1 ∧ r22 = 1 ∨ ¬ (0 : Int32) < 1 ∧ r22 = 0) := hu22_3
                  have hP : va_P (dC, dI) cls_ (MOW g0 ad kI kZ sc23 ia24) H := hP
                  have hD : va_D A (MOW g0 ad kI kZ sc23 ia24) := hD
                  have hs : same [0, 4] sc sc23 := hs.tr (hu22_0.wk (by decide))
                  have hi : same [5, 6, 7, 8, 9, 10] ia ia24 := hi.tr (hu22_1.wk (by decide))
                  refine W.eq (g2 := F0 m 112 ls [.int r22]) rfl ?_
                  refine W.cs (cells' := 0) (slots' := 0) rfl rfl ?_
                  obtain rfl : r22 = 1 := by rcases hu22_3 with ⟨_, q⟩ | ⟨q, _⟩; { exact q }; { exact absurd (by decide) q }
                  refine lv_if_eq (tgt := 117) hx hb d_MO_request_112 (by decide) (fun h9 => absurd h9 (by decide)) (fun _ => ?_)
                  refine lv_iconst (v := 0) hx hb d_MO_request_115 (by decide) ?_
                  have hz0 : (∃ Nz, MI T Nz sc23 ia24) := ⟨N, hI.same (hu22_0.wk (by decide)) ((same.rf).tr (hu22_1.wk (by decide)))⟩
                  exact W.iret (v := 0) hx hb hr (fun t ht9 hW => ⟨⟨0, (sc23, ia24), rfl, ⟨hs, hi, hz0⟩, by rw [ht9]; exact hP, hD⟩, hS.F ht9⟩) hS.2.2 d_MO_request_116
                · have h54_8 := h54_8
                  have i54_8 := ti_nlt h54_8
                  (try rw [l_9] at i54_8)
                  refine lv_iload hx hb d_MO_request_57 (lv_at hl 5 rfl) ?_
                  refine lv_if_lt (tgt := 73) hx hb d_MO_request_59 (by decide) (fun h59_9 => ?_) (fun h59_9 => ?_)
                  · have h59_9 := h59_9
                    have i59_9 := ti_lt h59_9
                    (try rw [l_0] at i59_9)
                    refine lv_iconst (v := 0) hx hb d_MO_request_73 (by decide) ?_
                    refine lv_istore hx hb d_MO_request_74 hl (by decide) rfl (fun ls hl => ?_)
                    have hl : lv_has ls 8 [(6, .int 0), (0, .ref g0), (1, .int xc), (2, .int xs), (3, .int xl), (4, .int xp), (5, .int xd)] := hl
                    refine lv_aload_n hx hb d_MO_request_76 rfl (lv_at hl 1 rfl) ?_
                    refine lv_iload hx hb d_MO_request_77 (lv_at hl 0 rfl) ?_
                    refine lv_if_ne (tgt := 86) hx hb d_MO_request_79 (by decide) (fun h9 => absurd (by decide) h9) (fun _ => ?_)
                    refine lv_iconst (v := 1) hx hb d_MO_request_82 (by decide) ?_
                    refine lv_goto (tgt := 109) hx hb d_MO_request_83 (by decide) ?_
                    refine t_call (u0 := (sc, ia)) (va_runV (C := R_MO) (As := [.int 1]) (rest := []) ⟨hx, hb, hml, hown, ht⟩ (t_MO_refused l dC dI g0 ad kI kZ sc ia s.heap.size Bd 1) (cwV 1 ht (gV tb_732 tb_734 ts_23 tb_5 tb_735) rfl rfl rfl (by decide +kernel) ⟨Nat.le_of_ble_eq_true rfl, Nat.le_of_ble_eq_true rfl⟩) ⟨frP_blind, va_recv (q := (R_MO, F_MO, 30)) hK hP rfl (show (MOW g0 ad kI kZ sc ia : va_W)[0]? = some _ from rfl), fr_pre hP hK hD hAB hBs hS hV⟩ rfl rfl hl.1 rfl (lv_room (Nat.le_of_ble_eq_true rfl)) d_MO_request_109 ⟨Nat.le_of_ble_eq_true rfl, Nat.le_of_ble_eq_true rfl⟩) hD hS hA (fun r25 u H locs hu hP hD hS => ?_)
                    obtain ⟨sc26, ia27⟩ := u
                    obtain ⟨hu25_0, hu25_1, hu25_2, hu25_3⟩ := hu
                    have hu25_0 : same [0] sc sc26 := hu25_0
                    have hu25_1 : same [] ia ia27 := hu25_1
                    have hu25_2 : sc26 0 = 1 := hu25_2
                    have hu25_3 : ((0 : Int32) < 1 ∧ r25 = 1 ∨ ¬ (0 : Int32) < 1 ∧ r25 = 0) := hu25_3
                    have hP : va_P (dC, dI) cls_ (MOW g0 ad kI kZ sc26 ia27) H := hP
                    have hD : va_D A (MOW g0 ad kI kZ sc26 ia27) := hD
                    have hs : same [0, 4] sc sc26 := hs.tr (hu25_0.wk (by decide))
                    have hi : same [5, 6, 7, 8, 9, 10] ia ia27 := hi.tr (hu25_1.wk (by decide))
                    refine W.eq (g2 := F0 m 112 ls [.int r25]) rfl ?_
                    refine W.cs (cells' := 0) (slots' := 0) rfl rfl ?_
                    obtain rfl : r25 = 1 := by rcases hu25_3 with ⟨_, q⟩ | ⟨q, _⟩; { exact q }; { exact absurd (by decide) q }
                    refine lv_if_eq (tgt := 117) hx hb d_MO_request_112 (by decide) (fun h9 => absurd h9 (by decide)) (fun _ => ?_)
                    refine lv_iconst (v := 0) hx hb d_MO_request_115 (by decide) ?_
                    have hz0 : (∃ Nz, MI T Nz sc26 ia27) := ⟨N, hI.same (hu25_0.wk (by decide)) ((same.rf).tr (hu25_1.wk (by decide)))⟩
                    exact W.iret (v := 0) hx hb hr (fun t ht9 hW => ⟨⟨0, (sc26, ia27), rfl, ⟨hs, hi, hz0⟩, by rw [ht9]; exact hP, hD⟩, hS.F ht9⟩) hS.2.2 d_MO_request_116
                  · have h59_9 := h59_9
                    have i59_9 := ti_nlt h59_9
                    (try rw [l_0] at i59_9)
                    refine lv_iload hx hb d_MO_request_62 (lv_at hl 5 rfl) ?_
                    refine lv_bipush (v := 99) hx hb d_MO_request_64 (by decide) ?_
                    refine lv_icmp_gt (tgt := 73) hx hb d_MO_request_66 (by decide) (fun h66_10 => ?_) (fun h66_10 => ?_)
                    · have h66_10 := h66_10
                      have i66_10 := ti_lt h66_10
                      (try rw [l_99] at i66_10)
                      refine lv_iconst (v := 0) hx hb d_MO_request_73 (by decide) ?_
                      refine lv_istore hx hb d_MO_request_74 hl (by decide) rfl (fun ls hl => ?_)
                      have hl : lv_has ls 8 [(6, .int 0), (0, .ref g0), (1, .int xc), (2, .int xs), (3, .int xl), (4, .int xp), (5, .int xd)] := hl
                      refine lv_aload_n hx hb d_MO_request_76 rfl (lv_at hl 1 rfl) ?_
                      refine lv_iload hx hb d_MO_request_77 (lv_at hl 0 rfl) ?_
                      refine lv_if_ne (tgt := 86) hx hb d_MO_request_79 (by decide) (fun h9 => absurd (by decide) h9) (fun _ => ?_)
                      refine lv_iconst (v := 1) hx hb d_MO_request_82 (by decide) ?_
                      refine lv_goto (tgt := 109) hx hb d_MO_request_83 (by decide) ?_
                      refine t_call (u0 := (sc, ia)) (va_runV (C := R_MO) (As := [.int 1]) (rest := []) ⟨hx, hb, hml, hown, ht⟩ (t_MO_refused l dC dI g0 ad kI kZ sc ia s.heap.size Bd 1) (cwV 1 ht (gV tb_732 tb_734 ts_23 tb_5 tb_735) rfl rfl rfl (by decide +kernel) ⟨Nat.le_of_ble_eq_true rfl, Nat.le_of_ble_eq_true rfl⟩) ⟨frP_blind, va_recv (q := (R_MO, F_MO, 30)) hK hP rfl (show (MOW g0 ad kI kZ sc ia : va_W)[0]? = some _ from rfl), fr_pre hP hK hD hAB hBs hS hV⟩ rfl rfl hl.1 rfl (lv_room (Nat.le_of_ble_eq_true rfl)) d_MO_request_109 ⟨Nat.le_of_ble_eq_true rfl, Nat.le_of_ble_eq_true rfl⟩) hD hS hA (fun r28 u H locs hu hP hD hS => ?_)
                      obtain ⟨sc29, ia30⟩ := u
                      obtain ⟨hu28_0, hu28_1, hu28_2, hu28_3⟩ := hu
                      have hu28_0 : same [0] sc sc29 := hu28_0
                      have hu28_1 : same [] ia ia30 := hu28_1
                      have hu28_2 : sc29 0 = 1 := hu28_2
                      have hu28_3 : ((0 : Int32) < 1 ∧ r28 = 1 ∨ ¬ (0 : Int32) < 1 ∧ r28 = 0) := hu28_3
                      have hP : va_P (dC, dI) cls_ (MOW g0 ad kI kZ sc29 ia30) H := hP
                      have hD : va_D A (MOW g0 ad kI kZ sc29 ia30) := hD
                      have hs : same [0, 4] sc sc29 := hs.tr (hu28_0.wk (by decide))
                      have hi : same [5, 6, 7, 8, 9, 10] ia ia30 := hi.tr (hu28_1.wk (by decide))
                      refine W.eq (g2 := F0 m 112 ls [.int r28]) rfl ?_
                      refine W.cs (cells' := 0) (slots' := 0) rfl rfl ?_
                      obtain rfl : r28 = 1 := by rcases hu28_3 with ⟨_, q⟩ | ⟨q, _⟩; { exact q }; { exact absurd (by decide) q }
                      refine lv_if_eq (tgt := 117) hx hb d_MO_request_112 (by decide) (fun h9 => absurd h9 (by decide)) (fun _ => ?_)
                      refine lv_iconst (v := 0) hx hb d_MO_request_115 (by decide) ?_
                      have hz0 : (∃ Nz, MI T Nz sc29 ia30) := ⟨N, hI.same (hu28_0.wk (by decide)) ((same.rf).tr (hu28_1.wk (by decide)))⟩
                      exact W.iret (v := 0) hx hb hr (fun t ht9 hW => ⟨⟨0, (sc29, ia30), rfl, ⟨hs, hi, hz0⟩, by rw [ht9]; exact hP, hD⟩, hS.F ht9⟩) hS.2.2 d_MO_request_116
                    · have h66_10 := h66_10
                      have i66_10 := ti_nlt h66_10
                      (try rw [l_99] at i66_10)
                      refine lv_iconst (v := 1) hx hb d_MO_request_69 (by decide) ?_
                      refine lv_goto (tgt := 74) hx hb d_MO_request_70 (by decide) ?_
                      refine lv_istore hx hb d_MO_request_74 hl (by decide) rfl (fun ls hl => ?_)
                      have hl : lv_has ls 8 [(6, .int 1), (0, .ref g0), (1, .int xc), (2, .int xs), (3, .int xl), (4, .int xp), (5, .int xd)] := hl
                      refine lv_aload_n hx hb d_MO_request_76 rfl (lv_at hl 1 rfl) ?_
                      refine lv_iload hx hb d_MO_request_77 (lv_at hl 0 rfl) ?_
                      refine lv_if_ne (tgt := 86) hx hb d_MO_request_79 (by decide) (fun _ => ?_) (fun h9 => absurd h9 (by decide))
                      refine lv_aload_n hx hb d_MO_request_86 rfl (lv_at hl 1 rfl) ?_
                      refine r_call (va_runV (C := R_MO) (As := []) (rest := [.ref g0]) ⟨hx, hb, hml, hown, ht⟩ (t_MO_open l dC dI g0 ad kI kZ sc ia N e4 hN) (cwV 0 ht (gV tb_728 tb_730 ts_22 tb_5 tb_731) rfl rfl rfl (by decide +kernel) ⟨Nat.le_of_ble_eq_true rfl, Nat.le_of_ble_eq_true rfl⟩) ⟨rdP_blind, va_recv (q := (R_MO, F_MO, 30)) hK hP rfl (show (MOW g0 ad kI kZ sc ia : va_W)[0]? = some _ from rfl), rd_pre hP hK⟩ rfl rfl hl.1 rfl (lv_room (Nat.le_of_ble_eq_true rfl)) d_MO_request_87 ⟨Nat.le_of_ble_eq_true rfl, Nat.le_of_ble_eq_true rfl⟩) (fun r31 hu => ?_)
                      have hu31_0 := hu
                      have hu31_0 : r31 = nI (oc (ia 11) N) := hu31_0
                      refine W.eq (g2 := F0 m 90 ls [.int r31, .ref g0]) rfl ?_
                      have ho9 : oc (ia 11) N ≤ 12 := hI.2.2.2.2.2.1
                      subst hu31_0
                      refine lv_bipush (v := 12) hx hb d_MO_request_90 (by decide) ?_
                      refine lv_icmp_eq (tgt := 104) hx hb d_MO_request_92 (by decide) (fun h92_11 => ?_) (fun h92_11 => ?_)
                      · have h92_11 := h92_11
                        have i92_11 := ti_eq h92_11
                        (try rw [nI_toInt (show oc (ia 11) N < 2 ^ 31 by omega)] at i92_11)
                        (try rw [l_12] at i92_11)
                        refine lv_iconst (v := 2) hx hb d_MO_request_104 (by decide) ?_
                        refine lv_goto (tgt := 109) hx hb d_MO_request_105 (by decide) ?_
                        refine t_call (u0 := (sc, ia)) (va_runV (C := R_MO) (As := [.int 2]) (rest := []) ⟨hx, hb, hml, hown, ht⟩ (t_MO_refused l dC dI g0 ad kI kZ sc ia s.heap.size Bd 2) (cwV 1 ht (gV tb_732 tb_734 ts_23 tb_5 tb_735) rfl rfl rfl (by decide +kernel) ⟨Nat.le_of_ble_eq_true rfl, Nat.le_of_ble_eq_true rfl⟩) ⟨frP_blind, va_recv (q := (R_MO, F_MO, 30)) hK hP rfl (show (MOW g0 ad kI kZ sc ia : va_W)[0]? = some _ from rfl), fr_pre hP hK hD hAB hBs hS hV⟩ rfl rfl hl.1 rfl (lv_room (Nat.le_of_ble_eq_true rfl)) d_MO_request_109 ⟨Nat.le_of_ble_eq_true rfl, Nat.le_of_ble_eq_true rfl⟩) hD hS hA (fun r32 u H locs hu hP hD hS => ?_)
                        obtain ⟨sc33, ia34⟩ := u
                        obtain ⟨hu32_0, hu32_1, hu32_2, hu32_3⟩ := hu
                        have hu32_0 : same [0] sc sc33 := hu32_0
                        have hu32_1 : same [] ia ia34 := hu32_1
                        have hu32_2 : sc33 0 = 2 := hu32_2
                        have hu32_3 : ((0 : Int32) < 2 ∧ r32 = 1 ∨ ¬ (0 : Int32) < 2 ∧ r32 = 0) := hu32_3
                        have hP : va_P (dC, dI) cls_ (MOW g0 ad kI kZ sc33 ia34) H := hP
                        have hD : va_D A (MOW g0 ad kI kZ sc33 ia34) := hD
                        have hs : same [0, 4] sc sc33 := hs.tr (hu32_0.wk (by decide))
                        have hi : same [5, 6, 7, 8, 9, 10] ia ia34 := hi.tr (hu32_1.wk (by decide))
                        refine W.eq (g2 := F0 m 112 ls [.int r32]) rfl ?_
                        refine W.cs (cells' := 0) (slots' := 0) rfl rfl ?_
                        obtain rfl : r32 = 1 := by rcases hu32_3 with ⟨_, q⟩ | ⟨q, _⟩; { exact q }; { exact absurd (by decide) q }
                        refine lv_if_eq (tgt := 117) hx hb d_MO_request_112 (by decide) (fun h9 => absurd h9 (by decide)) (fun _ => ?_)
                        refine lv_iconst (v := 0) hx hb d_MO_request_115 (by decide) ?_
                        have hz0 : (∃ Nz, MI T Nz sc33 ia34) := ⟨N, hI.same (hu32_0.wk (by decide)) ((same.rf).tr (hu32_1.wk (by decide)))⟩
                        exact W.iret (v := 0) hx hb hr (fun t ht9 hW => ⟨⟨0, (sc33, ia34), rfl, ⟨hs, hi, hz0⟩, by rw [ht9]; exact hP, hD⟩, hS.F ht9⟩) hS.2.2 d_MO_request_116
                      · have h92_11 := h92_11
                        have i92_11 := ti_ne h92_11
                        (try rw [nI_toInt (show oc (ia 11) N < 2 ^ 31 by omega)] at i92_11)
                        (try rw [l_12] at i92_11)
                        refine lv_aload_n hx hb d_MO_request_95 rfl (lv_at hl 1 rfl) ?_
                        refine va_get (D := (dC, dI)) (ci := 5) (v := .int (sc 4)) (C := R_MO) (T := F_MO) (N := 30) hx hb ht in_MO hown hK hP 0 rfl rfl 4 (by decide) (ht _ tb_635) (fun _ h9 => h9) rfl d_MO_request_96 ?_
                        refine W.eq (g2 := F0 m 99 ls [.int (nI N), .ref g0]) (by rw [show sc 4 = nI N from e4]) ?_
                        refine lv_bipush (v := 40) hx hb d_MO_request_99 (by decide) ?_
                        refine lv_icmp_ne (tgt := 108) hx hb d_MO_request_101 (by decide) (fun h101_12 => ?_) (fun h101_12 => ?_)
                        · have h101_12 := h101_12
                          have i101_12 := ti_ne h101_12
                          (try rw [nI_toInt (show N < 2 ^ 31 by omega)] at i101_12)
                          (try rw [l_40] at i101_12)
                          refine lv_iconst (v := 0) hx hb d_MO_request_108 (by decide) ?_
                          refine t_call (u0 := (sc, ia)) (va_runV (C := R_MO) (As := [.int 0]) (rest := []) ⟨hx, hb, hml, hown, ht⟩ (t_MO_refused l dC dI g0 ad kI kZ sc ia s.heap.size Bd 0) (cwV 1 ht (gV tb_732 tb_734 ts_23 tb_5 tb_735) rfl rfl rfl (by decide +kernel) ⟨Nat.le_of_ble_eq_true rfl, Nat.le_of_ble_eq_true rfl⟩) ⟨frP_blind, va_recv (q := (R_MO, F_MO, 30)) hK hP rfl (show (MOW g0 ad kI kZ sc ia : va_W)[0]? = some _ from rfl), fr_pre hP hK hD hAB hBs hS hV⟩ rfl rfl hl.1 rfl (lv_room (Nat.le_of_ble_eq_true rfl)) d_MO_request_109 ⟨Nat.le_of_ble_eq_true rfl, Nat.le_of_ble_eq_true rfl⟩) hD hS hA (fun r35 u H locs hu hP hD hS => ?_)
                          obtain ⟨sc36, ia37⟩ := u
                          obtain ⟨hu35_0, hu35_1, hu35_2, hu35_3⟩ := hu
                          have hu35_0 : same [0] sc sc36 := hu35_0
                          have hu35_1 : same [] ia ia37 := hu35_1
                          have hu35_2 : sc36 0 = 0 := hu35_2
                          have hu35_3 : ((0 : Int32) < 0 ∧ r35 = 1 ∨ ¬ (0 : Int32) < 0 ∧ r35 = 0) := hu35_3
                          have hP : va_P (dC, dI) cls_ (MOW g0 ad kI kZ sc36 ia37) H := hP
                          have hD : va_D A (MOW g0 ad kI kZ sc36 ia37) := hD
                          have hs : same [0, 4] sc sc36 := hs.tr (hu35_0.wk (by decide))
                          have hi : same [5, 6, 7, 8, 9, 10] ia ia37 := hi.tr (hu35_1.wk (by decide))
                          refine W.eq (g2 := F0 m 112 ls [.int r35]) rfl ?_
                          refine W.cs (cells' := 0) (slots' := 0) rfl rfl ?_
                          obtain rfl : r35 = 0 := by rcases hu35_3 with ⟨q, _⟩ | ⟨_, q⟩; { exact absurd q (by decide) }; { exact q }
                          refine lv_if_eq (tgt := 117) hx hb d_MO_request_112 (by decide) (fun _ => ?_) (fun h9 => absurd (by decide) h9)
                          refine lv_aload_n hx hb d_MO_request_117 rfl (lv_at hl 1 rfl) ?_
                          refine va_get (D := (dC, dI)) (ci := 5) (v := .int (sc36 4)) (C := R_MO) (T := F_MO) (N := 30) hx hb ht in_MO hown hK hP 0 rfl rfl 4 (by decide) (ht _ tb_635) (fun _ h9 => h9) rfl d_MO_request_118 ?_
                          refine W.eq (g2 := F0 m 121 ls [.int (nI N)]) (by rw [show sc36 4 = nI N from (hu35_0 4 (by decide)).trans e4]) ?_
                          refine lv_istore hx hb d_MO_request_121 hl (by decide) rfl (fun ls hl => ?_)
                          have hl : lv_has ls 8 [(7, .int (nI N)), (6, .int 1), (0, .ref g0), (1, .int xc), (2, .int xs), (3, .int xl), (4, .int xp), (5, .int xd)] := hl
                          obtain ⟨d, hd, rfl⟩ := of_n (n := 99) (x := xd) (by omega) (by omega)
                          refine lv_aload_n hx hb d_MO_request_123 rfl (lv_at hl 2 rfl) ?_
                          refine va_get (D := (dC, dI)) (ci := 5) (v := .ref (ad 5)) (C := R_MO) (T := F_MO) (N := 30) hx hb ht in_MO hown hK hP 0 rfl rfl 5 (by decide) (ht _ tb_636) (fun _ h9 => h9) rfl d_MO_request_124 ?_
                          refine lv_iload hx hb d_MO_request_127 (lv_at hl 0 rfl) ?_
                          refine lv_iload_n hx hb d_MO_request_129 rfl (lv_at hl 3 rfl) ?_
                          refine va_iast hx hb hK hP hD hS 2 0 rfl rfl (vp_in_nI (show N < 40 by omega) (by decide)) d_MO_request_130 (fun H locs hP hD hS => ?_)
                          rw [nI_clamp (show N < 2 ^ 31 by omega)] at hP hD
                          have hP : va_P (dC, dI) cls_ (MOW g0 ad kI kZ sc36 (va_up ia37 5 (upd (ia37 5) N xc))) H := hP
                          have hD : va_D A (MOW g0 ad kI kZ sc36 (va_up ia37 5 (upd (ia37 5) N xc))) := hD
                          obtain ⟨ia38, eia38⟩ : ∃ q9_, q9_ = va_up ia37 5 (upd (ia37 5) N xc) := ⟨_, rfl⟩
                          rw [← eia38] at hP hD
                          have hi : same [5, 6, 7, 8, 9, 10] ia ia38 := by rw [eia38]; exact hi.up (by decide)
                          refine lv_aload_n hx hb d_MO_request_131 rfl (lv_at hl 2 rfl) ?_
                          refine va_get (D := (dC, dI)) (ci := 5) (v := .ref (ad 6)) (C := R_MO) (T := F_MO) (N := 30) hx hb ht in_MO hown hK hP 0 rfl rfl 6 (by decide) (ht _ tb_637) (fun _ h9 => h9) rfl d_MO_request_132 ?_
                          refine lv_iload hx hb d_MO_request_135 (lv_at hl 0 rfl) ?_
                          refine lv_iload_n hx hb d_MO_request_137 rfl (lv_at hl 4 rfl) ?_
                          refine va_iast hx hb hK hP hD hS 3 0 rfl rfl (vp_in_nI (show N < 40 by omega) (by decide)) d_MO_request_138 (fun H locs hP hD hS => ?_)
                          rw [nI_clamp (show N < 2 ^ 31 by omega)] at hP hD
                          have hP : va_P (dC, dI) cls_ (MOW g0 ad kI kZ sc36 (va_up ia38 6 (upd (ia38 6) N xs))) H := hP
                          have hD : va_D A (MOW g0 ad kI kZ sc36 (va_up ia38 6 (upd (ia38 6) N xs))) := hD
                          obtain ⟨ia39, eia39⟩ : ∃ q9_, q9_ = va_up ia38 6 (upd (ia38 6) N xs) := ⟨_, rfl⟩
                          rw [← eia39] at hP hD
                          have hi : same [5, 6, 7, 8, 9, 10] ia ia39 := by rw [eia39]; exact hi.up (by decide)
                          refine lv_aload_n hx hb d_MO_request_139 rfl (lv_at hl 2 rfl) ?_
                          refine va_get (D := (dC, dI)) (ci := 5) (v := .ref (ad 7)) (C := R_MO) (T := F_MO) (N := 30) hx hb ht in_MO hown hK hP 0 rfl rfl 7 (by decide) (ht _ tb_638) (fun _ h9 => h9) rfl d_MO_request_140 ?_
                          refine lv_iload hx hb d_MO_request_143 (lv_at hl 0 rfl) ?_
                          refine lv_iload_n hx hb d_MO_request_145 rfl (lv_at hl 5 rfl) ?_
                          refine va_iast hx hb hK hP hD hS 4 0 rfl rfl (vp_in_nI (show N < 40 by omega) (by decide)) d_MO_request_146 (fun H locs hP hD hS => ?_)
                          rw [nI_clamp (show N < 2 ^ 31 by omega)] at hP hD
                          have hP : va_P (dC, dI) cls_ (MOW g0 ad kI kZ sc36 (va_up ia39 7 (upd (ia39 7) N xl))) H := hP
                          have hD : va_D A (MOW g0 ad kI kZ sc36 (va_up ia39 7 (upd (ia39 7) N xl))) := hD
                          obtain ⟨ia40, eia40⟩ : ∃ q9_, q9_ = va_up ia39 7 (upd (ia39 7) N xl) := ⟨_, rfl⟩
                          rw [← eia40] at hP hD
                          have hi : same [5, 6, 7, 8, 9, 10] ia ia40 := by rw [eia40]; exact hi.up (by decide)
                          refine lv_aload_n hx hb d_MO_request_147 rfl (lv_at hl 2 rfl) ?_
                          refine va_get (D := (dC, dI)) (ci := 5) (v := .ref (ad 8)) (C := R_MO) (T := F_MO) (N := 30) hx hb ht in_MO hown hK hP 0 rfl rfl 8 (by decide) (ht _ tb_639) (fun _ h9 => h9) rfl d_MO_request_148 ?_
                          refine lv_iload hx hb d_MO_request_151 (lv_at hl 0 rfl) ?_
                          refine lv_iload hx hb d_MO_request_153 (lv_at hl 6 rfl) ?_
                          refine va_iast hx hb hK hP hD hS 5 0 rfl rfl (vp_in_nI (show N < 40 by omega) (by decide)) d_MO_request_155 (fun H locs hP hD hS => ?_)
                          rw [nI_clamp (show N < 2 ^ 31 by omega)] at hP hD
                          have hP : va_P (dC, dI) cls_ (MOW g0 ad kI kZ sc36 (va_up ia40 8 (upd (ia40 8) N xp))) H := hP
                          have hD : va_D A (MOW g0 ad kI kZ sc36 (va_up ia40 8 (upd (ia40 8) N xp))) := hD
                          obtain ⟨ia41, eia41⟩ : ∃ q9_, q9_ = va_up ia40 8 (upd (ia40 8) N xp) := ⟨_, rfl⟩
                          rw [← eia41] at hP hD
                          have hi : same [5, 6, 7, 8, 9, 10] ia ia41 := by rw [eia41]; exact hi.up (by decide)
                          refine lv_aload_n hx hb d_MO_request_156 rfl (lv_at hl 2 rfl) ?_
                          refine va_get (D := (dC, dI)) (ci := 5) (v := .ref (ad 9)) (C := R_MO) (T := F_MO) (N := 30) hx hb ht in_MO hown hK hP 0 rfl rfl 9 (by decide) (ht _ tb_640) (fun _ h9 => h9) rfl d_MO_request_157 ?_
                          refine lv_iload hx hb d_MO_request_160 (lv_at hl 0 rfl) ?_
                          refine lv_iload hx hb d_MO_request_162 (lv_at hl 7 rfl) ?_
                          refine lv_bipush (v := 10) hx hb d_MO_request_164 (by decide) ?_
                          refine lv_idiv hx hb d_MO_request_166 (by decide) ?_
                          refine lv_topi (fun v42 ev42 => ?_)
                          obtain rfl : v42 = nI (d / 10) := ev42.trans (by rw [show (10 : Int32) = nI 10 from rfl, pk_div (show d < 2 ^ 31 by omega) (by decide) (by decide)])
                          refine va_iast hx hb hK hP hD hS 6 0 rfl rfl (vp_in_nI (show N < 40 by omega) (by decide)) d_MO_request_167 (fun H locs hP hD hS => ?_)
                          rw [nI_clamp (show N < 2 ^ 31 by omega)] at hP hD
                          have hP : va_P (dC, dI) cls_ (MOW g0 ad kI kZ sc36 (va_up ia41 9 (upd (ia41 9) N (nI (d / 10))))) H := hP
                          have hD : va_D A (MOW g0 ad kI kZ sc36 (va_up ia41 9 (upd (ia41 9) N (nI (d / 10))))) := hD
                          obtain ⟨ia43, eia43⟩ : ∃ q9_, q9_ = va_up ia41 9 (upd (ia41 9) N (nI (d / 10))) := ⟨_, rfl⟩
                          rw [← eia43] at hP hD
                          have hi : same [5, 6, 7, 8, 9, 10] ia ia43 := by rw [eia43]; exact hi.up (by decide)
                          refine lv_aload_n hx hb d_MO_request_168 rfl (lv_at hl 2 rfl) ?_
                          refine va_get (D := (dC, dI)) (ci := 5) (v := .ref (ad 10)) (C := R_MO) (T := F_MO) (N := 30) hx hb ht in_MO hown hK hP 0 rfl rfl 10 (by decide) (ht _ tb_641) (fun _ h9 => h9) rfl d_MO_request_169 ?_
                          refine lv_iload hx hb d_MO_request_172 (lv_at hl 0 rfl) ?_
                          refine lv_iload hx hb d_MO_request_174 (lv_at hl 7 rfl) ?_
                          refine lv_bipush (v := 10) hx hb d_MO_request_176 (by decide) ?_
                          refine lv_irem hx hb d_MO_request_178 (by decide) ?_
                          refine lv_topi (fun v44 ev44 => ?_)
                          obtain rfl : v44 = nI (d % 10) := ev44.trans (by rw [show (10 : Int32) = nI 10 from rfl, pk_rem (show d < 2 ^ 31 by omega) (by decide) (by decide)])
                          refine va_iast hx hb hK hP hD hS 7 0 rfl rfl (vp_in_nI (show N < 40 by omega) (by decide)) d_MO_request_179 (fun H locs hP hD hS => ?_)
                          rw [nI_clamp (show N < 2 ^ 31 by omega)] at hP hD
                          have hP : va_P (dC, dI) cls_ (MOW g0 ad kI kZ sc36 (va_up ia43 10 (upd (ia43 10) N (nI (d % 10))))) H := hP
                          have hD : va_D A (MOW g0 ad kI kZ sc36 (va_up ia43 10 (upd (ia43 10) N (nI (d % 10))))) := hD
                          obtain ⟨ia45, eia45⟩ : ∃ q9_, q9_ = va_up ia43 10 (upd (ia43 10) N (nI (d % 10))) := ⟨_, rfl⟩
                          rw [← eia45] at hP hD
                          have hi : same [5, 6, 7, 8, 9, 10] ia ia45 := by rw [eia45]; exact hi.up (by decide)
                          refine lv_aload_n hx hb d_MO_request_180 rfl (lv_at hl 2 rfl) ?_
                          refine lv_dup hx hb d_MO_request_181 rfl ?_
                          refine va_get (D := (dC, dI)) (ci := 5) (v := .int (sc36 4)) (C := R_MO) (T := F_MO) (N := 30) hx hb ht in_MO hown hK hP 0 rfl rfl 4 (by decide) (ht _ tb_635) (fun _ h9 => h9) rfl d_MO_request_182 ?_
                          refine W.eq (g2 := F0 m 185 ls [.int (nI N), .ref g0]) (by rw [show sc36 4 = nI N from (hu35_0 4 (by decide)).trans e4]) ?_
                          refine lv_iconst (v := 1) hx hb d_MO_request_185 (by decide) ?_
                          refine lv_iadd hx hb d_MO_request_186 ?_
                          refine lv_topi (fun v46 ev46 => ?_)
                          obtain rfl : v46 = nI (N + 1) := ev46.trans (by rw [show (1 : Int32) = nI 1 from rfl, nI_add])
                          refine va_put (D := (dC, dI)) (ci := 5) (v := .int (nI (N + 1))) (ty := .int) (C := R_MO) (T := F_MO) (N := 30) hx hb ht in_MO t_MO t_MO_ok n_MO hown hK hP hD hS 0 rfl rfl 4 (by decide) (ht _ tb_635) (fun _ h9 => h9) rfl (by decide +kernel) rfl rfl (Nat.le_of_ble_eq_true rfl) d_MO_request_187 (fun H locs hP hD hS => ?_)
                          have hP : va_P (dC, dI) cls_ (MOW g0 ad kI kZ (va_up sc36 4 (nI (N + 1))) ia45) H := hP
                          have hD : va_D A (MOW g0 ad kI kZ (va_up sc36 4 (nI (N + 1))) ia45) := hD
                          obtain ⟨sc47, esc47⟩ : ∃ q9_, q9_ = va_up sc36 4 (nI (N + 1)) := ⟨_, rfl⟩
                          rw [← esc47] at hP hD
                          have hs : same [0, 4] sc sc47 := by rw [esc47]; exact hs.up (by decide)
                          refine lv_iload hx hb d_MO_request_190 (lv_at hl 0 rfl) ?_
                          have f5 : ia45 5 N = xc := ((((((show ia45 5 N = ia43 5 N by rw [eia45]; rfl)).trans (show ia43 5 N = ia41 5 N by rw [eia43]; rfl)).trans (show ia41 5 N = ia40 5 N by rw [eia41]; rfl)).trans (show ia40 5 N = ia39 5 N by rw [eia40]; rfl)).trans (show ia39 5 N = ia38 5 N by rw [eia39]; rfl)).trans (show ia38 5 N = xc by rw [eia38]; show upd (ia37 5) N xc N = _; exact pk_us)
                          have f6 : ia45 6 N = xs := (((((show ia45 6 N = ia43 6 N by rw [eia45]; rfl)).trans (show ia43 6 N = ia41 6 N by rw [eia43]; rfl)).trans (show ia41 6 N = ia40 6 N by rw [eia41]; rfl)).trans (show ia40 6 N = ia39 6 N by rw [eia40]; rfl)).trans (show ia39 6 N = xs by rw [eia39]; show upd (ia38 6) N xs N = _; exact pk_us)
                          have f7 : ia45 7 N = xl := ((((show ia45 7 N = ia43 7 N by rw [eia45]; rfl)).trans (show ia43 7 N = ia41 7 N by rw [eia43]; rfl)).trans (show ia41 7 N = ia40 7 N by rw [eia41]; rfl)).trans (show ia40 7 N = xl by rw [eia40]; show upd (ia39 7) N xl N = _; exact pk_us)
                          have f9 : ia45 9 N = nI (d / 10) := ((show ia45 9 N = ia43 9 N by rw [eia45]; rfl)).trans (show ia43 9 N = nI (d / 10) by rw [eia43]; show upd (ia41 9) N (nI (d / 10)) N = _; exact pk_us)
                          have f10 : ia45 10 N = nI (d % 10) := (show ia45 10 N = nI (d % 10) by rw [eia45]; show upd (ia43 10) N (nI (d % 10)) N = _; exact pk_us)
                          have lg9 := lc_n hT.2.2.1 (by omega) h30_4
                          have h12 := hI.2.2.2.2.2.1
                          have hz0 : (∃ Nz, MI T Nz sc47 ia45) := ⟨N + 1, MI_req hI (by omega) (by omega) (hs.wk (by decide)) ((show sc47 4 = nI (N + 1) by rw [esc47]; rfl)) ((show same [5, 6, 7, 8, 9, 10] _ ia45 from by rw [eia45]; exact ((show same [5, 6, 7, 8, 9, 10] _ ia43 from by rw [eia43]; exact ((show same [5, 6, 7, 8, 9, 10] _ ia41 from by rw [eia41]; exact ((show same [5, 6, 7, 8, 9, 10] _ ia40 from by rw [eia40]; exact ((show same [5, 6, 7, 8, 9, 10] _ ia39 from by rw [eia39]; exact ((show same [5, 6, 7, 8, 9, 10] _ ia38 from by rw [eia38]; exact ((same.rf).tr (hu35_1.wk (by decide))).up (by decide))).up (by decide))).up (by decide))).up (by decide))).up (by decide))).up (by decide))) (fun i h9 => (((((((show ia45 5 i = ia43 5 i by rw [eia45]; rfl)).trans (show ia43 5 i = ia41 5 i by rw [eia43]; rfl)).trans (show ia41 5 i = ia40 5 i by rw [eia41]; rfl)).trans (show ia40 5 i = ia39 5 i by rw [eia40]; rfl)).trans (show ia39 5 i = ia38 5 i by rw [eia39]; rfl)).trans (show ia38 5 i = ia37 5 i by rw [eia38]; show upd (ia37 5) N xc i = _; exact pk_un h9)).trans (congrFun (hu35_1 5 (by decide)) i)) (fun i h9 => (((((((show ia45 6 i = ia43 6 i by rw [eia45]; rfl)).trans (show ia43 6 i = ia41 6 i by rw [eia43]; rfl)).trans (show ia41 6 i = ia40 6 i by rw [eia41]; rfl)).trans (show ia40 6 i = ia39 6 i by rw [eia40]; rfl)).trans (show ia39 6 i = ia38 6 i by rw [eia39]; show upd (ia38 6) N xs i = _; exact pk_un h9)).trans (show ia38 6 i = ia37 6 i by rw [eia38]; rfl)).trans (congrFun (hu35_1 6 (by decide)) i)) (fun i h9 => (((((((show ia45 7 i = ia43 7 i by rw [eia45]; rfl)).trans (show ia43 7 i = ia41 7 i by rw [eia43]; rfl)).trans (show ia41 7 i = ia40 7 i by rw [eia41]; rfl)).trans (show ia40 7 i = ia39 7 i by rw [eia40]; show upd (ia39 7) N xl i = _; exact pk_un h9)).trans (show ia39 7 i = ia38 7 i by rw [eia39]; rfl)).trans (show ia38 7 i = ia37 7 i by rw [eia38]; rfl)).trans (congrFun (hu35_1 7 (by decide)) i)) (fun i h9 => (((((((show ia45 9 i = ia43 9 i by rw [eia45]; rfl)).trans (show ia43 9 i = ia41 9 i by rw [eia43]; show upd (ia41 9) N (nI (d / 10)) i = _; exact pk_un h9)).trans (show ia41 9 i = ia40 9 i by rw [eia41]; rfl)).trans (show ia40 9 i = ia39 9 i by rw [eia40]; rfl)).trans (show ia39 9 i = ia38 9 i by rw [eia39]; rfl)).trans (show ia38 9 i = ia37 9 i by rw [eia38]; rfl)).trans (congrFun (hu35_1 9 (by decide)) i)) (fun i h9 => (((((((show ia45 10 i = ia43 10 i by rw [eia45]; show upd (ia43 10) N (nI (d % 10)) i = _; exact pk_un h9)).trans (show ia43 10 i = ia41 10 i by rw [eia43]; rfl)).trans (show ia41 10 i = ia40 10 i by rw [eia41]; rfl)).trans (show ia40 10 i = ia39 10 i by rw [eia40]; rfl)).trans (show ia39 10 i = ia38 10 i by rw [eia39]; rfl)).trans (show ia38 10 i = ia37 10 i by rw [eia38]; rfl)).trans (congrFun (hu35_1 10 (by decide)) i)) (by rw [f5, f6, f7, f9, f10, nI_toInt (by omega), nI_toInt (by omega)]; omega)⟩
                          exact W.iret (v := nI N) hx hb hr (fun t ht9 hW => ⟨⟨nI N, (sc47, ia45), rfl, ⟨hs, hi, hz0⟩, by rw [ht9]; exact hP, hD⟩, hS.F ht9⟩) hS.2.2 d_MO_request_192
                        · have h101_12 := h101_12
                          have i101_12 := ti_eq h101_12
                          (try rw [nI_toInt (show N < 2 ^ 31 by omega)] at i101_12)
                          (try rw [l_40] at i101_12)
                          refine lv_iconst (v := 2) hx hb d_MO_request_104 (by decide) ?_
                          refine lv_goto (tgt := 109) hx hb d_MO_request_105 (by decide) ?_
                          refine t_call (u0 := (sc, ia)) (va_runV (C := R_MO) (As := [.int 2]) (rest := []) ⟨hx, hb, hml, hown, ht⟩ (t_MO_refused l dC dI g0 ad kI kZ sc ia s.heap.size Bd 2) (cwV 1 ht (gV tb_732 tb_734 ts_23 tb_5 tb_735) rfl rfl rfl (by decide +kernel) ⟨Nat.le_of_ble_eq_true rfl, Nat.le_of_ble_eq_true rfl⟩) ⟨frP_blind, va_recv (q := (R_MO, F_MO, 30)) hK hP rfl (show (MOW g0 ad kI kZ sc ia : va_W)[0]? = some _ from rfl), fr_pre hP hK hD hAB hBs hS hV⟩ rfl rfl hl.1 rfl (lv_room (Nat.le_of_ble_eq_true rfl)) d_MO_request_109 ⟨Nat.le_of_ble_eq_true rfl, Nat.le_of_ble_eq_true rfl⟩) hD hS hA (fun r48 u H locs hu hP hD hS => ?_)
                          obtain ⟨sc49, ia50⟩ := u
                          obtain ⟨hu48_0, hu48_1, hu48_2, hu48_3⟩ := hu
                          have hu48_0 : same [0] sc sc49 := hu48_0
                          have hu48_1 : same [] ia ia50 := hu48_1
                          have hu48_2 : sc49 0 = 2 := hu48_2
                          have hu48_3 : ((0 : Int32) < 2 ∧ r48 = 1 ∨ ¬ (0 : Int32) < 2 ∧ r48 = 0) := hu48_3
                          have hP : va_P (dC, dI) cls_ (MOW g0 ad kI kZ sc49 ia50) H := hP
                          have hD : va_D A (MOW g0 ad kI kZ sc49 ia50) := hD
                          have hs : same [0, 4] sc sc49 := hs.tr (hu48_0.wk (by decide))
                          have hi : same [5, 6, 7, 8, 9, 10] ia ia50 := hi.tr (hu48_1.wk (by decide))
                          refine W.eq (g2 := F0 m 112 ls [.int r48]) rfl ?_
                          refine W.cs (cells' := 0) (slots' := 0) rfl rfl ?_
                          obtain rfl : r48 = 1 := by rcases hu48_3 with ⟨_, q⟩ | ⟨q, _⟩; { exact q }; { exact absurd (by decide) q }
                          refine lv_if_eq (tgt := 117) hx hb d_MO_request_112 (by decide) (fun h9 => absurd h9 (by decide)) (fun _ => ?_)
                          refine lv_iconst (v := 0) hx hb d_MO_request_115 (by decide) ?_
                          have hz0 : (∃ Nz, MI T Nz sc49 ia50) := ⟨N, hI.same (hu48_0.wk (by decide)) ((same.rf).tr (hu48_1.wk (by decide)))⟩
                          exact W.iret (v := 0) hx hb hr (fun t ht9 hW => ⟨⟨0, (sc49, ia50), rfl, ⟨hs, hi, hz0⟩, by rw [ht9]; exact hP, hD⟩, hS.F ht9⟩) hS.2.2 d_MO_request_116
