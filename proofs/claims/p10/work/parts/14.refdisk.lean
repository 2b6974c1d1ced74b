abbrev c_MO_freeSegments : ByteArray := prog_7_method_23_code
abbrev y_MO_freeSegments : MethodName := ⟨"TwinTunersModel", "freeSegments", "()I"⟩
def w_MO_freeSegments : List Cond := .code y_MO_freeSegments c_MO_freeSegments 3 (some .int) :: tb_
abbrev c_MO_isBefore : ByteArray := prog_7_method_25_code
abbrev y_MO_isBefore : MethodName := ⟨"TwinTunersModel", "isBefore", "(II)Z"⟩
def w_MO_isBefore : List Cond := .code y_MO_isBefore c_MO_isBefore 3 (some .boolean) :: tb_
abbrev c_MO_eraseOne : ByteArray := prog_7_method_24_code
abbrev y_MO_eraseOne : MethodName := ⟨"TwinTunersModel", "eraseOne", "(I)I"⟩
def w_MO_eraseOne : List Cond := .code y_MO_eraseOne c_MO_eraseOne 4 (some .int) :: tb_
abbrev c_MO_makeRoom : ByteArray := prog_7_method_26_code
abbrev y_MO_makeRoom : MethodName := ⟨"TwinTunersModel", "makeRoom", "()V"⟩
def w_MO_makeRoom : List Cond := .code y_MO_makeRoom c_MO_makeRoom 4 none :: tb_
abbrev c_MO_record : ByteArray := prog_7_method_27_code
abbrev y_MO_record : MethodName := ⟨"TwinTunersModel", "record", "(I)Z"⟩
def w_MO_record : List Cond := .code y_MO_record c_MO_record 4 (some .boolean) :: tb_
abbrev c_MO_recordAll : ByteArray := prog_7_method_31_code
abbrev y_MO_recordAll : MethodName := ⟨"TwinTunersModel", "recordAll", "()I"⟩
def w_MO_recordAll : List Cond := .code y_MO_recordAll c_MO_recordAll 3 (some .int) :: tb_
abbrev c_MO_tuned : ByteArray := prog_7_method_29_code
abbrev y_MO_tuned : MethodName := ⟨"TwinTunersModel", "tuned", "()I"⟩
def w_MO_tuned : List Cond := .code y_MO_tuned c_MO_tuned 4 (some .int) :: tb_
abbrev c_MO_keepBack : ByteArray := prog_7_method_30_code
abbrev y_MO_keepBack : MethodName := ⟨"TwinTunersModel", "keepBack", "(I)V"⟩
def w_MO_keepBack : List Cond := .code y_MO_keepBack c_MO_keepBack 3 none :: tb_
set_option maxRecDepth 100000 in
theorem tb_633 : (.fieldLink "TwinTunersModel" 9 "TwinTunersModel" "watched" "I" : Cond) ∈ tb_ := tb_w 633 rfl rfl
set_option maxRecDepth 100000 in
theorem tb_634 : (.fieldLink "TwinTunersModel" 13 "TwinTunersModel" "airs" "[I" : Cond) ∈ tb_ := tb_w 634 rfl rfl
set_option maxRecDepth 100000 in
theorem tb_643 : (.fieldLink "TwinTunersModel" 38 "TwinTunersModel" "froms" "[I" : Cond) ∈ tb_ := tb_w 643 rfl rfl
set_option maxRecDepth 100000 in
theorem tb_645 : (.fieldLink "TwinTunersModel" 44 "TwinTunersModel" "shorts" "[I" : Cond) ∈ tb_ := tb_w 645 rfl rfl
set_option maxRecDepth 100000 in
theorem tb_646 : (.fieldLink "TwinTunersModel" 47 "TwinTunersModel" "isProtected" "[Z" : Cond) ∈ tb_ := tb_w 646 rfl rfl
set_option maxRecDepth 100000 in
theorem tb_647 : (.fieldLink "TwinTunersModel" 51 "TwinTunersModel" "isSeen" "[Z" : Cond) ∈ tb_ := tb_w 647 rfl rfl
set_option maxRecDepth 100000 in
theorem tb_648 : (.fieldLink "TwinTunersModel" 54 "TwinTunersModel" "has" "[Z" : Cond) ∈ tb_ := tb_w 648 rfl rfl
set_option maxRecDepth 100000 in
theorem tb_649 : (.fieldLink "TwinTunersModel" 57 "TwinTunersModel" "words" "[I" : Cond) ∈ tb_ := tb_w 649 rfl rfl
set_option maxRecDepth 100000 in
theorem tb_650 : (.fieldLink "TwinTunersModel" 60 "TwinTunersModel" "marks" "[Z" : Cond) ∈ tb_ := tb_w 650 rfl rfl
set_option maxRecDepth 100000 in
theorem tb_659 : (.fieldLink "TwinTunersModel" 162 "TwinTunersModel" "backs" "I" : Cond) ∈ tb_ := tb_w 659 rfl rfl
set_option maxRecDepth 100000 in
theorem tb_660 : (.fieldLink "TwinTunersModel" 84 "TwinTunersModel" "back" "[I" : Cond) ∈ tb_ := tb_w 660 rfl rfl
set_option maxRecDepth 100000 in
theorem tb_811 : (.code ⟨"TwinTunersModel", "tuned", "()I"⟩ prog_7_method_29_code 4 (some .int) : Cond) ∈ tb_ := tb_w 811 rfl rfl
set_option maxRecDepth 100000 in
theorem tb_815 : (.code ⟨"TwinTunersModel", "recordAll", "()I"⟩ prog_7_method_31_code 3 (some .int) : Cond) ∈ tb_ := tb_w 815 rfl rfl
set_option maxRecDepth 100000 in
theorem tb_816 : (.methodLink "TwinTunersModel" 165 ⟨"TwinTunersModel", "record", "(I)Z"⟩ : Cond) ∈ tb_ := tb_w 816 rfl rfl
set_option maxRecDepth 100000 in
theorem tb_818 : (.instanceMethod ⟨"TwinTunersModel", "record", "(I)Z"⟩ : Cond) ∈ tb_ := tb_w 818 rfl rfl
set_option maxRecDepth 100000 in
theorem tb_819 : (.code ⟨"TwinTunersModel", "record", "(I)Z"⟩ prog_7_method_27_code 4 (some .boolean) : Cond) ∈ tb_ := tb_w 819 rfl rfl
set_option maxRecDepth 100000 in
theorem tb_820 : (.methodLink "TwinTunersModel" 156 ⟨"TwinTunersModel", "freeSegments", "()I"⟩ : Cond) ∈ tb_ := tb_w 820 rfl rfl
set_option maxRecDepth 100000 in
theorem tb_822 : (.instanceMethod ⟨"TwinTunersModel", "freeSegments", "()I"⟩ : Cond) ∈ tb_ := tb_w 822 rfl rfl
set_option maxRecDepth 100000 in
theorem tb_823 : (.code ⟨"TwinTunersModel", "freeSegments", "()I"⟩ prog_7_method_23_code 3 (some .int) : Cond) ∈ tb_ := tb_w 823 rfl rfl
set_option maxRecDepth 100000 in
theorem tb_824 : (.methodLink "TwinTunersModel" 147 ⟨"TwinTunersModel", "segmentsOf", "(I)I"⟩ : Cond) ∈ tb_ := tb_w 824 rfl rfl
set_option maxRecDepth 100000 in
theorem tb_826 : (.instanceMethod ⟨"TwinTunersModel", "segmentsOf", "(I)I"⟩ : Cond) ∈ tb_ := tb_w 826 rfl rfl
set_option maxRecDepth 100000 in
theorem tb_828 : (.methodLink "TwinTunersModel" 159 ⟨"TwinTunersModel", "makeRoom", "()V"⟩ : Cond) ∈ tb_ := tb_w 828 rfl rfl
set_option maxRecDepth 100000 in
theorem tb_830 : (.instanceMethod ⟨"TwinTunersModel", "makeRoom", "()V"⟩ : Cond) ∈ tb_ := tb_w 830 rfl rfl
set_option maxRecDepth 100000 in
theorem tb_831 : (.code ⟨"TwinTunersModel", "makeRoom", "()V"⟩ prog_7_method_26_code 4 none : Cond) ∈ tb_ := tb_w 831 rfl rfl
set_option maxRecDepth 100000 in
theorem tb_832 : (.methodLink "TwinTunersModel" 150 ⟨"TwinTunersModel", "isBefore", "(II)Z"⟩ : Cond) ∈ tb_ := tb_w 832 rfl rfl
set_option maxRecDepth 100000 in
theorem tb_834 : (.instanceMethod ⟨"TwinTunersModel", "isBefore", "(II)Z"⟩ : Cond) ∈ tb_ := tb_w 834 rfl rfl
set_option maxRecDepth 100000 in
theorem tb_835 : (.code ⟨"TwinTunersModel", "isBefore", "(II)Z"⟩ prog_7_method_25_code 3 (some .boolean) : Cond) ∈ tb_ := tb_w 835 rfl rfl
set_option maxRecDepth 100000 in
theorem tb_836 : (.methodLink "TwinTunersModel" 153 ⟨"TwinTunersModel", "eraseOne", "(I)I"⟩ : Cond) ∈ tb_ := tb_w 836 rfl rfl
set_option maxRecDepth 100000 in
theorem tb_838 : (.instanceMethod ⟨"TwinTunersModel", "eraseOne", "(I)I"⟩ : Cond) ∈ tb_ := tb_w 838 rfl rfl
set_option maxRecDepth 100000 in
theorem tb_839 : (.code ⟨"TwinTunersModel", "eraseOne", "(I)I"⟩ prog_7_method_24_code 4 (some .int) : Cond) ∈ tb_ := tb_w 839 rfl rfl
set_option maxRecDepth 100000 in
theorem tb_843 : (.code ⟨"TwinTunersModel", "keepBack", "(I)V"⟩ prog_7_method_30_code 3 none : Cond) ∈ tb_ := tb_w 843 rfl rfl
theorem ts_38 : (.selects "TwinTunersModel" ⟨"TwinTunersModel", "record", "(I)Z"⟩ ⟨"TwinTunersModel", "record", "(I)Z"⟩ : Cond) ∈ tb_ := ts_w 38 rfl rfl
theorem ts_39 : (.selects "TwinTunersModel" ⟨"TwinTunersModel", "freeSegments", "()I"⟩ ⟨"TwinTunersModel", "freeSegments", "()I"⟩ : Cond) ∈ tb_ := ts_w 39 rfl rfl
theorem ts_40 : (.selects "TwinTunersModel" ⟨"TwinTunersModel", "segmentsOf", "(I)I"⟩ ⟨"TwinTunersModel", "segmentsOf", "(I)I"⟩ : Cond) ∈ tb_ := ts_w 40 rfl rfl
theorem ts_41 : (.selects "TwinTunersModel" ⟨"TwinTunersModel", "makeRoom", "()V"⟩ ⟨"TwinTunersModel", "makeRoom", "()V"⟩ : Cond) ∈ tb_ := ts_w 41 rfl rfl
theorem ts_42 : (.selects "TwinTunersModel" ⟨"TwinTunersModel", "isBefore", "(II)Z"⟩ ⟨"TwinTunersModel", "isBefore", "(II)Z"⟩ : Cond) ∈ tb_ := ts_w 42 rfl rfl
theorem ts_43 : (.selects "TwinTunersModel" ⟨"TwinTunersModel", "eraseOne", "(I)I"⟩ ⟨"TwinTunersModel", "eraseOne", "(I)I"⟩ : Cond) ∈ tb_ := ts_w 43 rfl rfl
theorem d_MO_eraseOne_0 : decode c_MO_eraseOne 0 = .ok (.aload_n 0, 1) := by decide +kernel
theorem d_MO_eraseOne_1 : decode c_MO_eraseOne 1 = .ok (.iload_n 1, 1) := by decide +kernel
theorem d_MO_eraseOne_2 : decode c_MO_eraseOne 2 = .ok (.invokevirtual 147, 3) := by decide +kernel
theorem d_MO_eraseOne_5 : decode c_MO_eraseOne 5 = .ok (.istore_n 2, 1) := by decide +kernel
theorem d_MO_eraseOne_6 : decode c_MO_eraseOne 6 = .ok (.aload_n 0, 1) := by decide +kernel
theorem d_MO_eraseOne_7 : decode c_MO_eraseOne 7 = .ok (.getfield 35, 3) := by decide +kernel
theorem d_MO_eraseOne_10 : decode c_MO_eraseOne 10 = .ok (.iload_n 1, 1) := by decide +kernel
theorem d_MO_eraseOne_11 : decode c_MO_eraseOne 11 = .ok (.iconst 5, 1) := by decide +kernel
theorem d_MO_eraseOne_12 : decode c_MO_eraseOne 12 = .ok (.iastore, 1) := by decide +kernel
theorem d_MO_eraseOne_13 : decode c_MO_eraseOne 13 = .ok (.aload_n 0, 1) := by decide +kernel
theorem d_MO_eraseOne_14 : decode c_MO_eraseOne 14 = .ok (.getfield 47, 3) := by decide +kernel
theorem d_MO_eraseOne_17 : decode c_MO_eraseOne 17 = .ok (.iload_n 1, 1) := by decide +kernel
theorem d_MO_eraseOne_18 : decode c_MO_eraseOne 18 = .ok (.iconst 0, 1) := by decide +kernel
theorem d_MO_eraseOne_19 : decode c_MO_eraseOne 19 = .ok (.bastore, 1) := by decide +kernel
theorem d_MO_eraseOne_20 : decode c_MO_eraseOne 20 = .ok (.aload_n 0, 1) := by decide +kernel
theorem d_MO_eraseOne_21 : decode c_MO_eraseOne 21 = .ok (.getfield 51, 3) := by decide +kernel
theorem d_MO_eraseOne_24 : decode c_MO_eraseOne 24 = .ok (.iload_n 1, 1) := by decide +kernel
theorem d_MO_eraseOne_25 : decode c_MO_eraseOne 25 = .ok (.iconst 0, 1) := by decide +kernel
theorem d_MO_eraseOne_26 : decode c_MO_eraseOne 26 = .ok (.bastore, 1) := by decide +kernel
theorem d_MO_eraseOne_27 : decode c_MO_eraseOne 27 = .ok (.iconst 0, 1) := by decide +kernel
theorem d_MO_eraseOne_28 : decode c_MO_eraseOne 28 = .ok (.istore_n 3, 1) := by decide +kernel
theorem d_MO_eraseOne_29 : decode c_MO_eraseOne 29 = .ok (.iload_n 3, 1) := by decide +kernel
theorem d_MO_eraseOne_30 : decode c_MO_eraseOne 30 = .ok (.bipush 100, 2) := by decide +kernel
theorem d_MO_eraseOne_32 : decode c_MO_eraseOne 32 = .ok (.if_icmp .ge 47, 3) := by decide +kernel
theorem d_MO_eraseOne_35 : decode c_MO_eraseOne 35 = .ok (.aload_n 0, 1) := by decide +kernel
theorem d_MO_eraseOne_36 : decode c_MO_eraseOne 36 = .ok (.getfield 54, 3) := by decide +kernel
theorem d_MO_eraseOne_39 : decode c_MO_eraseOne 39 = .ok (.bipush 100, 2) := by decide +kernel
theorem d_MO_eraseOne_41 : decode c_MO_eraseOne 41 = .ok (.iload_n 1, 1) := by decide +kernel
theorem d_MO_eraseOne_42 : decode c_MO_eraseOne 42 = .ok (.imul, 1) := by decide +kernel
theorem d_MO_eraseOne_43 : decode c_MO_eraseOne 43 = .ok (.iload_n 3, 1) := by decide +kernel
theorem d_MO_eraseOne_44 : decode c_MO_eraseOne 44 = .ok (.iadd, 1) := by decide +kernel
theorem d_MO_eraseOne_45 : decode c_MO_eraseOne 45 = .ok (.iconst 0, 1) := by decide +kernel
theorem d_MO_eraseOne_46 : decode c_MO_eraseOne 46 = .ok (.bastore, 1) := by decide +kernel
theorem d_MO_eraseOne_47 : decode c_MO_eraseOne 47 = .ok (.aload_n 0, 1) := by decide +kernel
theorem d_MO_eraseOne_48 : decode c_MO_eraseOne 48 = .ok (.getfield 60, 3) := by decide +kernel
theorem d_MO_eraseOne_51 : decode c_MO_eraseOne 51 = .ok (.bipush 100, 2) := by decide +kernel
theorem d_MO_eraseOne_53 : decode c_MO_eraseOne 53 = .ok (.iload_n 1, 1) := by decide +kernel
theorem d_MO_eraseOne_54 : decode c_MO_eraseOne 54 = .ok (.imul, 1) := by decide +kernel
theorem d_MO_eraseOne_55 : decode c_MO_eraseOne 55 = .ok (.iload_n 3, 1) := by decide +kernel
theorem d_MO_eraseOne_56 : decode c_MO_eraseOne 56 = .ok (.iadd, 1) := by decide +kernel
theorem d_MO_eraseOne_57 : decode c_MO_eraseOne 57 = .ok (.iconst 0, 1) := by decide +kernel
theorem d_MO_eraseOne_58 : decode c_MO_eraseOne 58 = .ok (.bastore, 1) := by decide +kernel
theorem d_MO_eraseOne_59 : decode c_MO_eraseOne 59 = .ok (.aload_n 0, 1) := by decide +kernel
theorem d_MO_eraseOne_60 : decode c_MO_eraseOne 60 = .ok (.getfield 63, 3) := by decide +kernel
theorem d_MO_eraseOne_63 : decode c_MO_eraseOne 63 = .ok (.bipush 25, 2) := by decide +kernel
theorem d_MO_eraseOne_65 : decode c_MO_eraseOne 65 = .ok (.iload_n 1, 1) := by decide +kernel
theorem d_MO_eraseOne_66 : decode c_MO_eraseOne 66 = .ok (.imul, 1) := by decide +kernel
theorem d_MO_eraseOne_67 : decode c_MO_eraseOne 67 = .ok (.iload_n 3, 1) := by decide +kernel
theorem d_MO_eraseOne_68 : decode c_MO_eraseOne 68 = .ok (.iconst 4, 1) := by decide +kernel
theorem d_MO_eraseOne_69 : decode c_MO_eraseOne 69 = .ok (.idiv, 1) := by decide +kernel
theorem d_MO_eraseOne_70 : decode c_MO_eraseOne 70 = .ok (.iadd, 1) := by decide +kernel
theorem d_MO_eraseOne_71 : decode c_MO_eraseOne 71 = .ok (.iconst 0, 1) := by decide +kernel
theorem d_MO_eraseOne_72 : decode c_MO_eraseOne 72 = .ok (.bastore, 1) := by decide +kernel
theorem d_MO_eraseOne_73 : decode c_MO_eraseOne 73 = .ok (.iinc 3 1, 3) := by decide +kernel
theorem d_MO_eraseOne_76 : decode c_MO_eraseOne 76 = .ok (.goto (-47), 3) := by decide +kernel
theorem d_MO_eraseOne_79 : decode c_MO_eraseOne 79 = .ok (.iload_n 2, 1) := by decide +kernel
theorem d_MO_eraseOne_80 : decode c_MO_eraseOne 80 = .ok (.ireturn, 1) := by decide +kernel
theorem d_MO_freeSegments_0 : decode c_MO_freeSegments 0 = .ok (.bipush 24, 2) := by decide +kernel
theorem d_MO_freeSegments_2 : decode c_MO_freeSegments 2 = .ok (.istore_n 1, 1) := by decide +kernel
theorem d_MO_freeSegments_3 : decode c_MO_freeSegments 3 = .ok (.iconst 0, 1) := by decide +kernel
theorem d_MO_freeSegments_4 : decode c_MO_freeSegments 4 = .ok (.istore_n 2, 1) := by decide +kernel
theorem d_MO_freeSegments_5 : decode c_MO_freeSegments 5 = .ok (.iload_n 2, 1) := by decide +kernel
theorem d_MO_freeSegments_6 : decode c_MO_freeSegments 6 = .ok (.aload_n 0, 1) := by decide +kernel
theorem d_MO_freeSegments_7 : decode c_MO_freeSegments 7 = .ok (.getfield 90, 3) := by decide +kernel
theorem d_MO_freeSegments_10 : decode c_MO_freeSegments 10 = .ok (.if_icmp .ge 17, 3) := by decide +kernel
theorem d_MO_freeSegments_13 : decode c_MO_freeSegments 13 = .ok (.iload_n 1, 1) := by decide +kernel
theorem d_MO_freeSegments_14 : decode c_MO_freeSegments 14 = .ok (.aload_n 0, 1) := by decide +kernel
theorem d_MO_freeSegments_15 : decode c_MO_freeSegments 15 = .ok (.iload_n 2, 1) := by decide +kernel
theorem d_MO_freeSegments_16 : decode c_MO_freeSegments 16 = .ok (.invokevirtual 147, 3) := by decide +kernel
theorem d_MO_freeSegments_19 : decode c_MO_freeSegments 19 = .ok (.isub, 1) := by decide +kernel
theorem d_MO_freeSegments_20 : decode c_MO_freeSegments 20 = .ok (.istore_n 1, 1) := by decide +kernel
theorem d_MO_freeSegments_21 : decode c_MO_freeSegments 21 = .ok (.iinc 2 1, 3) := by decide +kernel
theorem d_MO_freeSegments_24 : decode c_MO_freeSegments 24 = .ok (.goto (-19), 3) := by decide +kernel
theorem d_MO_freeSegments_27 : decode c_MO_freeSegments 27 = .ok (.iload_n 1, 1) := by decide +kernel
theorem d_MO_freeSegments_28 : decode c_MO_freeSegments 28 = .ok (.ireturn, 1) := by decide +kernel
theorem d_MO_isBefore_0 : decode c_MO_isBefore 0 = .ok (.aload_n 0, 1) := by decide +kernel
theorem d_MO_isBefore_1 : decode c_MO_isBefore 1 = .ok (.getfield 51, 3) := by decide +kernel
theorem d_MO_isBefore_4 : decode c_MO_isBefore 4 = .ok (.iload_n 1, 1) := by decide +kernel
theorem d_MO_isBefore_5 : decode c_MO_isBefore 5 = .ok (.baload, 1) := by decide +kernel
theorem d_MO_isBefore_6 : decode c_MO_isBefore 6 = .ok (.aload_n 0, 1) := by decide +kernel
theorem d_MO_isBefore_7 : decode c_MO_isBefore 7 = .ok (.getfield 51, 3) := by decide +kernel
theorem d_MO_isBefore_10 : decode c_MO_isBefore 10 = .ok (.iload_n 2, 1) := by decide +kernel
theorem d_MO_isBefore_11 : decode c_MO_isBefore 11 = .ok (.baload, 1) := by decide +kernel
theorem d_MO_isBefore_12 : decode c_MO_isBefore 12 = .ok (.if_icmp .eq 10, 3) := by decide +kernel
theorem d_MO_isBefore_15 : decode c_MO_isBefore 15 = .ok (.aload_n 0, 1) := by decide +kernel
theorem d_MO_isBefore_16 : decode c_MO_isBefore 16 = .ok (.getfield 51, 3) := by decide +kernel
theorem d_MO_isBefore_19 : decode c_MO_isBefore 19 = .ok (.iload_n 1, 1) := by decide +kernel
theorem d_MO_isBefore_20 : decode c_MO_isBefore 20 = .ok (.baload, 1) := by decide +kernel
theorem d_MO_isBefore_21 : decode c_MO_isBefore 21 = .ok (.ireturn, 1) := by decide +kernel
theorem d_MO_isBefore_22 : decode c_MO_isBefore 22 = .ok (.aload_n 0, 1) := by decide +kernel
theorem d_MO_isBefore_23 : decode c_MO_isBefore 23 = .ok (.getfield 51, 3) := by decide +kernel
theorem d_MO_isBefore_26 : decode c_MO_isBefore 26 = .ok (.iload_n 1, 1) := by decide +kernel
theorem d_MO_isBefore_27 : decode c_MO_isBefore 27 = .ok (.baload, 1) := by decide +kernel
theorem d_MO_isBefore_28 : decode c_MO_isBefore 28 = .ok (.ifCond .ne 39, 3) := by decide +kernel
theorem d_MO_isBefore_31 : decode c_MO_isBefore 31 = .ok (.aload_n 0, 1) := by decide +kernel
theorem d_MO_isBefore_32 : decode c_MO_isBefore 32 = .ok (.getfield 26, 3) := by decide +kernel
theorem d_MO_isBefore_35 : decode c_MO_isBefore 35 = .ok (.iload_n 1, 1) := by decide +kernel
theorem d_MO_isBefore_36 : decode c_MO_isBefore 36 = .ok (.iaload, 1) := by decide +kernel
theorem d_MO_isBefore_37 : decode c_MO_isBefore 37 = .ok (.aload_n 0, 1) := by decide +kernel
theorem d_MO_isBefore_38 : decode c_MO_isBefore 38 = .ok (.getfield 26, 3) := by decide +kernel
theorem d_MO_isBefore_41 : decode c_MO_isBefore 41 = .ok (.iload_n 2, 1) := by decide +kernel
theorem d_MO_isBefore_42 : decode c_MO_isBefore 42 = .ok (.iaload, 1) := by decide +kernel
theorem d_MO_isBefore_43 : decode c_MO_isBefore 43 = .ok (.if_icmp .eq 24, 3) := by decide +kernel
theorem d_MO_isBefore_46 : decode c_MO_isBefore 46 = .ok (.aload_n 0, 1) := by decide +kernel
theorem d_MO_isBefore_47 : decode c_MO_isBefore 47 = .ok (.getfield 26, 3) := by decide +kernel
theorem d_MO_isBefore_50 : decode c_MO_isBefore 50 = .ok (.iload_n 1, 1) := by decide +kernel
theorem d_MO_isBefore_51 : decode c_MO_isBefore 51 = .ok (.iaload, 1) := by decide +kernel
theorem d_MO_isBefore_52 : decode c_MO_isBefore 52 = .ok (.aload_n 0, 1) := by decide +kernel
theorem d_MO_isBefore_53 : decode c_MO_isBefore 53 = .ok (.getfield 26, 3) := by decide +kernel
theorem d_MO_isBefore_56 : decode c_MO_isBefore 56 = .ok (.iload_n 2, 1) := by decide +kernel
theorem d_MO_isBefore_57 : decode c_MO_isBefore 57 = .ok (.iaload, 1) := by decide +kernel
theorem d_MO_isBefore_58 : decode c_MO_isBefore 58 = .ok (.if_icmp .ge 7, 3) := by decide +kernel
theorem d_MO_isBefore_61 : decode c_MO_isBefore 61 = .ok (.iconst 1, 1) := by decide +kernel
theorem d_MO_isBefore_62 : decode c_MO_isBefore 62 = .ok (.goto 4, 3) := by decide +kernel
theorem d_MO_isBefore_65 : decode c_MO_isBefore 65 = .ok (.iconst 0, 1) := by decide +kernel
theorem d_MO_isBefore_66 : decode c_MO_isBefore 66 = .ok (.ireturn, 1) := by decide +kernel
theorem d_MO_isBefore_67 : decode c_MO_isBefore 67 = .ok (.aload_n 0, 1) := by decide +kernel
theorem d_MO_isBefore_68 : decode c_MO_isBefore 68 = .ok (.getfield 41, 3) := by decide +kernel
theorem d_MO_isBefore_71 : decode c_MO_isBefore 71 = .ok (.iload_n 1, 1) := by decide +kernel
theorem d_MO_isBefore_72 : decode c_MO_isBefore 72 = .ok (.iaload, 1) := by decide +kernel
theorem d_MO_isBefore_73 : decode c_MO_isBefore 73 = .ok (.aload_n 0, 1) := by decide +kernel
theorem d_MO_isBefore_74 : decode c_MO_isBefore 74 = .ok (.getfield 41, 3) := by decide +kernel
theorem d_MO_isBefore_77 : decode c_MO_isBefore 77 = .ok (.iload_n 2, 1) := by decide +kernel
theorem d_MO_isBefore_78 : decode c_MO_isBefore 78 = .ok (.iaload, 1) := by decide +kernel
theorem d_MO_isBefore_79 : decode c_MO_isBefore 79 = .ok (.if_icmp .eq 26, 3) := by decide +kernel
theorem d_MO_isBefore_82 : decode c_MO_isBefore 82 = .ok (.aload_n 0, 1) := by decide +kernel
theorem d_MO_isBefore_83 : decode c_MO_isBefore 83 = .ok (.getfield 41, 3) := by decide +kernel
theorem d_MO_isBefore_86 : decode c_MO_isBefore 86 = .ok (.iload_n 1, 1) := by decide +kernel
theorem d_MO_isBefore_87 : decode c_MO_isBefore 87 = .ok (.iaload, 1) := by decide +kernel
theorem d_MO_isBefore_88 : decode c_MO_isBefore 88 = .ok (.aload_n 0, 1) := by decide +kernel
theorem d_MO_isBefore_89 : decode c_MO_isBefore 89 = .ok (.getfield 41, 3) := by decide +kernel
theorem d_MO_isBefore_92 : decode c_MO_isBefore 92 = .ok (.iload_n 2, 1) := by decide +kernel
theorem d_MO_isBefore_93 : decode c_MO_isBefore 93 = .ok (.iaload, 1) := by decide +kernel
theorem d_MO_isBefore_94 : decode c_MO_isBefore 94 = .ok (.if_icmp .ge 7, 3) := by decide +kernel
theorem d_MO_isBefore_97 : decode c_MO_isBefore 97 = .ok (.iconst 1, 1) := by decide +kernel
theorem d_MO_isBefore_98 : decode c_MO_isBefore 98 = .ok (.goto 17, 3) := by decide +kernel
theorem d_MO_isBefore_101 : decode c_MO_isBefore 101 = .ok (.iconst 0, 1) := by decide +kernel
theorem d_MO_isBefore_102 : decode c_MO_isBefore 102 = .ok (.goto 13, 3) := by decide +kernel
theorem d_MO_isBefore_105 : decode c_MO_isBefore 105 = .ok (.iload_n 1, 1) := by decide +kernel
theorem d_MO_isBefore_106 : decode c_MO_isBefore 106 = .ok (.iload_n 2, 1) := by decide +kernel
theorem d_MO_isBefore_107 : decode c_MO_isBefore 107 = .ok (.if_icmp .ge 7, 3) := by decide +kernel
theorem d_MO_isBefore_110 : decode c_MO_isBefore 110 = .ok (.iconst 1, 1) := by decide +kernel
theorem d_MO_isBefore_111 : decode c_MO_isBefore 111 = .ok (.goto 4, 3) := by decide +kernel
theorem d_MO_isBefore_114 : decode c_MO_isBefore 114 = .ok (.iconst 0, 1) := by decide +kernel
theorem d_MO_isBefore_115 : decode c_MO_isBefore 115 = .ok (.ireturn, 1) := by decide +kernel
theorem d_MO_keepBack_0 : decode c_MO_keepBack 0 = .ok (.aload_n 0, 1) := by decide +kernel
theorem d_MO_keepBack_1 : decode c_MO_keepBack 1 = .ok (.getfield 9, 3) := by decide +kernel
theorem d_MO_keepBack_4 : decode c_MO_keepBack 4 = .ok (.ifCond .lt 14, 3) := by decide +kernel
theorem d_MO_keepBack_7 : decode c_MO_keepBack 7 = .ok (.iload_n 1, 1) := by decide +kernel
theorem d_MO_keepBack_8 : decode c_MO_keepBack 8 = .ok (.aload_n 0, 1) := by decide +kernel
theorem d_MO_keepBack_9 : decode c_MO_keepBack 9 = .ok (.getfield 9, 3) := by decide +kernel
theorem d_MO_keepBack_12 : decode c_MO_keepBack 12 = .ok (.ishr, 1) := by decide +kernel
theorem d_MO_keepBack_13 : decode c_MO_keepBack 13 = .ok (.iconst 1, 1) := by decide +kernel
theorem d_MO_keepBack_14 : decode c_MO_keepBack 14 = .ok (.iand, 1) := by decide +kernel
theorem d_MO_keepBack_15 : decode c_MO_keepBack 15 = .ok (.ifCond .ne 9, 3) := by decide +kernel
theorem d_MO_keepBack_18 : decode c_MO_keepBack 18 = .ok (.aload_n 0, 1) := by decide +kernel
theorem d_MO_keepBack_19 : decode c_MO_keepBack 19 = .ok (.iconst 0, 1) := by decide +kernel
theorem d_MO_keepBack_20 : decode c_MO_keepBack 20 = .ok (.putfield 162, 3) := by decide +kernel
theorem d_MO_keepBack_23 : decode c_MO_keepBack 23 = .ok (.return_, 1) := by decide +kernel
theorem d_MO_keepBack_24 : decode c_MO_keepBack 24 = .ok (.bipush 29, 2) := by decide +kernel
theorem d_MO_keepBack_26 : decode c_MO_keepBack 26 = .ok (.istore_n 2, 1) := by decide +kernel
theorem d_MO_keepBack_27 : decode c_MO_keepBack 27 = .ok (.iload_n 2, 1) := by decide +kernel
theorem d_MO_keepBack_28 : decode c_MO_keepBack 28 = .ok (.ifCond .le 23, 3) := by decide +kernel
theorem d_MO_keepBack_31 : decode c_MO_keepBack 31 = .ok (.aload_n 0, 1) := by decide +kernel
theorem d_MO_keepBack_32 : decode c_MO_keepBack 32 = .ok (.getfield 84, 3) := by decide +kernel
theorem d_MO_keepBack_35 : decode c_MO_keepBack 35 = .ok (.iload_n 2, 1) := by decide +kernel
theorem d_MO_keepBack_36 : decode c_MO_keepBack 36 = .ok (.aload_n 0, 1) := by decide +kernel
theorem d_MO_keepBack_37 : decode c_MO_keepBack 37 = .ok (.getfield 84, 3) := by decide +kernel
theorem d_MO_keepBack_40 : decode c_MO_keepBack 40 = .ok (.iload_n 2, 1) := by decide +kernel
theorem d_MO_keepBack_41 : decode c_MO_keepBack 41 = .ok (.iconst 1, 1) := by decide +kernel
theorem d_MO_keepBack_42 : decode c_MO_keepBack 42 = .ok (.isub, 1) := by decide +kernel
theorem d_MO_keepBack_43 : decode c_MO_keepBack 43 = .ok (.iaload, 1) := by decide +kernel
theorem d_MO_keepBack_44 : decode c_MO_keepBack 44 = .ok (.iastore, 1) := by decide +kernel
theorem d_MO_keepBack_45 : decode c_MO_keepBack 45 = .ok (.iinc 2 (-1), 3) := by decide +kernel
theorem d_MO_keepBack_48 : decode c_MO_keepBack 48 = .ok (.goto (-21), 3) := by decide +kernel
theorem d_MO_keepBack_51 : decode c_MO_keepBack 51 = .ok (.aload_n 0, 1) := by decide +kernel
theorem d_MO_keepBack_52 : decode c_MO_keepBack 52 = .ok (.getfield 84, 3) := by decide +kernel
theorem d_MO_keepBack_55 : decode c_MO_keepBack 55 = .ok (.iconst 0, 1) := by decide +kernel
theorem d_MO_keepBack_56 : decode c_MO_keepBack 56 = .ok (.aload_n 0, 1) := by decide +kernel
theorem d_MO_keepBack_57 : decode c_MO_keepBack 57 = .ok (.getfield 13, 3) := by decide +kernel
theorem d_MO_keepBack_60 : decode c_MO_keepBack 60 = .ok (.aload_n 0, 1) := by decide +kernel
theorem d_MO_keepBack_61 : decode c_MO_keepBack 61 = .ok (.getfield 9, 3) := by decide +kernel
theorem d_MO_keepBack_64 : decode c_MO_keepBack 64 = .ok (.iaload, 1) := by decide +kernel
theorem d_MO_keepBack_65 : decode c_MO_keepBack 65 = .ok (.iastore, 1) := by decide +kernel
theorem d_MO_keepBack_66 : decode c_MO_keepBack 66 = .ok (.aload_n 0, 1) := by decide +kernel
theorem d_MO_keepBack_67 : decode c_MO_keepBack 67 = .ok (.aload_n 0, 1) := by decide +kernel
theorem d_MO_keepBack_68 : decode c_MO_keepBack 68 = .ok (.getfield 162, 3) := by decide +kernel
theorem d_MO_keepBack_71 : decode c_MO_keepBack 71 = .ok (.bipush 30, 2) := by decide +kernel
theorem d_MO_keepBack_73 : decode c_MO_keepBack 73 = .ok (.if_icmp .ge 12, 3) := by decide +kernel
theorem d_MO_keepBack_76 : decode c_MO_keepBack 76 = .ok (.aload_n 0, 1) := by decide +kernel
theorem d_MO_keepBack_77 : decode c_MO_keepBack 77 = .ok (.getfield 162, 3) := by decide +kernel
theorem d_MO_keepBack_80 : decode c_MO_keepBack 80 = .ok (.iconst 1, 1) := by decide +kernel
theorem d_MO_keepBack_81 : decode c_MO_keepBack 81 = .ok (.iadd, 1) := by decide +kernel
theorem d_MO_keepBack_82 : decode c_MO_keepBack 82 = .ok (.goto 5, 3) := by decide +kernel
theorem d_MO_keepBack_85 : decode c_MO_keepBack 85 = .ok (.bipush 30, 2) := by decide +kernel
theorem d_MO_keepBack_87 : decode c_MO_keepBack 87 = .ok (.putfield 162, 3) := by decide +kernel
theorem d_MO_keepBack_90 : decode c_MO_keepBack 90 = .ok (.return_, 1) := by decide +kernel
theorem d_MO_makeRoom_0 : decode c_MO_makeRoom 0 = .ok (.iconst (-1), 1) := by decide +kernel
theorem d_MO_makeRoom_1 : decode c_MO_makeRoom 1 = .ok (.istore_n 1, 1) := by decide +kernel
theorem d_MO_makeRoom_2 : decode c_MO_makeRoom 2 = .ok (.iconst 0, 1) := by decide +kernel
theorem d_MO_makeRoom_3 : decode c_MO_makeRoom 3 = .ok (.istore_n 2, 1) := by decide +kernel
theorem d_MO_makeRoom_4 : decode c_MO_makeRoom 4 = .ok (.iload_n 2, 1) := by decide +kernel
theorem d_MO_makeRoom_5 : decode c_MO_makeRoom 5 = .ok (.aload_n 0, 1) := by decide +kernel
theorem d_MO_makeRoom_6 : decode c_MO_makeRoom 6 = .ok (.getfield 90, 3) := by decide +kernel
theorem d_MO_makeRoom_9 : decode c_MO_makeRoom 9 = .ok (.if_icmp .ge 65, 3) := by decide +kernel
theorem d_MO_makeRoom_12 : decode c_MO_makeRoom 12 = .ok (.aload_n 0, 1) := by decide +kernel
theorem d_MO_makeRoom_13 : decode c_MO_makeRoom 13 = .ok (.getfield 35, 3) := by decide +kernel
theorem d_MO_makeRoom_16 : decode c_MO_makeRoom 16 = .ok (.iload_n 2, 1) := by decide +kernel
theorem d_MO_makeRoom_17 : decode c_MO_makeRoom 17 = .ok (.iaload, 1) := by decide +kernel
theorem d_MO_makeRoom_18 : decode c_MO_makeRoom 18 = .ok (.iconst 2, 1) := by decide +kernel
theorem d_MO_makeRoom_19 : decode c_MO_makeRoom 19 = .ok (.if_icmp .ne 24, 3) := by decide +kernel
theorem d_MO_makeRoom_22 : decode c_MO_makeRoom 22 = .ok (.aload_n 0, 1) := by decide +kernel
theorem d_MO_makeRoom_23 : decode c_MO_makeRoom 23 = .ok (.getfield 47, 3) := by decide +kernel
theorem d_MO_makeRoom_26 : decode c_MO_makeRoom 26 = .ok (.iload_n 2, 1) := by decide +kernel
theorem d_MO_makeRoom_27 : decode c_MO_makeRoom 27 = .ok (.baload, 1) := by decide +kernel
theorem d_MO_makeRoom_28 : decode c_MO_makeRoom 28 = .ok (.ifCond .ne 15, 3) := by decide +kernel
theorem d_MO_makeRoom_31 : decode c_MO_makeRoom 31 = .ok (.aload_n 0, 1) := by decide +kernel
theorem d_MO_makeRoom_32 : decode c_MO_makeRoom 32 = .ok (.iload_n 2, 1) := by decide +kernel
theorem d_MO_makeRoom_33 : decode c_MO_makeRoom 33 = .ok (.invokevirtual 147, 3) := by decide +kernel
theorem d_MO_makeRoom_36 : decode c_MO_makeRoom 36 = .ok (.ifCond .le 7, 3) := by decide +kernel
theorem d_MO_makeRoom_39 : decode c_MO_makeRoom 39 = .ok (.iconst 1, 1) := by decide +kernel
theorem d_MO_makeRoom_40 : decode c_MO_makeRoom 40 = .ok (.goto 4, 3) := by decide +kernel
theorem d_MO_makeRoom_43 : decode c_MO_makeRoom 43 = .ok (.iconst 0, 1) := by decide +kernel
theorem d_MO_makeRoom_44 : decode c_MO_makeRoom 44 = .ok (.istore_n 3, 1) := by decide +kernel
theorem d_MO_makeRoom_45 : decode c_MO_makeRoom 45 = .ok (.iload_n 3, 1) := by decide +kernel
theorem d_MO_makeRoom_46 : decode c_MO_makeRoom 46 = .ok (.ifCond .eq 20, 3) := by decide +kernel
theorem d_MO_makeRoom_49 : decode c_MO_makeRoom 49 = .ok (.iload_n 1, 1) := by decide +kernel
theorem d_MO_makeRoom_50 : decode c_MO_makeRoom 50 = .ok (.ifCond .lt 12, 3) := by decide +kernel
theorem d_MO_makeRoom_53 : decode c_MO_makeRoom 53 = .ok (.aload_n 0, 1) := by decide +kernel
theorem d_MO_makeRoom_54 : decode c_MO_makeRoom 54 = .ok (.iload_n 2, 1) := by decide +kernel
theorem d_MO_makeRoom_55 : decode c_MO_makeRoom 55 = .ok (.iload_n 1, 1) := by decide +kernel
theorem d_MO_makeRoom_56 : decode c_MO_makeRoom 56 = .ok (.invokevirtual 150, 3) := by decide +kernel
theorem d_MO_makeRoom_59 : decode c_MO_makeRoom 59 = .ok (.ifCond .eq 7, 3) := by decide +kernel
theorem d_MO_makeRoom_62 : decode c_MO_makeRoom 62 = .ok (.iload_n 2, 1) := by decide +kernel
theorem d_MO_makeRoom_63 : decode c_MO_makeRoom 63 = .ok (.goto 4, 3) := by decide +kernel
theorem d_MO_makeRoom_66 : decode c_MO_makeRoom 66 = .ok (.iload_n 1, 1) := by decide +kernel
theorem d_MO_makeRoom_67 : decode c_MO_makeRoom 67 = .ok (.istore_n 1, 1) := by decide +kernel
theorem d_MO_makeRoom_68 : decode c_MO_makeRoom 68 = .ok (.iinc 2 1, 3) := by decide +kernel
theorem d_MO_makeRoom_71 : decode c_MO_makeRoom 71 = .ok (.goto (-67), 3) := by decide +kernel
theorem d_MO_makeRoom_74 : decode c_MO_makeRoom 74 = .ok (.iload_n 1, 1) := by decide +kernel
theorem d_MO_makeRoom_75 : decode c_MO_makeRoom 75 = .ok (.ifCond .lt 9, 3) := by decide +kernel
theorem d_MO_makeRoom_78 : decode c_MO_makeRoom 78 = .ok (.aload_n 0, 1) := by decide +kernel
theorem d_MO_makeRoom_79 : decode c_MO_makeRoom 79 = .ok (.iload_n 1, 1) := by decide +kernel
theorem d_MO_makeRoom_80 : decode c_MO_makeRoom 80 = .ok (.invokevirtual 153, 3) := by decide +kernel
theorem d_MO_makeRoom_83 : decode c_MO_makeRoom 83 = .ok (.pop, 1) := by decide +kernel
theorem d_MO_makeRoom_84 : decode c_MO_makeRoom 84 = .ok (.return_, 1) := by decide +kernel
theorem d_MO_record_0 : decode c_MO_record 0 = .ok (.aload_n 0, 1) := by decide +kernel
theorem d_MO_record_1 : decode c_MO_record 1 = .ok (.getfield 93, 3) := by decide +kernel
theorem d_MO_record_4 : decode c_MO_record 4 = .ok (.aload_n 0, 1) := by decide +kernel
theorem d_MO_record_5 : decode c_MO_record 5 = .ok (.getfield 38, 3) := by decide +kernel
theorem d_MO_record_8 : decode c_MO_record 8 = .ok (.iload_n 1, 1) := by decide +kernel
theorem d_MO_record_9 : decode c_MO_record 9 = .ok (.iaload, 1) := by decide +kernel
theorem d_MO_record_10 : decode c_MO_record 10 = .ok (.isub, 1) := by decide +kernel
theorem d_MO_record_11 : decode c_MO_record 11 = .ok (.istore_n 2, 1) := by decide +kernel
theorem d_MO_record_12 : decode c_MO_record 12 = .ok (.bipush 25, 2) := by decide +kernel
theorem d_MO_record_14 : decode c_MO_record 14 = .ok (.iload_n 1, 1) := by decide +kernel
theorem d_MO_record_15 : decode c_MO_record 15 = .ok (.imul, 1) := by decide +kernel
theorem d_MO_record_16 : decode c_MO_record 16 = .ok (.iload_n 2, 1) := by decide +kernel
theorem d_MO_record_17 : decode c_MO_record 17 = .ok (.iconst 4, 1) := by decide +kernel
theorem d_MO_record_18 : decode c_MO_record 18 = .ok (.idiv, 1) := by decide +kernel
theorem d_MO_record_19 : decode c_MO_record 19 = .ok (.iadd, 1) := by decide +kernel
theorem d_MO_record_20 : decode c_MO_record 20 = .ok (.istore_n 3, 1) := by decide +kernel
theorem d_MO_record_21 : decode c_MO_record 21 = .ok (.aload_n 0, 1) := by decide +kernel
theorem d_MO_record_22 : decode c_MO_record 22 = .ok (.getfield 63, 3) := by decide +kernel
theorem d_MO_record_25 : decode c_MO_record 25 = .ok (.iload_n 3, 1) := by decide +kernel
theorem d_MO_record_26 : decode c_MO_record 26 = .ok (.baload, 1) := by decide +kernel
theorem d_MO_record_27 : decode c_MO_record 27 = .ok (.ifCond .ne 14, 3) := by decide +kernel
theorem d_MO_record_30 : decode c_MO_record 30 = .ok (.aload_n 0, 1) := by decide +kernel
theorem d_MO_record_31 : decode c_MO_record 31 = .ok (.invokevirtual 156, 3) := by decide +kernel
theorem d_MO_record_34 : decode c_MO_record 34 = .ok (.ifCond .ne 7, 3) := by decide +kernel
theorem d_MO_record_37 : decode c_MO_record 37 = .ok (.aload_n 0, 1) := by decide +kernel
theorem d_MO_record_38 : decode c_MO_record 38 = .ok (.invokevirtual 159, 3) := by decide +kernel
theorem d_MO_record_41 : decode c_MO_record 41 = .ok (.aload_n 0, 1) := by decide +kernel
theorem d_MO_record_42 : decode c_MO_record 42 = .ok (.getfield 63, 3) := by decide +kernel
theorem d_MO_record_45 : decode c_MO_record 45 = .ok (.iload_n 3, 1) := by decide +kernel
theorem d_MO_record_46 : decode c_MO_record 46 = .ok (.baload, 1) := by decide +kernel
theorem d_MO_record_47 : decode c_MO_record 47 = .ok (.ifCond .ne 22, 3) := by decide +kernel
theorem d_MO_record_50 : decode c_MO_record 50 = .ok (.aload_n 0, 1) := by decide +kernel
theorem d_MO_record_51 : decode c_MO_record 51 = .ok (.invokevirtual 156, 3) := by decide +kernel
theorem d_MO_record_54 : decode c_MO_record 54 = .ok (.ifCond .ne 15, 3) := by decide +kernel
theorem d_MO_record_57 : decode c_MO_record 57 = .ok (.aload_n 0, 1) := by decide +kernel
theorem d_MO_record_58 : decode c_MO_record 58 = .ok (.getfield 44, 3) := by decide +kernel
theorem d_MO_record_61 : decode c_MO_record 61 = .ok (.iload_n 1, 1) := by decide +kernel
theorem d_MO_record_62 : decode c_MO_record 62 = .ok (.dup2, 1) := by decide +kernel
theorem d_MO_record_63 : decode c_MO_record 63 = .ok (.iaload, 1) := by decide +kernel
theorem d_MO_record_64 : decode c_MO_record 64 = .ok (.iconst 1, 1) := by decide +kernel
theorem d_MO_record_65 : decode c_MO_record 65 = .ok (.iadd, 1) := by decide +kernel
theorem d_MO_record_66 : decode c_MO_record 66 = .ok (.iastore, 1) := by decide +kernel
theorem d_MO_record_67 : decode c_MO_record 67 = .ok (.iconst 0, 1) := by decide +kernel
theorem d_MO_record_68 : decode c_MO_record 68 = .ok (.ireturn, 1) := by decide +kernel
theorem d_MO_record_69 : decode c_MO_record 69 = .ok (.aload_n 0, 1) := by decide +kernel
theorem d_MO_record_70 : decode c_MO_record 70 = .ok (.getfield 63, 3) := by decide +kernel
theorem d_MO_record_73 : decode c_MO_record 73 = .ok (.iload_n 3, 1) := by decide +kernel
theorem d_MO_record_74 : decode c_MO_record 74 = .ok (.iconst 1, 1) := by decide +kernel
theorem d_MO_record_75 : decode c_MO_record 75 = .ok (.bastore, 1) := by decide +kernel
theorem d_MO_record_76 : decode c_MO_record 76 = .ok (.aload_n 0, 1) := by decide +kernel
theorem d_MO_record_77 : decode c_MO_record 77 = .ok (.getfield 54, 3) := by decide +kernel
theorem d_MO_record_80 : decode c_MO_record 80 = .ok (.bipush 100, 2) := by decide +kernel
theorem d_MO_record_82 : decode c_MO_record 82 = .ok (.iload_n 1, 1) := by decide +kernel
theorem d_MO_record_83 : decode c_MO_record 83 = .ok (.imul, 1) := by decide +kernel
theorem d_MO_record_84 : decode c_MO_record 84 = .ok (.iload_n 2, 1) := by decide +kernel
theorem d_MO_record_85 : decode c_MO_record 85 = .ok (.iadd, 1) := by decide +kernel
theorem d_MO_record_86 : decode c_MO_record 86 = .ok (.iconst 1, 1) := by decide +kernel
theorem d_MO_record_87 : decode c_MO_record 87 = .ok (.bastore, 1) := by decide +kernel
theorem d_MO_record_88 : decode c_MO_record 88 = .ok (.aload_n 0, 1) := by decide +kernel
theorem d_MO_record_89 : decode c_MO_record 89 = .ok (.getfield 57, 3) := by decide +kernel
theorem d_MO_record_92 : decode c_MO_record 92 = .ok (.bipush 100, 2) := by decide +kernel
theorem d_MO_record_94 : decode c_MO_record 94 = .ok (.iload_n 1, 1) := by decide +kernel
theorem d_MO_record_95 : decode c_MO_record 95 = .ok (.imul, 1) := by decide +kernel
theorem d_MO_record_96 : decode c_MO_record 96 = .ok (.iload_n 2, 1) := by decide +kernel
theorem d_MO_record_97 : decode c_MO_record 97 = .ok (.iadd, 1) := by decide +kernel
theorem d_MO_record_98 : decode c_MO_record 98 = .ok (.aload_n 0, 1) := by decide +kernel
theorem d_MO_record_99 : decode c_MO_record 99 = .ok (.getfield 13, 3) := by decide +kernel
theorem d_MO_record_102 : decode c_MO_record 102 = .ok (.aload_n 0, 1) := by decide +kernel
theorem d_MO_record_103 : decode c_MO_record 103 = .ok (.getfield 17, 3) := by decide +kernel
theorem d_MO_record_106 : decode c_MO_record 106 = .ok (.iload_n 1, 1) := by decide +kernel
theorem d_MO_record_107 : decode c_MO_record 107 = .ok (.iaload, 1) := by decide +kernel
theorem d_MO_record_108 : decode c_MO_record 108 = .ok (.iaload, 1) := by decide +kernel
theorem d_MO_record_109 : decode c_MO_record 109 = .ok (.iastore, 1) := by decide +kernel
theorem d_MO_record_110 : decode c_MO_record 110 = .ok (.iconst 1, 1) := by decide +kernel
theorem d_MO_record_111 : decode c_MO_record 111 = .ok (.ireturn, 1) := by decide +kernel
theorem d_MO_recordAll_0 : decode c_MO_recordAll 0 = .ok (.iconst 0, 1) := by decide +kernel
theorem d_MO_recordAll_1 : decode c_MO_recordAll 1 = .ok (.istore_n 1, 1) := by decide +kernel
theorem d_MO_recordAll_2 : decode c_MO_recordAll 2 = .ok (.iconst 0, 1) := by decide +kernel
theorem d_MO_recordAll_3 : decode c_MO_recordAll 3 = .ok (.istore_n 2, 1) := by decide +kernel
theorem d_MO_recordAll_4 : decode c_MO_recordAll 4 = .ok (.iload_n 2, 1) := by decide +kernel
theorem d_MO_recordAll_5 : decode c_MO_recordAll 5 = .ok (.aload_n 0, 1) := by decide +kernel
theorem d_MO_recordAll_6 : decode c_MO_recordAll 6 = .ok (.getfield 90, 3) := by decide +kernel
theorem d_MO_recordAll_9 : decode c_MO_recordAll 9 = .ok (.if_icmp .ge 35, 3) := by decide +kernel
theorem d_MO_recordAll_12 : decode c_MO_recordAll 12 = .ok (.aload_n 0, 1) := by decide +kernel
theorem d_MO_recordAll_13 : decode c_MO_recordAll 13 = .ok (.getfield 35, 3) := by decide +kernel
theorem d_MO_recordAll_16 : decode c_MO_recordAll 16 = .ok (.iload_n 2, 1) := by decide +kernel
theorem d_MO_recordAll_17 : decode c_MO_recordAll 17 = .ok (.iaload, 1) := by decide +kernel
theorem d_MO_recordAll_18 : decode c_MO_recordAll 18 = .ok (.iconst 1, 1) := by decide +kernel
theorem d_MO_recordAll_19 : decode c_MO_recordAll 19 = .ok (.if_icmp .ne 17, 3) := by decide +kernel
theorem d_MO_recordAll_22 : decode c_MO_recordAll 22 = .ok (.aload_n 0, 1) := by decide +kernel
theorem d_MO_recordAll_23 : decode c_MO_recordAll 23 = .ok (.iload_n 2, 1) := by decide +kernel
theorem d_MO_recordAll_24 : decode c_MO_recordAll 24 = .ok (.invokevirtual 165, 3) := by decide +kernel
theorem d_MO_recordAll_27 : decode c_MO_recordAll 27 = .ok (.ifCond .eq 9, 3) := by decide +kernel
theorem d_MO_recordAll_30 : decode c_MO_recordAll 30 = .ok (.iload_n 1, 1) := by decide +kernel
theorem d_MO_recordAll_31 : decode c_MO_recordAll 31 = .ok (.iconst 1, 1) := by decide +kernel
theorem d_MO_recordAll_32 : decode c_MO_recordAll 32 = .ok (.iadd, 1) := by decide +kernel
theorem d_MO_recordAll_33 : decode c_MO_recordAll 33 = .ok (.goto 4, 3) := by decide +kernel
theorem d_MO_recordAll_36 : decode c_MO_recordAll 36 = .ok (.iload_n 1, 1) := by decide +kernel
theorem d_MO_recordAll_37 : decode c_MO_recordAll 37 = .ok (.istore_n 1, 1) := by decide +kernel
theorem d_MO_recordAll_38 : decode c_MO_recordAll 38 = .ok (.iinc 2 1, 3) := by decide +kernel
theorem d_MO_recordAll_41 : decode c_MO_recordAll 41 = .ok (.goto (-37), 3) := by decide +kernel
theorem d_MO_recordAll_44 : decode c_MO_recordAll 44 = .ok (.iload_n 1, 1) := by decide +kernel
theorem d_MO_recordAll_45 : decode c_MO_recordAll 45 = .ok (.ireturn, 1) := by decide +kernel
theorem d_MO_tuned_0 : decode c_MO_tuned 0 = .ok (.iconst 0, 1) := by decide +kernel
theorem d_MO_tuned_1 : decode c_MO_tuned 1 = .ok (.istore_n 1, 1) := by decide +kernel
theorem d_MO_tuned_2 : decode c_MO_tuned 2 = .ok (.iconst 0, 1) := by decide +kernel
theorem d_MO_tuned_3 : decode c_MO_tuned 3 = .ok (.istore_n 2, 1) := by decide +kernel
theorem d_MO_tuned_4 : decode c_MO_tuned 4 = .ok (.iload_n 2, 1) := by decide +kernel
theorem d_MO_tuned_5 : decode c_MO_tuned 5 = .ok (.aload_n 0, 1) := by decide +kernel
theorem d_MO_tuned_6 : decode c_MO_tuned 6 = .ok (.getfield 90, 3) := by decide +kernel
theorem d_MO_tuned_9 : decode c_MO_tuned 9 = .ok (.if_icmp .ge 34, 3) := by decide +kernel
theorem d_MO_tuned_12 : decode c_MO_tuned 12 = .ok (.aload_n 0, 1) := by decide +kernel
theorem d_MO_tuned_13 : decode c_MO_tuned 13 = .ok (.getfield 35, 3) := by decide +kernel
theorem d_MO_tuned_16 : decode c_MO_tuned 16 = .ok (.iload_n 2, 1) := by decide +kernel
theorem d_MO_tuned_17 : decode c_MO_tuned 17 = .ok (.iaload, 1) := by decide +kernel
theorem d_MO_tuned_18 : decode c_MO_tuned 18 = .ok (.iconst 1, 1) := by decide +kernel
theorem d_MO_tuned_19 : decode c_MO_tuned 19 = .ok (.if_icmp .ne 16, 3) := by decide +kernel
theorem d_MO_tuned_22 : decode c_MO_tuned 22 = .ok (.iload_n 1, 1) := by decide +kernel
theorem d_MO_tuned_23 : decode c_MO_tuned 23 = .ok (.iconst 1, 1) := by decide +kernel
theorem d_MO_tuned_24 : decode c_MO_tuned 24 = .ok (.aload_n 0, 1) := by decide +kernel
theorem d_MO_tuned_25 : decode c_MO_tuned 25 = .ok (.getfield 17, 3) := by decide +kernel
theorem d_MO_tuned_28 : decode c_MO_tuned 28 = .ok (.iload_n 2, 1) := by decide +kernel
theorem d_MO_tuned_29 : decode c_MO_tuned 29 = .ok (.iaload, 1) := by decide +kernel
theorem d_MO_tuned_30 : decode c_MO_tuned 30 = .ok (.ishl, 1) := by decide +kernel
theorem d_MO_tuned_31 : decode c_MO_tuned 31 = .ok (.ior, 1) := by decide +kernel
theorem d_MO_tuned_32 : decode c_MO_tuned 32 = .ok (.goto 4, 3) := by decide +kernel
theorem d_MO_tuned_35 : decode c_MO_tuned 35 = .ok (.iload_n 1, 1) := by decide +kernel
theorem d_MO_tuned_36 : decode c_MO_tuned 36 = .ok (.istore_n 1, 1) := by decide +kernel
theorem d_MO_tuned_37 : decode c_MO_tuned 37 = .ok (.iinc 2 1, 3) := by decide +kernel
theorem d_MO_tuned_40 : decode c_MO_tuned 40 = .ok (.goto (-36), 3) := by decide +kernel
theorem d_MO_tuned_43 : decode c_MO_tuned 43 = .ok (.iconst 0, 1) := by decide +kernel
theorem d_MO_tuned_44 : decode c_MO_tuned 44 = .ok (.istore_n 2, 1) := by decide +kernel
theorem d_MO_tuned_45 : decode c_MO_tuned 45 = .ok (.iconst 0, 1) := by decide +kernel
theorem d_MO_tuned_46 : decode c_MO_tuned 46 = .ok (.istore_n 3, 1) := by decide +kernel
theorem d_MO_tuned_47 : decode c_MO_tuned 47 = .ok (.iload_n 3, 1) := by decide +kernel
theorem d_MO_tuned_48 : decode c_MO_tuned 48 = .ok (.bipush 8, 2) := by decide +kernel
theorem d_MO_tuned_50 : decode c_MO_tuned 50 = .ok (.if_icmp .ge 17, 3) := by decide +kernel
theorem d_MO_tuned_53 : decode c_MO_tuned 53 = .ok (.iload_n 2, 1) := by decide +kernel
theorem d_MO_tuned_54 : decode c_MO_tuned 54 = .ok (.iload_n 1, 1) := by decide +kernel
theorem d_MO_tuned_55 : decode c_MO_tuned 55 = .ok (.iload_n 3, 1) := by decide +kernel
theorem d_MO_tuned_56 : decode c_MO_tuned 56 = .ok (.ishr, 1) := by decide +kernel
theorem d_MO_tuned_57 : decode c_MO_tuned 57 = .ok (.iconst 1, 1) := by decide +kernel
theorem d_MO_tuned_58 : decode c_MO_tuned 58 = .ok (.iand, 1) := by decide +kernel
theorem d_MO_tuned_59 : decode c_MO_tuned 59 = .ok (.iadd, 1) := by decide +kernel
theorem d_MO_tuned_60 : decode c_MO_tuned 60 = .ok (.istore_n 2, 1) := by decide +kernel
theorem d_MO_tuned_61 : decode c_MO_tuned 61 = .ok (.iinc 3 1, 3) := by decide +kernel
theorem d_MO_tuned_64 : decode c_MO_tuned 64 = .ok (.goto (-17), 3) := by decide +kernel
theorem d_MO_tuned_67 : decode c_MO_tuned 67 = .ok (.aload_n 0, 1) := by decide +kernel
theorem d_MO_tuned_68 : decode c_MO_tuned 68 = .ok (.getfield 9, 3) := by decide +kernel
theorem d_MO_tuned_71 : decode c_MO_tuned 71 = .ok (.ifCond .lt 19, 3) := by decide +kernel
theorem d_MO_tuned_74 : decode c_MO_tuned 74 = .ok (.iload_n 2, 1) := by decide +kernel
theorem d_MO_tuned_75 : decode c_MO_tuned 75 = .ok (.iconst 2, 1) := by decide +kernel
theorem d_MO_tuned_76 : decode c_MO_tuned 76 = .ok (.if_icmp .ge 14, 3) := by decide +kernel
theorem d_MO_tuned_79 : decode c_MO_tuned 79 = .ok (.iload_n 1, 1) := by decide +kernel
theorem d_MO_tuned_80 : decode c_MO_tuned 80 = .ok (.iconst 1, 1) := by decide +kernel
theorem d_MO_tuned_81 : decode c_MO_tuned 81 = .ok (.aload_n 0, 1) := by decide +kernel
theorem d_MO_tuned_82 : decode c_MO_tuned 82 = .ok (.getfield 9, 3) := by decide +kernel
theorem d_MO_tuned_85 : decode c_MO_tuned 85 = .ok (.ishl, 1) := by decide +kernel
theorem d_MO_tuned_86 : decode c_MO_tuned 86 = .ok (.ior, 1) := by decide +kernel
theorem d_MO_tuned_87 : decode c_MO_tuned 87 = .ok (.goto 4, 3) := by decide +kernel
theorem d_MO_tuned_90 : decode c_MO_tuned 90 = .ok (.iload_n 1, 1) := by decide +kernel
theorem d_MO_tuned_91 : decode c_MO_tuned 91 = .ok (.ireturn, 1) := by decide +kernel
theorem ix_q {x y : Int32} (h1 : y.toInt ≤ x.toInt) (h2 : x.toInt - y.toInt < 100) (h3 : 0 ≤ x.toInt) (h4 : x.toInt < 100000000) (h5 : -100000000 < y.toInt) : ∃ q : Nat, q < 100 ∧ x - y = nI q := by
  have e : (x - y).toInt = x.toInt - y.toInt := ti_sub (by omega) (by omega)
  refine ⟨(x.toInt - y.toInt).toNat, by omega, it_eq ?_⟩
  rw [e, nI_toInt (by omega)]; omega
/-- states: the same, or FINISHED and now ERASED -/
def stE (f g : Nat → Int32) : Prop := ∀ i : Nat, g i = f i ∨ (f i = 2 ∧ g i = 5)
theorem stE.rf {f : Nat → Int32} : stE f f := fun _ => Or.inl rfl
theorem stE.tr {f g h : Nat → Int32} (a : stE f g) (b : stE g h) : stE f h := fun i => by
  rcases a i with x | x <;> rcases b i with y | y
  · exact Or.inl (y.trans x)
  · exact Or.inr ⟨x.symm.trans y.1, y.2⟩
  · exact Or.inr ⟨x.1, y.trans x.2⟩
  · exact Or.inr ⟨x.1, y.2⟩
theorem stE.up {f : Nat → Int32} {j : Nat} (h : f j = 2) : stE f (upd f j 5) := fun i => by
  by_cases e : i = j
  · subst e; exact Or.inr ⟨h, pk_us⟩
  · exact Or.inl (pk_un e)
theorem stE.one {f g : Nat → Int32} (a : stE f g) {i : Nat} (h : g i = 1) : f i = 1 := by
  rcases a i with x | x
  · exact x.symm.trans h
  · exact absurd (h.symm.trans x.2) (by decide)
theorem stE_oc {f g : Nat → Int32} (a : stE f g) : ∀ n, oc g n = oc f n := by
  intro n
  induction n with
  | zero => rfl
  | succ n ih =>
    show oc g n + _ = oc f n + _
    rw [ih]
    rcases a n with x | x
    · rw [x]
    · rw [x.1, x.2, if_neg (by decide), if_neg (by decide)]
/-- what is to be erased first: none yet, or a finished one -/
def mrB (N : Nat) (f : Nat → Int32) (b : Int32) : Prop := b.toInt < 0 ∨ ∃ t, t < N ∧ b = nI t ∧ f t = 2
theorem MI_er {T : Int} {N : Nat} {sc sc' : Nat → Int32} {ia ia' : Nat → Nat → Int32} (h : MI T N sc ia) (hs : same [0, 21] sc sc') (hi : same [3, 8, 11, 14, 15, 16, 17, 18, 19, 20, 22, 23, 24, 25, 26, 27, 29] ia ia') (he : stE (ia 11) (ia' 11)) : MI T N sc' ia' := by
  show mI T N (sc' 1) (sc' 4) (sc' 2) (sc' 28) (ia' 5) (ia' 6) (ia' 7) (ia' 9) (ia' 10) (ia' 11) (ia' 12) (ia' 13)
  rw [hs 1 (by decide), hs 4 (by decide), hs 2 (by decide), hs 28 (by decide), hi 5 (by decide), hi 6 (by decide), hi 7 (by decide), hi 9 (by decide), hi 10 (by decide), hi 12 (by decide), hi 13 (by decide)]
  obtain ⟨a1, a2, a3, a4, a5, a6, a7, a8⟩ := h
  refine ⟨a1, a2, a3, a4, a5, by rw [stE_oc he]; exact a6, fun i hi9 => ?_, fun i hi9 => ?_⟩
  · have a9 := a7 i hi9
    rcases he i with x | x
    · exact x.trans a9
    · exact absurd (a9.symm.trans x.1) (by decide)
  · obtain ⟨b1, b2, b3, b4, b5, b6⟩ := a8 i hi9
    exact ⟨b1, b2, b3, b4, b5, fun q => b6 (he.one q)⟩
set_option maxHeartbeats 8000000 in
set_option maxRecDepth 100000 in
theorem t_MO_freeSegments (l : Launch) (dC : Nat → ClassId) (dI : Nat → Nat → Nat) (g0 : Nat) (ad : Nat → Nat) (kI kZ : ClassId) (sc : Nat → Int32) (ia : Nat → Nat → Int32) (N : Nat) (e4 : sc 4 = nI N) (hN : N ≤ 40) : Met l y_MO_freeSegments w_MO_freeSegments ({ frames := 1, cells := 0, slots := 0, locals := 23 }) (rdP (dC, dI) (MOW g0 ad kI kZ sc ia) (MOT kI kZ) [.ref g0]) (rQ vI (fun r => True)) 0 0 (fun _ => False) := by
  refine Met.ofW (cc := c_MO_freeSegments) (maxL := 3) (ret := (some .int)) (by decide) rfl ?_
  intro p e s m args below meth c s₁ B hml hv
  obtain ⟨rfl, hP, hK⟩ := hv
  have hx := B.exec
  have hb := B.bytes
  have hr := B.returns
  have ht : ∀ w ∈ tb_, w.before _ s = true := fun w h => atoms_spec (ws := w_MO_freeSegments) B.pre w (List.mem_cons_of_mem _ h)
  have hown : s.vm.findClass R_MO = some m.cls := findClass_of_methodNamed B.named
  have hlocks := B.notSynchronized
  have hP : va_P (dC, dI) cls_ (MOW g0 ad kI kZ sc ia) s.heap := hP
  have hl := lv_entry ([.ref g0]) (n := 3) (Nat.le_of_ble_eq_true rfl)
  rw [lg_entry_eq]
  generalize (lg_sl ([.ref g0]) ++ List.replicate (3 - (lg_sl ([.ref g0])).length) Slot.unset).toArray = ls at hl ⊢
  have hl : lv_has ls 3 [(0, .ref g0)] := hl
  refine lv_bipush (v := 24) hx hb d_MO_freeSegments_0 (by decide) ?_
  refine lv_istore_n hx hb d_MO_freeSegments_2 rfl hl (by decide) rfl (fun ls hl => ?_)
  have hl : lv_has ls 3 [(1, .int 24), (0, .ref g0)] := hl
  refine lv_iconst (v := 0) hx hb d_MO_freeSegments_3 (by decide) ?_
  refine lv_istore_n hx hb d_MO_freeSegments_4 rfl hl (by decide) rfl (fun ls hl => ?_)
  have hl : lv_has ls 3 [(2, .int 0), (1, .int 24), (0, .ref g0)] := hl
  have J_5 : ∀ (n_5 : Nat) (k : Nat) (q : Int32)  (ls : Array Slot), N - k < n_5 → k ≤ N → lv_has ls 3 [(2, .int (nI k)), (1, .int q), (0, .ref g0)] → W p l e (headSpec w_MO_freeSegments ({ frames := 1, cells := 0, slots := 0, locals := 23 })).room s m (([.ref g0] : List Value).toArray) below meth c s.heap [] 0 0 (MQ below (rQ vI (fun r => True)) (([.ref g0] : List Value).toArray) s 0 0 (fun _ => False)) (F0 m 5 ls []) := by
    intro n_5
    induction n_5 with
    | zero => intro k q ls hmu hc5_0 hl; exact absurd hmu (by omega)
    | succ n_5 ih_5 =>
      intro k q ls hmu hc5_0 hl
      refine lv_iload_n hx hb d_MO_freeSegments_5 rfl (lv_at hl 0 rfl) ?_
      refine lv_aload_n hx hb d_MO_freeSegments_6 rfl (lv_at hl 2 rfl) ?_
      refine va_get (D := (dC, dI)) (ci := 5) (v := .int (sc 4)) (C := R_MO) (T := F_MO) (N := 30) hx hb ht in_MO hown hK hP 0 rfl rfl 4 (by decide) (ht _ tb_635) (fun _ h9 => h9) rfl d_MO_freeSegments_7 ?_
      refine W.eq (g2 := F0 m 10 ls [.int (nI N), .int (nI k)]) (by rw [show sc 4 = nI N from e4]) ?_
      refine lv_icmp_ge (tgt := 27) hx hb d_MO_freeSegments_10 (by decide) (fun h10_1 => ?_) (fun h10_1 => ?_)
      · have h10_1 := h10_1
        have i10_1 := ti_le h10_1
        (try rw [nI_toInt (show k < 2 ^ 31 by omega)] at i10_1)
        (try rw [nI_toInt (show N < 2 ^ 31 by omega)] at i10_1)
        refine lv_iload_n hx hb d_MO_freeSegments_27 rfl (lv_at hl 1 rfl) ?_
        exact W.iret (v := q) hx hb hr (fun t ht9 hW => ⟨q, rfl, trivial, ht9⟩) (fun q h => by cases h) d_MO_freeSegments_28
      · have h10_1 := h10_1
        have i10_1 := ti_nle h10_1
        (try rw [nI_toInt (show k < 2 ^ 31 by omega)] at i10_1)
        (try rw [nI_toInt (show N < 2 ^ 31 by omega)] at i10_1)
        refine lv_iload_n hx hb d_MO_freeSegments_13 rfl (lv_at hl 1 rfl) ?_
        refine lv_aload_n hx hb d_MO_freeSegments_14 rfl (lv_at hl 2 rfl) ?_
        refine lv_iload_n hx hb d_MO_freeSegments_15 rfl (lv_at hl 0 rfl) ?_
        refine r_call (va_runV (C := R_MO) (As := [.int (nI k)]) (rest := [.int q]) ⟨hx, hb, hml, hown, ht⟩ (t_MO_segmentsOf l dC dI g0 ad kI kZ sc ia k (by omega)) (cwV 1 ht (gV tb_824 tb_826 ts_40 tb_5 tb_827) rfl rfl rfl (by decide +kernel) ⟨Nat.le_of_ble_eq_true rfl, Nat.le_of_ble_eq_true rfl⟩) ⟨rdP_blind, va_recv (q := (R_MO, F_MO, 30)) hK hP rfl (show (MOW g0 ad kI kZ sc ia : va_W)[0]? = some _ from rfl), rd_pre hP hK⟩ rfl rfl hl.1 rfl (lv_room (Nat.le_of_ble_eq_true rfl)) d_MO_freeSegments_16 ⟨Nat.le_of_ble_eq_true rfl, Nat.le_of_ble_eq_true rfl⟩) (fun r1 hu => ?_)
        clear hu
        refine W.eq (g2 := F0 m 19 ls [.int r1, .int q]) rfl ?_
        refine lv_isub hx hb d_MO_freeSegments_19 ?_
        refine lv_istore_n hx hb d_MO_freeSegments_20 rfl hl (by decide) rfl (fun ls hl => ?_)
        have hl : lv_has ls 3 [(1, .int (q - r1)), (2, .int (nI k)), (0, .ref g0)] := hl
        refine lv_iinc (k := 1) (v := nI (k + 1)) hx hb d_MO_freeSegments_21 hl rfl ((nI_succ k).symm) (by decide) rfl (fun ls hl => ?_)
        have hl : lv_has ls 3 [(2, .int (nI (k + 1))), (1, .int (q - r1)), (0, .ref g0)] := hl
        refine lv_goto (tgt := 5) hx hb d_MO_freeSegments_24 (by decide) ?_
        exact ih_5 (k + 1) (q - r1) ls (by omega) (by omega) hl
  have hl := lv_sub hl [0, 1, 2] (l' := [(2, .int 0), (1, .int 24), (0, .ref g0)]) rfl
  have hl : lv_has ls 3 [(2, .int (nI 0)), (1, .int 24), (0, .ref g0)] := hl
  exact J_5 ((N - 0) + 1) 0 24 ls (by omega) (by omega) hl
set_option maxHeartbeats 8000000 in
set_option maxRecDepth 100000 in
theorem t_MO_isBefore (l : Launch) (dC : Nat → ClassId) (dI : Nat → Nat → Nat) (g0 : Nat) (ad : Nat → Nat) (kI kZ : ClassId) (sc : Nat → Int32) (ia : Nat → Nat → Int32) (j : Nat) (hj : j < 40) (i : Nat) (hi : i < 40) : Met l y_MO_isBefore w_MO_isBefore ({ frames := 0, cells := 0, slots := 0, locals := 0 }) (rdP (dC, dI) (MOW g0 ad kI kZ sc ia) (MOT kI kZ) [.ref g0, .int (nI j), .int (nI i)]) (rQ vI (fun r => True)) 0 0 (fun _ => False) := by
  refine Met.ofW (cc := c_MO_isBefore) (maxL := 3) (ret := (some .boolean)) (by decide) rfl ?_
  intro p e s m args below meth c s₁ B hml hv
  obtain ⟨rfl, hP, hK⟩ := hv
  have hx := B.exec
  have hb := B.bytes
  have hr := B.returns
  have ht : ∀ w ∈ tb_, w.before _ s = true := fun w h => atoms_spec (ws := w_MO_isBefore) B.pre w (List.mem_cons_of_mem _ h)
  have hown : s.vm.findClass R_MO = some m.cls := findClass_of_methodNamed B.named
  have hlocks := B.notSynchronized
  have hP : va_P (dC, dI) cls_ (MOW g0 ad kI kZ sc ia) s.heap := hP
  have hl := lv_entry ([.ref g0, .int (nI j), .int (nI i)]) (n := 3) (Nat.le_of_ble_eq_true rfl)
  rw [lg_entry_eq]
  generalize (lg_sl ([.ref g0, .int (nI j), .int (nI i)]) ++ List.replicate (3 - (lg_sl ([.ref g0, .int (nI j), .int (nI i)])).length) Slot.unset).toArray = ls at hl ⊢
  have hl : lv_has ls 3 [(0, .ref g0), (1, .int (nI j)), (2, .int (nI i))] := hl
  refine lv_aload_n hx hb d_MO_isBefore_0 rfl (lv_at hl 0 rfl) ?_
  refine va_get (D := (dC, dI)) (ci := 5) (v := .ref (ad 16)) (C := R_MO) (T := F_MO) (N := 30) hx hb ht in_MO hown hK hP 0 rfl rfl 16 (by decide) (ht _ tb_647) (fun _ h9 => h9) rfl d_MO_isBefore_1 ?_
  refine lv_iload_n hx hb d_MO_isBefore_4 rfl (lv_at hl 1 rfl) ?_
  refine va_zald hx hb hK hP 13 1 rfl rfl (vp_in_nI (show j < 40 by omega) (by decide)) d_MO_isBefore_5 ?_
  refine W.eq (g2 := F0 m 6 ls [.int (ia 16 j)]) (by rw [nI_clamp (show j < 2 ^ 31 by omega)]) ?_
  refine lv_aload_n hx hb d_MO_isBefore_6 rfl (lv_at hl 0 rfl) ?_
  refine va_get (D := (dC, dI)) (ci := 5) (v := .ref (ad 16)) (C := R_MO) (T := F_MO) (N := 30) hx hb ht in_MO hown hK hP 0 rfl rfl 16 (by decide) (ht _ tb_647) (fun _ h9 => h9) rfl d_MO_isBefore_7 ?_
  refine lv_iload_n hx hb d_MO_isBefore_10 rfl (lv_at hl 2 rfl) ?_
  refine va_zald hx hb hK hP 13 1 rfl rfl (vp_in_nI (show i < 40 by omega) (by decide)) d_MO_isBefore_11 ?_
  refine W.eq (g2 := F0 m 12 ls [.int (ia 16 i), .int (ia 16 j)]) (by rw [nI_clamp (show i < 2 ^ 31 by omega)]) ?_
  refine lv_icmp_eq (tgt := 22) hx hb d_MO_isBefore_12 (by decide) (fun h12_1 => ?_) (fun h12_1 => ?_)
  · have h12_1 := h12_1
    have i12_1 := ti_eq h12_1
    refine lv_aload_n hx hb d_MO_isBefore_22 rfl (lv_at hl 0 rfl) ?_
    refine va_get (D := (dC, dI)) (ci := 5) (v := .ref (ad 16)) (C := R_MO) (T := F_MO) (N := 30) hx hb ht in_MO hown hK hP 0 rfl rfl 16 (by decide) (ht _ tb_647) (fun _ h9 => h9) rfl d_MO_isBefore_23 ?_
    refine lv_iload_n hx hb d_MO_isBefore_26 rfl (lv_at hl 1 rfl) ?_
    refine va_zald hx hb hK hP 13 1 rfl rfl (vp_in_nI (show j < 40 by omega) (by decide)) d_MO_isBefore_27 ?_
    refine W.eq (g2 := F0 m 28 ls [.int (ia 16 j)]) (by rw [nI_clamp (show j < 2 ^ 31 by omega)]) ?_
    refine lv_if_ne (tgt := 67) hx hb d_MO_isBefore_28 (by decide) (fun h28_2 => ?_) (fun h28_2 => ?_)
    · have h28_2 := h28_2
      have i28_2 := ti_ne h28_2
      (try rw [l_0] at i28_2)
      refine lv_aload_n hx hb d_MO_isBefore_67 rfl (lv_at hl 0 rfl) ?_
      refine va_get (D := (dC, dI)) (ci := 5) (v := .ref (ad 13)) (C := R_MO) (T := F_MO) (N := 30) hx hb ht in_MO hown hK hP 0 rfl rfl 13 (by decide) (ht _ tb_644) (fun _ h9 => h9) rfl d_MO_isBefore_68 ?_
      refine lv_iload_n hx hb d_MO_isBefore_71 rfl (lv_at hl 1 rfl) ?_
      refine va_iald hx hb hK hP 10 0 rfl rfl (vp_in_nI (show j < 40 by omega) (by decide)) d_MO_isBefore_72 ?_
      refine W.eq (g2 := F0 m 73 ls [.int (ia 13 j)]) (by rw [nI_clamp (show j < 2 ^ 31 by omega)]) ?_
      refine lv_aload_n hx hb d_MO_isBefore_73 rfl (lv_at hl 0 rfl) ?_
      refine va_get (D := (dC, dI)) (ci := 5) (v := .ref (ad 13)) (C := R_MO) (T := F_MO) (N := 30) hx hb ht in_MO hown hK hP 0 rfl rfl 13 (by decide) (ht _ tb_644) (fun _ h9 => h9) rfl d_MO_isBefore_74 ?_
      refine lv_iload_n hx hb d_MO_isBefore_77 rfl (lv_at hl 2 rfl) ?_
      refine va_iald hx hb hK hP 10 0 rfl rfl (vp_in_nI (show i < 40 by omega) (by decide)) d_MO_isBefore_78 ?_
      refine W.eq (g2 := F0 m 79 ls [.int (ia 13 i), .int (ia 13 j)]) (by rw [nI_clamp (show i < 2 ^ 31 by omega)]) ?_
      refine lv_icmp_eq (tgt := 105) hx hb d_MO_isBefore_79 (by decide) (fun h79_3 => ?_) (fun h79_3 => ?_)
      · have h79_3 := h79_3
        have i79_3 := ti_eq h79_3
        refine lv_iload_n hx hb d_MO_isBefore_105 rfl (lv_at hl 1 rfl) ?_
        refine lv_iload_n hx hb d_MO_isBefore_106 rfl (lv_at hl 2 rfl) ?_
        refine lv_icmp_ge (tgt := 114) hx hb d_MO_isBefore_107 (by decide) (fun h107_4 => ?_) (fun h107_4 => ?_)
        · have h107_4 := h107_4
          have i107_4 := ti_le h107_4
          (try rw [nI_toInt (show j < 2 ^ 31 by omega)] at i107_4)
          (try rw [nI_toInt (show i < 2 ^ 31 by omega)] at i107_4)
          refine lv_iconst (v := 0) hx hb d_MO_isBefore_114 (by decide) ?_
          exact W.zret (v := 0) hx hb hr rfl (fun t ht9 hW => ⟨0, rfl, trivial, ht9⟩) (fun q h => by cases h) d_MO_isBefore_115
        · have h107_4 := h107_4
          have i107_4 := ti_nle h107_4
          (try rw [nI_toInt (show j < 2 ^ 31 by omega)] at i107_4)
          (try rw [nI_toInt (show i < 2 ^ 31 by omega)] at i107_4)
          refine lv_iconst (v := 1) hx hb d_MO_isBefore_110 (by decide) ?_
          refine lv_goto (tgt := 115) hx hb d_MO_isBefore_111 (by decide) ?_
          exact W.zret (v := 1) hx hb hr rfl (fun t ht9 hW => ⟨1, rfl, trivial, ht9⟩) (fun q h => by cases h) d_MO_isBefore_115
      · have h79_3 := h79_3
        have i79_3 := ti_ne h79_3
        refine lv_aload_n hx hb d_MO_isBefore_82 rfl (lv_at hl 0 rfl) ?_
        refine va_get (D := (dC, dI)) (ci := 5) (v := .ref (ad 13)) (C := R_MO) (T := F_MO) (N := 30) hx hb ht in_MO hown hK hP 0 rfl rfl 13 (by decide) (ht _ tb_644) (fun _ h9 => h9) rfl d_MO_isBefore_83 ?_
        refine lv_iload_n hx hb d_MO_isBefore_86 rfl (lv_at hl 1 rfl) ?_
        refine va_iald hx hb hK hP 10 0 rfl rfl (vp_in_nI (show j < 40 by omega) (by decide)) d_MO_isBefore_87 ?_
        refine W.eq (g2 := F0 m 88 ls [.int (ia 13 j)]) (by rw [nI_clamp (show j < 2 ^ 31 by omega)]) ?_
        refine lv_aload_n hx hb d_MO_isBefore_88 rfl (lv_at hl 0 rfl) ?_
        refine va_get (D := (dC, dI)) (ci := 5) (v := .ref (ad 13)) (C := R_MO) (T := F_MO) (N := 30) hx hb ht in_MO hown hK hP 0 rfl rfl 13 (by decide) (ht _ tb_644) (fun _ h9 => h9) rfl d_MO_isBefore_89 ?_
        refine lv_iload_n hx hb d_MO_isBefore_92 rfl (lv_at hl 2 rfl) ?_
        refine va_iald hx hb hK hP 10 0 rfl rfl (vp_in_nI (show i < 40 by omega) (by decide)) d_MO_isBefore_93 ?_
        refine W.eq (g2 := F0 m 94 ls [.int (ia 13 i), .int (ia 13 j)]) (by rw [nI_clamp (show i < 2 ^ 31 by omega)]) ?_
        refine lv_icmp_ge (tgt := 101) hx hb d_MO_isBefore_94 (by decide) (fun h94_5 => ?_) (fun h94_5 => ?_)
        · have h94_5 := h94_5
          have i94_5 := ti_le h94_5
          refine lv_iconst (v := 0) hx hb d_MO_isBefore_101 (by decide) ?_
          refine lv_goto (tgt := 115) hx hb d_MO_isBefore_102 (by decide) ?_
          exact W.zret (v := 0) hx hb hr rfl (fun t ht9 hW => ⟨0, rfl, trivial, ht9⟩) (fun q h => by cases h) d_MO_isBefore_115
        · have h94_5 := h94_5
          have i94_5 := ti_nle h94_5
          refine lv_iconst (v := 1) hx hb d_MO_isBefore_97 (by decide) ?_
          refine lv_goto (tgt := 115) hx hb d_MO_isBefore_98 (by decide) ?_
          exact W.zret (v := 1) hx hb hr rfl (fun t ht9 hW => ⟨1, rfl, trivial, ht9⟩) (fun q h => by cases h) d_MO_isBefore_115
    · have h28_2 := h28_2
      have i28_2 := ti_eq h28_2
      (try rw [l_0] at i28_2)
      refine lv_aload_n hx hb d_MO_isBefore_31 rfl (lv_at hl 0 rfl) ?_
      refine va_get (D := (dC, dI)) (ci := 5) (v := .ref (ad 8)) (C := R_MO) (T := F_MO) (N := 30) hx hb ht in_MO hown hK hP 0 rfl rfl 8 (by decide) (ht _ tb_639) (fun _ h9 => h9) rfl d_MO_isBefore_32 ?_
      refine lv_iload_n hx hb d_MO_isBefore_35 rfl (lv_at hl 1 rfl) ?_
      refine va_iald hx hb hK hP 5 0 rfl rfl (vp_in_nI (show j < 40 by omega) (by decide)) d_MO_isBefore_36 ?_
      refine W.eq (g2 := F0 m 37 ls [.int (ia 8 j)]) (by rw [nI_clamp (show j < 2 ^ 31 by omega)]) ?_
      refine lv_aload_n hx hb d_MO_isBefore_37 rfl (lv_at hl 0 rfl) ?_
      refine va_get (D := (dC, dI)) (ci := 5) (v := .ref (ad 8)) (C := R_MO) (T := F_MO) (N := 30) hx hb ht in_MO hown hK hP 0 rfl rfl 8 (by decide) (ht _ tb_639) (fun _ h9 => h9) rfl d_MO_isBefore_38 ?_
      refine lv_iload_n hx hb d_MO_isBefore_41 rfl (lv_at hl 2 rfl) ?_
      refine va_iald hx hb hK hP 5 0 rfl rfl (vp_in_nI (show i < 40 by omega) (by decide)) d_MO_isBefore_42 ?_
      refine W.eq (g2 := F0 m 43 ls [.int (ia 8 i), .int (ia 8 j)]) (by rw [nI_clamp (show i < 2 ^ 31 by omega)]) ?_
      refine lv_icmp_eq (tgt := 67) hx hb d_MO_isBefore_43 (by decide) (fun h43_6 => ?_) (fun h43_6 => ?_)
      · have h43_6 := h43_6
        have i43_6 := ti_eq h43_6
        refine lv_aload_n hx hb d_MO_isBefore_67 rfl (lv_at hl 0 rfl) ?_
        refine va_get (D := (dC, dI)) (ci := 5) (v := .ref (ad 13)) (C := R_MO) (T := F_MO) (N := 30) hx hb ht in_MO hown hK hP 0 rfl rfl 13 (by decide) (ht _ tb_644) (fun _ h9 => h9) rfl d_MO_isBefore_68 ?_
        refine lv_iload_n hx hb d_MO_isBefore_71 rfl (lv_at hl 1 rfl) ?_
        refine va_iald hx hb hK hP 10 0 rfl rfl (vp_in_nI (show j < 40 by omega) (by decide)) d_MO_isBefore_72 ?_
        refine W.eq (g2 := F0 m 73 ls [.int (ia 13 j)]) (by rw [nI_clamp (show j < 2 ^ 31 by omega)]) ?_
        refine lv_aload_n hx hb d_MO_isBefore_73 rfl (lv_at hl 0 rfl) ?_
        refine va_get (D := (dC, dI)) (ci := 5) (v := .ref (ad 13)) (C := R_MO) (T := F_MO) (N := 30) hx hb ht in_MO hown hK hP 0 rfl rfl 13 (by decide) (ht _ tb_644) (fun _ h9 => h9) rfl d_MO_isBefore_74 ?_
        refine lv_iload_n hx hb d_MO_isBefore_77 rfl (lv_at hl 2 rfl) ?_
        refine va_iald hx hb hK hP 10 0 rfl rfl (vp_in_nI (show i < 40 by omega) (by decide)) d_MO_isBefore_78 ?_
        refine W.eq (g2 := F0 m 79 ls [.int (ia 13 i), .int (ia 13 j)]) (by rw [nI_clamp (show i < 2 ^ 31 by omega)]) ?_
        refine lv_icmp_eq (tgt := 105) hx hb d_MO_isBefore_79 (by decide) (fun h79_7 => ?_) (fun h79_7 => ?_)
        · have h79_7 := h79_7
          have i79_7 := ti_eq h79_7
          refine lv_iload_n hx hb d_MO_isBefore_105 rfl (lv_at hl 1 rfl) ?_
          refine lv_iload_n hx hb d_MO_isBefore_106 rfl (lv_at hl 2 rfl) ?_
          refine lv_icmp_ge (tgt := 114) hx hb d_MO_isBefore_107 (by decide) (fun h107_8 => ?_) (fun h107_8 => ?_)
          · have h107_8 := h107_8
            have i107_8 := ti_le h107_8
            (try rw [nI_toInt (show j < 2 ^ 31 by omega)] at i107_8)
            (try rw [nI_toInt (show i < 2 ^ 31 by omega)] at i107_8)
            refine lv_iconst (v := 0) hx hb d_MO_isBefore_114 (by decide) ?_
            exact W.zret (v := 0) hx hb hr rfl (fun t ht9 hW => ⟨0, rfl, trivial, ht9⟩) (fun q h => by cases h) d_MO_isBefore_115
          · have h107_8 := h107_8
            have i107_8 := ti_nle h107_8
            (try rw [nI_toInt (show j < 2 ^ 31 by omega)] at i107_8)
            (try rw [nI_toInt (show i < 2 ^ 31 by omega)] at i107_8)
            refine lv_iconst (v := 1) hx hb d_MO_isBefore_110 (by decide) ?_
            refine lv_goto (tgt := 115) hx hb d_MO_isBefore_111 (by decide) ?_
            exact W.zret (v := 1) hx hb hr rfl (fun t ht9 hW => ⟨1, rfl, trivial, ht9⟩) (fun q h => by cases h) d_MO_isBefore_115
        · have h79_7 := h79_7
          have i79_7 := ti_ne h79_7
          refine lv_aload_n hx hb d_MO_isBefore_82 rfl (lv_at hl 0 rfl) ?_
          refine va_get (D := (dC, dI)) (ci := 5) (v := .ref (ad 13)) (C := R_MO) (T := F_MO) (N := 30) hx hb ht in_MO hown hK hP 0 rfl rfl 13 (by decide) (ht _ tb_644) (fun _ h9 => h9) rfl d_MO_isBefore_83 ?_
          refine lv_iload_n hx hb d_MO_isBefore_86 rfl (lv_at hl 1 rfl) ?_
          refine va_iald hx hb hK hP 10 0 rfl rfl (vp_in_nI (show j < 40 by omega) (by decide)) d_MO_isBefore_87 ?_
          refine W.eq (g2 := F0 m 88 ls [.int (ia 13 j)]) (by rw [nI_clamp (show j < 2 ^ 31 by omega)]) ?_
          refine lv_aload_n hx hb d_MO_isBefore_88 rfl (lv_at hl 0 rfl) ?_
          refine va_get (D := (dC, dI)) (ci := 5) (v := .ref (ad 13)) (C := R_MO) (T := F_MO) (N := 30) hx hb ht in_MO hown hK hP 0 rfl rfl 13 (by decide) (ht _ tb_644) (fun _ h9 => h9) rfl d_MO_isBefore_89 ?_
          refine lv_iload_n hx hb d_MO_isBefore_92 rfl (lv_at hl 2 rfl) ?_
          refine va_iald hx hb hK hP 10 0 rfl rfl (vp_in_nI (show i < 40 by omega) (by decide)) d_MO_isBefore_93 ?_
          refine W.eq (g2 := F0 m 94 ls [.int (ia 13 i), .int (ia 13 j)]) (by rw [nI_clamp (show i < 2 ^ 31 by omega)]) ?_
          refine lv_icmp_ge (tgt := 101) hx hb d_MO_isBefore_94 (by decide) (fun h94_9 => ?_) (fun h94_9 => ?_)
          · have h94_9 := h94_9
            have i94_9 := ti_le h94_9
            refine lv_iconst (v := 0) hx hb d_MO_isBefore_101 (by decide) ?_
            refine lv_goto (tgt := 115) hx hb d_MO_isBefore_102 (by decide) ?_
            exact W.zret (v := 0) hx hb hr rfl (fun t ht9 hW => ⟨0, rfl, trivial, ht9⟩) (fun q h => by cases h) d_MO_isBefore_115
          · have h94_9 := h94_9
            have i94_9 := ti_nle h94_9
            refine lv_iconst (v := 1) hx hb d_MO_isBefore_97 (by decide) ?_
            refine lv_goto (tgt := 115) hx hb d_MO_isBefore_98 (by decide) ?_
            exact W.zret (v := 1) hx hb hr rfl (fun t ht9 hW => ⟨1, rfl, trivial, ht9⟩) (fun q h => by cases h) d_MO_isBefore_115
      · have h43_6 := h43_6
        have i43_6 := ti_ne h43_6
        refine lv_aload_n hx hb d_MO_isBefore_46 rfl (lv_at hl 0 rfl) ?_
        refine va_get (D := (dC, dI)) (ci := 5) (v := .ref (ad 8)) (C := R_MO) (T := F_MO) (N := 30) hx hb ht in_MO hown hK hP 0 rfl rfl 8 (by decide) (ht _ tb_639) (fun _ h9 => h9) rfl d_MO_isBefore_47 ?_
        refine lv_iload_n hx hb d_MO_isBefore_50 rfl (lv_at hl 1 rfl) ?_
        refine va_iald hx hb hK hP 5 0 rfl rfl (vp_in_nI (show j < 40 by omega) (by decide)) d_MO_isBefore_51 ?_
        refine W.eq (g2 := F0 m 52 ls [.int (ia 8 j)]) (by rw [nI_clamp (show j < 2 ^ 31 by omega)]) ?_
        refine lv_aload_n hx hb d_MO_isBefore_52 rfl (lv_at hl 0 rfl) ?_
        refine va_get (D := (dC, dI)) (ci := 5) (v := .ref (ad 8)) (C := R_MO) (T := F_MO) (N := 30) hx hb ht in_MO hown hK hP 0 rfl rfl 8 (by decide) (ht _ tb_639) (fun _ h9 => h9) rfl d_MO_isBefore_53 ?_
        refine lv_iload_n hx hb d_MO_isBefore_56 rfl (lv_at hl 2 rfl) ?_
        refine va_iald hx hb hK hP 5 0 rfl rfl (vp_in_nI (show i < 40 by omega) (by decide)) d_MO_isBefore_57 ?_
        refine W.eq (g2 := F0 m 58 ls [.int (ia 8 i), .int (ia 8 j)]) (by rw [nI_clamp (show i < 2 ^ 31 by omega)]) ?_
        refine lv_icmp_ge (tgt := 65) hx hb d_MO_isBefore_58 (by decide) (fun h58_10 => ?_) (fun h58_10 => ?_)
        · have h58_10 := h58_10
          have i58_10 := ti_le h58_10
          refine lv_iconst (v := 0) hx hb d_MO_isBefore_65 (by decide) ?_
          exact W.zret (v := 0) hx hb hr rfl (fun t ht9 hW => ⟨0, rfl, trivial, ht9⟩) (fun q h => by cases h) d_MO_isBefore_66
        · have h58_10 := h58_10
          have i58_10 := ti_nle h58_10
          refine lv_iconst (v := 1) hx hb d_MO_isBefore_61 (by decide) ?_
          refine lv_goto (tgt := 66) hx hb d_MO_isBefore_62 (by decide) ?_
          exact W.zret (v := 1) hx hb hr rfl (fun t ht9 hW => ⟨1, rfl, trivial, ht9⟩) (fun q h => by cases h) d_MO_isBefore_66
  · have h12_1 := h12_1
    have i12_1 := ti_ne h12_1
    refine lv_aload_n hx hb d_MO_isBefore_15 rfl (lv_at hl 0 rfl) ?_
    refine va_get (D := (dC, dI)) (ci := 5) (v := .ref (ad 16)) (C := R_MO) (T := F_MO) (N := 30) hx hb ht in_MO hown hK hP 0 rfl rfl 16 (by decide) (ht _ tb_647) (fun _ h9 => h9) rfl d_MO_isBefore_16 ?_
    refine lv_iload_n hx hb d_MO_isBefore_19 rfl (lv_at hl 1 rfl) ?_
    refine va_zald hx hb hK hP 13 1 rfl rfl (vp_in_nI (show j < 40 by omega) (by decide)) d_MO_isBefore_20 ?_
    refine W.eq (g2 := F0 m 21 ls [.int (ia 16 j)]) (by rw [nI_clamp (show j < 2 ^ 31 by omega)]) ?_
    exact tz_ret (v := ia 16 j) hx hb hr (fun t ht9 hW => ⟨(ia 16 j) &&& 1, rfl, trivial, ht9⟩) (fun q h => by cases h) d_MO_isBefore_21
set_option maxHeartbeats 8000000 in
set_option maxRecDepth 100000 in
theorem t_MO_eraseOne (l : Launch) (dC : Nat → ClassId) (dI : Nat → Nat → Nat) (g0 : Nat) (ad : Nat → Nat) (kI kZ : ClassId) (sc : Nat → Int32) (ia : Nat → Nat → Int32) (sz Bd : Nat) (j : Nat) (hj : j < 40) (hf : ia 11 j = 2) : Met l y_MO_eraseOne w_MO_eraseOne ({ frames := 1, cells := 0, slots := 0, locals := 23 }) (frP (dC, dI) (MOW g0 ad kI kZ sc ia) (MOT kI kZ) sz Bd [.ref g0, .int (nI j)]) (tQ (dC, dI) (mW g0 ad kI kZ) (va_A (MOW g0 ad kI kZ sc ia) sz) vI (fun r u => same [] sc u.1 ∧ same [11, 15, 16, 17, 19, 20] ia u.2 ∧ stE (ia 11) (u.2 11))) 0 0 (va_A (MOW g0 ad kI kZ sc ia) sz) := by
  refine Met.ofW (cc := c_MO_eraseOne) (maxL := 4) (ret := (some .int)) (by decide) rfl ?_
  intro p e s m args below meth c s₁ B hml hv
  obtain ⟨rfl, ⟨hsz, hBs⟩, hP, hK, hD0, hV⟩ := hv
  have hx := B.exec
  have hb := B.bytes
  have hr := B.returns
  have ht : ∀ w ∈ tb_, w.before _ s = true := fun w h => atoms_spec (ws := w_MO_eraseOne) B.pre w (List.mem_cons_of_mem _ h)
  have hown : s.vm.findClass R_MO = some m.cls := findClass_of_methodNamed B.named
  have hlocks := B.notSynchronized
  subst hsz
  have hD := hD0.self (sz := s.heap.size)
  have hAB : ∀ q, va_A (MOW g0 ad kI kZ sc ia) s.heap.size q → Bd ≤ q := fr_AB hD0 hBs
  generalize hAe : va_A (MOW g0 ad kI kZ sc ia) s.heap.size = A at hD hAB ⊢
  have hA : ∀ q : Nat, s.heap.size ≤ q → A q := fun q h => by rw [← hAe]; exact Or.inr h
  have hS : va_S A s.heap s.heap [] := va_S.rf
  have hs : same [] sc sc := same.rf
  have hi : same [11, 15, 16, 17, 19, 20] ia ia := same.rf
  have hP : va_P (dC, dI) cls_ (MOW g0 ad kI kZ sc ia) s.heap := hP
  have hl := lv_entry ([.ref g0, .int (nI j)]) (n := 4) (Nat.le_of_ble_eq_true rfl)
  rw [lg_entry_eq]
  generalize (lg_sl ([.ref g0, .int (nI j)]) ++ List.replicate (4 - (lg_sl ([.ref g0, .int (nI j)])).length) Slot.unset).toArray = ls at hl ⊢
  have hl : lv_has ls 4 [(0, .ref g0), (1, .int (nI j))] := hl
  refine lv_aload_n hx hb d_MO_eraseOne_0 rfl (lv_at hl 0 rfl) ?_
  refine lv_iload_n hx hb d_MO_eraseOne_1 rfl (lv_at hl 1 rfl) ?_
  refine r_call (va_runV (C := R_MO) (As := [.int (nI j)]) (rest := []) ⟨hx, hb, hml, hown, ht⟩ (t_MO_segmentsOf l dC dI g0 ad kI kZ sc ia j hj) (cwV 1 ht (gV tb_824 tb_826 ts_40 tb_5 tb_827) rfl rfl rfl (by decide +kernel) ⟨Nat.le_of_ble_eq_true rfl, Nat.le_of_ble_eq_true rfl⟩) ⟨rdP_blind, va_recv (q := (R_MO, F_MO, 30)) hK hP rfl (show (MOW g0 ad kI kZ sc ia : va_W)[0]? = some _ from rfl), rd_pre hP hK⟩ rfl rfl hl.1 rfl (lv_room (Nat.le_of_ble_eq_true rfl)) d_MO_eraseOne_2 ⟨Nat.le_of_ble_eq_true rfl, Nat.le_of_ble_eq_true rfl⟩) (fun r1 hu => ?_)
  clear hu
  refine W.eq (g2 := F0 m 5 ls [.int r1]) rfl ?_
  refine lv_istore_n hx hb d_MO_eraseOne_5 rfl hl (by decide) rfl (fun ls hl => ?_)
  have hl : lv_has ls 4 [(2, .int r1), (0, .ref g0), (1, .int (nI j))] := hl
  refine lv_aload_n hx hb d_MO_eraseOne_6 rfl (lv_at hl 1 rfl) ?_
  refine va_get (D := (dC, dI)) (ci := 5) (v := .ref (ad 11)) (C := R_MO) (T := F_MO) (N := 30) hx hb ht in_MO hown hK hP 0 rfl rfl 11 (by decide) (ht _ tb_642) (fun _ h9 => h9) rfl d_MO_eraseOne_7 ?_
  refine lv_iload_n hx hb d_MO_eraseOne_10 rfl (lv_at hl 2 rfl) ?_
  refine lv_iconst (v := 5) hx hb d_MO_eraseOne_11 (by decide) ?_
  refine va_iast hx hb hK hP hD hS 8 0 rfl rfl (vp_in_nI (show j < 40 by omega) (by decide)) d_MO_eraseOne_12 (fun H locs hP hD hS => ?_)
  rw [nI_clamp (show j < 2 ^ 31 by omega)] at hP hD
  have hP : va_P (dC, dI) cls_ (MOW g0 ad kI kZ sc (va_up ia 11 (upd (ia 11) j 5))) H := hP
  have hD : va_D A (MOW g0 ad kI kZ sc (va_up ia 11 (upd (ia 11) j 5))) := hD
  obtain ⟨ia2, eia2⟩ : ∃ q9_, q9_ = va_up ia 11 (upd (ia 11) j 5) := ⟨_, rfl⟩
  rw [← eia2] at hP hD
  have hi : same [11, 15, 16, 17, 19, 20] ia ia2 := by rw [eia2]; exact hi.up (by decide)
  refine lv_aload_n hx hb d_MO_eraseOne_13 rfl (lv_at hl 1 rfl) ?_
  refine va_get (D := (dC, dI)) (ci := 5) (v := .ref (ad 15)) (C := R_MO) (T := F_MO) (N := 30) hx hb ht in_MO hown hK hP 0 rfl rfl 15 (by decide) (ht _ tb_646) (fun _ h9 => h9) rfl d_MO_eraseOne_14 ?_
  refine lv_iload_n hx hb d_MO_eraseOne_17 rfl (lv_at hl 2 rfl) ?_
  refine lv_iconst (v := 0) hx hb d_MO_eraseOne_18 (by decide) ?_
  refine va_zast hx hb hK hP hD hS 12 1 rfl rfl (vp_in_nI (show j < 40 by omega) (by decide)) d_MO_eraseOne_19 (fun H locs hP hD hS => ?_)
  rw [nI_clamp (show j < 2 ^ 31 by omega)] at hP hD
  have hP : va_P (dC, dI) cls_ (MOW g0 ad kI kZ sc (va_up ia2 15 (upd (ia2 15) j (vp_nar .boolean 0)))) H := hP
  have hD : va_D A (MOW g0 ad kI kZ sc (va_up ia2 15 (upd (ia2 15) j (vp_nar .boolean 0)))) := hD
  obtain ⟨ia3, eia3⟩ : ∃ q9_, q9_ = va_up ia2 15 (upd (ia2 15) j (vp_nar .boolean 0)) := ⟨_, rfl⟩
  rw [← eia3] at hP hD
  have hi : same [11, 15, 16, 17, 19, 20] ia ia3 := by rw [eia3]; exact hi.up (by decide)
  refine lv_aload_n hx hb d_MO_eraseOne_20 rfl (lv_at hl 1 rfl) ?_
  refine va_get (D := (dC, dI)) (ci := 5) (v := .ref (ad 16)) (C := R_MO) (T := F_MO) (N := 30) hx hb ht in_MO hown hK hP 0 rfl rfl 16 (by decide) (ht _ tb_647) (fun _ h9 => h9) rfl d_MO_eraseOne_21 ?_
  refine lv_iload_n hx hb d_MO_eraseOne_24 rfl (lv_at hl 2 rfl) ?_
  refine lv_iconst (v := 0) hx hb d_MO_eraseOne_25 (by decide) ?_
  refine va_zast hx hb hK hP hD hS 13 1 rfl rfl (vp_in_nI (show j < 40 by omega) (by decide)) d_MO_eraseOne_26 (fun H locs hP hD hS => ?_)
  rw [nI_clamp (show j < 2 ^ 31 by omega)] at hP hD
  have hP : va_P (dC, dI) cls_ (MOW g0 ad kI kZ sc (va_up ia3 16 (upd (ia3 16) j (vp_nar .boolean 0)))) H := hP
  have hD : va_D A (MOW g0 ad kI kZ sc (va_up ia3 16 (upd (ia3 16) j (vp_nar .boolean 0)))) := hD
  obtain ⟨ia4, eia4⟩ : ∃ q9_, q9_ = va_up ia3 16 (upd (ia3 16) j (vp_nar .boolean 0)) := ⟨_, rfl⟩
  rw [← eia4] at hP hD
  have hi : same [11, 15, 16, 17, 19, 20] ia ia4 := by rw [eia4]; exact hi.up (by decide)
  refine lv_iconst (v := 0) hx hb d_MO_eraseOne_27 (by decide) ?_
  refine lv_istore_n hx hb d_MO_eraseOne_28 rfl hl (by decide) rfl (fun ls hl => ?_)
  have hl : lv_has ls 4 [(3, .int 0), (2, .int r1), (0, .ref g0), (1, .int (nI j))] := hl
  have J_29 : ∀ (n_29 : Nat) (k : Nat) (sc_29 : Nat → Int32) (ia_29 : Nat → Nat → Int32) (H : Heap) (locs : List Loc) (ls : Array Slot), 100 - k < n_29 → k ≤ 100 → same [] sc sc_29 → same [11, 15, 16, 17, 19, 20] ia ia_29 → stE (ia 11) (ia_29 11) → lv_has ls 4 [(3, .int (nI k)), (2, .int r1), (1, .int (nI j)), (0, .ref g0)] → va_P (dC, dI) cls_ (MOW g0 ad kI kZ sc_29 ia_29) H → va_D A (MOW g0 ad kI kZ sc_29 ia_29) → va_S A s.heap H locs → W p l e (headSpec w_MO_eraseOne ({ frames := 1, cells := 0, slots := 0, locals := 23 })).room s m (([.ref g0, .int (nI j)] : List Value).toArray) below meth c H locs 0 0 (MQ below (tQ (dC, dI) (mW g0 ad kI kZ) A vI (fun r u => same [] sc u.1 ∧ same [11, 15, 16, 17, 19, 20] ia u.2 ∧ stE (ia 11) (u.2 11))) (([.ref g0, .int (nI j)] : List Value).toArray) s 0 0 A) (F0 m 29 ls []) := by
    intro n_29
    induction n_29 with
    | zero => intro k sc_29 ia_29 H locs ls hmu hc29_0 hs hi hE hl hP hD hS; exact absurd hmu (by omega)
    | succ n_29 ih_29 =>
      intro k sc_29 ia_29 H locs ls hmu hc29_0 hs hi hE hl hP hD hS
      refine lv_iload_n hx hb d_MO_eraseOne_29 rfl (lv_at hl 0 rfl) ?_
      refine lv_bipush (v := 100) hx hb d_MO_eraseOne_30 (by decide) ?_
      refine lv_icmp_ge (tgt := 79) hx hb d_MO_eraseOne_32 (by decide) (fun h32_1 => ?_) (fun h32_1 => ?_)
      · have h32_1 := h32_1
        have i32_1 := ti_le h32_1
        (try rw [nI_toInt (show k < 2 ^ 31 by omega)] at i32_1)
        (try rw [l_100] at i32_1)
        refine lv_iload_n hx hb d_MO_eraseOne_79 rfl (lv_at hl 1 rfl) ?_
        have hz0 : stE (ia 11) (ia_29 11) := hE
        exact W.iret (v := r1) hx hb hr (fun t ht9 hW => ⟨⟨r1, (sc_29, ia_29), rfl, ⟨hs, hi, hz0⟩, by rw [ht9]; exact hP, hD⟩, hS.F ht9⟩) hS.2.2 d_MO_eraseOne_80
      · have h32_1 := h32_1
        have i32_1 := ti_nle h32_1
        (try rw [nI_toInt (show k < 2 ^ 31 by omega)] at i32_1)
        (try rw [l_100] at i32_1)
        refine lv_aload_n hx hb d_MO_eraseOne_35 rfl (lv_at hl 3 rfl) ?_
        refine va_get (D := (dC, dI)) (ci := 5) (v := .ref (ad 17)) (C := R_MO) (T := F_MO) (N := 30) hx hb ht in_MO hown hK hP 0 rfl rfl 17 (by decide) (ht _ tb_648) (fun _ h9 => h9) rfl d_MO_eraseOne_36 ?_
        refine lv_bipush (v := 100) hx hb d_MO_eraseOne_39 (by decide) ?_
        refine lv_iload_n hx hb d_MO_eraseOne_41 rfl (lv_at hl 2 rfl) ?_
        refine lv_imul hx hb d_MO_eraseOne_42 ?_
        refine lv_topi (fun v5 ev5 => ?_)
        obtain rfl : v5 = nI (100 * j) := ev5.trans (by rw [show (100 : Int32) = nI 100 from rfl, pk_mul])
        refine lv_iload_n hx hb d_MO_eraseOne_43 rfl (lv_at hl 0 rfl) ?_
        refine lv_iadd hx hb d_MO_eraseOne_44 ?_
        refine lv_topi (fun v6 ev6 => ?_)
        obtain rfl : v6 = nI ((100 * j) + k) := ev6.trans (by rw [nI_add])
        refine lv_iconst (v := 0) hx hb d_MO_eraseOne_45 (by decide) ?_
        refine va_zast hx hb hK hP hD hS 14 1 rfl rfl (vp_in_nI (show (100 * j) + k < 4000 by omega) (by decide)) d_MO_eraseOne_46 (fun H locs hP hD hS => ?_)
        rw [nI_clamp (show (100 * j) + k < 2 ^ 31 by omega)] at hP hD
        have hP : va_P (dC, dI) cls_ (MOW g0 ad kI kZ sc_29 (va_up ia_29 17 (upd (ia_29 17) ((100 * j) + k) (vp_nar .boolean 0)))) H := hP
        have hD : va_D A (MOW g0 ad kI kZ sc_29 (va_up ia_29 17 (upd (ia_29 17) ((100 * j) + k) (vp_nar .boolean 0)))) := hD
        obtain ⟨ia7, eia7⟩ : ∃ q9_, q9_ = va_up ia_29 17 (upd (ia_29 17) ((100 * j) + k) (vp_nar .boolean 0)) := ⟨_, rfl⟩
        rw [← eia7] at hP hD
        have hi : same [11, 15, 16, 17, 19, 20] ia ia7 := by rw [eia7]; exact hi.up (by decide)
        refine lv_aload_n hx hb d_MO_eraseOne_47 rfl (lv_at hl 3 rfl) ?_
        refine va_get (D := (dC, dI)) (ci := 5) (v := .ref (ad 19)) (C := R_MO) (T := F_MO) (N := 30) hx hb ht in_MO hown hK hP 0 rfl rfl 19 (by decide) (ht _ tb_650) (fun _ h9 => h9) rfl d_MO_eraseOne_48 ?_
        refine lv_bipush (v := 100) hx hb d_MO_eraseOne_51 (by decide) ?_
        refine lv_iload_n hx hb d_MO_eraseOne_53 rfl (lv_at hl 2 rfl) ?_
        refine lv_imul hx hb d_MO_eraseOne_54 ?_
        refine lv_topi (fun v8 ev8 => ?_)
        obtain rfl : v8 = nI (100 * j) := ev8.trans (by rw [show (100 : Int32) = nI 100 from rfl, pk_mul])
        refine lv_iload_n hx hb d_MO_eraseOne_55 rfl (lv_at hl 0 rfl) ?_
        refine lv_iadd hx hb d_MO_eraseOne_56 ?_
        refine lv_topi (fun v9 ev9 => ?_)
        obtain rfl : v9 = nI ((100 * j) + k) := ev9.trans (by rw [nI_add])
        refine lv_iconst (v := 0) hx hb d_MO_eraseOne_57 (by decide) ?_
        refine va_zast hx hb hK hP hD hS 16 1 rfl rfl (vp_in_nI (show (100 * j) + k < 4000 by omega) (by decide)) d_MO_eraseOne_58 (fun H locs hP hD hS => ?_)
        rw [nI_clamp (show (100 * j) + k < 2 ^ 31 by omega)] at hP hD
        have hP : va_P (dC, dI) cls_ (MOW g0 ad kI kZ sc_29 (va_up ia7 19 (upd (ia7 19) ((100 * j) + k) (vp_nar .boolean 0)))) H := hP
        have hD : va_D A (MOW g0 ad kI kZ sc_29 (va_up ia7 19 (upd (ia7 19) ((100 * j) + k) (vp_nar .boolean 0)))) := hD
        obtain ⟨ia10, eia10⟩ : ∃ q9_, q9_ = va_up ia7 19 (upd (ia7 19) ((100 * j) + k) (vp_nar .boolean 0)) := ⟨_, rfl⟩
        rw [← eia10] at hP hD
        have hi : same [11, 15, 16, 17, 19, 20] ia ia10 := by rw [eia10]; exact hi.up (by decide)
        refine lv_aload_n hx hb d_MO_eraseOne_59 rfl (lv_at hl 3 rfl) ?_
        refine va_get (D := (dC, dI)) (ci := 5) (v := .ref (ad 20)) (C := R_MO) (T := F_MO) (N := 30) hx hb ht in_MO hown hK hP 0 rfl rfl 20 (by decide) (ht _ tb_651) (fun _ h9 => h9) rfl d_MO_eraseOne_60 ?_
        refine lv_bipush (v := 25) hx hb d_MO_eraseOne_63 (by decide) ?_
        refine lv_iload_n hx hb d_MO_eraseOne_65 rfl (lv_at hl 2 rfl) ?_
        refine lv_imul hx hb d_MO_eraseOne_66 ?_
        refine lv_topi (fun v11 ev11 => ?_)
        obtain rfl : v11 = nI (25 * j) := ev11.trans (by rw [show (25 : Int32) = nI 25 from rfl, pk_mul])
        refine lv_iload_n hx hb d_MO_eraseOne_67 rfl (lv_at hl 0 rfl) ?_
        refine lv_iconst (v := 4) hx hb d_MO_eraseOne_68 (by decide) ?_
        refine lv_idiv hx hb d_MO_eraseOne_69 (by decide) ?_
        refine lv_topi (fun v12 ev12 => ?_)
        obtain rfl : v12 = nI (k / 4) := ev12.trans (by rw [show (4 : Int32) = nI 4 from rfl, pk_div (show k < 2 ^ 31 by omega) (by decide) (by decide)])
        refine lv_iadd hx hb d_MO_eraseOne_70 ?_
        refine lv_topi (fun v13 ev13 => ?_)
        obtain rfl : v13 = nI ((25 * j) + (k / 4)) := ev13.trans (by rw [nI_add])
        refine lv_iconst (v := 0) hx hb d_MO_eraseOne_71 (by decide) ?_
        refine va_zast hx hb hK hP hD hS 17 1 rfl rfl (vp_in_nI (show (25 * j) + (k / 4) < 1000 by omega) (by decide)) d_MO_eraseOne_72 (fun H locs hP hD hS => ?_)
        rw [nI_clamp (show (25 * j) + (k / 4) < 2 ^ 31 by omega)] at hP hD
        have hP : va_P (dC, dI) cls_ (MOW g0 ad kI kZ sc_29 (va_up ia10 20 (upd (ia10 20) ((25 * j) + (k / 4)) (vp_nar .boolean 0)))) H := hP
        have hD : va_D A (MOW g0 ad kI kZ sc_29 (va_up ia10 20 (upd (ia10 20) ((25 * j) + (k / 4)) (vp_nar .boolean 0)))) := hD
        obtain ⟨ia14, eia14⟩ : ∃ q9_, q9_ = va_up ia10 20 (upd (ia10 20) ((25 * j) + (k / 4)) (vp_nar .boolean 0)) := ⟨_, rfl⟩
        rw [← eia14] at hP hD
        have hi : same [11, 15, 16, 17, 19, 20] ia ia14 := by rw [eia14]; exact hi.up (by decide)
        refine lv_iinc (k := 0) (v := nI (k + 1)) hx hb d_MO_eraseOne_73 hl rfl ((nI_succ k).symm) (by decide) rfl (fun ls hl => ?_)
        have hl : lv_has ls 4 [(3, .int (nI (k + 1))), (2, .int r1), (1, .int (nI j)), (0, .ref g0)] := hl
        refine lv_goto (tgt := 29) hx hb d_MO_eraseOne_76 (by decide) ?_
        exact ih_29 (k + 1) sc_29 ia14 H _ ls (by omega) (by omega) hs hi (show stE (ia 11) (ia14 11) from by rw [show ia14 11 = ia_29 11 by rw [eia14, eia10, eia7]; rfl]; exact hE) hl hP hD hS
  have hl := lv_sub hl [0, 1, 3, 2] (l' := [(3, .int 0), (2, .int r1), (1, .int (nI j)), (0, .ref g0)]) rfl
  have hl : lv_has ls 4 [(3, .int (nI 0)), (2, .int r1), (1, .int (nI j)), (0, .ref g0)] := hl
  exact J_29 ((100 - 0) + 1) 0 sc ia4 H _ ls (by omega) (by omega) hs hi (show stE (ia 11) (ia4 11) from by rw [show ia4 11 = upd (ia 11) j 5 by rw [eia4, eia3, eia2]; rfl]; exact stE.up hf) hl hP hD hS
set_option maxHeartbeats 8000000 in
set_option maxRecDepth 100000 in
theorem t_MO_makeRoom (l : Launch) (dC : Nat → ClassId) (dI : Nat → Nat → Nat) (g0 : Nat) (ad : Nat → Nat) (kI kZ : ClassId) (sc : Nat → Int32) (ia : Nat → Nat → Int32) (sz Bd : Nat) (N : Nat) (e4 : sc 4 = nI N) (hN : N ≤ 40) : Met l y_MO_makeRoom w_MO_makeRoom ({ frames := 2, cells := 0, slots := 0, locals := 46 }) (frP (dC, dI) (MOW g0 ad kI kZ sc ia) (MOT kI kZ) sz Bd [.ref g0]) (tQ (dC, dI) (mW g0 ad kI kZ) (va_A (MOW g0 ad kI kZ sc ia) sz) vN (fun r u => same [] sc u.1 ∧ same [11, 15, 16, 17, 19, 20] ia u.2 ∧ stE (ia 11) (u.2 11))) 0 0 (va_A (MOW g0 ad kI kZ sc ia) sz) := by
  refine Met.ofW (cc := c_MO_makeRoom) (maxL := 4) (ret := none) (by decide) rfl ?_
  intro p e s m args below meth c s₁ B hml hv
  obtain ⟨rfl, ⟨hsz, hBs⟩, hP, hK, hD0, hV⟩ := hv
  have hx := B.exec
  have hb := B.bytes
  have hr := B.returns
  have ht : ∀ w ∈ tb_, w.before _ s = true := fun w h => atoms_spec (ws := w_MO_makeRoom) B.pre w (List.mem_cons_of_mem _ h)
  have hown : s.vm.findClass R_MO = some m.cls := findClass_of_methodNamed B.named
  have hlocks := B.notSynchronized
  subst hsz
  have hD := hD0.self (sz := s.heap.size)
  have hAB : ∀ q, va_A (MOW g0 ad kI kZ sc ia) s.heap.size q → Bd ≤ q := fr_AB hD0 hBs
  generalize hAe : va_A (MOW g0 ad kI kZ sc ia) s.heap.size = A at hD hAB ⊢
  have hA : ∀ q : Nat, s.heap.size ≤ q → A q := fun q h => by rw [← hAe]; exact Or.inr h
  have hS : va_S A s.heap s.heap [] := va_S.rf
  have hs : same [] sc sc := same.rf
  have hi : same [11, 15, 16, 17, 19, 20] ia ia := same.rf
  have hP : va_P (dC, dI) cls_ (MOW g0 ad kI kZ sc ia) s.heap := hP
  have hl := lv_entry ([.ref g0]) (n := 4) (Nat.le_of_ble_eq_true rfl)
  rw [lg_entry_eq]
  generalize (lg_sl ([.ref g0]) ++ List.replicate (4 - (lg_sl ([.ref g0])).length) Slot.unset).toArray = ls at hl ⊢
  have hl : lv_has ls 4 [(0, .ref g0)] := hl
  refine lv_iconst (v := -1) hx hb d_MO_makeRoom_0 (by decide) ?_
  refine lv_istore_n hx hb d_MO_makeRoom_1 rfl hl (by decide) rfl (fun ls hl => ?_)
  have hl : lv_has ls 4 [(1, .int (-1)), (0, .ref g0)] := hl
  refine lv_iconst (v := 0) hx hb d_MO_makeRoom_2 (by decide) ?_
  refine lv_istore_n hx hb d_MO_makeRoom_3 rfl hl (by decide) rfl (fun ls hl => ?_)
  have hl : lv_has ls 4 [(2, .int 0), (1, .int (-1)), (0, .ref g0)] := hl
  have J_4 : ∀ (n_4 : Nat) (k : Nat) (b : Int32)  (H : Heap) (locs : List Loc) (ls : Array Slot), N - k < n_4 → k ≤ N → mrB N (ia 11) b → lv_has ls 4 [(2, .int (nI k)), (1, .int b), (0, .ref g0)] → va_P (dC, dI) cls_ (MOW g0 ad kI kZ sc ia) H → va_D A (MOW g0 ad kI kZ sc ia) → va_S A s.heap H locs → W p l e (headSpec w_MO_makeRoom ({ frames := 2, cells := 0, slots := 0, locals := 46 })).room s m (([.ref g0] : List Value).toArray) below meth c H locs 0 0 (MQ below (tQ (dC, dI) (mW g0 ad kI kZ) A vN (fun r u => same [] sc u.1 ∧ same [11, 15, 16, 17, 19, 20] ia u.2 ∧ stE (ia 11) (u.2 11))) (([.ref g0] : List Value).toArray) s 0 0 A) (F0 m 4 ls []) := by
    intro n_4
    induction n_4 with
    | zero => intro k b H locs ls hmu hc4_0 hc4_1 hl hP hD hS; exact absurd hmu (by omega)
    | succ n_4 ih_4 =>
      intro k b H locs ls hmu hc4_0 hc4_1 hl hP hD hS
      refine lv_iload_n hx hb d_MO_makeRoom_4 rfl (lv_at hl 0 rfl) ?_
      refine lv_aload_n hx hb d_MO_makeRoom_5 rfl (lv_at hl 2 rfl) ?_
      refine va_get (D := (dC, dI)) (ci := 5) (v := .int (sc 4)) (C := R_MO) (T := F_MO) (N := 30) hx hb ht in_MO hown hK hP 0 rfl rfl 4 (by decide) (ht _ tb_635) (fun _ h9 => h9) rfl d_MO_makeRoom_6 ?_
      refine W.eq (g2 := F0 m 9 ls [.int (nI N), .int (nI k)]) (by rw [show sc 4 = nI N from (hs 4 (by decide)).trans e4]) ?_
      refine lv_icmp_ge (tgt := 74) hx hb d_MO_makeRoom_9 (by decide) (fun h9_1 => ?_) (fun h9_1 => ?_)
      · have h9_1 := h9_1
        have i9_1 := ti_le h9_1
        (try rw [nI_toInt (show k < 2 ^ 31 by omega)] at i9_1)
        (try rw [nI_toInt (show N < 2 ^ 31 by omega)] at i9_1)
        refine lv_iload_n hx hb d_MO_makeRoom_74 rfl (lv_at hl 1 rfl) ?_
        refine lv_if_lt (tgt := 84) hx hb d_MO_makeRoom_75 (by decide) (fun h75_2 => ?_) (fun h75_2 => ?_)
        · have h75_2 := h75_2
          have i75_2 := ti_lt h75_2
          (try rw [l_0] at i75_2)
          have hz0 : stE (ia 11) (ia 11) := stE.rf
          exact W.vret hx hb hr (fun t ht9 hW => ⟨⟨(), (sc, ia), rfl, ⟨hs, hi, hz0⟩, by rw [ht9]; exact hP, hD⟩, hS.F ht9⟩) hS.2.2 d_MO_makeRoom_84
        · have h75_2 := h75_2
          have i75_2 := ti_nlt h75_2
          (try rw [l_0] at i75_2)
          obtain ⟨t, ht9, rfl, hs2⟩ : ∃ t, t < N ∧ b = nI t ∧ ia 11 t = 2 := hc4_1.resolve_left (by omega)
          refine lv_aload_n hx hb d_MO_makeRoom_78 rfl (lv_at hl 2 rfl) ?_
          refine lv_iload_n hx hb d_MO_makeRoom_79 rfl (lv_at hl 1 rfl) ?_
          refine t_call (u0 := (sc, ia)) (va_runV (C := R_MO) (As := [.int (nI t)]) (rest := []) ⟨hx, hb, hml, hown, ht⟩ (t_MO_eraseOne l dC dI g0 ad kI kZ sc ia H.size Bd t (by omega) hs2) (cwV 1 ht (gV tb_836 tb_838 ts_43 tb_5 tb_839) rfl rfl rfl (by decide +kernel) ⟨Nat.le_of_ble_eq_true rfl, Nat.le_of_ble_eq_true rfl⟩) ⟨frP_blind, va_recv (q := (R_MO, F_MO, 30)) hK hP rfl (show (MOW g0 ad kI kZ sc ia : va_W)[0]? = some _ from rfl), fr_pre hP hK hD hAB hBs hS hV⟩ rfl rfl hl.1 rfl (lv_room (Nat.le_of_ble_eq_true rfl)) d_MO_makeRoom_80 ⟨Nat.le_of_ble_eq_true rfl, Nat.le_of_ble_eq_true rfl⟩) hD hS hA (fun r1 u H locs hu hP hD hS => ?_)
          obtain ⟨sc2, ia3⟩ := u
          obtain ⟨hu1_0, hu1_1, hu1_2⟩ := hu
          have hu1_0 : same [] sc sc2 := hu1_0
          have hu1_1 : same [11, 15, 16, 17, 19, 20] ia ia3 := hu1_1
          have hu1_2 : stE (ia 11) (ia3 11) := hu1_2
          have hP : va_P (dC, dI) cls_ (MOW g0 ad kI kZ sc2 ia3) H := hP
          have hD : va_D A (MOW g0 ad kI kZ sc2 ia3) := hD
          have hs : same [] sc sc2 := hs.tr (hu1_0.wk (by decide))
          have hi : same [11, 15, 16, 17, 19, 20] ia ia3 := hi.tr (hu1_1.wk (by decide))
          refine W.eq (g2 := F0 m 83 ls [.int r1]) rfl ?_
          refine W.cs (cells' := 0) (slots' := 0) rfl rfl ?_
          refine lv_pop hx hb d_MO_makeRoom_83 rfl ?_
          have hz0 : stE (ia 11) (ia3 11) := hu1_2
          exact W.vret hx hb hr (fun t ht9 hW => ⟨⟨(), (sc2, ia3), rfl, ⟨hs, hi, hz0⟩, by rw [ht9]; exact hP, hD⟩, hS.F ht9⟩) hS.2.2 d_MO_makeRoom_84
      · have h9_1 := h9_1
        have i9_1 := ti_nle h9_1
        (try rw [nI_toInt (show k < 2 ^ 31 by omega)] at i9_1)
        (try rw [nI_toInt (show N < 2 ^ 31 by omega)] at i9_1)
        refine lv_aload_n hx hb d_MO_makeRoom_12 rfl (lv_at hl 2 rfl) ?_
        refine va_get (D := (dC, dI)) (ci := 5) (v := .ref (ad 11)) (C := R_MO) (T := F_MO) (N := 30) hx hb ht in_MO hown hK hP 0 rfl rfl 11 (by decide) (ht _ tb_642) (fun _ h9 => h9) rfl d_MO_makeRoom_13 ?_
        refine lv_iload_n hx hb d_MO_makeRoom_16 rfl (lv_at hl 0 rfl) ?_
        refine va_iald hx hb hK hP 8 0 rfl rfl (vp_in_nI (show k < 40 by omega) (by decide)) d_MO_makeRoom_17 ?_
        refine W.eq (g2 := F0 m 18 ls [.int (ia 11 k)]) (by rw [nI_clamp (show k < 2 ^ 31 by omega)]) ?_
        refine lv_iconst (v := 2) hx hb d_MO_makeRoom_18 (by decide) ?_
        refine lv_icmp_ne (tgt := 43) hx hb d_MO_makeRoom_19 (by decide) (fun h19_3 => ?_) (fun h19_3 => ?_)
        · have h19_3 := h19_3
          have i19_3 := ti_ne h19_3
          (try rw [l_2] at i19_3)
          refine lv_iconst (v := 0) hx hb d_MO_makeRoom_43 (by decide) ?_
          refine lv_istore_n hx hb d_MO_makeRoom_44 rfl hl (by decide) rfl (fun ls hl => ?_)
          have hl : lv_has ls 4 [(3, .int 0), (2, .int (nI k)), (1, .int b), (0, .ref g0)] := hl
          refine lv_iload_n hx hb d_MO_makeRoom_45 rfl (lv_at hl 0 rfl) ?_
          refine lv_if_eq (tgt := 66) hx hb d_MO_makeRoom_46 (by decide) (fun _ => ?_) (fun h9 => absurd (by decide) h9)
          refine lv_iload_n hx hb d_MO_makeRoom_66 rfl (lv_at hl 2 rfl) ?_
          refine lv_istore_n hx hb d_MO_makeRoom_67 rfl hl (by decide) rfl (fun ls hl => ?_)
          have hl : lv_has ls 4 [(1, .int b), (3, .int 0), (2, .int (nI k)), (0, .ref g0)] := hl
          refine lv_iinc (k := 2) (v := nI (k + 1)) hx hb d_MO_makeRoom_68 hl rfl ((nI_succ k).symm) (by decide) rfl (fun ls hl => ?_)
          have hl : lv_has ls 4 [(2, .int (nI (k + 1))), (1, .int b), (3, .int 0), (0, .ref g0)] := hl
          refine lv_goto (tgt := 4) hx hb d_MO_makeRoom_71 (by decide) ?_
          have hl := lv_sub hl [0, 1, 3] (l' := [(2, .int (nI (k + 1))), (1, .int b), (0, .ref g0)]) rfl
          exact ih_4 (k + 1) b H _ ls (by omega) (by omega) (hc4_1) hl hP hD hS
        · have h19_3 := h19_3
          have i19_3 := ti_eq h19_3
          (try rw [l_2] at i19_3)
          refine lv_aload_n hx hb d_MO_makeRoom_22 rfl (lv_at hl 2 rfl) ?_
          refine va_get (D := (dC, dI)) (ci := 5) (v := .ref (ad 15)) (C := R_MO) (T := F_MO) (N := 30) hx hb ht in_MO hown hK hP 0 rfl rfl 15 (by decide) (ht _ tb_646) (fun _ h9 => h9) rfl d_MO_makeRoom_23 ?_
          refine lv_iload_n hx hb d_MO_makeRoom_26 rfl (lv_at hl 0 rfl) ?_
          refine va_zald hx hb hK hP 12 1 rfl rfl (vp_in_nI (show k < 40 by omega) (by decide)) d_MO_makeRoom_27 ?_
          refine W.eq (g2 := F0 m 28 ls [.int (ia 15 k)]) (by rw [nI_clamp (show k < 2 ^ 31 by omega)]) ?_
          refine lv_if_ne (tgt := 43) hx hb d_MO_makeRoom_28 (by decide) (fun h28_4 => ?_) (fun h28_4 => ?_)
          · have h28_4 := h28_4
            have i28_4 := ti_ne h28_4
            (try rw [l_0] at i28_4)
            refine lv_iconst (v := 0) hx hb d_MO_makeRoom_43 (by decide) ?_
            refine lv_istore_n hx hb d_MO_makeRoom_44 rfl hl (by decide) rfl (fun ls hl => ?_)
            have hl : lv_has ls 4 [(3, .int 0), (2, .int (nI k)), (1, .int b), (0, .ref g0)] := hl
            refine lv_iload_n hx hb d_MO_makeRoom_45 rfl (lv_at hl 0 rfl) ?_
            refine lv_if_eq (tgt := 66) hx hb d_MO_makeRoom_46 (by decide) (fun _ => ?_) (fun h9 => absurd (by decide) h9)
            refine lv_iload_n hx hb d_MO_makeRoom_66 rfl (lv_at hl 2 rfl) ?_
            refine lv_istore_n hx hb d_MO_makeRoom_67 rfl hl (by decide) rfl (fun ls hl => ?_)
            have hl : lv_has ls 4 [(1, .int b), (3, .int 0), (2, .int (nI k)), (0, .ref g0)] := hl
            refine lv_iinc (k := 2) (v := nI (k + 1)) hx hb d_MO_makeRoom_68 hl rfl ((nI_succ k).symm) (by decide) rfl (fun ls hl => ?_)
            have hl : lv_has ls 4 [(2, .int (nI (k + 1))), (1, .int b), (3, .int 0), (0, .ref g0)] := hl
            refine lv_goto (tgt := 4) hx hb d_MO_makeRoom_71 (by decide) ?_
            have hl := lv_sub hl [0, 1, 3] (l' := [(2, .int (nI (k + 1))), (1, .int b), (0, .ref g0)]) rfl
            exact ih_4 (k + 1) b H _ ls (by omega) (by omega) (hc4_1) hl hP hD hS
          · have h28_4 := h28_4
            have i28_4 := ti_eq h28_4
            (try rw [l_0] at i28_4)
            refine lv_aload_n hx hb d_MO_makeRoom_31 rfl (lv_at hl 2 rfl) ?_
            refine lv_iload_n hx hb d_MO_makeRoom_32 rfl (lv_at hl 0 rfl) ?_
            refine r_call (va_runV (C := R_MO) (As := [.int (nI k)]) (rest := []) ⟨hx, hb, hml, hown, ht⟩ (t_MO_segmentsOf l dC dI g0 ad kI kZ sc ia k (by omega)) (cwV 1 ht (gV tb_824 tb_826 ts_40 tb_5 tb_827) rfl rfl rfl (by decide +kernel) ⟨Nat.le_of_ble_eq_true rfl, Nat.le_of_ble_eq_true rfl⟩) ⟨rdP_blind, va_recv (q := (R_MO, F_MO, 30)) hK hP rfl (show (MOW g0 ad kI kZ sc ia : va_W)[0]? = some _ from rfl), rd_pre hP hK⟩ rfl rfl hl.1 rfl (lv_room (Nat.le_of_ble_eq_true rfl)) d_MO_makeRoom_33 ⟨Nat.le_of_ble_eq_true rfl, Nat.le_of_ble_eq_true rfl⟩) (fun r4 hu => ?_)
            clear hu
            refine W.eq (g2 := F0 m 36 ls [.int r4]) rfl ?_
            refine lv_if_le (tgt := 43) hx hb d_MO_makeRoom_36 (by decide) (fun h36_5 => ?_) (fun h36_5 => ?_)
            · have h36_5 := h36_5
              have i36_5 := ti_le h36_5
              (try rw [l_0] at i36_5)
              refine lv_iconst (v := 0) hx hb d_MO_makeRoom_43 (by decide) ?_
              refine lv_istore_n hx hb d_MO_makeRoom_44 rfl hl (by decide) rfl (fun ls hl => ?_)
              have hl : lv_has ls 4 [(3, .int 0), (2, .int (nI k)), (1, .int b), (0, .ref g0)] := hl
              refine lv_iload_n hx hb d_MO_makeRoom_45 rfl (lv_at hl 0 rfl) ?_
              refine lv_if_eq (tgt := 66) hx hb d_MO_makeRoom_46 (by decide) (fun _ => ?_) (fun h9 => absurd (by decide) h9)
              refine lv_iload_n hx hb d_MO_makeRoom_66 rfl (lv_at hl 2 rfl) ?_
              refine lv_istore_n hx hb d_MO_makeRoom_67 rfl hl (by decide) rfl (fun ls hl => ?_)
              have hl : lv_has ls 4 [(1, .int b), (3, .int 0), (2, .int (nI k)), (0, .ref g0)] := hl
              refine lv_iinc (k := 2) (v := nI (k + 1)) hx hb d_MO_makeRoom_68 hl rfl ((nI_succ k).symm) (by decide) rfl (fun ls hl => ?_)
              have hl : lv_has ls 4 [(2, .int (nI (k + 1))), (1, .int b), (3, .int 0), (0, .ref g0)] := hl
              refine lv_goto (tgt := 4) hx hb d_MO_makeRoom_71 (by decide) ?_
              have hl := lv_sub hl [0, 1, 3] (l' := [(2, .int (nI (k + 1))), (1, .int b), (0, .ref g0)]) rfl
              exact ih_4 (k + 1) b H _ ls (by omega) (by omega) (hc4_1) hl hP hD hS
            · have h36_5 := h36_5
              have i36_5 := ti_nle h36_5
              (try rw [l_0] at i36_5)
              refine lv_iconst (v := 1) hx hb d_MO_makeRoom_39 (by decide) ?_
              refine lv_goto (tgt := 44) hx hb d_MO_makeRoom_40 (by decide) ?_
              refine lv_istore_n hx hb d_MO_makeRoom_44 rfl hl (by decide) rfl (fun ls hl => ?_)
              have hl : lv_has ls 4 [(3, .int 1), (2, .int (nI k)), (1, .int b), (0, .ref g0)] := hl
              refine lv_iload_n hx hb d_MO_makeRoom_45 rfl (lv_at hl 0 rfl) ?_
              refine lv_if_eq (tgt := 66) hx hb d_MO_makeRoom_46 (by decide) (fun h9 => absurd h9 (by decide)) (fun _ => ?_)
              refine lv_iload_n hx hb d_MO_makeRoom_49 rfl (lv_at hl 2 rfl) ?_
              refine lv_if_lt (tgt := 62) hx hb d_MO_makeRoom_50 (by decide) (fun h50_6 => ?_) (fun h50_6 => ?_)
              · have h50_6 := h50_6
                have i50_6 := ti_lt h50_6
                (try rw [l_0] at i50_6)
                refine lv_iload_n hx hb d_MO_makeRoom_62 rfl (lv_at hl 1 rfl) ?_
                refine lv_goto (tgt := 67) hx hb d_MO_makeRoom_63 (by decide) ?_
                refine lv_istore_n hx hb d_MO_makeRoom_67 rfl hl (by decide) rfl (fun ls hl => ?_)
                have hl : lv_has ls 4 [(1, .int (nI k)), (3, .int 1), (2, .int (nI k)), (0, .ref g0)] := hl
                refine lv_iinc (k := 2) (v := nI (k + 1)) hx hb d_MO_makeRoom_68 hl rfl ((nI_succ k).symm) (by decide) rfl (fun ls hl => ?_)
                have hl : lv_has ls 4 [(2, .int (nI (k + 1))), (1, .int (nI k)), (3, .int 1), (0, .ref g0)] := hl
                refine lv_goto (tgt := 4) hx hb d_MO_makeRoom_71 (by decide) ?_
                have hl := lv_sub hl [0, 1, 3] (l' := [(2, .int (nI (k + 1))), (1, .int (nI k)), (0, .ref g0)]) rfl
                exact ih_4 (k + 1) (nI k) H _ ls (by omega) (by omega) (Or.inr ⟨k, by omega, rfl, h19_3⟩) hl hP hD hS
              · have h50_6 := h50_6
                have i50_6 := ti_nlt h50_6
                (try rw [l_0] at i50_6)
                obtain ⟨t, ht9, rfl, hs2⟩ : ∃ t, t < N ∧ b = nI t ∧ ia 11 t = 2 := hc4_1.resolve_left (by omega)
                refine lv_aload_n hx hb d_MO_makeRoom_53 rfl (lv_at hl 3 rfl) ?_
                refine lv_iload_n hx hb d_MO_makeRoom_54 rfl (lv_at hl 1 rfl) ?_
                refine lv_iload_n hx hb d_MO_makeRoom_55 rfl (lv_at hl 2 rfl) ?_
                refine r_call (va_runV (C := R_MO) (As := [.int (nI k), .int (nI t)]) (rest := []) ⟨hx, hb, hml, hown, ht⟩ (t_MO_isBefore l dC dI g0 ad kI kZ sc ia k (by omega) t (by omega)) (cwV 2 ht (gV tb_832 tb_834 ts_42 tb_5 tb_835) rfl rfl rfl (by decide +kernel) ⟨Nat.le_of_ble_eq_true rfl, Nat.le_of_ble_eq_true rfl⟩) ⟨rdP_blind, va_recv (q := (R_MO, F_MO, 30)) hK hP rfl (show (MOW g0 ad kI kZ sc ia : va_W)[0]? = some _ from rfl), rd_pre hP hK⟩ rfl rfl hl.1 rfl (lv_room (Nat.le_of_ble_eq_true rfl)) d_MO_makeRoom_56 ⟨Nat.le_of_ble_eq_true rfl, Nat.le_of_ble_eq_true rfl⟩) (fun r5 hu => ?_)
                clear hu
                refine W.eq (g2 := F0 m 59 ls [.int r5]) rfl ?_
                refine lv_if_eq (tgt := 66) hx hb d_MO_makeRoom_59 (by decide) (fun h59_7 => ?_) (fun h59_7 => ?_)
                · have h59_7 := h59_7
                  have i59_7 := ti_eq h59_7
                  (try rw [l_0] at i59_7)
                  refine lv_iload_n hx hb d_MO_makeRoom_66 rfl (lv_at hl 2 rfl) ?_
                  refine lv_istore_n hx hb d_MO_makeRoom_67 rfl hl (by decide) rfl (fun ls hl => ?_)
                  have hl : lv_has ls 4 [(1, .int (nI t)), (3, .int 1), (2, .int (nI k)), (0, .ref g0)] := hl
                  refine lv_iinc (k := 2) (v := nI (k + 1)) hx hb d_MO_makeRoom_68 hl rfl ((nI_succ k).symm) (by decide) rfl (fun ls hl => ?_)
                  have hl : lv_has ls 4 [(2, .int (nI (k + 1))), (1, .int (nI t)), (3, .int 1), (0, .ref g0)] := hl
                  refine lv_goto (tgt := 4) hx hb d_MO_makeRoom_71 (by decide) ?_
                  have hl := lv_sub hl [0, 1, 3] (l' := [(2, .int (nI (k + 1))), (1, .int (nI t)), (0, .ref g0)]) rfl
                  exact ih_4 (k + 1) (nI t) H _ ls (by omega) (by omega) (Or.inr ⟨t, ht9, rfl, hs2⟩) hl hP hD hS
                · have h59_7 := h59_7
                  have i59_7 := ti_ne h59_7
                  (try rw [l_0] at i59_7)
                  refine lv_iload_n hx hb d_MO_makeRoom_62 rfl (lv_at hl 1 rfl) ?_
                  refine lv_goto (tgt := 67) hx hb d_MO_makeRoom_63 (by decide) ?_
                  refine lv_istore_n hx hb d_MO_makeRoom_67 rfl hl (by decide) rfl (fun ls hl => ?_)
                  have hl : lv_has ls 4 [(1, .int (nI k)), (3, .int 1), (2, .int (nI k)), (0, .ref g0)] := hl
                  refine lv_iinc (k := 2) (v := nI (k + 1)) hx hb d_MO_makeRoom_68 hl rfl ((nI_succ k).symm) (by decide) rfl (fun ls hl => ?_)
                  have hl : lv_has ls 4 [(2, .int (nI (k + 1))), (1, .int (nI k)), (3, .int 1), (0, .ref g0)] := hl
                  refine lv_goto (tgt := 4) hx hb d_MO_makeRoom_71 (by decide) ?_
                  have hl := lv_sub hl [0, 1, 3] (l' := [(2, .int (nI (k + 1))), (1, .int (nI k)), (0, .ref g0)]) rfl
                  exact ih_4 (k + 1) (nI k) H _ ls (by omega) (by omega) (Or.inr ⟨k, by omega, rfl, h19_3⟩) hl hP hD hS
  have hl := lv_sub hl [0, 1, 2] (l' := [(2, .int 0), (1, .int (-1)), (0, .ref g0)]) rfl
  have hl : lv_has ls 4 [(2, .int (nI 0)), (1, .int (-1)), (0, .ref g0)] := hl
  exact J_4 ((N - 0) + 1) 0 (-1) s.heap _ ls (by omega) (by omega) (Or.inl (by rw [l_m1]; omega)) hl hP hD hS
set_option maxHeartbeats 8000000 in
set_option maxRecDepth 100000 in
theorem t_MO_record (l : Launch) (dC : Nat → ClassId) (dI : Nat → Nat → Nat) (g0 : Nat) (ad : Nat → Nat) (kI kZ : ClassId) (sc : Nat → Int32) (ia : Nat → Nat → Int32) (sz Bd : Nat) (T : Int) (N : Nat) (hI : MI T N sc ia) (j : Nat) (hj : j < N) (hr1 : ia 11 j = 1) : Met l y_MO_record w_MO_record ({ frames := 3, cells := 0, slots := 0, locals := 69 }) (frP (dC, dI) (MOW g0 ad kI kZ sc ia) (MOT kI kZ) sz Bd [.ref g0, .int (nI j)]) (tQ (dC, dI) (mW g0 ad kI kZ) (va_A (MOW g0 ad kI kZ sc ia) sz) vI (fun r u => same [] sc u.1 ∧ same [11, 14, 15, 16, 17, 18, 19, 20] ia u.2 ∧ stE (ia 11) (u.2 11))) 0 0 (va_A (MOW g0 ad kI kZ sc ia) sz) := by
  refine Met.ofW (cc := c_MO_record) (maxL := 4) (ret := (some .boolean)) (by decide) rfl ?_
  intro p e s m args below meth c s₁ B hml hv
  obtain ⟨rfl, ⟨hsz, hBs⟩, hP, hK, hD0, hV⟩ := hv
  have hx := B.exec
  have hb := B.bytes
  have hr := B.returns
  have ht : ∀ w ∈ tb_, w.before _ s = true := fun w h => atoms_spec (ws := w_MO_record) B.pre w (List.mem_cons_of_mem _ h)
  have hown : s.vm.findClass R_MO = some m.cls := findClass_of_methodNamed B.named
  have hlocks := B.notSynchronized
  subst hsz
  have hD := hD0.self (sz := s.heap.size)
  have hAB : ∀ q, va_A (MOW g0 ad kI kZ sc ia) s.heap.size q → Bd ≤ q := fr_AB hD0 hBs
  generalize hAe : va_A (MOW g0 ad kI kZ sc ia) s.heap.size = A at hD hAB ⊢
  have hA : ∀ q : Nat, s.heap.size ≤ q → A q := fun q h => by rw [← hAe]; exact Or.inr h
  have hS : va_S A s.heap s.heap [] := va_S.rf
  have hs : same [] sc sc := same.rf
  have hi : same [11, 14, 15, 16, 17, 18, 19, 20] ia ia := same.rf
  have hP : va_P (dC, dI) cls_ (MOW g0 ad kI kZ sc ia) s.heap := hP
  have hl := lv_entry ([.ref g0, .int (nI j)]) (n := 4) (Nat.le_of_ble_eq_true rfl)
  rw [lg_entry_eq]
  generalize (lg_sl ([.ref g0, .int (nI j)]) ++ List.replicate (4 - (lg_sl ([.ref g0, .int (nI j)])).length) Slot.unset).toArray = ls at hl ⊢
  have hl : lv_has ls 4 [(0, .ref g0), (1, .int (nI j))] := hl
  have e4 := hI.e4
  have hN := hI.hN
  have hT := hI.T
  refine lv_aload_n hx hb d_MO_record_0 rfl (lv_at hl 0 rfl) ?_
  refine va_get (D := (dC, dI)) (ci := 5) (v := .int (sc 1)) (C := R_MO) (T := F_MO) (N := 30) hx hb ht in_MO hown hK hP 0 rfl rfl 1 (by decide) (ht _ tb_632) (fun _ h9 => h9) rfl d_MO_record_1 ?_
  refine lv_aload_n hx hb d_MO_record_4 rfl (lv_at hl 0 rfl) ?_
  refine va_get (D := (dC, dI)) (ci := 5) (v := .ref (ad 12)) (C := R_MO) (T := F_MO) (N := 30) hx hb ht in_MO hown hK hP 0 rfl rfl 12 (by decide) (ht _ tb_643) (fun _ h9 => h9) rfl d_MO_record_5 ?_
  refine lv_iload_n hx hb d_MO_record_8 rfl (lv_at hl 1 rfl) ?_
  refine va_iald hx hb hK hP 9 0 rfl rfl (vp_in_nI (show j < 40 by omega) (by decide)) d_MO_record_9 ?_
  refine W.eq (g2 := F0 m 10 ls [.int (ia 12 j), .int (sc 1)]) (by rw [nI_clamp (show j < 2 ^ 31 by omega)]) ?_
  refine lv_isub hx hb d_MO_record_10 ?_
  obtain ⟨q, hq, eq⟩ : ∃ q : Nat, q < 100 ∧ sc 1 - ia 12 j = nI q := by
    obtain ⟨-, m1, m2, -, -, m3⟩ := hI.at hj
    have m4 := m3 hr1
    exact ix_q (by omega) (by omega) (by omega) (by omega) (by omega)
  refine lv_topi (fun v1 ev1 => ?_)
  obtain rfl : v1 = nI q := ev1.trans (eq)
  refine lv_istore_n hx hb d_MO_record_11 rfl hl (by decide) rfl (fun ls hl => ?_)
  have hl : lv_has ls 4 [(2, .int (nI q)), (0, .ref g0), (1, .int (nI j))] := hl
  refine lv_bipush (v := 25) hx hb d_MO_record_12 (by decide) ?_
  refine lv_iload_n hx hb d_MO_record_14 rfl (lv_at hl 2 rfl) ?_
  refine lv_imul hx hb d_MO_record_15 ?_
  refine lv_topi (fun v2 ev2 => ?_)
  obtain rfl : v2 = nI (25 * j) := ev2.trans (by rw [show (25 : Int32) = nI 25 from rfl, pk_mul])
  refine lv_iload_n hx hb d_MO_record_16 rfl (lv_at hl 0 rfl) ?_
  refine lv_iconst (v := 4) hx hb d_MO_record_17 (by decide) ?_
  refine lv_idiv hx hb d_MO_record_18 (by decide) ?_
  refine lv_topi (fun v3 ev3 => ?_)
  obtain rfl : v3 = nI (q / 4) := ev3.trans (by rw [show (4 : Int32) = nI 4 from rfl, pk_div (show q < 2 ^ 31 by omega) (by decide) (by decide)])
  refine lv_iadd hx hb d_MO_record_19 ?_
  refine lv_topi (fun v4 ev4 => ?_)
  obtain rfl : v4 = nI ((25 * j) + (q / 4)) := ev4.trans (by rw [nI_add])
  refine lv_istore_n hx hb d_MO_record_20 rfl hl (by decide) rfl (fun ls hl => ?_)
  have hl : lv_has ls 4 [(3, .int (nI ((25 * j) + (q / 4)))), (2, .int (nI q)), (0, .ref g0), (1, .int (nI j))] := hl
  have J_41 : ∀  (sc_41 : Nat → Int32) (ia_41 : Nat → Nat → Int32) (H : Heap) (locs : List Loc) (ls : Array Slot), same [] sc sc_41 → same [11, 14, 15, 16, 17, 18, 19, 20] ia ia_41 → stE (ia 11) (ia_41 11) → lv_has ls 4 [(3, .int (nI ((25 * j) + (q / 4)))), (2, .int (nI q)), (1, .int (nI j)), (0, .ref g0)] → va_P (dC, dI) cls_ (MOW g0 ad kI kZ sc_41 ia_41) H → va_D A (MOW g0 ad kI kZ sc_41 ia_41) → va_S A s.heap H locs → W p l e (headSpec w_MO_record ({ frames := 3, cells := 0, slots := 0, locals := 69 })).room s m (([.ref g0, .int (nI j)] : List Value).toArray) below meth c H locs 0 0 (MQ below (tQ (dC, dI) (mW g0 ad kI kZ) A vI (fun r u => same [] sc u.1 ∧ same [11, 14, 15, 16, 17, 18, 19, 20] ia u.2 ∧ stE (ia 11) (u.2 11))) (([.ref g0, .int (nI j)] : List Value).toArray) s 0 0 A) (F0 m 41 ls []) := by
    intro sc_41 ia_41 H locs ls hs hi hE hl hP hD hS
    refine lv_aload_n hx hb d_MO_record_41 rfl (lv_at hl 3 rfl) ?_
    refine va_get (D := (dC, dI)) (ci := 5) (v := .ref (ad 20)) (C := R_MO) (T := F_MO) (N := 30) hx hb ht in_MO hown hK hP 0 rfl rfl 20 (by decide) (ht _ tb_651) (fun _ h9 => h9) rfl d_MO_record_42 ?_
    refine lv_iload_n hx hb d_MO_record_45 rfl (lv_at hl 0 rfl) ?_
    refine va_zald hx hb hK hP 17 1 rfl rfl (vp_in_nI (show (25 * j) + (q / 4) < 1000 by omega) (by decide)) d_MO_record_46 ?_
    refine W.eq (g2 := F0 m 47 ls [.int (ia_41 20 ((25 * j) + (q / 4)))]) (by rw [nI_clamp (show (25 * j) + (q / 4) < 2 ^ 31 by omega)]) ?_
    refine lv_if_ne (tgt := 69) hx hb d_MO_record_47 (by decide) (fun h47_1 => ?_) (fun h47_1 => ?_)
    · have h47_1 := h47_1
      have i47_1 := ti_ne h47_1
      (try rw [l_0] at i47_1)
      refine lv_aload_n hx hb d_MO_record_69 rfl (lv_at hl 3 rfl) ?_
      refine va_get (D := (dC, dI)) (ci := 5) (v := .ref (ad 20)) (C := R_MO) (T := F_MO) (N := 30) hx hb ht in_MO hown hK hP 0 rfl rfl 20 (by decide) (ht _ tb_651) (fun _ h9 => h9) rfl d_MO_record_70 ?_
      refine lv_iload_n hx hb d_MO_record_73 rfl (lv_at hl 0 rfl) ?_
      refine lv_iconst (v := 1) hx hb d_MO_record_74 (by decide) ?_
      refine va_zast hx hb hK hP hD hS 17 1 rfl rfl (vp_in_nI (show (25 * j) + (q / 4) < 1000 by omega) (by decide)) d_MO_record_75 (fun H locs hP hD hS => ?_)
      rw [nI_clamp (show (25 * j) + (q / 4) < 2 ^ 31 by omega)] at hP hD
      have hP : va_P (dC, dI) cls_ (MOW g0 ad kI kZ sc_41 (va_up ia_41 20 (upd (ia_41 20) ((25 * j) + (q / 4)) (vp_nar .boolean 1)))) H := hP
      have hD : va_D A (MOW g0 ad kI kZ sc_41 (va_up ia_41 20 (upd (ia_41 20) ((25 * j) + (q / 4)) (vp_nar .boolean 1)))) := hD
      obtain ⟨ia5, eia5⟩ : ∃ q9_, q9_ = va_up ia_41 20 (upd (ia_41 20) ((25 * j) + (q / 4)) (vp_nar .boolean 1)) := ⟨_, rfl⟩
      rw [← eia5] at hP hD
      have hi : same [11, 14, 15, 16, 17, 18, 19, 20] ia ia5 := by rw [eia5]; exact hi.up (by decide)
      refine lv_aload_n hx hb d_MO_record_76 rfl (lv_at hl 3 rfl) ?_
      refine va_get (D := (dC, dI)) (ci := 5) (v := .ref (ad 17)) (C := R_MO) (T := F_MO) (N := 30) hx hb ht in_MO hown hK hP 0 rfl rfl 17 (by decide) (ht _ tb_648) (fun _ h9 => h9) rfl d_MO_record_77 ?_
      refine lv_bipush (v := 100) hx hb d_MO_record_80 (by decide) ?_
      refine lv_iload_n hx hb d_MO_record_82 rfl (lv_at hl 2 rfl) ?_
      refine lv_imul hx hb d_MO_record_83 ?_
      refine lv_topi (fun v6 ev6 => ?_)
      obtain rfl : v6 = nI (100 * j) := ev6.trans (by rw [show (100 : Int32) = nI 100 from rfl, pk_mul])
      refine lv_iload_n hx hb d_MO_record_84 rfl (lv_at hl 1 rfl) ?_
      refine lv_iadd hx hb d_MO_record_85 ?_
      refine lv_topi (fun v7 ev7 => ?_)
      obtain rfl : v7 = nI ((100 * j) + q) := ev7.trans (by rw [nI_add])
      refine lv_iconst (v := 1) hx hb d_MO_record_86 (by decide) ?_
      refine va_zast hx hb hK hP hD hS 14 1 rfl rfl (vp_in_nI (show (100 * j) + q < 4000 by omega) (by decide)) d_MO_record_87 (fun H locs hP hD hS => ?_)
      rw [nI_clamp (show (100 * j) + q < 2 ^ 31 by omega)] at hP hD
      have hP : va_P (dC, dI) cls_ (MOW g0 ad kI kZ sc_41 (va_up ia5 17 (upd (ia5 17) ((100 * j) + q) (vp_nar .boolean 1)))) H := hP
      have hD : va_D A (MOW g0 ad kI kZ sc_41 (va_up ia5 17 (upd (ia5 17) ((100 * j) + q) (vp_nar .boolean 1)))) := hD
      obtain ⟨ia8, eia8⟩ : ∃ q9_, q9_ = va_up ia5 17 (upd (ia5 17) ((100 * j) + q) (vp_nar .boolean 1)) := ⟨_, rfl⟩
      rw [← eia8] at hP hD
      have hi : same [11, 14, 15, 16, 17, 18, 19, 20] ia ia8 := by rw [eia8]; exact hi.up (by decide)
      refine lv_aload_n hx hb d_MO_record_88 rfl (lv_at hl 3 rfl) ?_
      refine va_get (D := (dC, dI)) (ci := 5) (v := .ref (ad 18)) (C := R_MO) (T := F_MO) (N := 30) hx hb ht in_MO hown hK hP 0 rfl rfl 18 (by decide) (ht _ tb_649) (fun _ h9 => h9) rfl d_MO_record_89 ?_
      refine lv_bipush (v := 100) hx hb d_MO_record_92 (by decide) ?_
      refine lv_iload_n hx hb d_MO_record_94 rfl (lv_at hl 2 rfl) ?_
      refine lv_imul hx hb d_MO_record_95 ?_
      refine lv_topi (fun v9 ev9 => ?_)
      obtain rfl : v9 = nI (100 * j) := ev9.trans (by rw [show (100 : Int32) = nI 100 from rfl, pk_mul])
      refine lv_iload_n hx hb d_MO_record_96 rfl (lv_at hl 1 rfl) ?_
      refine lv_iadd hx hb d_MO_record_97 ?_
      refine lv_topi (fun v10 ev10 => ?_)
      obtain rfl : v10 = nI ((100 * j) + q) := ev10.trans (by rw [nI_add])
      refine lv_aload_n hx hb d_MO_record_98 rfl (lv_at hl 3 rfl) ?_
      refine va_get (D := (dC, dI)) (ci := 5) (v := .ref (ad 3)) (C := R_MO) (T := F_MO) (N := 30) hx hb ht in_MO hown hK hP 0 rfl rfl 3 (by decide) (ht _ tb_634) (fun _ h9 => h9) rfl d_MO_record_99 ?_
      refine lv_aload_n hx hb d_MO_record_102 rfl (lv_at hl 3 rfl) ?_
      refine va_get (D := (dC, dI)) (ci := 5) (v := .ref (ad 5)) (C := R_MO) (T := F_MO) (N := 30) hx hb ht in_MO hown hK hP 0 rfl rfl 5 (by decide) (ht _ tb_636) (fun _ h9 => h9) rfl d_MO_record_103 ?_
      refine lv_iload_n hx hb d_MO_record_106 rfl (lv_at hl 2 rfl) ?_
      refine va_iald hx hb hK hP 2 0 rfl rfl (vp_in_nI (show j < 40 by omega) (by decide)) d_MO_record_107 ?_
      refine W.eq (g2 := F0 m 108 ls [.int (ia 5 j), .ref (ad 3), .int (nI ((100 * j) + q)), .ref (ad 18)]) (by rw [nI_clamp (show j < 2 ^ 31 by omega), hi 5 (by decide)]) ?_
      refine va_iald hx hb hK hP 1 0 rfl rfl (vp_in_iff.mpr (by obtain ⟨⟨m1, m2⟩, -⟩ := hI.at hj; exact ⟨m1, by omega⟩)) d_MO_record_108 ?_
      refine W.eq (g2 := F0 m 109 ls [.int (ia 3 ((ia 5 j).toNatClampNeg)), .int (nI ((100 * j) + q)), .ref (ad 18)]) (by rw [hi 3 (by decide)]) ?_
      refine va_iast hx hb hK hP hD hS 15 0 rfl rfl (vp_in_nI (show (100 * j) + q < 4000 by omega) (by decide)) d_MO_record_109 (fun H locs hP hD hS => ?_)
      rw [nI_clamp (show (100 * j) + q < 2 ^ 31 by omega)] at hP hD
      have hP : va_P (dC, dI) cls_ (MOW g0 ad kI kZ sc_41 (va_up ia8 18 (upd (ia8 18) ((100 * j) + q) (ia 3 ((ia 5 j).toNatClampNeg))))) H := hP
      have hD : va_D A (MOW g0 ad kI kZ sc_41 (va_up ia8 18 (upd (ia8 18) ((100 * j) + q) (ia 3 ((ia 5 j).toNatClampNeg))))) := hD
      obtain ⟨ia11, eia11⟩ : ∃ q9_, q9_ = va_up ia8 18 (upd (ia8 18) ((100 * j) + q) (ia 3 ((ia 5 j).toNatClampNeg))) := ⟨_, rfl⟩
      rw [← eia11] at hP hD
      have hi : same [11, 14, 15, 16, 17, 18, 19, 20] ia ia11 := by rw [eia11]; exact hi.up (by decide)
      refine lv_iconst (v := 1) hx hb d_MO_record_110 (by decide) ?_
      have hz0 : stE (ia 11) (ia11 11) := show stE (ia 11) (ia11 11) from by rw [show ia11 11 = ia_41 11 by rw [eia11, eia8, eia5]; rfl]; exact hE
      exact W.zret (v := 1) hx hb hr rfl (fun t ht9 hW => ⟨⟨1, (sc_41, ia11), rfl, ⟨hs, hi, hz0⟩, by rw [ht9]; exact hP, hD⟩, hS.F ht9⟩) hS.2.2 d_MO_record_111
    · have h47_1 := h47_1
      have i47_1 := ti_eq h47_1
      (try rw [l_0] at i47_1)
      refine lv_aload_n hx hb d_MO_record_50 rfl (lv_at hl 3 rfl) ?_
      refine r_call (va_runV (C := R_MO) (As := []) (rest := []) ⟨hx, hb, hml, hown, ht⟩ (t_MO_freeSegments l dC dI g0 ad kI kZ sc_41 ia_41 N ((hs 4 (by decide)).trans e4) hN) (cwV 0 ht (gV tb_820 tb_822 ts_39 tb_5 tb_823) rfl rfl rfl (by decide +kernel) ⟨Nat.le_of_ble_eq_true rfl, Nat.le_of_ble_eq_true rfl⟩) ⟨rdP_blind, va_recv (q := (R_MO, F_MO, 30)) hK hP rfl (show (MOW g0 ad kI kZ sc_41 ia_41 : va_W)[0]? = some _ from rfl), rd_pre hP hK⟩ rfl rfl hl.1 rfl (lv_room (Nat.le_of_ble_eq_true rfl)) d_MO_record_51 ⟨Nat.le_of_ble_eq_true rfl, Nat.le_of_ble_eq_true rfl⟩) (fun r12 hu => ?_)
      clear hu
      refine W.eq (g2 := F0 m 54 ls [.int r12]) rfl ?_
      refine lv_if_ne (tgt := 69) hx hb d_MO_record_54 (by decide) (fun h54_2 => ?_) (fun h54_2 => ?_)
      · have h54_2 := h54_2
        have i54_2 := ti_ne h54_2
        (try rw [l_0] at i54_2)
        refine lv_aload_n hx hb d_MO_record_69 rfl (lv_at hl 3 rfl) ?_
        refine va_get (D := (dC, dI)) (ci := 5) (v := .ref (ad 20)) (C := R_MO) (T := F_MO) (N := 30) hx hb ht in_MO hown hK hP 0 rfl rfl 20 (by decide) (ht _ tb_651) (fun _ h9 => h9) rfl d_MO_record_70 ?_
        refine lv_iload_n hx hb d_MO_record_73 rfl (lv_at hl 0 rfl) ?_
        refine lv_iconst (v := 1) hx hb d_MO_record_74 (by decide) ?_
        refine va_zast hx hb hK hP hD hS 17 1 rfl rfl (vp_in_nI (show (25 * j) + (q / 4) < 1000 by omega) (by decide)) d_MO_record_75 (fun H locs hP hD hS => ?_)
        rw [nI_clamp (show (25 * j) + (q / 4) < 2 ^ 31 by omega)] at hP hD
        have hP : va_P (dC, dI) cls_ (MOW g0 ad kI kZ sc_41 (va_up ia_41 20 (upd (ia_41 20) ((25 * j) + (q / 4)) (vp_nar .boolean 1)))) H := hP
        have hD : va_D A (MOW g0 ad kI kZ sc_41 (va_up ia_41 20 (upd (ia_41 20) ((25 * j) + (q / 4)) (vp_nar .boolean 1)))) := hD
        obtain ⟨ia13, eia13⟩ : ∃ q9_, q9_ = va_up ia_41 20 (upd (ia_41 20) ((25 * j) + (q / 4)) (vp_nar .boolean 1)) := ⟨_, rfl⟩
        rw [← eia13] at hP hD
        have hi : same [11, 14, 15, 16, 17, 18, 19, 20] ia ia13 := by rw [eia13]; exact hi.up (by decide)
        refine lv_aload_n hx hb d_MO_record_76 rfl (lv_at hl 3 rfl) ?_
        refine va_get (D := (dC, dI)) (ci := 5) (v := .ref (ad 17)) (C := R_MO) (T := F_MO) (N := 30) hx hb ht in_MO hown hK hP 0 rfl rfl 17 (by decide) (ht _ tb_648) (fun _ h9 => h9) rfl d_MO_record_77 ?_
        refine lv_bipush (v := 100) hx hb d_MO_record_80 (by decide) ?_
        refine lv_iload_n hx hb d_MO_record_82 rfl (lv_at hl 2 rfl) ?_
        refine lv_imul hx hb d_MO_record_83 ?_
        refine lv_topi (fun v14 ev14 => ?_)
        obtain rfl : v14 = nI (100 * j) := ev14.trans (by rw [show (100 : Int32) = nI 100 from rfl, pk_mul])
        refine lv_iload_n hx hb d_MO_record_84 rfl (lv_at hl 1 rfl) ?_
        refine lv_iadd hx hb d_MO_record_85 ?_
        refine lv_topi (fun v15 ev15 => ?_)
        obtain rfl : v15 = nI ((100 * j) + q) := ev15.trans (by rw [nI_add])
        refine lv_iconst (v := 1) hx hb d_MO_record_86 (by decide) ?_
        refine va_zast hx hb hK hP hD hS 14 1 rfl rfl (vp_in_nI (show (100 * j) + q < 4000 by omega) (by decide)) d_MO_record_87 (fun H locs hP hD hS => ?_)
        rw [nI_clamp (show (100 * j) + q < 2 ^ 31 by omega)] at hP hD
        have hP : va_P (dC, dI) cls_ (MOW g0 ad kI kZ sc_41 (va_up ia13 17 (upd (ia13 17) ((100 * j) + q) (vp_nar .boolean 1)))) H := hP
        have hD : va_D A (MOW g0 ad kI kZ sc_41 (va_up ia13 17 (upd (ia13 17) ((100 * j) + q) (vp_nar .boolean 1)))) := hD
        obtain ⟨ia16, eia16⟩ : ∃ q9_, q9_ = va_up ia13 17 (upd (ia13 17) ((100 * j) + q) (vp_nar .boolean 1)) := ⟨_, rfl⟩
        rw [← eia16] at hP hD
        have hi : same [11, 14, 15, 16, 17, 18, 19, 20] ia ia16 := by rw [eia16]; exact hi.up (by decide)
        refine lv_aload_n hx hb d_MO_record_88 rfl (lv_at hl 3 rfl) ?_
        refine va_get (D := (dC, dI)) (ci := 5) (v := .ref (ad 18)) (C := R_MO) (T := F_MO) (N := 30) hx hb ht in_MO hown hK hP 0 rfl rfl 18 (by decide) (ht _ tb_649) (fun _ h9 => h9) rfl d_MO_record_89 ?_
        refine lv_bipush (v := 100) hx hb d_MO_record_92 (by decide) ?_
        refine lv_iload_n hx hb d_MO_record_94 rfl (lv_at hl 2 rfl) ?_
        refine lv_imul hx hb d_MO_record_95 ?_
        refine lv_topi (fun v17 ev17 => ?_)
        obtain rfl : v17 = nI (100 * j) := ev17.trans (by rw [show (100 : Int32) = nI 100 from rfl, pk_mul])
        refine lv_iload_n hx hb d_MO_record_96 rfl (lv_at hl 1 rfl) ?_
        refine lv_iadd hx hb d_MO_record_97 ?_
        refine lv_topi (fun v18 ev18 => ?_)
        obtain rfl : v18 = nI ((100 * j) + q) := ev18.trans (by rw [nI_add])
        refine lv_aload_n hx hb d_MO_record_98 rfl (lv_at hl 3 rfl) ?_
        refine va_get (D := (dC, dI)) (ci := 5) (v := .ref (ad 3)) (C := R_MO) (T := F_MO) (N := 30) hx hb ht in_MO hown hK hP 0 rfl rfl 3 (by decide) (ht _ tb_634) (fun _ h9 => h9) rfl d_MO_record_99 ?_
        refine lv_aload_n hx hb d_MO_record_102 rfl (lv_at hl 3 rfl) ?_
        refine va_get (D := (dC, dI)) (ci := 5) (v := .ref (ad 5)) (C := R_MO) (T := F_MO) (N := 30) hx hb ht in_MO hown hK hP 0 rfl rfl 5 (by decide) (ht _ tb_636) (fun _ h9 => h9) rfl d_MO_record_103 ?_
        refine lv_iload_n hx hb d_MO_record_106 rfl (lv_at hl 2 rfl) ?_
        refine va_iald hx hb hK hP 2 0 rfl rfl (vp_in_nI (show j < 40 by omega) (by decide)) d_MO_record_107 ?_
        refine W.eq (g2 := F0 m 108 ls [.int (ia 5 j), .ref (ad 3), .int (nI ((100 * j) + q)), .ref (ad 18)]) (by rw [nI_clamp (show j < 2 ^ 31 by omega), hi 5 (by decide)]) ?_
        refine va_iald hx hb hK hP 1 0 rfl rfl (vp_in_iff.mpr (by obtain ⟨⟨m1, m2⟩, -⟩ := hI.at hj; exact ⟨m1, by omega⟩)) d_MO_record_108 ?_
        refine W.eq (g2 := F0 m 109 ls [.int (ia 3 ((ia 5 j).toNatClampNeg)), .int (nI ((100 * j) + q)), .ref (ad 18)]) (by rw [hi 3 (by decide)]) ?_
        refine va_iast hx hb hK hP hD hS 15 0 rfl rfl (vp_in_nI (show (100 * j) + q < 4000 by omega) (by decide)) d_MO_record_109 (fun H locs hP hD hS => ?_)
        rw [nI_clamp (show (100 * j) + q < 2 ^ 31 by omega)] at hP hD
        have hP : va_P (dC, dI) cls_ (MOW g0 ad kI kZ sc_41 (va_up ia16 18 (upd (ia16 18) ((100 * j) + q) (ia 3 ((ia 5 j).toNatClampNeg))))) H := hP
        have hD : va_D A (MOW g0 ad kI kZ sc_41 (va_up ia16 18 (upd (ia16 18) ((100 * j) + q) (ia 3 ((ia 5 j).toNatClampNeg))))) := hD
        obtain ⟨ia19, eia19⟩ : ∃ q9_, q9_ = va_up ia16 18 (upd (ia16 18) ((100 * j) + q) (ia 3 ((ia 5 j).toNatClampNeg))) := ⟨_, rfl⟩
        rw [← eia19] at hP hD
        have hi : same [11, 14, 15, 16, 17, 18, 19, 20] ia ia19 := by rw [eia19]; exact hi.up (by decide)
        refine lv_iconst (v := 1) hx hb d_MO_record_110 (by decide) ?_
        have hz0 : stE (ia 11) (ia19 11) := show stE (ia 11) (ia19 11) from by rw [show ia19 11 = ia_41 11 by rw [eia19, eia16, eia13]; rfl]; exact hE
        exact W.zret (v := 1) hx hb hr rfl (fun t ht9 hW => ⟨⟨1, (sc_41, ia19), rfl, ⟨hs, hi, hz0⟩, by rw [ht9]; exact hP, hD⟩, hS.F ht9⟩) hS.2.2 d_MO_record_111
      · have h54_2 := h54_2
        have i54_2 := ti_eq h54_2
        (try rw [l_0] at i54_2)
        refine lv_aload_n hx hb d_MO_record_57 rfl (lv_at hl 3 rfl) ?_
        refine va_get (D := (dC, dI)) (ci := 5) (v := .ref (ad 14)) (C := R_MO) (T := F_MO) (N := 30) hx hb ht in_MO hown hK hP 0 rfl rfl 14 (by decide) (ht _ tb_645) (fun _ h9 => h9) rfl d_MO_record_58 ?_
        refine lv_iload_n hx hb d_MO_record_61 rfl (lv_at hl 2 rfl) ?_
        refine lv_dup2_11 hx hb d_MO_record_62 rfl rfl ?_
        refine va_iald hx hb hK hP 11 0 rfl rfl (vp_in_nI (show j < 40 by omega) (by decide)) d_MO_record_63 ?_
        refine W.eq (g2 := F0 m 64 ls [.int (ia_41 14 j), .int (nI j), .ref (ad 14)]) (by rw [nI_clamp (show j < 2 ^ 31 by omega)]) ?_
        refine lv_iconst (v := 1) hx hb d_MO_record_64 (by decide) ?_
        refine lv_iadd hx hb d_MO_record_65 ?_
        refine va_iast hx hb hK hP hD hS 11 0 rfl rfl (vp_in_nI (show j < 40 by omega) (by decide)) d_MO_record_66 (fun H locs hP hD hS => ?_)
        rw [nI_clamp (show j < 2 ^ 31 by omega)] at hP hD
        have hP : va_P (dC, dI) cls_ (MOW g0 ad kI kZ sc_41 (va_up ia_41 14 (upd (ia_41 14) j ((ia_41 14 j) + 1)))) H := hP
        have hD : va_D A (MOW g0 ad kI kZ sc_41 (va_up ia_41 14 (upd (ia_41 14) j ((ia_41 14 j) + 1)))) := hD
        obtain ⟨ia20, eia20⟩ : ∃ q9_, q9_ = va_up ia_41 14 (upd (ia_41 14) j ((ia_41 14 j) + 1)) := ⟨_, rfl⟩
        rw [← eia20] at hP hD
        have hi : same [11, 14, 15, 16, 17, 18, 19, 20] ia ia20 := by rw [eia20]; exact hi.up (by decide)
        refine lv_iconst (v := 0) hx hb d_MO_record_67 (by decide) ?_
        have hz0 : stE (ia 11) (ia20 11) := show stE (ia 11) (ia20 11) from by rw [show ia20 11 = ia_41 11 by rw [eia20]; rfl]; exact hE
        exact W.zret (v := 0) hx hb hr rfl (fun t ht9 hW => ⟨⟨0, (sc_41, ia20), rfl, ⟨hs, hi, hz0⟩, by rw [ht9]; exact hP, hD⟩, hS.F ht9⟩) hS.2.2 d_MO_record_68
  refine lv_aload_n hx hb d_MO_record_21 rfl (lv_at hl 2 rfl) ?_
  refine va_get (D := (dC, dI)) (ci := 5) (v := .ref (ad 20)) (C := R_MO) (T := F_MO) (N := 30) hx hb ht in_MO hown hK hP 0 rfl rfl 20 (by decide) (ht _ tb_651) (fun _ h9 => h9) rfl d_MO_record_22 ?_
  refine lv_iload_n hx hb d_MO_record_25 rfl (lv_at hl 0 rfl) ?_
  refine va_zald hx hb hK hP 17 1 rfl rfl (vp_in_nI (show (25 * j) + (q / 4) < 1000 by omega) (by decide)) d_MO_record_26 ?_
  refine W.eq (g2 := F0 m 27 ls [.int (ia 20 ((25 * j) + (q / 4)))]) (by rw [nI_clamp (show (25 * j) + (q / 4) < 2 ^ 31 by omega)]) ?_
  refine lv_if_ne (tgt := 41) hx hb d_MO_record_27 (by decide) (fun h27_3 => ?_) (fun h27_3 => ?_)
  · have h27_3 := h27_3
    have i27_3 := ti_ne h27_3
    (try rw [l_0] at i27_3)
    have hl := lv_sub hl [0, 1, 3, 2] (l' := [(3, .int (nI ((25 * j) + (q / 4)))), (2, .int (nI q)), (1, .int (nI j)), (0, .ref g0)]) rfl
    exact J_41 sc ia s.heap _ ls hs hi (stE.rf) hl hP hD hS
  · have h27_3 := h27_3
    have i27_3 := ti_eq h27_3
    (try rw [l_0] at i27_3)
    refine lv_aload_n hx hb d_MO_record_30 rfl (lv_at hl 2 rfl) ?_
    refine r_call (va_runV (C := R_MO) (As := []) (rest := []) ⟨hx, hb, hml, hown, ht⟩ (t_MO_freeSegments l dC dI g0 ad kI kZ sc ia N ((hs 4 (by decide)).trans e4) hN) (cwV 0 ht (gV tb_820 tb_822 ts_39 tb_5 tb_823) rfl rfl rfl (by decide +kernel) ⟨Nat.le_of_ble_eq_true rfl, Nat.le_of_ble_eq_true rfl⟩) ⟨rdP_blind, va_recv (q := (R_MO, F_MO, 30)) hK hP rfl (show (MOW g0 ad kI kZ sc ia : va_W)[0]? = some _ from rfl), rd_pre hP hK⟩ rfl rfl hl.1 rfl (lv_room (Nat.le_of_ble_eq_true rfl)) d_MO_record_31 ⟨Nat.le_of_ble_eq_true rfl, Nat.le_of_ble_eq_true rfl⟩) (fun r21 hu => ?_)
    clear hu
    refine W.eq (g2 := F0 m 34 ls [.int r21]) rfl ?_
    refine lv_if_ne (tgt := 41) hx hb d_MO_record_34 (by decide) (fun h34_4 => ?_) (fun h34_4 => ?_)
    · have h34_4 := h34_4
      have i34_4 := ti_ne h34_4
      (try rw [l_0] at i34_4)
      have hl := lv_sub hl [0, 1, 3, 2] (l' := [(3, .int (nI ((25 * j) + (q / 4)))), (2, .int (nI q)), (1, .int (nI j)), (0, .ref g0)]) rfl
      exact J_41 sc ia s.heap _ ls hs hi (stE.rf) hl hP hD hS
    · have h34_4 := h34_4
      have i34_4 := ti_eq h34_4
      (try rw [l_0] at i34_4)
      refine lv_aload_n hx hb d_MO_record_37 rfl (lv_at hl 2 rfl) ?_
      refine t_call (u0 := (sc, ia)) (va_runV (C := R_MO) (As := []) (rest := []) ⟨hx, hb, hml, hown, ht⟩ (t_MO_makeRoom l dC dI g0 ad kI kZ sc ia s.heap.size Bd N ((hs 4 (by decide)).trans e4) hN) (cwV 0 ht (gV tb_828 tb_830 ts_41 tb_5 tb_831) rfl rfl rfl (by decide +kernel) ⟨Nat.le_of_ble_eq_true rfl, Nat.le_of_ble_eq_true rfl⟩) ⟨frP_blind, va_recv (q := (R_MO, F_MO, 30)) hK hP rfl (show (MOW g0 ad kI kZ sc ia : va_W)[0]? = some _ from rfl), fr_pre hP hK hD hAB hBs hS hV⟩ rfl rfl hl.1 rfl (lv_room (Nat.le_of_ble_eq_true rfl)) d_MO_record_38 ⟨Nat.le_of_ble_eq_true rfl, Nat.le_of_ble_eq_true rfl⟩) hD hS hA (fun r22 u H locs hu hP hD hS => ?_)
      obtain ⟨sc23, ia24⟩ := u
      obtain ⟨hu22_0, hu22_1, hu22_2⟩ := hu
      have hu22_0 : same [] sc sc23 := hu22_0
      have hu22_1 : same [11, 15, 16, 17, 19, 20] ia ia24 := hu22_1
      have hu22_2 : stE (ia 11) (ia24 11) := hu22_2
      have hP : va_P (dC, dI) cls_ (MOW g0 ad kI kZ sc23 ia24) H := hP
      have hD : va_D A (MOW g0 ad kI kZ sc23 ia24) := hD
      have hs : same [] sc sc23 := hs.tr (hu22_0.wk (by decide))
      have hi : same [11, 14, 15, 16, 17, 18, 19, 20] ia ia24 := hi.tr (hu22_1.wk (by decide))
      refine W.eq (g2 := F0 m 41 ls []) rfl ?_
      refine W.cs (cells' := 0) (slots' := 0) rfl rfl ?_
      have hl := lv_sub hl [0, 1, 3, 2] (l' := [(3, .int (nI ((25 * j) + (q / 4)))), (2, .int (nI q)), (1, .int (nI j)), (0, .ref g0)]) rfl
      exact J_41 sc23 ia24 H _ ls hs hi (hu22_2) hl hP hD hS
set_option maxHeartbeats 8000000 in
set_option maxRecDepth 100000 in
theorem t_MO_recordAll (l : Launch) (dC : Nat → ClassId) (dI : Nat → Nat → Nat) (g0 : Nat) (ad : Nat → Nat) (kI kZ : ClassId) (sc : Nat → Int32) (ia : Nat → Nat → Int32) (sz Bd : Nat) (T : Int) (N : Nat) (hI : MI T N sc ia) : Met l y_MO_recordAll w_MO_recordAll ({ frames := 4, cells := 0, slots := 0, locals := 92 }) (frP (dC, dI) (MOW g0 ad kI kZ sc ia) (MOT kI kZ) sz Bd [.ref g0]) (tQ (dC, dI) (mW g0 ad kI kZ) (va_A (MOW g0 ad kI kZ sc ia) sz) vI (fun r u => same [] sc u.1 ∧ same [11, 14, 15, 16, 17, 18, 19, 20] ia u.2 ∧ stE (ia 11) (u.2 11))) 0 0 (va_A (MOW g0 ad kI kZ sc ia) sz) := by
  refine Met.ofW (cc := c_MO_recordAll) (maxL := 3) (ret := (some .int)) (by decide) rfl ?_
  intro p e s m args below meth c s₁ B hml hv
  obtain ⟨rfl, ⟨hsz, hBs⟩, hP, hK, hD0, hV⟩ := hv
  have hx := B.exec
  have hb := B.bytes
  have hr := B.returns
  have ht : ∀ w ∈ tb_, w.before _ s = true := fun w h => atoms_spec (ws := w_MO_recordAll) B.pre w (List.mem_cons_of_mem _ h)
  have hown : s.vm.findClass R_MO = some m.cls := findClass_of_methodNamed B.named
  have hlocks := B.notSynchronized
  subst hsz
  have hD := hD0.self (sz := s.heap.size)
  have hAB : ∀ q, va_A (MOW g0 ad kI kZ sc ia) s.heap.size q → Bd ≤ q := fr_AB hD0 hBs
  generalize hAe : va_A (MOW g0 ad kI kZ sc ia) s.heap.size = A at hD hAB ⊢
  have hA : ∀ q : Nat, s.heap.size ≤ q → A q := fun q h => by rw [← hAe]; exact Or.inr h
  have hS : va_S A s.heap s.heap [] := va_S.rf
  have hs : same [] sc sc := same.rf
  have hi : same [11, 14, 15, 16, 17, 18, 19, 20] ia ia := same.rf
  have hP : va_P (dC, dI) cls_ (MOW g0 ad kI kZ sc ia) s.heap := hP
  have hl := lv_entry ([.ref g0]) (n := 3) (Nat.le_of_ble_eq_true rfl)
  rw [lg_entry_eq]
  generalize (lg_sl ([.ref g0]) ++ List.replicate (3 - (lg_sl ([.ref g0])).length) Slot.unset).toArray = ls at hl ⊢
  have hl : lv_has ls 3 [(0, .ref g0)] := hl
  have e4 := hI.e4
  have hN := hI.hN
  have hT := hI.T
  refine lv_iconst (v := 0) hx hb d_MO_recordAll_0 (by decide) ?_
  refine lv_istore_n hx hb d_MO_recordAll_1 rfl hl (by decide) rfl (fun ls hl => ?_)
  have hl : lv_has ls 3 [(1, .int 0), (0, .ref g0)] := hl
  refine lv_iconst (v := 0) hx hb d_MO_recordAll_2 (by decide) ?_
  refine lv_istore_n hx hb d_MO_recordAll_3 rfl hl (by decide) rfl (fun ls hl => ?_)
  have hl : lv_has ls 3 [(2, .int 0), (1, .int 0), (0, .ref g0)] := hl
  have J_4 : ∀ (n_4 : Nat) (k : Nat) (q : Int32) (sc_4 : Nat → Int32) (ia_4 : Nat → Nat → Int32) (H : Heap) (locs : List Loc) (ls : Array Slot), N - k < n_4 → k ≤ N → same [] sc sc_4 → same [11, 14, 15, 16, 17, 18, 19, 20] ia ia_4 → stE (ia 11) (ia_4 11) → lv_has ls 3 [(2, .int (nI k)), (1, .int q), (0, .ref g0)] → va_P (dC, dI) cls_ (MOW g0 ad kI kZ sc_4 ia_4) H → va_D A (MOW g0 ad kI kZ sc_4 ia_4) → va_S A s.heap H locs → W p l e (headSpec w_MO_recordAll ({ frames := 4, cells := 0, slots := 0, locals := 92 })).room s m (([.ref g0] : List Value).toArray) below meth c H locs 0 0 (MQ below (tQ (dC, dI) (mW g0 ad kI kZ) A vI (fun r u => same [] sc u.1 ∧ same [11, 14, 15, 16, 17, 18, 19, 20] ia u.2 ∧ stE (ia 11) (u.2 11))) (([.ref g0] : List Value).toArray) s 0 0 A) (F0 m 4 ls []) := by
    intro n_4
    induction n_4 with
    | zero => intro k q sc_4 ia_4 H locs ls hmu hc4_0 hs hi hE hl hP hD hS; exact absurd hmu (by omega)
    | succ n_4 ih_4 =>
      intro k q sc_4 ia_4 H locs ls hmu hc4_0 hs hi hE hl hP hD hS
      refine lv_iload_n hx hb d_MO_recordAll_4 rfl (lv_at hl 0 rfl) ?_
      refine lv_aload_n hx hb d_MO_recordAll_5 rfl (lv_at hl 2 rfl) ?_
      refine va_get (D := (dC, dI)) (ci := 5) (v := .int (sc_4 4)) (C := R_MO) (T := F_MO) (N := 30) hx hb ht in_MO hown hK hP 0 rfl rfl 4 (by decide) (ht _ tb_635) (fun _ h9 => h9) rfl d_MO_recordAll_6 ?_
      refine W.eq (g2 := F0 m 9 ls [.int (nI N), .int (nI k)]) (by rw [show sc_4 4 = nI N from (hs 4 (by decide)).trans e4]) ?_
      refine lv_icmp_ge (tgt := 44) hx hb d_MO_recordAll_9 (by decide) (fun h9_1 => ?_) (fun h9_1 => ?_)
      · have h9_1 := h9_1
        have i9_1 := ti_le h9_1
        (try rw [nI_toInt (show k < 2 ^ 31 by omega)] at i9_1)
        (try rw [nI_toInt (show N < 2 ^ 31 by omega)] at i9_1)
        refine lv_iload_n hx hb d_MO_recordAll_44 rfl (lv_at hl 1 rfl) ?_
        have hz0 : stE (ia 11) (ia_4 11) := hE
        exact W.iret (v := q) hx hb hr (fun t ht9 hW => ⟨⟨q, (sc_4, ia_4), rfl, ⟨hs, hi, hz0⟩, by rw [ht9]; exact hP, hD⟩, hS.F ht9⟩) hS.2.2 d_MO_recordAll_45
      · have h9_1 := h9_1
        have i9_1 := ti_nle h9_1
        (try rw [nI_toInt (show k < 2 ^ 31 by omega)] at i9_1)
        (try rw [nI_toInt (show N < 2 ^ 31 by omega)] at i9_1)
        refine lv_aload_n hx hb d_MO_recordAll_12 rfl (lv_at hl 2 rfl) ?_
        refine va_get (D := (dC, dI)) (ci := 5) (v := .ref (ad 11)) (C := R_MO) (T := F_MO) (N := 30) hx hb ht in_MO hown hK hP 0 rfl rfl 11 (by decide) (ht _ tb_642) (fun _ h9 => h9) rfl d_MO_recordAll_13 ?_
        refine lv_iload_n hx hb d_MO_recordAll_16 rfl (lv_at hl 0 rfl) ?_
        refine va_iald hx hb hK hP 8 0 rfl rfl (vp_in_nI (show k < 40 by omega) (by decide)) d_MO_recordAll_17 ?_
        refine W.eq (g2 := F0 m 18 ls [.int (ia_4 11 k)]) (by rw [nI_clamp (show k < 2 ^ 31 by omega)]) ?_
        refine lv_iconst (v := 1) hx hb d_MO_recordAll_18 (by decide) ?_
        refine lv_icmp_ne (tgt := 36) hx hb d_MO_recordAll_19 (by decide) (fun h19_2 => ?_) (fun h19_2 => ?_)
        · have h19_2 := h19_2
          have i19_2 := ti_ne h19_2
          (try rw [l_1] at i19_2)
          refine lv_iload_n hx hb d_MO_recordAll_36 rfl (lv_at hl 1 rfl) ?_
          refine lv_istore_n hx hb d_MO_recordAll_37 rfl hl (by decide) rfl (fun ls hl => ?_)
          have hl : lv_has ls 3 [(1, .int q), (2, .int (nI k)), (0, .ref g0)] := hl
          refine lv_iinc (k := 1) (v := nI (k + 1)) hx hb d_MO_recordAll_38 hl rfl ((nI_succ k).symm) (by decide) rfl (fun ls hl => ?_)
          have hl : lv_has ls 3 [(2, .int (nI (k + 1))), (1, .int q), (0, .ref g0)] := hl
          refine lv_goto (tgt := 4) hx hb d_MO_recordAll_41 (by decide) ?_
          exact ih_4 (k + 1) q sc_4 ia_4 H _ ls (by omega) (by omega) hs hi (hE) hl hP hD hS
        · have h19_2 := h19_2
          have i19_2 := ti_eq h19_2
          (try rw [l_1] at i19_2)
          refine lv_aload_n hx hb d_MO_recordAll_22 rfl (lv_at hl 2 rfl) ?_
          refine lv_iload_n hx hb d_MO_recordAll_23 rfl (lv_at hl 0 rfl) ?_
          refine t_call (u0 := (sc_4, ia_4)) (va_runV (C := R_MO) (As := [.int (nI k)]) (rest := []) ⟨hx, hb, hml, hown, ht⟩ (t_MO_record l dC dI g0 ad kI kZ sc_4 ia_4 H.size Bd T N (MI_er hI (hs.wk (by decide)) (hi.wk (by decide)) hE) k (by omega) h19_2) (cwV 1 ht (gV tb_816 tb_818 ts_38 tb_5 tb_819) rfl rfl rfl (by decide +kernel) ⟨Nat.le_of_ble_eq_true rfl, Nat.le_of_ble_eq_true rfl⟩) ⟨frP_blind, va_recv (q := (R_MO, F_MO, 30)) hK hP rfl (show (MOW g0 ad kI kZ sc_4 ia_4 : va_W)[0]? = some _ from rfl), fr_pre hP hK hD hAB hBs hS hV⟩ rfl rfl hl.1 rfl (lv_room (Nat.le_of_ble_eq_true rfl)) d_MO_recordAll_24 ⟨Nat.le_of_ble_eq_true rfl, Nat.le_of_ble_eq_true rfl⟩) hD hS hA (fun r1 u H locs hu hP hD hS => ?_)
          obtain ⟨sc2, ia3⟩ := u
          obtain ⟨hu1_0, hu1_1, hu1_2⟩ := hu
          have hu1_0 : same [] sc_4 sc2 := hu1_0
          have hu1_1 : same [11, 14, 15, 16, 17, 18, 19, 20] ia_4 ia3 := hu1_1
          have hu1_2 : stE (ia_4 11) (ia3 11) := hu1_2
          have hP : va_P (dC, dI) cls_ (MOW g0 ad kI kZ sc2 ia3) H := hP
          have hD : va_D A (MOW g0 ad kI kZ sc2 ia3) := hD
          have hs : same [] sc sc2 := hs.tr (hu1_0.wk (by decide))
          have hi : same [11, 14, 15, 16, 17, 18, 19, 20] ia ia3 := hi.tr (hu1_1.wk (by decide))
          refine W.eq (g2 := F0 m 27 ls [.int r1]) rfl ?_
          refine W.cs (cells' := 0) (slots' := 0) rfl rfl ?_
          refine lv_if_eq (tgt := 36) hx hb d_MO_recordAll_27 (by decide) (fun h27_3 => ?_) (fun h27_3 => ?_)
          · have h27_3 := h27_3
            have i27_3 := ti_eq h27_3
            (try rw [l_0] at i27_3)
            refine lv_iload_n hx hb d_MO_recordAll_36 rfl (lv_at hl 1 rfl) ?_
            refine lv_istore_n hx hb d_MO_recordAll_37 rfl hl (by decide) rfl (fun ls hl => ?_)
            have hl : lv_has ls 3 [(1, .int q), (2, .int (nI k)), (0, .ref g0)] := hl
            refine lv_iinc (k := 1) (v := nI (k + 1)) hx hb d_MO_recordAll_38 hl rfl ((nI_succ k).symm) (by decide) rfl (fun ls hl => ?_)
            have hl : lv_has ls 3 [(2, .int (nI (k + 1))), (1, .int q), (0, .ref g0)] := hl
            refine lv_goto (tgt := 4) hx hb d_MO_recordAll_41 (by decide) ?_
            exact ih_4 (k + 1) q sc2 ia3 H _ ls (by omega) (by omega) hs hi (hE.tr hu1_2) hl hP hD hS
          · have h27_3 := h27_3
            have i27_3 := ti_ne h27_3
            (try rw [l_0] at i27_3)
            refine lv_iload_n hx hb d_MO_recordAll_30 rfl (lv_at hl 1 rfl) ?_
            refine lv_iconst (v := 1) hx hb d_MO_recordAll_31 (by decide) ?_
            refine lv_iadd hx hb d_MO_recordAll_32 ?_
            refine lv_goto (tgt := 37) hx hb d_MO_recordAll_33 (by decide) ?_
            refine lv_istore_n hx hb d_MO_recordAll_37 rfl hl (by decide) rfl (fun ls hl => ?_)
            have hl : lv_has ls 3 [(1, .int (q + 1)), (2, .int (nI k)), (0, .ref g0)] := hl
            refine lv_iinc (k := 1) (v := nI (k + 1)) hx hb d_MO_recordAll_38 hl rfl ((nI_succ k).symm) (by decide) rfl (fun ls hl => ?_)
            have hl : lv_has ls 3 [(2, .int (nI (k + 1))), (1, .int (q + 1)), (0, .ref g0)] := hl
            refine lv_goto (tgt := 4) hx hb d_MO_recordAll_41 (by decide) ?_
            exact ih_4 (k + 1) (q + 1) sc2 ia3 H _ ls (by omega) (by omega) hs hi (hE.tr hu1_2) hl hP hD hS
  have hl := lv_sub hl [0, 1, 2] (l' := [(2, .int 0), (1, .int 0), (0, .ref g0)]) rfl
  have hl : lv_has ls 3 [(2, .int (nI 0)), (1, .int 0), (0, .ref g0)] := hl
  exact J_4 ((N - 0) + 1) 0 0 sc ia s.heap _ ls (by omega) (by omega) hs hi (stE.rf) hl hP hD hS
set_option maxHeartbeats 8000000 in
set_option maxRecDepth 100000 in
theorem t_MO_tuned (l : Launch) (dC : Nat → ClassId) (dI : Nat → Nat → Nat) (g0 : Nat) (ad : Nat → Nat) (kI kZ : ClassId) (sc : Nat → Int32) (ia : Nat → Nat → Int32) (N : Nat) (e4 : sc 4 = nI N) (hN : N ≤ 40) : Met l y_MO_tuned w_MO_tuned ({ frames := 0, cells := 0, slots := 0, locals := 0 }) (rdP (dC, dI) (MOW g0 ad kI kZ sc ia) (MOT kI kZ) [.ref g0]) (rQ vI (fun r => True)) 0 0 (fun _ => False) := by
  refine Met.ofW (cc := c_MO_tuned) (maxL := 4) (ret := (some .int)) (by decide) rfl ?_
  intro p e s m args below meth c s₁ B hml hv
  obtain ⟨rfl, hP, hK⟩ := hv
  have hx := B.exec
  have hb := B.bytes
  have hr := B.returns
  have ht : ∀ w ∈ tb_, w.before _ s = true := fun w h => atoms_spec (ws := w_MO_tuned) B.pre w (List.mem_cons_of_mem _ h)
  have hown : s.vm.findClass R_MO = some m.cls := findClass_of_methodNamed B.named
  have hlocks := B.notSynchronized
  have hP : va_P (dC, dI) cls_ (MOW g0 ad kI kZ sc ia) s.heap := hP
  have hl := lv_entry ([.ref g0]) (n := 4) (Nat.le_of_ble_eq_true rfl)
  rw [lg_entry_eq]
  generalize (lg_sl ([.ref g0]) ++ List.replicate (4 - (lg_sl ([.ref g0])).length) Slot.unset).toArray = ls at hl ⊢
  have hl : lv_has ls 4 [(0, .ref g0)] := hl
  refine lv_iconst (v := 0) hx hb d_MO_tuned_0 (by decide) ?_
  refine lv_istore_n hx hb d_MO_tuned_1 rfl hl (by decide) rfl (fun ls hl => ?_)
  have hl : lv_has ls 4 [(1, .int 0), (0, .ref g0)] := hl
  refine lv_iconst (v := 0) hx hb d_MO_tuned_2 (by decide) ?_
  refine lv_istore_n hx hb d_MO_tuned_3 rfl hl (by decide) rfl (fun ls hl => ?_)
  have hl : lv_has ls 4 [(2, .int 0), (1, .int 0), (0, .ref g0)] := hl
  have J_4 : ∀ (n_4 : Nat) (k : Nat) (q : Int32)  (ls : Array Slot), N - k < n_4 → k ≤ N → lv_has ls 4 [(2, .int (nI k)), (1, .int q), (0, .ref g0)] → W p l e (headSpec w_MO_tuned ({ frames := 0, cells := 0, slots := 0, locals := 0 })).room s m (([.ref g0] : List Value).toArray) below meth c s.heap [] 0 0 (MQ below (rQ vI (fun r => True)) (([.ref g0] : List Value).toArray) s 0 0 (fun _ => False)) (F0 m 4 ls []) := by
    intro n_4
    induction n_4 with
    | zero => intro k q ls hmu hc4_0 hl; exact absurd hmu (by omega)
    | succ n_4 ih_4 =>
      intro k q ls hmu hc4_0 hl
      refine lv_iload_n hx hb d_MO_tuned_4 rfl (lv_at hl 0 rfl) ?_
      refine lv_aload_n hx hb d_MO_tuned_5 rfl (lv_at hl 2 rfl) ?_
      refine va_get (D := (dC, dI)) (ci := 5) (v := .int (sc 4)) (C := R_MO) (T := F_MO) (N := 30) hx hb ht in_MO hown hK hP 0 rfl rfl 4 (by decide) (ht _ tb_635) (fun _ h9 => h9) rfl d_MO_tuned_6 ?_
      refine W.eq (g2 := F0 m 9 ls [.int (nI N), .int (nI k)]) (by rw [show sc 4 = nI N from e4]) ?_
      refine lv_icmp_ge (tgt := 43) hx hb d_MO_tuned_9 (by decide) (fun h9_1 => ?_) (fun h9_1 => ?_)
      · have h9_1 := h9_1
        have i9_1 := ti_le h9_1
        (try rw [nI_toInt (show k < 2 ^ 31 by omega)] at i9_1)
        (try rw [nI_toInt (show N < 2 ^ 31 by omega)] at i9_1)
        refine lv_iconst (v := 0) hx hb d_MO_tuned_43 (by decide) ?_
        refine lv_istore_n hx hb d_MO_tuned_44 rfl hl (by decide) rfl (fun ls hl => ?_)
        have hl : lv_has ls 4 [(2, .int 0), (1, .int q), (0, .ref g0)] := hl
        refine lv_iconst (v := 0) hx hb d_MO_tuned_45 (by decide) ?_
        refine lv_istore_n hx hb d_MO_tuned_46 rfl hl (by decide) rfl (fun ls hl => ?_)
        have hl : lv_has ls 4 [(3, .int 0), (2, .int 0), (1, .int q), (0, .ref g0)] := hl
        have J_47 : ∀ (n_47 : Nat) (k2 : Nat) (m2 : Int32)  (ls : Array Slot), 8 - k2 < n_47 → k2 ≤ 8 → lv_has ls 4 [(3, .int (nI k2)), (2, .int m2), (1, .int q), (0, .ref g0)] → W p l e (headSpec w_MO_tuned ({ frames := 0, cells := 0, slots := 0, locals := 0 })).room s m (([.ref g0] : List Value).toArray) below meth c s.heap [] 0 0 (MQ below (rQ vI (fun r => True)) (([.ref g0] : List Value).toArray) s 0 0 (fun _ => False)) (F0 m 47 ls []) := by
          intro n_47
          induction n_47 with
          | zero => intro k2 m2 ls hmu hc47_0 hl; exact absurd hmu (by omega)
          | succ n_47 ih_47 =>
            intro k2 m2 ls hmu hc47_0 hl
            refine lv_iload_n hx hb d_MO_tuned_47 rfl (lv_at hl 0 rfl) ?_
            refine lv_bipush (v := 8) hx hb d_MO_tuned_48 (by decide) ?_
            refine lv_icmp_ge (tgt := 67) hx hb d_MO_tuned_50 (by decide) (fun h50_2 => ?_) (fun h50_2 => ?_)
            · have h50_2 := h50_2
              have i50_2 := ti_le h50_2
              (try rw [nI_toInt (show k2 < 2 ^ 31 by omega)] at i50_2)
              (try rw [l_8] at i50_2)
              refine lv_aload_n hx hb d_MO_tuned_67 rfl (lv_at hl 3 rfl) ?_
              refine va_get (D := (dC, dI)) (ci := 5) (v := .int (sc 2)) (C := R_MO) (T := F_MO) (N := 30) hx hb ht in_MO hown hK hP 0 rfl rfl 2 (by decide) (ht _ tb_633) (fun _ h9 => h9) rfl d_MO_tuned_68 ?_
              refine lv_if_lt (tgt := 90) hx hb d_MO_tuned_71 (by decide) (fun h71_3 => ?_) (fun h71_3 => ?_)
              · have h71_3 := h71_3
                have i71_3 := ti_lt h71_3
                (try rw [l_0] at i71_3)
                refine lv_iload_n hx hb d_MO_tuned_90 rfl (lv_at hl 2 rfl) ?_
                exact W.iret (v := q) hx hb hr (fun t ht9 hW => ⟨q, rfl, trivial, ht9⟩) (fun q h => by cases h) d_MO_tuned_91
              · have h71_3 := h71_3
                have i71_3 := ti_nlt h71_3
                (try rw [l_0] at i71_3)
                refine lv_iload_n hx hb d_MO_tuned_74 rfl (lv_at hl 1 rfl) ?_
                refine lv_iconst (v := 2) hx hb d_MO_tuned_75 (by decide) ?_
                refine lv_icmp_ge (tgt := 90) hx hb d_MO_tuned_76 (by decide) (fun h76_4 => ?_) (fun h76_4 => ?_)
                · have h76_4 := h76_4
                  have i76_4 := ti_le h76_4
                  (try rw [l_2] at i76_4)
                  refine lv_iload_n hx hb d_MO_tuned_90 rfl (lv_at hl 2 rfl) ?_
                  exact W.iret (v := q) hx hb hr (fun t ht9 hW => ⟨q, rfl, trivial, ht9⟩) (fun q h => by cases h) d_MO_tuned_91
                · have h76_4 := h76_4
                  have i76_4 := ti_nle h76_4
                  (try rw [l_2] at i76_4)
                  refine lv_iload_n hx hb d_MO_tuned_79 rfl (lv_at hl 2 rfl) ?_
                  refine lv_iconst (v := 1) hx hb d_MO_tuned_80 (by decide) ?_
                  refine lv_aload_n hx hb d_MO_tuned_81 rfl (lv_at hl 3 rfl) ?_
                  refine va_get (D := (dC, dI)) (ci := 5) (v := .int (sc 2)) (C := R_MO) (T := F_MO) (N := 30) hx hb ht in_MO hown hK hP 0 rfl rfl 2 (by decide) (ht _ tb_633) (fun _ h9 => h9) rfl d_MO_tuned_82 ?_
                  refine lv_ishl hx hb d_MO_tuned_85 ?_
                  refine lv_topi (fun z1 _ => ?_)
                  refine lv_ior hx hb d_MO_tuned_86 ?_
                  refine lv_goto (tgt := 91) hx hb d_MO_tuned_87 (by decide) ?_
                  exact W.iret (v := q ||| z1) hx hb hr (fun t ht9 hW => ⟨q ||| z1, rfl, trivial, ht9⟩) (fun q h => by cases h) d_MO_tuned_91
            · have h50_2 := h50_2
              have i50_2 := ti_nle h50_2
              (try rw [nI_toInt (show k2 < 2 ^ 31 by omega)] at i50_2)
              (try rw [l_8] at i50_2)
              refine lv_iload_n hx hb d_MO_tuned_53 rfl (lv_at hl 1 rfl) ?_
              refine lv_iload_n hx hb d_MO_tuned_54 rfl (lv_at hl 2 rfl) ?_
              refine lv_iload_n hx hb d_MO_tuned_55 rfl (lv_at hl 0 rfl) ?_
              refine lv_ishr hx hb d_MO_tuned_56 ?_
              refine lv_topi (fun z2 _ => ?_)
              refine lv_iconst (v := 1) hx hb d_MO_tuned_57 (by decide) ?_
              refine lv_iand hx hb d_MO_tuned_58 ?_
              refine lv_iadd hx hb d_MO_tuned_59 ?_
              refine lv_istore_n hx hb d_MO_tuned_60 rfl hl (by decide) rfl (fun ls hl => ?_)
              have hl : lv_has ls 4 [(2, .int (m2 + (z2 &&& 1))), (3, .int (nI k2)), (1, .int q), (0, .ref g0)] := hl
              refine lv_iinc (k := 1) (v := nI (k2 + 1)) hx hb d_MO_tuned_61 hl rfl ((nI_succ k2).symm) (by decide) rfl (fun ls hl => ?_)
              have hl : lv_has ls 4 [(3, .int (nI (k2 + 1))), (2, .int (m2 + (z2 &&& 1))), (1, .int q), (0, .ref g0)] := hl
              refine lv_goto (tgt := 47) hx hb d_MO_tuned_64 (by decide) ?_
              exact ih_47 (k2 + 1) (m2 + (z2 &&& 1)) ls (by omega) (by omega) hl
        have hl := lv_sub hl [0, 1, 2, 3] (l' := [(3, .int 0), (2, .int 0), (1, .int q), (0, .ref g0)]) rfl
        have hl : lv_has ls 4 [(3, .int (nI 0)), (2, .int 0), (1, .int q), (0, .ref g0)] := hl
        exact J_47 ((8 - 0) + 1) 0 0 ls (by omega) (by omega) hl
      · have h9_1 := h9_1
        have i9_1 := ti_nle h9_1
        (try rw [nI_toInt (show k < 2 ^ 31 by omega)] at i9_1)
        (try rw [nI_toInt (show N < 2 ^ 31 by omega)] at i9_1)
        refine lv_aload_n hx hb d_MO_tuned_12 rfl (lv_at hl 2 rfl) ?_
        refine va_get (D := (dC, dI)) (ci := 5) (v := .ref (ad 11)) (C := R_MO) (T := F_MO) (N := 30) hx hb ht in_MO hown hK hP 0 rfl rfl 11 (by decide) (ht _ tb_642) (fun _ h9 => h9) rfl d_MO_tuned_13 ?_
        refine lv_iload_n hx hb d_MO_tuned_16 rfl (lv_at hl 0 rfl) ?_
        refine va_iald hx hb hK hP 8 0 rfl rfl (vp_in_nI (show k < 40 by omega) (by decide)) d_MO_tuned_17 ?_
        refine W.eq (g2 := F0 m 18 ls [.int (ia 11 k)]) (by rw [nI_clamp (show k < 2 ^ 31 by omega)]) ?_
        refine lv_iconst (v := 1) hx hb d_MO_tuned_18 (by decide) ?_
        refine lv_icmp_ne (tgt := 35) hx hb d_MO_tuned_19 (by decide) (fun h19_5 => ?_) (fun h19_5 => ?_)
        · have h19_5 := h19_5
          have i19_5 := ti_ne h19_5
          (try rw [l_1] at i19_5)
          refine lv_iload_n hx hb d_MO_tuned_35 rfl (lv_at hl 1 rfl) ?_
          refine lv_istore_n hx hb d_MO_tuned_36 rfl hl (by decide) rfl (fun ls hl => ?_)
          have hl : lv_has ls 4 [(1, .int q), (2, .int (nI k)), (0, .ref g0)] := hl
          refine lv_iinc (k := 1) (v := nI (k + 1)) hx hb d_MO_tuned_37 hl rfl ((nI_succ k).symm) (by decide) rfl (fun ls hl => ?_)
          have hl : lv_has ls 4 [(2, .int (nI (k + 1))), (1, .int q), (0, .ref g0)] := hl
          refine lv_goto (tgt := 4) hx hb d_MO_tuned_40 (by decide) ?_
          exact ih_4 (k + 1) q ls (by omega) (by omega) hl
        · have h19_5 := h19_5
          have i19_5 := ti_eq h19_5
          (try rw [l_1] at i19_5)
          refine lv_iload_n hx hb d_MO_tuned_22 rfl (lv_at hl 1 rfl) ?_
          refine lv_iconst (v := 1) hx hb d_MO_tuned_23 (by decide) ?_
          refine lv_aload_n hx hb d_MO_tuned_24 rfl (lv_at hl 2 rfl) ?_
          refine va_get (D := (dC, dI)) (ci := 5) (v := .ref (ad 5)) (C := R_MO) (T := F_MO) (N := 30) hx hb ht in_MO hown hK hP 0 rfl rfl 5 (by decide) (ht _ tb_636) (fun _ h9 => h9) rfl d_MO_tuned_25 ?_
          refine lv_iload_n hx hb d_MO_tuned_28 rfl (lv_at hl 0 rfl) ?_
          refine va_iald hx hb hK hP 2 0 rfl rfl (vp_in_nI (show k < 40 by omega) (by decide)) d_MO_tuned_29 ?_
          refine W.eq (g2 := F0 m 30 ls [.int (ia 5 k), .int 1, .int q]) (by rw [nI_clamp (show k < 2 ^ 31 by omega)]) ?_
          refine lv_ishl hx hb d_MO_tuned_30 ?_
          refine lv_topi (fun z3 _ => ?_)
          refine lv_ior hx hb d_MO_tuned_31 ?_
          refine lv_goto (tgt := 36) hx hb d_MO_tuned_32 (by decide) ?_
          refine lv_istore_n hx hb d_MO_tuned_36 rfl hl (by decide) rfl (fun ls hl => ?_)
          have hl : lv_has ls 4 [(1, .int (q ||| z3)), (2, .int (nI k)), (0, .ref g0)] := hl
          refine lv_iinc (k := 1) (v := nI (k + 1)) hx hb d_MO_tuned_37 hl rfl ((nI_succ k).symm) (by decide) rfl (fun ls hl => ?_)
          have hl : lv_has ls 4 [(2, .int (nI (k + 1))), (1, .int (q ||| z3)), (0, .ref g0)] := hl
          refine lv_goto (tgt := 4) hx hb d_MO_tuned_40 (by decide) ?_
          exact ih_4 (k + 1) (q ||| z3) ls (by omega) (by omega) hl
  have hl := lv_sub hl [0, 1, 2] (l' := [(2, .int 0), (1, .int 0), (0, .ref g0)]) rfl
  have hl : lv_has ls 4 [(2, .int (nI 0)), (1, .int 0), (0, .ref g0)] := hl
  exact J_4 ((N - 0) + 1) 0 0 ls (by omega) (by omega) hl
set_option maxHeartbeats 8000000 in
set_option maxRecDepth 100000 in
theorem t_MO_keepBack (l : Launch) (dC : Nat → ClassId) (dI : Nat → Nat → Nat) (g0 : Nat) (ad : Nat → Nat) (kI kZ : ClassId) (sc : Nat → Int32) (ia : Nat → Nat → Int32) (sz Bd : Nat) (T : Int) (N : Nat) (hI : MI T N sc ia) (x : Int32) : Met l y_MO_keepBack w_MO_keepBack ({ frames := 0, cells := 0, slots := 0, locals := 0 }) (frP (dC, dI) (MOW g0 ad kI kZ sc ia) (MOT kI kZ) sz Bd [.ref g0, .int x]) (tQ (dC, dI) (mW g0 ad kI kZ) (va_A (MOW g0 ad kI kZ sc ia) sz) vN (fun r u => same [28] sc u.1 ∧ same [29] ia u.2 ∧ (0 ≤ (u.1 28).toInt ∧ (u.1 28).toInt ≤ 30))) 0 0 (va_A (MOW g0 ad kI kZ sc ia) sz) := by
  refine Met.ofW (cc := c_MO_keepBack) (maxL := 3) (ret := none) (by decide) rfl ?_
  intro p e s m args below meth c s₁ B hml hv
  obtain ⟨rfl, ⟨hsz, hBs⟩, hP, hK, hD0, hV⟩ := hv
  have hx := B.exec
  have hb := B.bytes
  have hr := B.returns
  have ht : ∀ w ∈ tb_, w.before _ s = true := fun w h => atoms_spec (ws := w_MO_keepBack) B.pre w (List.mem_cons_of_mem _ h)
  have hown : s.vm.findClass R_MO = some m.cls := findClass_of_methodNamed B.named
  have hlocks := B.notSynchronized
  subst hsz
  have hD := hD0.self (sz := s.heap.size)
  have hAB : ∀ q, va_A (MOW g0 ad kI kZ sc ia) s.heap.size q → Bd ≤ q := fr_AB hD0 hBs
  generalize hAe : va_A (MOW g0 ad kI kZ sc ia) s.heap.size = A at hD hAB ⊢
  have hA : ∀ q : Nat, s.heap.size ≤ q → A q := fun q h => by rw [← hAe]; exact Or.inr h
  have hS : va_S A s.heap s.heap [] := va_S.rf
  have hs : same [28] sc sc := same.rf
  have hi : same [29] ia ia := same.rf
  have hP : va_P (dC, dI) cls_ (MOW g0 ad kI kZ sc ia) s.heap := hP
  have hl := lv_entry ([.ref g0, .int x]) (n := 3) (Nat.le_of_ble_eq_true rfl)
  rw [lg_entry_eq]
  generalize (lg_sl ([.ref g0, .int x]) ++ List.replicate (3 - (lg_sl ([.ref g0, .int x])).length) Slot.unset).toArray = ls at hl ⊢
  have hl : lv_has ls 3 [(0, .ref g0), (1, .int x)] := hl
  have e4 := hI.e4
  have hN := hI.hN
  have hT := hI.T
  refine lv_aload_n hx hb d_MO_keepBack_0 rfl (lv_at hl 0 rfl) ?_
  refine va_get (D := (dC, dI)) (ci := 5) (v := .int (sc 2)) (C := R_MO) (T := F_MO) (N := 30) hx hb ht in_MO hown hK hP 0 rfl rfl 2 (by decide) (ht _ tb_633) (fun _ h9 => h9) rfl d_MO_keepBack_1 ?_
  refine lv_if_lt (tgt := 18) hx hb d_MO_keepBack_4 (by decide) (fun h4_1 => ?_) (fun h4_1 => ?_)
  · have h4_1 := h4_1
    have i4_1 := ti_lt h4_1
    (try rw [l_0] at i4_1)
    refine lv_aload_n hx hb d_MO_keepBack_18 rfl (lv_at hl 0 rfl) ?_
    refine lv_iconst (v := 0) hx hb d_MO_keepBack_19 (by decide) ?_
    refine va_put (D := (dC, dI)) (ci := 5) (v := .int 0) (ty := .int) (C := R_MO) (T := F_MO) (N := 30) hx hb ht in_MO t_MO t_MO_ok n_MO hown hK hP hD hS 0 rfl rfl 28 (by decide) (ht _ tb_659) (fun _ h9 => h9) rfl (by decide +kernel) rfl rfl (Nat.le_of_ble_eq_true rfl) d_MO_keepBack_20 (fun H locs hP hD hS => ?_)
    have hP : va_P (dC, dI) cls_ (MOW g0 ad kI kZ (va_up sc 28 0) ia) H := hP
    have hD : va_D A (MOW g0 ad kI kZ (va_up sc 28 0) ia) := hD
    obtain ⟨sc1, esc1⟩ : ∃ q9_, q9_ = va_up sc 28 0 := ⟨_, rfl⟩
    rw [← esc1] at hP hD
    have hs : same [28] sc sc1 := by rw [esc1]; exact hs.up (by decide)
    have hz0 : (0 ≤ (sc1 28).toInt ∧ (sc1 28).toInt ≤ 30) := by rw [show sc1 28 = 0 by rw [esc1]; rfl]; rw [l_0]; omega
    exact W.vret hx hb hr (fun t ht9 hW => ⟨⟨(), (sc1, ia), rfl, ⟨hs, hi, hz0⟩, by rw [ht9]; exact hP, hD⟩, hS.F ht9⟩) hS.2.2 d_MO_keepBack_23
  · have h4_1 := h4_1
    have i4_1 := ti_nlt h4_1
    (try rw [l_0] at i4_1)
    refine lv_iload_n hx hb d_MO_keepBack_7 rfl (lv_at hl 1 rfl) ?_
    refine lv_aload_n hx hb d_MO_keepBack_8 rfl (lv_at hl 0 rfl) ?_
    refine va_get (D := (dC, dI)) (ci := 5) (v := .int (sc 2)) (C := R_MO) (T := F_MO) (N := 30) hx hb ht in_MO hown hK hP 0 rfl rfl 2 (by decide) (ht _ tb_633) (fun _ h9 => h9) rfl d_MO_keepBack_9 ?_
    refine lv_ishr hx hb d_MO_keepBack_12 ?_
    refine lv_topi (fun z2 _ => ?_)
    refine lv_iconst (v := 1) hx hb d_MO_keepBack_13 (by decide) ?_
    refine lv_iand hx hb d_MO_keepBack_14 ?_
    refine lv_if_ne (tgt := 24) hx hb d_MO_keepBack_15 (by decide) (fun h15_2 => ?_) (fun h15_2 => ?_)
    · have h15_2 := h15_2
      have i15_2 := ti_ne h15_2
      (try rw [l_0] at i15_2)
      refine lv_bipush (v := 29) hx hb d_MO_keepBack_24 (by decide) ?_
      refine lv_istore_n hx hb d_MO_keepBack_26 rfl hl (by decide) rfl (fun ls hl => ?_)
      have hl : lv_has ls 3 [(2, .int 29), (0, .ref g0), (1, .int x)] := hl
      have J_27 : ∀ (n_27 : Nat) (k : Nat) (sc_27 : Nat → Int32) (ia_27 : Nat → Nat → Int32) (H : Heap) (locs : List Loc) (ls : Array Slot), k < n_27 → k ≤ 29 → same [28] sc sc_27 → same [29] ia ia_27 → sc_27 28 = sc 28 → lv_has ls 3 [(2, .int (nI k)), (1, .int x), (0, .ref g0)] → va_P (dC, dI) cls_ (MOW g0 ad kI kZ sc_27 ia_27) H → va_D A (MOW g0 ad kI kZ sc_27 ia_27) → va_S A s.heap H locs → W p l e (headSpec w_MO_keepBack ({ frames := 0, cells := 0, slots := 0, locals := 0 })).room s m (([.ref g0, .int x] : List Value).toArray) below meth c H locs 0 0 (MQ below (tQ (dC, dI) (mW g0 ad kI kZ) A vN (fun r u => same [28] sc u.1 ∧ same [29] ia u.2 ∧ (0 ≤ (u.1 28).toInt ∧ (u.1 28).toInt ≤ 30))) (([.ref g0, .int x] : List Value).toArray) s 0 0 A) (F0 m 27 ls []) := by
        intro n_27
        induction n_27 with
        | zero => intro k sc_27 ia_27 H locs ls hmu hc27_0 hs hi h28 hl hP hD hS; exact absurd hmu (by omega)
        | succ n_27 ih_27 =>
          intro k sc_27 ia_27 H locs ls hmu hc27_0 hs hi h28 hl hP hD hS
          refine lv_iload_n hx hb d_MO_keepBack_27 rfl (lv_at hl 0 rfl) ?_
          refine lv_if_le (tgt := 51) hx hb d_MO_keepBack_28 (by decide) (fun h28_3 => ?_) (fun h28_3 => ?_)
          · have h28_3 := h28_3
            have i28_3 := ti_le h28_3
            (try rw [nI_toInt (show k < 2 ^ 31 by omega)] at i28_3)
            (try rw [l_0] at i28_3)
            refine lv_aload_n hx hb d_MO_keepBack_51 rfl (lv_at hl 2 rfl) ?_
            refine va_get (D := (dC, dI)) (ci := 5) (v := .ref (ad 29)) (C := R_MO) (T := F_MO) (N := 30) hx hb ht in_MO hown hK hP 0 rfl rfl 29 (by decide) (ht _ tb_660) (fun _ h9 => h9) rfl d_MO_keepBack_52 ?_
            refine lv_iconst (v := 0) hx hb d_MO_keepBack_55 (by decide) ?_
            refine lv_aload_n hx hb d_MO_keepBack_56 rfl (lv_at hl 2 rfl) ?_
            refine va_get (D := (dC, dI)) (ci := 5) (v := .ref (ad 3)) (C := R_MO) (T := F_MO) (N := 30) hx hb ht in_MO hown hK hP 0 rfl rfl 3 (by decide) (ht _ tb_634) (fun _ h9 => h9) rfl d_MO_keepBack_57 ?_
            refine lv_aload_n hx hb d_MO_keepBack_60 rfl (lv_at hl 2 rfl) ?_
            refine va_get (D := (dC, dI)) (ci := 5) (v := .int (sc_27 2)) (C := R_MO) (T := F_MO) (N := 30) hx hb ht in_MO hown hK hP 0 rfl rfl 2 (by decide) (ht _ tb_633) (fun _ h9 => h9) rfl d_MO_keepBack_61 ?_
            refine W.eq (g2 := F0 m 64 ls [.int (sc 2), .ref (ad 3), .int 0, .ref (ad 29)]) (by rw [hs 2 (by decide)]) ?_
            refine va_iald hx hb hK hP 1 0 rfl rfl (vp_in_iff.mpr (by have hwt := hI.2.2.2.1; exact ⟨by omega, by omega⟩)) d_MO_keepBack_64 ?_
            refine W.eq (g2 := F0 m 65 ls [.int (ia 3 ((sc 2).toNatClampNeg)), .int 0, .ref (ad 29)]) (by rw [hi 3 (by decide)]) ?_
            refine va_iast hx hb hK hP hD hS 24 0 rfl rfl (show vp_in (nI 0) 30 from vp_in_nI (by decide) (by decide)) d_MO_keepBack_65 (fun H locs hP hD hS => ?_)
            rw [show (0 : Int32).toNatClampNeg = 0 from by decide] at hP hD
            have hP : va_P (dC, dI) cls_ (MOW g0 ad kI kZ sc_27 (va_up ia_27 29 (upd (ia_27 29) 0 (ia 3 ((sc 2).toNatClampNeg))))) H := hP
            have hD : va_D A (MOW g0 ad kI kZ sc_27 (va_up ia_27 29 (upd (ia_27 29) 0 (ia 3 ((sc 2).toNatClampNeg))))) := hD
            obtain ⟨ia3, eia3⟩ : ∃ q9_, q9_ = va_up ia_27 29 (upd (ia_27 29) 0 (ia 3 ((sc 2).toNatClampNeg))) := ⟨_, rfl⟩
            rw [← eia3] at hP hD
            have hi : same [29] ia ia3 := by rw [eia3]; exact hi.up (by decide)
            refine lv_aload_n hx hb d_MO_keepBack_66 rfl (lv_at hl 2 rfl) ?_
            refine lv_aload_n hx hb d_MO_keepBack_67 rfl (lv_at hl 2 rfl) ?_
            refine va_get (D := (dC, dI)) (ci := 5) (v := .int (sc_27 28)) (C := R_MO) (T := F_MO) (N := 30) hx hb ht in_MO hown hK hP 0 rfl rfl 28 (by decide) (ht _ tb_659) (fun _ h9 => h9) rfl d_MO_keepBack_68 ?_
            refine W.eq (g2 := F0 m 71 ls [.int (sc 28), .ref g0]) (by rw [show sc_27 28 = sc 28 from h28]) ?_
            refine lv_bipush (v := 30) hx hb d_MO_keepBack_71 (by decide) ?_
            refine lv_icmp_ge (tgt := 85) hx hb d_MO_keepBack_73 (by decide) (fun h73_4 => ?_) (fun h73_4 => ?_)
            · have h73_4 := h73_4
              have i73_4 := ti_le h73_4
              (try rw [l_30] at i73_4)
              refine lv_bipush (v := 30) hx hb d_MO_keepBack_85 (by decide) ?_
              refine va_put (D := (dC, dI)) (ci := 5) (v := .int 30) (ty := .int) (C := R_MO) (T := F_MO) (N := 30) hx hb ht in_MO t_MO t_MO_ok n_MO hown hK hP hD hS 0 rfl rfl 28 (by decide) (ht _ tb_659) (fun _ h9 => h9) rfl (by decide +kernel) rfl rfl (Nat.le_of_ble_eq_true rfl) d_MO_keepBack_87 (fun H locs hP hD hS => ?_)
              have hP : va_P (dC, dI) cls_ (MOW g0 ad kI kZ (va_up sc_27 28 30) ia3) H := hP
              have hD : va_D A (MOW g0 ad kI kZ (va_up sc_27 28 30) ia3) := hD
              obtain ⟨sc4, esc4⟩ : ∃ q9_, q9_ = va_up sc_27 28 30 := ⟨_, rfl⟩
              rw [← esc4] at hP hD
              have hs : same [28] sc sc4 := by rw [esc4]; exact hs.up (by decide)
              have hz0 : (0 ≤ (sc4 28).toInt ∧ (sc4 28).toInt ≤ 30) := by rw [show sc4 28 = 30 by rw [esc4]; rfl]; rw [l_30]; omega
              exact W.vret hx hb hr (fun t ht9 hW => ⟨⟨(), (sc4, ia3), rfl, ⟨hs, hi, hz0⟩, by rw [ht9]; exact hP, hD⟩, hS.F ht9⟩) hS.2.2 d_MO_keepBack_90
            · have h73_4 := h73_4
              have i73_4 := ti_nle h73_4
              (try rw [l_30] at i73_4)
              refine lv_aload_n hx hb d_MO_keepBack_76 rfl (lv_at hl 2 rfl) ?_
              refine va_get (D := (dC, dI)) (ci := 5) (v := .int (sc_27 28)) (C := R_MO) (T := F_MO) (N := 30) hx hb ht in_MO hown hK hP 0 rfl rfl 28 (by decide) (ht _ tb_659) (fun _ h9 => h9) rfl d_MO_keepBack_77 ?_
              refine W.eq (g2 := F0 m 80 ls [.int (sc 28), .ref g0]) (by rw [show sc_27 28 = sc 28 from h28]) ?_
              refine lv_iconst (v := 1) hx hb d_MO_keepBack_80 (by decide) ?_
              refine lv_iadd hx hb d_MO_keepBack_81 ?_
              refine lv_goto (tgt := 87) hx hb d_MO_keepBack_82 (by decide) ?_
              refine va_put (D := (dC, dI)) (ci := 5) (v := .int ((sc 28) + 1)) (ty := .int) (C := R_MO) (T := F_MO) (N := 30) hx hb ht in_MO t_MO t_MO_ok n_MO hown hK hP hD hS 0 rfl rfl 28 (by decide) (ht _ tb_659) (fun _ h9 => h9) rfl (by decide +kernel) rfl rfl (Nat.le_of_ble_eq_true rfl) d_MO_keepBack_87 (fun H locs hP hD hS => ?_)
              have hP : va_P (dC, dI) cls_ (MOW g0 ad kI kZ (va_up sc_27 28 ((sc 28) + 1)) ia3) H := hP
              have hD : va_D A (MOW g0 ad kI kZ (va_up sc_27 28 ((sc 28) + 1)) ia3) := hD
              obtain ⟨sc5, esc5⟩ : ∃ q9_, q9_ = va_up sc_27 28 ((sc 28) + 1) := ⟨_, rfl⟩
              rw [← esc5] at hP hD
              have hs : same [28] sc sc5 := by rw [esc5]; exact hs.up (by decide)
              have hz0 : (0 ≤ (sc5 28).toInt ∧ (sc5 28).toInt ≤ 30) := by rw [show sc5 28 = (sc 28) + 1 by rw [esc5]; rfl]; have hbk := hI.2.2.2.2.1; rw [ti_add (by rw [l_1]; omega) (by rw [l_1]; omega), l_1]; omega
              exact W.vret hx hb hr (fun t ht9 hW => ⟨⟨(), (sc5, ia3), rfl, ⟨hs, hi, hz0⟩, by rw [ht9]; exact hP, hD⟩, hS.F ht9⟩) hS.2.2 d_MO_keepBack_90
          · have h28_3 := h28_3
            have i28_3 := ti_nle h28_3
            (try rw [nI_toInt (show k < 2 ^ 31 by omega)] at i28_3)
            (try rw [l_0] at i28_3)
            refine lv_aload_n hx hb d_MO_keepBack_31 rfl (lv_at hl 2 rfl) ?_
            refine va_get (D := (dC, dI)) (ci := 5) (v := .ref (ad 29)) (C := R_MO) (T := F_MO) (N := 30) hx hb ht in_MO hown hK hP 0 rfl rfl 29 (by decide) (ht _ tb_660) (fun _ h9 => h9) rfl d_MO_keepBack_32 ?_
            refine lv_iload_n hx hb d_MO_keepBack_35 rfl (lv_at hl 0 rfl) ?_
            refine lv_aload_n hx hb d_MO_keepBack_36 rfl (lv_at hl 2 rfl) ?_
            refine va_get (D := (dC, dI)) (ci := 5) (v := .ref (ad 29)) (C := R_MO) (T := F_MO) (N := 30) hx hb ht in_MO hown hK hP 0 rfl rfl 29 (by decide) (ht _ tb_660) (fun _ h9 => h9) rfl d_MO_keepBack_37 ?_
            refine lv_iload_n hx hb d_MO_keepBack_40 rfl (lv_at hl 0 rfl) ?_
            refine lv_iconst (v := 1) hx hb d_MO_keepBack_41 (by decide) ?_
            refine lv_isub hx hb d_MO_keepBack_42 ?_
            refine lv_topi (fun v6 ev6 => ?_)
            obtain rfl : v6 = nI (k - 1) := ev6.trans (by rw [show (1 : Int32) = nI 1 from rfl, pk_sub (show 1 ≤ k by omega)])
            refine va_iald hx hb hK hP 24 0 rfl rfl (vp_in_nI (show k - 1 < 30 by omega) (by decide)) d_MO_keepBack_43 ?_
            refine W.eq (g2 := F0 m 44 ls [.int (ia_27 29 (k - 1)), .int (nI k), .ref (ad 29)]) (by rw [nI_clamp (show k - 1 < 2 ^ 31 by omega)]) ?_
            refine va_iast hx hb hK hP hD hS 24 0 rfl rfl (vp_in_nI (show k < 30 by omega) (by decide)) d_MO_keepBack_44 (fun H locs hP hD hS => ?_)
            rw [nI_clamp (show k < 2 ^ 31 by omega)] at hP hD
            have hP : va_P (dC, dI) cls_ (MOW g0 ad kI kZ sc_27 (va_up ia_27 29 (upd (ia_27 29) k (ia_27 29 (k - 1))))) H := hP
            have hD : va_D A (MOW g0 ad kI kZ sc_27 (va_up ia_27 29 (upd (ia_27 29) k (ia_27 29 (k - 1))))) := hD
            obtain ⟨ia7, eia7⟩ : ∃ q9_, q9_ = va_up ia_27 29 (upd (ia_27 29) k (ia_27 29 (k - 1))) := ⟨_, rfl⟩
            rw [← eia7] at hP hD
            have hi : same [29] ia ia7 := by rw [eia7]; exact hi.up (by decide)
            refine lv_iinc (k := 0) (v := nI (k - 1)) hx hb d_MO_keepBack_45 hl rfl (show nI k + (-1) = nI (k - 1) from by obtain ⟨q, rfl⟩ : ∃ q, k = q + 1 := ⟨k - 1, by omega⟩; exact pk_m1 q) (by decide) rfl (fun ls hl => ?_)
            have hl : lv_has ls 3 [(2, .int (nI (k - 1))), (1, .int x), (0, .ref g0)] := hl
            refine lv_goto (tgt := 27) hx hb d_MO_keepBack_48 (by decide) ?_
            exact ih_27 (k - 1) sc_27 ia7 H _ ls (by omega) (by omega) hs hi (h28) hl hP hD hS
      have hl := lv_sub hl [0, 2, 1] (l' := [(2, .int 29), (1, .int x), (0, .ref g0)]) rfl
      have hl : lv_has ls 3 [(2, .int (nI 29)), (1, .int x), (0, .ref g0)] := hl
      exact J_27 (29 + 1) 29 sc ia s.heap _ ls (by omega) (by omega) hs hi (rfl) hl hP hD hS
    · have h15_2 := h15_2
      have i15_2 := ti_eq h15_2
      (try rw [l_0] at i15_2)
      refine lv_aload_n hx hb d_MO_keepBack_18 rfl (lv_at hl 0 rfl) ?_
      refine lv_iconst (v := 0) hx hb d_MO_keepBack_19 (by decide) ?_
      refine va_put (D := (dC, dI)) (ci := 5) (v := .int 0) (ty := .int) (C := R_MO) (T := F_MO) (N := 30) hx hb ht in_MO t_MO t_MO_ok n_MO hown hK hP hD hS 0 rfl rfl 28 (by decide) (ht _ tb_659) (fun _ h9 => h9) rfl (by decide +kernel) rfl rfl (Nat.le_of_ble_eq_true rfl) d_MO_keepBack_20 (fun H locs hP hD hS => ?_)
      have hP : va_P (dC, dI) cls_ (MOW g0 ad kI kZ (va_up sc 28 0) ia) H := hP
      have hD : va_D A (MOW g0 ad kI kZ (va_up sc 28 0) ia) := hD
      obtain ⟨sc8, esc8⟩ : ∃ q9_, q9_ = va_up sc 28 0 := ⟨_, rfl⟩
      rw [← esc8] at hP hD
      have hs : same [28] sc sc8 := by rw [esc8]; exact hs.up (by decide)
      have hz0 : (0 ≤ (sc8 28).toInt ∧ (sc8 28).toInt ≤ 30) := by rw [show sc8 28 = 0 by rw [esc8]; rfl]; rw [l_0]; omega
      exact W.vret hx hb hr (fun t ht9 hW => ⟨⟨(), (sc8, ia), rfl, ⟨hs, hi, hz0⟩, by rw [ht9]; exact hP, hD⟩, hS.F ht9⟩) hS.2.2 d_MO_keepBack_23
