abbrev c_MO_state : ByteArray := prog_7_method_17_code
abbrev y_MO_state : MethodName := ⟨"TwinTunersModel", "state", "(I)I"⟩
def w_MO_state : List Cond := .code y_MO_state c_MO_state 2 (some .int) :: tb_
abbrev c_MO_shortBy : ByteArray := prog_7_method_40_code
abbrev y_MO_shortBy : MethodName := ⟨"TwinTunersModel", "shortBy", "(I)I"⟩
def w_MO_shortBy : List Cond := .code y_MO_shortBy c_MO_shortBy 2 (some .int) :: tb_
abbrev c_MO_air : ByteArray := prog_7_method_21_code
abbrev y_MO_air : MethodName := ⟨"TwinTunersModel", "air", "(II)V"⟩
def w_MO_air : List Cond := .code y_MO_air c_MO_air 3 none :: tb_
abbrev c_MO_planFrom : ByteArray := prog_7_method_19_code
abbrev y_MO_planFrom : MethodName := ⟨"TwinTunersModel", "planFrom", "(I)I"⟩
def w_MO_planFrom : List Cond := .code y_MO_planFrom c_MO_planFrom 2 (some .int) :: tb_
abbrev c_MO_planTo : ByteArray := prog_7_method_20_code
abbrev y_MO_planTo : MethodName := ⟨"TwinTunersModel", "planTo", "(I)I"⟩
def w_MO_planTo : List Cond := .code y_MO_planTo c_MO_planTo 2 (some .int) :: tb_
abbrev c_MO_cancel : ByteArray := prog_7_method_8_code
abbrev y_MO_cancel : MethodName := ⟨"TwinTunersModel", "cancel", "(I)V"⟩
def w_MO_cancel : List Cond := .code y_MO_cancel c_MO_cancel 2 none :: tb_
abbrev c_MO_now : ByteArray := prog_7_method_35_code
abbrev y_MO_now : MethodName := ⟨"TwinTunersModel", "now", "()I"⟩
def w_MO_now : List Cond := .code y_MO_now c_MO_now 1 (some .int) :: tb_
abbrev c_MO_watch : ByteArray := prog_7_method_36_code
abbrev y_MO_watch : MethodName := ⟨"TwinTunersModel", "watch", "(I)I"⟩
def w_MO_watch : List Cond := .code y_MO_watch c_MO_watch 3 (some .int) :: tb_
abbrev c_MO_back : ByteArray := prog_7_method_37_code
abbrev y_MO_back : MethodName := ⟨"TwinTunersModel", "back", "(I)J"⟩
def w_MO_back : List Cond := .code y_MO_back c_MO_back 2 (some .long) :: tb_
set_option maxRecDepth 100000 in
theorem tb_743 : (.code ⟨"TwinTunersModel", "cancel", "(I)V"⟩ prog_7_method_8_code 2 none : Cond) ∈ tb_ := tb_w 743 rfl rfl
set_option maxRecDepth 100000 in
theorem tb_744 : (.methodLink "TwinTunersModel" 106 ⟨"TwinTunersModel", "isRequest", "(I)Z"⟩ : Cond) ∈ tb_ := tb_w 744 rfl rfl
set_option maxRecDepth 100000 in
theorem tb_746 : (.instanceMethod ⟨"TwinTunersModel", "isRequest", "(I)Z"⟩ : Cond) ∈ tb_ := tb_w 746 rfl rfl
set_option maxRecDepth 100000 in
theorem tb_751 : (.code ⟨"TwinTunersModel", "state", "(I)I"⟩ prog_7_method_17_code 2 (some .int) : Cond) ∈ tb_ := tb_w 751 rfl rfl
set_option maxRecDepth 100000 in
theorem tb_755 : (.code ⟨"TwinTunersModel", "planFrom", "(I)I"⟩ prog_7_method_19_code 2 (some .int) : Cond) ∈ tb_ := tb_w 755 rfl rfl
set_option maxRecDepth 100000 in
theorem tb_792 : (.methodLink "TwinTunersModel" 144 ⟨"TwinTunersModel", "ran", "(I)Z"⟩ : Cond) ∈ tb_ := tb_w 792 rfl rfl
set_option maxRecDepth 100000 in
theorem tb_794 : (.instanceMethod ⟨"TwinTunersModel", "ran", "(I)Z"⟩ : Cond) ∈ tb_ := tb_w 794 rfl rfl
set_option maxRecDepth 100000 in
theorem tb_799 : (.code ⟨"TwinTunersModel", "planTo", "(I)I"⟩ prog_7_method_20_code 2 (some .int) : Cond) ∈ tb_ := tb_w 799 rfl rfl
set_option maxRecDepth 100000 in
theorem tb_803 : (.code ⟨"TwinTunersModel", "air", "(II)V"⟩ prog_7_method_21_code 3 none : Cond) ∈ tb_ := tb_w 803 rfl rfl
set_option maxRecDepth 100000 in
theorem tb_859 : (.code ⟨"TwinTunersModel", "now", "()I"⟩ prog_7_method_35_code 1 (some .int) : Cond) ∈ tb_ := tb_w 859 rfl rfl
set_option maxRecDepth 100000 in
theorem tb_863 : (.code ⟨"TwinTunersModel", "watch", "(I)I"⟩ prog_7_method_36_code 3 (some .int) : Cond) ∈ tb_ := tb_w 863 rfl rfl
set_option maxRecDepth 100000 in
theorem tb_867 : (.code ⟨"TwinTunersModel", "back", "(I)J"⟩ prog_7_method_37_code 2 (some .long) : Cond) ∈ tb_ := tb_w 867 rfl rfl
set_option maxRecDepth 100000 in
theorem tb_868 : (.constantLong "TwinTunersModel" 183 (-1) : Cond) ∈ tb_ := tb_w 868 rfl rfl
set_option maxRecDepth 100000 in
theorem tb_869 : (.constantLong "TwinTunersModel" 185 (4294967295) : Cond) ∈ tb_ := tb_w 869 rfl rfl
set_option maxRecDepth 100000 in
theorem tb_881 : (.code ⟨"TwinTunersModel", "shortBy", "(I)I"⟩ prog_7_method_40_code 2 (some .int) : Cond) ∈ tb_ := tb_w 881 rfl rfl
theorem ts_24 : (.selects "TwinTunersModel" ⟨"TwinTunersModel", "isRequest", "(I)Z"⟩ ⟨"TwinTunersModel", "isRequest", "(I)Z"⟩ : Cond) ∈ tb_ := ts_w 24 rfl rfl
theorem ts_34 : (.selects "TwinTunersModel" ⟨"TwinTunersModel", "ran", "(I)Z"⟩ ⟨"TwinTunersModel", "ran", "(I)Z"⟩ : Cond) ∈ tb_ := ts_w 34 rfl rfl
theorem d_MO_air_0 : decode c_MO_air 0 = .ok (.aload_n 0, 1) := by decide +kernel
theorem d_MO_air_1 : decode c_MO_air 1 = .ok (.iload_n 1, 1) := by decide +kernel
theorem d_MO_air_2 : decode c_MO_air 2 = .ok (.ifCond .lt 9, 3) := by decide +kernel
theorem d_MO_air_5 : decode c_MO_air 5 = .ok (.iload_n 1, 1) := by decide +kernel
theorem d_MO_air_6 : decode c_MO_air 6 = .ok (.bipush 7, 2) := by decide +kernel
theorem d_MO_air_8 : decode c_MO_air 8 = .ok (.if_icmp .le 7, 3) := by decide +kernel
theorem d_MO_air_11 : decode c_MO_air 11 = .ok (.iconst 1, 1) := by decide +kernel
theorem d_MO_air_12 : decode c_MO_air 12 = .ok (.goto 4, 3) := by decide +kernel
theorem d_MO_air_15 : decode c_MO_air 15 = .ok (.iconst 0, 1) := by decide +kernel
theorem d_MO_air_16 : decode c_MO_air 16 = .ok (.invokevirtual 102, 3) := by decide +kernel
theorem d_MO_air_19 : decode c_MO_air 19 = .ok (.ifCond .ne 10, 3) := by decide +kernel
theorem d_MO_air_22 : decode c_MO_air 22 = .ok (.aload_n 0, 1) := by decide +kernel
theorem d_MO_air_23 : decode c_MO_air 23 = .ok (.getfield 13, 3) := by decide +kernel
theorem d_MO_air_26 : decode c_MO_air 26 = .ok (.iload_n 1, 1) := by decide +kernel
theorem d_MO_air_27 : decode c_MO_air 27 = .ok (.iload_n 2, 1) := by decide +kernel
theorem d_MO_air_28 : decode c_MO_air 28 = .ok (.iastore, 1) := by decide +kernel
theorem d_MO_air_29 : decode c_MO_air 29 = .ok (.return_, 1) := by decide +kernel
theorem d_MO_back_0 : decode c_MO_back 0 = .ok (.aload_n 0, 1) := by decide +kernel
theorem d_MO_back_1 : decode c_MO_back 1 = .ok (.iconst 0, 1) := by decide +kernel
theorem d_MO_back_2 : decode c_MO_back 2 = .ok (.putfield 87, 3) := by decide +kernel
theorem d_MO_back_5 : decode c_MO_back 5 = .ok (.iload_n 1, 1) := by decide +kernel
theorem d_MO_back_6 : decode c_MO_back 6 = .ok (.iconst 1, 1) := by decide +kernel
theorem d_MO_back_7 : decode c_MO_back 7 = .ok (.if_icmp .lt 11, 3) := by decide +kernel
theorem d_MO_back_10 : decode c_MO_back 10 = .ok (.iload_n 1, 1) := by decide +kernel
theorem d_MO_back_11 : decode c_MO_back 11 = .ok (.aload_n 0, 1) := by decide +kernel
theorem d_MO_back_12 : decode c_MO_back 12 = .ok (.getfield 162, 3) := by decide +kernel
theorem d_MO_back_15 : decode c_MO_back 15 = .ok (.if_icmp .le 9, 3) := by decide +kernel
theorem d_MO_back_18 : decode c_MO_back 18 = .ok (.ldc2_w 183, 3) := by decide +kernel
theorem d_MO_back_21 : decode c_MO_back 21 = .ok (.goto 16, 3) := by decide +kernel
theorem d_MO_back_24 : decode c_MO_back 24 = .ok (.aload_n 0, 1) := by decide +kernel
theorem d_MO_back_25 : decode c_MO_back 25 = .ok (.getfield 84, 3) := by decide +kernel
theorem d_MO_back_28 : decode c_MO_back 28 = .ok (.iload_n 1, 1) := by decide +kernel
theorem d_MO_back_29 : decode c_MO_back 29 = .ok (.iconst 1, 1) := by decide +kernel
theorem d_MO_back_30 : decode c_MO_back 30 = .ok (.isub, 1) := by decide +kernel
theorem d_MO_back_31 : decode c_MO_back 31 = .ok (.iaload, 1) := by decide +kernel
theorem d_MO_back_32 : decode c_MO_back 32 = .ok (.i2l, 1) := by decide +kernel
theorem d_MO_back_33 : decode c_MO_back 33 = .ok (.ldc2_w 185, 3) := by decide +kernel
theorem d_MO_back_36 : decode c_MO_back 36 = .ok (.land, 1) := by decide +kernel
theorem d_MO_back_37 : decode c_MO_back 37 = .ok (.lreturn, 1) := by decide +kernel
theorem d_MO_cancel_0 : decode c_MO_cancel 0 = .ok (.aload_n 0, 1) := by decide +kernel
theorem d_MO_cancel_1 : decode c_MO_cancel 1 = .ok (.aload_n 0, 1) := by decide +kernel
theorem d_MO_cancel_2 : decode c_MO_cancel 2 = .ok (.iload_n 1, 1) := by decide +kernel
theorem d_MO_cancel_3 : decode c_MO_cancel 3 = .ok (.invokevirtual 106, 3) := by decide +kernel
theorem d_MO_cancel_6 : decode c_MO_cancel 6 = .ok (.ifCond .ne 7, 3) := by decide +kernel
theorem d_MO_cancel_9 : decode c_MO_cancel 9 = .ok (.iconst 1, 1) := by decide +kernel
theorem d_MO_cancel_10 : decode c_MO_cancel 10 = .ok (.goto 18, 3) := by decide +kernel
theorem d_MO_cancel_13 : decode c_MO_cancel 13 = .ok (.aload_n 0, 1) := by decide +kernel
theorem d_MO_cancel_14 : decode c_MO_cancel 14 = .ok (.getfield 35, 3) := by decide +kernel
theorem d_MO_cancel_17 : decode c_MO_cancel 17 = .ok (.iload_n 1, 1) := by decide +kernel
theorem d_MO_cancel_18 : decode c_MO_cancel 18 = .ok (.iaload, 1) := by decide +kernel
theorem d_MO_cancel_19 : decode c_MO_cancel 19 = .ok (.iconst 1, 1) := by decide +kernel
theorem d_MO_cancel_20 : decode c_MO_cancel 20 = .ok (.if_icmp .le 7, 3) := by decide +kernel
theorem d_MO_cancel_23 : decode c_MO_cancel 23 = .ok (.iconst 2, 1) := by decide +kernel
theorem d_MO_cancel_24 : decode c_MO_cancel 24 = .ok (.goto 4, 3) := by decide +kernel
theorem d_MO_cancel_27 : decode c_MO_cancel 27 = .ok (.iconst 0, 1) := by decide +kernel
theorem d_MO_cancel_28 : decode c_MO_cancel 28 = .ok (.invokevirtual 102, 3) := by decide +kernel
theorem d_MO_cancel_31 : decode c_MO_cancel 31 = .ok (.ifCond .eq 4, 3) := by decide +kernel
theorem d_MO_cancel_34 : decode c_MO_cancel 34 = .ok (.return_, 1) := by decide +kernel
theorem d_MO_cancel_35 : decode c_MO_cancel 35 = .ok (.aload_n 0, 1) := by decide +kernel
theorem d_MO_cancel_36 : decode c_MO_cancel 36 = .ok (.getfield 41, 3) := by decide +kernel
theorem d_MO_cancel_39 : decode c_MO_cancel 39 = .ok (.iload_n 1, 1) := by decide +kernel
theorem d_MO_cancel_40 : decode c_MO_cancel 40 = .ok (.aload_n 0, 1) := by decide +kernel
theorem d_MO_cancel_41 : decode c_MO_cancel 41 = .ok (.getfield 93, 3) := by decide +kernel
theorem d_MO_cancel_44 : decode c_MO_cancel 44 = .ok (.iastore, 1) := by decide +kernel
theorem d_MO_cancel_45 : decode c_MO_cancel 45 = .ok (.aload_n 0, 1) := by decide +kernel
theorem d_MO_cancel_46 : decode c_MO_cancel 46 = .ok (.getfield 35, 3) := by decide +kernel
theorem d_MO_cancel_49 : decode c_MO_cancel 49 = .ok (.iload_n 1, 1) := by decide +kernel
theorem d_MO_cancel_50 : decode c_MO_cancel 50 = .ok (.aload_n 0, 1) := by decide +kernel
theorem d_MO_cancel_51 : decode c_MO_cancel 51 = .ok (.getfield 35, 3) := by decide +kernel
theorem d_MO_cancel_54 : decode c_MO_cancel 54 = .ok (.iload_n 1, 1) := by decide +kernel
theorem d_MO_cancel_55 : decode c_MO_cancel 55 = .ok (.iaload, 1) := by decide +kernel
theorem d_MO_cancel_56 : decode c_MO_cancel 56 = .ok (.ifCond .ne 7, 3) := by decide +kernel
theorem d_MO_cancel_59 : decode c_MO_cancel 59 = .ok (.iconst 4, 1) := by decide +kernel
theorem d_MO_cancel_60 : decode c_MO_cancel 60 = .ok (.goto 4, 3) := by decide +kernel
theorem d_MO_cancel_63 : decode c_MO_cancel 63 = .ok (.iconst 2, 1) := by decide +kernel
theorem d_MO_cancel_64 : decode c_MO_cancel 64 = .ok (.iastore, 1) := by decide +kernel
theorem d_MO_cancel_65 : decode c_MO_cancel 65 = .ok (.return_, 1) := by decide +kernel
theorem d_MO_now_0 : decode c_MO_now 0 = .ok (.aload_n 0, 1) := by decide +kernel
theorem d_MO_now_1 : decode c_MO_now 1 = .ok (.iconst 0, 1) := by decide +kernel
theorem d_MO_now_2 : decode c_MO_now 2 = .ok (.putfield 87, 3) := by decide +kernel
theorem d_MO_now_5 : decode c_MO_now 5 = .ok (.aload_n 0, 1) := by decide +kernel
theorem d_MO_now_6 : decode c_MO_now 6 = .ok (.getfield 93, 3) := by decide +kernel
theorem d_MO_now_9 : decode c_MO_now 9 = .ok (.ireturn, 1) := by decide +kernel
theorem d_MO_planFrom_0 : decode c_MO_planFrom 0 = .ok (.aload_n 0, 1) := by decide +kernel
theorem d_MO_planFrom_1 : decode c_MO_planFrom 1 = .ok (.aload_n 0, 1) := by decide +kernel
theorem d_MO_planFrom_2 : decode c_MO_planFrom 2 = .ok (.iload_n 1, 1) := by decide +kernel
theorem d_MO_planFrom_3 : decode c_MO_planFrom 3 = .ok (.invokevirtual 106, 3) := by decide +kernel
theorem d_MO_planFrom_6 : decode c_MO_planFrom 6 = .ok (.ifCond .eq 7, 3) := by decide +kernel
theorem d_MO_planFrom_9 : decode c_MO_planFrom 9 = .ok (.iconst 0, 1) := by decide +kernel
theorem d_MO_planFrom_10 : decode c_MO_planFrom 10 = .ok (.goto 4, 3) := by decide +kernel
theorem d_MO_planFrom_13 : decode c_MO_planFrom 13 = .ok (.iconst 1, 1) := by decide +kernel
theorem d_MO_planFrom_14 : decode c_MO_planFrom 14 = .ok (.invokevirtual 102, 3) := by decide +kernel
theorem d_MO_planFrom_17 : decode c_MO_planFrom 17 = .ok (.ifCond .eq 5, 3) := by decide +kernel
theorem d_MO_planFrom_20 : decode c_MO_planFrom 20 = .ok (.iconst 0, 1) := by decide +kernel
theorem d_MO_planFrom_21 : decode c_MO_planFrom 21 = .ok (.ireturn, 1) := by decide +kernel
theorem d_MO_planFrom_22 : decode c_MO_planFrom 22 = .ok (.aload_n 0, 1) := by decide +kernel
theorem d_MO_planFrom_23 : decode c_MO_planFrom 23 = .ok (.getfield 35, 3) := by decide +kernel
theorem d_MO_planFrom_26 : decode c_MO_planFrom 26 = .ok (.iload_n 1, 1) := by decide +kernel
theorem d_MO_planFrom_27 : decode c_MO_planFrom 27 = .ok (.iaload, 1) := by decide +kernel
theorem d_MO_planFrom_28 : decode c_MO_planFrom 28 = .ok (.ifCond .ne 27, 3) := by decide +kernel
theorem d_MO_planFrom_31 : decode c_MO_planFrom 31 = .ok (.aload_n 0, 1) := by decide +kernel
theorem d_MO_planFrom_32 : decode c_MO_planFrom 32 = .ok (.invokevirtual 141, 3) := by decide +kernel
theorem d_MO_planFrom_35 : decode c_MO_planFrom 35 = .ok (.aload_n 0, 1) := by decide +kernel
theorem d_MO_planFrom_36 : decode c_MO_planFrom 36 = .ok (.getfield 75, 3) := by decide +kernel
theorem d_MO_planFrom_39 : decode c_MO_planFrom 39 = .ok (.iload_n 1, 1) := by decide +kernel
theorem d_MO_planFrom_40 : decode c_MO_planFrom 40 = .ok (.baload, 1) := by decide +kernel
theorem d_MO_planFrom_41 : decode c_MO_planFrom 41 = .ok (.ifCond .eq 12, 3) := by decide +kernel
theorem d_MO_planFrom_44 : decode c_MO_planFrom 44 = .ok (.aload_n 0, 1) := by decide +kernel
theorem d_MO_planFrom_45 : decode c_MO_planFrom 45 = .ok (.getfield 78, 3) := by decide +kernel
theorem d_MO_planFrom_48 : decode c_MO_planFrom 48 = .ok (.iload_n 1, 1) := by decide +kernel
theorem d_MO_planFrom_49 : decode c_MO_planFrom 49 = .ok (.iaload, 1) := by decide +kernel
theorem d_MO_planFrom_50 : decode c_MO_planFrom 50 = .ok (.goto 4, 3) := by decide +kernel
theorem d_MO_planFrom_53 : decode c_MO_planFrom 53 = .ok (.iconst (-1), 1) := by decide +kernel
theorem d_MO_planFrom_54 : decode c_MO_planFrom 54 = .ok (.ireturn, 1) := by decide +kernel
theorem d_MO_planFrom_55 : decode c_MO_planFrom 55 = .ok (.aload_n 0, 1) := by decide +kernel
theorem d_MO_planFrom_56 : decode c_MO_planFrom 56 = .ok (.iload_n 1, 1) := by decide +kernel
theorem d_MO_planFrom_57 : decode c_MO_planFrom 57 = .ok (.invokevirtual 144, 3) := by decide +kernel
theorem d_MO_planFrom_60 : decode c_MO_planFrom 60 = .ok (.ifCond .eq 12, 3) := by decide +kernel
theorem d_MO_planFrom_63 : decode c_MO_planFrom 63 = .ok (.aload_n 0, 1) := by decide +kernel
theorem d_MO_planFrom_64 : decode c_MO_planFrom 64 = .ok (.getfield 38, 3) := by decide +kernel
theorem d_MO_planFrom_67 : decode c_MO_planFrom 67 = .ok (.iload_n 1, 1) := by decide +kernel
theorem d_MO_planFrom_68 : decode c_MO_planFrom 68 = .ok (.iaload, 1) := by decide +kernel
theorem d_MO_planFrom_69 : decode c_MO_planFrom 69 = .ok (.goto 4, 3) := by decide +kernel
theorem d_MO_planFrom_72 : decode c_MO_planFrom 72 = .ok (.iconst (-1), 1) := by decide +kernel
theorem d_MO_planFrom_73 : decode c_MO_planFrom 73 = .ok (.ireturn, 1) := by decide +kernel
theorem d_MO_planTo_0 : decode c_MO_planTo 0 = .ok (.aload_n 0, 1) := by decide +kernel
theorem d_MO_planTo_1 : decode c_MO_planTo 1 = .ok (.aload_n 0, 1) := by decide +kernel
theorem d_MO_planTo_2 : decode c_MO_planTo 2 = .ok (.iload_n 1, 1) := by decide +kernel
theorem d_MO_planTo_3 : decode c_MO_planTo 3 = .ok (.invokevirtual 106, 3) := by decide +kernel
theorem d_MO_planTo_6 : decode c_MO_planTo 6 = .ok (.ifCond .eq 7, 3) := by decide +kernel
theorem d_MO_planTo_9 : decode c_MO_planTo 9 = .ok (.iconst 0, 1) := by decide +kernel
theorem d_MO_planTo_10 : decode c_MO_planTo 10 = .ok (.goto 4, 3) := by decide +kernel
theorem d_MO_planTo_13 : decode c_MO_planTo 13 = .ok (.iconst 1, 1) := by decide +kernel
theorem d_MO_planTo_14 : decode c_MO_planTo 14 = .ok (.invokevirtual 102, 3) := by decide +kernel
theorem d_MO_planTo_17 : decode c_MO_planTo 17 = .ok (.ifCond .eq 5, 3) := by decide +kernel
theorem d_MO_planTo_20 : decode c_MO_planTo 20 = .ok (.iconst 0, 1) := by decide +kernel
theorem d_MO_planTo_21 : decode c_MO_planTo 21 = .ok (.ireturn, 1) := by decide +kernel
theorem d_MO_planTo_22 : decode c_MO_planTo 22 = .ok (.aload_n 0, 1) := by decide +kernel
theorem d_MO_planTo_23 : decode c_MO_planTo 23 = .ok (.getfield 35, 3) := by decide +kernel
theorem d_MO_planTo_26 : decode c_MO_planTo 26 = .ok (.iload_n 1, 1) := by decide +kernel
theorem d_MO_planTo_27 : decode c_MO_planTo 27 = .ok (.iaload, 1) := by decide +kernel
theorem d_MO_planTo_28 : decode c_MO_planTo 28 = .ok (.ifCond .eq 13, 3) := by decide +kernel
theorem d_MO_planTo_31 : decode c_MO_planTo 31 = .ok (.aload_n 0, 1) := by decide +kernel
theorem d_MO_planTo_32 : decode c_MO_planTo 32 = .ok (.getfield 35, 3) := by decide +kernel
theorem d_MO_planTo_35 : decode c_MO_planTo 35 = .ok (.iload_n 1, 1) := by decide +kernel
theorem d_MO_planTo_36 : decode c_MO_planTo 36 = .ok (.iaload, 1) := by decide +kernel
theorem d_MO_planTo_37 : decode c_MO_planTo 37 = .ok (.iconst 1, 1) := by decide +kernel
theorem d_MO_planTo_38 : decode c_MO_planTo 38 = .ok (.if_icmp .ne 37, 3) := by decide +kernel
theorem d_MO_planTo_41 : decode c_MO_planTo 41 = .ok (.aload_n 0, 1) := by decide +kernel
theorem d_MO_planTo_42 : decode c_MO_planTo 42 = .ok (.invokevirtual 141, 3) := by decide +kernel
theorem d_MO_planTo_45 : decode c_MO_planTo 45 = .ok (.aload_n 0, 1) := by decide +kernel
theorem d_MO_planTo_46 : decode c_MO_planTo 46 = .ok (.getfield 35, 3) := by decide +kernel
theorem d_MO_planTo_49 : decode c_MO_planTo 49 = .ok (.iload_n 1, 1) := by decide +kernel
theorem d_MO_planTo_50 : decode c_MO_planTo 50 = .ok (.iaload, 1) := by decide +kernel
theorem d_MO_planTo_51 : decode c_MO_planTo 51 = .ok (.iconst 1, 1) := by decide +kernel
theorem d_MO_planTo_52 : decode c_MO_planTo 52 = .ok (.if_icmp .eq 12, 3) := by decide +kernel
theorem d_MO_planTo_55 : decode c_MO_planTo 55 = .ok (.aload_n 0, 1) := by decide +kernel
theorem d_MO_planTo_56 : decode c_MO_planTo 56 = .ok (.getfield 75, 3) := by decide +kernel
theorem d_MO_planTo_59 : decode c_MO_planTo 59 = .ok (.iload_n 1, 1) := by decide +kernel
theorem d_MO_planTo_60 : decode c_MO_planTo 60 = .ok (.baload, 1) := by decide +kernel
theorem d_MO_planTo_61 : decode c_MO_planTo 61 = .ok (.ifCond .eq 12, 3) := by decide +kernel
theorem d_MO_planTo_64 : decode c_MO_planTo 64 = .ok (.aload_n 0, 1) := by decide +kernel
theorem d_MO_planTo_65 : decode c_MO_planTo 65 = .ok (.getfield 81, 3) := by decide +kernel
theorem d_MO_planTo_68 : decode c_MO_planTo 68 = .ok (.iload_n 1, 1) := by decide +kernel
theorem d_MO_planTo_69 : decode c_MO_planTo 69 = .ok (.iaload, 1) := by decide +kernel
theorem d_MO_planTo_70 : decode c_MO_planTo 70 = .ok (.goto 4, 3) := by decide +kernel
theorem d_MO_planTo_73 : decode c_MO_planTo 73 = .ok (.iconst (-1), 1) := by decide +kernel
theorem d_MO_planTo_74 : decode c_MO_planTo 74 = .ok (.ireturn, 1) := by decide +kernel
theorem d_MO_planTo_75 : decode c_MO_planTo 75 = .ok (.aload_n 0, 1) := by decide +kernel
theorem d_MO_planTo_76 : decode c_MO_planTo 76 = .ok (.iload_n 1, 1) := by decide +kernel
theorem d_MO_planTo_77 : decode c_MO_planTo 77 = .ok (.invokevirtual 144, 3) := by decide +kernel
theorem d_MO_planTo_80 : decode c_MO_planTo 80 = .ok (.ifCond .eq 12, 3) := by decide +kernel
theorem d_MO_planTo_83 : decode c_MO_planTo 83 = .ok (.aload_n 0, 1) := by decide +kernel
theorem d_MO_planTo_84 : decode c_MO_planTo 84 = .ok (.getfield 41, 3) := by decide +kernel
theorem d_MO_planTo_87 : decode c_MO_planTo 87 = .ok (.iload_n 1, 1) := by decide +kernel
theorem d_MO_planTo_88 : decode c_MO_planTo 88 = .ok (.iaload, 1) := by decide +kernel
theorem d_MO_planTo_89 : decode c_MO_planTo 89 = .ok (.goto 4, 3) := by decide +kernel
theorem d_MO_planTo_92 : decode c_MO_planTo 92 = .ok (.iconst (-1), 1) := by decide +kernel
theorem d_MO_planTo_93 : decode c_MO_planTo 93 = .ok (.ireturn, 1) := by decide +kernel
theorem d_MO_shortBy_0 : decode c_MO_shortBy 0 = .ok (.aload_n 0, 1) := by decide +kernel
theorem d_MO_shortBy_1 : decode c_MO_shortBy 1 = .ok (.aload_n 0, 1) := by decide +kernel
theorem d_MO_shortBy_2 : decode c_MO_shortBy 2 = .ok (.iload_n 1, 1) := by decide +kernel
theorem d_MO_shortBy_3 : decode c_MO_shortBy 3 = .ok (.invokevirtual 106, 3) := by decide +kernel
theorem d_MO_shortBy_6 : decode c_MO_shortBy 6 = .ok (.ifCond .eq 7, 3) := by decide +kernel
theorem d_MO_shortBy_9 : decode c_MO_shortBy 9 = .ok (.iconst 0, 1) := by decide +kernel
theorem d_MO_shortBy_10 : decode c_MO_shortBy 10 = .ok (.goto 4, 3) := by decide +kernel
theorem d_MO_shortBy_13 : decode c_MO_shortBy 13 = .ok (.iconst 1, 1) := by decide +kernel
theorem d_MO_shortBy_14 : decode c_MO_shortBy 14 = .ok (.invokevirtual 102, 3) := by decide +kernel
theorem d_MO_shortBy_17 : decode c_MO_shortBy 17 = .ok (.ifCond .eq 7, 3) := by decide +kernel
theorem d_MO_shortBy_20 : decode c_MO_shortBy 20 = .ok (.iconst 0, 1) := by decide +kernel
theorem d_MO_shortBy_21 : decode c_MO_shortBy 21 = .ok (.goto 9, 3) := by decide +kernel
theorem d_MO_shortBy_24 : decode c_MO_shortBy 24 = .ok (.aload_n 0, 1) := by decide +kernel
theorem d_MO_shortBy_25 : decode c_MO_shortBy 25 = .ok (.getfield 44, 3) := by decide +kernel
theorem d_MO_shortBy_28 : decode c_MO_shortBy 28 = .ok (.iload_n 1, 1) := by decide +kernel
theorem d_MO_shortBy_29 : decode c_MO_shortBy 29 = .ok (.iaload, 1) := by decide +kernel
theorem d_MO_shortBy_30 : decode c_MO_shortBy 30 = .ok (.ireturn, 1) := by decide +kernel
theorem d_MO_state_0 : decode c_MO_state 0 = .ok (.aload_n 0, 1) := by decide +kernel
theorem d_MO_state_1 : decode c_MO_state 1 = .ok (.aload_n 0, 1) := by decide +kernel
theorem d_MO_state_2 : decode c_MO_state 2 = .ok (.iload_n 1, 1) := by decide +kernel
theorem d_MO_state_3 : decode c_MO_state 3 = .ok (.invokevirtual 106, 3) := by decide +kernel
theorem d_MO_state_6 : decode c_MO_state 6 = .ok (.ifCond .eq 7, 3) := by decide +kernel
theorem d_MO_state_9 : decode c_MO_state 9 = .ok (.iconst 0, 1) := by decide +kernel
theorem d_MO_state_10 : decode c_MO_state 10 = .ok (.goto 4, 3) := by decide +kernel
theorem d_MO_state_13 : decode c_MO_state 13 = .ok (.iconst 1, 1) := by decide +kernel
theorem d_MO_state_14 : decode c_MO_state 14 = .ok (.invokevirtual 102, 3) := by decide +kernel
theorem d_MO_state_17 : decode c_MO_state 17 = .ok (.ifCond .eq 7, 3) := by decide +kernel
theorem d_MO_state_20 : decode c_MO_state 20 = .ok (.iconst 0, 1) := by decide +kernel
theorem d_MO_state_21 : decode c_MO_state 21 = .ok (.goto 9, 3) := by decide +kernel
theorem d_MO_state_24 : decode c_MO_state 24 = .ok (.aload_n 0, 1) := by decide +kernel
theorem d_MO_state_25 : decode c_MO_state 25 = .ok (.getfield 35, 3) := by decide +kernel
theorem d_MO_state_28 : decode c_MO_state 28 = .ok (.iload_n 1, 1) := by decide +kernel
theorem d_MO_state_29 : decode c_MO_state 29 = .ok (.iaload, 1) := by decide +kernel
theorem d_MO_state_30 : decode c_MO_state 30 = .ok (.ireturn, 1) := by decide +kernel
theorem d_MO_watch_0 : decode c_MO_watch 0 = .ok (.aload_n 0, 1) := by decide +kernel
theorem d_MO_watch_1 : decode c_MO_watch 1 = .ok (.iload_n 1, 1) := by decide +kernel
theorem d_MO_watch_2 : decode c_MO_watch 2 = .ok (.iconst (-1), 1) := by decide +kernel
theorem d_MO_watch_3 : decode c_MO_watch 3 = .ok (.if_icmp .lt 9, 3) := by decide +kernel
theorem d_MO_watch_6 : decode c_MO_watch 6 = .ok (.iload_n 1, 1) := by decide +kernel
theorem d_MO_watch_7 : decode c_MO_watch 7 = .ok (.bipush 7, 2) := by decide +kernel
theorem d_MO_watch_9 : decode c_MO_watch 9 = .ok (.if_icmp .le 7, 3) := by decide +kernel
theorem d_MO_watch_12 : decode c_MO_watch 12 = .ok (.iconst 1, 1) := by decide +kernel
theorem d_MO_watch_13 : decode c_MO_watch 13 = .ok (.goto 4, 3) := by decide +kernel
theorem d_MO_watch_16 : decode c_MO_watch 16 = .ok (.iconst 0, 1) := by decide +kernel
theorem d_MO_watch_17 : decode c_MO_watch 17 = .ok (.invokevirtual 102, 3) := by decide +kernel
theorem d_MO_watch_20 : decode c_MO_watch 20 = .ok (.ifCond .eq 5, 3) := by decide +kernel
theorem d_MO_watch_23 : decode c_MO_watch 23 = .ok (.iconst 0, 1) := by decide +kernel
theorem d_MO_watch_24 : decode c_MO_watch 24 = .ok (.ireturn, 1) := by decide +kernel
theorem d_MO_watch_25 : decode c_MO_watch 25 = .ok (.aload_n 0, 1) := by decide +kernel
theorem d_MO_watch_26 : decode c_MO_watch 26 = .ok (.getfield 9, 3) := by decide +kernel
theorem d_MO_watch_29 : decode c_MO_watch 29 = .ok (.istore_n 2, 1) := by decide +kernel
theorem d_MO_watch_30 : decode c_MO_watch 30 = .ok (.aload_n 0, 1) := by decide +kernel
theorem d_MO_watch_31 : decode c_MO_watch 31 = .ok (.iload_n 1, 1) := by decide +kernel
theorem d_MO_watch_32 : decode c_MO_watch 32 = .ok (.putfield 9, 3) := by decide +kernel
theorem d_MO_watch_35 : decode c_MO_watch 35 = .ok (.aload_n 0, 1) := by decide +kernel
theorem d_MO_watch_36 : decode c_MO_watch 36 = .ok (.iconst 0, 1) := by decide +kernel
theorem d_MO_watch_37 : decode c_MO_watch 37 = .ok (.putfield 162, 3) := by decide +kernel
theorem d_MO_watch_40 : decode c_MO_watch 40 = .ok (.iload_n 2, 1) := by decide +kernel
theorem d_MO_watch_41 : decode c_MO_watch 41 = .ok (.ireturn, 1) := by decide +kernel
theorem lc_t (x : Int32) {y : Int32} (h1 : 0 ≤ y.toInt) (h2 : y.toInt ≤ 1000000) : (x.toInt64 ≤ y.toInt64 + 1000) ↔ x.toInt ≤ y.toInt + 1000 := by
  have e1 : (y.toInt64 + 1000).toInt = y.toInt + 1000 := by
    rw [Int64.toInt_add, Int32.toInt_toInt64, show (1000 : Int64).toInt = 1000 from by decide]
    apply Int.bmod_eq_of_le <;> omega
  rw [Int64.le_iff_toInt_le, e1, Int32.toInt_toInt64]
theorem lc_n {x y : Int32} (h1 : 0 ≤ y.toInt) (h2 : y.toInt ≤ 1000000) (h : ¬ 0 < lg_cmp x.toInt64 (y.toInt64 + 1000)) : x.toInt ≤ y.toInt + 1000 := (lc_t x h1 h2).mp ((lg_cmp_le _ _).mp (Int32.not_lt.mp h))
theorem lc_p {x y : Int32} (h1 : 0 ≤ y.toInt) (h2 : y.toInt ≤ 1000000) (h : lg_cmp x.toInt64 (y.toInt64 + 1000) ≤ 0) : x.toInt ≤ y.toInt + 1000 := (lc_t x h1 h2).mp ((lg_cmp_le _ _).mp h)
theorem lc_g {x y : Int32} (h1 : 0 ≤ y.toInt) (h2 : y.toInt ≤ 1000000) (h : ¬ lg_cmp x.toInt64 (y.toInt64 + 1000) ≤ 0) : ¬ x.toInt ≤ y.toInt + 1000 := fun q => h ((lg_cmp_le _ _).mpr ((lc_t x h1 h2).mpr q))
theorem of_n {x : Int32} {n : Nat} (h1 : 0 ≤ x.toInt) (h2 : x.toInt ≤ (n : Int)) : ∃ d : Nat, d ≤ n ∧ x = nI d := by
  have h3 := ti_hi x
  exact ⟨x.toInt.toNat, by omega, it_eq (by rw [nI_toInt (by omega)]; omega)⟩
theorem in_of {x : Int32} {n : Nat} (h1 : 0 ≤ x.toInt) (h2 : x.toInt < (n : Int)) : vp_in x n := vp_in_iff.mpr ⟨h1, h2⟩
theorem MI_req {T : Int} {N : Nat} {sc sc' : Nat → Int32} {ia ia' : Nat → Nat → Int32} (h : MI T N sc ia) (hN : N < 40) (ho : oc (ia 11) N < 12) (hs : same [0, 4] sc sc') (h4 : sc' 4 = nI (N + 1)) (hi : same [5, 6, 7, 8, 9, 10] ia ia') (h5 : ∀ i, i ≠ N → ia' 5 i = ia 5 i) (h6 : ∀ i, i ≠ N → ia' 6 i = ia 6 i) (h7 : ∀ i, i ≠ N → ia' 7 i = ia 7 i) (h9 : ∀ i, i ≠ N → ia' 9 i = ia 9 i) (h10 : ∀ i, i ≠ N → ia' 10 i = ia 10 i)
    (hn : (0 ≤ (ia' 5 N).toInt ∧ (ia' 5 N).toInt ≤ 7) ∧ (0 ≤ (ia' 6 N).toInt ∧ (ia' 6 N).toInt ≤ T + 1000) ∧ (1 ≤ (ia' 7 N).toInt ∧ (ia' 7 N).toInt ≤ 60) ∧ (0 ≤ (ia' 9 N).toInt ∧ (ia' 9 N).toInt ≤ 9) ∧ (0 ≤ (ia' 10 N).toInt ∧ (ia' 10 N).toInt ≤ 9)) : MI T (N + 1) sc' ia' := by
  show mI T (N + 1) (sc' 1) (sc' 4) (sc' 2) (sc' 28) (ia' 5) (ia' 6) (ia' 7) (ia' 9) (ia' 10) (ia' 11) (ia' 12) (ia' 13)
  rw [hs 1 (by decide), hs 2 (by decide), hs 28 (by decide), hi 11 (by decide), hi 12 (by decide), hi 13 (by decide)]
  obtain ⟨a1, a2, a3, a4, a5, a6, a7, a8⟩ := h
  refine ⟨a1, a2, ⟨by omega, h4⟩, a4, a5, ?_, fun i hi9 => a7 i (by omega), fun i hi9 => ?_⟩
  · show oc (ia 11) N + _ ≤ 12
    split <;> omega
  · by_cases e : i = N
    · subst e
      obtain ⟨b1, b2, b3, b4, b5⟩ := hn
      exact ⟨b1, b2, b3, b4, b5, fun q => absurd ((a7 i (Nat.le_refl _)).symm.trans q) (by decide)⟩
    · rw [h5 i e, h6 i e, h7 i e, h9 i e, h10 i e]; exact a8 i (by omega)
theorem MI_w {T : Int} {N : Nat} {sc sc' : Nat → Int32} {ia ia' : Nat → Nat → Int32} (h : MI T N sc ia) (hs : same [0, 2, 28] sc sc') (hi : same [] ia ia') (hb : sc' 28 = 0) (hw : -1 ≤ (sc' 2).toInt ∧ (sc' 2).toInt ≤ 7) : MI T N sc' ia' := by
  obtain rfl : ia' = ia := funext fun j => hi j (by simp)
  show mI T N (sc' 1) (sc' 4) (sc' 2) (sc' 28) (ia' 5) (ia' 6) (ia' 7) (ia' 9) (ia' 10) (ia' 11) (ia' 12) (ia' 13)
  rw [hs 1 (by decide), hs 4 (by decide), hb]
  obtain ⟨a1, a2, a3, a4, a5, a6, a7, a8⟩ := h
  exact ⟨a1, a2, a3, hw, by rw [l_0]; omega, a6, a7, a8⟩
/-- states behind a cut: the same, or open and now FINISHED or MISSED -/
def stC (f g : Nat → Int32) : Prop := ∀ i : Nat, g i = f i ∨ ((f i = 0 ∨ f i = 1) ∧ (g i = 2 ∨ g i = 3))
theorem stC.one {f g : Nat → Int32} (a : stC f g) {i : Nat} (h : g i = 1) : f i = 1 := by
  rcases a i with x | ⟨_, x | x⟩
  · exact x.symm.trans h
  · exact absurd (h.symm.trans x) (by decide)
  · exact absurd (h.symm.trans x) (by decide)
theorem stC.op {f g : Nat → Int32} (a : stC f g) {i : Nat} (h : g i = 0 ∨ g i = 1) : g i = f i := by
  rcases a i with x | ⟨_, x | x⟩
  · exact x
  · rw [x] at h; exact absurd h (by decide)
  · rw [x] at h; exact absurd h (by decide)
theorem stC_oc {f g : Nat → Int32} (a : stC f g) : ∀ n, oc g n ≤ oc f n := by
  intro n
  induction n with
  | zero => exact Nat.le_refl _
  | succ n ih =>
    show oc g n + _ ≤ oc f n + _
    by_cases q : g n = 0 ∨ g n = 1
    · rw [a.op q]; omega
    · rw [if_neg q]; omega
theorem MI_cut {T : Int} {N : Nat} {sc sc' : Nat → Int32} {ia ia' : Nat → Nat → Int32} {x : Int32} (h : MI T N sc ia) (h0 : (sc 1).toInt ≤ x.toInt) (hT : x.toInt ≤ T) (h1 : sc' 1 = x) (h28 : sc' 28 = 0) (hs : same [0, 1, 28] sc sc') (hi : same [11, 13, 17, 20] ia ia') (hO : stC (ia 11) (ia' 11)) (hZ : ∀ i, N ≤ i → ia' 11 i = ia 11 i) (hE : ∀ i, ia' 11 i = 1 → ia' 13 i = ia 13 i) (hG : ∀ i, i < N → ia' 11 i = 1 → x.toInt < (ia 6 i).toInt + (ia 7 i).toInt) : MI T N sc' ia' := by
  show mI T N (sc' 1) (sc' 4) (sc' 2) (sc' 28) (ia' 5) (ia' 6) (ia' 7) (ia' 9) (ia' 10) (ia' 11) (ia' 12) (ia' 13)
  rw [h1, h28, hs 4 (by decide), hs 2 (by decide), hi 5 (by decide), hi 6 (by decide), hi 7 (by decide), hi 9 (by decide), hi 10 (by decide), hi 12 (by decide)]
  obtain ⟨a1, a2, a3, a4, a5, a6, a7, a8⟩ := h
  refine ⟨a1, ⟨by omega, hT⟩, a3, a4, by rw [l_0]; omega, Nat.le_trans (stC_oc hO N) a6, fun i hi9 => (hZ i hi9).trans (a7 i hi9), fun i hi9 => ?_⟩
  obtain ⟨b1, b2, b3, b4, b5, b6⟩ := a8 i hi9
  refine ⟨b1, b2, b3, b4, b5, fun q => ?_⟩
  have b7 := b6 (hO.one q)
  have b8 := hG i hi9 q
  rw [hE i q]
  omega
set_option maxHeartbeats 8000000 in
set_option maxRecDepth 100000 in
theorem t_MO_state (l : Launch) (dC : Nat → ClassId) (dI : Nat → Nat → Nat) (g0 : Nat) (ad : Nat → Nat) (kI kZ : ClassId) (sc : Nat → Int32) (ia : Nat → Nat → Int32) (sz Bd : Nat) (T : Int) (N : Nat) (hI : MI T N sc ia) (x : Int32) : Met l y_MO_state w_MO_state ({ frames := 1, cells := 0, slots := 0, locals := 21 }) (frP (dC, dI) (MOW g0 ad kI kZ sc ia) (MOT kI kZ) sz Bd [.ref g0, .int x]) (tQ (dC, dI) (mW g0 ad kI kZ) (va_A (MOW g0 ad kI kZ sc ia) sz) vI (fun r u => same [0] sc u.1 ∧ same [] ia u.2 ∧ MI T N u.1 u.2)) 0 0 (va_A (MOW g0 ad kI kZ sc ia) sz) := by
  refine Met.ofW (cc := c_MO_state) (maxL := 2) (ret := (some .int)) (by decide) rfl ?_
  intro p e s m args below meth c s₁ B hml hv
  obtain ⟨rfl, ⟨hsz, hBs⟩, hP, hK, hD0, hV⟩ := hv
  have hx := B.exec
  have hb := B.bytes
  have hr := B.returns
  have ht : ∀ w ∈ tb_, w.before _ s = true := fun w h => atoms_spec (ws := w_MO_state) B.pre w (List.mem_cons_of_mem _ h)
  have hown : s.vm.findClass R_MO = some m.cls := findClass_of_methodNamed B.named
  have hlocks := B.notSynchronized
  subst hsz
  have hD := hD0.self (sz := s.heap.size)
  have hAB : ∀ q, va_A (MOW g0 ad kI kZ sc ia) s.heap.size q → Bd ≤ q := fr_AB hD0 hBs
  generalize hAe : va_A (MOW g0 ad kI kZ sc ia) s.heap.size = A at hD hAB ⊢
  have hA : ∀ q : Nat, s.heap.size ≤ q → A q := fun q h => by rw [← hAe]; exact Or.inr h
  have hS : va_S A s.heap s.heap [] := va_S.rf
  have hs : same [0] sc sc := same.rf
  have hi : same [] ia ia := same.rf
  have hP : va_P (dC, dI) cls_ (MOW g0 ad kI kZ sc ia) s.heap := hP
  have hl := lv_entry ([.ref g0, .int x]) (n := 2) (Nat.le_of_ble_eq_true rfl)
  rw [lg_entry_eq]
  generalize (lg_sl ([.ref g0, .int x]) ++ List.replicate (2 - (lg_sl ([.ref g0, .int x])).length) Slot.unset).toArray = ls at hl ⊢
  have hl : lv_has ls 2 [(0, .ref g0), (1, .int x)] := hl
  have e4 := hI.e4
  have hN := hI.hN
  have hT := hI.T
  refine lv_aload_n hx hb d_MO_state_0 rfl (lv_at hl 0 rfl) ?_
  refine lv_aload_n hx hb d_MO_state_1 rfl (lv_at hl 0 rfl) ?_
  refine lv_iload_n hx hb d_MO_state_2 rfl (lv_at hl 1 rfl) ?_
  refine r_call (va_runV (C := R_MO) (As := [.int x]) (rest := [.ref g0]) ⟨hx, hb, hml, hown, ht⟩ (t_MO_isRequest l dC dI g0 ad kI kZ sc ia N ((hs 4 (by decide)).trans e4) hN x) (cwV 1 ht (gV tb_744 tb_746 ts_24 tb_5 tb_747) rfl rfl rfl (by decide +kernel) ⟨Nat.le_of_ble_eq_true rfl, Nat.le_of_ble_eq_true rfl⟩) ⟨rdP_blind, va_recv (q := (R_MO, F_MO, 30)) hK hP rfl (show (MOW g0 ad kI kZ sc ia : va_W)[0]? = some _ from rfl), rd_pre hP hK⟩ rfl rfl hl.1 rfl (lv_room (Nat.le_of_ble_eq_true rfl)) d_MO_state_3 ⟨Nat.le_of_ble_eq_true rfl, Nat.le_of_ble_eq_true rfl⟩) (fun r1 hu => ?_)
  have hu1_0 := hu
  have hu1_0 : ((∃ j, j < N ∧ x = nI j) ∧ r1 = 1 ∨ (∀ j, j < N → x ≠ nI j) ∧ r1 = 0) := hu1_0
  refine W.eq (g2 := F0 m 6 ls [.int r1, .ref g0]) rfl ?_
  rcases hu1_0 with ⟨⟨j, hj, rfl⟩, rfl⟩ | ⟨hno, rfl⟩
  · refine lv_if_eq (tgt := 13) hx hb d_MO_state_6 (by decide) (fun h9 => absurd h9 (by decide)) (fun _ => ?_)
    refine lv_iconst (v := 0) hx hb d_MO_state_9 (by decide) ?_
    refine lv_goto (tgt := 14) hx hb d_MO_state_10 (by decide) ?_
    refine t_call (u0 := (sc, ia)) (va_runV (C := R_MO) (As := [.int 0]) (rest := []) ⟨hx, hb, hml, hown, ht⟩ (t_MO_refused l dC dI g0 ad kI kZ sc ia s.heap.size Bd 0) (cwV 1 ht (gV tb_736 tb_738 ts_23 tb_5 tb_739) rfl rfl rfl (by decide +kernel) ⟨Nat.le_of_ble_eq_true rfl, Nat.le_of_ble_eq_true rfl⟩) ⟨frP_blind, va_recv (q := (R_MO, F_MO, 30)) hK hP rfl (show (MOW g0 ad kI kZ sc ia : va_W)[0]? = some _ from rfl), fr_pre hP hK hD hAB hBs hS hV⟩ rfl rfl hl.1 rfl (lv_room (Nat.le_of_ble_eq_true rfl)) d_MO_state_14 ⟨Nat.le_of_ble_eq_true rfl, Nat.le_of_ble_eq_true rfl⟩) hD hS hA (fun r2 u H locs hu hP hD hS => ?_)
    obtain ⟨sc3, ia4⟩ := u
    obtain ⟨hu2_0, hu2_1, hu2_2, hu2_3⟩ := hu
    have hu2_0 : same [0] sc sc3 := hu2_0
    have hu2_1 : same [] ia ia4 := hu2_1
    have hu2_2 : sc3 0 = 0 := hu2_2
    have hu2_3 : ((0 : Int32) < 0 ∧ r2 = 1 ∨ ¬ (0 : Int32) < 0 ∧ r2 = 0) := hu2_3
    have hP : va_P (dC, dI) cls_ (MOW g0 ad kI kZ sc3 ia4) H := hP
    have hD : va_D A (MOW g0 ad kI kZ sc3 ia4) := hD
    have hs : same [0] sc sc3 := hs.tr (hu2_0.wk (by decide))
    have hi : same [] ia ia4 := hi.tr (hu2_1.wk (by decide))
    refine W.eq (g2 := F0 m 17 ls [.int r2]) rfl ?_
    refine W.cs (cells' := 0) (slots' := 0) rfl rfl ?_
    obtain rfl : r2 = 0 := by rcases hu2_3 with ⟨q, _⟩ | ⟨_, q⟩; { exact absurd q (by decide) }; { exact q }
    refine lv_if_eq (tgt := 24) hx hb d_MO_state_17 (by decide) (fun _ => ?_) (fun h9 => absurd (by decide) h9)
    refine lv_aload_n hx hb d_MO_state_24 rfl (lv_at hl 0 rfl) ?_
    refine va_get (D := (dC, dI)) (ci := 5) (v := .ref (ad 11)) (C := R_MO) (T := F_MO) (N := 30) hx hb ht in_MO hown hK hP 0 rfl rfl 11 (by decide) (ht _ tb_642) (fun _ h9 => h9) rfl d_MO_state_25 ?_
    refine lv_iload_n hx hb d_MO_state_28 rfl (lv_at hl 1 rfl) ?_
    refine va_iald hx hb hK hP 8 0 rfl rfl (vp_in_nI (show j < 40 by omega) (by decide)) d_MO_state_29 ?_
    refine W.eq (g2 := F0 m 30 ls [.int (ia 11 j)]) (by rw [nI_clamp (show j < 2 ^ 31 by omega), hi 11 (by decide)]) ?_
    have hz0 : MI T N sc3 ia4 := hI.same (hs.wk (by decide)) (hi.wk (by decide))
    exact W.iret (v := ia 11 j) hx hb hr (fun t ht9 hW => ⟨⟨ia 11 j, (sc3, ia4), rfl, ⟨hs, hi, hz0⟩, by rw [ht9]; exact hP, hD⟩, hS.F ht9⟩) hS.2.2 d_MO_state_30
  · refine lv_if_eq (tgt := 13) hx hb d_MO_state_6 (by decide) (fun _ => ?_) (fun h9 => absurd (by decide) h9)
    refine lv_iconst (v := 1) hx hb d_MO_state_13 (by decide) ?_
    refine t_call (u0 := (sc, ia)) (va_runV (C := R_MO) (As := [.int 1]) (rest := []) ⟨hx, hb, hml, hown, ht⟩ (t_MO_refused l dC dI g0 ad kI kZ sc ia s.heap.size Bd 1) (cwV 1 ht (gV tb_736 tb_738 ts_23 tb_5 tb_739) rfl rfl rfl (by decide +kernel) ⟨Nat.le_of_ble_eq_true rfl, Nat.le_of_ble_eq_true rfl⟩) ⟨frP_blind, va_recv (q := (R_MO, F_MO, 30)) hK hP rfl (show (MOW g0 ad kI kZ sc ia : va_W)[0]? = some _ from rfl), fr_pre hP hK hD hAB hBs hS hV⟩ rfl rfl hl.1 rfl (lv_room (Nat.le_of_ble_eq_true rfl)) d_MO_state_14 ⟨Nat.le_of_ble_eq_true rfl, Nat.le_of_ble_eq_true rfl⟩) hD hS hA (fun r5 u H locs hu hP hD hS => ?_)
    obtain ⟨sc6, ia7⟩ := u
    obtain ⟨hu5_0, hu5_1, hu5_2, hu5_3⟩ := hu
    have hu5_0 : same [0] sc sc6 := hu5_0
    have hu5_1 : same [] ia ia7 := hu5_1
    have hu5_2 : sc6 0 = 1 := hu5_2
    have hu5_3 : ((0 : Int32) < 1 ∧ r5 = 1 ∨ ¬ (0 : Int32) < 1 ∧ r5 = 0) := hu5_3
    have hP : va_P (dC, dI) cls_ (MOW g0 ad kI kZ sc6 ia7) H := hP
    have hD : va_D A (MOW g0 ad kI kZ sc6 ia7) := hD
    have hs : same [0] sc sc6 := hs.tr (hu5_0.wk (by decide))
    have hi : same [] ia ia7 := hi.tr (hu5_1.wk (by decide))
    refine W.eq (g2 := F0 m 17 ls [.int r5]) rfl ?_
    refine W.cs (cells' := 0) (slots' := 0) rfl rfl ?_
    obtain rfl : r5 = 1 := by rcases hu5_3 with ⟨_, q⟩ | ⟨q, _⟩; { exact q }; { exact absurd (by decide) q }
    refine lv_if_eq (tgt := 24) hx hb d_MO_state_17 (by decide) (fun h9 => absurd h9 (by decide)) (fun _ => ?_)
    refine lv_iconst (v := 0) hx hb d_MO_state_20 (by decide) ?_
    refine lv_goto (tgt := 30) hx hb d_MO_state_21 (by decide) ?_
    have hz0 : MI T N sc6 ia7 := hI.same (hs.wk (by decide)) (hi.wk (by decide))
    exact W.iret (v := 0) hx hb hr (fun t ht9 hW => ⟨⟨0, (sc6, ia7), rfl, ⟨hs, hi, hz0⟩, by rw [ht9]; exact hP, hD⟩, hS.F ht9⟩) hS.2.2 d_MO_state_30
set_option maxHeartbeats 8000000 in
set_option maxRecDepth 100000 in
theorem t_MO_shortBy (l : Launch) (dC : Nat → ClassId) (dI : Nat → Nat → Nat) (g0 : Nat) (ad : Nat → Nat) (kI kZ : ClassId) (sc : Nat → Int32) (ia : Nat → Nat → Int32) (sz Bd : Nat) (T : Int) (N : Nat) (hI : MI T N sc ia) (x : Int32) : Met l y_MO_shortBy w_MO_shortBy ({ frames := 1, cells := 0, slots := 0, locals := 21 }) (frP (dC, dI) (MOW g0 ad kI kZ sc ia) (MOT kI kZ) sz Bd [.ref g0, .int x]) (tQ (dC, dI) (mW g0 ad kI kZ) (va_A (MOW g0 ad kI kZ sc ia) sz) vI (fun r u => same [0] sc u.1 ∧ same [] ia u.2 ∧ MI T N u.1 u.2)) 0 0 (va_A (MOW g0 ad kI kZ sc ia) sz) := by
  refine Met.ofW (cc := c_MO_shortBy) (maxL := 2) (ret := (some .int)) (by decide) rfl ?_
  intro p e s m args below meth c s₁ B hml hv
  obtain ⟨rfl, ⟨hsz, hBs⟩, hP, hK, hD0, hV⟩ := hv
  have hx := B.exec
  have hb := B.bytes
  have hr := B.returns
  have ht : ∀ w ∈ tb_, w.before _ s = true := fun w h => atoms_spec (ws := w_MO_shortBy) B.pre w (List.mem_cons_of_mem _ h)
  have hown : s.vm.findClass R_MO = some m.cls := findClass_of_methodNamed B.named
  have hlocks := B.notSynchronized
  subst hsz
  have hD := hD0.self (sz := s.heap.size)
  have hAB : ∀ q, va_A (MOW g0 ad kI kZ sc ia) s.heap.size q → Bd ≤ q := fr_AB hD0 hBs
  generalize hAe : va_A (MOW g0 ad kI kZ sc ia) s.heap.size = A at hD hAB ⊢
  have hA : ∀ q : Nat, s.heap.size ≤ q → A q := fun q h => by rw [← hAe]; exact Or.inr h
  have hS : va_S A s.heap s.heap [] := va_S.rf
  have hs : same [0] sc sc := same.rf
  have hi : same [] ia ia := same.rf
  have hP : va_P (dC, dI) cls_ (MOW g0 ad kI kZ sc ia) s.heap := hP
  have hl := lv_entry ([.ref g0, .int x]) (n := 2) (Nat.le_of_ble_eq_true rfl)
  rw [lg_entry_eq]
  generalize (lg_sl ([.ref g0, .int x]) ++ List.replicate (2 - (lg_sl ([.ref g0, .int x])).length) Slot.unset).toArray = ls at hl ⊢
  have hl : lv_has ls 2 [(0, .ref g0), (1, .int x)] := hl
  have e4 := hI.e4
  have hN := hI.hN
  have hT := hI.T
  refine lv_aload_n hx hb d_MO_shortBy_0 rfl (lv_at hl 0 rfl) ?_
  refine lv_aload_n hx hb d_MO_shortBy_1 rfl (lv_at hl 0 rfl) ?_
  refine lv_iload_n hx hb d_MO_shortBy_2 rfl (lv_at hl 1 rfl) ?_
  refine r_call (va_runV (C := R_MO) (As := [.int x]) (rest := [.ref g0]) ⟨hx, hb, hml, hown, ht⟩ (t_MO_isRequest l dC dI g0 ad kI kZ sc ia N ((hs 4 (by decide)).trans e4) hN x) (cwV 1 ht (gV tb_744 tb_746 ts_24 tb_5 tb_747) rfl rfl rfl (by decide +kernel) ⟨Nat.le_of_ble_eq_true rfl, Nat.le_of_ble_eq_true rfl⟩) ⟨rdP_blind, va_recv (q := (R_MO, F_MO, 30)) hK hP rfl (show (MOW g0 ad kI kZ sc ia : va_W)[0]? = some _ from rfl), rd_pre hP hK⟩ rfl rfl hl.1 rfl (lv_room (Nat.le_of_ble_eq_true rfl)) d_MO_shortBy_3 ⟨Nat.le_of_ble_eq_true rfl, Nat.le_of_ble_eq_true rfl⟩) (fun r1 hu => ?_)
  have hu1_0 := hu
  have hu1_0 : ((∃ j, j < N ∧ x = nI j) ∧ r1 = 1 ∨ (∀ j, j < N → x ≠ nI j) ∧ r1 = 0) := hu1_0
  refine W.eq (g2 := F0 m 6 ls [.int r1, .ref g0]) rfl ?_
  rcases hu1_0 with ⟨⟨j, hj, rfl⟩, rfl⟩ | ⟨hno, rfl⟩
  · refine lv_if_eq (tgt := 13) hx hb d_MO_shortBy_6 (by decide) (fun h9 => absurd h9 (by decide)) (fun _ => ?_)
    refine lv_iconst (v := 0) hx hb d_MO_shortBy_9 (by decide) ?_
    refine lv_goto (tgt := 14) hx hb d_MO_shortBy_10 (by decide) ?_
    refine t_call (u0 := (sc, ia)) (va_runV (C := R_MO) (As := [.int 0]) (rest := []) ⟨hx, hb, hml, hown, ht⟩ (t_MO_refused l dC dI g0 ad kI kZ sc ia s.heap.size Bd 0) (cwV 1 ht (gV tb_736 tb_738 ts_23 tb_5 tb_739) rfl rfl rfl (by decide +kernel) ⟨Nat.le_of_ble_eq_true rfl, Nat.le_of_ble_eq_true rfl⟩) ⟨frP_blind, va_recv (q := (R_MO, F_MO, 30)) hK hP rfl (show (MOW g0 ad kI kZ sc ia : va_W)[0]? = some _ from rfl), fr_pre hP hK hD hAB hBs hS hV⟩ rfl rfl hl.1 rfl (lv_room (Nat.le_of_ble_eq_true rfl)) d_MO_shortBy_14 ⟨Nat.le_of_ble_eq_true rfl, Nat.le_of_ble_eq_true rfl⟩) hD hS hA (fun r2 u H locs hu hP hD hS => ?_)
    obtain ⟨sc3, ia4⟩ := u
    obtain ⟨hu2_0, hu2_1, hu2_2, hu2_3⟩ := hu
    have hu2_0 : same [0] sc sc3 := hu2_0
    have hu2_1 : same [] ia ia4 := hu2_1
    have hu2_2 : sc3 0 = 0 := hu2_2
    have hu2_3 : ((0 : Int32) < 0 ∧ r2 = 1 ∨ ¬ (0 : Int32) < 0 ∧ r2 = 0) := hu2_3
    have hP : va_P (dC, dI) cls_ (MOW g0 ad kI kZ sc3 ia4) H := hP
    have hD : va_D A (MOW g0 ad kI kZ sc3 ia4) := hD
    have hs : same [0] sc sc3 := hs.tr (hu2_0.wk (by decide))
    have hi : same [] ia ia4 := hi.tr (hu2_1.wk (by decide))
    refine W.eq (g2 := F0 m 17 ls [.int r2]) rfl ?_
    refine W.cs (cells' := 0) (slots' := 0) rfl rfl ?_
    obtain rfl : r2 = 0 := by rcases hu2_3 with ⟨q, _⟩ | ⟨_, q⟩; { exact absurd q (by decide) }; { exact q }
    refine lv_if_eq (tgt := 24) hx hb d_MO_shortBy_17 (by decide) (fun _ => ?_) (fun h9 => absurd (by decide) h9)
    refine lv_aload_n hx hb d_MO_shortBy_24 rfl (lv_at hl 0 rfl) ?_
    refine va_get (D := (dC, dI)) (ci := 5) (v := .ref (ad 14)) (C := R_MO) (T := F_MO) (N := 30) hx hb ht in_MO hown hK hP 0 rfl rfl 14 (by decide) (ht _ tb_645) (fun _ h9 => h9) rfl d_MO_shortBy_25 ?_
    refine lv_iload_n hx hb d_MO_shortBy_28 rfl (lv_at hl 1 rfl) ?_
    refine va_iald hx hb hK hP 11 0 rfl rfl (vp_in_nI (show j < 40 by omega) (by decide)) d_MO_shortBy_29 ?_
    refine W.eq (g2 := F0 m 30 ls [.int (ia 14 j)]) (by rw [nI_clamp (show j < 2 ^ 31 by omega), hi 14 (by decide)]) ?_
    have hz0 : MI T N sc3 ia4 := hI.same (hs.wk (by decide)) (hi.wk (by decide))
    exact W.iret (v := ia 14 j) hx hb hr (fun t ht9 hW => ⟨⟨ia 14 j, (sc3, ia4), rfl, ⟨hs, hi, hz0⟩, by rw [ht9]; exact hP, hD⟩, hS.F ht9⟩) hS.2.2 d_MO_shortBy_30
  · refine lv_if_eq (tgt := 13) hx hb d_MO_shortBy_6 (by decide) (fun _ => ?_) (fun h9 => absurd (by decide) h9)
    refine lv_iconst (v := 1) hx hb d_MO_shortBy_13 (by decide) ?_
    refine t_call (u0 := (sc, ia)) (va_runV (C := R_MO) (As := [.int 1]) (rest := []) ⟨hx, hb, hml, hown, ht⟩ (t_MO_refused l dC dI g0 ad kI kZ sc ia s.heap.size Bd 1) (cwV 1 ht (gV tb_736 tb_738 ts_23 tb_5 tb_739) rfl rfl rfl (by decide +kernel) ⟨Nat.le_of_ble_eq_true rfl, Nat.le_of_ble_eq_true rfl⟩) ⟨frP_blind, va_recv (q := (R_MO, F_MO, 30)) hK hP rfl (show (MOW g0 ad kI kZ sc ia : va_W)[0]? = some _ from rfl), fr_pre hP hK hD hAB hBs hS hV⟩ rfl rfl hl.1 rfl (lv_room (Nat.le_of_ble_eq_true rfl)) d_MO_shortBy_14 ⟨Nat.le_of_ble_eq_true rfl, Nat.le_of_ble_eq_true rfl⟩) hD hS hA (fun r5 u H locs hu hP hD hS => ?_)
    obtain ⟨sc6, ia7⟩ := u
    obtain ⟨hu5_0, hu5_1, hu5_2, hu5_3⟩ := hu
    have hu5_0 : same [0] sc sc6 := hu5_0
    have hu5_1 : same [] ia ia7 := hu5_1
    have hu5_2 : sc6 0 = 1 := hu5_2
    have hu5_3 : ((0 : Int32) < 1 ∧ r5 = 1 ∨ ¬ (0 : Int32) < 1 ∧ r5 = 0) := hu5_3
    have hP : va_P (dC, dI) cls_ (MOW g0 ad kI kZ sc6 ia7) H := hP
    have hD : va_D A (MOW g0 ad kI kZ sc6 ia7) := hD
    have hs : same [0] sc sc6 := hs.tr (hu5_0.wk (by decide))
    have hi : same [] ia ia7 := hi.tr (hu5_1.wk (by decide))
    refine W.eq (g2 := F0 m 17 ls [.int r5]) rfl ?_
    refine W.cs (cells' := 0) (slots' := 0) rfl rfl ?_
    obtain rfl : r5 = 1 := by rcases hu5_3 with ⟨_, q⟩ | ⟨q, _⟩; { exact q }; { exact absurd (by decide) q }
    refine lv_if_eq (tgt := 24) hx hb d_MO_shortBy_17 (by decide) (fun h9 => absurd h9 (by decide)) (fun _ => ?_)
    refine lv_iconst (v := 0) hx hb d_MO_shortBy_20 (by decide) ?_
    refine lv_goto (tgt := 30) hx hb d_MO_shortBy_21 (by decide) ?_
    have hz0 : MI T N sc6 ia7 := hI.same (hs.wk (by decide)) (hi.wk (by decide))
    exact W.iret (v := 0) hx hb hr (fun t ht9 hW => ⟨⟨0, (sc6, ia7), rfl, ⟨hs, hi, hz0⟩, by rw [ht9]; exact hP, hD⟩, hS.F ht9⟩) hS.2.2 d_MO_shortBy_30
set_option maxHeartbeats 8000000 in
set_option maxRecDepth 100000 in
theorem t_MO_air (l : Launch) (dC : Nat → ClassId) (dI : Nat → Nat → Nat) (g0 : Nat) (ad : Nat → Nat) (kI kZ : ClassId) (sc : Nat → Int32) (ia : Nat → Nat → Int32) (sz Bd : Nat) (T : Int) (N : Nat) (hI : MI T N sc ia) (x y : Int32) : Met l y_MO_air w_MO_air ({ frames := 1, cells := 0, slots := 0, locals := 21 }) (frP (dC, dI) (MOW g0 ad kI kZ sc ia) (MOT kI kZ) sz Bd [.ref g0, .int x, .int y]) (tQ (dC, dI) (mW g0 ad kI kZ) (va_A (MOW g0 ad kI kZ sc ia) sz) vN (fun r u => same [0] sc u.1 ∧ same [3] ia u.2 ∧ MI T N u.1 u.2 ∧ ((0 ≤ x.toInt ∧ x.toInt ≤ 7) ∧ u.1 0 = 0 ∨ ¬ (0 ≤ x.toInt ∧ x.toInt ≤ 7) ∧ u.1 0 = 1))) 0 0 (va_A (MOW g0 ad kI kZ sc ia) sz) := by
  refine Met.ofW (cc := c_MO_air) (maxL := 3) (ret := none) (by decide) rfl ?_
  intro p e s m args below meth c s₁ B hml hv
  obtain ⟨rfl, ⟨hsz, hBs⟩, hP, hK, hD0, hV⟩ := hv
  have hx := B.exec
  have hb := B.bytes
  have hr := B.returns
  have ht : ∀ w ∈ tb_, w.before _ s = true := fun w h => atoms_spec (ws := w_MO_air) B.pre w (List.mem_cons_of_mem _ h)
  have hown : s.vm.findClass R_MO = some m.cls := findClass_of_methodNamed B.named
  have hlocks := B.notSynchronized
  subst hsz
  have hD := hD0.self (sz := s.heap.size)
  have hAB : ∀ q, va_A (MOW g0 ad kI kZ sc ia) s.heap.size q → Bd ≤ q := fr_AB hD0 hBs
  generalize hAe : va_A (MOW g0 ad kI kZ sc ia) s.heap.size = A at hD hAB ⊢
  have hA : ∀ q : Nat, s.heap.size ≤ q → A q := fun q h => by rw [← hAe]; exact Or.inr h
  have hS : va_S A s.heap s.heap [] := va_S.rf
  have hs : same [0] sc sc := same.rf
  have hi : same [3] ia ia := same.rf
  have hP : va_P (dC, dI) cls_ (MOW g0 ad kI kZ sc ia) s.heap := hP
  have hl := lv_entry ([.ref g0, .int x, .int y]) (n := 3) (Nat.le_of_ble_eq_true rfl)
  rw [lg_entry_eq]
  generalize (lg_sl ([.ref g0, .int x, .int y]) ++ List.replicate (3 - (lg_sl ([.ref g0, .int x, .int y])).length) Slot.unset).toArray = ls at hl ⊢
  have hl : lv_has ls 3 [(0, .ref g0), (1, .int x), (2, .int y)] := hl
  have e4 := hI.e4
  have hN := hI.hN
  have hT := hI.T
  refine lv_aload_n hx hb d_MO_air_0 rfl (lv_at hl 0 rfl) ?_
  refine lv_iload_n hx hb d_MO_air_1 rfl (lv_at hl 1 rfl) ?_
  refine lv_if_lt (tgt := 11) hx hb d_MO_air_2 (by decide) (fun h2_1 => ?_) (fun h2_1 => ?_)
  · have h2_1 := h2_1
    have i2_1 := ti_lt h2_1
    (try rw [l_0] at i2_1)
    refine lv_iconst (v := 1) hx hb d_MO_air_11 (by decide) ?_
    refine lv_goto (tgt := 16) hx hb d_MO_air_12 (by decide) ?_
    refine t_call (u0 := (sc, ia)) (va_runV (C := R_MO) (As := [.int 1]) (rest := []) ⟨hx, hb, hml, hown, ht⟩ (t_MO_refused l dC dI g0 ad kI kZ sc ia s.heap.size Bd 1) (cwV 1 ht (gV tb_736 tb_738 ts_23 tb_5 tb_739) rfl rfl rfl (by decide +kernel) ⟨Nat.le_of_ble_eq_true rfl, Nat.le_of_ble_eq_true rfl⟩) ⟨frP_blind, va_recv (q := (R_MO, F_MO, 30)) hK hP rfl (show (MOW g0 ad kI kZ sc ia : va_W)[0]? = some _ from rfl), fr_pre hP hK hD hAB hBs hS hV⟩ rfl rfl hl.1 rfl (lv_room (Nat.le_of_ble_eq_true rfl)) d_MO_air_16 ⟨Nat.le_of_ble_eq_true rfl, Nat.le_of_ble_eq_true rfl⟩) hD hS hA (fun r1 u H locs hu hP hD hS => ?_)
    obtain ⟨sc2, ia3⟩ := u
    obtain ⟨hu1_0, hu1_1, hu1_2, hu1_3⟩ := hu
    have hu1_0 : same [0] sc sc2 := hu1_0
    have hu1_1 : same [] ia ia3 := hu1_1
    have hu1_2 : sc2 0 = 1 := hu1_2
    have hu1_3 : ((0 : Int32) < 1 ∧ r1 = 1 ∨ ¬ (0 : Int32) < 1 ∧ r1 = 0) := hu1_3
    have hP : va_P (dC, dI) cls_ (MOW g0 ad kI kZ sc2 ia3) H := hP
    have hD : va_D A (MOW g0 ad kI kZ sc2 ia3) := hD
    have hs : same [0] sc sc2 := hs.tr (hu1_0.wk (by decide))
    have hi : same [3] ia ia3 := hi.tr (hu1_1.wk (by decide))
    refine W.eq (g2 := F0 m 19 ls [.int r1]) rfl ?_
    refine W.cs (cells' := 0) (slots' := 0) rfl rfl ?_
    obtain rfl : r1 = 1 := by rcases hu1_3 with ⟨_, q⟩ | ⟨q, _⟩; { exact q }; { exact absurd (by decide) q }
    refine lv_if_ne (tgt := 29) hx hb d_MO_air_19 (by decide) (fun _ => ?_) (fun h9 => absurd h9 (by decide))
    have hz0 : MI T N sc2 ia3 := hI.same (hs.wk (by decide)) (hi.wk (by decide))
    have hz1 : ((0 ≤ x.toInt ∧ x.toInt ≤ 7) ∧ sc2 0 = 0 ∨ ¬ (0 ≤ x.toInt ∧ x.toInt ≤ 7) ∧ sc2 0 = 1) := Or.inr ⟨by omega, hu1_2⟩
    exact W.vret hx hb hr (fun t ht9 hW => ⟨⟨(), (sc2, ia3), rfl, ⟨hs, hi, hz0, hz1⟩, by rw [ht9]; exact hP, hD⟩, hS.F ht9⟩) hS.2.2 d_MO_air_29
  · have h2_1 := h2_1
    have i2_1 := ti_nlt h2_1
    (try rw [l_0] at i2_1)
    refine lv_iload_n hx hb d_MO_air_5 rfl (lv_at hl 1 rfl) ?_
    refine lv_bipush (v := 7) hx hb d_MO_air_6 (by decide) ?_
    refine lv_icmp_le (tgt := 15) hx hb d_MO_air_8 (by decide) (fun h8_2 => ?_) (fun h8_2 => ?_)
    · have h8_2 := h8_2
      have i8_2 := ti_le h8_2
      (try rw [l_7] at i8_2)
      refine lv_iconst (v := 0) hx hb d_MO_air_15 (by decide) ?_
      refine t_call (u0 := (sc, ia)) (va_runV (C := R_MO) (As := [.int 0]) (rest := []) ⟨hx, hb, hml, hown, ht⟩ (t_MO_refused l dC dI g0 ad kI kZ sc ia s.heap.size Bd 0) (cwV 1 ht (gV tb_736 tb_738 ts_23 tb_5 tb_739) rfl rfl rfl (by decide +kernel) ⟨Nat.le_of_ble_eq_true rfl, Nat.le_of_ble_eq_true rfl⟩) ⟨frP_blind, va_recv (q := (R_MO, F_MO, 30)) hK hP rfl (show (MOW g0 ad kI kZ sc ia : va_W)[0]? = some _ from rfl), fr_pre hP hK hD hAB hBs hS hV⟩ rfl rfl hl.1 rfl (lv_room (Nat.le_of_ble_eq_true rfl)) d_MO_air_16 ⟨Nat.le_of_ble_eq_true rfl, Nat.le_of_ble_eq_true rfl⟩) hD hS hA (fun r4 u H locs hu hP hD hS => ?_)
      obtain ⟨sc5, ia6⟩ := u
      obtain ⟨hu4_0, hu4_1, hu4_2, hu4_3⟩ := hu
      have hu4_0 : same [0] sc sc5 := hu4_0
      have hu4_1 : same [] ia ia6 := hu4_1
      have hu4_2 : sc5 0 = 0 := hu4_2
      have hu4_3 : ((0 : Int32) < 0 ∧ r4 = 1 ∨ ¬ (0 : Int32) < 0 ∧ r4 = 0) := hu4_3
      have hP : va_P (dC, dI) cls_ (MOW g0 ad kI kZ sc5 ia6) H := hP
      have hD : va_D A (MOW g0 ad kI kZ sc5 ia6) := hD
      have hs : same [0] sc sc5 := hs.tr (hu4_0.wk (by decide))
      have hi : same [3] ia ia6 := hi.tr (hu4_1.wk (by decide))
      refine W.eq (g2 := F0 m 19 ls [.int r4]) rfl ?_
      refine W.cs (cells' := 0) (slots' := 0) rfl rfl ?_
      obtain rfl : r4 = 0 := by rcases hu4_3 with ⟨q, _⟩ | ⟨_, q⟩; { exact absurd q (by decide) }; { exact q }
      refine lv_if_ne (tgt := 29) hx hb d_MO_air_19 (by decide) (fun h9 => absurd (by decide) h9) (fun _ => ?_)
      refine lv_aload_n hx hb d_MO_air_22 rfl (lv_at hl 0 rfl) ?_
      refine va_get (D := (dC, dI)) (ci := 5) (v := .ref (ad 3)) (C := R_MO) (T := F_MO) (N := 30) hx hb ht in_MO hown hK hP 0 rfl rfl 3 (by decide) (ht _ tb_634) (fun _ h9 => h9) rfl d_MO_air_23 ?_
      refine lv_iload_n hx hb d_MO_air_26 rfl (lv_at hl 1 rfl) ?_
      refine lv_iload_n hx hb d_MO_air_27 rfl (lv_at hl 2 rfl) ?_
      refine va_iast hx hb hK hP hD hS 1 0 rfl rfl (in_of (by omega) (by omega)) d_MO_air_28 (fun H locs hP hD hS => ?_)
      have hP : va_P (dC, dI) cls_ (MOW g0 ad kI kZ sc5 (va_up ia6 3 (upd (ia6 3) x.toNatClampNeg y))) H := hP
      have hD : va_D A (MOW g0 ad kI kZ sc5 (va_up ia6 3 (upd (ia6 3) x.toNatClampNeg y))) := hD
      obtain ⟨ia7, eia7⟩ : ∃ q9_, q9_ = va_up ia6 3 (upd (ia6 3) x.toNatClampNeg y) := ⟨_, rfl⟩
      rw [← eia7] at hP hD
      have hi : same [3] ia ia7 := by rw [eia7]; exact hi.up (by decide)
      have hz0 : MI T N sc5 ia7 := hI.same (hs.wk (by decide)) (hi.wk (by decide))
      have hz1 : ((0 ≤ x.toInt ∧ x.toInt ≤ 7) ∧ sc5 0 = 0 ∨ ¬ (0 ≤ x.toInt ∧ x.toInt ≤ 7) ∧ sc5 0 = 1) := Or.inl ⟨by omega, hu4_2⟩
      exact W.vret hx hb hr (fun t ht9 hW => ⟨⟨(), (sc5, ia7), rfl, ⟨hs, hi, hz0, hz1⟩, by rw [ht9]; exact hP, hD⟩, hS.F ht9⟩) hS.2.2 d_MO_air_29
    · have h8_2 := h8_2
      have i8_2 := ti_nle h8_2
      (try rw [l_7] at i8_2)
      refine lv_iconst (v := 1) hx hb d_MO_air_11 (by decide) ?_
      refine lv_goto (tgt := 16) hx hb d_MO_air_12 (by decide) ?_
      refine t_call (u0 := (sc, ia)) (va_runV (C := R_MO) (As := [.int 1]) (rest := []) ⟨hx, hb, hml, hown, ht⟩ (t_MO_refused l dC dI g0 ad kI kZ sc ia s.heap.size Bd 1) (cwV 1 ht (gV tb_736 tb_738 ts_23 tb_5 tb_739) rfl rfl rfl (by decide +kernel) ⟨Nat.le_of_ble_eq_true rfl, Nat.le_of_ble_eq_true rfl⟩) ⟨frP_blind, va_recv (q := (R_MO, F_MO, 30)) hK hP rfl (show (MOW g0 ad kI kZ sc ia : va_W)[0]? = some _ from rfl), fr_pre hP hK hD hAB hBs hS hV⟩ rfl rfl hl.1 rfl (lv_room (Nat.le_of_ble_eq_true rfl)) d_MO_air_16 ⟨Nat.le_of_ble_eq_true rfl, Nat.le_of_ble_eq_true rfl⟩) hD hS hA (fun r8 u H locs hu hP hD hS => ?_)
      obtain ⟨sc9, ia10⟩ := u
      obtain ⟨hu8_0, hu8_1, hu8_2, hu8_3⟩ := hu
      have hu8_0 : same [0] sc sc9 := hu8_0
      have hu8_1 : same [] ia ia10 := hu8_1
      have hu8_2 : sc9 0 = 1 := hu8_2
      have hu8_3 : ((0 : Int32) < 1 ∧ r8 = 1 ∨ ¬ (0 : Int32) < 1 ∧ r8 = 0) := hu8_3
      have hP : va_P (dC, dI) cls_ (MOW g0 ad kI kZ sc9 ia10) H := hP
      have hD : va_D A (MOW g0 ad kI kZ sc9 ia10) := hD
      have hs : same [0] sc sc9 := hs.tr (hu8_0.wk (by decide))
      have hi : same [3] ia ia10 := hi.tr (hu8_1.wk (by decide))
      refine W.eq (g2 := F0 m 19 ls [.int r8]) rfl ?_
      refine W.cs (cells' := 0) (slots' := 0) rfl rfl ?_
      obtain rfl : r8 = 1 := by rcases hu8_3 with ⟨_, q⟩ | ⟨q, _⟩; { exact q }; { exact absurd (by decide) q }
      refine lv_if_ne (tgt := 29) hx hb d_MO_air_19 (by decide) (fun _ => ?_) (fun h9 => absurd h9 (by decide))
      have hz0 : MI T N sc9 ia10 := hI.same (hs.wk (by decide)) (hi.wk (by decide))
      have hz1 : ((0 ≤ x.toInt ∧ x.toInt ≤ 7) ∧ sc9 0 = 0 ∨ ¬ (0 ≤ x.toInt ∧ x.toInt ≤ 7) ∧ sc9 0 = 1) := Or.inr ⟨by omega, hu8_2⟩
      exact W.vret hx hb hr (fun t ht9 hW => ⟨⟨(), (sc9, ia10), rfl, ⟨hs, hi, hz0, hz1⟩, by rw [ht9]; exact hP, hD⟩, hS.F ht9⟩) hS.2.2 d_MO_air_29
set_option maxHeartbeats 8000000 in
set_option maxRecDepth 100000 in
theorem t_MO_planFrom (l : Launch) (dC : Nat → ClassId) (dI : Nat → Nat → Nat) (g0 : Nat) (ad : Nat → Nat) (kI kZ : ClassId) (sc : Nat → Int32) (ia : Nat → Nat → Int32) (sz Bd : Nat) (T : Int) (N : Nat) (hI : MI T N sc ia) (x : Int32) : Met l y_MO_planFrom w_MO_planFrom ({ frames := 5, cells := 0, slots := 0, locals := 118 }) (frP (dC, dI) (MOW g0 ad kI kZ sc ia) (MOT kI kZ) sz Bd [.ref g0, .int x]) (tQ (dC, dI) (mW g0 ad kI kZ) (va_A (MOW g0 ad kI kZ sc ia) sz) vI (fun r u => same [0, 21] sc u.1 ∧ same [22, 23, 24, 25, 26, 27] ia u.2 ∧ MI T N u.1 u.2)) 0 0 (va_A (MOW g0 ad kI kZ sc ia) sz) := by
  refine Met.ofW (cc := c_MO_planFrom) (maxL := 2) (ret := (some .int)) (by decide) rfl ?_
  intro p e s m args below meth c s₁ B hml hv
  obtain ⟨rfl, ⟨hsz, hBs⟩, hP, hK, hD0, hV⟩ := hv
  have hx := B.exec
  have hb := B.bytes
  have hr := B.returns
  have ht : ∀ w ∈ tb_, w.before _ s = true := fun w h => atoms_spec (ws := w_MO_planFrom) B.pre w (List.mem_cons_of_mem _ h)
  have hown : s.vm.findClass R_MO = some m.cls := findClass_of_methodNamed B.named
  have hlocks := B.notSynchronized
  subst hsz
  have hD := hD0.self (sz := s.heap.size)
  have hAB : ∀ q, va_A (MOW g0 ad kI kZ sc ia) s.heap.size q → Bd ≤ q := fr_AB hD0 hBs
  generalize hAe : va_A (MOW g0 ad kI kZ sc ia) s.heap.size = A at hD hAB ⊢
  have hA : ∀ q : Nat, s.heap.size ≤ q → A q := fun q h => by rw [← hAe]; exact Or.inr h
  have hS : va_S A s.heap s.heap [] := va_S.rf
  have hs : same [0, 21] sc sc := same.rf
  have hi : same [22, 23, 24, 25, 26, 27] ia ia := same.rf
  have hP : va_P (dC, dI) cls_ (MOW g0 ad kI kZ sc ia) s.heap := hP
  have hl := lv_entry ([.ref g0, .int x]) (n := 2) (Nat.le_of_ble_eq_true rfl)
  rw [lg_entry_eq]
  generalize (lg_sl ([.ref g0, .int x]) ++ List.replicate (2 - (lg_sl ([.ref g0, .int x])).length) Slot.unset).toArray = ls at hl ⊢
  have hl : lv_has ls 2 [(0, .ref g0), (1, .int x)] := hl
  have e4 := hI.e4
  have hN := hI.hN
  have hT := hI.T
  refine lv_aload_n hx hb d_MO_planFrom_0 rfl (lv_at hl 0 rfl) ?_
  refine lv_aload_n hx hb d_MO_planFrom_1 rfl (lv_at hl 0 rfl) ?_
  refine lv_iload_n hx hb d_MO_planFrom_2 rfl (lv_at hl 1 rfl) ?_
  refine r_call (va_runV (C := R_MO) (As := [.int x]) (rest := [.ref g0]) ⟨hx, hb, hml, hown, ht⟩ (t_MO_isRequest l dC dI g0 ad kI kZ sc ia N ((hs 4 (by decide)).trans e4) hN x) (cwV 1 ht (gV tb_744 tb_746 ts_24 tb_5 tb_747) rfl rfl rfl (by decide +kernel) ⟨Nat.le_of_ble_eq_true rfl, Nat.le_of_ble_eq_true rfl⟩) ⟨rdP_blind, va_recv (q := (R_MO, F_MO, 30)) hK hP rfl (show (MOW g0 ad kI kZ sc ia : va_W)[0]? = some _ from rfl), rd_pre hP hK⟩ rfl rfl hl.1 rfl (lv_room (Nat.le_of_ble_eq_true rfl)) d_MO_planFrom_3 ⟨Nat.le_of_ble_eq_true rfl, Nat.le_of_ble_eq_true rfl⟩) (fun r1 hu => ?_)
  have hu1_0 := hu
  have hu1_0 : ((∃ j, j < N ∧ x = nI j) ∧ r1 = 1 ∨ (∀ j, j < N → x ≠ nI j) ∧ r1 = 0) := hu1_0
  refine W.eq (g2 := F0 m 6 ls [.int r1, .ref g0]) rfl ?_
  rcases hu1_0 with ⟨⟨j, hj, rfl⟩, rfl⟩ | ⟨hno, rfl⟩
  · refine lv_if_eq (tgt := 13) hx hb d_MO_planFrom_6 (by decide) (fun h9 => absurd h9 (by decide)) (fun _ => ?_)
    refine lv_iconst (v := 0) hx hb d_MO_planFrom_9 (by decide) ?_
    refine lv_goto (tgt := 14) hx hb d_MO_planFrom_10 (by decide) ?_
    refine t_call (u0 := (sc, ia)) (va_runV (C := R_MO) (As := [.int 0]) (rest := []) ⟨hx, hb, hml, hown, ht⟩ (t_MO_refused l dC dI g0 ad kI kZ sc ia s.heap.size Bd 0) (cwV 1 ht (gV tb_736 tb_738 ts_23 tb_5 tb_739) rfl rfl rfl (by decide +kernel) ⟨Nat.le_of_ble_eq_true rfl, Nat.le_of_ble_eq_true rfl⟩) ⟨frP_blind, va_recv (q := (R_MO, F_MO, 30)) hK hP rfl (show (MOW g0 ad kI kZ sc ia : va_W)[0]? = some _ from rfl), fr_pre hP hK hD hAB hBs hS hV⟩ rfl rfl hl.1 rfl (lv_room (Nat.le_of_ble_eq_true rfl)) d_MO_planFrom_14 ⟨Nat.le_of_ble_eq_true rfl, Nat.le_of_ble_eq_true rfl⟩) hD hS hA (fun r2 u H locs hu hP hD hS => ?_)
    obtain ⟨sc3, ia4⟩ := u
    obtain ⟨hu2_0, hu2_1, hu2_2, hu2_3⟩ := hu
    have hu2_0 : same [0] sc sc3 := hu2_0
    have hu2_1 : same [] ia ia4 := hu2_1
    have hu2_2 : sc3 0 = 0 := hu2_2
    have hu2_3 : ((0 : Int32) < 0 ∧ r2 = 1 ∨ ¬ (0 : Int32) < 0 ∧ r2 = 0) := hu2_3
    have hP : va_P (dC, dI) cls_ (MOW g0 ad kI kZ sc3 ia4) H := hP
    have hD : va_D A (MOW g0 ad kI kZ sc3 ia4) := hD
    have hs : same [0, 21] sc sc3 := hs.tr (hu2_0.wk (by decide))
    have hi : same [22, 23, 24, 25, 26, 27] ia ia4 := hi.tr (hu2_1.wk (by decide))
    refine W.eq (g2 := F0 m 17 ls [.int r2]) rfl ?_
    refine W.cs (cells' := 0) (slots' := 0) rfl rfl ?_
    obtain rfl : r2 = 0 := by rcases hu2_3 with ⟨q, _⟩ | ⟨_, q⟩; { exact absurd q (by decide) }; { exact q }
    refine lv_if_eq (tgt := 22) hx hb d_MO_planFrom_17 (by decide) (fun _ => ?_) (fun h9 => absurd (by decide) h9)
    refine lv_aload_n hx hb d_MO_planFrom_22 rfl (lv_at hl 0 rfl) ?_
    refine va_get (D := (dC, dI)) (ci := 5) (v := .ref (ad 11)) (C := R_MO) (T := F_MO) (N := 30) hx hb ht in_MO hown hK hP 0 rfl rfl 11 (by decide) (ht _ tb_642) (fun _ h9 => h9) rfl d_MO_planFrom_23 ?_
    refine lv_iload_n hx hb d_MO_planFrom_26 rfl (lv_at hl 1 rfl) ?_
    refine va_iald hx hb hK hP 8 0 rfl rfl (vp_in_nI (show j < 40 by omega) (by decide)) d_MO_planFrom_27 ?_
    refine W.eq (g2 := F0 m 28 ls [.int (ia 11 j)]) (by rw [nI_clamp (show j < 2 ^ 31 by omega), hi 11 (by decide)]) ?_
    refine lv_if_ne (tgt := 55) hx hb d_MO_planFrom_28 (by decide) (fun h28_1 => ?_) (fun h28_1 => ?_)
    · have h28_1 := h28_1
      have i28_1 := ti_ne h28_1
      (try rw [l_0] at i28_1)
      refine lv_aload_n hx hb d_MO_planFrom_55 rfl (lv_at hl 0 rfl) ?_
      refine lv_iload_n hx hb d_MO_planFrom_56 rfl (lv_at hl 1 rfl) ?_
      refine r_call (va_runV (C := R_MO) (As := [.int (nI j)]) (rest := []) ⟨hx, hb, hml, hown, ht⟩ (t_MO_ran l dC dI g0 ad kI kZ sc3 ia4 j (show j < 40 by omega)) (cwV 1 ht (gV tb_792 tb_794 ts_34 tb_5 tb_795) rfl rfl rfl (by decide +kernel) ⟨Nat.le_of_ble_eq_true rfl, Nat.le_of_ble_eq_true rfl⟩) ⟨rdP_blind, va_recv (q := (R_MO, F_MO, 30)) hK hP rfl (show (MOW g0 ad kI kZ sc3 ia4 : va_W)[0]? = some _ from rfl), rd_pre hP hK⟩ rfl rfl hl.1 rfl (lv_room (Nat.le_of_ble_eq_true rfl)) d_MO_planFrom_57 ⟨Nat.le_of_ble_eq_true rfl, Nat.le_of_ble_eq_true rfl⟩) (fun r5 hu => ?_)
      clear hu
      refine W.eq (g2 := F0 m 60 ls [.int r5]) rfl ?_
      refine lv_if_eq (tgt := 72) hx hb d_MO_planFrom_60 (by decide) (fun h60_2 => ?_) (fun h60_2 => ?_)
      · have h60_2 := h60_2
        have i60_2 := ti_eq h60_2
        (try rw [l_0] at i60_2)
        refine lv_iconst (v := -1) hx hb d_MO_planFrom_72 (by decide) ?_
        have hz0 : MI T N sc3 ia4 := hI.same (hs.wk (by decide)) (hi.wk (by decide))
        exact W.iret (v := -1) hx hb hr (fun t ht9 hW => ⟨⟨-1, (sc3, ia4), rfl, ⟨hs, hi, hz0⟩, by rw [ht9]; exact hP, hD⟩, hS.F ht9⟩) hS.2.2 d_MO_planFrom_73
      · have h60_2 := h60_2
        have i60_2 := ti_ne h60_2
        (try rw [l_0] at i60_2)
        refine lv_aload_n hx hb d_MO_planFrom_63 rfl (lv_at hl 0 rfl) ?_
        refine va_get (D := (dC, dI)) (ci := 5) (v := .ref (ad 12)) (C := R_MO) (T := F_MO) (N := 30) hx hb ht in_MO hown hK hP 0 rfl rfl 12 (by decide) (ht _ tb_643) (fun _ h9 => h9) rfl d_MO_planFrom_64 ?_
        refine lv_iload_n hx hb d_MO_planFrom_67 rfl (lv_at hl 1 rfl) ?_
        refine va_iald hx hb hK hP 9 0 rfl rfl (vp_in_nI (show j < 40 by omega) (by decide)) d_MO_planFrom_68 ?_
        refine W.eq (g2 := F0 m 69 ls [.int (ia 12 j)]) (by rw [nI_clamp (show j < 2 ^ 31 by omega), hi 12 (by decide)]) ?_
        refine lv_goto (tgt := 73) hx hb d_MO_planFrom_69 (by decide) ?_
        have hz0 : MI T N sc3 ia4 := hI.same (hs.wk (by decide)) (hi.wk (by decide))
        exact W.iret (v := ia 12 j) hx hb hr (fun t ht9 hW => ⟨⟨ia 12 j, (sc3, ia4), rfl, ⟨hs, hi, hz0⟩, by rw [ht9]; exact hP, hD⟩, hS.F ht9⟩) hS.2.2 d_MO_planFrom_73
    · have h28_1 := h28_1
      have i28_1 := ti_eq h28_1
      (try rw [l_0] at i28_1)
      refine lv_aload_n hx hb d_MO_planFrom_31 rfl (lv_at hl 0 rfl) ?_
      refine t_call (u0 := (sc3, ia4)) (va_runV (C := R_MO) (As := []) (rest := []) ⟨hx, hb, hml, hown, ht⟩ (t_MO_plan l dC dI g0 ad kI kZ sc3 ia4 H.size Bd T N (hI.same (hs.wk (by decide)) (hi.wk (by decide)))) (cwV 0 ht (gV tb_756 tb_758 ts_25 tb_5 tb_759) rfl rfl rfl (by decide +kernel) ⟨Nat.le_of_ble_eq_true rfl, Nat.le_of_ble_eq_true rfl⟩) ⟨frP_blind, va_recv (q := (R_MO, F_MO, 30)) hK hP rfl (show (MOW g0 ad kI kZ sc3 ia4 : va_W)[0]? = some _ from rfl), fr_pre hP hK hD hAB hBs hS hV⟩ rfl rfl hl.1 rfl (lv_room (Nat.le_of_ble_eq_true rfl)) d_MO_planFrom_32 ⟨Nat.le_of_ble_eq_true rfl, Nat.le_of_ble_eq_true rfl⟩) hD hS hA (fun r6 u H locs hu hP hD hS => ?_)
      obtain ⟨sc7, ia8⟩ := u
      obtain ⟨hu6_0, hu6_1, hu6_2⟩ := hu
      have hu6_0 : same [21] sc3 sc7 := hu6_0
      have hu6_1 : same [22, 23, 24, 25, 26, 27] ia4 ia8 := hu6_1
      have hu6_2 : QP N sc7 ia8 := hu6_2
      have hP : va_P (dC, dI) cls_ (MOW g0 ad kI kZ sc7 ia8) H := hP
      have hD : va_D A (MOW g0 ad kI kZ sc7 ia8) := hD
      have hs : same [0, 21] sc sc7 := hs.tr (hu6_0.wk (by decide))
      have hi : same [22, 23, 24, 25, 26, 27] ia ia8 := hi.tr (hu6_1.wk (by decide))
      refine W.eq (g2 := F0 m 35 ls []) rfl ?_
      refine W.cs (cells' := 0) (slots' := 0) rfl rfl ?_
      refine lv_aload_n hx hb d_MO_planFrom_35 rfl (lv_at hl 0 rfl) ?_
      refine va_get (D := (dC, dI)) (ci := 5) (v := .ref (ad 25)) (C := R_MO) (T := F_MO) (N := 30) hx hb ht in_MO hown hK hP 0 rfl rfl 25 (by decide) (ht _ tb_656) (fun _ h9 => h9) rfl d_MO_planFrom_36 ?_
      refine lv_iload_n hx hb d_MO_planFrom_39 rfl (lv_at hl 1 rfl) ?_
      refine va_zald hx hb hK hP 21 1 rfl rfl (vp_in_nI (show j < 40 by omega) (by decide)) d_MO_planFrom_40 ?_
      refine W.eq (g2 := F0 m 41 ls [.int (ia8 25 j)]) (by rw [nI_clamp (show j < 2 ^ 31 by omega)]) ?_
      refine lv_if_eq (tgt := 53) hx hb d_MO_planFrom_41 (by decide) (fun h41_3 => ?_) (fun h41_3 => ?_)
      · have h41_3 := h41_3
        have i41_3 := ti_eq h41_3
        (try rw [l_0] at i41_3)
        refine lv_iconst (v := -1) hx hb d_MO_planFrom_53 (by decide) ?_
        have hz0 : MI T N sc7 ia8 := hI.same (hs.wk (by decide)) (hi.wk (by decide))
        exact W.iret (v := -1) hx hb hr (fun t ht9 hW => ⟨⟨-1, (sc7, ia8), rfl, ⟨hs, hi, hz0⟩, by rw [ht9]; exact hP, hD⟩, hS.F ht9⟩) hS.2.2 d_MO_planFrom_54
      · have h41_3 := h41_3
        have i41_3 := ti_ne h41_3
        (try rw [l_0] at i41_3)
        refine lv_aload_n hx hb d_MO_planFrom_44 rfl (lv_at hl 0 rfl) ?_
        refine va_get (D := (dC, dI)) (ci := 5) (v := .ref (ad 26)) (C := R_MO) (T := F_MO) (N := 30) hx hb ht in_MO hown hK hP 0 rfl rfl 26 (by decide) (ht _ tb_657) (fun _ h9 => h9) rfl d_MO_planFrom_45 ?_
        refine lv_iload_n hx hb d_MO_planFrom_48 rfl (lv_at hl 1 rfl) ?_
        refine va_iald hx hb hK hP 22 0 rfl rfl (vp_in_nI (show j < 40 by omega) (by decide)) d_MO_planFrom_49 ?_
        refine W.eq (g2 := F0 m 50 ls [.int (ia8 26 j)]) (by rw [nI_clamp (show j < 2 ^ 31 by omega)]) ?_
        refine lv_goto (tgt := 54) hx hb d_MO_planFrom_50 (by decide) ?_
        have hz0 : MI T N sc7 ia8 := hI.same (hs.wk (by decide)) (hi.wk (by decide))
        exact W.iret (v := ia8 26 j) hx hb hr (fun t ht9 hW => ⟨⟨ia8 26 j, (sc7, ia8), rfl, ⟨hs, hi, hz0⟩, by rw [ht9]; exact hP, hD⟩, hS.F ht9⟩) hS.2.2 d_MO_planFrom_54
  · refine lv_if_eq (tgt := 13) hx hb d_MO_planFrom_6 (by decide) (fun _ => ?_) (fun h9 => absurd (by decide) h9)
    refine lv_iconst (v := 1) hx hb d_MO_planFrom_13 (by decide) ?_
    refine t_call (u0 := (sc, ia)) (va_runV (C := R_MO) (As := [.int 1]) (rest := []) ⟨hx, hb, hml, hown, ht⟩ (t_MO_refused l dC dI g0 ad kI kZ sc ia s.heap.size Bd 1) (cwV 1 ht (gV tb_736 tb_738 ts_23 tb_5 tb_739) rfl rfl rfl (by decide +kernel) ⟨Nat.le_of_ble_eq_true rfl, Nat.le_of_ble_eq_true rfl⟩) ⟨frP_blind, va_recv (q := (R_MO, F_MO, 30)) hK hP rfl (show (MOW g0 ad kI kZ sc ia : va_W)[0]? = some _ from rfl), fr_pre hP hK hD hAB hBs hS hV⟩ rfl rfl hl.1 rfl (lv_room (Nat.le_of_ble_eq_true rfl)) d_MO_planFrom_14 ⟨Nat.le_of_ble_eq_true rfl, Nat.le_of_ble_eq_true rfl⟩) hD hS hA (fun r9 u H locs hu hP hD hS => ?_)
    obtain ⟨sc10, ia11⟩ := u
    obtain ⟨hu9_0, hu9_1, hu9_2, hu9_3⟩ := hu
    have hu9_0 : same [0] sc sc10 := hu9_0
    have hu9_1 : same [] ia ia11 := hu9_1
    have hu9_2 : sc10 0 = 1 := hu9_2
    have hu9_3 : ((0 : Int32) < 1 ∧ r9 = 1 ∨ ¬ (0 : Int32) < 1 ∧ r9 = 0) := hu9_3
    have hP : va_P (dC, dI) cls_ (MOW g0 ad kI kZ sc10 ia11) H := hP
    have hD : va_D A (MOW g0 ad kI kZ sc10 ia11) := hD
    have hs : same [0, 21] sc sc10 := hs.tr (hu9_0.wk (by decide))
    have hi : same [22, 23, 24, 25, 26, 27] ia ia11 := hi.tr (hu9_1.wk (by decide))
    refine W.eq (g2 := F0 m 17 ls [.int r9]) rfl ?_
    refine W.cs (cells' := 0) (slots' := 0) rfl rfl ?_
    obtain rfl : r9 = 1 := by rcases hu9_3 with ⟨_, q⟩ | ⟨q, _⟩; { exact q }; { exact absurd (by decide) q }
    refine lv_if_eq (tgt := 22) hx hb d_MO_planFrom_17 (by decide) (fun h9 => absurd h9 (by decide)) (fun _ => ?_)
    refine lv_iconst (v := 0) hx hb d_MO_planFrom_20 (by decide) ?_
    have hz0 : MI T N sc10 ia11 := hI.same (hs.wk (by decide)) (hi.wk (by decide))
    exact W.iret (v := 0) hx hb hr (fun t ht9 hW => ⟨⟨0, (sc10, ia11), rfl, ⟨hs, hi, hz0⟩, by rw [ht9]; exact hP, hD⟩, hS.F ht9⟩) hS.2.2 d_MO_planFrom_21
set_option maxHeartbeats 8000000 in
set_option maxRecDepth 100000 in
theorem t_MO_planTo (l : Launch) (dC : Nat → ClassId) (dI : Nat → Nat → Nat) (g0 : Nat) (ad : Nat → Nat) (kI kZ : ClassId) (sc : Nat → Int32) (ia : Nat → Nat → Int32) (sz Bd : Nat) (T : Int) (N : Nat) (hI : MI T N sc ia) (x : Int32) : Met l y_MO_planTo w_MO_planTo ({ frames := 5, cells := 0, slots := 0, locals := 118 }) (frP (dC, dI) (MOW g0 ad kI kZ sc ia) (MOT kI kZ) sz Bd [.ref g0, .int x]) (tQ (dC, dI) (mW g0 ad kI kZ) (va_A (MOW g0 ad kI kZ sc ia) sz) vI (fun r u => same [0, 21] sc u.1 ∧ same [22, 23, 24, 25, 26, 27] ia u.2 ∧ MI T N u.1 u.2)) 0 0 (va_A (MOW g0 ad kI kZ sc ia) sz) := by
  refine Met.ofW (cc := c_MO_planTo) (maxL := 2) (ret := (some .int)) (by decide) rfl ?_
  intro p e s m args below meth c s₁ B hml hv
  obtain ⟨rfl, ⟨hsz, hBs⟩, hP, hK, hD0, hV⟩ := hv
  have hx := B.exec
  have hb := B.bytes
  have hr := B.returns
  have ht : ∀ w ∈ tb_, w.before _ s = true := fun w h => atoms_spec (ws := w_MO_planTo) B.pre w (List.mem_cons_of_mem _ h)
  have hown : s.vm.findClass R_MO = some m.cls := findClass_of_methodNamed B.named
  have hlocks := B.notSynchronized
  subst hsz
  have hD := hD0.self (sz := s.heap.size)
  have hAB : ∀ q, va_A (MOW g0 ad kI kZ sc ia) s.heap.size q → Bd ≤ q := fr_AB hD0 hBs
  generalize hAe : va_A (MOW g0 ad kI kZ sc ia) s.heap.size = A at hD hAB ⊢
  have hA : ∀ q : Nat, s.heap.size ≤ q → A q := fun q h => by rw [← hAe]; exact Or.inr h
  have hS : va_S A s.heap s.heap [] := va_S.rf
  have hs : same [0, 21] sc sc := same.rf
  have hi : same [22, 23, 24, 25, 26, 27] ia ia := same.rf
  have hP : va_P (dC, dI) cls_ (MOW g0 ad kI kZ sc ia) s.heap := hP
  have hl := lv_entry ([.ref g0, .int x]) (n := 2) (Nat.le_of_ble_eq_true rfl)
  rw [lg_entry_eq]
  generalize (lg_sl ([.ref g0, .int x]) ++ List.replicate (2 - (lg_sl ([.ref g0, .int x])).length) Slot.unset).toArray = ls at hl ⊢
  have hl : lv_has ls 2 [(0, .ref g0), (1, .int x)] := hl
  have e4 := hI.e4
  have hN := hI.hN
  have hT := hI.T
  refine lv_aload_n hx hb d_MO_planTo_0 rfl (lv_at hl 0 rfl) ?_
  refine lv_aload_n hx hb d_MO_planTo_1 rfl (lv_at hl 0 rfl) ?_
  refine lv_iload_n hx hb d_MO_planTo_2 rfl (lv_at hl 1 rfl) ?_
  refine r_call (va_runV (C := R_MO) (As := [.int x]) (rest := [.ref g0]) ⟨hx, hb, hml, hown, ht⟩ (t_MO_isRequest l dC dI g0 ad kI kZ sc ia N ((hs 4 (by decide)).trans e4) hN x) (cwV 1 ht (gV tb_744 tb_746 ts_24 tb_5 tb_747) rfl rfl rfl (by decide +kernel) ⟨Nat.le_of_ble_eq_true rfl, Nat.le_of_ble_eq_true rfl⟩) ⟨rdP_blind, va_recv (q := (R_MO, F_MO, 30)) hK hP rfl (show (MOW g0 ad kI kZ sc ia : va_W)[0]? = some _ from rfl), rd_pre hP hK⟩ rfl rfl hl.1 rfl (lv_room (Nat.le_of_ble_eq_true rfl)) d_MO_planTo_3 ⟨Nat.le_of_ble_eq_true rfl, Nat.le_of_ble_eq_true rfl⟩) (fun r1 hu => ?_)
  have hu1_0 := hu
  have hu1_0 : ((∃ j, j < N ∧ x = nI j) ∧ r1 = 1 ∨ (∀ j, j < N → x ≠ nI j) ∧ r1 = 0) := hu1_0
  refine W.eq (g2 := F0 m 6 ls [.int r1, .ref g0]) rfl ?_
  rcases hu1_0 with ⟨⟨j, hj, rfl⟩, rfl⟩ | ⟨hno, rfl⟩
  · refine lv_if_eq (tgt := 13) hx hb d_MO_planTo_6 (by decide) (fun h9 => absurd h9 (by decide)) (fun _ => ?_)
    refine lv_iconst (v := 0) hx hb d_MO_planTo_9 (by decide) ?_
    refine lv_goto (tgt := 14) hx hb d_MO_planTo_10 (by decide) ?_
    refine t_call (u0 := (sc, ia)) (va_runV (C := R_MO) (As := [.int 0]) (rest := []) ⟨hx, hb, hml, hown, ht⟩ (t_MO_refused l dC dI g0 ad kI kZ sc ia s.heap.size Bd 0) (cwV 1 ht (gV tb_736 tb_738 ts_23 tb_5 tb_739) rfl rfl rfl (by decide +kernel) ⟨Nat.le_of_ble_eq_true rfl, Nat.le_of_ble_eq_true rfl⟩) ⟨frP_blind, va_recv (q := (R_MO, F_MO, 30)) hK hP rfl (show (MOW g0 ad kI kZ sc ia : va_W)[0]? = some _ from rfl), fr_pre hP hK hD hAB hBs hS hV⟩ rfl rfl hl.1 rfl (lv_room (Nat.le_of_ble_eq_true rfl)) d_MO_planTo_14 ⟨Nat.le_of_ble_eq_true rfl, Nat.le_of_ble_eq_true rfl⟩) hD hS hA (fun r2 u H locs hu hP hD hS => ?_)
    obtain ⟨sc3, ia4⟩ := u
    obtain ⟨hu2_0, hu2_1, hu2_2, hu2_3⟩ := hu
    have hu2_0 : same [0] sc sc3 := hu2_0
    have hu2_1 : same [] ia ia4 := hu2_1
    have hu2_2 : sc3 0 = 0 := hu2_2
    have hu2_3 : ((0 : Int32) < 0 ∧ r2 = 1 ∨ ¬ (0 : Int32) < 0 ∧ r2 = 0) := hu2_3
    have hP : va_P (dC, dI) cls_ (MOW g0 ad kI kZ sc3 ia4) H := hP
    have hD : va_D A (MOW g0 ad kI kZ sc3 ia4) := hD
    have hs : same [0, 21] sc sc3 := hs.tr (hu2_0.wk (by decide))
    have hi : same [22, 23, 24, 25, 26, 27] ia ia4 := hi.tr (hu2_1.wk (by decide))
    refine W.eq (g2 := F0 m 17 ls [.int r2]) rfl ?_
    refine W.cs (cells' := 0) (slots' := 0) rfl rfl ?_
    obtain rfl : r2 = 0 := by rcases hu2_3 with ⟨q, _⟩ | ⟨_, q⟩; { exact absurd q (by decide) }; { exact q }
    refine lv_if_eq (tgt := 22) hx hb d_MO_planTo_17 (by decide) (fun _ => ?_) (fun h9 => absurd (by decide) h9)
    refine lv_aload_n hx hb d_MO_planTo_22 rfl (lv_at hl 0 rfl) ?_
    refine va_get (D := (dC, dI)) (ci := 5) (v := .ref (ad 11)) (C := R_MO) (T := F_MO) (N := 30) hx hb ht in_MO hown hK hP 0 rfl rfl 11 (by decide) (ht _ tb_642) (fun _ h9 => h9) rfl d_MO_planTo_23 ?_
    refine lv_iload_n hx hb d_MO_planTo_26 rfl (lv_at hl 1 rfl) ?_
    refine va_iald hx hb hK hP 8 0 rfl rfl (vp_in_nI (show j < 40 by omega) (by decide)) d_MO_planTo_27 ?_
    refine W.eq (g2 := F0 m 28 ls [.int (ia 11 j)]) (by rw [nI_clamp (show j < 2 ^ 31 by omega), hi 11 (by decide)]) ?_
    refine lv_if_eq (tgt := 41) hx hb d_MO_planTo_28 (by decide) (fun h28_1 => ?_) (fun h28_1 => ?_)
    · have h28_1 := h28_1
      have i28_1 := ti_eq h28_1
      (try rw [l_0] at i28_1)
      refine lv_aload_n hx hb d_MO_planTo_41 rfl (lv_at hl 0 rfl) ?_
      refine t_call (u0 := (sc3, ia4)) (va_runV (C := R_MO) (As := []) (rest := []) ⟨hx, hb, hml, hown, ht⟩ (t_MO_plan l dC dI g0 ad kI kZ sc3 ia4 H.size Bd T N (hI.same (hs.wk (by decide)) (hi.wk (by decide)))) (cwV 0 ht (gV tb_756 tb_758 ts_25 tb_5 tb_759) rfl rfl rfl (by decide +kernel) ⟨Nat.le_of_ble_eq_true rfl, Nat.le_of_ble_eq_true rfl⟩) ⟨frP_blind, va_recv (q := (R_MO, F_MO, 30)) hK hP rfl (show (MOW g0 ad kI kZ sc3 ia4 : va_W)[0]? = some _ from rfl), fr_pre hP hK hD hAB hBs hS hV⟩ rfl rfl hl.1 rfl (lv_room (Nat.le_of_ble_eq_true rfl)) d_MO_planTo_42 ⟨Nat.le_of_ble_eq_true rfl, Nat.le_of_ble_eq_true rfl⟩) hD hS hA (fun r5 u H locs hu hP hD hS => ?_)
      obtain ⟨sc6, ia7⟩ := u
      obtain ⟨hu5_0, hu5_1, hu5_2⟩ := hu
      have hu5_0 : same [21] sc3 sc6 := hu5_0
      have hu5_1 : same [22, 23, 24, 25, 26, 27] ia4 ia7 := hu5_1
      have hu5_2 : QP N sc6 ia7 := hu5_2
      have hP : va_P (dC, dI) cls_ (MOW g0 ad kI kZ sc6 ia7) H := hP
      have hD : va_D A (MOW g0 ad kI kZ sc6 ia7) := hD
      have hs : same [0, 21] sc sc6 := hs.tr (hu5_0.wk (by decide))
      have hi : same [22, 23, 24, 25, 26, 27] ia ia7 := hi.tr (hu5_1.wk (by decide))
      refine W.eq (g2 := F0 m 45 ls []) rfl ?_
      refine W.cs (cells' := 0) (slots' := 0) rfl rfl ?_
      refine lv_aload_n hx hb d_MO_planTo_45 rfl (lv_at hl 0 rfl) ?_
      refine va_get (D := (dC, dI)) (ci := 5) (v := .ref (ad 11)) (C := R_MO) (T := F_MO) (N := 30) hx hb ht in_MO hown hK hP 0 rfl rfl 11 (by decide) (ht _ tb_642) (fun _ h9 => h9) rfl d_MO_planTo_46 ?_
      refine lv_iload_n hx hb d_MO_planTo_49 rfl (lv_at hl 1 rfl) ?_
      refine va_iald hx hb hK hP 8 0 rfl rfl (vp_in_nI (show j < 40 by omega) (by decide)) d_MO_planTo_50 ?_
      refine W.eq (g2 := F0 m 51 ls [.int (ia 11 j)]) (by rw [nI_clamp (show j < 2 ^ 31 by omega), hi 11 (by decide)]) ?_
      refine lv_iconst (v := 1) hx hb d_MO_planTo_51 (by decide) ?_
      refine lv_icmp_eq (tgt := 64) hx hb d_MO_planTo_52 (by decide) (fun h9 => absurd h9 (by rw [h28_1]; decide)) (fun _ => ?_)
      refine lv_aload_n hx hb d_MO_planTo_55 rfl (lv_at hl 0 rfl) ?_
      refine va_get (D := (dC, dI)) (ci := 5) (v := .ref (ad 25)) (C := R_MO) (T := F_MO) (N := 30) hx hb ht in_MO hown hK hP 0 rfl rfl 25 (by decide) (ht _ tb_656) (fun _ h9 => h9) rfl d_MO_planTo_56 ?_
      refine lv_iload_n hx hb d_MO_planTo_59 rfl (lv_at hl 1 rfl) ?_
      refine va_zald hx hb hK hP 21 1 rfl rfl (vp_in_nI (show j < 40 by omega) (by decide)) d_MO_planTo_60 ?_
      refine W.eq (g2 := F0 m 61 ls [.int (ia7 25 j)]) (by rw [nI_clamp (show j < 2 ^ 31 by omega)]) ?_
      refine lv_if_eq (tgt := 73) hx hb d_MO_planTo_61 (by decide) (fun h61_2 => ?_) (fun h61_2 => ?_)
      · have h61_2 := h61_2
        have i61_2 := ti_eq h61_2
        (try rw [l_0] at i61_2)
        refine lv_iconst (v := -1) hx hb d_MO_planTo_73 (by decide) ?_
        have hz0 : MI T N sc6 ia7 := hI.same (hs.wk (by decide)) (hi.wk (by decide))
        exact W.iret (v := -1) hx hb hr (fun t ht9 hW => ⟨⟨-1, (sc6, ia7), rfl, ⟨hs, hi, hz0⟩, by rw [ht9]; exact hP, hD⟩, hS.F ht9⟩) hS.2.2 d_MO_planTo_74
      · have h61_2 := h61_2
        have i61_2 := ti_ne h61_2
        (try rw [l_0] at i61_2)
        refine lv_aload_n hx hb d_MO_planTo_64 rfl (lv_at hl 0 rfl) ?_
        refine va_get (D := (dC, dI)) (ci := 5) (v := .ref (ad 27)) (C := R_MO) (T := F_MO) (N := 30) hx hb ht in_MO hown hK hP 0 rfl rfl 27 (by decide) (ht _ tb_658) (fun _ h9 => h9) rfl d_MO_planTo_65 ?_
        refine lv_iload_n hx hb d_MO_planTo_68 rfl (lv_at hl 1 rfl) ?_
        refine va_iald hx hb hK hP 23 0 rfl rfl (vp_in_nI (show j < 40 by omega) (by decide)) d_MO_planTo_69 ?_
        refine W.eq (g2 := F0 m 70 ls [.int (ia7 27 j)]) (by rw [nI_clamp (show j < 2 ^ 31 by omega)]) ?_
        refine lv_goto (tgt := 74) hx hb d_MO_planTo_70 (by decide) ?_
        have hz0 : MI T N sc6 ia7 := hI.same (hs.wk (by decide)) (hi.wk (by decide))
        exact W.iret (v := ia7 27 j) hx hb hr (fun t ht9 hW => ⟨⟨ia7 27 j, (sc6, ia7), rfl, ⟨hs, hi, hz0⟩, by rw [ht9]; exact hP, hD⟩, hS.F ht9⟩) hS.2.2 d_MO_planTo_74
    · have h28_1 := h28_1
      have i28_1 := ti_ne h28_1
      (try rw [l_0] at i28_1)
      refine lv_aload_n hx hb d_MO_planTo_31 rfl (lv_at hl 0 rfl) ?_
      refine va_get (D := (dC, dI)) (ci := 5) (v := .ref (ad 11)) (C := R_MO) (T := F_MO) (N := 30) hx hb ht in_MO hown hK hP 0 rfl rfl 11 (by decide) (ht _ tb_642) (fun _ h9 => h9) rfl d_MO_planTo_32 ?_
      refine lv_iload_n hx hb d_MO_planTo_35 rfl (lv_at hl 1 rfl) ?_
      refine va_iald hx hb hK hP 8 0 rfl rfl (vp_in_nI (show j < 40 by omega) (by decide)) d_MO_planTo_36 ?_
      refine W.eq (g2 := F0 m 37 ls [.int (ia 11 j)]) (by rw [nI_clamp (show j < 2 ^ 31 by omega), hi 11 (by decide)]) ?_
      refine lv_iconst (v := 1) hx hb d_MO_planTo_37 (by decide) ?_
      refine lv_icmp_ne (tgt := 75) hx hb d_MO_planTo_38 (by decide) (fun h38_3 => ?_) (fun h38_3 => ?_)
      · have h38_3 := h38_3
        have i38_3 := ti_ne h38_3
        (try rw [l_1] at i38_3)
        refine lv_aload_n hx hb d_MO_planTo_75 rfl (lv_at hl 0 rfl) ?_
        refine lv_iload_n hx hb d_MO_planTo_76 rfl (lv_at hl 1 rfl) ?_
        refine r_call (va_runV (C := R_MO) (As := [.int (nI j)]) (rest := []) ⟨hx, hb, hml, hown, ht⟩ (t_MO_ran l dC dI g0 ad kI kZ sc3 ia4 j (show j < 40 by omega)) (cwV 1 ht (gV tb_792 tb_794 ts_34 tb_5 tb_795) rfl rfl rfl (by decide +kernel) ⟨Nat.le_of_ble_eq_true rfl, Nat.le_of_ble_eq_true rfl⟩) ⟨rdP_blind, va_recv (q := (R_MO, F_MO, 30)) hK hP rfl (show (MOW g0 ad kI kZ sc3 ia4 : va_W)[0]? = some _ from rfl), rd_pre hP hK⟩ rfl rfl hl.1 rfl (lv_room (Nat.le_of_ble_eq_true rfl)) d_MO_planTo_77 ⟨Nat.le_of_ble_eq_true rfl, Nat.le_of_ble_eq_true rfl⟩) (fun r8 hu => ?_)
        clear hu
        refine W.eq (g2 := F0 m 80 ls [.int r8]) rfl ?_
        refine lv_if_eq (tgt := 92) hx hb d_MO_planTo_80 (by decide) (fun h80_4 => ?_) (fun h80_4 => ?_)
        · have h80_4 := h80_4
          have i80_4 := ti_eq h80_4
          (try rw [l_0] at i80_4)
          refine lv_iconst (v := -1) hx hb d_MO_planTo_92 (by decide) ?_
          have hz0 : MI T N sc3 ia4 := hI.same (hs.wk (by decide)) (hi.wk (by decide))
          exact W.iret (v := -1) hx hb hr (fun t ht9 hW => ⟨⟨-1, (sc3, ia4), rfl, ⟨hs, hi, hz0⟩, by rw [ht9]; exact hP, hD⟩, hS.F ht9⟩) hS.2.2 d_MO_planTo_93
        · have h80_4 := h80_4
          have i80_4 := ti_ne h80_4
          (try rw [l_0] at i80_4)
          refine lv_aload_n hx hb d_MO_planTo_83 rfl (lv_at hl 0 rfl) ?_
          refine va_get (D := (dC, dI)) (ci := 5) (v := .ref (ad 13)) (C := R_MO) (T := F_MO) (N := 30) hx hb ht in_MO hown hK hP 0 rfl rfl 13 (by decide) (ht _ tb_644) (fun _ h9 => h9) rfl d_MO_planTo_84 ?_
          refine lv_iload_n hx hb d_MO_planTo_87 rfl (lv_at hl 1 rfl) ?_
          refine va_iald hx hb hK hP 10 0 rfl rfl (vp_in_nI (show j < 40 by omega) (by decide)) d_MO_planTo_88 ?_
          refine W.eq (g2 := F0 m 89 ls [.int (ia 13 j)]) (by rw [nI_clamp (show j < 2 ^ 31 by omega), hi 13 (by decide)]) ?_
          refine lv_goto (tgt := 93) hx hb d_MO_planTo_89 (by decide) ?_
          have hz0 : MI T N sc3 ia4 := hI.same (hs.wk (by decide)) (hi.wk (by decide))
          exact W.iret (v := ia 13 j) hx hb hr (fun t ht9 hW => ⟨⟨ia 13 j, (sc3, ia4), rfl, ⟨hs, hi, hz0⟩, by rw [ht9]; exact hP, hD⟩, hS.F ht9⟩) hS.2.2 d_MO_planTo_93
      · have h38_3 := h38_3
        have i38_3 := ti_eq h38_3
        (try rw [l_1] at i38_3)
        refine lv_aload_n hx hb d_MO_planTo_41 rfl (lv_at hl 0 rfl) ?_
        refine t_call (u0 := (sc3, ia4)) (va_runV (C := R_MO) (As := []) (rest := []) ⟨hx, hb, hml, hown, ht⟩ (t_MO_plan l dC dI g0 ad kI kZ sc3 ia4 H.size Bd T N (hI.same (hs.wk (by decide)) (hi.wk (by decide)))) (cwV 0 ht (gV tb_756 tb_758 ts_25 tb_5 tb_759) rfl rfl rfl (by decide +kernel) ⟨Nat.le_of_ble_eq_true rfl, Nat.le_of_ble_eq_true rfl⟩) ⟨frP_blind, va_recv (q := (R_MO, F_MO, 30)) hK hP rfl (show (MOW g0 ad kI kZ sc3 ia4 : va_W)[0]? = some _ from rfl), fr_pre hP hK hD hAB hBs hS hV⟩ rfl rfl hl.1 rfl (lv_room (Nat.le_of_ble_eq_true rfl)) d_MO_planTo_42 ⟨Nat.le_of_ble_eq_true rfl, Nat.le_of_ble_eq_true rfl⟩) hD hS hA (fun r9 u H locs hu hP hD hS => ?_)
        obtain ⟨sc10, ia11⟩ := u
        obtain ⟨hu9_0, hu9_1, hu9_2⟩ := hu
        have hu9_0 : same [21] sc3 sc10 := hu9_0
        have hu9_1 : same [22, 23, 24, 25, 26, 27] ia4 ia11 := hu9_1
        have hu9_2 : QP N sc10 ia11 := hu9_2
        have hP : va_P (dC, dI) cls_ (MOW g0 ad kI kZ sc10 ia11) H := hP
        have hD : va_D A (MOW g0 ad kI kZ sc10 ia11) := hD
        have hs : same [0, 21] sc sc10 := hs.tr (hu9_0.wk (by decide))
        have hi : same [22, 23, 24, 25, 26, 27] ia ia11 := hi.tr (hu9_1.wk (by decide))
        refine W.eq (g2 := F0 m 45 ls []) rfl ?_
        refine W.cs (cells' := 0) (slots' := 0) rfl rfl ?_
        refine lv_aload_n hx hb d_MO_planTo_45 rfl (lv_at hl 0 rfl) ?_
        refine va_get (D := (dC, dI)) (ci := 5) (v := .ref (ad 11)) (C := R_MO) (T := F_MO) (N := 30) hx hb ht in_MO hown hK hP 0 rfl rfl 11 (by decide) (ht _ tb_642) (fun _ h9 => h9) rfl d_MO_planTo_46 ?_
        refine lv_iload_n hx hb d_MO_planTo_49 rfl (lv_at hl 1 rfl) ?_
        refine va_iald hx hb hK hP 8 0 rfl rfl (vp_in_nI (show j < 40 by omega) (by decide)) d_MO_planTo_50 ?_
        refine W.eq (g2 := F0 m 51 ls [.int (ia 11 j)]) (by rw [nI_clamp (show j < 2 ^ 31 by omega), hi 11 (by decide)]) ?_
        refine lv_iconst (v := 1) hx hb d_MO_planTo_51 (by decide) ?_
        refine lv_icmp_eq (tgt := 64) hx hb d_MO_planTo_52 (by decide) (fun _ => ?_) (fun h9 => absurd (h38_3) h9)
        refine lv_aload_n hx hb d_MO_planTo_64 rfl (lv_at hl 0 rfl) ?_
        refine va_get (D := (dC, dI)) (ci := 5) (v := .ref (ad 27)) (C := R_MO) (T := F_MO) (N := 30) hx hb ht in_MO hown hK hP 0 rfl rfl 27 (by decide) (ht _ tb_658) (fun _ h9 => h9) rfl d_MO_planTo_65 ?_
        refine lv_iload_n hx hb d_MO_planTo_68 rfl (lv_at hl 1 rfl) ?_
        refine va_iald hx hb hK hP 23 0 rfl rfl (vp_in_nI (show j < 40 by omega) (by decide)) d_MO_planTo_69 ?_
        refine W.eq (g2 := F0 m 70 ls [.int (ia11 27 j)]) (by rw [nI_clamp (show j < 2 ^ 31 by omega)]) ?_
        refine lv_goto (tgt := 74) hx hb d_MO_planTo_70 (by decide) ?_
        have hz0 : MI T N sc10 ia11 := hI.same (hs.wk (by decide)) (hi.wk (by decide))
        exact W.iret (v := ia11 27 j) hx hb hr (fun t ht9 hW => ⟨⟨ia11 27 j, (sc10, ia11), rfl, ⟨hs, hi, hz0⟩, by rw [ht9]; exact hP, hD⟩, hS.F ht9⟩) hS.2.2 d_MO_planTo_74
  · refine lv_if_eq (tgt := 13) hx hb d_MO_planTo_6 (by decide) (fun _ => ?_) (fun h9 => absurd (by decide) h9)
    refine lv_iconst (v := 1) hx hb d_MO_planTo_13 (by decide) ?_
    refine t_call (u0 := (sc, ia)) (va_runV (C := R_MO) (As := [.int 1]) (rest := []) ⟨hx, hb, hml, hown, ht⟩ (t_MO_refused l dC dI g0 ad kI kZ sc ia s.heap.size Bd 1) (cwV 1 ht (gV tb_736 tb_738 ts_23 tb_5 tb_739) rfl rfl rfl (by decide +kernel) ⟨Nat.le_of_ble_eq_true rfl, Nat.le_of_ble_eq_true rfl⟩) ⟨frP_blind, va_recv (q := (R_MO, F_MO, 30)) hK hP rfl (show (MOW g0 ad kI kZ sc ia : va_W)[0]? = some _ from rfl), fr_pre hP hK hD hAB hBs hS hV⟩ rfl rfl hl.1 rfl (lv_room (Nat.le_of_ble_eq_true rfl)) d_MO_planTo_14 ⟨Nat.le_of_ble_eq_true rfl, Nat.le_of_ble_eq_true rfl⟩) hD hS hA (fun r12 u H locs hu hP hD hS => ?_)
    obtain ⟨sc13, ia14⟩ := u
    obtain ⟨hu12_0, hu12_1, hu12_2, hu12_3⟩ := hu
    have hu12_0 : same [0] sc sc13 := hu12_0
    have hu12_1 : same [] ia ia14 := hu12_1
    have hu12_2 : sc13 0 = 1 := hu12_2
    have hu12_3 : ((0 : Int32) < 1 ∧ r12 = 1 ∨ ¬ (0 : Int32) < 1 ∧ r12 = 0) := hu12_3
    have hP : va_P (dC, dI) cls_ (MOW g0 ad kI kZ sc13 ia14) H := hP
    have hD : va_D A (MOW g0 ad kI kZ sc13 ia14) := hD
    have hs : same [0, 21] sc sc13 := hs.tr (hu12_0.wk (by decide))
    have hi : same [22, 23, 24, 25, 26, 27] ia ia14 := hi.tr (hu12_1.wk (by decide))
    refine W.eq (g2 := F0 m 17 ls [.int r12]) rfl ?_
    refine W.cs (cells' := 0) (slots' := 0) rfl rfl ?_
    obtain rfl : r12 = 1 := by rcases hu12_3 with ⟨_, q⟩ | ⟨q, _⟩; { exact q }; { exact absurd (by decide) q }
    refine lv_if_eq (tgt := 22) hx hb d_MO_planTo_17 (by decide) (fun h9 => absurd h9 (by decide)) (fun _ => ?_)
    refine lv_iconst (v := 0) hx hb d_MO_planTo_20 (by decide) ?_
    have hz0 : MI T N sc13 ia14 := hI.same (hs.wk (by decide)) (hi.wk (by decide))
    exact W.iret (v := 0) hx hb hr (fun t ht9 hW => ⟨⟨0, (sc13, ia14), rfl, ⟨hs, hi, hz0⟩, by rw [ht9]; exact hP, hD⟩, hS.F ht9⟩) hS.2.2 d_MO_planTo_21
set_option maxHeartbeats 8000000 in
set_option maxRecDepth 100000 in
theorem t_MO_cancel (l : Launch) (dC : Nat → ClassId) (dI : Nat → Nat → Nat) (g0 : Nat) (ad : Nat → Nat) (kI kZ : ClassId) (sc : Nat → Int32) (ia : Nat → Nat → Int32) (sz Bd : Nat) (T : Int) (N : Nat) (hI : MI T N sc ia) (x : Int32) : Met l y_MO_cancel w_MO_cancel ({ frames := 1, cells := 0, slots := 0, locals := 21 }) (frP (dC, dI) (MOW g0 ad kI kZ sc ia) (MOT kI kZ) sz Bd [.ref g0, .int x]) (tQ (dC, dI) (mW g0 ad kI kZ) (va_A (MOW g0 ad kI kZ sc ia) sz) vN (fun r u => same [0] sc u.1 ∧ same [11, 13] ia u.2 ∧ MI T N u.1 u.2)) 0 0 (va_A (MOW g0 ad kI kZ sc ia) sz) := by
  refine Met.ofW (cc := c_MO_cancel) (maxL := 2) (ret := none) (by decide) rfl ?_
  intro p e s m args below meth c s₁ B hml hv
  obtain ⟨rfl, ⟨hsz, hBs⟩, hP, hK, hD0, hV⟩ := hv
  have hx := B.exec
  have hb := B.bytes
  have hr := B.returns
  have ht : ∀ w ∈ tb_, w.before _ s = true := fun w h => atoms_spec (ws := w_MO_cancel) B.pre w (List.mem_cons_of_mem _ h)
  have hown : s.vm.findClass R_MO = some m.cls := findClass_of_methodNamed B.named
  have hlocks := B.notSynchronized
  subst hsz
  have hD := hD0.self (sz := s.heap.size)
  have hAB : ∀ q, va_A (MOW g0 ad kI kZ sc ia) s.heap.size q → Bd ≤ q := fr_AB hD0 hBs
  generalize hAe : va_A (MOW g0 ad kI kZ sc ia) s.heap.size = A at hD hAB ⊢
  have hA : ∀ q : Nat, s.heap.size ≤ q → A q := fun q h => by rw [← hAe]; exact Or.inr h
  have hS : va_S A s.heap s.heap [] := va_S.rf
  have hs : same [0] sc sc := same.rf
  have hi : same [11, 13] ia ia := same.rf
  have hP : va_P (dC, dI) cls_ (MOW g0 ad kI kZ sc ia) s.heap := hP
  have hl := lv_entry ([.ref g0, .int x]) (n := 2) (Nat.le_of_ble_eq_true rfl)
  rw [lg_entry_eq]
  generalize (lg_sl ([.ref g0, .int x]) ++ List.replicate (2 - (lg_sl ([.ref g0, .int x])).length) Slot.unset).toArray = ls at hl ⊢
  have hl : lv_has ls 2 [(0, .ref g0), (1, .int x)] := hl
  have e4 := hI.e4
  have hN := hI.hN
  have hT := hI.T
  refine lv_aload_n hx hb d_MO_cancel_0 rfl (lv_at hl 0 rfl) ?_
  refine lv_aload_n hx hb d_MO_cancel_1 rfl (lv_at hl 0 rfl) ?_
  refine lv_iload_n hx hb d_MO_cancel_2 rfl (lv_at hl 1 rfl) ?_
  refine r_call (va_runV (C := R_MO) (As := [.int x]) (rest := [.ref g0]) ⟨hx, hb, hml, hown, ht⟩ (t_MO_isRequest l dC dI g0 ad kI kZ sc ia N ((hs 4 (by decide)).trans e4) hN x) (cwV 1 ht (gV tb_744 tb_746 ts_24 tb_5 tb_747) rfl rfl rfl (by decide +kernel) ⟨Nat.le_of_ble_eq_true rfl, Nat.le_of_ble_eq_true rfl⟩) ⟨rdP_blind, va_recv (q := (R_MO, F_MO, 30)) hK hP rfl (show (MOW g0 ad kI kZ sc ia : va_W)[0]? = some _ from rfl), rd_pre hP hK⟩ rfl rfl hl.1 rfl (lv_room (Nat.le_of_ble_eq_true rfl)) d_MO_cancel_3 ⟨Nat.le_of_ble_eq_true rfl, Nat.le_of_ble_eq_true rfl⟩) (fun r1 hu => ?_)
  have hu1_0 := hu
  have hu1_0 : ((∃ j, j < N ∧ x = nI j) ∧ r1 = 1 ∨ (∀ j, j < N → x ≠ nI j) ∧ r1 = 0) := hu1_0
  refine W.eq (g2 := F0 m 6 ls [.int r1, .ref g0]) rfl ?_
  rcases hu1_0 with ⟨⟨j, hj, rfl⟩, rfl⟩ | ⟨hno, rfl⟩
  · refine lv_if_ne (tgt := 13) hx hb d_MO_cancel_6 (by decide) (fun _ => ?_) (fun h9 => absurd h9 (by decide))
    refine lv_aload_n hx hb d_MO_cancel_13 rfl (lv_at hl 0 rfl) ?_
    refine va_get (D := (dC, dI)) (ci := 5) (v := .ref (ad 11)) (C := R_MO) (T := F_MO) (N := 30) hx hb ht in_MO hown hK hP 0 rfl rfl 11 (by decide) (ht _ tb_642) (fun _ h9 => h9) rfl d_MO_cancel_14 ?_
    refine lv_iload_n hx hb d_MO_cancel_17 rfl (lv_at hl 1 rfl) ?_
    refine va_iald hx hb hK hP 8 0 rfl rfl (vp_in_nI (show j < 40 by omega) (by decide)) d_MO_cancel_18 ?_
    refine W.eq (g2 := F0 m 19 ls [.int (ia 11 j), .ref g0]) (by rw [nI_clamp (show j < 2 ^ 31 by omega)]) ?_
    refine lv_iconst (v := 1) hx hb d_MO_cancel_19 (by decide) ?_
    refine lv_icmp_le (tgt := 27) hx hb d_MO_cancel_20 (by decide) (fun h20_1 => ?_) (fun h20_1 => ?_)
    · have h20_1 := h20_1
      have i20_1 := ti_le h20_1
      (try rw [l_1] at i20_1)
      refine lv_iconst (v := 0) hx hb d_MO_cancel_27 (by decide) ?_
      refine t_call (u0 := (sc, ia)) (va_runV (C := R_MO) (As := [.int 0]) (rest := []) ⟨hx, hb, hml, hown, ht⟩ (t_MO_refused l dC dI g0 ad kI kZ sc ia s.heap.size Bd 0) (cwV 1 ht (gV tb_736 tb_738 ts_23 tb_5 tb_739) rfl rfl rfl (by decide +kernel) ⟨Nat.le_of_ble_eq_true rfl, Nat.le_of_ble_eq_true rfl⟩) ⟨frP_blind, va_recv (q := (R_MO, F_MO, 30)) hK hP rfl (show (MOW g0 ad kI kZ sc ia : va_W)[0]? = some _ from rfl), fr_pre hP hK hD hAB hBs hS hV⟩ rfl rfl hl.1 rfl (lv_room (Nat.le_of_ble_eq_true rfl)) d_MO_cancel_28 ⟨Nat.le_of_ble_eq_true rfl, Nat.le_of_ble_eq_true rfl⟩) hD hS hA (fun r2 u H locs hu hP hD hS => ?_)
      obtain ⟨sc3, ia4⟩ := u
      obtain ⟨hu2_0, hu2_1, hu2_2, hu2_3⟩ := hu
      have hu2_0 : same [0] sc sc3 := hu2_0
      have hu2_1 : same [] ia ia4 := hu2_1
      have hu2_2 : sc3 0 = 0 := hu2_2
      have hu2_3 : ((0 : Int32) < 0 ∧ r2 = 1 ∨ ¬ (0 : Int32) < 0 ∧ r2 = 0) := hu2_3
      have hP : va_P (dC, dI) cls_ (MOW g0 ad kI kZ sc3 ia4) H := hP
      have hD : va_D A (MOW g0 ad kI kZ sc3 ia4) := hD
      have hs : same [0] sc sc3 := hs.tr (hu2_0.wk (by decide))
      have hi : same [11, 13] ia ia4 := hi.tr (hu2_1.wk (by decide))
      refine W.eq (g2 := F0 m 31 ls [.int r2]) rfl ?_
      refine W.cs (cells' := 0) (slots' := 0) rfl rfl ?_
      obtain rfl : r2 = 0 := by rcases hu2_3 with ⟨q, _⟩ | ⟨_, q⟩; { exact absurd q (by decide) }; { exact q }
      refine lv_if_eq (tgt := 35) hx hb d_MO_cancel_31 (by decide) (fun _ => ?_) (fun h9 => absurd (by decide) h9)
      refine lv_aload_n hx hb d_MO_cancel_35 rfl (lv_at hl 0 rfl) ?_
      refine va_get (D := (dC, dI)) (ci := 5) (v := .ref (ad 13)) (C := R_MO) (T := F_MO) (N := 30) hx hb ht in_MO hown hK hP 0 rfl rfl 13 (by decide) (ht _ tb_644) (fun _ h9 => h9) rfl d_MO_cancel_36 ?_
      refine lv_iload_n hx hb d_MO_cancel_39 rfl (lv_at hl 1 rfl) ?_
      refine lv_aload_n hx hb d_MO_cancel_40 rfl (lv_at hl 0 rfl) ?_
      refine va_get (D := (dC, dI)) (ci := 5) (v := .int (sc3 1)) (C := R_MO) (T := F_MO) (N := 30) hx hb ht in_MO hown hK hP 0 rfl rfl 1 (by decide) (ht _ tb_632) (fun _ h9 => h9) rfl d_MO_cancel_41 ?_
      refine W.eq (g2 := F0 m 44 ls [.int (sc 1), .int (nI j), .ref (ad 13)]) (by rw [hs 1 (by decide)]) ?_
      refine va_iast hx hb hK hP hD hS 10 0 rfl rfl (vp_in_nI (show j < 40 by omega) (by decide)) d_MO_cancel_44 (fun H locs hP hD hS => ?_)
      rw [nI_clamp (show j < 2 ^ 31 by omega)] at hP hD
      have hP : va_P (dC, dI) cls_ (MOW g0 ad kI kZ sc3 (va_up ia4 13 (upd (ia4 13) j (sc 1)))) H := hP
      have hD : va_D A (MOW g0 ad kI kZ sc3 (va_up ia4 13 (upd (ia4 13) j (sc 1)))) := hD
      obtain ⟨ia5, eia5⟩ : ∃ q9_, q9_ = va_up ia4 13 (upd (ia4 13) j (sc 1)) := ⟨_, rfl⟩
      rw [← eia5] at hP hD
      have hi : same [11, 13] ia ia5 := by rw [eia5]; exact hi.up (by decide)
      refine lv_aload_n hx hb d_MO_cancel_45 rfl (lv_at hl 0 rfl) ?_
      refine va_get (D := (dC, dI)) (ci := 5) (v := .ref (ad 11)) (C := R_MO) (T := F_MO) (N := 30) hx hb ht in_MO hown hK hP 0 rfl rfl 11 (by decide) (ht _ tb_642) (fun _ h9 => h9) rfl d_MO_cancel_46 ?_
      refine lv_iload_n hx hb d_MO_cancel_49 rfl (lv_at hl 1 rfl) ?_
      refine lv_aload_n hx hb d_MO_cancel_50 rfl (lv_at hl 0 rfl) ?_
      refine va_get (D := (dC, dI)) (ci := 5) (v := .ref (ad 11)) (C := R_MO) (T := F_MO) (N := 30) hx hb ht in_MO hown hK hP 0 rfl rfl 11 (by decide) (ht _ tb_642) (fun _ h9 => h9) rfl d_MO_cancel_51 ?_
      refine lv_iload_n hx hb d_MO_cancel_54 rfl (lv_at hl 1 rfl) ?_
      refine va_iald hx hb hK hP 8 0 rfl rfl (vp_in_nI (show j < 40 by omega) (by decide)) d_MO_cancel_55 ?_
      refine W.eq (g2 := F0 m 56 ls [.int (ia 11 j), .int (nI j), .ref (ad 11)]) (by rw [nI_clamp (show j < 2 ^ 31 by omega), ((show ia5 11 j = ia4 11 j by rw [eia5]; rfl)).trans (congrFun (hu2_1 11 (by decide)) j)]) ?_
      refine lv_if_ne (tgt := 63) hx hb d_MO_cancel_56 (by decide) (fun h56_2 => ?_) (fun h56_2 => ?_)
      · have h56_2 := h56_2
        have i56_2 := ti_ne h56_2
        (try rw [l_0] at i56_2)
        refine lv_iconst (v := 2) hx hb d_MO_cancel_63 (by decide) ?_
        refine va_iast hx hb hK hP hD hS 8 0 rfl rfl (vp_in_nI (show j < 40 by omega) (by decide)) d_MO_cancel_64 (fun H locs hP hD hS => ?_)
        rw [nI_clamp (show j < 2 ^ 31 by omega)] at hP hD
        have hP : va_P (dC, dI) cls_ (MOW g0 ad kI kZ sc3 (va_up ia5 11 (upd (ia5 11) j 2))) H := hP
        have hD : va_D A (MOW g0 ad kI kZ sc3 (va_up ia5 11 (upd (ia5 11) j 2))) := hD
        obtain ⟨ia6, eia6⟩ : ∃ q9_, q9_ = va_up ia5 11 (upd (ia5 11) j 2) := ⟨_, rfl⟩
        rw [← eia6] at hP hD
        have hi : same [11, 13] ia ia6 := by rw [eia6]; exact hi.up (by decide)
        have f11 : ia6 11 j = 2 := (show ia6 11 j = 2 by rw [eia6]; show upd (ia5 11) j 2 j = _; exact pk_us)
        have hz0 : MI T N sc3 ia6 := MI_step (j := j) hI hj (hs.wk (by decide)) ((show same [3, 8, 11, 12, 13, 14, 15, 16, 17, 18, 19, 20, 22, 23, 24, 25, 26, 27, 29] _ ia6 from by rw [eia6]; exact ((show same [3, 8, 11, 12, 13, 14, 15, 16, 17, 18, 19, 20, 22, 23, 24, 25, 26, 27, 29] _ ia5 from by rw [eia5]; exact ((same.rf).tr (hu2_1.wk (by decide))).up (by decide))).up (by decide))) (fun i h9 => (((show ia6 11 i = ia5 11 i by rw [eia6]; show upd (ia5 11) j 2 i = _; exact pk_un h9)).trans (show ia5 11 i = ia4 11 i by rw [eia5]; rfl)).trans (congrFun (hu2_1 11 (by decide)) i)) (fun i h9 => (((show ia6 12 i = ia5 12 i by rw [eia6]; rfl)).trans (show ia5 12 i = ia4 12 i by rw [eia5]; rfl)).trans (congrFun (hu2_1 12 (by decide)) i)) (fun i h9 => (((show ia6 13 i = ia5 13 i by rw [eia6]; rfl)).trans (show ia5 13 i = ia4 13 i by rw [eia5]; show upd (ia4 13) j (sc 1) i = _; exact pk_un h9)).trans (congrFun (hu2_1 13 (by decide)) i)) (by rw [f11]; exact fun q => absurd q (by decide)) (by rw [f11]; exact fun q => absurd q (by decide))
        exact W.vret hx hb hr (fun t ht9 hW => ⟨⟨(), (sc3, ia6), rfl, ⟨hs, hi, hz0⟩, by rw [ht9]; exact hP, hD⟩, hS.F ht9⟩) hS.2.2 d_MO_cancel_65
      · have h56_2 := h56_2
        have i56_2 := ti_eq h56_2
        (try rw [l_0] at i56_2)
        refine lv_iconst (v := 4) hx hb d_MO_cancel_59 (by decide) ?_
        refine lv_goto (tgt := 64) hx hb d_MO_cancel_60 (by decide) ?_
        refine va_iast hx hb hK hP hD hS 8 0 rfl rfl (vp_in_nI (show j < 40 by omega) (by decide)) d_MO_cancel_64 (fun H locs hP hD hS => ?_)
        rw [nI_clamp (show j < 2 ^ 31 by omega)] at hP hD
        have hP : va_P (dC, dI) cls_ (MOW g0 ad kI kZ sc3 (va_up ia5 11 (upd (ia5 11) j 4))) H := hP
        have hD : va_D A (MOW g0 ad kI kZ sc3 (va_up ia5 11 (upd (ia5 11) j 4))) := hD
        obtain ⟨ia7, eia7⟩ : ∃ q9_, q9_ = va_up ia5 11 (upd (ia5 11) j 4) := ⟨_, rfl⟩
        rw [← eia7] at hP hD
        have hi : same [11, 13] ia ia7 := by rw [eia7]; exact hi.up (by decide)
        have f11 : ia7 11 j = 4 := (show ia7 11 j = 4 by rw [eia7]; show upd (ia5 11) j 4 j = _; exact pk_us)
        have hz0 : MI T N sc3 ia7 := MI_step (j := j) hI hj (hs.wk (by decide)) ((show same [3, 8, 11, 12, 13, 14, 15, 16, 17, 18, 19, 20, 22, 23, 24, 25, 26, 27, 29] _ ia7 from by rw [eia7]; exact ((show same [3, 8, 11, 12, 13, 14, 15, 16, 17, 18, 19, 20, 22, 23, 24, 25, 26, 27, 29] _ ia5 from by rw [eia5]; exact ((same.rf).tr (hu2_1.wk (by decide))).up (by decide))).up (by decide))) (fun i h9 => (((show ia7 11 i = ia5 11 i by rw [eia7]; show upd (ia5 11) j 4 i = _; exact pk_un h9)).trans (show ia5 11 i = ia4 11 i by rw [eia5]; rfl)).trans (congrFun (hu2_1 11 (by decide)) i)) (fun i h9 => (((show ia7 12 i = ia5 12 i by rw [eia7]; rfl)).trans (show ia5 12 i = ia4 12 i by rw [eia5]; rfl)).trans (congrFun (hu2_1 12 (by decide)) i)) (fun i h9 => (((show ia7 13 i = ia5 13 i by rw [eia7]; rfl)).trans (show ia5 13 i = ia4 13 i by rw [eia5]; show upd (ia4 13) j (sc 1) i = _; exact pk_un h9)).trans (congrFun (hu2_1 13 (by decide)) i)) (by rw [f11]; exact fun q => absurd q (by decide)) (by rw [f11]; exact fun q => absurd q (by decide))
        exact W.vret hx hb hr (fun t ht9 hW => ⟨⟨(), (sc3, ia7), rfl, ⟨hs, hi, hz0⟩, by rw [ht9]; exact hP, hD⟩, hS.F ht9⟩) hS.2.2 d_MO_cancel_65
    · have h20_1 := h20_1
      have i20_1 := ti_nle h20_1
      (try rw [l_1] at i20_1)
      refine lv_iconst (v := 2) hx hb d_MO_cancel_23 (by decide) ?_
      refine lv_goto (tgt := 28) hx hb d_MO_cancel_24 (by decide) ?_
      refine t_call (u0 := (sc, ia)) (va_runV (C := R_MO) (As := [.int 2]) (rest := []) ⟨hx, hb, hml, hown, ht⟩ (t_MO_refused l dC dI g0 ad kI kZ sc ia s.heap.size Bd 2) (cwV 1 ht (gV tb_736 tb_738 ts_23 tb_5 tb_739) rfl rfl rfl (by decide +kernel) ⟨Nat.le_of_ble_eq_true rfl, Nat.le_of_ble_eq_true rfl⟩) ⟨frP_blind, va_recv (q := (R_MO, F_MO, 30)) hK hP rfl (show (MOW g0 ad kI kZ sc ia : va_W)[0]? = some _ from rfl), fr_pre hP hK hD hAB hBs hS hV⟩ rfl rfl hl.1 rfl (lv_room (Nat.le_of_ble_eq_true rfl)) d_MO_cancel_28 ⟨Nat.le_of_ble_eq_true rfl, Nat.le_of_ble_eq_true rfl⟩) hD hS hA (fun r8 u H locs hu hP hD hS => ?_)
      obtain ⟨sc9, ia10⟩ := u
      obtain ⟨hu8_0, hu8_1, hu8_2, hu8_3⟩ := hu
      have hu8_0 : same [0] sc sc9 := hu8_0
      have hu8_1 : same [] ia ia10 := hu8_1
      have hu8_2 : sc9 0 = 2 := hu8_2
      have hu8_3 : ((0 : Int32) < 2 ∧ r8 = 1 ∨ ¬ (0 : Int32) < 2 ∧ r8 = 0) := hu8_3
      have hP : va_P (dC, dI) cls_ (MOW g0 ad kI kZ sc9 ia10) H := hP
      have hD : va_D A (MOW g0 ad kI kZ sc9 ia10) := hD
      have hs : same [0] sc sc9 := hs.tr (hu8_0.wk (by decide))
      have hi : same [11, 13] ia ia10 := hi.tr (hu8_1.wk (by decide))
      refine W.eq (g2 := F0 m 31 ls [.int r8]) rfl ?_
      refine W.cs (cells' := 0) (slots' := 0) rfl rfl ?_
      obtain rfl : r8 = 1 := by rcases hu8_3 with ⟨_, q⟩ | ⟨q, _⟩; { exact q }; { exact absurd (by decide) q }
      refine lv_if_eq (tgt := 35) hx hb d_MO_cancel_31 (by decide) (fun h9 => absurd h9 (by decide)) (fun _ => ?_)
      have hz0 : MI T N sc9 ia10 := hI.same (hs.wk (by decide)) ((same.rf).tr (hu8_1.wk (by decide)))
      exact W.vret hx hb hr (fun t ht9 hW => ⟨⟨(), (sc9, ia10), rfl, ⟨hs, hi, hz0⟩, by rw [ht9]; exact hP, hD⟩, hS.F ht9⟩) hS.2.2 d_MO_cancel_34
  · refine lv_if_ne (tgt := 13) hx hb d_MO_cancel_6 (by decide) (fun h9 => absurd (by decide) h9) (fun _ => ?_)
    refine lv_iconst (v := 1) hx hb d_MO_cancel_9 (by decide) ?_
    refine lv_goto (tgt := 28) hx hb d_MO_cancel_10 (by decide) ?_
    refine t_call (u0 := (sc, ia)) (va_runV (C := R_MO) (As := [.int 1]) (rest := []) ⟨hx, hb, hml, hown, ht⟩ (t_MO_refused l dC dI g0 ad kI kZ sc ia s.heap.size Bd 1) (cwV 1 ht (gV tb_736 tb_738 ts_23 tb_5 tb_739) rfl rfl rfl (by decide +kernel) ⟨Nat.le_of_ble_eq_true rfl, Nat.le_of_ble_eq_true rfl⟩) ⟨frP_blind, va_recv (q := (R_MO, F_MO, 30)) hK hP rfl (show (MOW g0 ad kI kZ sc ia : va_W)[0]? = some _ from rfl), fr_pre hP hK hD hAB hBs hS hV⟩ rfl rfl hl.1 rfl (lv_room (Nat.le_of_ble_eq_true rfl)) d_MO_cancel_28 ⟨Nat.le_of_ble_eq_true rfl, Nat.le_of_ble_eq_true rfl⟩) hD hS hA (fun r11 u H locs hu hP hD hS => ?_)
    obtain ⟨sc12, ia13⟩ := u
    obtain ⟨hu11_0, hu11_1, hu11_2, hu11_3⟩ := hu
    have hu11_0 : same [0] sc sc12 := hu11_0
    have hu11_1 : same [] ia ia13 := hu11_1
    have hu11_2 : sc12 0 = 1 := hu11_2
    have hu11_3 : ((0 : Int32) < 1 ∧ r11 = 1 ∨ ¬ (0 : Int32) < 1 ∧ r11 = 0) := hu11_3
    have hP : va_P (dC, dI) cls_ (MOW g0 ad kI kZ sc12 ia13) H := hP
    have hD : va_D A (MOW g0 ad kI kZ sc12 ia13) := hD
    have hs : same [0] sc sc12 := hs.tr (hu11_0.wk (by decide))
    have hi : same [11, 13] ia ia13 := hi.tr (hu11_1.wk (by decide))
    refine W.eq (g2 := F0 m 31 ls [.int r11]) rfl ?_
    refine W.cs (cells' := 0) (slots' := 0) rfl rfl ?_
    obtain rfl : r11 = 1 := by rcases hu11_3 with ⟨_, q⟩ | ⟨q, _⟩; { exact q }; { exact absurd (by decide) q }
    refine lv_if_eq (tgt := 35) hx hb d_MO_cancel_31 (by decide) (fun h9 => absurd h9 (by decide)) (fun _ => ?_)
    have hz0 : MI T N sc12 ia13 := hI.same (hs.wk (by decide)) ((same.rf).tr (hu11_1.wk (by decide)))
    exact W.vret hx hb hr (fun t ht9 hW => ⟨⟨(), (sc12, ia13), rfl, ⟨hs, hi, hz0⟩, by rw [ht9]; exact hP, hD⟩, hS.F ht9⟩) hS.2.2 d_MO_cancel_34
set_option maxHeartbeats 8000000 in
set_option maxRecDepth 100000 in
theorem t_MO_now (l : Launch) (dC : Nat → ClassId) (dI : Nat → Nat → Nat) (g0 : Nat) (ad : Nat → Nat) (kI kZ : ClassId) (sc : Nat → Int32) (ia : Nat → Nat → Int32) (sz Bd : Nat) (T : Int) (N : Nat) (hI : MI T N sc ia) : Met l y_MO_now w_MO_now ({ frames := 0, cells := 0, slots := 0, locals := 0 }) (frP (dC, dI) (MOW g0 ad kI kZ sc ia) (MOT kI kZ) sz Bd [.ref g0]) (tQ (dC, dI) (mW g0 ad kI kZ) (va_A (MOW g0 ad kI kZ sc ia) sz) vI (fun r u => same [0] sc u.1 ∧ same [] ia u.2 ∧ MI T N u.1 u.2 ∧ r = sc 1)) 0 0 (va_A (MOW g0 ad kI kZ sc ia) sz) := by
  refine Met.ofW (cc := c_MO_now) (maxL := 1) (ret := (some .int)) (by decide) rfl ?_
  intro p e s m args below meth c s₁ B hml hv
  obtain ⟨rfl, ⟨hsz, hBs⟩, hP, hK, hD0, hV⟩ := hv
  have hx := B.exec
  have hb := B.bytes
  have hr := B.returns
  have ht : ∀ w ∈ tb_, w.before _ s = true := fun w h => atoms_spec (ws := w_MO_now) B.pre w (List.mem_cons_of_mem _ h)
  have hown : s.vm.findClass R_MO = some m.cls := findClass_of_methodNamed B.named
  have hlocks := B.notSynchronized
  subst hsz
  have hD := hD0.self (sz := s.heap.size)
  have hAB : ∀ q, va_A (MOW g0 ad kI kZ sc ia) s.heap.size q → Bd ≤ q := fr_AB hD0 hBs
  generalize hAe : va_A (MOW g0 ad kI kZ sc ia) s.heap.size = A at hD hAB ⊢
  have hA : ∀ q : Nat, s.heap.size ≤ q → A q := fun q h => by rw [← hAe]; exact Or.inr h
  have hS : va_S A s.heap s.heap [] := va_S.rf
  have hs : same [0] sc sc := same.rf
  have hi : same [] ia ia := same.rf
  have hP : va_P (dC, dI) cls_ (MOW g0 ad kI kZ sc ia) s.heap := hP
  have hl := lv_entry ([.ref g0]) (n := 1) (Nat.le_of_ble_eq_true rfl)
  rw [lg_entry_eq]
  generalize (lg_sl ([.ref g0]) ++ List.replicate (1 - (lg_sl ([.ref g0])).length) Slot.unset).toArray = ls at hl ⊢
  have hl : lv_has ls 1 [(0, .ref g0)] := hl
  have e4 := hI.e4
  have hN := hI.hN
  have hT := hI.T
  refine lv_aload_n hx hb d_MO_now_0 rfl (lv_at hl 0 rfl) ?_
  refine lv_iconst (v := 0) hx hb d_MO_now_1 (by decide) ?_
  refine va_put (D := (dC, dI)) (ci := 5) (v := .int 0) (ty := .int) (C := R_MO) (T := F_MO) (N := 30) hx hb ht in_MO t_MO t_MO_ok n_MO hown hK hP hD hS 0 rfl rfl 0 (by decide) (ht _ tb_631) (fun _ h9 => h9) rfl (by decide +kernel) rfl rfl (Nat.le_of_ble_eq_true rfl) d_MO_now_2 (fun H locs hP hD hS => ?_)
  have hP : va_P (dC, dI) cls_ (MOW g0 ad kI kZ (va_up sc 0 0) ia) H := hP
  have hD : va_D A (MOW g0 ad kI kZ (va_up sc 0 0) ia) := hD
  obtain ⟨sc1, esc1⟩ : ∃ q9_, q9_ = va_up sc 0 0 := ⟨_, rfl⟩
  rw [← esc1] at hP hD
  have hs : same [0] sc sc1 := by rw [esc1]; exact hs.up (by decide)
  refine lv_aload_n hx hb d_MO_now_5 rfl (lv_at hl 0 rfl) ?_
  refine va_get (D := (dC, dI)) (ci := 5) (v := .int (sc1 1)) (C := R_MO) (T := F_MO) (N := 30) hx hb ht in_MO hown hK hP 0 rfl rfl 1 (by decide) (ht _ tb_632) (fun _ h9 => h9) rfl d_MO_now_6 ?_
  refine W.eq (g2 := F0 m 9 ls [.int (sc 1)]) (by rw [hs 1 (by decide)]) ?_
  have hz0 : MI T N sc1 ia := hI.same (hs.wk (by decide)) (hi.wk (by decide))
  have hz1 : (sc 1 : Int32) = sc 1 := rfl
  exact W.iret (v := sc 1) hx hb hr (fun t ht9 hW => ⟨⟨sc 1, (sc1, ia), rfl, ⟨hs, hi, hz0, hz1⟩, by rw [ht9]; exact hP, hD⟩, hS.F ht9⟩) hS.2.2 d_MO_now_9
set_option maxHeartbeats 8000000 in
set_option maxRecDepth 100000 in
theorem t_MO_watch (l : Launch) (dC : Nat → ClassId) (dI : Nat → Nat → Nat) (g0 : Nat) (ad : Nat → Nat) (kI kZ : ClassId) (sc : Nat → Int32) (ia : Nat → Nat → Int32) (sz Bd : Nat) (T : Int) (N : Nat) (hI : MI T N sc ia) (x : Int32) : Met l y_MO_watch w_MO_watch ({ frames := 1, cells := 0, slots := 0, locals := 21 }) (frP (dC, dI) (MOW g0 ad kI kZ sc ia) (MOT kI kZ) sz Bd [.ref g0, .int x]) (tQ (dC, dI) (mW g0 ad kI kZ) (va_A (MOW g0 ad kI kZ sc ia) sz) vI (fun r u => same [0, 2, 28] sc u.1 ∧ same [] ia u.2 ∧ MI T N u.1 u.2 ∧ ((-1 ≤ x.toInt ∧ x.toInt ≤ 7) ∧ u.1 0 = 0 ∧ u.1 2 = x ∧ r = sc 2 ∨ ¬ (-1 ≤ x.toInt ∧ x.toInt ≤ 7) ∧ u.1 0 = 1 ∧ u.1 2 = sc 2))) 0 0 (va_A (MOW g0 ad kI kZ sc ia) sz) := by
  refine Met.ofW (cc := c_MO_watch) (maxL := 3) (ret := (some .int)) (by decide) rfl ?_
  intro p e s m args below meth c s₁ B hml hv
  obtain ⟨rfl, ⟨hsz, hBs⟩, hP, hK, hD0, hV⟩ := hv
  have hx := B.exec
  have hb := B.bytes
  have hr := B.returns
  have ht : ∀ w ∈ tb_, w.before _ s = true := fun w h => atoms_spec (ws := w_MO_watch) B.pre w (List.mem_cons_of_mem _ h)
  have hown : s.vm.findClass R_MO = some m.cls := findClass_of_methodNamed B.named
  have hlocks := B.notSynchronized
  subst hsz
  have hD := hD0.self (sz := s.heap.size)
  have hAB : ∀ q, va_A (MOW g0 ad kI kZ sc ia) s.heap.size q → Bd ≤ q := fr_AB hD0 hBs
  generalize hAe : va_A (MOW g0 ad kI kZ sc ia) s.heap.size = A at hD hAB ⊢
  have hA : ∀ q : Nat, s.heap.size ≤ q → A q := fun q h => by rw [← hAe]; exact Or.inr h
  have hS : va_S A s.heap s.heap [] := va_S.rf
  have hs : same [0, 2, 28] sc sc := same.rf
  have hi : same [] ia ia := same.rf
  have hP : va_P (dC, dI) cls_ (MOW g0 ad kI kZ sc ia) s.heap := hP
  have hl := lv_entry ([.ref g0, .int x]) (n := 3) (Nat.le_of_ble_eq_true rfl)
  rw [lg_entry_eq]
  generalize (lg_sl ([.ref g0, .int x]) ++ List.replicate (3 - (lg_sl ([.ref g0, .int x])).length) Slot.unset).toArray = ls at hl ⊢
  have hl : lv_has ls 3 [(0, .ref g0), (1, .int x)] := hl
  have e4 := hI.e4
  have hN := hI.hN
  have hT := hI.T
  refine lv_aload_n hx hb d_MO_watch_0 rfl (lv_at hl 0 rfl) ?_
  refine lv_iload_n hx hb d_MO_watch_1 rfl (lv_at hl 1 rfl) ?_
  refine lv_iconst (v := -1) hx hb d_MO_watch_2 (by decide) ?_
  refine lv_icmp_lt (tgt := 12) hx hb d_MO_watch_3 (by decide) (fun h3_1 => ?_) (fun h3_1 => ?_)
  · have h3_1 := h3_1
    have i3_1 := ti_lt h3_1
    (try rw [l_m1] at i3_1)
    refine lv_iconst (v := 1) hx hb d_MO_watch_12 (by decide) ?_
    refine lv_goto (tgt := 17) hx hb d_MO_watch_13 (by decide) ?_
    refine t_call (u0 := (sc, ia)) (va_runV (C := R_MO) (As := [.int 1]) (rest := []) ⟨hx, hb, hml, hown, ht⟩ (t_MO_refused l dC dI g0 ad kI kZ sc ia s.heap.size Bd 1) (cwV 1 ht (gV tb_736 tb_738 ts_23 tb_5 tb_739) rfl rfl rfl (by decide +kernel) ⟨Nat.le_of_ble_eq_true rfl, Nat.le_of_ble_eq_true rfl⟩) ⟨frP_blind, va_recv (q := (R_MO, F_MO, 30)) hK hP rfl (show (MOW g0 ad kI kZ sc ia : va_W)[0]? = some _ from rfl), fr_pre hP hK hD hAB hBs hS hV⟩ rfl rfl hl.1 rfl (lv_room (Nat.le_of_ble_eq_true rfl)) d_MO_watch_17 ⟨Nat.le_of_ble_eq_true rfl, Nat.le_of_ble_eq_true rfl⟩) hD hS hA (fun r1 u H locs hu hP hD hS => ?_)
    obtain ⟨sc2, ia3⟩ := u
    obtain ⟨hu1_0, hu1_1, hu1_2, hu1_3⟩ := hu
    have hu1_0 : same [0] sc sc2 := hu1_0
    have hu1_1 : same [] ia ia3 := hu1_1
    have hu1_2 : sc2 0 = 1 := hu1_2
    have hu1_3 : ((0 : Int32) < 1 ∧ r1 = 1 ∨ ¬ (0 : Int32) < 1 ∧ r1 = 0) := hu1_3
    have hP : va_P (dC, dI) cls_ (MOW g0 ad kI kZ sc2 ia3) H := hP
    have hD : va_D A (MOW g0 ad kI kZ sc2 ia3) := hD
    have hs : same [0, 2, 28] sc sc2 := hs.tr (hu1_0.wk (by decide))
    have hi : same [] ia ia3 := hi.tr (hu1_1.wk (by decide))
    refine W.eq (g2 := F0 m 20 ls [.int r1]) rfl ?_
    refine W.cs (cells' := 0) (slots' := 0) rfl rfl ?_
    obtain rfl : r1 = 1 := by rcases hu1_3 with ⟨_, q⟩ | ⟨q, _⟩; { exact q }; { exact absurd (by decide) q }
    refine lv_if_eq (tgt := 25) hx hb d_MO_watch_20 (by decide) (fun h9 => absurd h9 (by decide)) (fun _ => ?_)
    refine lv_iconst (v := 0) hx hb d_MO_watch_23 (by decide) ?_
    have hz0 : MI T N sc2 ia3 := hI.same (by exact hu1_0.wk (by decide)) (hi.wk (by decide))
    have hz1 : ((-1 ≤ x.toInt ∧ x.toInt ≤ 7) ∧ sc2 0 = 0 ∧ sc2 2 = x ∧ (0 : Int32) = sc 2 ∨ ¬ (-1 ≤ x.toInt ∧ x.toInt ≤ 7) ∧ sc2 0 = 1 ∧ sc2 2 = sc 2) := Or.inr ⟨by omega, hu1_2, (hu1_0 2 (by decide))⟩
    exact W.iret (v := 0) hx hb hr (fun t ht9 hW => ⟨⟨0, (sc2, ia3), rfl, ⟨hs, hi, hz0, hz1⟩, by rw [ht9]; exact hP, hD⟩, hS.F ht9⟩) hS.2.2 d_MO_watch_24
  · have h3_1 := h3_1
    have i3_1 := ti_nlt h3_1
    (try rw [l_m1] at i3_1)
    refine lv_iload_n hx hb d_MO_watch_6 rfl (lv_at hl 1 rfl) ?_
    refine lv_bipush (v := 7) hx hb d_MO_watch_7 (by decide) ?_
    refine lv_icmp_le (tgt := 16) hx hb d_MO_watch_9 (by decide) (fun h9_2 => ?_) (fun h9_2 => ?_)
    · have h9_2 := h9_2
      have i9_2 := ti_le h9_2
      (try rw [l_7] at i9_2)
      refine lv_iconst (v := 0) hx hb d_MO_watch_16 (by decide) ?_
      refine t_call (u0 := (sc, ia)) (va_runV (C := R_MO) (As := [.int 0]) (rest := []) ⟨hx, hb, hml, hown, ht⟩ (t_MO_refused l dC dI g0 ad kI kZ sc ia s.heap.size Bd 0) (cwV 1 ht (gV tb_736 tb_738 ts_23 tb_5 tb_739) rfl rfl rfl (by decide +kernel) ⟨Nat.le_of_ble_eq_true rfl, Nat.le_of_ble_eq_true rfl⟩) ⟨frP_blind, va_recv (q := (R_MO, F_MO, 30)) hK hP rfl (show (MOW g0 ad kI kZ sc ia : va_W)[0]? = some _ from rfl), fr_pre hP hK hD hAB hBs hS hV⟩ rfl rfl hl.1 rfl (lv_room (Nat.le_of_ble_eq_true rfl)) d_MO_watch_17 ⟨Nat.le_of_ble_eq_true rfl, Nat.le_of_ble_eq_true rfl⟩) hD hS hA (fun r4 u H locs hu hP hD hS => ?_)
      obtain ⟨sc5, ia6⟩ := u
      obtain ⟨hu4_0, hu4_1, hu4_2, hu4_3⟩ := hu
      have hu4_0 : same [0] sc sc5 := hu4_0
      have hu4_1 : same [] ia ia6 := hu4_1
      have hu4_2 : sc5 0 = 0 := hu4_2
      have hu4_3 : ((0 : Int32) < 0 ∧ r4 = 1 ∨ ¬ (0 : Int32) < 0 ∧ r4 = 0) := hu4_3
      have hP : va_P (dC, dI) cls_ (MOW g0 ad kI kZ sc5 ia6) H := hP
      have hD : va_D A (MOW g0 ad kI kZ sc5 ia6) := hD
      have hs : same [0, 2, 28] sc sc5 := hs.tr (hu4_0.wk (by decide))
      have hi : same [] ia ia6 := hi.tr (hu4_1.wk (by decide))
      refine W.eq (g2 := F0 m 20 ls [.int r4]) rfl ?_
      refine W.cs (cells' := 0) (slots' := 0) rfl rfl ?_
      obtain rfl : r4 = 0 := by rcases hu4_3 with ⟨q, _⟩ | ⟨_, q⟩; { exact absurd q (by decide) }; { exact q }
      refine lv_if_eq (tgt := 25) hx hb d_MO_watch_20 (by decide) (fun _ => ?_) (fun h9 => absurd (by decide) h9)
      refine lv_aload_n hx hb d_MO_watch_25 rfl (lv_at hl 0 rfl) ?_
      refine va_get (D := (dC, dI)) (ci := 5) (v := .int (sc5 2)) (C := R_MO) (T := F_MO) (N := 30) hx hb ht in_MO hown hK hP 0 rfl rfl 2 (by decide) (ht _ tb_633) (fun _ h9 => h9) rfl d_MO_watch_26 ?_
      refine W.eq (g2 := F0 m 29 ls [.int (sc 2)]) (by rw [show sc5 2 = sc 2 from (hu4_0 2 (by decide))]) ?_
      refine lv_istore_n hx hb d_MO_watch_29 rfl hl (by decide) rfl (fun ls hl => ?_)
      have hl : lv_has ls 3 [(2, .int (sc 2)), (0, .ref g0), (1, .int x)] := hl
      refine lv_aload_n hx hb d_MO_watch_30 rfl (lv_at hl 1 rfl) ?_
      refine lv_iload_n hx hb d_MO_watch_31 rfl (lv_at hl 2 rfl) ?_
      refine va_put (D := (dC, dI)) (ci := 5) (v := .int x) (ty := .int) (C := R_MO) (T := F_MO) (N := 30) hx hb ht in_MO t_MO t_MO_ok n_MO hown hK hP hD hS 0 rfl rfl 2 (by decide) (ht _ tb_633) (fun _ h9 => h9) rfl (by decide +kernel) rfl rfl (Nat.le_of_ble_eq_true rfl) d_MO_watch_32 (fun H locs hP hD hS => ?_)
      have hP : va_P (dC, dI) cls_ (MOW g0 ad kI kZ (va_up sc5 2 x) ia6) H := hP
      have hD : va_D A (MOW g0 ad kI kZ (va_up sc5 2 x) ia6) := hD
      obtain ⟨sc7, esc7⟩ : ∃ q9_, q9_ = va_up sc5 2 x := ⟨_, rfl⟩
      rw [← esc7] at hP hD
      have hs : same [0, 2, 28] sc sc7 := by rw [esc7]; exact hs.up (by decide)
      refine lv_aload_n hx hb d_MO_watch_35 rfl (lv_at hl 1 rfl) ?_
      refine lv_iconst (v := 0) hx hb d_MO_watch_36 (by decide) ?_
      refine va_put (D := (dC, dI)) (ci := 5) (v := .int 0) (ty := .int) (C := R_MO) (T := F_MO) (N := 30) hx hb ht in_MO t_MO t_MO_ok n_MO hown hK hP hD hS 0 rfl rfl 28 (by decide) (ht _ tb_659) (fun _ h9 => h9) rfl (by decide +kernel) rfl rfl (Nat.le_of_ble_eq_true rfl) d_MO_watch_37 (fun H locs hP hD hS => ?_)
      have hP : va_P (dC, dI) cls_ (MOW g0 ad kI kZ (va_up sc7 28 0) ia6) H := hP
      have hD : va_D A (MOW g0 ad kI kZ (va_up sc7 28 0) ia6) := hD
      obtain ⟨sc8, esc8⟩ : ∃ q9_, q9_ = va_up sc7 28 0 := ⟨_, rfl⟩
      rw [← esc8] at hP hD
      have hs : same [0, 2, 28] sc sc8 := by rw [esc8]; exact hs.up (by decide)
      refine lv_iload_n hx hb d_MO_watch_40 rfl (lv_at hl 0 rfl) ?_
      have hz0 : MI T N sc8 ia6 := MI_w hI (hs.wk (by decide)) hi ((show sc8 28 = 0 by rw [esc8]; rfl)) (by rw [((show sc8 2 = sc7 2 by rw [esc8]; rfl)).trans (show sc7 2 = x by rw [esc7]; rfl)]; omega)
      have hz1 : ((-1 ≤ x.toInt ∧ x.toInt ≤ 7) ∧ sc8 0 = 0 ∧ sc8 2 = x ∧ (sc 2 : Int32) = sc 2 ∨ ¬ (-1 ≤ x.toInt ∧ x.toInt ≤ 7) ∧ sc8 0 = 1 ∧ sc8 2 = sc 2) := Or.inl ⟨by omega, (((show sc8 0 = sc7 0 by rw [esc8]; rfl)).trans (show sc7 0 = sc5 0 by rw [esc7]; rfl)).trans hu4_2, ((show sc8 2 = sc7 2 by rw [esc8]; rfl)).trans (show sc7 2 = x by rw [esc7]; rfl), rfl⟩
      exact W.iret (v := sc 2) hx hb hr (fun t ht9 hW => ⟨⟨sc 2, (sc8, ia6), rfl, ⟨hs, hi, hz0, hz1⟩, by rw [ht9]; exact hP, hD⟩, hS.F ht9⟩) hS.2.2 d_MO_watch_41
    · have h9_2 := h9_2
      have i9_2 := ti_nle h9_2
      (try rw [l_7] at i9_2)
      refine lv_iconst (v := 1) hx hb d_MO_watch_12 (by decide) ?_
      refine lv_goto (tgt := 17) hx hb d_MO_watch_13 (by decide) ?_
      refine t_call (u0 := (sc, ia)) (va_runV (C := R_MO) (As := [.int 1]) (rest := []) ⟨hx, hb, hml, hown, ht⟩ (t_MO_refused l dC dI g0 ad kI kZ sc ia s.heap.size Bd 1) (cwV 1 ht (gV tb_736 tb_738 ts_23 tb_5 tb_739) rfl rfl rfl (by decide +kernel) ⟨Nat.le_of_ble_eq_true rfl, Nat.le_of_ble_eq_true rfl⟩) ⟨frP_blind, va_recv (q := (R_MO, F_MO, 30)) hK hP rfl (show (MOW g0 ad kI kZ sc ia : va_W)[0]? = some _ from rfl), fr_pre hP hK hD hAB hBs hS hV⟩ rfl rfl hl.1 rfl (lv_room (Nat.le_of_ble_eq_true rfl)) d_MO_watch_17 ⟨Nat.le_of_ble_eq_true rfl, Nat.le_of_ble_eq_true rfl⟩) hD hS hA (fun r9 u H locs hu hP hD hS => ?_)
      obtain ⟨sc10, ia11⟩ := u
      obtain ⟨hu9_0, hu9_1, hu9_2, hu9_3⟩ := hu
      have hu9_0 : same [0] sc sc10 := hu9_0
      have hu9_1 : same [] ia ia11 := hu9_1
      have hu9_2 : sc10 0 = 1 := hu9_2
      have hu9_3 : ((0 : Int32) < 1 ∧ r9 = 1 ∨ ¬ (0 : Int32) < 1 ∧ r9 = 0) := hu9_3
      have hP : va_P (dC, dI) cls_ (MOW g0 ad kI kZ sc10 ia11) H := hP
      have hD : va_D A (MOW g0 ad kI kZ sc10 ia11) := hD
      have hs : same [0, 2, 28] sc sc10 := hs.tr (hu9_0.wk (by decide))
      have hi : same [] ia ia11 := hi.tr (hu9_1.wk (by decide))
      refine W.eq (g2 := F0 m 20 ls [.int r9]) rfl ?_
      refine W.cs (cells' := 0) (slots' := 0) rfl rfl ?_
      obtain rfl : r9 = 1 := by rcases hu9_3 with ⟨_, q⟩ | ⟨q, _⟩; { exact q }; { exact absurd (by decide) q }
      refine lv_if_eq (tgt := 25) hx hb d_MO_watch_20 (by decide) (fun h9 => absurd h9 (by decide)) (fun _ => ?_)
      refine lv_iconst (v := 0) hx hb d_MO_watch_23 (by decide) ?_
      have hz0 : MI T N sc10 ia11 := hI.same (by exact hu9_0.wk (by decide)) (hi.wk (by decide))
      have hz1 : ((-1 ≤ x.toInt ∧ x.toInt ≤ 7) ∧ sc10 0 = 0 ∧ sc10 2 = x ∧ (0 : Int32) = sc 2 ∨ ¬ (-1 ≤ x.toInt ∧ x.toInt ≤ 7) ∧ sc10 0 = 1 ∧ sc10 2 = sc 2) := Or.inr ⟨by omega, hu9_2, (hu9_0 2 (by decide))⟩
      exact W.iret (v := 0) hx hb hr (fun t ht9 hW => ⟨⟨0, (sc10, ia11), rfl, ⟨hs, hi, hz0, hz1⟩, by rw [ht9]; exact hP, hD⟩, hS.F ht9⟩) hS.2.2 d_MO_watch_24
set_option maxHeartbeats 8000000 in
set_option maxRecDepth 100000 in
theorem t_MO_back (l : Launch) (dC : Nat → ClassId) (dI : Nat → Nat → Nat) (g0 : Nat) (ad : Nat → Nat) (kI kZ : ClassId) (sc : Nat → Int32) (ia : Nat → Nat → Int32) (sz Bd : Nat) (T : Int) (N : Nat) (hI : MI T N sc ia) (x : Int32) : Met l y_MO_back w_MO_back ({ frames := 0, cells := 0, slots := 0, locals := 0 }) (frP (dC, dI) (MOW g0 ad kI kZ sc ia) (MOT kI kZ) sz Bd [.ref g0, .int x]) (tQ (dC, dI) (mW g0 ad kI kZ) (va_A (MOW g0 ad kI kZ sc ia) sz) vJ (fun r u => same [0] sc u.1 ∧ same [] ia u.2 ∧ MI T N u.1 u.2)) 0 0 (va_A (MOW g0 ad kI kZ sc ia) sz) := by
  refine Met.ofW (cc := c_MO_back) (maxL := 2) (ret := (some .long)) (by decide) rfl ?_
  intro p e s m args below meth c s₁ B hml hv
  obtain ⟨rfl, ⟨hsz, hBs⟩, hP, hK, hD0, hV⟩ := hv
  have hx := B.exec
  have hb := B.bytes
  have hr := B.returns
  have ht : ∀ w ∈ tb_, w.before _ s = true := fun w h => atoms_spec (ws := w_MO_back) B.pre w (List.mem_cons_of_mem _ h)
  have hown : s.vm.findClass R_MO = some m.cls := findClass_of_methodNamed B.named
  have hlocks := B.notSynchronized
  subst hsz
  have hD := hD0.self (sz := s.heap.size)
  have hAB : ∀ q, va_A (MOW g0 ad kI kZ sc ia) s.heap.size q → Bd ≤ q := fr_AB hD0 hBs
  generalize hAe : va_A (MOW g0 ad kI kZ sc ia) s.heap.size = A at hD hAB ⊢
  have hA : ∀ q : Nat, s.heap.size ≤ q → A q := fun q h => by rw [← hAe]; exact Or.inr h
  have hS : va_S A s.heap s.heap [] := va_S.rf
  have hs : same [0] sc sc := same.rf
  have hi : same [] ia ia := same.rf
  have hP : va_P (dC, dI) cls_ (MOW g0 ad kI kZ sc ia) s.heap := hP
  have hl := lv_entry ([.ref g0, .int x]) (n := 2) (Nat.le_of_ble_eq_true rfl)
  rw [lg_entry_eq]
  generalize (lg_sl ([.ref g0, .int x]) ++ List.replicate (2 - (lg_sl ([.ref g0, .int x])).length) Slot.unset).toArray = ls at hl ⊢
  have hl : lv_has ls 2 [(0, .ref g0), (1, .int x)] := hl
  have e4 := hI.e4
  have hN := hI.hN
  have hT := hI.T
  refine lv_aload_n hx hb d_MO_back_0 rfl (lv_at hl 0 rfl) ?_
  refine lv_iconst (v := 0) hx hb d_MO_back_1 (by decide) ?_
  refine va_put (D := (dC, dI)) (ci := 5) (v := .int 0) (ty := .int) (C := R_MO) (T := F_MO) (N := 30) hx hb ht in_MO t_MO t_MO_ok n_MO hown hK hP hD hS 0 rfl rfl 0 (by decide) (ht _ tb_631) (fun _ h9 => h9) rfl (by decide +kernel) rfl rfl (Nat.le_of_ble_eq_true rfl) d_MO_back_2 (fun H locs hP hD hS => ?_)
  have hP : va_P (dC, dI) cls_ (MOW g0 ad kI kZ (va_up sc 0 0) ia) H := hP
  have hD : va_D A (MOW g0 ad kI kZ (va_up sc 0 0) ia) := hD
  obtain ⟨sc1, esc1⟩ : ∃ q9_, q9_ = va_up sc 0 0 := ⟨_, rfl⟩
  rw [← esc1] at hP hD
  have hs : same [0] sc sc1 := by rw [esc1]; exact hs.up (by decide)
  refine lv_iload_n hx hb d_MO_back_5 rfl (lv_at hl 1 rfl) ?_
  refine lv_iconst (v := 1) hx hb d_MO_back_6 (by decide) ?_
  refine lv_icmp_lt (tgt := 18) hx hb d_MO_back_7 (by decide) (fun h7_1 => ?_) (fun h7_1 => ?_)
  · have h7_1 := h7_1
    have i7_1 := ti_lt h7_1
    (try rw [l_1] at i7_1)
    refine lv_ldc2 (v := (-1)) hx hb hown (ht _ tb_868) d_MO_back_18 ?_
    refine lv_goto (tgt := 37) hx hb d_MO_back_21 (by decide) ?_
    have hz0 : MI T N sc1 ia := hI.same (hs.wk (by decide)) (hi.wk (by decide))
    exact W.lret (v := -1) hx hb hr (fun t ht9 hW => ⟨⟨-1, (sc1, ia), rfl, ⟨hs, hi, hz0⟩, by rw [ht9]; exact hP, hD⟩, hS.F ht9⟩) hS.2.2 d_MO_back_37
  · have h7_1 := h7_1
    have i7_1 := ti_nlt h7_1
    (try rw [l_1] at i7_1)
    refine lv_iload_n hx hb d_MO_back_10 rfl (lv_at hl 1 rfl) ?_
    refine lv_aload_n hx hb d_MO_back_11 rfl (lv_at hl 0 rfl) ?_
    refine va_get (D := (dC, dI)) (ci := 5) (v := .int (sc1 28)) (C := R_MO) (T := F_MO) (N := 30) hx hb ht in_MO hown hK hP 0 rfl rfl 28 (by decide) (ht _ tb_659) (fun _ h9 => h9) rfl d_MO_back_12 ?_
    refine W.eq (g2 := F0 m 15 ls [.int (sc 28), .int x]) (by rw [hs 28 (by decide)]) ?_
    refine lv_icmp_le (tgt := 24) hx hb d_MO_back_15 (by decide) (fun h15_2 => ?_) (fun h15_2 => ?_)
    · have h15_2 := h15_2
      have i15_2 := ti_le h15_2
      refine lv_aload_n hx hb d_MO_back_24 rfl (lv_at hl 0 rfl) ?_
      refine va_get (D := (dC, dI)) (ci := 5) (v := .ref (ad 29)) (C := R_MO) (T := F_MO) (N := 30) hx hb ht in_MO hown hK hP 0 rfl rfl 29 (by decide) (ht _ tb_660) (fun _ h9 => h9) rfl d_MO_back_25 ?_
      refine lv_iload_n hx hb d_MO_back_28 rfl (lv_at hl 1 rfl) ?_
      refine lv_iconst (v := 1) hx hb d_MO_back_29 (by decide) ?_
      refine lv_isub hx hb d_MO_back_30 ?_
      refine va_iald hx hb hK hP 24 0 rfl rfl (by have hb9 := hI.2.2.2.2.1; exact in_of (by rw [ti_sub (by rw [l_1]; omega) (by rw [l_1]; omega), l_1]; omega) (by rw [ti_sub (by rw [l_1]; omega) (by rw [l_1]; omega), l_1]; omega)) d_MO_back_31 ?_
      refine lv_i2l hx hb d_MO_back_32 rfl ?_
      refine lv_ldc2 (v := 4294967295) hx hb hown (ht _ tb_869) d_MO_back_33 ?_
      refine lv_land hx hb d_MO_back_36 ?_
      have hz0 : MI T N sc1 ia := hI.same (hs.wk (by decide)) (hi.wk (by decide))
      exact W.lret (v := ((ia 29 ((x - 1).toNatClampNeg)).toInt64) &&& 4294967295) hx hb hr (fun t ht9 hW => ⟨⟨((ia 29 ((x - 1).toNatClampNeg)).toInt64) &&& 4294967295, (sc1, ia), rfl, ⟨hs, hi, hz0⟩, by rw [ht9]; exact hP, hD⟩, hS.F ht9⟩) hS.2.2 d_MO_back_37
    · have h15_2 := h15_2
      have i15_2 := ti_nle h15_2
      refine lv_ldc2 (v := (-1)) hx hb hown (ht _ tb_868) d_MO_back_18 ?_
      refine lv_goto (tgt := 37) hx hb d_MO_back_21 (by decide) ?_
      have hz0 : MI T N sc1 ia := hI.same (hs.wk (by decide)) (hi.wk (by decide))
      exact W.lret (v := -1) hx hb hr (fun t ht9 hW => ⟨⟨-1, (sc1, ia), rfl, ⟨hs, hi, hz0⟩, by rw [ht9]; exact hP, hD⟩, hS.F ht9⟩) hS.2.2 d_MO_back_37
