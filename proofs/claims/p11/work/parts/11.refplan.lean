abbrev c_MO_isRoomAt : ByteArray := prog_7_method_10_code
abbrev y_MO_isRoomAt : MethodName := ⟨"TwinTunersModel", "isRoomAt", "(II)Z"⟩
def w_MO_isRoomAt : List Cond := .code y_MO_isRoomAt c_MO_isRoomAt 7 (some .boolean) :: tb_
abbrev c_MO_tries : ByteArray := prog_7_method_11_code
abbrev y_MO_tries : MethodName := ⟨"TwinTunersModel", "tries", "(III)Z"⟩
def w_MO_tries : List Cond := .code y_MO_tries c_MO_tries 6 (some .boolean) :: tb_
abbrev c_MO_planCore : ByteArray := prog_7_method_12_code
abbrev y_MO_planCore : MethodName := ⟨"TwinTunersModel", "planCore", "(I)V"⟩
def w_MO_planCore : List Cond := .code y_MO_planCore c_MO_planCore 2 none :: tb_
set_option maxRecDepth 100000 in
theorem tb_5 : (.initialized "TwinTunersModel" : Cond) ∈ tb_ := tb_w 5 rfl rfl
set_option maxRecDepth 100000 in
theorem tb_636 : (.fieldLink "TwinTunersModel" 17 "TwinTunersModel" "channels" "[I" : Cond) ∈ tb_ := tb_w 636 rfl rfl
set_option maxRecDepth 100000 in
theorem tb_656 : (.fieldLink "TwinTunersModel" 75 "TwinTunersModel" "isPlanned" "[Z" : Cond) ∈ tb_ := tb_w 656 rfl rfl
set_option maxRecDepth 100000 in
theorem tb_657 : (.fieldLink "TwinTunersModel" 78 "TwinTunersModel" "planFroms" "[I" : Cond) ∈ tb_ := tb_w 657 rfl rfl
set_option maxRecDepth 100000 in
theorem tb_658 : (.fieldLink "TwinTunersModel" 81 "TwinTunersModel" "planTos" "[I" : Cond) ∈ tb_ := tb_w 658 rfl rfl
set_option maxRecDepth 100000 in
theorem tb_760 : (.methodLink "TwinTunersModel" 120 ⟨"TwinTunersModel", "coreEnd", "(I)I"⟩ : Cond) ∈ tb_ := tb_w 760 rfl rfl
set_option maxRecDepth 100000 in
theorem tb_762 : (.instanceMethod ⟨"TwinTunersModel", "coreEnd", "(I)I"⟩ : Cond) ∈ tb_ := tb_w 762 rfl rfl
set_option maxRecDepth 100000 in
theorem tb_764 : (.methodLink "TwinTunersModel" 116 ⟨"TwinTunersModel", "take", "(III)V"⟩ : Cond) ∈ tb_ := tb_w 764 rfl rfl
set_option maxRecDepth 100000 in
theorem tb_766 : (.instanceMethod ⟨"TwinTunersModel", "take", "(III)V"⟩ : Cond) ∈ tb_ := tb_w 766 rfl rfl
set_option maxRecDepth 100000 in
theorem tb_775 : (.code ⟨"TwinTunersModel", "planCore", "(I)V"⟩ prog_7_method_12_code 2 none : Cond) ∈ tb_ := tb_w 775 rfl rfl
set_option maxRecDepth 100000 in
theorem tb_776 : (.methodLink "TwinTunersModel" 124 ⟨"TwinTunersModel", "tries", "(III)Z"⟩ : Cond) ∈ tb_ := tb_w 776 rfl rfl
set_option maxRecDepth 100000 in
theorem tb_778 : (.instanceMethod ⟨"TwinTunersModel", "tries", "(III)Z"⟩ : Cond) ∈ tb_ := tb_w 778 rfl rfl
set_option maxRecDepth 100000 in
theorem tb_779 : (.code ⟨"TwinTunersModel", "tries", "(III)Z"⟩ prog_7_method_11_code 6 (some .boolean) : Cond) ∈ tb_ := tb_w 779 rfl rfl
set_option maxRecDepth 100000 in
theorem tb_780 : (.methodLink "TwinTunersModel" 112 ⟨"TwinTunersModel", "isRoomAt", "(II)Z"⟩ : Cond) ∈ tb_ := tb_w 780 rfl rfl
set_option maxRecDepth 100000 in
theorem tb_782 : (.instanceMethod ⟨"TwinTunersModel", "isRoomAt", "(II)Z"⟩ : Cond) ∈ tb_ := tb_w 782 rfl rfl
set_option maxRecDepth 100000 in
theorem tb_783 : (.code ⟨"TwinTunersModel", "isRoomAt", "(II)Z"⟩ prog_7_method_10_code 7 (some .boolean) : Cond) ∈ tb_ := tb_w 783 rfl rfl
theorem ts_26 : (.selects "TwinTunersModel" ⟨"TwinTunersModel", "coreEnd", "(I)I"⟩ ⟨"TwinTunersModel", "coreEnd", "(I)I"⟩ : Cond) ∈ tb_ := ts_w 26 rfl rfl
theorem ts_27 : (.selects "TwinTunersModel" ⟨"TwinTunersModel", "take", "(III)V"⟩ ⟨"TwinTunersModel", "take", "(III)V"⟩ : Cond) ∈ tb_ := ts_w 27 rfl rfl
theorem ts_30 : (.selects "TwinTunersModel" ⟨"TwinTunersModel", "tries", "(III)Z"⟩ ⟨"TwinTunersModel", "tries", "(III)Z"⟩ : Cond) ∈ tb_ := ts_w 30 rfl rfl
theorem ts_31 : (.selects "TwinTunersModel" ⟨"TwinTunersModel", "isRoomAt", "(II)Z"⟩ ⟨"TwinTunersModel", "isRoomAt", "(II)Z"⟩ : Cond) ∈ tb_ := ts_w 31 rfl rfl
theorem d_MO_isRoomAt_0 : decode c_MO_isRoomAt 0 = .ok (.iconst (-1), 1) := by decide +kernel
theorem d_MO_isRoomAt_1 : decode c_MO_isRoomAt 1 = .ok (.istore_n 3, 1) := by decide +kernel
theorem d_MO_isRoomAt_2 : decode c_MO_isRoomAt 2 = .ok (.iconst 1, 1) := by decide +kernel
theorem d_MO_isRoomAt_3 : decode c_MO_isRoomAt 3 = .ok (.istore 4, 2) := by decide +kernel
theorem d_MO_isRoomAt_5 : decode c_MO_isRoomAt 5 = .ok (.iconst 0, 1) := by decide +kernel
theorem d_MO_isRoomAt_6 : decode c_MO_isRoomAt 6 = .ok (.istore 5, 2) := by decide +kernel
theorem d_MO_isRoomAt_8 : decode c_MO_isRoomAt 8 = .ok (.iload 5, 2) := by decide +kernel
theorem d_MO_isRoomAt_10 : decode c_MO_isRoomAt 10 = .ok (.aload_n 0, 1) := by decide +kernel
theorem d_MO_isRoomAt_11 : decode c_MO_isRoomAt 11 = .ok (.getfield 109, 3) := by decide +kernel
theorem d_MO_isRoomAt_14 : decode c_MO_isRoomAt 14 = .ok (.if_icmp .ge 98, 3) := by decide +kernel
theorem d_MO_isRoomAt_17 : decode c_MO_isRoomAt 17 = .ok (.aload_n 0, 1) := by decide +kernel
theorem d_MO_isRoomAt_18 : decode c_MO_isRoomAt 18 = .ok (.getfield 69, 3) := by decide +kernel
theorem d_MO_isRoomAt_21 : decode c_MO_isRoomAt 21 = .ok (.iload 5, 2) := by decide +kernel
theorem d_MO_isRoomAt_23 : decode c_MO_isRoomAt 23 = .ok (.iaload, 1) := by decide +kernel
theorem d_MO_isRoomAt_24 : decode c_MO_isRoomAt 24 = .ok (.iload_n 2, 1) := by decide +kernel
theorem d_MO_isRoomAt_25 : decode c_MO_isRoomAt 25 = .ok (.if_icmp .gt 29, 3) := by decide +kernel
theorem d_MO_isRoomAt_28 : decode c_MO_isRoomAt 28 = .ok (.iload_n 2, 1) := by decide +kernel
theorem d_MO_isRoomAt_29 : decode c_MO_isRoomAt 29 = .ok (.aload_n 0, 1) := by decide +kernel
theorem d_MO_isRoomAt_30 : decode c_MO_isRoomAt 30 = .ok (.getfield 72, 3) := by decide +kernel
theorem d_MO_isRoomAt_33 : decode c_MO_isRoomAt 33 = .ok (.iload 5, 2) := by decide +kernel
theorem d_MO_isRoomAt_35 : decode c_MO_isRoomAt 35 = .ok (.iaload, 1) := by decide +kernel
theorem d_MO_isRoomAt_36 : decode c_MO_isRoomAt 36 = .ok (.if_icmp .ge 18, 3) := by decide +kernel
theorem d_MO_isRoomAt_39 : decode c_MO_isRoomAt 39 = .ok (.aload_n 0, 1) := by decide +kernel
theorem d_MO_isRoomAt_40 : decode c_MO_isRoomAt 40 = .ok (.getfield 66, 3) := by decide +kernel
theorem d_MO_isRoomAt_43 : decode c_MO_isRoomAt 43 = .ok (.iload 5, 2) := by decide +kernel
theorem d_MO_isRoomAt_45 : decode c_MO_isRoomAt 45 = .ok (.iaload, 1) := by decide +kernel
theorem d_MO_isRoomAt_46 : decode c_MO_isRoomAt 46 = .ok (.iload_n 1, 1) := by decide +kernel
theorem d_MO_isRoomAt_47 : decode c_MO_isRoomAt 47 = .ok (.if_icmp .eq 7, 3) := by decide +kernel
theorem d_MO_isRoomAt_50 : decode c_MO_isRoomAt 50 = .ok (.iconst 1, 1) := by decide +kernel
theorem d_MO_isRoomAt_51 : decode c_MO_isRoomAt 51 = .ok (.goto 4, 3) := by decide +kernel
theorem d_MO_isRoomAt_54 : decode c_MO_isRoomAt 54 = .ok (.iconst 0, 1) := by decide +kernel
theorem d_MO_isRoomAt_55 : decode c_MO_isRoomAt 55 = .ok (.istore 6, 2) := by decide +kernel
theorem d_MO_isRoomAt_57 : decode c_MO_isRoomAt 57 = .ok (.iload 4, 2) := by decide +kernel
theorem d_MO_isRoomAt_59 : decode c_MO_isRoomAt 59 = .ok (.ifCond .eq 27, 3) := by decide +kernel
theorem d_MO_isRoomAt_62 : decode c_MO_isRoomAt 62 = .ok (.iload 6, 2) := by decide +kernel
theorem d_MO_isRoomAt_64 : decode c_MO_isRoomAt 64 = .ok (.ifCond .eq 18, 3) := by decide +kernel
theorem d_MO_isRoomAt_67 : decode c_MO_isRoomAt 67 = .ok (.iload_n 3, 1) := by decide +kernel
theorem d_MO_isRoomAt_68 : decode c_MO_isRoomAt 68 = .ok (.ifCond .lt 14, 3) := by decide +kernel
theorem d_MO_isRoomAt_71 : decode c_MO_isRoomAt 71 = .ok (.aload_n 0, 1) := by decide +kernel
theorem d_MO_isRoomAt_72 : decode c_MO_isRoomAt 72 = .ok (.getfield 66, 3) := by decide +kernel
theorem d_MO_isRoomAt_75 : decode c_MO_isRoomAt 75 = .ok (.iload 5, 2) := by decide +kernel
theorem d_MO_isRoomAt_77 : decode c_MO_isRoomAt 77 = .ok (.iaload, 1) := by decide +kernel
theorem d_MO_isRoomAt_78 : decode c_MO_isRoomAt 78 = .ok (.iload_n 3, 1) := by decide +kernel
theorem d_MO_isRoomAt_79 : decode c_MO_isRoomAt 79 = .ok (.if_icmp .ne 7, 3) := by decide +kernel
theorem d_MO_isRoomAt_82 : decode c_MO_isRoomAt 82 = .ok (.iconst 1, 1) := by decide +kernel
theorem d_MO_isRoomAt_83 : decode c_MO_isRoomAt 83 = .ok (.goto 4, 3) := by decide +kernel
theorem d_MO_isRoomAt_86 : decode c_MO_isRoomAt 86 = .ok (.iconst 0, 1) := by decide +kernel
theorem d_MO_isRoomAt_87 : decode c_MO_isRoomAt 87 = .ok (.istore 4, 2) := by decide +kernel
theorem d_MO_isRoomAt_89 : decode c_MO_isRoomAt 89 = .ok (.iload 6, 2) := by decide +kernel
theorem d_MO_isRoomAt_91 : decode c_MO_isRoomAt 91 = .ok (.ifCond .eq 13, 3) := by decide +kernel
theorem d_MO_isRoomAt_94 : decode c_MO_isRoomAt 94 = .ok (.aload_n 0, 1) := by decide +kernel
theorem d_MO_isRoomAt_95 : decode c_MO_isRoomAt 95 = .ok (.getfield 66, 3) := by decide +kernel
theorem d_MO_isRoomAt_98 : decode c_MO_isRoomAt 98 = .ok (.iload 5, 2) := by decide +kernel
theorem d_MO_isRoomAt_100 : decode c_MO_isRoomAt 100 = .ok (.iaload, 1) := by decide +kernel
theorem d_MO_isRoomAt_101 : decode c_MO_isRoomAt 101 = .ok (.goto 4, 3) := by decide +kernel
theorem d_MO_isRoomAt_104 : decode c_MO_isRoomAt 104 = .ok (.iload_n 3, 1) := by decide +kernel
theorem d_MO_isRoomAt_105 : decode c_MO_isRoomAt 105 = .ok (.istore_n 3, 1) := by decide +kernel
theorem d_MO_isRoomAt_106 : decode c_MO_isRoomAt 106 = .ok (.iinc 5 1, 3) := by decide +kernel
theorem d_MO_isRoomAt_109 : decode c_MO_isRoomAt 109 = .ok (.goto (-101), 3) := by decide +kernel
theorem d_MO_isRoomAt_112 : decode c_MO_isRoomAt 112 = .ok (.iload 4, 2) := by decide +kernel
theorem d_MO_isRoomAt_114 : decode c_MO_isRoomAt 114 = .ok (.ireturn, 1) := by decide +kernel
theorem d_MO_planCore_0 : decode c_MO_planCore 0 = .ok (.aload_n 0, 1) := by decide +kernel
theorem d_MO_planCore_1 : decode c_MO_planCore 1 = .ok (.getfield 75, 3) := by decide +kernel
theorem d_MO_planCore_4 : decode c_MO_planCore 4 = .ok (.iload_n 1, 1) := by decide +kernel
theorem d_MO_planCore_5 : decode c_MO_planCore 5 = .ok (.aload_n 0, 1) := by decide +kernel
theorem d_MO_planCore_6 : decode c_MO_planCore 6 = .ok (.aload_n 0, 1) := by decide +kernel
theorem d_MO_planCore_7 : decode c_MO_planCore 7 = .ok (.getfield 17, 3) := by decide +kernel
theorem d_MO_planCore_10 : decode c_MO_planCore 10 = .ok (.iload_n 1, 1) := by decide +kernel
theorem d_MO_planCore_11 : decode c_MO_planCore 11 = .ok (.iaload, 1) := by decide +kernel
theorem d_MO_planCore_12 : decode c_MO_planCore 12 = .ok (.aload_n 0, 1) := by decide +kernel
theorem d_MO_planCore_13 : decode c_MO_planCore 13 = .ok (.getfield 20, 3) := by decide +kernel
theorem d_MO_planCore_16 : decode c_MO_planCore 16 = .ok (.iload_n 1, 1) := by decide +kernel
theorem d_MO_planCore_17 : decode c_MO_planCore 17 = .ok (.iaload, 1) := by decide +kernel
theorem d_MO_planCore_18 : decode c_MO_planCore 18 = .ok (.aload_n 0, 1) := by decide +kernel
theorem d_MO_planCore_19 : decode c_MO_planCore 19 = .ok (.iload_n 1, 1) := by decide +kernel
theorem d_MO_planCore_20 : decode c_MO_planCore 20 = .ok (.invokevirtual 120, 3) := by decide +kernel
theorem d_MO_planCore_23 : decode c_MO_planCore 23 = .ok (.invokevirtual 124, 3) := by decide +kernel
theorem d_MO_planCore_26 : decode c_MO_planCore 26 = .ok (.bastore, 1) := by decide +kernel
theorem d_MO_planCore_27 : decode c_MO_planCore 27 = .ok (.aload_n 0, 1) := by decide +kernel
theorem d_MO_planCore_28 : decode c_MO_planCore 28 = .ok (.getfield 78, 3) := by decide +kernel
theorem d_MO_planCore_31 : decode c_MO_planCore 31 = .ok (.iload_n 1, 1) := by decide +kernel
theorem d_MO_planCore_32 : decode c_MO_planCore 32 = .ok (.aload_n 0, 1) := by decide +kernel
theorem d_MO_planCore_33 : decode c_MO_planCore 33 = .ok (.getfield 20, 3) := by decide +kernel
theorem d_MO_planCore_36 : decode c_MO_planCore 36 = .ok (.iload_n 1, 1) := by decide +kernel
theorem d_MO_planCore_37 : decode c_MO_planCore 37 = .ok (.iaload, 1) := by decide +kernel
theorem d_MO_planCore_38 : decode c_MO_planCore 38 = .ok (.iastore, 1) := by decide +kernel
theorem d_MO_planCore_39 : decode c_MO_planCore 39 = .ok (.aload_n 0, 1) := by decide +kernel
theorem d_MO_planCore_40 : decode c_MO_planCore 40 = .ok (.getfield 81, 3) := by decide +kernel
theorem d_MO_planCore_43 : decode c_MO_planCore 43 = .ok (.iload_n 1, 1) := by decide +kernel
theorem d_MO_planCore_44 : decode c_MO_planCore 44 = .ok (.aload_n 0, 1) := by decide +kernel
theorem d_MO_planCore_45 : decode c_MO_planCore 45 = .ok (.iload_n 1, 1) := by decide +kernel
theorem d_MO_planCore_46 : decode c_MO_planCore 46 = .ok (.invokevirtual 120, 3) := by decide +kernel
theorem d_MO_planCore_49 : decode c_MO_planCore 49 = .ok (.iastore, 1) := by decide +kernel
theorem d_MO_planCore_50 : decode c_MO_planCore 50 = .ok (.return_, 1) := by decide +kernel
theorem d_MO_tries_0 : decode c_MO_tries 0 = .ok (.iconst 1, 1) := by decide +kernel
theorem d_MO_tries_1 : decode c_MO_tries 1 = .ok (.istore 4, 2) := by decide +kernel
theorem d_MO_tries_3 : decode c_MO_tries 3 = .ok (.iload_n 2, 1) := by decide +kernel
theorem d_MO_tries_4 : decode c_MO_tries 4 = .ok (.istore 5, 2) := by decide +kernel
theorem d_MO_tries_6 : decode c_MO_tries 6 = .ok (.iload 5, 2) := by decide +kernel
theorem d_MO_tries_8 : decode c_MO_tries 8 = .ok (.iload_n 3, 1) := by decide +kernel
theorem d_MO_tries_9 : decode c_MO_tries 9 = .ok (.if_icmp .ge 31, 3) := by decide +kernel
theorem d_MO_tries_12 : decode c_MO_tries 12 = .ok (.iload 4, 2) := by decide +kernel
theorem d_MO_tries_14 : decode c_MO_tries 14 = .ok (.ifCond .eq 17, 3) := by decide +kernel
theorem d_MO_tries_17 : decode c_MO_tries 17 = .ok (.aload_n 0, 1) := by decide +kernel
theorem d_MO_tries_18 : decode c_MO_tries 18 = .ok (.iload_n 1, 1) := by decide +kernel
theorem d_MO_tries_19 : decode c_MO_tries 19 = .ok (.iload 5, 2) := by decide +kernel
theorem d_MO_tries_21 : decode c_MO_tries 21 = .ok (.invokevirtual 112, 3) := by decide +kernel
theorem d_MO_tries_24 : decode c_MO_tries 24 = .ok (.ifCond .eq 7, 3) := by decide +kernel
theorem d_MO_tries_27 : decode c_MO_tries 27 = .ok (.iconst 1, 1) := by decide +kernel
theorem d_MO_tries_28 : decode c_MO_tries 28 = .ok (.goto 4, 3) := by decide +kernel
theorem d_MO_tries_31 : decode c_MO_tries 31 = .ok (.iconst 0, 1) := by decide +kernel
theorem d_MO_tries_32 : decode c_MO_tries 32 = .ok (.istore 4, 2) := by decide +kernel
theorem d_MO_tries_34 : decode c_MO_tries 34 = .ok (.iinc 5 1, 3) := by decide +kernel
theorem d_MO_tries_37 : decode c_MO_tries 37 = .ok (.goto (-31), 3) := by decide +kernel
theorem d_MO_tries_40 : decode c_MO_tries 40 = .ok (.iload 4, 2) := by decide +kernel
theorem d_MO_tries_42 : decode c_MO_tries 42 = .ok (.ifCond .eq 10, 3) := by decide +kernel
theorem d_MO_tries_45 : decode c_MO_tries 45 = .ok (.aload_n 0, 1) := by decide +kernel
theorem d_MO_tries_46 : decode c_MO_tries 46 = .ok (.iload_n 1, 1) := by decide +kernel
theorem d_MO_tries_47 : decode c_MO_tries 47 = .ok (.iload_n 2, 1) := by decide +kernel
theorem d_MO_tries_48 : decode c_MO_tries 48 = .ok (.iload_n 3, 1) := by decide +kernel
theorem d_MO_tries_49 : decode c_MO_tries 49 = .ok (.invokevirtual 116, 3) := by decide +kernel
theorem d_MO_tries_52 : decode c_MO_tries 52 = .ok (.iload 4, 2) := by decide +kernel
theorem d_MO_tries_54 : decode c_MO_tries 54 = .ok (.ireturn, 1) := by decide +kernel
/-- how many of the first n are v -/
def ct (v : Int32) (f : Nat → Int32) : Nat → Nat
  | 0 => 0
  | n + 1 => ct v f n + (if f n = v then 1 else 0)
theorem ct_le {v : Int32} {f : Nat → Int32} : ∀ {a b : Nat}, a ≤ b → ct v f a ≤ ct v f b := by
  intro a b h
  induction b with
  | zero => rw [show a = 0 by omega]; exact Nat.le_refl _
  | succ b ih =>
    rcases Nat.lt_or_ge b a with q | q
    · rw [show a = b + 1 by omega]; exact Nat.le_refl _
    · exact Nat.le_trans (ih q) (Nat.le_add_right _ _)
theorem oc_ct (f : Nat → Int32) : ∀ n, oc f n = ct 0 f n + ct 1 f n := by
  intro n
  induction n with
  | zero => rfl
  | succ n ih =>
    show oc f n + _ = (ct 0 f n + _) + (ct 1 f n + _)
    rw [ih]
    by_cases h0 : f n = 0
    · rw [if_pos (Or.inl h0), if_pos h0, if_neg (by rw [h0]; decide)]; omega
    · by_cases h1 : f n = 1
      · rw [if_pos (Or.inr h1), if_neg h0, if_pos h1]; omega
      · rw [if_neg (fun q => q.elim h0 h1), if_neg h0, if_neg h1]; omega
/-- how many waiting ones come before (P, r) in the plan's order -/
def dn (sa pr : Nat → Int32) (P : Int) (r : Nat) : Nat → Nat
  | 0 => 0
  | n + 1 => dn sa pr P r n + (if sa n = 0 ∧ (P < (pr n).toInt ∨ (pr n).toInt = P ∧ n < r) then 1 else 0)
theorem dn_mono {sa pr : Nat → Int32} {P : Int} {r : Nat} : ∀ n, dn sa pr P r n ≤ dn sa pr P (r + 1) n := by
  intro n
  induction n with
  | zero => exact Nat.le_refl _
  | succ n ih =>
    show dn sa pr P r n + _ ≤ dn sa pr P (r + 1) n + _
    by_cases h : sa n = 0 ∧ (P < (pr n).toInt ∨ (pr n).toInt = P ∧ n < r)
    · rw [if_pos h, if_pos ⟨h.1, h.2.imp id (fun q => ⟨q.1, by omega⟩)⟩]; omega
    · rw [if_neg h]; omega
theorem dn_step {sa pr : Nat → Int32} {P : Int} {r : Nat} (h0 : sa r = 0) (hp : (pr r).toInt = P) : ∀ n, r < n → dn sa pr P r n + 1 ≤ dn sa pr P (r + 1) n := by
  intro n
  induction n with
  | zero => intro h; omega
  | succ n ih =>
    intro hr
    show dn sa pr P r n + _ + 1 ≤ dn sa pr P (r + 1) n + _
    rcases Nat.lt_or_ge r n with q | q
    · have h1 := ih q
      by_cases h : sa n = 0 ∧ (P < (pr n).toInt ∨ (pr n).toInt = P ∧ n < r)
      · rw [if_pos h, if_pos ⟨h.1, h.2.imp id (fun q => ⟨q.1, by omega⟩)⟩]; omega
      · rw [if_neg h]; omega
    · have e : n = r := by omega
      subst e
      have h1 := dn_mono (sa := sa) (pr := pr) (P := P) (r := n) n
      rw [if_neg (fun q => by rcases q.2 with z | z <;> omega), if_pos ⟨h0, Or.inr ⟨hp, by omega⟩⟩]; omega
theorem dn_ct {sa pr : Nat → Int32} {P : Int} {r : Nat} : ∀ n, dn sa pr P r n ≤ ct 0 sa n := by
  intro n
  induction n with
  | zero => exact Nat.le_refl _
  | succ n ih =>
    show dn sa pr P r n + _ ≤ ct 0 sa n + _
    by_cases h : sa n = 0
    · rw [if_pos h]; split <;> omega
    · rw [if_neg h, if_neg (fun q => h q.1)]; omega
theorem dn_next {sa pr : Nat → Int32} {P : Int} {r : Nat} : ∀ n, n ≤ r → dn sa pr P r n = dn sa pr (P - 1) 0 n := by
  intro n
  induction n with
  | zero => intro _; rfl
  | succ n ih =>
    intro h
    show dn sa pr P r n + _ = dn sa pr (P - 1) 0 n + _
    rw [ih (by omega)]
    by_cases q : sa n = 0 ∧ (P < (pr n).toInt ∨ (pr n).toInt = P ∧ n < r)
    · rw [if_pos q, if_pos ⟨q.1, Or.inl (by rcases q.2 with z | z <;> omega)⟩]
    · rw [if_neg q, if_neg (fun z => q ⟨z.1, by rcases z.2 with y | y <;> omega⟩)]
/-- what the plan gives: of a running one, of a waiting one that is planned -/
def qP (nw : Int) (st ln sa ip pf pt : Int32) : Prop := (sa = 1 → nw < pt.toInt ∧ st.toInt + ln.toInt ≤ pt.toInt ∧ pt.toInt ≤ st.toInt + ln.toInt + 9) ∧ (sa = 0 → ¬ ip = 0 → st.toInt ≤ pf.toInt + 9 ∧ pf.toInt ≤ st.toInt ∧ st.toInt + ln.toInt ≤ pt.toInt ∧ pt.toInt ≤ st.toInt + ln.toInt + 9)
def QP (k : Nat) (sc : Nat → Int32) (ia : Nat → Nat → Int32) : Prop := ∀ i : Nat, i < k → qP (sc 1).toInt (ia 6 i) (ia 7 i) (ia 11 i) (ia 25 i) (ia 26 i) (ia 27 i)
theorem QP.step {k k' j : Nat} {sc sc' : Nat → Int32} {ia ia' : Nat → Nat → Int32} (hQ : QP k sc ia) (hk : ∀ i, i < k' → i ≠ j → i < k) (h1 : sc' 1 = sc 1) (h6 : ia' 6 = ia 6) (h7 : ia' 7 = ia 7) (h11 : ia' 11 = ia 11) (h25 : ∀ i, i ≠ j → ia' 25 i = ia 25 i) (h26 : ∀ i, i ≠ j → ia' 26 i = ia 26 i) (h27 : ∀ i, i ≠ j → ia' 27 i = ia 27 i)
    (hj : j < k' → qP (sc 1).toInt (ia 6 j) (ia 7 j) (ia 11 j) (ia' 25 j) (ia' 26 j) (ia' 27 j)) : QP k' sc' ia' := by
  intro i hi
  rw [h1, h6, h7, h11]
  by_cases e : i = j
  · subst e; exact hj hi
  · rw [h25 i e, h26 i e, h27 i e]; exact hQ i (hk i hi e)
theorem QP.same {k : Nat} {sc sc' : Nat → Int32} {ia ia' : Nat → Nat → Int32} (hQ : QP k sc ia) (hs : same [0, 21, 28] sc sc') (hi : same [3, 8, 14, 15, 16, 17, 18, 19, 20, 22, 23, 24, 29] ia ia') : QP k sc' ia' := by
  intro i h
  rw [hs 1 (by decide), hi 6 (by decide), hi 7 (by decide), hi 11 (by decide), hi 25 (by decide), hi 26 (by decide), hi 27 (by decide)]
  exact hQ i h
theorem MI.at {T : Int} {N : Nat} {sc : Nat → Int32} {ia : Nat → Nat → Int32} (h : MI T N sc ia) {j : Nat} (hj : j < N) : mR T (sc 1).toInt (ia 5 j) (ia 6 j) (ia 7 j) (ia 9 j) (ia 10 j) (ia 11 j) (ia 12 j) (ia 13 j) := h.2.2.2.2.2.2.2 j hj
theorem MI.e4 {T : Int} {N : Nat} {sc : Nat → Int32} {ia : Nat → Nat → Int32} (h : MI T N sc ia) : sc 4 = nI N := h.2.2.1.2
theorem MI.hN {T : Int} {N : Nat} {sc : Nat → Int32} {ia : Nat → Nat → Int32} (h : MI T N sc ia) : N ≤ 40 := h.2.2.1.1
theorem MI.T {T : Int} {N : Nat} {sc : Nat → Int32} {ia : Nat → Nat → Int32} (h : MI T N sc ia) : 0 ≤ T ∧ T ≤ 1000000 ∧ 0 ≤ (sc 1).toInt ∧ (sc 1).toInt ≤ T := ⟨h.1.1, h.1.2, h.2.1.1, h.2.1.2⟩
theorem MI.core {T : Int} {N : Nat} {sc : Nat → Int32} {ia : Nat → Nat → Int32} (h : MI T N sc ia) {j : Nat} (hj : j < N) : (ia 6 j + ia 7 j).toInt = (ia 6 j).toInt + (ia 7 j).toInt := by
  have h1 := h.at hj
  have h2 := h.1
  obtain ⟨-, hs, hl, -⟩ := h1
  exact ti_add (by omega) (by omega)
set_option maxHeartbeats 8000000 in
set_option maxRecDepth 100000 in
theorem t_MO_isRoomAt (l : Launch) (dC : Nat → ClassId) (dI : Nat → Nat → Nat) (g0 : Nat) (ad : Nat → Nat) (kI kZ : ClassId) (sc : Nat → Int32) (ia : Nat → Nat → Int32) (K : Nat) (hK0 : sc 21 = nI K) (hKb : K ≤ 60) (x y : Int32) : Met l y_MO_isRoomAt w_MO_isRoomAt ({ frames := 0, cells := 0, slots := 0, locals := 0 }) (rdP (dC, dI) (MOW g0 ad kI kZ sc ia) (MOT kI kZ) [.ref g0, .int x, .int y]) (rQ vI (fun r => True)) 0 0 (fun _ => False) := by
  refine Met.ofW (cc := c_MO_isRoomAt) (maxL := 7) (ret := (some .boolean)) (by decide) rfl ?_
  intro p e s m args below meth c s₁ B hml hv
  obtain ⟨rfl, hP, hK⟩ := hv
  have hx := B.exec
  have hb := B.bytes
  have hr := B.returns
  have ht : ∀ w ∈ tb_, w.before _ s = true := fun w h => atoms_spec (ws := w_MO_isRoomAt) B.pre w (List.mem_cons_of_mem _ h)
  have hown : s.vm.findClass R_MO = some m.cls := findClass_of_methodNamed B.named
  have hlocks := B.notSynchronized
  have hP : va_P (dC, dI) cls_ (MOW g0 ad kI kZ sc ia) s.heap := hP
  have hl := lv_entry ([.ref g0, .int x, .int y]) (n := 7) (Nat.le_of_ble_eq_true rfl)
  rw [lg_entry_eq]
  generalize (lg_sl ([.ref g0, .int x, .int y]) ++ List.replicate (7 - (lg_sl ([.ref g0, .int x, .int y])).length) Slot.unset).toArray = ls at hl ⊢
  have hl : lv_has ls 7 [(0, .ref g0), (1, .int x), (2, .int y)] := hl
  refine lv_iconst (v := -1) hx hb d_MO_isRoomAt_0 (by decide) ?_
  refine lv_istore_n hx hb d_MO_isRoomAt_1 rfl hl (by decide) rfl (fun ls hl => ?_)
  have hl : lv_has ls 7 [(3, .int (-1)), (0, .ref g0), (1, .int x), (2, .int y)] := hl
  refine lv_iconst (v := 1) hx hb d_MO_isRoomAt_2 (by decide) ?_
  refine lv_istore hx hb d_MO_isRoomAt_3 hl (by decide) rfl (fun ls hl => ?_)
  have hl : lv_has ls 7 [(4, .int 1), (3, .int (-1)), (0, .ref g0), (1, .int x), (2, .int y)] := hl
  refine lv_iconst (v := 0) hx hb d_MO_isRoomAt_5 (by decide) ?_
  refine lv_istore hx hb d_MO_isRoomAt_6 hl (by decide) rfl (fun ls hl => ?_)
  have hl : lv_has ls 7 [(5, .int 0), (4, .int 1), (3, .int (-1)), (0, .ref g0), (1, .int x), (2, .int y)] := hl
  have J_8 : ∀ (n_8 : Nat) (k : Nat) (rm : Int32) (ot : Int32)  (ls : Array Slot), K - k < n_8 → k ≤ K → lv_has ls 7 [(5, .int (nI k)), (4, .int rm), (3, .int ot), (2, .int y), (1, .int x), (0, .ref g0)] → W p l e (headSpec w_MO_isRoomAt ({ frames := 0, cells := 0, slots := 0, locals := 0 })).room s m (([.ref g0, .int x, .int y] : List Value).toArray) below meth c s.heap [] 0 0 (MQ below (rQ vI (fun r => True)) (([.ref g0, .int x, .int y] : List Value).toArray) s 0 0 (fun _ => False)) (F0 m 8 ls []) := by
    intro n_8
    induction n_8 with
    | zero => intro k rm ot ls hmu hc8_0 hl; exact absurd hmu (by omega)
    | succ n_8 ih_8 =>
      intro k rm ot ls hmu hc8_0 hl
      have J_89 : ∀ (b : Int32) (rn : Int32)  (ls : Array Slot), k < K → lv_has ls 7 [(6, .int b), (5, .int (nI k)), (4, .int rn), (3, .int ot), (2, .int y), (1, .int x), (0, .ref g0)] → W p l e (headSpec w_MO_isRoomAt ({ frames := 0, cells := 0, slots := 0, locals := 0 })).room s m (([.ref g0, .int x, .int y] : List Value).toArray) below meth c s.heap [] 0 0 (MQ below (rQ vI (fun r => True)) (([.ref g0, .int x, .int y] : List Value).toArray) s 0 0 (fun _ => False)) (F0 m 89 ls []) := by
        intro b rn ls hc89_0 hl
        refine lv_iload hx hb d_MO_isRoomAt_89 (lv_at hl 0 rfl) ?_
        refine lv_if_eq (tgt := 104) hx hb d_MO_isRoomAt_91 (by decide) (fun h91_1 => ?_) (fun h91_1 => ?_)
        · have h91_1 := h91_1
          have i91_1 := ti_eq h91_1
          (try rw [l_0] at i91_1)
          refine lv_iload_n hx hb d_MO_isRoomAt_104 rfl (lv_at hl 3 rfl) ?_
          refine lv_istore_n hx hb d_MO_isRoomAt_105 rfl hl (by decide) rfl (fun ls hl => ?_)
          have hl : lv_has ls 7 [(3, .int ot), (6, .int b), (5, .int (nI k)), (4, .int rn), (2, .int y), (1, .int x), (0, .ref g0)] := hl
          refine lv_iinc (k := 2) (v := nI (k + 1)) hx hb d_MO_isRoomAt_106 hl rfl ((nI_succ k).symm) (by decide) rfl (fun ls hl => ?_)
          have hl : lv_has ls 7 [(5, .int (nI (k + 1))), (3, .int ot), (6, .int b), (4, .int rn), (2, .int y), (1, .int x), (0, .ref g0)] := hl
          refine lv_goto (tgt := 8) hx hb d_MO_isRoomAt_109 (by decide) ?_
          have hl := lv_sub hl [0, 3, 1, 4, 5, 6] (l' := [(5, .int (nI (k + 1))), (4, .int rn), (3, .int ot), (2, .int y), (1, .int x), (0, .ref g0)]) rfl
          exact ih_8 (k + 1) rn ot ls (by omega) (by omega) hl
        · have h91_1 := h91_1
          have i91_1 := ti_ne h91_1
          (try rw [l_0] at i91_1)
          refine lv_aload_n hx hb d_MO_isRoomAt_94 rfl (lv_at hl 6 rfl) ?_
          refine va_get (D := (dC, dI)) (ci := 5) (v := .ref (ad 22)) (C := R_MO) (T := F_MO) (N := 30) hx hb ht in_MO hown hK hP 0 rfl rfl 22 (by decide) (ht _ tb_653) (fun _ h9 => h9) rfl d_MO_isRoomAt_95 ?_
          refine lv_iload hx hb d_MO_isRoomAt_98 (lv_at hl 1 rfl) ?_
          refine va_iald hx hb hK hP 18 0 rfl rfl (vp_in_nI (show k < 60 by omega) (by decide)) d_MO_isRoomAt_100 ?_
          refine W.eq (g2 := F0 m 101 ls [.int (ia 22 k)]) (by rw [nI_clamp (show k < 2 ^ 31 by omega)]) ?_
          refine lv_goto (tgt := 105) hx hb d_MO_isRoomAt_101 (by decide) ?_
          refine lv_istore_n hx hb d_MO_isRoomAt_105 rfl hl (by decide) rfl (fun ls hl => ?_)
          have hl : lv_has ls 7 [(3, .int (ia 22 k)), (6, .int b), (5, .int (nI k)), (4, .int rn), (2, .int y), (1, .int x), (0, .ref g0)] := hl
          refine lv_iinc (k := 2) (v := nI (k + 1)) hx hb d_MO_isRoomAt_106 hl rfl ((nI_succ k).symm) (by decide) rfl (fun ls hl => ?_)
          have hl : lv_has ls 7 [(5, .int (nI (k + 1))), (3, .int (ia 22 k)), (6, .int b), (4, .int rn), (2, .int y), (1, .int x), (0, .ref g0)] := hl
          refine lv_goto (tgt := 8) hx hb d_MO_isRoomAt_109 (by decide) ?_
          have hl := lv_sub hl [0, 3, 1, 4, 5, 6] (l' := [(5, .int (nI (k + 1))), (4, .int rn), (3, .int (ia 22 k)), (2, .int y), (1, .int x), (0, .ref g0)]) rfl
          exact ih_8 (k + 1) rn (ia 22 k) ls (by omega) (by omega) hl
      have J_57 : ∀ (b : Int32)  (ls : Array Slot), k < K → lv_has ls 7 [(6, .int b), (5, .int (nI k)), (4, .int rm), (3, .int ot), (2, .int y), (1, .int x), (0, .ref g0)] → W p l e (headSpec w_MO_isRoomAt ({ frames := 0, cells := 0, slots := 0, locals := 0 })).room s m (([.ref g0, .int x, .int y] : List Value).toArray) below meth c s.heap [] 0 0 (MQ below (rQ vI (fun r => True)) (([.ref g0, .int x, .int y] : List Value).toArray) s 0 0 (fun _ => False)) (F0 m 57 ls []) := by
        intro b ls hc57_0 hl
        refine lv_iload hx hb d_MO_isRoomAt_57 (lv_at hl 2 rfl) ?_
        refine lv_if_eq (tgt := 86) hx hb d_MO_isRoomAt_59 (by decide) (fun h59_2 => ?_) (fun h59_2 => ?_)
        · have h59_2 := h59_2
          have i59_2 := ti_eq h59_2
          (try rw [l_0] at i59_2)
          refine lv_iconst (v := 0) hx hb d_MO_isRoomAt_86 (by decide) ?_
          refine lv_istore hx hb d_MO_isRoomAt_87 hl (by decide) rfl (fun ls hl => ?_)
          have hl : lv_has ls 7 [(4, .int 0), (6, .int b), (5, .int (nI k)), (3, .int ot), (2, .int y), (1, .int x), (0, .ref g0)] := hl
          have hl := lv_sub hl [1, 2, 0, 3, 4, 5, 6] (l' := [(6, .int b), (5, .int (nI k)), (4, .int 0), (3, .int ot), (2, .int y), (1, .int x), (0, .ref g0)]) rfl
          exact J_89 b 0 ls (by omega) hl
        · have h59_2 := h59_2
          have i59_2 := ti_ne h59_2
          (try rw [l_0] at i59_2)
          refine lv_iload hx hb d_MO_isRoomAt_62 (lv_at hl 0 rfl) ?_
          refine lv_if_eq (tgt := 82) hx hb d_MO_isRoomAt_64 (by decide) (fun h64_3 => ?_) (fun h64_3 => ?_)
          · have h64_3 := h64_3
            have i64_3 := ti_eq h64_3
            (try rw [l_0] at i64_3)
            refine lv_iconst (v := 1) hx hb d_MO_isRoomAt_82 (by decide) ?_
            refine lv_goto (tgt := 87) hx hb d_MO_isRoomAt_83 (by decide) ?_
            refine lv_istore hx hb d_MO_isRoomAt_87 hl (by decide) rfl (fun ls hl => ?_)
            have hl : lv_has ls 7 [(4, .int 1), (6, .int b), (5, .int (nI k)), (3, .int ot), (2, .int y), (1, .int x), (0, .ref g0)] := hl
            have hl := lv_sub hl [1, 2, 0, 3, 4, 5, 6] (l' := [(6, .int b), (5, .int (nI k)), (4, .int 1), (3, .int ot), (2, .int y), (1, .int x), (0, .ref g0)]) rfl
            exact J_89 b 1 ls (by omega) hl
          · have h64_3 := h64_3
            have i64_3 := ti_ne h64_3
            (try rw [l_0] at i64_3)
            refine lv_iload_n hx hb d_MO_isRoomAt_67 rfl (lv_at hl 3 rfl) ?_
            refine lv_if_lt (tgt := 82) hx hb d_MO_isRoomAt_68 (by decide) (fun h68_4 => ?_) (fun h68_4 => ?_)
            · have h68_4 := h68_4
              have i68_4 := ti_lt h68_4
              (try rw [l_0] at i68_4)
              refine lv_iconst (v := 1) hx hb d_MO_isRoomAt_82 (by decide) ?_
              refine lv_goto (tgt := 87) hx hb d_MO_isRoomAt_83 (by decide) ?_
              refine lv_istore hx hb d_MO_isRoomAt_87 hl (by decide) rfl (fun ls hl => ?_)
              have hl : lv_has ls 7 [(4, .int 1), (6, .int b), (5, .int (nI k)), (3, .int ot), (2, .int y), (1, .int x), (0, .ref g0)] := hl
              have hl := lv_sub hl [1, 2, 0, 3, 4, 5, 6] (l' := [(6, .int b), (5, .int (nI k)), (4, .int 1), (3, .int ot), (2, .int y), (1, .int x), (0, .ref g0)]) rfl
              exact J_89 b 1 ls (by omega) hl
            · have h68_4 := h68_4
              have i68_4 := ti_nlt h68_4
              (try rw [l_0] at i68_4)
              refine lv_aload_n hx hb d_MO_isRoomAt_71 rfl (lv_at hl 6 rfl) ?_
              refine va_get (D := (dC, dI)) (ci := 5) (v := .ref (ad 22)) (C := R_MO) (T := F_MO) (N := 30) hx hb ht in_MO hown hK hP 0 rfl rfl 22 (by decide) (ht _ tb_653) (fun _ h9 => h9) rfl d_MO_isRoomAt_72 ?_
              refine lv_iload hx hb d_MO_isRoomAt_75 (lv_at hl 1 rfl) ?_
              refine va_iald hx hb hK hP 18 0 rfl rfl (vp_in_nI (show k < 60 by omega) (by decide)) d_MO_isRoomAt_77 ?_
              refine W.eq (g2 := F0 m 78 ls [.int (ia 22 k)]) (by rw [nI_clamp (show k < 2 ^ 31 by omega)]) ?_
              refine lv_iload_n hx hb d_MO_isRoomAt_78 rfl (lv_at hl 3 rfl) ?_
              refine lv_icmp_ne (tgt := 86) hx hb d_MO_isRoomAt_79 (by decide) (fun h79_5 => ?_) (fun h79_5 => ?_)
              · have h79_5 := h79_5
                have i79_5 := ti_ne h79_5
                refine lv_iconst (v := 0) hx hb d_MO_isRoomAt_86 (by decide) ?_
                refine lv_istore hx hb d_MO_isRoomAt_87 hl (by decide) rfl (fun ls hl => ?_)
                have hl : lv_has ls 7 [(4, .int 0), (6, .int b), (5, .int (nI k)), (3, .int ot), (2, .int y), (1, .int x), (0, .ref g0)] := hl
                have hl := lv_sub hl [1, 2, 0, 3, 4, 5, 6] (l' := [(6, .int b), (5, .int (nI k)), (4, .int 0), (3, .int ot), (2, .int y), (1, .int x), (0, .ref g0)]) rfl
                exact J_89 b 0 ls (by omega) hl
              · have h79_5 := h79_5
                have i79_5 := ti_eq h79_5
                refine lv_iconst (v := 1) hx hb d_MO_isRoomAt_82 (by decide) ?_
                refine lv_goto (tgt := 87) hx hb d_MO_isRoomAt_83 (by decide) ?_
                refine lv_istore hx hb d_MO_isRoomAt_87 hl (by decide) rfl (fun ls hl => ?_)
                have hl : lv_has ls 7 [(4, .int 1), (6, .int b), (5, .int (nI k)), (3, .int ot), (2, .int y), (1, .int x), (0, .ref g0)] := hl
                have hl := lv_sub hl [1, 2, 0, 3, 4, 5, 6] (l' := [(6, .int b), (5, .int (nI k)), (4, .int 1), (3, .int ot), (2, .int y), (1, .int x), (0, .ref g0)]) rfl
                exact J_89 b 1 ls (by omega) hl
      refine lv_iload hx hb d_MO_isRoomAt_8 (lv_at hl 0 rfl) ?_
      refine lv_aload_n hx hb d_MO_isRoomAt_10 rfl (lv_at hl 5 rfl) ?_
      refine va_get (D := (dC, dI)) (ci := 5) (v := .int (sc 21)) (C := R_MO) (T := F_MO) (N := 30) hx hb ht in_MO hown hK hP 0 rfl rfl 21 (by decide) (ht _ tb_652) (fun _ h9 => h9) rfl d_MO_isRoomAt_11 ?_
      refine W.eq (g2 := F0 m 14 ls [.int (nI K), .int (nI k)]) (by rw [show sc 21 = nI K from hK0]) ?_
      refine lv_icmp_ge (tgt := 112) hx hb d_MO_isRoomAt_14 (by decide) (fun h14_6 => ?_) (fun h14_6 => ?_)
      · have h14_6 := h14_6
        have i14_6 := ti_le h14_6
        (try rw [nI_toInt (show k < 2 ^ 31 by omega)] at i14_6)
        (try rw [nI_toInt (show K < 2 ^ 31 by omega)] at i14_6)
        refine lv_iload hx hb d_MO_isRoomAt_112 (lv_at hl 1 rfl) ?_
        exact tz_ret (v := rm) hx hb hr (fun t ht9 hW => ⟨rm &&& 1, rfl, trivial, ht9⟩) (fun q h => by cases h) d_MO_isRoomAt_114
      · have h14_6 := h14_6
        have i14_6 := ti_nle h14_6
        (try rw [nI_toInt (show k < 2 ^ 31 by omega)] at i14_6)
        (try rw [nI_toInt (show K < 2 ^ 31 by omega)] at i14_6)
        refine lv_aload_n hx hb d_MO_isRoomAt_17 rfl (lv_at hl 5 rfl) ?_
        refine va_get (D := (dC, dI)) (ci := 5) (v := .ref (ad 23)) (C := R_MO) (T := F_MO) (N := 30) hx hb ht in_MO hown hK hP 0 rfl rfl 23 (by decide) (ht _ tb_654) (fun _ h9 => h9) rfl d_MO_isRoomAt_18 ?_
        refine lv_iload hx hb d_MO_isRoomAt_21 (lv_at hl 0 rfl) ?_
        refine va_iald hx hb hK hP 19 0 rfl rfl (vp_in_nI (show k < 60 by omega) (by decide)) d_MO_isRoomAt_23 ?_
        refine W.eq (g2 := F0 m 24 ls [.int (ia 23 k)]) (by rw [nI_clamp (show k < 2 ^ 31 by omega)]) ?_
        refine lv_iload_n hx hb d_MO_isRoomAt_24 rfl (lv_at hl 3 rfl) ?_
        refine lv_icmp_gt (tgt := 54) hx hb d_MO_isRoomAt_25 (by decide) (fun h25_7 => ?_) (fun h25_7 => ?_)
        · have h25_7 := h25_7
          have i25_7 := ti_lt h25_7
          refine lv_iconst (v := 0) hx hb d_MO_isRoomAt_54 (by decide) ?_
          refine lv_istore hx hb d_MO_isRoomAt_55 hl (by decide) rfl (fun ls hl => ?_)
          have hl : lv_has ls 7 [(6, .int 0), (5, .int (nI k)), (4, .int rm), (3, .int ot), (2, .int y), (1, .int x), (0, .ref g0)] := hl
          exact J_57 0 ls (by omega) hl
        · have h25_7 := h25_7
          have i25_7 := ti_nlt h25_7
          refine lv_iload_n hx hb d_MO_isRoomAt_28 rfl (lv_at hl 3 rfl) ?_
          refine lv_aload_n hx hb d_MO_isRoomAt_29 rfl (lv_at hl 5 rfl) ?_
          refine va_get (D := (dC, dI)) (ci := 5) (v := .ref (ad 24)) (C := R_MO) (T := F_MO) (N := 30) hx hb ht in_MO hown hK hP 0 rfl rfl 24 (by decide) (ht _ tb_655) (fun _ h9 => h9) rfl d_MO_isRoomAt_30 ?_
          refine lv_iload hx hb d_MO_isRoomAt_33 (lv_at hl 0 rfl) ?_
          refine va_iald hx hb hK hP 20 0 rfl rfl (vp_in_nI (show k < 60 by omega) (by decide)) d_MO_isRoomAt_35 ?_
          refine W.eq (g2 := F0 m 36 ls [.int (ia 24 k), .int y]) (by rw [nI_clamp (show k < 2 ^ 31 by omega)]) ?_
          refine lv_icmp_ge (tgt := 54) hx hb d_MO_isRoomAt_36 (by decide) (fun h36_8 => ?_) (fun h36_8 => ?_)
          · have h36_8 := h36_8
            have i36_8 := ti_le h36_8
            refine lv_iconst (v := 0) hx hb d_MO_isRoomAt_54 (by decide) ?_
            refine lv_istore hx hb d_MO_isRoomAt_55 hl (by decide) rfl (fun ls hl => ?_)
            have hl : lv_has ls 7 [(6, .int 0), (5, .int (nI k)), (4, .int rm), (3, .int ot), (2, .int y), (1, .int x), (0, .ref g0)] := hl
            exact J_57 0 ls (by omega) hl
          · have h36_8 := h36_8
            have i36_8 := ti_nle h36_8
            refine lv_aload_n hx hb d_MO_isRoomAt_39 rfl (lv_at hl 5 rfl) ?_
            refine va_get (D := (dC, dI)) (ci := 5) (v := .ref (ad 22)) (C := R_MO) (T := F_MO) (N := 30) hx hb ht in_MO hown hK hP 0 rfl rfl 22 (by decide) (ht _ tb_653) (fun _ h9 => h9) rfl d_MO_isRoomAt_40 ?_
            refine lv_iload hx hb d_MO_isRoomAt_43 (lv_at hl 0 rfl) ?_
            refine va_iald hx hb hK hP 18 0 rfl rfl (vp_in_nI (show k < 60 by omega) (by decide)) d_MO_isRoomAt_45 ?_
            refine W.eq (g2 := F0 m 46 ls [.int (ia 22 k)]) (by rw [nI_clamp (show k < 2 ^ 31 by omega)]) ?_
            refine lv_iload_n hx hb d_MO_isRoomAt_46 rfl (lv_at hl 4 rfl) ?_
            refine lv_icmp_eq (tgt := 54) hx hb d_MO_isRoomAt_47 (by decide) (fun h47_9 => ?_) (fun h47_9 => ?_)
            · have h47_9 := h47_9
              have i47_9 := ti_eq h47_9
              refine lv_iconst (v := 0) hx hb d_MO_isRoomAt_54 (by decide) ?_
              refine lv_istore hx hb d_MO_isRoomAt_55 hl (by decide) rfl (fun ls hl => ?_)
              have hl : lv_has ls 7 [(6, .int 0), (5, .int (nI k)), (4, .int rm), (3, .int ot), (2, .int y), (1, .int x), (0, .ref g0)] := hl
              exact J_57 0 ls (by omega) hl
            · have h47_9 := h47_9
              have i47_9 := ti_ne h47_9
              refine lv_iconst (v := 1) hx hb d_MO_isRoomAt_50 (by decide) ?_
              refine lv_goto (tgt := 55) hx hb d_MO_isRoomAt_51 (by decide) ?_
              refine lv_istore hx hb d_MO_isRoomAt_55 hl (by decide) rfl (fun ls hl => ?_)
              have hl : lv_has ls 7 [(6, .int 1), (5, .int (nI k)), (4, .int rm), (3, .int ot), (2, .int y), (1, .int x), (0, .ref g0)] := hl
              exact J_57 1 ls (by omega) hl
  have hl := lv_sub hl [0, 1, 2, 5, 4, 3] (l' := [(5, .int 0), (4, .int 1), (3, .int (-1)), (2, .int y), (1, .int x), (0, .ref g0)]) rfl
  have hl : lv_has ls 7 [(5, .int (nI 0)), (4, .int 1), (3, .int (-1)), (2, .int y), (1, .int x), (0, .ref g0)] := hl
  exact J_8 ((K - 0) + 1) 0 1 (-1) ls (by omega) (by omega) hl
set_option maxHeartbeats 8000000 in
set_option maxRecDepth 100000 in
theorem t_MO_tries (l : Launch) (dC : Nat → ClassId) (dI : Nat → Nat → Nat) (g0 : Nat) (ad : Nat → Nat) (kI kZ : ClassId) (sc : Nat → Int32) (ia : Nat → Nat → Int32) (sz Bd : Nat) (K : Nat) (hK0 : sc 21 = nI K) (hKb : K < 60) (x y z : Int32) : Met l y_MO_tries w_MO_tries ({ frames := 1, cells := 0, slots := 0, locals := 26 }) (frP (dC, dI) (MOW g0 ad kI kZ sc ia) (MOT kI kZ) sz Bd [.ref g0, .int x, .int y, .int z]) (tQ (dC, dI) (mW g0 ad kI kZ) (va_A (MOW g0 ad kI kZ sc ia) sz) vI (fun r u => same [21] sc u.1 ∧ same [22, 23, 24] ia u.2 ∧ (∃ Kz, K ≤ Kz ∧ Kz ≤ K + 1 ∧ u.1 21 = nI Kz))) 0 0 (va_A (MOW g0 ad kI kZ sc ia) sz) := by
  refine Met.ofW (cc := c_MO_tries) (maxL := 6) (ret := (some .boolean)) (by decide) rfl ?_
  intro p e s m args below meth c s₁ B hml hv
  obtain ⟨rfl, ⟨hsz, hBs⟩, hP, hK, hD0, hV⟩ := hv
  have hx := B.exec
  have hb := B.bytes
  have hr := B.returns
  have ht : ∀ w ∈ tb_, w.before _ s = true := fun w h => atoms_spec (ws := w_MO_tries) B.pre w (List.mem_cons_of_mem _ h)
  have hown : s.vm.findClass R_MO = some m.cls := findClass_of_methodNamed B.named
  have hlocks := B.notSynchronized
  subst hsz
  have hD := hD0.self (sz := s.heap.size)
  have hAB : ∀ q, va_A (MOW g0 ad kI kZ sc ia) s.heap.size q → Bd ≤ q := fr_AB hD0 hBs
  generalize hAe : va_A (MOW g0 ad kI kZ sc ia) s.heap.size = A at hD hAB ⊢
  have hA : ∀ q : Nat, s.heap.size ≤ q → A q := fun q h => by rw [← hAe]; exact Or.inr h
  have hS : va_S A s.heap s.heap [] := va_S.rf
  have hs : same [21] sc sc := same.rf
  have hi : same [22, 23, 24] ia ia := same.rf
  have hP : va_P (dC, dI) cls_ (MOW g0 ad kI kZ sc ia) s.heap := hP
  have hl := lv_entry ([.ref g0, .int x, .int y, .int z]) (n := 6) (Nat.le_of_ble_eq_true rfl)
  rw [lg_entry_eq]
  generalize (lg_sl ([.ref g0, .int x, .int y, .int z]) ++ List.replicate (6 - (lg_sl ([.ref g0, .int x, .int y, .int z])).length) Slot.unset).toArray = ls at hl ⊢
  have hl : lv_has ls 6 [(0, .ref g0), (1, .int x), (2, .int y), (3, .int z)] := hl
  refine lv_iconst (v := 1) hx hb d_MO_tries_0 (by decide) ?_
  refine lv_istore hx hb d_MO_tries_1 hl (by decide) rfl (fun ls hl => ?_)
  have hl : lv_has ls 6 [(4, .int 1), (0, .ref g0), (1, .int x), (2, .int y), (3, .int z)] := hl
  refine lv_iload_n hx hb d_MO_tries_3 rfl (lv_at hl 3 rfl) ?_
  refine lv_istore hx hb d_MO_tries_4 hl (by decide) rfl (fun ls hl => ?_)
  have hl : lv_has ls 6 [(5, .int y), (4, .int 1), (0, .ref g0), (1, .int x), (2, .int y), (3, .int z)] := hl
  have J_6 : ∀ (n_6 : Nat) (ft : Int32) (si : Int32)  (H : Heap) (locs : List Loc) (ls : Array Slot), (z.toInt - si.toInt).toNat < n_6 → lv_has ls 6 [(5, .int si), (4, .int ft), (3, .int z), (2, .int y), (1, .int x), (0, .ref g0)] → va_P (dC, dI) cls_ (MOW g0 ad kI kZ sc ia) H → va_D A (MOW g0 ad kI kZ sc ia) → va_S A s.heap H locs → W p l e (headSpec w_MO_tries ({ frames := 1, cells := 0, slots := 0, locals := 26 })).room s m (([.ref g0, .int x, .int y, .int z] : List Value).toArray) below meth c H locs 0 0 (MQ below (tQ (dC, dI) (mW g0 ad kI kZ) A vI (fun r u => same [21] sc u.1 ∧ same [22, 23, 24] ia u.2 ∧ (∃ Kz, K ≤ Kz ∧ Kz ≤ K + 1 ∧ u.1 21 = nI Kz))) (([.ref g0, .int x, .int y, .int z] : List Value).toArray) s 0 0 A) (F0 m 6 ls []) := by
    intro n_6
    induction n_6 with
    | zero => intro ft si H locs ls hmu hl hP hD hS; exact absurd hmu (by omega)
    | succ n_6 ih_6 =>
      intro ft si H locs ls hmu hl hP hD hS
      refine lv_iload hx hb d_MO_tries_6 (lv_at hl 0 rfl) ?_
      refine lv_iload_n hx hb d_MO_tries_8 rfl (lv_at hl 2 rfl) ?_
      refine lv_icmp_ge (tgt := 40) hx hb d_MO_tries_9 (by decide) (fun h9_1 => ?_) (fun h9_1 => ?_)
      · have h9_1 := h9_1
        have i9_1 := ti_le h9_1
        refine lv_iload hx hb d_MO_tries_40 (lv_at hl 1 rfl) ?_
        refine lv_if_eq (tgt := 52) hx hb d_MO_tries_42 (by decide) (fun h42_2 => ?_) (fun h42_2 => ?_)
        · have h42_2 := h42_2
          have i42_2 := ti_eq h42_2
          (try rw [l_0] at i42_2)
          refine lv_iload hx hb d_MO_tries_52 (lv_at hl 1 rfl) ?_
          have hz0 : (∃ Kz, K ≤ Kz ∧ Kz ≤ K + 1 ∧ sc 21 = nI Kz) := ⟨K, by omega, by omega, hK0⟩
          exact tz_ret (v := ft) hx hb hr (fun t ht9 hW => ⟨⟨ft &&& 1, (sc, ia), rfl, ⟨hs, hi, hz0⟩, by rw [ht9]; exact hP, hD⟩, hS.F ht9⟩) hS.2.2 d_MO_tries_54
        · have h42_2 := h42_2
          have i42_2 := ti_ne h42_2
          (try rw [l_0] at i42_2)
          refine lv_aload_n hx hb d_MO_tries_45 rfl (lv_at hl 5 rfl) ?_
          refine lv_iload_n hx hb d_MO_tries_46 rfl (lv_at hl 4 rfl) ?_
          refine lv_iload_n hx hb d_MO_tries_47 rfl (lv_at hl 3 rfl) ?_
          refine lv_iload_n hx hb d_MO_tries_48 rfl (lv_at hl 2 rfl) ?_
          refine t_call (u0 := (sc, ia)) (va_runV (C := R_MO) (As := [.int x, .int y, .int z]) (rest := []) ⟨hx, hb, hml, hown, ht⟩ (t_MO_take l dC dI g0 ad kI kZ sc ia H.size Bd K hK0 hKb x y z) (cwV 3 ht (gV tb_764 tb_766 ts_27 tb_5 tb_767) rfl rfl rfl (by decide +kernel) ⟨Nat.le_of_ble_eq_true rfl, Nat.le_of_ble_eq_true rfl⟩) ⟨frP_blind, va_recv (q := (R_MO, F_MO, 30)) hK hP rfl (show (MOW g0 ad kI kZ sc ia : va_W)[0]? = some _ from rfl), fr_pre hP hK hD hAB hBs hS hV⟩ rfl rfl hl.1 rfl (lv_room (Nat.le_of_ble_eq_true rfl)) d_MO_tries_49 ⟨Nat.le_of_ble_eq_true rfl, Nat.le_of_ble_eq_true rfl⟩) hD hS hA (fun r1 u H locs hu hP hD hS => ?_)
          obtain ⟨sc2, ia3⟩ := u
          obtain ⟨hu1_0, hu1_1, hu1_2⟩ := hu
          have hu1_0 : same [21] sc sc2 := hu1_0
          have hu1_1 : same [22, 23, 24] ia ia3 := hu1_1
          have hu1_2 : sc2 21 = nI (K + 1) := hu1_2
          have hP : va_P (dC, dI) cls_ (MOW g0 ad kI kZ sc2 ia3) H := hP
          have hD : va_D A (MOW g0 ad kI kZ sc2 ia3) := hD
          have hs : same [21] sc sc2 := hs.tr (hu1_0.wk (by decide))
          have hi : same [22, 23, 24] ia ia3 := hi.tr (hu1_1.wk (by decide))
          refine W.eq (g2 := F0 m 52 ls []) rfl ?_
          refine W.cs (cells' := 0) (slots' := 0) rfl rfl ?_
          refine lv_iload hx hb d_MO_tries_52 (lv_at hl 1 rfl) ?_
          have hz0 : (∃ Kz, K ≤ Kz ∧ Kz ≤ K + 1 ∧ sc2 21 = nI Kz) := ⟨K + 1, by omega, by omega, hu1_2⟩
          exact tz_ret (v := ft) hx hb hr (fun t ht9 hW => ⟨⟨ft &&& 1, (sc2, ia3), rfl, ⟨hs, hi, hz0⟩, by rw [ht9]; exact hP, hD⟩, hS.F ht9⟩) hS.2.2 d_MO_tries_54
      · have h9_1 := h9_1
        have i9_1 := ti_nle h9_1
        refine lv_iload hx hb d_MO_tries_12 (lv_at hl 1 rfl) ?_
        refine lv_if_eq (tgt := 31) hx hb d_MO_tries_14 (by decide) (fun h14_3 => ?_) (fun h14_3 => ?_)
        · have h14_3 := h14_3
          have i14_3 := ti_eq h14_3
          (try rw [l_0] at i14_3)
          refine lv_iconst (v := 0) hx hb d_MO_tries_31 (by decide) ?_
          refine lv_istore hx hb d_MO_tries_32 hl (by decide) rfl (fun ls hl => ?_)
          have hl : lv_has ls 6 [(4, .int 0), (5, .int si), (3, .int z), (2, .int y), (1, .int x), (0, .ref g0)] := hl
          refine lv_iinc (k := 1) (v := si + 1) hx hb d_MO_tries_34 hl rfl (rfl) (by decide) rfl (fun ls hl => ?_)
          have hl : lv_has ls 6 [(5, .int (si + 1)), (4, .int 0), (3, .int z), (2, .int y), (1, .int x), (0, .ref g0)] := hl
          have e37 := ti_add (x := si) (y := 1) (by rw [l_1]; have := ti_lo si; omega) (by rw [l_1]; have := ti_hi z; omega)
          rw [l_1] at e37
          refine lv_goto (tgt := 6) hx hb d_MO_tries_37 (by decide) ?_
          exact ih_6 0 (si + 1) H _ ls (by omega) hl hP hD hS
        · have h14_3 := h14_3
          have i14_3 := ti_ne h14_3
          (try rw [l_0] at i14_3)
          refine lv_aload_n hx hb d_MO_tries_17 rfl (lv_at hl 5 rfl) ?_
          refine lv_iload_n hx hb d_MO_tries_18 rfl (lv_at hl 4 rfl) ?_
          refine lv_iload hx hb d_MO_tries_19 (lv_at hl 0 rfl) ?_
          refine r_call (va_runV (C := R_MO) (As := [.int x, .int si]) (rest := []) ⟨hx, hb, hml, hown, ht⟩ (t_MO_isRoomAt l dC dI g0 ad kI kZ sc ia K hK0 (Nat.le_of_lt hKb) x si) (cwV 2 ht (gV tb_780 tb_782 ts_31 tb_5 tb_783) rfl rfl rfl (by decide +kernel) ⟨Nat.le_of_ble_eq_true rfl, Nat.le_of_ble_eq_true rfl⟩) ⟨rdP_blind, va_recv (q := (R_MO, F_MO, 30)) hK hP rfl (show (MOW g0 ad kI kZ sc ia : va_W)[0]? = some _ from rfl), rd_pre hP hK⟩ rfl rfl hl.1 rfl (lv_room (Nat.le_of_ble_eq_true rfl)) d_MO_tries_21 ⟨Nat.le_of_ble_eq_true rfl, Nat.le_of_ble_eq_true rfl⟩) (fun r4 hu => ?_)
          clear hu
          refine W.eq (g2 := F0 m 24 ls [.int r4]) rfl ?_
          refine lv_if_eq (tgt := 31) hx hb d_MO_tries_24 (by decide) (fun h24_4 => ?_) (fun h24_4 => ?_)
          · have h24_4 := h24_4
            have i24_4 := ti_eq h24_4
            (try rw [l_0] at i24_4)
            refine lv_iconst (v := 0) hx hb d_MO_tries_31 (by decide) ?_
            refine lv_istore hx hb d_MO_tries_32 hl (by decide) rfl (fun ls hl => ?_)
            have hl : lv_has ls 6 [(4, .int 0), (5, .int si), (3, .int z), (2, .int y), (1, .int x), (0, .ref g0)] := hl
            refine lv_iinc (k := 1) (v := si + 1) hx hb d_MO_tries_34 hl rfl (rfl) (by decide) rfl (fun ls hl => ?_)
            have hl : lv_has ls 6 [(5, .int (si + 1)), (4, .int 0), (3, .int z), (2, .int y), (1, .int x), (0, .ref g0)] := hl
            have e37 := ti_add (x := si) (y := 1) (by rw [l_1]; have := ti_lo si; omega) (by rw [l_1]; have := ti_hi z; omega)
            rw [l_1] at e37
            refine lv_goto (tgt := 6) hx hb d_MO_tries_37 (by decide) ?_
            exact ih_6 0 (si + 1) H _ ls (by omega) hl hP hD hS
          · have h24_4 := h24_4
            have i24_4 := ti_ne h24_4
            (try rw [l_0] at i24_4)
            refine lv_iconst (v := 1) hx hb d_MO_tries_27 (by decide) ?_
            refine lv_goto (tgt := 32) hx hb d_MO_tries_28 (by decide) ?_
            refine lv_istore hx hb d_MO_tries_32 hl (by decide) rfl (fun ls hl => ?_)
            have hl : lv_has ls 6 [(4, .int 1), (5, .int si), (3, .int z), (2, .int y), (1, .int x), (0, .ref g0)] := hl
            refine lv_iinc (k := 1) (v := si + 1) hx hb d_MO_tries_34 hl rfl (rfl) (by decide) rfl (fun ls hl => ?_)
            have hl : lv_has ls 6 [(5, .int (si + 1)), (4, .int 1), (3, .int z), (2, .int y), (1, .int x), (0, .ref g0)] := hl
            have e37 := ti_add (x := si) (y := 1) (by rw [l_1]; have := ti_lo si; omega) (by rw [l_1]; have := ti_hi z; omega)
            rw [l_1] at e37
            refine lv_goto (tgt := 6) hx hb d_MO_tries_37 (by decide) ?_
            exact ih_6 1 (si + 1) H _ ls (by omega) hl hP hD hS
  have hl := lv_sub hl [0, 1, 5, 4, 3, 2] (l' := [(5, .int y), (4, .int 1), (3, .int z), (2, .int y), (1, .int x), (0, .ref g0)]) rfl
  exact J_6 (((z.toInt - y.toInt).toNat) + 1) 1 y s.heap _ ls (by omega) hl hP hD hS
set_option maxHeartbeats 8000000 in
set_option maxRecDepth 100000 in
theorem t_MO_planCore (l : Launch) (dC : Nat → ClassId) (dI : Nat → Nat → Nat) (g0 : Nat) (ad : Nat → Nat) (kI kZ : ClassId) (sc : Nat → Int32) (ia : Nat → Nat → Int32) (sz Bd : Nat) (T : Int) (N : Nat) (hI : MI T N sc ia) (K : Nat) (hK0 : sc 21 = nI K) (hKb : K < 60) (j : Nat) (hj : j < N) (hw : ia 11 j = 0) (hQ : QP N sc ia) : Met l y_MO_planCore w_MO_planCore ({ frames := 2, cells := 0, slots := 0, locals := 51 }) (frP (dC, dI) (MOW g0 ad kI kZ sc ia) (MOT kI kZ) sz Bd [.ref g0, .int (nI j)]) (tQ (dC, dI) (mW g0 ad kI kZ) (va_A (MOW g0 ad kI kZ sc ia) sz) vN (fun r u => same [21] sc u.1 ∧ same [22, 23, 24, 25, 26, 27] ia u.2 ∧ (∃ Kz, K ≤ Kz ∧ Kz ≤ K + 1 ∧ u.1 21 = nI Kz) ∧ QP N u.1 u.2)) 0 0 (va_A (MOW g0 ad kI kZ sc ia) sz) := by
  refine Met.ofW (cc := c_MO_planCore) (maxL := 2) (ret := none) (by decide) rfl ?_
  intro p e s m args below meth c s₁ B hml hv
  obtain ⟨rfl, ⟨hsz, hBs⟩, hP, hK, hD0, hV⟩ := hv
  have hx := B.exec
  have hb := B.bytes
  have hr := B.returns
  have ht : ∀ w ∈ tb_, w.before _ s = true := fun w h => atoms_spec (ws := w_MO_planCore) B.pre w (List.mem_cons_of_mem _ h)
  have hown : s.vm.findClass R_MO = some m.cls := findClass_of_methodNamed B.named
  have hlocks := B.notSynchronized
  subst hsz
  have hD := hD0.self (sz := s.heap.size)
  have hAB : ∀ q, va_A (MOW g0 ad kI kZ sc ia) s.heap.size q → Bd ≤ q := fr_AB hD0 hBs
  generalize hAe : va_A (MOW g0 ad kI kZ sc ia) s.heap.size = A at hD hAB ⊢
  have hA : ∀ q : Nat, s.heap.size ≤ q → A q := fun q h => by rw [← hAe]; exact Or.inr h
  have hS : va_S A s.heap s.heap [] := va_S.rf
  have hs : same [21] sc sc := same.rf
  have hi : same [22, 23, 24, 25, 26, 27] ia ia := same.rf
  have hP : va_P (dC, dI) cls_ (MOW g0 ad kI kZ sc ia) s.heap := hP
  have hl := lv_entry ([.ref g0, .int (nI j)]) (n := 2) (Nat.le_of_ble_eq_true rfl)
  rw [lg_entry_eq]
  generalize (lg_sl ([.ref g0, .int (nI j)]) ++ List.replicate (2 - (lg_sl ([.ref g0, .int (nI j)])).length) Slot.unset).toArray = ls at hl ⊢
  have hl : lv_has ls 2 [(0, .ref g0), (1, .int (nI j))] := hl
  have e4 := hI.e4
  have hN := hI.hN
  have hT := hI.T
  refine lv_aload_n hx hb d_MO_planCore_0 rfl (lv_at hl 0 rfl) ?_
  refine va_get (D := (dC, dI)) (ci := 5) (v := .ref (ad 25)) (C := R_MO) (T := F_MO) (N := 30) hx hb ht in_MO hown hK hP 0 rfl rfl 25 (by decide) (ht _ tb_656) (fun _ h9 => h9) rfl d_MO_planCore_1 ?_
  refine lv_iload_n hx hb d_MO_planCore_4 rfl (lv_at hl 1 rfl) ?_
  refine lv_aload_n hx hb d_MO_planCore_5 rfl (lv_at hl 0 rfl) ?_
  refine lv_aload_n hx hb d_MO_planCore_6 rfl (lv_at hl 0 rfl) ?_
  refine va_get (D := (dC, dI)) (ci := 5) (v := .ref (ad 5)) (C := R_MO) (T := F_MO) (N := 30) hx hb ht in_MO hown hK hP 0 rfl rfl 5 (by decide) (ht _ tb_636) (fun _ h9 => h9) rfl d_MO_planCore_7 ?_
  refine lv_iload_n hx hb d_MO_planCore_10 rfl (lv_at hl 1 rfl) ?_
  refine va_iald hx hb hK hP 2 0 rfl rfl (vp_in_nI (show j < 40 by omega) (by decide)) d_MO_planCore_11 ?_
  refine W.eq (g2 := F0 m 12 ls [.int (ia 5 j), .ref g0, .int (nI j), .ref (ad 25)]) (by rw [nI_clamp (show j < 2 ^ 31 by omega)]) ?_
  refine lv_aload_n hx hb d_MO_planCore_12 rfl (lv_at hl 0 rfl) ?_
  refine va_get (D := (dC, dI)) (ci := 5) (v := .ref (ad 6)) (C := R_MO) (T := F_MO) (N := 30) hx hb ht in_MO hown hK hP 0 rfl rfl 6 (by decide) (ht _ tb_637) (fun _ h9 => h9) rfl d_MO_planCore_13 ?_
  refine lv_iload_n hx hb d_MO_planCore_16 rfl (lv_at hl 1 rfl) ?_
  refine va_iald hx hb hK hP 3 0 rfl rfl (vp_in_nI (show j < 40 by omega) (by decide)) d_MO_planCore_17 ?_
  refine W.eq (g2 := F0 m 18 ls [.int (ia 6 j), .int (ia 5 j), .ref g0, .int (nI j), .ref (ad 25)]) (by rw [nI_clamp (show j < 2 ^ 31 by omega)]) ?_
  refine lv_aload_n hx hb d_MO_planCore_18 rfl (lv_at hl 0 rfl) ?_
  refine lv_iload_n hx hb d_MO_planCore_19 rfl (lv_at hl 1 rfl) ?_
  refine r_call (va_runV (C := R_MO) (As := [.int (nI j)]) (rest := [.int (ia 6 j), .int (ia 5 j), .ref g0, .int (nI j), .ref (ad 25)]) ⟨hx, hb, hml, hown, ht⟩ (t_MO_coreEnd l dC dI g0 ad kI kZ sc ia j (show j < 40 by omega)) (cwV 1 ht (gV tb_760 tb_762 ts_26 tb_5 tb_763) rfl rfl rfl (by decide +kernel) ⟨Nat.le_of_ble_eq_true rfl, Nat.le_of_ble_eq_true rfl⟩) ⟨rdP_blind, va_recv (q := (R_MO, F_MO, 30)) hK hP rfl (show (MOW g0 ad kI kZ sc ia : va_W)[0]? = some _ from rfl), rd_pre hP hK⟩ rfl rfl hl.1 rfl (lv_room (Nat.le_of_ble_eq_true rfl)) d_MO_planCore_20 ⟨Nat.le_of_ble_eq_true rfl, Nat.le_of_ble_eq_true rfl⟩) (fun r1 hu => ?_)
  have hu1_0 := hu
  have hu1_0 : r1 = ia 6 j + ia 7 j := hu1_0
  refine W.eq (g2 := F0 m 23 ls [.int r1, .int (ia 6 j), .int (ia 5 j), .ref g0, .int (nI j), .ref (ad 25)]) rfl ?_
  refine t_call (u0 := (sc, ia)) (va_runV (C := R_MO) (As := [.int (ia 5 j), .int (ia 6 j), .int r1]) (rest := [.int (nI j), .ref (ad 25)]) ⟨hx, hb, hml, hown, ht⟩ (t_MO_tries l dC dI g0 ad kI kZ sc ia s.heap.size Bd K hK0 hKb (ia 5 j) (ia 6 j) r1) (cwV 3 ht (gV tb_776 tb_778 ts_30 tb_5 tb_779) rfl rfl rfl (by decide +kernel) ⟨Nat.le_of_ble_eq_true rfl, Nat.le_of_ble_eq_true rfl⟩) ⟨frP_blind, va_recv (q := (R_MO, F_MO, 30)) hK hP rfl (show (MOW g0 ad kI kZ sc ia : va_W)[0]? = some _ from rfl), fr_pre hP hK hD hAB hBs hS hV⟩ rfl rfl hl.1 rfl (lv_room (Nat.le_of_ble_eq_true rfl)) d_MO_planCore_23 ⟨Nat.le_of_ble_eq_true rfl, Nat.le_of_ble_eq_true rfl⟩) hD hS hA (fun r2 u H locs hu hP hD hS => ?_)
  obtain ⟨sc3, ia4⟩ := u
  obtain ⟨hu2_0, hu2_1, hu2_2⟩ := hu
  have hu2_0 : same [21] sc sc3 := hu2_0
  have hu2_1 : same [22, 23, 24] ia ia4 := hu2_1
  have hu2_2 : (∃ Kz, K ≤ Kz ∧ Kz ≤ K + 1 ∧ sc3 21 = nI Kz) := hu2_2
  have hP : va_P (dC, dI) cls_ (MOW g0 ad kI kZ sc3 ia4) H := hP
  have hD : va_D A (MOW g0 ad kI kZ sc3 ia4) := hD
  have hs : same [21] sc sc3 := hs.tr (hu2_0.wk (by decide))
  have hi : same [22, 23, 24, 25, 26, 27] ia ia4 := hi.tr (hu2_1.wk (by decide))
  refine W.eq (g2 := F0 m 26 ls [.int r2, .int (nI j), .ref (ad 25)]) rfl ?_
  refine W.cs (cells' := 0) (slots' := 0) rfl rfl ?_
  refine va_zast hx hb hK hP hD hS 21 1 rfl rfl (vp_in_nI (show j < 40 by omega) (by decide)) d_MO_planCore_26 (fun H locs hP hD hS => ?_)
  rw [nI_clamp (show j < 2 ^ 31 by omega)] at hP hD
  have hP : va_P (dC, dI) cls_ (MOW g0 ad kI kZ sc3 (va_up ia4 25 (upd (ia4 25) j (vp_nar .boolean r2)))) H := hP
  have hD : va_D A (MOW g0 ad kI kZ sc3 (va_up ia4 25 (upd (ia4 25) j (vp_nar .boolean r2)))) := hD
  obtain ⟨ia5, eia5⟩ : ∃ q9_, q9_ = va_up ia4 25 (upd (ia4 25) j (vp_nar .boolean r2)) := ⟨_, rfl⟩
  rw [← eia5] at hP hD
  have hi : same [22, 23, 24, 25, 26, 27] ia ia5 := by rw [eia5]; exact hi.up (by decide)
  refine lv_aload_n hx hb d_MO_planCore_27 rfl (lv_at hl 0 rfl) ?_
  refine va_get (D := (dC, dI)) (ci := 5) (v := .ref (ad 26)) (C := R_MO) (T := F_MO) (N := 30) hx hb ht in_MO hown hK hP 0 rfl rfl 26 (by decide) (ht _ tb_657) (fun _ h9 => h9) rfl d_MO_planCore_28 ?_
  refine lv_iload_n hx hb d_MO_planCore_31 rfl (lv_at hl 1 rfl) ?_
  refine lv_aload_n hx hb d_MO_planCore_32 rfl (lv_at hl 0 rfl) ?_
  refine va_get (D := (dC, dI)) (ci := 5) (v := .ref (ad 6)) (C := R_MO) (T := F_MO) (N := 30) hx hb ht in_MO hown hK hP 0 rfl rfl 6 (by decide) (ht _ tb_637) (fun _ h9 => h9) rfl d_MO_planCore_33 ?_
  refine lv_iload_n hx hb d_MO_planCore_36 rfl (lv_at hl 1 rfl) ?_
  refine va_iald hx hb hK hP 3 0 rfl rfl (vp_in_nI (show j < 40 by omega) (by decide)) d_MO_planCore_37 ?_
  refine W.eq (g2 := F0 m 38 ls [.int (ia 6 j), .int (nI j), .ref (ad 26)]) (by rw [nI_clamp (show j < 2 ^ 31 by omega), hi 6 (by decide)]) ?_
  refine va_iast hx hb hK hP hD hS 22 0 rfl rfl (vp_in_nI (show j < 40 by omega) (by decide)) d_MO_planCore_38 (fun H locs hP hD hS => ?_)
  rw [nI_clamp (show j < 2 ^ 31 by omega)] at hP hD
  have hP : va_P (dC, dI) cls_ (MOW g0 ad kI kZ sc3 (va_up ia5 26 (upd (ia5 26) j (ia 6 j)))) H := hP
  have hD : va_D A (MOW g0 ad kI kZ sc3 (va_up ia5 26 (upd (ia5 26) j (ia 6 j)))) := hD
  obtain ⟨ia6, eia6⟩ : ∃ q9_, q9_ = va_up ia5 26 (upd (ia5 26) j (ia 6 j)) := ⟨_, rfl⟩
  rw [← eia6] at hP hD
  have hi : same [22, 23, 24, 25, 26, 27] ia ia6 := by rw [eia6]; exact hi.up (by decide)
  refine lv_aload_n hx hb d_MO_planCore_39 rfl (lv_at hl 0 rfl) ?_
  refine va_get (D := (dC, dI)) (ci := 5) (v := .ref (ad 27)) (C := R_MO) (T := F_MO) (N := 30) hx hb ht in_MO hown hK hP 0 rfl rfl 27 (by decide) (ht _ tb_658) (fun _ h9 => h9) rfl d_MO_planCore_40 ?_
  refine lv_iload_n hx hb d_MO_planCore_43 rfl (lv_at hl 1 rfl) ?_
  refine lv_aload_n hx hb d_MO_planCore_44 rfl (lv_at hl 0 rfl) ?_
  refine lv_iload_n hx hb d_MO_planCore_45 rfl (lv_at hl 1 rfl) ?_
  refine r_call (va_runV (C := R_MO) (As := [.int (nI j)]) (rest := [.int (nI j), .ref (ad 27)]) ⟨hx, hb, hml, hown, ht⟩ (t_MO_coreEnd l dC dI g0 ad kI kZ sc3 ia6 j (show j < 40 by omega)) (cwV 1 ht (gV tb_760 tb_762 ts_26 tb_5 tb_763) rfl rfl rfl (by decide +kernel) ⟨Nat.le_of_ble_eq_true rfl, Nat.le_of_ble_eq_true rfl⟩) ⟨rdP_blind, va_recv (q := (R_MO, F_MO, 30)) hK hP rfl (show (MOW g0 ad kI kZ sc3 ia6 : va_W)[0]? = some _ from rfl), rd_pre hP hK⟩ rfl rfl hl.1 rfl (lv_room (Nat.le_of_ble_eq_true rfl)) d_MO_planCore_46 ⟨Nat.le_of_ble_eq_true rfl, Nat.le_of_ble_eq_true rfl⟩) (fun r7 hu => ?_)
  have hu7_0 := hu
  have hu7_0 : r7 = ia6 6 j + ia6 7 j := hu7_0
  refine W.eq (g2 := F0 m 49 ls [.int r7, .int (nI j), .ref (ad 27)]) rfl ?_
  rw [hi 6 (by decide)] at hu7_0
  rw [hi 7 (by decide)] at hu7_0
  refine va_iast hx hb hK hP hD hS 23 0 rfl rfl (vp_in_nI (show j < 40 by omega) (by decide)) d_MO_planCore_49 (fun H locs hP hD hS => ?_)
  rw [nI_clamp (show j < 2 ^ 31 by omega)] at hP hD
  have hP : va_P (dC, dI) cls_ (MOW g0 ad kI kZ sc3 (va_up ia6 27 (upd (ia6 27) j r7))) H := hP
  have hD : va_D A (MOW g0 ad kI kZ sc3 (va_up ia6 27 (upd (ia6 27) j r7))) := hD
  obtain ⟨ia8, eia8⟩ : ∃ q9_, q9_ = va_up ia6 27 (upd (ia6 27) j r7) := ⟨_, rfl⟩
  rw [← eia8] at hP hD
  have hi : same [22, 23, 24, 25, 26, 27] ia ia8 := by rw [eia8]; exact hi.up (by decide)
  have f26 : ia8 26 j = ia 6 j := ((show ia8 26 j = ia6 26 j by rw [eia8]; rfl)).trans (show ia6 26 j = ia 6 j by rw [eia6]; show upd (ia5 26) j (ia 6 j) j = _; exact pk_us)
  have f27 : ia8 27 j = r7 := (show ia8 27 j = r7 by rw [eia8]; show upd (ia6 27) j r7 j = _; exact pk_us)
  have hm := hI.at hj
  have hcore := hI.core hj
  obtain ⟨-, m1, m2, -, -, -⟩ := hm
  have hq : qP (sc 1).toInt (ia 6 j) (ia 7 j) (ia 11 j) (ia8 25 j) (ia8 26 j) (ia8 27 j) := by
    rw [f26, f27, hw, hu7_0]
    exact ⟨fun q => absurd q (by decide), fun _ _ => by rw [hcore]; omega⟩
  have hz0 : (∃ Kz, K ≤ Kz ∧ Kz ≤ K + 1 ∧ sc3 21 = nI Kz) := hu2_2
  have hz1 : QP N sc3 ia8 := QP.step (j := j) hQ (fun i h _ => h) (hs 1 (by decide)) (hi 6 (by decide)) (hi 7 (by decide)) (hi 11 (by decide)) (fun i h9 => ((((show ia8 25 i = ia6 25 i by rw [eia8]; rfl)).trans (show ia6 25 i = ia5 25 i by rw [eia6]; rfl)).trans (show ia5 25 i = ia4 25 i by rw [eia5]; show upd (ia4 25) j (vp_nar .boolean r2) i = _; exact pk_un h9)).trans (congrFun (hu2_1 25 (by decide)) i)) (fun i h9 => ((((show ia8 26 i = ia6 26 i by rw [eia8]; rfl)).trans (show ia6 26 i = ia5 26 i by rw [eia6]; show upd (ia5 26) j (ia 6 j) i = _; exact pk_un h9)).trans (show ia5 26 i = ia4 26 i by rw [eia5]; rfl)).trans (congrFun (hu2_1 26 (by decide)) i)) (fun i h9 => ((((show ia8 27 i = ia6 27 i by rw [eia8]; show upd (ia6 27) j r7 i = _; exact pk_un h9)).trans (show ia6 27 i = ia5 27 i by rw [eia6]; rfl)).trans (show ia5 27 i = ia4 27 i by rw [eia5]; rfl)).trans (congrFun (hu2_1 27 (by decide)) i)) (fun _ => hq)
  exact W.vret hx hb hr (fun t ht9 hW => ⟨⟨(), (sc3, ia8), rfl, ⟨hs, hi, hz0, hz1⟩, by rw [ht9]; exact hP, hD⟩, hS.F ht9⟩) hS.2.2 d_MO_planCore_50
