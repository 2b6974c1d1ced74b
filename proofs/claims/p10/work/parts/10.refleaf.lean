abbrev c_MO_init : ByteArray := prog_7_method_1_code
abbrev y_MO_init : MethodName := ⟨"TwinTunersModel", "<init>", "()V"⟩
def w_MO_init : List Cond := .code y_MO_init c_MO_init 1 none :: tb_
abbrev c_MO_refused : ByteArray := prog_7_method_3_code
abbrev y_MO_refused : MethodName := ⟨"TwinTunersModel", "refused", "(I)Z"⟩
def w_MO_refused : List Cond := .code y_MO_refused c_MO_refused 2 (some .boolean) :: tb_
abbrev c_MO_open : ByteArray := prog_7_method_4_code
abbrev y_MO_open : MethodName := ⟨"TwinTunersModel", "open", "()I"⟩
def w_MO_open : List Cond := .code y_MO_open c_MO_open 3 (some .int) :: tb_
abbrev c_MO_isRequest : ByteArray := prog_7_method_6_code
abbrev y_MO_isRequest : MethodName := ⟨"TwinTunersModel", "isRequest", "(I)Z"⟩
def w_MO_isRequest : List Cond := .code y_MO_isRequest c_MO_isRequest 2 (some .boolean) :: tb_
abbrev c_MO_coreEnd : ByteArray := prog_7_method_7_code
abbrev y_MO_coreEnd : MethodName := ⟨"TwinTunersModel", "coreEnd", "(I)I"⟩
def w_MO_coreEnd : List Cond := .code y_MO_coreEnd c_MO_coreEnd 2 (some .int) :: tb_
abbrev c_MO_take : ByteArray := prog_7_method_9_code
abbrev y_MO_take : MethodName := ⟨"TwinTunersModel", "take", "(III)V"⟩
def w_MO_take : List Cond := .code y_MO_take c_MO_take 4 none :: tb_
set_option maxRecDepth 100000 in
theorem tb_629 : (.code ⟨"TwinTunersModel", "<init>", "()V"⟩ prog_7_method_1_code 1 none : Cond) ∈ tb_ := tb_w 629 rfl rfl
set_option maxRecDepth 100000 in
theorem tb_631 : (.fieldLink "TwinTunersModel" 87 "TwinTunersModel" "fault" "I" : Cond) ∈ tb_ := tb_w 631 rfl rfl
set_option maxRecDepth 100000 in
theorem tb_635 : (.fieldLink "TwinTunersModel" 90 "TwinTunersModel" "requests" "I" : Cond) ∈ tb_ := tb_w 635 rfl rfl
set_option maxRecDepth 100000 in
theorem tb_637 : (.fieldLink "TwinTunersModel" 20 "TwinTunersModel" "starts" "[I" : Cond) ∈ tb_ := tb_w 637 rfl rfl
set_option maxRecDepth 100000 in
theorem tb_638 : (.fieldLink "TwinTunersModel" 23 "TwinTunersModel" "lengths" "[I" : Cond) ∈ tb_ := tb_w 638 rfl rfl
set_option maxRecDepth 100000 in
theorem tb_642 : (.fieldLink "TwinTunersModel" 35 "TwinTunersModel" "states" "[I" : Cond) ∈ tb_ := tb_w 642 rfl rfl
set_option maxRecDepth 100000 in
theorem tb_652 : (.fieldLink "TwinTunersModel" 109 "TwinTunersModel" "spans" "I" : Cond) ∈ tb_ := tb_w 652 rfl rfl
set_option maxRecDepth 100000 in
theorem tb_653 : (.fieldLink "TwinTunersModel" 66 "TwinTunersModel" "spanChannel" "[I" : Cond) ∈ tb_ := tb_w 653 rfl rfl
set_option maxRecDepth 100000 in
theorem tb_654 : (.fieldLink "TwinTunersModel" 69 "TwinTunersModel" "spanFrom" "[I" : Cond) ∈ tb_ := tb_w 654 rfl rfl
set_option maxRecDepth 100000 in
theorem tb_655 : (.fieldLink "TwinTunersModel" 72 "TwinTunersModel" "spanTo" "[I" : Cond) ∈ tb_ := tb_w 655 rfl rfl
set_option maxRecDepth 100000 in
theorem tb_731 : (.code ⟨"TwinTunersModel", "open", "()I"⟩ prog_7_method_4_code 3 (some .int) : Cond) ∈ tb_ := tb_w 731 rfl rfl
set_option maxRecDepth 100000 in
theorem tb_735 : (.code ⟨"TwinTunersModel", "refused", "(I)Z"⟩ prog_7_method_3_code 2 (some .boolean) : Cond) ∈ tb_ := tb_w 735 rfl rfl
set_option maxRecDepth 100000 in
theorem tb_743 : (.code ⟨"TwinTunersModel", "isRequest", "(I)Z"⟩ prog_7_method_6_code 2 (some .boolean) : Cond) ∈ tb_ := tb_w 743 rfl rfl
set_option maxRecDepth 100000 in
theorem tb_759 : (.code ⟨"TwinTunersModel", "coreEnd", "(I)I"⟩ prog_7_method_7_code 2 (some .int) : Cond) ∈ tb_ := tb_w 759 rfl rfl
set_option maxRecDepth 100000 in
theorem tb_763 : (.code ⟨"TwinTunersModel", "take", "(III)V"⟩ prog_7_method_9_code 4 none : Cond) ∈ tb_ := tb_w 763 rfl rfl
theorem d_MO_coreEnd_0 : decode c_MO_coreEnd 0 = .ok (.aload_n 0, 1) := by decide +kernel
theorem d_MO_coreEnd_1 : decode c_MO_coreEnd 1 = .ok (.getfield 20, 3) := by decide +kernel
theorem d_MO_coreEnd_4 : decode c_MO_coreEnd 4 = .ok (.iload_n 1, 1) := by decide +kernel
theorem d_MO_coreEnd_5 : decode c_MO_coreEnd 5 = .ok (.iaload, 1) := by decide +kernel
theorem d_MO_coreEnd_6 : decode c_MO_coreEnd 6 = .ok (.aload_n 0, 1) := by decide +kernel
theorem d_MO_coreEnd_7 : decode c_MO_coreEnd 7 = .ok (.getfield 23, 3) := by decide +kernel
theorem d_MO_coreEnd_10 : decode c_MO_coreEnd 10 = .ok (.iload_n 1, 1) := by decide +kernel
theorem d_MO_coreEnd_11 : decode c_MO_coreEnd 11 = .ok (.iaload, 1) := by decide +kernel
theorem d_MO_coreEnd_12 : decode c_MO_coreEnd 12 = .ok (.iadd, 1) := by decide +kernel
theorem d_MO_coreEnd_13 : decode c_MO_coreEnd 13 = .ok (.ireturn, 1) := by decide +kernel
theorem d_MO_isRequest_0 : decode c_MO_isRequest 0 = .ok (.iload_n 1, 1) := by decide +kernel
theorem d_MO_isRequest_1 : decode c_MO_isRequest 1 = .ok (.ifCond .lt 15, 3) := by decide +kernel
theorem d_MO_isRequest_4 : decode c_MO_isRequest 4 = .ok (.iload_n 1, 1) := by decide +kernel
theorem d_MO_isRequest_5 : decode c_MO_isRequest 5 = .ok (.aload_n 0, 1) := by decide +kernel
theorem d_MO_isRequest_6 : decode c_MO_isRequest 6 = .ok (.getfield 90, 3) := by decide +kernel
theorem d_MO_isRequest_9 : decode c_MO_isRequest 9 = .ok (.if_icmp .ge 7, 3) := by decide +kernel
theorem d_MO_isRequest_12 : decode c_MO_isRequest 12 = .ok (.iconst 1, 1) := by decide +kernel
theorem d_MO_isRequest_13 : decode c_MO_isRequest 13 = .ok (.goto 4, 3) := by decide +kernel
theorem d_MO_isRequest_16 : decode c_MO_isRequest 16 = .ok (.iconst 0, 1) := by decide +kernel
theorem d_MO_isRequest_17 : decode c_MO_isRequest 17 = .ok (.ireturn, 1) := by decide +kernel
theorem d_MO_open_0 : decode c_MO_open 0 = .ok (.iconst 0, 1) := by decide +kernel
theorem d_MO_open_1 : decode c_MO_open 1 = .ok (.istore_n 1, 1) := by decide +kernel
theorem d_MO_open_2 : decode c_MO_open 2 = .ok (.iconst 0, 1) := by decide +kernel
theorem d_MO_open_3 : decode c_MO_open 3 = .ok (.istore_n 2, 1) := by decide +kernel
theorem d_MO_open_4 : decode c_MO_open 4 = .ok (.iload_n 2, 1) := by decide +kernel
theorem d_MO_open_5 : decode c_MO_open 5 = .ok (.aload_n 0, 1) := by decide +kernel
theorem d_MO_open_6 : decode c_MO_open 6 = .ok (.getfield 90, 3) := by decide +kernel
theorem d_MO_open_9 : decode c_MO_open 9 = .ok (.if_icmp .ge 36, 3) := by decide +kernel
theorem d_MO_open_12 : decode c_MO_open 12 = .ok (.aload_n 0, 1) := by decide +kernel
theorem d_MO_open_13 : decode c_MO_open 13 = .ok (.getfield 35, 3) := by decide +kernel
theorem d_MO_open_16 : decode c_MO_open 16 = .ok (.iload_n 2, 1) := by decide +kernel
theorem d_MO_open_17 : decode c_MO_open 17 = .ok (.iaload, 1) := by decide +kernel
theorem d_MO_open_18 : decode c_MO_open 18 = .ok (.ifCond .eq 13, 3) := by decide +kernel
theorem d_MO_open_21 : decode c_MO_open 21 = .ok (.aload_n 0, 1) := by decide +kernel
theorem d_MO_open_22 : decode c_MO_open 22 = .ok (.getfield 35, 3) := by decide +kernel
theorem d_MO_open_25 : decode c_MO_open 25 = .ok (.iload_n 2, 1) := by decide +kernel
theorem d_MO_open_26 : decode c_MO_open 26 = .ok (.iaload, 1) := by decide +kernel
theorem d_MO_open_27 : decode c_MO_open 27 = .ok (.iconst 1, 1) := by decide +kernel
theorem d_MO_open_28 : decode c_MO_open 28 = .ok (.if_icmp .ne 9, 3) := by decide +kernel
theorem d_MO_open_31 : decode c_MO_open 31 = .ok (.iload_n 1, 1) := by decide +kernel
theorem d_MO_open_32 : decode c_MO_open 32 = .ok (.iconst 1, 1) := by decide +kernel
theorem d_MO_open_33 : decode c_MO_open 33 = .ok (.iadd, 1) := by decide +kernel
theorem d_MO_open_34 : decode c_MO_open 34 = .ok (.goto 4, 3) := by decide +kernel
theorem d_MO_open_37 : decode c_MO_open 37 = .ok (.iload_n 1, 1) := by decide +kernel
theorem d_MO_open_38 : decode c_MO_open 38 = .ok (.istore_n 1, 1) := by decide +kernel
theorem d_MO_open_39 : decode c_MO_open 39 = .ok (.iinc 2 1, 3) := by decide +kernel
theorem d_MO_open_42 : decode c_MO_open 42 = .ok (.goto (-38), 3) := by decide +kernel
theorem d_MO_open_45 : decode c_MO_open 45 = .ok (.iload_n 1, 1) := by decide +kernel
theorem d_MO_open_46 : decode c_MO_open 46 = .ok (.ireturn, 1) := by decide +kernel
theorem d_MO_refused_0 : decode c_MO_refused 0 = .ok (.aload_n 0, 1) := by decide +kernel
theorem d_MO_refused_1 : decode c_MO_refused 1 = .ok (.iload_n 1, 1) := by decide +kernel
theorem d_MO_refused_2 : decode c_MO_refused 2 = .ok (.putfield 87, 3) := by decide +kernel
theorem d_MO_refused_5 : decode c_MO_refused 5 = .ok (.iload_n 1, 1) := by decide +kernel
theorem d_MO_refused_6 : decode c_MO_refused 6 = .ok (.ifCond .le 7, 3) := by decide +kernel
theorem d_MO_refused_9 : decode c_MO_refused 9 = .ok (.iconst 1, 1) := by decide +kernel
theorem d_MO_refused_10 : decode c_MO_refused 10 = .ok (.goto 4, 3) := by decide +kernel
theorem d_MO_refused_13 : decode c_MO_refused 13 = .ok (.iconst 0, 1) := by decide +kernel
theorem d_MO_refused_14 : decode c_MO_refused 14 = .ok (.ireturn, 1) := by decide +kernel
theorem d_MO_take_0 : decode c_MO_take 0 = .ok (.aload_n 0, 1) := by decide +kernel
theorem d_MO_take_1 : decode c_MO_take 1 = .ok (.getfield 66, 3) := by decide +kernel
theorem d_MO_take_4 : decode c_MO_take 4 = .ok (.aload_n 0, 1) := by decide +kernel
theorem d_MO_take_5 : decode c_MO_take 5 = .ok (.getfield 109, 3) := by decide +kernel
theorem d_MO_take_8 : decode c_MO_take 8 = .ok (.iload_n 1, 1) := by decide +kernel
theorem d_MO_take_9 : decode c_MO_take 9 = .ok (.iastore, 1) := by decide +kernel
theorem d_MO_take_10 : decode c_MO_take 10 = .ok (.aload_n 0, 1) := by decide +kernel
theorem d_MO_take_11 : decode c_MO_take 11 = .ok (.getfield 69, 3) := by decide +kernel
theorem d_MO_take_14 : decode c_MO_take 14 = .ok (.aload_n 0, 1) := by decide +kernel
theorem d_MO_take_15 : decode c_MO_take 15 = .ok (.getfield 109, 3) := by decide +kernel
theorem d_MO_take_18 : decode c_MO_take 18 = .ok (.iload_n 2, 1) := by decide +kernel
theorem d_MO_take_19 : decode c_MO_take 19 = .ok (.iastore, 1) := by decide +kernel
theorem d_MO_take_20 : decode c_MO_take 20 = .ok (.aload_n 0, 1) := by decide +kernel
theorem d_MO_take_21 : decode c_MO_take 21 = .ok (.getfield 72, 3) := by decide +kernel
theorem d_MO_take_24 : decode c_MO_take 24 = .ok (.aload_n 0, 1) := by decide +kernel
theorem d_MO_take_25 : decode c_MO_take 25 = .ok (.getfield 109, 3) := by decide +kernel
theorem d_MO_take_28 : decode c_MO_take 28 = .ok (.iload_n 3, 1) := by decide +kernel
theorem d_MO_take_29 : decode c_MO_take 29 = .ok (.iastore, 1) := by decide +kernel
theorem d_MO_take_30 : decode c_MO_take 30 = .ok (.aload_n 0, 1) := by decide +kernel
theorem d_MO_take_31 : decode c_MO_take 31 = .ok (.dup, 1) := by decide +kernel
theorem d_MO_take_32 : decode c_MO_take 32 = .ok (.getfield 109, 3) := by decide +kernel
theorem d_MO_take_35 : decode c_MO_take 35 = .ok (.iconst 1, 1) := by decide +kernel
theorem d_MO_take_36 : decode c_MO_take 36 = .ok (.iadd, 1) := by decide +kernel
theorem d_MO_take_37 : decode c_MO_take 37 = .ok (.putfield 109, 3) := by decide +kernel
theorem d_MO_take_40 : decode c_MO_take 40 = .ok (.return_, 1) := by decide +kernel
section Tz
variable {p : Program} {l : Launch} {e : Env} {R : Room} {s : State} {m : MethodId} {args : Array Value} {below : List Frame} {meth : Method} {c : Code} {H : Heap} {locs : List Loc} {cells slots : Nat}
theorem tz_ret {cc : ByteArray} {Qc : Array Value → State → Outcome → State → Prop} {free : Addr → Prop} {v : Int32} (hexec : p.tables.exec = Jvm.exec) (hb : c.code = cc) (hr : meth.sig.returnType = some .boolean)
    (hq : ∀ t : State, t.heap = H → s.WarmedH t.vm → Qc args s (.returned (some (.int (v &&& 1)))) t) (hf : ∀ q ∈ locs, free q.base)
    {pc : Nat} {ls : Array Slot} (hdg : decode cc pc = .ok (.ireturn, 1)) (hlocks : meth.locks = false := by assumption) : W p l e R s m args below meth c H locs cells slots (MQ below Qc args s cells slots free) (F0 m pc ls [.int v]) := by
  intro T hT X
  have hlocks : meth.locks = false := hlocks
  obtain ⟨fs, hret, hrun, hended, hW, hframe⟩ := X.leave (v := some (.int (v &&& 1))) (fun h => by rw [hr] at h; cases h)
  have hmeth' : T.vm.method? m = some meth := X.method'
  have hn : narrow .boolean (.int v) = .int (v &&& 1) := rfl
  refine ⟨T.setFrames fs, ?_, .returned (some (.int (v &&& 1))), hrun, hended, hq _ hT hW, locs, ⟨⟨_, rfl⟩, hW, hframe⟩, hf⟩
  jvm_step X.here [X.here.top, hexec, hb, hdg, hmeth', hr, hn]
  (try refine ⟨rfl, ?_⟩); (try refine ⟨rfl, ?_⟩)
  first | (intro acts; rw [hret _ acts rfl rfl rfl]) | rw [hret _ _ rfl rfl rfl]
  exact Steps.refl _
end Tz
set_option maxHeartbeats 8000000 in
set_option maxRecDepth 100000 in
theorem t_MO_refused (l : Launch) (dC : Nat → ClassId) (dI : Nat → Nat → Nat) (g0 : Nat) (ad : Nat → Nat) (kI kZ : ClassId) (sc : Nat → Int32) (ia : Nat → Nat → Int32) (sz Bd : Nat) (x : Int32) : Met l y_MO_refused w_MO_refused ({ frames := 0, cells := 0, slots := 0, locals := 0 }) (frP (dC, dI) (MOW g0 ad kI kZ sc ia) (MOT kI kZ) sz Bd [.ref g0, .int x]) (tQ (dC, dI) (mW g0 ad kI kZ) (va_A (MOW g0 ad kI kZ sc ia) sz) vI (fun r u => same [0] sc u.1 ∧ same [] ia u.2 ∧ u.1 0 = x ∧ ((0 : Int32) < x ∧ r = 1 ∨ ¬ (0 : Int32) < x ∧ r = 0))) 0 0 (va_A (MOW g0 ad kI kZ sc ia) sz) := by
  refine Met.ofW (cc := c_MO_refused) (maxL := 2) (ret := (some .boolean)) (by decide) rfl ?_
  intro p e s m args below meth c s₁ B hml hv
  obtain ⟨rfl, ⟨hsz, hBs⟩, hP, hK, hD0, hV⟩ := hv
  have hx := B.exec
  have hb := B.bytes
  have hr := B.returns
  have ht : ∀ w ∈ tb_, w.before _ s = true := fun w h => atoms_spec (ws := w_MO_refused) B.pre w (List.mem_cons_of_mem _ h)
  have hown : s.vm.findClass R_MO = some m.cls := findClass_of_methodNamed B.named
  have hlocks := B.notSynchronized
  subst hsz
  have hD := hD0.self (sz := s.heap.size)
  have hAB : ∀ q, va_A (MOW g0 ad kI kZ sc ia) s.heap.size q → Bd ≤ q := fr_AB hD0 hBs
  generalize hAe : va_A (MOW g0 ad kI kZ sc ia) s.heap.size = A at hD hAB ⊢
  have hA : ∀ q : Nat, s.heap.size ≤ q → A q := fun q h => by rw [← hAe]; exact Or.inr h
  have hS : va_S A s.heap s.heap [] := va_S.rf
  have hs : same [0] sc sc := same.rf
  have hi : same [] ia ia := same.rf
  have hP : va_P (dC, dI) cls_ (MOW g0 ad kI kZ sc ia) s.heap := hP
  have hl := lv_entry ([.ref g0, .int x]) (n := 2) (Nat.le_of_ble_eq_true rfl)
  rw [lg_entry_eq]
  generalize (lg_sl ([.ref g0, .int x]) ++ List.replicate (2 - (lg_sl ([.ref g0, .int x])).length) Slot.unset).toArray = ls at hl ⊢
  have hl : lv_has ls 2 [(0, .ref g0), (1, .int x)] := hl
  refine lv_aload_n hx hb d_MO_refused_0 rfl (lv_at hl 0 rfl) ?_
  refine lv_iload_n hx hb d_MO_refused_1 rfl (lv_at hl 1 rfl) ?_
  refine va_put (D := (dC, dI)) (ci := 5) (v := .int x) (ty := .int) (C := R_MO) (T := F_MO) (N := 30) hx hb ht in_MO t_MO t_MO_ok n_MO hown hK hP hD hS 0 rfl rfl 0 (by decide) (ht _ tb_631) (fun _ h9 => h9) rfl (by decide +kernel) rfl rfl (Nat.le_of_ble_eq_true rfl) d_MO_refused_2 (fun H locs hP hD hS => ?_)
  have hP : va_P (dC, dI) cls_ (MOW g0 ad kI kZ (va_up sc 0 x) ia) H := hP
  have hD : va_D A (MOW g0 ad kI kZ (va_up sc 0 x) ia) := hD
  obtain ⟨sc1, esc1⟩ : ∃ q9_, q9_ = va_up sc 0 x := ⟨_, rfl⟩
  rw [← esc1] at hP hD
  have hs : same [0] sc sc1 := by rw [esc1]; exact hs.up (by decide)
  refine lv_iload_n hx hb d_MO_refused_5 rfl (lv_at hl 1 rfl) ?_
  refine lv_if_le (tgt := 13) hx hb d_MO_refused_6 (by decide) (fun h6_1 => ?_) (fun h6_1 => ?_)
  · have h6_1 := h6_1
    have i6_1 := ti_le h6_1
    (try rw [l_0] at i6_1)
    refine lv_iconst (v := 0) hx hb d_MO_refused_13 (by decide) ?_
    have hz0 : sc1 0 = x := by rw [esc1]; rfl
    have hz1 : ((0 : Int32) < x ∧ (0 : Int32) = 1 ∨ ¬ (0 : Int32) < x ∧ (0 : Int32) = 0) := Or.inr ⟨Int32.not_lt.mpr h6_1, rfl⟩
    exact W.zret (v := 0) hx hb hr rfl (fun t ht9 hW => ⟨⟨0, (sc1, ia), rfl, ⟨hs, hi, hz0, hz1⟩, by rw [ht9]; exact hP, hD⟩, hS.F ht9⟩) hS.2.2 d_MO_refused_14
  · have h6_1 := h6_1
    have i6_1 := ti_nle h6_1
    (try rw [l_0] at i6_1)
    refine lv_iconst (v := 1) hx hb d_MO_refused_9 (by decide) ?_
    refine lv_goto (tgt := 14) hx hb d_MO_refused_10 (by decide) ?_
    have hz0 : sc1 0 = x := by rw [esc1]; rfl
    have hz1 : ((0 : Int32) < x ∧ (1 : Int32) = 1 ∨ ¬ (0 : Int32) < x ∧ (1 : Int32) = 0) := Or.inl ⟨Int32.not_le.mp h6_1, rfl⟩
    exact W.zret (v := 1) hx hb hr rfl (fun t ht9 hW => ⟨⟨1, (sc1, ia), rfl, ⟨hs, hi, hz0, hz1⟩, by rw [ht9]; exact hP, hD⟩, hS.F ht9⟩) hS.2.2 d_MO_refused_14
set_option maxHeartbeats 8000000 in
set_option maxRecDepth 100000 in
theorem t_MO_open (l : Launch) (dC : Nat → ClassId) (dI : Nat → Nat → Nat) (g0 : Nat) (ad : Nat → Nat) (kI kZ : ClassId) (sc : Nat → Int32) (ia : Nat → Nat → Int32) (N : Nat) (e4 : sc 4 = nI N) (hN : N ≤ 40) : Met l y_MO_open w_MO_open ({ frames := 0, cells := 0, slots := 0, locals := 0 }) (rdP (dC, dI) (MOW g0 ad kI kZ sc ia) (MOT kI kZ) [.ref g0]) (rQ vI (fun r => r = nI (oc (ia 11) N))) 0 0 (fun _ => False) := by
  refine Met.ofW (cc := c_MO_open) (maxL := 3) (ret := (some .int)) (by decide) rfl ?_
  intro p e s m args below meth c s₁ B hml hv
  obtain ⟨rfl, hP, hK⟩ := hv
  have hx := B.exec
  have hb := B.bytes
  have hr := B.returns
  have ht : ∀ w ∈ tb_, w.before _ s = true := fun w h => atoms_spec (ws := w_MO_open) B.pre w (List.mem_cons_of_mem _ h)
  have hown : s.vm.findClass R_MO = some m.cls := findClass_of_methodNamed B.named
  have hlocks := B.notSynchronized
  have hP : va_P (dC, dI) cls_ (MOW g0 ad kI kZ sc ia) s.heap := hP
  have hl := lv_entry ([.ref g0]) (n := 3) (Nat.le_of_ble_eq_true rfl)
  rw [lg_entry_eq]
  generalize (lg_sl ([.ref g0]) ++ List.replicate (3 - (lg_sl ([.ref g0])).length) Slot.unset).toArray = ls at hl ⊢
  have hl : lv_has ls 3 [(0, .ref g0)] := hl
  refine lv_iconst (v := 0) hx hb d_MO_open_0 (by decide) ?_
  refine lv_istore_n hx hb d_MO_open_1 rfl hl (by decide) rfl (fun ls hl => ?_)
  have hl : lv_has ls 3 [(1, .int 0), (0, .ref g0)] := hl
  refine lv_iconst (v := 0) hx hb d_MO_open_2 (by decide) ?_
  refine lv_istore_n hx hb d_MO_open_3 rfl hl (by decide) rfl (fun ls hl => ?_)
  have hl : lv_has ls 3 [(2, .int 0), (1, .int 0), (0, .ref g0)] := hl
  have J_4 : ∀ (n_4 : Nat) (k : Nat)  (ls : Array Slot), N - k < n_4 → k ≤ N → lv_has ls 3 [(2, .int (nI k)), (1, .int (nI (oc (ia 11) k))), (0, .ref g0)] → W p l e (headSpec w_MO_open ({ frames := 0, cells := 0, slots := 0, locals := 0 })).room s m (([.ref g0] : List Value).toArray) below meth c s.heap [] 0 0 (MQ below (rQ vI (fun r => r = nI (oc (ia 11) N))) (([.ref g0] : List Value).toArray) s 0 0 (fun _ => False)) (F0 m 4 ls []) := by
    intro n_4
    induction n_4 with
    | zero => intro k ls hmu hc4_0 hl; exact absurd hmu (by omega)
    | succ n_4 ih_4 =>
      intro k ls hmu hc4_0 hl
      refine lv_iload_n hx hb d_MO_open_4 rfl (lv_at hl 0 rfl) ?_
      refine lv_aload_n hx hb d_MO_open_5 rfl (lv_at hl 2 rfl) ?_
      refine va_get (D := (dC, dI)) (ci := 5) (v := .int (sc 4)) (C := R_MO) (T := F_MO) (N := 30) hx hb ht in_MO hown hK hP 0 rfl rfl 4 (by decide) (ht _ tb_635) (fun _ h9 => h9) rfl d_MO_open_6 ?_
      refine W.eq (g2 := F0 m 9 ls [.int (nI N), .int (nI k)]) (by rw [show sc 4 = nI N from e4]) ?_
      refine lv_icmp_ge (tgt := 45) hx hb d_MO_open_9 (by decide) (fun h9_1 => ?_) (fun h9_1 => ?_)
      · have h9_1 := h9_1
        have i9_1 := ti_le h9_1
        (try rw [nI_toInt (show k < 2 ^ 31 by omega)] at i9_1)
        (try rw [nI_toInt (show N < 2 ^ 31 by omega)] at i9_1)
        refine lv_iload_n hx hb d_MO_open_45 rfl (lv_at hl 1 rfl) ?_
        have hz0 : ((nI (oc (ia 11) k) : Int32)) = nI (oc (ia 11) N) := by rw [show k = N by omega]
        exact W.iret (v := nI (oc (ia 11) k)) hx hb hr (fun t ht9 hW => ⟨nI (oc (ia 11) k), rfl, hz0, ht9⟩) (fun q h => by cases h) d_MO_open_46
      · have h9_1 := h9_1
        have i9_1 := ti_nle h9_1
        (try rw [nI_toInt (show k < 2 ^ 31 by omega)] at i9_1)
        (try rw [nI_toInt (show N < 2 ^ 31 by omega)] at i9_1)
        refine lv_aload_n hx hb d_MO_open_12 rfl (lv_at hl 2 rfl) ?_
        refine va_get (D := (dC, dI)) (ci := 5) (v := .ref (ad 11)) (C := R_MO) (T := F_MO) (N := 30) hx hb ht in_MO hown hK hP 0 rfl rfl 11 (by decide) (ht _ tb_642) (fun _ h9 => h9) rfl d_MO_open_13 ?_
        refine lv_iload_n hx hb d_MO_open_16 rfl (lv_at hl 0 rfl) ?_
        refine va_iald hx hb hK hP 8 0 rfl rfl (vp_in_nI (show k < 40 by omega) (by decide)) d_MO_open_17 ?_
        refine W.eq (g2 := F0 m 18 ls [.int (ia 11 k)]) (by rw [nI_clamp (show k < 2 ^ 31 by omega)]) ?_
        refine lv_if_eq (tgt := 31) hx hb d_MO_open_18 (by decide) (fun h18_2 => ?_) (fun h18_2 => ?_)
        · have h18_2 := h18_2
          have i18_2 := ti_eq h18_2
          (try rw [l_0] at i18_2)
          refine lv_iload_n hx hb d_MO_open_31 rfl (lv_at hl 1 rfl) ?_
          refine lv_iconst (v := 1) hx hb d_MO_open_32 (by decide) ?_
          refine lv_iadd hx hb d_MO_open_33 ?_
          refine lv_goto (tgt := 38) hx hb d_MO_open_34 (by decide) ?_
          refine lv_topi (fun v1 ev1 => ?_)
          obtain rfl : v1 = nI (oc (ia 11) (k + 1)) := ev1.trans (by show nI (oc (ia 11) k) + 1 = nI (oc (ia 11) k + (if ia 11 k = 0 ∨ ia 11 k = 1 then 1 else 0)); rw [if_pos (Or.inl h18_2), nI_1])
          refine lv_istore_n hx hb d_MO_open_38 rfl hl (by decide) rfl (fun ls hl => ?_)
          have hl : lv_has ls 3 [(1, .int (nI (oc (ia 11) (k + 1)))), (2, .int (nI k)), (0, .ref g0)] := hl
          refine lv_iinc (k := 1) (v := nI (k + 1)) hx hb d_MO_open_39 hl rfl ((nI_succ k).symm) (by decide) rfl (fun ls hl => ?_)
          have hl : lv_has ls 3 [(2, .int (nI (k + 1))), (1, .int (nI (oc (ia 11) (k + 1)))), (0, .ref g0)] := hl
          refine lv_goto (tgt := 4) hx hb d_MO_open_42 (by decide) ?_
          exact ih_4 (k + 1) ls (by omega) (by omega) hl
        · have h18_2 := h18_2
          have i18_2 := ti_ne h18_2
          (try rw [l_0] at i18_2)
          refine lv_aload_n hx hb d_MO_open_21 rfl (lv_at hl 2 rfl) ?_
          refine va_get (D := (dC, dI)) (ci := 5) (v := .ref (ad 11)) (C := R_MO) (T := F_MO) (N := 30) hx hb ht in_MO hown hK hP 0 rfl rfl 11 (by decide) (ht _ tb_642) (fun _ h9 => h9) rfl d_MO_open_22 ?_
          refine lv_iload_n hx hb d_MO_open_25 rfl (lv_at hl 0 rfl) ?_
          refine va_iald hx hb hK hP 8 0 rfl rfl (vp_in_nI (show k < 40 by omega) (by decide)) d_MO_open_26 ?_
          refine W.eq (g2 := F0 m 27 ls [.int (ia 11 k)]) (by rw [nI_clamp (show k < 2 ^ 31 by omega)]) ?_
          refine lv_iconst (v := 1) hx hb d_MO_open_27 (by decide) ?_
          refine lv_icmp_ne (tgt := 37) hx hb d_MO_open_28 (by decide) (fun h28_3 => ?_) (fun h28_3 => ?_)
          · have h28_3 := h28_3
            have i28_3 := ti_ne h28_3
            (try rw [l_1] at i28_3)
            refine lv_iload_n hx hb d_MO_open_37 rfl (lv_at hl 1 rfl) ?_
            refine lv_topi (fun v2 ev2 => ?_)
            obtain rfl : v2 = nI (oc (ia 11) (k + 1)) := ev2.trans (by show nI (oc (ia 11) k) = nI (oc (ia 11) k + (if ia 11 k = 0 ∨ ia 11 k = 1 then 1 else 0)); rw [if_neg (fun q => q.elim h18_2 h28_3), Nat.add_zero])
            refine lv_istore_n hx hb d_MO_open_38 rfl hl (by decide) rfl (fun ls hl => ?_)
            have hl : lv_has ls 3 [(1, .int (nI (oc (ia 11) (k + 1)))), (2, .int (nI k)), (0, .ref g0)] := hl
            refine lv_iinc (k := 1) (v := nI (k + 1)) hx hb d_MO_open_39 hl rfl ((nI_succ k).symm) (by decide) rfl (fun ls hl => ?_)
            have hl : lv_has ls 3 [(2, .int (nI (k + 1))), (1, .int (nI (oc (ia 11) (k + 1)))), (0, .ref g0)] := hl
            refine lv_goto (tgt := 4) hx hb d_MO_open_42 (by decide) ?_
            exact ih_4 (k + 1) ls (by omega) (by omega) hl
          · have h28_3 := h28_3
            have i28_3 := ti_eq h28_3
            (try rw [l_1] at i28_3)
            refine lv_iload_n hx hb d_MO_open_31 rfl (lv_at hl 1 rfl) ?_
            refine lv_iconst (v := 1) hx hb d_MO_open_32 (by decide) ?_
            refine lv_iadd hx hb d_MO_open_33 ?_
            refine lv_goto (tgt := 38) hx hb d_MO_open_34 (by decide) ?_
            refine lv_topi (fun v3 ev3 => ?_)
            obtain rfl : v3 = nI (oc (ia 11) (k + 1)) := ev3.trans (by show nI (oc (ia 11) k) + 1 = nI (oc (ia 11) k + (if ia 11 k = 0 ∨ ia 11 k = 1 then 1 else 0)); rw [if_pos (Or.inr h28_3), nI_1])
            refine lv_istore_n hx hb d_MO_open_38 rfl hl (by decide) rfl (fun ls hl => ?_)
            have hl : lv_has ls 3 [(1, .int (nI (oc (ia 11) (k + 1)))), (2, .int (nI k)), (0, .ref g0)] := hl
            refine lv_iinc (k := 1) (v := nI (k + 1)) hx hb d_MO_open_39 hl rfl ((nI_succ k).symm) (by decide) rfl (fun ls hl => ?_)
            have hl : lv_has ls 3 [(2, .int (nI (k + 1))), (1, .int (nI (oc (ia 11) (k + 1)))), (0, .ref g0)] := hl
            refine lv_goto (tgt := 4) hx hb d_MO_open_42 (by decide) ?_
            exact ih_4 (k + 1) ls (by omega) (by omega) hl
  have hl := lv_sub hl [0, 1, 2] (l' := [(2, .int 0), (1, .int 0), (0, .ref g0)]) rfl
  have hl : lv_has ls 3 [(2, .int (nI 0)), (1, .int (nI (oc (ia 11) 0))), (0, .ref g0)] := hl
  exact J_4 ((N - 0) + 1) 0 ls (by omega) (by omega) hl
set_option maxHeartbeats 8000000 in
set_option maxRecDepth 100000 in
theorem t_MO_isRequest (l : Launch) (dC : Nat → ClassId) (dI : Nat → Nat → Nat) (g0 : Nat) (ad : Nat → Nat) (kI kZ : ClassId) (sc : Nat → Int32) (ia : Nat → Nat → Int32) (N : Nat) (e4 : sc 4 = nI N) (hN : N ≤ 40) (x : Int32) : Met l y_MO_isRequest w_MO_isRequest ({ frames := 0, cells := 0, slots := 0, locals := 0 }) (rdP (dC, dI) (MOW g0 ad kI kZ sc ia) (MOT kI kZ) [.ref g0, .int x]) (rQ vI (fun r => ((∃ j, j < N ∧ x = nI j) ∧ r = 1 ∨ (∀ j, j < N → x ≠ nI j) ∧ r = 0))) 0 0 (fun _ => False) := by
  refine Met.ofW (cc := c_MO_isRequest) (maxL := 2) (ret := (some .boolean)) (by decide) rfl ?_
  intro p e s m args below meth c s₁ B hml hv
  obtain ⟨rfl, hP, hK⟩ := hv
  have hx := B.exec
  have hb := B.bytes
  have hr := B.returns
  have ht : ∀ w ∈ tb_, w.before _ s = true := fun w h => atoms_spec (ws := w_MO_isRequest) B.pre w (List.mem_cons_of_mem _ h)
  have hown : s.vm.findClass R_MO = some m.cls := findClass_of_methodNamed B.named
  have hlocks := B.notSynchronized
  have hP : va_P (dC, dI) cls_ (MOW g0 ad kI kZ sc ia) s.heap := hP
  have hl := lv_entry ([.ref g0, .int x]) (n := 2) (Nat.le_of_ble_eq_true rfl)
  rw [lg_entry_eq]
  generalize (lg_sl ([.ref g0, .int x]) ++ List.replicate (2 - (lg_sl ([.ref g0, .int x])).length) Slot.unset).toArray = ls at hl ⊢
  have hl : lv_has ls 2 [(0, .ref g0), (1, .int x)] := hl
  refine lv_iload_n hx hb d_MO_isRequest_0 rfl (lv_at hl 1 rfl) ?_
  refine lv_if_lt (tgt := 16) hx hb d_MO_isRequest_1 (by decide) (fun h1_1 => ?_) (fun h1_1 => ?_)
  · have h1_1 := h1_1
    have i1_1 := ti_lt h1_1
    (try rw [l_0] at i1_1)
    refine lv_iconst (v := 0) hx hb d_MO_isRequest_16 (by decide) ?_
    have hz0 : ((∃ j, j < N ∧ x = nI j) ∧ (0 : Int32) = 1 ∨ (∀ j, j < N → x ≠ nI j) ∧ (0 : Int32) = 0) := Or.inr ⟨fun j hj e => by have := nI_toInt (show j < 2 ^ 31 by omega); rw [e, this] at i1_1; omega, rfl⟩
    exact W.zret (v := 0) hx hb hr rfl (fun t ht9 hW => ⟨0, rfl, hz0, ht9⟩) (fun q h => by cases h) d_MO_isRequest_17
  · have h1_1 := h1_1
    have i1_1 := ti_nlt h1_1
    (try rw [l_0] at i1_1)
    refine lv_iload_n hx hb d_MO_isRequest_4 rfl (lv_at hl 1 rfl) ?_
    refine lv_aload_n hx hb d_MO_isRequest_5 rfl (lv_at hl 0 rfl) ?_
    refine va_get (D := (dC, dI)) (ci := 5) (v := .int (sc 4)) (C := R_MO) (T := F_MO) (N := 30) hx hb ht in_MO hown hK hP 0 rfl rfl 4 (by decide) (ht _ tb_635) (fun _ h9 => h9) rfl d_MO_isRequest_6 ?_
    refine W.eq (g2 := F0 m 9 ls [.int (nI N), .int x]) (by rw [show sc 4 = nI N from e4]) ?_
    refine lv_icmp_ge (tgt := 16) hx hb d_MO_isRequest_9 (by decide) (fun h9_2 => ?_) (fun h9_2 => ?_)
    · have h9_2 := h9_2
      have i9_2 := ti_le h9_2
      (try rw [nI_toInt (show N < 2 ^ 31 by omega)] at i9_2)
      refine lv_iconst (v := 0) hx hb d_MO_isRequest_16 (by decide) ?_
      have hz0 : ((∃ j, j < N ∧ x = nI j) ∧ (0 : Int32) = 1 ∨ (∀ j, j < N → x ≠ nI j) ∧ (0 : Int32) = 0) := Or.inr ⟨fun j hj e => by have := nI_toInt (show j < 2 ^ 31 by omega); rw [e, this] at i9_2; omega, rfl⟩
      exact W.zret (v := 0) hx hb hr rfl (fun t ht9 hW => ⟨0, rfl, hz0, ht9⟩) (fun q h => by cases h) d_MO_isRequest_17
    · have h9_2 := h9_2
      have i9_2 := ti_nle h9_2
      (try rw [nI_toInt (show N < 2 ^ 31 by omega)] at i9_2)
      refine lv_iconst (v := 1) hx hb d_MO_isRequest_12 (by decide) ?_
      refine lv_goto (tgt := 17) hx hb d_MO_isRequest_13 (by decide) ?_
      have hz0 : ((∃ j, j < N ∧ x = nI j) ∧ (1 : Int32) = 1 ∨ (∀ j, j < N → x ≠ nI j) ∧ (1 : Int32) = 0) := Or.inl ⟨by obtain ⟨j, hj, e⟩ := nI_of h1_1; exact ⟨j, by have := nI_toInt hj; rw [e, this] at i9_2; omega, e⟩, rfl⟩
      exact W.zret (v := 1) hx hb hr rfl (fun t ht9 hW => ⟨1, rfl, hz0, ht9⟩) (fun q h => by cases h) d_MO_isRequest_17
set_option maxHeartbeats 8000000 in
set_option maxRecDepth 100000 in
theorem t_MO_coreEnd (l : Launch) (dC : Nat → ClassId) (dI : Nat → Nat → Nat) (g0 : Nat) (ad : Nat → Nat) (kI kZ : ClassId) (sc : Nat → Int32) (ia : Nat → Nat → Int32) (j : Nat) (hj : j < 40) : Met l y_MO_coreEnd w_MO_coreEnd ({ frames := 0, cells := 0, slots := 0, locals := 0 }) (rdP (dC, dI) (MOW g0 ad kI kZ sc ia) (MOT kI kZ) [.ref g0, .int (nI j)]) (rQ vI (fun r => r = ia 6 j + ia 7 j)) 0 0 (fun _ => False) := by
  refine Met.ofW (cc := c_MO_coreEnd) (maxL := 2) (ret := (some .int)) (by decide) rfl ?_
  intro p e s m args below meth c s₁ B hml hv
  obtain ⟨rfl, hP, hK⟩ := hv
  have hx := B.exec
  have hb := B.bytes
  have hr := B.returns
  have ht : ∀ w ∈ tb_, w.before _ s = true := fun w h => atoms_spec (ws := w_MO_coreEnd) B.pre w (List.mem_cons_of_mem _ h)
  have hown : s.vm.findClass R_MO = some m.cls := findClass_of_methodNamed B.named
  have hlocks := B.notSynchronized
  have hP : va_P (dC, dI) cls_ (MOW g0 ad kI kZ sc ia) s.heap := hP
  have hl := lv_entry ([.ref g0, .int (nI j)]) (n := 2) (Nat.le_of_ble_eq_true rfl)
  rw [lg_entry_eq]
  generalize (lg_sl ([.ref g0, .int (nI j)]) ++ List.replicate (2 - (lg_sl ([.ref g0, .int (nI j)])).length) Slot.unset).toArray = ls at hl ⊢
  have hl : lv_has ls 2 [(0, .ref g0), (1, .int (nI j))] := hl
  refine lv_aload_n hx hb d_MO_coreEnd_0 rfl (lv_at hl 0 rfl) ?_
  refine va_get (D := (dC, dI)) (ci := 5) (v := .ref (ad 6)) (C := R_MO) (T := F_MO) (N := 30) hx hb ht in_MO hown hK hP 0 rfl rfl 6 (by decide) (ht _ tb_637) (fun _ h9 => h9) rfl d_MO_coreEnd_1 ?_
  refine lv_iload_n hx hb d_MO_coreEnd_4 rfl (lv_at hl 1 rfl) ?_
  refine va_iald hx hb hK hP 3 0 rfl rfl (vp_in_nI (show j < 40 by omega) (by decide)) d_MO_coreEnd_5 ?_
  refine W.eq (g2 := F0 m 6 ls [.int (ia 6 j)]) (by rw [nI_clamp (show j < 2 ^ 31 by omega)]) ?_
  refine lv_aload_n hx hb d_MO_coreEnd_6 rfl (lv_at hl 0 rfl) ?_
  refine va_get (D := (dC, dI)) (ci := 5) (v := .ref (ad 7)) (C := R_MO) (T := F_MO) (N := 30) hx hb ht in_MO hown hK hP 0 rfl rfl 7 (by decide) (ht _ tb_638) (fun _ h9 => h9) rfl d_MO_coreEnd_7 ?_
  refine lv_iload_n hx hb d_MO_coreEnd_10 rfl (lv_at hl 1 rfl) ?_
  refine va_iald hx hb hK hP 4 0 rfl rfl (vp_in_nI (show j < 40 by omega) (by decide)) d_MO_coreEnd_11 ?_
  refine W.eq (g2 := F0 m 12 ls [.int (ia 7 j), .int (ia 6 j)]) (by rw [nI_clamp (show j < 2 ^ 31 by omega)]) ?_
  refine lv_iadd hx hb d_MO_coreEnd_12 ?_
  have hz0 : (((ia 6 j) + (ia 7 j) : Int32)) = ia 6 j + ia 7 j := rfl
  exact W.iret (v := (ia 6 j) + (ia 7 j)) hx hb hr (fun t ht9 hW => ⟨(ia 6 j) + (ia 7 j), rfl, hz0, ht9⟩) (fun q h => by cases h) d_MO_coreEnd_13
set_option maxHeartbeats 8000000 in
set_option maxRecDepth 100000 in
theorem t_MO_take (l : Launch) (dC : Nat → ClassId) (dI : Nat → Nat → Nat) (g0 : Nat) (ad : Nat → Nat) (kI kZ : ClassId) (sc : Nat → Int32) (ia : Nat → Nat → Int32) (sz Bd : Nat) (K : Nat) (hK0 : sc 21 = nI K) (hKb : K < 60) (x y z : Int32) : Met l y_MO_take w_MO_take ({ frames := 0, cells := 0, slots := 0, locals := 0 }) (frP (dC, dI) (MOW g0 ad kI kZ sc ia) (MOT kI kZ) sz Bd [.ref g0, .int x, .int y, .int z]) (tQ (dC, dI) (mW g0 ad kI kZ) (va_A (MOW g0 ad kI kZ sc ia) sz) vN (fun r u => same [21] sc u.1 ∧ same [22, 23, 24] ia u.2 ∧ u.1 21 = nI (K + 1))) 0 0 (va_A (MOW g0 ad kI kZ sc ia) sz) := by
  refine Met.ofW (cc := c_MO_take) (maxL := 4) (ret := none) (by decide) rfl ?_
  intro p e s m args below meth c s₁ B hml hv
  obtain ⟨rfl, ⟨hsz, hBs⟩, hP, hK, hD0, hV⟩ := hv
  have hx := B.exec
  have hb := B.bytes
  have hr := B.returns
  have ht : ∀ w ∈ tb_, w.before _ s = true := fun w h => atoms_spec (ws := w_MO_take) B.pre w (List.mem_cons_of_mem _ h)
  have hown : s.vm.findClass R_MO = some m.cls := findClass_of_methodNamed B.named
  have hlocks := B.notSynchronized
  subst hsz
  have hD := hD0.self (sz := s.heap.size)
  have hAB : ∀ q, va_A (MOW g0 ad kI kZ sc ia) s.heap.size q → Bd ≤ q := fr_AB hD0 hBs
  generalize hAe : va_A (MOW g0 ad kI kZ sc ia) s.heap.size = A at hD hAB ⊢
  have hA : ∀ q : Nat, s.heap.size ≤ q → A q := fun q h => by rw [← hAe]; exact Or.inr h
  have hS : va_S A s.heap s.heap [] := va_S.rf
  have hs : same [21] sc sc := same.rf
  have hi : same [22, 23, 24] ia ia := same.rf
  have hP : va_P (dC, dI) cls_ (MOW g0 ad kI kZ sc ia) s.heap := hP
  have hl := lv_entry ([.ref g0, .int x, .int y, .int z]) (n := 4) (Nat.le_of_ble_eq_true rfl)
  rw [lg_entry_eq]
  generalize (lg_sl ([.ref g0, .int x, .int y, .int z]) ++ List.replicate (4 - (lg_sl ([.ref g0, .int x, .int y, .int z])).length) Slot.unset).toArray = ls at hl ⊢
  have hl : lv_has ls 4 [(0, .ref g0), (1, .int x), (2, .int y), (3, .int z)] := hl
  refine lv_aload_n hx hb d_MO_take_0 rfl (lv_at hl 0 rfl) ?_
  refine va_get (D := (dC, dI)) (ci := 5) (v := .ref (ad 22)) (C := R_MO) (T := F_MO) (N := 30) hx hb ht in_MO hown hK hP 0 rfl rfl 22 (by decide) (ht _ tb_653) (fun _ h9 => h9) rfl d_MO_take_1 ?_
  refine lv_aload_n hx hb d_MO_take_4 rfl (lv_at hl 0 rfl) ?_
  refine va_get (D := (dC, dI)) (ci := 5) (v := .int (sc 21)) (C := R_MO) (T := F_MO) (N := 30) hx hb ht in_MO hown hK hP 0 rfl rfl 21 (by decide) (ht _ tb_652) (fun _ h9 => h9) rfl d_MO_take_5 ?_
  refine W.eq (g2 := F0 m 8 ls [.int (nI K), .ref (ad 22)]) (by rw [show sc 21 = nI K from hK0]) ?_
  refine lv_iload_n hx hb d_MO_take_8 rfl (lv_at hl 1 rfl) ?_
  refine va_iast hx hb hK hP hD hS 18 0 rfl rfl (vp_in_nI (show K < 60 by omega) (by decide)) d_MO_take_9 (fun H locs hP hD hS => ?_)
  rw [nI_clamp (show K < 2 ^ 31 by omega)] at hP hD
  have hP : va_P (dC, dI) cls_ (MOW g0 ad kI kZ sc (va_up ia 22 (upd (ia 22) K x))) H := hP
  have hD : va_D A (MOW g0 ad kI kZ sc (va_up ia 22 (upd (ia 22) K x))) := hD
  obtain ⟨ia1, eia1⟩ : ∃ q9_, q9_ = va_up ia 22 (upd (ia 22) K x) := ⟨_, rfl⟩
  rw [← eia1] at hP hD
  have hi : same [22, 23, 24] ia ia1 := by rw [eia1]; exact hi.up (by decide)
  refine lv_aload_n hx hb d_MO_take_10 rfl (lv_at hl 0 rfl) ?_
  refine va_get (D := (dC, dI)) (ci := 5) (v := .ref (ad 23)) (C := R_MO) (T := F_MO) (N := 30) hx hb ht in_MO hown hK hP 0 rfl rfl 23 (by decide) (ht _ tb_654) (fun _ h9 => h9) rfl d_MO_take_11 ?_
  refine lv_aload_n hx hb d_MO_take_14 rfl (lv_at hl 0 rfl) ?_
  refine va_get (D := (dC, dI)) (ci := 5) (v := .int (sc 21)) (C := R_MO) (T := F_MO) (N := 30) hx hb ht in_MO hown hK hP 0 rfl rfl 21 (by decide) (ht _ tb_652) (fun _ h9 => h9) rfl d_MO_take_15 ?_
  refine W.eq (g2 := F0 m 18 ls [.int (nI K), .ref (ad 23)]) (by rw [show sc 21 = nI K from hK0]) ?_
  refine lv_iload_n hx hb d_MO_take_18 rfl (lv_at hl 2 rfl) ?_
  refine va_iast hx hb hK hP hD hS 19 0 rfl rfl (vp_in_nI (show K < 60 by omega) (by decide)) d_MO_take_19 (fun H locs hP hD hS => ?_)
  rw [nI_clamp (show K < 2 ^ 31 by omega)] at hP hD
  have hP : va_P (dC, dI) cls_ (MOW g0 ad kI kZ sc (va_up ia1 23 (upd (ia1 23) K y))) H := hP
  have hD : va_D A (MOW g0 ad kI kZ sc (va_up ia1 23 (upd (ia1 23) K y))) := hD
  obtain ⟨ia2, eia2⟩ : ∃ q9_, q9_ = va_up ia1 23 (upd (ia1 23) K y) := ⟨_, rfl⟩
  rw [← eia2] at hP hD
  have hi : same [22, 23, 24] ia ia2 := by rw [eia2]; exact hi.up (by decide)
  refine lv_aload_n hx hb d_MO_take_20 rfl (lv_at hl 0 rfl) ?_
  refine va_get (D := (dC, dI)) (ci := 5) (v := .ref (ad 24)) (C := R_MO) (T := F_MO) (N := 30) hx hb ht in_MO hown hK hP 0 rfl rfl 24 (by decide) (ht _ tb_655) (fun _ h9 => h9) rfl d_MO_take_21 ?_
  refine lv_aload_n hx hb d_MO_take_24 rfl (lv_at hl 0 rfl) ?_
  refine va_get (D := (dC, dI)) (ci := 5) (v := .int (sc 21)) (C := R_MO) (T := F_MO) (N := 30) hx hb ht in_MO hown hK hP 0 rfl rfl 21 (by decide) (ht _ tb_652) (fun _ h9 => h9) rfl d_MO_take_25 ?_
  refine W.eq (g2 := F0 m 28 ls [.int (nI K), .ref (ad 24)]) (by rw [show sc 21 = nI K from hK0]) ?_
  refine lv_iload_n hx hb d_MO_take_28 rfl (lv_at hl 3 rfl) ?_
  refine va_iast hx hb hK hP hD hS 20 0 rfl rfl (vp_in_nI (show K < 60 by omega) (by decide)) d_MO_take_29 (fun H locs hP hD hS => ?_)
  rw [nI_clamp (show K < 2 ^ 31 by omega)] at hP hD
  have hP : va_P (dC, dI) cls_ (MOW g0 ad kI kZ sc (va_up ia2 24 (upd (ia2 24) K z))) H := hP
  have hD : va_D A (MOW g0 ad kI kZ sc (va_up ia2 24 (upd (ia2 24) K z))) := hD
  obtain ⟨ia3, eia3⟩ : ∃ q9_, q9_ = va_up ia2 24 (upd (ia2 24) K z) := ⟨_, rfl⟩
  rw [← eia3] at hP hD
  have hi : same [22, 23, 24] ia ia3 := by rw [eia3]; exact hi.up (by decide)
  refine lv_aload_n hx hb d_MO_take_30 rfl (lv_at hl 0 rfl) ?_
  refine lv_dup hx hb d_MO_take_31 rfl ?_
  refine va_get (D := (dC, dI)) (ci := 5) (v := .int (sc 21)) (C := R_MO) (T := F_MO) (N := 30) hx hb ht in_MO hown hK hP 0 rfl rfl 21 (by decide) (ht _ tb_652) (fun _ h9 => h9) rfl d_MO_take_32 ?_
  refine W.eq (g2 := F0 m 35 ls [.int (nI K), .ref g0]) (by rw [show sc 21 = nI K from hK0]) ?_
  refine lv_iconst (v := 1) hx hb d_MO_take_35 (by decide) ?_
  refine lv_iadd hx hb d_MO_take_36 ?_
  refine lv_topi (fun v4 ev4 => ?_)
  obtain rfl : v4 = nI (K + 1) := ev4.trans ((nI_succ K).symm)
  refine va_put (D := (dC, dI)) (ci := 5) (v := .int (nI (K + 1))) (ty := .int) (C := R_MO) (T := F_MO) (N := 30) hx hb ht in_MO t_MO t_MO_ok n_MO hown hK hP hD hS 0 rfl rfl 21 (by decide) (ht _ tb_652) (fun _ h9 => h9) rfl (by decide +kernel) rfl rfl (Nat.le_of_ble_eq_true rfl) d_MO_take_37 (fun H locs hP hD hS => ?_)
  have hP : va_P (dC, dI) cls_ (MOW g0 ad kI kZ (va_up sc 21 (nI (K + 1))) ia3) H := hP
  have hD : va_D A (MOW g0 ad kI kZ (va_up sc 21 (nI (K + 1))) ia3) := hD
  obtain ⟨sc5, esc5⟩ : ∃ q9_, q9_ = va_up sc 21 (nI (K + 1)) := ⟨_, rfl⟩
  rw [← esc5] at hP hD
  have hs : same [21] sc sc5 := by rw [esc5]; exact hs.up (by decide)
  have hz0 : sc5 21 = nI (K + 1) := by rw [esc5]; rfl
  exact W.vret hx hb hr (fun t ht9 hW => ⟨⟨(), (sc5, ia3), rfl, ⟨hs, hi, hz0⟩, by rw [ht9]; exact hP, hD⟩, hS.F ht9⟩) hS.2.2 d_MO_take_40
