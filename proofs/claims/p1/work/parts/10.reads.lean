abbrev c_TT_isWithin : ByteArray := prog_1_method_23_code
abbrev y_TT_isWithin : MethodName := ⟨"TwinTuners", "isWithin", "(III)Z"⟩
def w_TT_isWithin : List Cond := .code y_TT_isWithin c_TT_isWithin 3 (some .boolean) :: tb_
abbrev c_TT_isChannel : ByteArray := prog_1_method_24_code
abbrev y_TT_isChannel : MethodName := ⟨"TwinTuners", "isChannel", "(I)Z"⟩
def w_TT_isChannel : List Cond := .code y_TT_isChannel c_TT_isChannel 1 (some .boolean) :: tb_
abbrev c_TT_isAhead : ByteArray := prog_1_method_25_code
abbrev y_TT_isAhead : MethodName := ⟨"TwinTuners", "isAhead", "(I)Z"⟩
def w_TT_isAhead : List Cond := .code y_TT_isAhead c_TT_isAhead 2 (some .boolean) :: tb_
abbrev c_TT_openRequests : ByteArray := prog_1_method_28_code
abbrev y_TT_openRequests : MethodName := ⟨"TwinTuners", "openRequests", "()I"⟩
def w_TT_openRequests : List Cond := .code y_TT_openRequests c_TT_openRequests 3 (some .int) :: tb_
abbrev c_TT_now : ByteArray := prog_1_method_10_code
abbrev y_TT_now : MethodName := ⟨"TwinTuners", "now", "()I"⟩
def w_TT_now : List Cond := .code y_TT_now c_TT_now 1 (some .int) :: tb_
set_option maxRecDepth 100000 in
theorem tb_1 : (.initialized "TwinTuners" : Cond) ∈ tb_ := tb_w 1 rfl rfl
set_option maxRecDepth 100000 in
theorem tb_80 : (.fieldLink "TwinTuners" 40 "TwinTuners" "count" "I" : Cond) ∈ tb_ := tb_w 80 rfl rfl
set_option maxRecDepth 100000 in
theorem tb_81 : (.fieldLink "TwinTuners" 44 "TwinTuners" "second" "I" : Cond) ∈ tb_ := tb_w 81 rfl rfl
set_option maxRecDepth 100000 in
theorem tb_226 : (.static ⟨"TwinTuners", "isWithin", "(III)Z"⟩ : Cond) ∈ tb_ := tb_w 226 rfl rfl
set_option maxRecDepth 100000 in
theorem tb_227 : (.code ⟨"TwinTuners", "isWithin", "(III)Z"⟩ prog_1_method_23_code 3 (some .boolean) : Cond) ∈ tb_ := tb_w 227 rfl rfl
set_option maxRecDepth 100000 in
theorem tb_246 : (.code ⟨"TwinTuners", "now", "()I"⟩ prog_1_method_10_code 1 (some .int) : Cond) ∈ tb_ := tb_w 246 rfl rfl
set_option maxRecDepth 100000 in
theorem tb_272 : (.code ⟨"TwinTuners", "isChannel", "(I)Z"⟩ prog_1_method_24_code 1 (some .boolean) : Cond) ∈ tb_ := tb_w 272 rfl rfl
set_option maxRecDepth 100000 in
theorem tb_273 : (.methodLink "TwinTuners" 57 ⟨"TwinTuners", "isWithin", "(III)Z"⟩ : Cond) ∈ tb_ := tb_w 273 rfl rfl
set_option maxRecDepth 100000 in
theorem tb_277 : (.code ⟨"TwinTuners", "isAhead", "(I)Z"⟩ prog_1_method_25_code 2 (some .boolean) : Cond) ∈ tb_ := tb_w 277 rfl rfl
set_option maxRecDepth 100000 in
theorem tb_349 : (.code ⟨"TwinTuners", "openRequests", "()I"⟩ prog_1_method_28_code 3 (some .int) : Cond) ∈ tb_ := tb_w 349 rfl rfl
theorem d_TT_isAhead_0 : decode c_TT_isAhead 0 = .ok (.iload_n 1, 1) := by decide +kernel
theorem d_TT_isAhead_1 : decode c_TT_isAhead 1 = .ok (.aload_n 0, 1) := by decide +kernel
theorem d_TT_isAhead_2 : decode c_TT_isAhead 2 = .ok (.getfield 44, 3) := by decide +kernel
theorem d_TT_isAhead_5 : decode c_TT_isAhead 5 = .ok (.aload_n 0, 1) := by decide +kernel
theorem d_TT_isAhead_6 : decode c_TT_isAhead 6 = .ok (.getfield 44, 3) := by decide +kernel
theorem d_TT_isAhead_9 : decode c_TT_isAhead 9 = .ok (.sipush 1000, 3) := by decide +kernel
theorem d_TT_isAhead_12 : decode c_TT_isAhead 12 = .ok (.iadd, 1) := by decide +kernel
theorem d_TT_isAhead_13 : decode c_TT_isAhead 13 = .ok (.invokestatic 57, 3) := by decide +kernel
theorem d_TT_isAhead_16 : decode c_TT_isAhead 16 = .ok (.ireturn, 1) := by decide +kernel
theorem d_TT_isChannel_0 : decode c_TT_isChannel 0 = .ok (.iload_n 0, 1) := by decide +kernel
theorem d_TT_isChannel_1 : decode c_TT_isChannel 1 = .ok (.iconst 0, 1) := by decide +kernel
theorem d_TT_isChannel_2 : decode c_TT_isChannel 2 = .ok (.bipush 7, 2) := by decide +kernel
theorem d_TT_isChannel_4 : decode c_TT_isChannel 4 = .ok (.invokestatic 57, 3) := by decide +kernel
theorem d_TT_isChannel_7 : decode c_TT_isChannel 7 = .ok (.ireturn, 1) := by decide +kernel
theorem d_TT_isWithin_0 : decode c_TT_isWithin 0 = .ok (.iload_n 0, 1) := by decide +kernel
theorem d_TT_isWithin_1 : decode c_TT_isWithin 1 = .ok (.iload_n 1, 1) := by decide +kernel
theorem d_TT_isWithin_2 : decode c_TT_isWithin 2 = .ok (.if_icmp .lt 12, 3) := by decide +kernel
theorem d_TT_isWithin_5 : decode c_TT_isWithin 5 = .ok (.iload_n 0, 1) := by decide +kernel
theorem d_TT_isWithin_6 : decode c_TT_isWithin 6 = .ok (.iload_n 2, 1) := by decide +kernel
theorem d_TT_isWithin_7 : decode c_TT_isWithin 7 = .ok (.if_icmp .gt 7, 3) := by decide +kernel
theorem d_TT_isWithin_10 : decode c_TT_isWithin 10 = .ok (.iconst 1, 1) := by decide +kernel
theorem d_TT_isWithin_11 : decode c_TT_isWithin 11 = .ok (.goto 4, 3) := by decide +kernel
theorem d_TT_isWithin_14 : decode c_TT_isWithin 14 = .ok (.iconst 0, 1) := by decide +kernel
theorem d_TT_isWithin_15 : decode c_TT_isWithin 15 = .ok (.ireturn, 1) := by decide +kernel
theorem d_TT_now_0 : decode c_TT_now 0 = .ok (.aload_n 0, 1) := by decide +kernel
theorem d_TT_now_1 : decode c_TT_now 1 = .ok (.getfield 44, 3) := by decide +kernel
theorem d_TT_now_4 : decode c_TT_now 4 = .ok (.ireturn, 1) := by decide +kernel
theorem d_TT_openRequests_0 : decode c_TT_openRequests 0 = .ok (.iconst 0, 1) := by decide +kernel
theorem d_TT_openRequests_1 : decode c_TT_openRequests 1 = .ok (.istore_n 1, 1) := by decide +kernel
theorem d_TT_openRequests_2 : decode c_TT_openRequests 2 = .ok (.iconst 0, 1) := by decide +kernel
theorem d_TT_openRequests_3 : decode c_TT_openRequests 3 = .ok (.istore_n 2, 1) := by decide +kernel
theorem d_TT_openRequests_4 : decode c_TT_openRequests 4 = .ok (.iload_n 2, 1) := by decide +kernel
theorem d_TT_openRequests_5 : decode c_TT_openRequests 5 = .ok (.aload_n 0, 1) := by decide +kernel
theorem d_TT_openRequests_6 : decode c_TT_openRequests 6 = .ok (.getfield 40, 3) := by decide +kernel
theorem d_TT_openRequests_9 : decode c_TT_openRequests 9 = .ok (.if_icmp .ge 24, 3) := by decide +kernel
theorem d_TT_openRequests_33 : decode c_TT_openRequests 33 = .ok (.iload_n 1, 1) := by decide +kernel
theorem d_TT_openRequests_34 : decode c_TT_openRequests 34 = .ok (.ireturn, 1) := by decide +kernel
set_option maxHeartbeats 4000000 in
set_option maxRecDepth 100000 in
theorem c_TT_isWithin_yes (l : Launch) (dC : Nat → ClassId) (dI : Nat → Nat → Nat) (x lo hi : Int32) (h1 : lo ≤ x) (h2 : x ≤ hi) : Met l y_TT_isWithin w_TT_isWithin ({ frames := 0, cells := 0, slots := 0, locals := 0 }) (rdP (dC, dI) [] [] [.int x, .int lo, .int hi]) (rd_Q (some (.int 1))) 0 0 (fun _ => False) := by
  refine Met.ofW (cc := c_TT_isWithin) (maxL := 3) (ret := (some .boolean)) (by decide) rfl ?_
  intro p e s m args below meth c s₁ B hml hv
  obtain ⟨rfl, hP, hK⟩ := hv
  have hx := B.exec
  have hb := B.bytes
  have hr := B.returns
  have ht : ∀ w ∈ tb_, w.before _ s = true := fun w h => atoms_spec (ws := w_TT_isWithin) B.pre w (List.mem_cons_of_mem _ h)
  have hown : s.vm.findClass R_TT = some m.cls := findClass_of_methodNamed B.named
  have hlocks := B.notSynchronized
  have hP : va_P (dC, dI) cls_ [] s.heap := hP
  have hl := lv_entry ([.int x, .int lo, .int hi]) (n := 3) (Nat.le_of_ble_eq_true rfl)
  rw [lg_entry_eq]
  generalize (lg_sl ([.int x, .int lo, .int hi]) ++ List.replicate (3 - (lg_sl ([.int x, .int lo, .int hi])).length) Slot.unset).toArray = ls at hl ⊢
  have hl : lv_has ls 3 [(0, .int x), (1, .int lo), (2, .int hi)] := hl
  refine lv_iload_n hx hb d_TT_isWithin_0 rfl (lv_at hl 0 rfl) ?_
  refine lv_iload_n hx hb d_TT_isWithin_1 rfl (lv_at hl 1 rfl) ?_
  refine lv_icmp_lt (tgt := 14) hx hb d_TT_isWithin_2 (by decide) (fun h9 => absurd h9 (Int32.not_lt.mpr h1)) (fun _ => ?_)
  refine lv_iload_n hx hb d_TT_isWithin_5 rfl (lv_at hl 0 rfl) ?_
  refine lv_iload_n hx hb d_TT_isWithin_6 rfl (lv_at hl 2 rfl) ?_
  refine lv_icmp_gt (tgt := 14) hx hb d_TT_isWithin_7 (by decide) (fun h9 => absurd h9 (Int32.not_lt.mpr h2)) (fun _ => ?_)
  refine lv_iconst (v := 1) hx hb d_TT_isWithin_10 (by decide) ?_
  refine lv_goto (tgt := 15) hx hb d_TT_isWithin_11 (by decide) ?_
  exact W.zret (v := 1) hx hb hr rfl (fun t ht9 hW => ⟨rfl, ht9⟩) (fun q h => by cases h) d_TT_isWithin_15
set_option maxHeartbeats 4000000 in
set_option maxRecDepth 100000 in
theorem c_TT_isWithin_no (l : Launch) (dC : Nat → ClassId) (dI : Nat → Nat → Nat) (x lo hi : Int32) (h : ¬ (lo ≤ x ∧ x ≤ hi)) : Met l y_TT_isWithin w_TT_isWithin ({ frames := 0, cells := 0, slots := 0, locals := 0 }) (rdP (dC, dI) [] [] [.int x, .int lo, .int hi]) (rd_Q (some (.int 0))) 0 0 (fun _ => False) := by
  refine Met.ofW (cc := c_TT_isWithin) (maxL := 3) (ret := (some .boolean)) (by decide) rfl ?_
  intro p e s m args below meth c s₁ B hml hv
  obtain ⟨rfl, hP, hK⟩ := hv
  have hx := B.exec
  have hb := B.bytes
  have hr := B.returns
  have ht : ∀ w ∈ tb_, w.before _ s = true := fun w h => atoms_spec (ws := w_TT_isWithin) B.pre w (List.mem_cons_of_mem _ h)
  have hown : s.vm.findClass R_TT = some m.cls := findClass_of_methodNamed B.named
  have hlocks := B.notSynchronized
  have hP : va_P (dC, dI) cls_ [] s.heap := hP
  have hl := lv_entry ([.int x, .int lo, .int hi]) (n := 3) (Nat.le_of_ble_eq_true rfl)
  rw [lg_entry_eq]
  generalize (lg_sl ([.int x, .int lo, .int hi]) ++ List.replicate (3 - (lg_sl ([.int x, .int lo, .int hi])).length) Slot.unset).toArray = ls at hl ⊢
  have hl : lv_has ls 3 [(0, .int x), (1, .int lo), (2, .int hi)] := hl
  refine lv_iload_n hx hb d_TT_isWithin_0 rfl (lv_at hl 0 rfl) ?_
  refine lv_iload_n hx hb d_TT_isWithin_1 rfl (lv_at hl 1 rfl) ?_
  refine lv_icmp_lt (tgt := 14) hx hb d_TT_isWithin_2 (by decide) (fun h1 => ?_) (fun h1 => ?_)
  · refine lv_iconst (v := 0) hx hb d_TT_isWithin_14 (by decide) ?_
    exact W.zret (v := 0) hx hb hr rfl (fun t ht9 hW => ⟨rfl, ht9⟩) (fun q h => by cases h) d_TT_isWithin_15
  · refine lv_iload_n hx hb d_TT_isWithin_5 rfl (lv_at hl 0 rfl) ?_
    refine lv_iload_n hx hb d_TT_isWithin_6 rfl (lv_at hl 2 rfl) ?_
    refine lv_icmp_gt (tgt := 14) hx hb d_TT_isWithin_7 (by decide) (fun h2 => ?_) (fun h2 => ?_)
    · refine lv_iconst (v := 0) hx hb d_TT_isWithin_14 (by decide) ?_
      exact W.zret (v := 0) hx hb hr rfl (fun t ht9 hW => ⟨rfl, ht9⟩) (fun q h => by cases h) d_TT_isWithin_15
    · exact absurd ⟨Int32.not_lt.mp h1, Int32.not_lt.mp h2⟩ h
set_option maxHeartbeats 4000000 in
set_option maxRecDepth 100000 in
theorem c_TT_isChannel_yes (l : Launch) (dC : Nat → ClassId) (dI : Nat → Nat → Nat) (x : Int32) (h1 : 0 ≤ x) (h2 : x ≤ 7) : Met l y_TT_isChannel w_TT_isChannel ({ frames := 1, cells := 0, slots := 0, locals := 22 }) (rdP (dC, dI) [] [] [.int x]) (rd_Q (some (.int 1))) 0 0 (fun _ => False) := by
  refine Met.ofW (cc := c_TT_isChannel) (maxL := 1) (ret := (some .boolean)) (by decide) rfl ?_
  intro p e s m args below meth c s₁ B hml hv
  obtain ⟨rfl, hP, hK⟩ := hv
  have hx := B.exec
  have hb := B.bytes
  have hr := B.returns
  have ht : ∀ w ∈ tb_, w.before _ s = true := fun w h => atoms_spec (ws := w_TT_isChannel) B.pre w (List.mem_cons_of_mem _ h)
  have hown : s.vm.findClass R_TT = some m.cls := findClass_of_methodNamed B.named
  have hlocks := B.notSynchronized
  have hP : va_P (dC, dI) cls_ [] s.heap := hP
  have hl := lv_entry ([.int x]) (n := 1) (Nat.le_of_ble_eq_true rfl)
  rw [lg_entry_eq]
  generalize (lg_sl ([.int x]) ++ List.replicate (1 - (lg_sl ([.int x])).length) Slot.unset).toArray = ls at hl ⊢
  have hl : lv_has ls 1 [(0, .int x)] := hl
  refine lv_iload_n hx hb d_TT_isChannel_0 rfl (lv_at hl 0 rfl) ?_
  refine lv_iconst (v := 0) hx hb d_TT_isChannel_1 (by decide) ?_
  refine lv_bipush (v := 7) hx hb d_TT_isChannel_2 (by decide) ?_
  have hPc := hP.sub (ws' := []) [] rfl
  have hKc := hK.sub (tys' := []) [] rfl
  refine rd_call (va_runS (As := [.int x, .int 0, .int 7]) (rest := []) ⟨hx, hb, hml, hown, ht⟩ (c_TT_isWithin_yes l dC dI x 0 7 h1 h2) (va_cwS 3 ht (gS tb_273 tb_226 tb_1 tb_227) rfl rfl rfl (by decide +kernel) ⟨Nat.le_of_ble_eq_true rfl, Nat.le_of_ble_eq_true rfl⟩) ⟨rdP_blind, rd_pre hPc hKc⟩ rfl rfl hl.1 rfl (lv_room (Nat.le_of_ble_eq_true rfl)) d_TT_isChannel_4 ⟨Nat.le_of_ble_eq_true rfl, Nat.le_of_ble_eq_true rfl⟩) ?_
  refine W.eq (g2 := F0 m 7 ls [.int 1]) rfl ?_
  exact W.zret (v := 1) hx hb hr rfl (fun t ht9 hW => ⟨rfl, ht9⟩) (fun q h => by cases h) d_TT_isChannel_7
set_option maxHeartbeats 4000000 in
set_option maxRecDepth 100000 in
theorem c_TT_isChannel_no (l : Launch) (dC : Nat → ClassId) (dI : Nat → Nat → Nat) (x : Int32) (h : ¬ (0 ≤ x ∧ x ≤ 7)) : Met l y_TT_isChannel w_TT_isChannel ({ frames := 1, cells := 0, slots := 0, locals := 22 }) (rdP (dC, dI) [] [] [.int x]) (rd_Q (some (.int 0))) 0 0 (fun _ => False) := by
  refine Met.ofW (cc := c_TT_isChannel) (maxL := 1) (ret := (some .boolean)) (by decide) rfl ?_
  intro p e s m args below meth c s₁ B hml hv
  obtain ⟨rfl, hP, hK⟩ := hv
  have hx := B.exec
  have hb := B.bytes
  have hr := B.returns
  have ht : ∀ w ∈ tb_, w.before _ s = true := fun w h => atoms_spec (ws := w_TT_isChannel) B.pre w (List.mem_cons_of_mem _ h)
  have hown : s.vm.findClass R_TT = some m.cls := findClass_of_methodNamed B.named
  have hlocks := B.notSynchronized
  have hP : va_P (dC, dI) cls_ [] s.heap := hP
  have hl := lv_entry ([.int x]) (n := 1) (Nat.le_of_ble_eq_true rfl)
  rw [lg_entry_eq]
  generalize (lg_sl ([.int x]) ++ List.replicate (1 - (lg_sl ([.int x])).length) Slot.unset).toArray = ls at hl ⊢
  have hl : lv_has ls 1 [(0, .int x)] := hl
  refine lv_iload_n hx hb d_TT_isChannel_0 rfl (lv_at hl 0 rfl) ?_
  refine lv_iconst (v := 0) hx hb d_TT_isChannel_1 (by decide) ?_
  refine lv_bipush (v := 7) hx hb d_TT_isChannel_2 (by decide) ?_
  have hPc := hP.sub (ws' := []) [] rfl
  have hKc := hK.sub (tys' := []) [] rfl
  refine rd_call (va_runS (As := [.int x, .int 0, .int 7]) (rest := []) ⟨hx, hb, hml, hown, ht⟩ (c_TT_isWithin_no l dC dI x 0 7 h) (va_cwS 3 ht (gS tb_273 tb_226 tb_1 tb_227) rfl rfl rfl (by decide +kernel) ⟨Nat.le_of_ble_eq_true rfl, Nat.le_of_ble_eq_true rfl⟩) ⟨rdP_blind, rd_pre hPc hKc⟩ rfl rfl hl.1 rfl (lv_room (Nat.le_of_ble_eq_true rfl)) d_TT_isChannel_4 ⟨Nat.le_of_ble_eq_true rfl, Nat.le_of_ble_eq_true rfl⟩) ?_
  refine W.eq (g2 := F0 m 7 ls [.int 0]) rfl ?_
  exact W.zret (v := 0) hx hb hr rfl (fun t ht9 hW => ⟨rfl, ht9⟩) (fun q h => by cases h) d_TT_isChannel_7
set_option maxHeartbeats 4000000 in
set_option maxRecDepth 100000 in
theorem c_TT_isAhead_yes (l : Launch) (dC : Nat → ClassId) (dI : Nat → Nat → Nat) (h0 rq oa pl dk rw : Nat) (x : Int32) (h1 : 0 ≤ x) (h2 : x ≤ 1000) : Met l y_TT_isAhead w_TT_isAhead ({ frames := 1, cells := 0, slots := 0, locals := 22 }) (rdP (dC, dI) [(h0, .inr (0, [.ref rq, .ref oa, .ref pl, .ref dk, .ref rw, .int 0, .int 0, .int (-1)]))] [] [.ref h0, .int x]) (rd_Q (some (.int 1))) 0 0 (fun _ => False) := by
  refine Met.ofW (cc := c_TT_isAhead) (maxL := 2) (ret := (some .boolean)) (by decide) rfl ?_
  intro p e s m args below meth c s₁ B hml hv
  obtain ⟨rfl, hP, hK⟩ := hv
  have hx := B.exec
  have hb := B.bytes
  have hr := B.returns
  have ht : ∀ w ∈ tb_, w.before _ s = true := fun w h => atoms_spec (ws := w_TT_isAhead) B.pre w (List.mem_cons_of_mem _ h)
  have hown : s.vm.findClass R_TT = some m.cls := findClass_of_methodNamed B.named
  have hlocks := B.notSynchronized
  have hP : va_P (dC, dI) cls_ [(h0, .inr (0, [.ref rq, .ref oa, .ref pl, .ref dk, .ref rw, .int 0, .int 0, .int (-1)]))] s.heap := hP
  have hl := lv_entry ([.ref h0, .int x]) (n := 2) (Nat.le_of_ble_eq_true rfl)
  rw [lg_entry_eq]
  generalize (lg_sl ([.ref h0, .int x]) ++ List.replicate (2 - (lg_sl ([.ref h0, .int x])).length) Slot.unset).toArray = ls at hl ⊢
  have hl : lv_has ls 2 [(0, .ref h0), (1, .int x)] := hl
  refine lv_iload_n hx hb d_TT_isAhead_0 rfl (lv_at hl 1 rfl) ?_
  refine lv_aload_n hx hb d_TT_isAhead_1 rfl (lv_at hl 0 rfl) ?_
  refine va_get (D := (dC, dI)) (ci := 0) (v := .int 0) (C := R_TT) (T := F_TT) (N := 8) hx hb ht in_TT hown hK hP 0 rfl rfl 6 (by decide) (ht _ tb_81) (fun _ h9 => h9) rfl d_TT_isAhead_2 ?_
  refine lv_aload_n hx hb d_TT_isAhead_5 rfl (lv_at hl 0 rfl) ?_
  refine va_get (D := (dC, dI)) (ci := 0) (v := .int 0) (C := R_TT) (T := F_TT) (N := 8) hx hb ht in_TT hown hK hP 0 rfl rfl 6 (by decide) (ht _ tb_81) (fun _ h9 => h9) rfl d_TT_isAhead_6 ?_
  refine lv_sipush (v := 1000) hx hb d_TT_isAhead_9 (by decide) ?_
  refine lv_iadd hx hb d_TT_isAhead_12 ?_
  refine lv_topi (fun v1 ev1 => ?_)
  obtain rfl : v1 = 1000 := ev1.trans (by decide)
  have hPc := hP.sub (ws' := []) [] rfl
  have hKc := hK.sub (tys' := []) [] rfl
  refine rd_call (va_runS (As := [.int x, .int 0, .int 1000]) (rest := []) ⟨hx, hb, hml, hown, ht⟩ (c_TT_isWithin_yes l dC dI x 0 1000 h1 h2) (va_cwS 3 ht (gS tb_273 tb_226 tb_1 tb_227) rfl rfl rfl (by decide +kernel) ⟨Nat.le_of_ble_eq_true rfl, Nat.le_of_ble_eq_true rfl⟩) ⟨rdP_blind, rd_pre hPc hKc⟩ rfl rfl hl.1 rfl (lv_room (Nat.le_of_ble_eq_true rfl)) d_TT_isAhead_13 ⟨Nat.le_of_ble_eq_true rfl, Nat.le_of_ble_eq_true rfl⟩) ?_
  refine W.eq (g2 := F0 m 16 ls [.int 1]) rfl ?_
  exact W.zret (v := 1) hx hb hr rfl (fun t ht9 hW => ⟨rfl, ht9⟩) (fun q h => by cases h) d_TT_isAhead_16
set_option maxHeartbeats 4000000 in
set_option maxRecDepth 100000 in
theorem c_TT_isAhead_no (l : Launch) (dC : Nat → ClassId) (dI : Nat → Nat → Nat) (h0 rq oa pl dk rw : Nat) (x : Int32) (h : ¬ (0 ≤ x ∧ x ≤ 1000)) : Met l y_TT_isAhead w_TT_isAhead ({ frames := 1, cells := 0, slots := 0, locals := 22 }) (rdP (dC, dI) [(h0, .inr (0, [.ref rq, .ref oa, .ref pl, .ref dk, .ref rw, .int 0, .int 0, .int (-1)]))] [] [.ref h0, .int x]) (rd_Q (some (.int 0))) 0 0 (fun _ => False) := by
  refine Met.ofW (cc := c_TT_isAhead) (maxL := 2) (ret := (some .boolean)) (by decide) rfl ?_
  intro p e s m args below meth c s₁ B hml hv
  obtain ⟨rfl, hP, hK⟩ := hv
  have hx := B.exec
  have hb := B.bytes
  have hr := B.returns
  have ht : ∀ w ∈ tb_, w.before _ s = true := fun w h => atoms_spec (ws := w_TT_isAhead) B.pre w (List.mem_cons_of_mem _ h)
  have hown : s.vm.findClass R_TT = some m.cls := findClass_of_methodNamed B.named
  have hlocks := B.notSynchronized
  have hP : va_P (dC, dI) cls_ [(h0, .inr (0, [.ref rq, .ref oa, .ref pl, .ref dk, .ref rw, .int 0, .int 0, .int (-1)]))] s.heap := hP
  have hl := lv_entry ([.ref h0, .int x]) (n := 2) (Nat.le_of_ble_eq_true rfl)
  rw [lg_entry_eq]
  generalize (lg_sl ([.ref h0, .int x]) ++ List.replicate (2 - (lg_sl ([.ref h0, .int x])).length) Slot.unset).toArray = ls at hl ⊢
  have hl : lv_has ls 2 [(0, .ref h0), (1, .int x)] := hl
  refine lv_iload_n hx hb d_TT_isAhead_0 rfl (lv_at hl 1 rfl) ?_
  refine lv_aload_n hx hb d_TT_isAhead_1 rfl (lv_at hl 0 rfl) ?_
  refine va_get (D := (dC, dI)) (ci := 0) (v := .int 0) (C := R_TT) (T := F_TT) (N := 8) hx hb ht in_TT hown hK hP 0 rfl rfl 6 (by decide) (ht _ tb_81) (fun _ h9 => h9) rfl d_TT_isAhead_2 ?_
  refine lv_aload_n hx hb d_TT_isAhead_5 rfl (lv_at hl 0 rfl) ?_
  refine va_get (D := (dC, dI)) (ci := 0) (v := .int 0) (C := R_TT) (T := F_TT) (N := 8) hx hb ht in_TT hown hK hP 0 rfl rfl 6 (by decide) (ht _ tb_81) (fun _ h9 => h9) rfl d_TT_isAhead_6 ?_
  refine lv_sipush (v := 1000) hx hb d_TT_isAhead_9 (by decide) ?_
  refine lv_iadd hx hb d_TT_isAhead_12 ?_
  refine lv_topi (fun v1 ev1 => ?_)
  obtain rfl : v1 = 1000 := ev1.trans (by decide)
  have hPc := hP.sub (ws' := []) [] rfl
  have hKc := hK.sub (tys' := []) [] rfl
  refine rd_call (va_runS (As := [.int x, .int 0, .int 1000]) (rest := []) ⟨hx, hb, hml, hown, ht⟩ (c_TT_isWithin_no l dC dI x 0 1000 h) (va_cwS 3 ht (gS tb_273 tb_226 tb_1 tb_227) rfl rfl rfl (by decide +kernel) ⟨Nat.le_of_ble_eq_true rfl, Nat.le_of_ble_eq_true rfl⟩) ⟨rdP_blind, rd_pre hPc hKc⟩ rfl rfl hl.1 rfl (lv_room (Nat.le_of_ble_eq_true rfl)) d_TT_isAhead_13 ⟨Nat.le_of_ble_eq_true rfl, Nat.le_of_ble_eq_true rfl⟩) ?_
  refine W.eq (g2 := F0 m 16 ls [.int 0]) rfl ?_
  exact W.zret (v := 0) hx hb hr rfl (fun t ht9 hW => ⟨rfl, ht9⟩) (fun q h => by cases h) d_TT_isAhead_16
set_option maxHeartbeats 4000000 in
set_option maxRecDepth 100000 in
theorem c_TT_openRequests_0 (l : Launch) (dC : Nat → ClassId) (dI : Nat → Nat → Nat) (h0 rq oa pl dk rw : Nat) : Met l y_TT_openRequests w_TT_openRequests ({ frames := 0, cells := 0, slots := 0, locals := 0 }) (rdP (dC, dI) [(h0, .inr (0, [.ref rq, .ref oa, .ref pl, .ref dk, .ref rw, .int 0, .int 0, .int (-1)]))] [] [.ref h0]) (rd_Q (some (.int 0))) 0 0 (fun _ => False) := by
  refine Met.ofW (cc := c_TT_openRequests) (maxL := 3) (ret := (some .int)) (by decide) rfl ?_
  intro p e s m args below meth c s₁ B hml hv
  obtain ⟨rfl, hP, hK⟩ := hv
  have hx := B.exec
  have hb := B.bytes
  have hr := B.returns
  have ht : ∀ w ∈ tb_, w.before _ s = true := fun w h => atoms_spec (ws := w_TT_openRequests) B.pre w (List.mem_cons_of_mem _ h)
  have hown : s.vm.findClass R_TT = some m.cls := findClass_of_methodNamed B.named
  have hlocks := B.notSynchronized
  have hP : va_P (dC, dI) cls_ [(h0, .inr (0, [.ref rq, .ref oa, .ref pl, .ref dk, .ref rw, .int 0, .int 0, .int (-1)]))] s.heap := hP
  have hl := lv_entry ([.ref h0]) (n := 3) (Nat.le_of_ble_eq_true rfl)
  rw [lg_entry_eq]
  generalize (lg_sl ([.ref h0]) ++ List.replicate (3 - (lg_sl ([.ref h0])).length) Slot.unset).toArray = ls at hl ⊢
  have hl : lv_has ls 3 [(0, .ref h0)] := hl
  refine lv_iconst (v := 0) hx hb d_TT_openRequests_0 (by decide) ?_
  refine lv_istore_n hx hb d_TT_openRequests_1 rfl hl (by decide) rfl (fun ls hl => ?_)
  have hl : lv_has ls 3 [(1, .int 0), (0, .ref h0)] := hl
  refine lv_iconst (v := 0) hx hb d_TT_openRequests_2 (by decide) ?_
  refine lv_istore_n hx hb d_TT_openRequests_3 rfl hl (by decide) rfl (fun ls hl => ?_)
  have hl : lv_has ls 3 [(2, .int 0), (1, .int 0), (0, .ref h0)] := hl
  refine lv_iload_n hx hb d_TT_openRequests_4 rfl (lv_at hl 0 rfl) ?_
  refine lv_aload_n hx hb d_TT_openRequests_5 rfl (lv_at hl 2 rfl) ?_
  refine va_get (D := (dC, dI)) (ci := 0) (v := .int 0) (C := R_TT) (T := F_TT) (N := 8) hx hb ht in_TT hown hK hP 0 rfl rfl 5 (by decide) (ht _ tb_80) (fun _ h9 => h9) rfl d_TT_openRequests_6 ?_
  refine lv_icmp_ge (tgt := 33) hx hb d_TT_openRequests_9 (by decide) (fun _ => ?_) (fun h9 => absurd (Int32.le_refl 0) h9)
  refine lv_iload_n hx hb d_TT_openRequests_33 rfl (lv_at hl 1 rfl) ?_
  exact W.iret (v := 0) hx hb hr (fun t ht9 hW => ⟨rfl, ht9⟩) (fun q h => by cases h) d_TT_openRequests_34
set_option maxHeartbeats 4000000 in
set_option maxRecDepth 100000 in
theorem c_TT_now_0 (l : Launch) (dC : Nat → ClassId) (dI : Nat → Nat → Nat) (h0 rq oa pl dk rw : Nat) : Met l y_TT_now w_TT_now ({ frames := 0, cells := 0, slots := 0, locals := 0 }) (rdP (dC, dI) [(h0, .inr (0, [.ref rq, .ref oa, .ref pl, .ref dk, .ref rw, .int 0, .int 0, .int (-1)]))] [] [.ref h0]) (rd_Q (some (.int 0))) 0 0 (fun _ => False) := by
  refine Met.ofW (cc := c_TT_now) (maxL := 1) (ret := (some .int)) (by decide) rfl ?_
  intro p e s m args below meth c s₁ B hml hv
  obtain ⟨rfl, hP, hK⟩ := hv
  have hx := B.exec
  have hb := B.bytes
  have hr := B.returns
  have ht : ∀ w ∈ tb_, w.before _ s = true := fun w h => atoms_spec (ws := w_TT_now) B.pre w (List.mem_cons_of_mem _ h)
  have hown : s.vm.findClass R_TT = some m.cls := findClass_of_methodNamed B.named
  have hlocks := B.notSynchronized
  have hP : va_P (dC, dI) cls_ [(h0, .inr (0, [.ref rq, .ref oa, .ref pl, .ref dk, .ref rw, .int 0, .int 0, .int (-1)]))] s.heap := hP
  have hl := lv_entry ([.ref h0]) (n := 1) (Nat.le_of_ble_eq_true rfl)
  rw [lg_entry_eq]
  generalize (lg_sl ([.ref h0]) ++ List.replicate (1 - (lg_sl ([.ref h0])).length) Slot.unset).toArray = ls at hl ⊢
  have hl : lv_has ls 1 [(0, .ref h0)] := hl
  refine lv_aload_n hx hb d_TT_now_0 rfl (lv_at hl 0 rfl) ?_
  refine va_get (D := (dC, dI)) (ci := 0) (v := .int 0) (C := R_TT) (T := F_TT) (N := 8) hx hb ht in_TT hown hK hP 0 rfl rfl 6 (by decide) (ht _ tb_81) (fun _ h9 => h9) rfl d_TT_now_1 ?_
  exact W.iret (v := 0) hx hb hr (fun t ht9 hW => ⟨rfl, ht9⟩) (fun q h => by cases h) d_TT_now_4
