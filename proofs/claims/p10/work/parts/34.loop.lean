theorem d_LW_law_23 : decode code 23 = .ok (.iload 4, 2) := by decide +kernel
theorem d_LW_law_25 : decode code 25 = .ok (.aload_n 0, 1) := by decide +kernel
theorem d_LW_law_26 : decode code 26 = .ok (.arraylength, 1) := by decide +kernel
theorem d_LW_law_27 : decode code 27 = .ok (.bipush 6, 2) := by decide +kernel
theorem d_LW_law_29 : decode code 29 = .ok (.isub, 1) := by decide +kernel
theorem d_LW_law_30 : decode code 30 = .ok (.if_icmp .gt 796, 3) := by decide +kernel
theorem d_LW_law_33 : decode code 33 = .ok (.aload_n 0, 1) := by decide +kernel
theorem d_LW_law_34 : decode code 34 = .ok (.iload 4, 2) := by decide +kernel
theorem d_LW_law_36 : decode code 36 = .ok (.iaload, 1) := by decide +kernel
theorem d_LW_law_37 : decode code 37 = .ok (.bipush 31, 2) := by decide +kernel
theorem d_LW_law_39 : decode code 39 = .ok (.iand, 1) := by decide +kernel
theorem d_LW_law_40 : decode code 40 = .ok (.tableswitch 780 0 20 #[100, 176, 201, 229, 257, 285, 322, 335, 363, 376, 404, 429, 469, 497, 525, 578, 631, 659, 672, 712, 752], 100) := by decide +kernel
theorem d_LW_law_820 : decode code 820 = .ok (.iinc 4 6, 3) := by decide +kernel
theorem d_LW_law_823 : decode code 823 = .ok (.goto (-800), 3) := by decide +kernel
theorem d_LW_law_826 : decode code 826 = .ok (.iconst 1, 1) := by decide +kernel
theorem d_LW_law_827 : decode code 827 = .ok (.ireturn, 1) := by decide +kernel
theorem LR_wk {T : Int} {L : List Nat} {isA : Nat → Bool} {bk : Nat → Nat} {sc : Nat → Int32} {qa : Nat → Nat → Option Nat} {rf : Nat → Nat → Int32} {sm : Nat → Int32} {im : Nat → Nat → Int32} (h : LR T L isA bk sc qa rf sm im) (hT : T + 1000 ≤ 1000000) : LR (T + 1000) L isA bk sc qa rf sm im := by
  obtain ⟨h1, ⟨N, h2⟩, h3, h4⟩ := h
  exact ⟨h1, ⟨N, MI_wk h2 (by omega) hT⟩, h3, h4⟩
theorem lw_len {n : Nat} (h : n ≤ 3072) : (Int32.ofNat n - 6).toInt = (n : Int) - 6 := by
  have e1 : (Int32.ofNat n).toInt = (n : Int) := nI_toInt (n := n) (by omega)
  have e2 : (6 : Int32).toInt = 6 := by decide
  rw [ti_sub, e1, e2] <;> rw [e1, e2] <;> omega
set_option maxHeartbeats 8000000 in
set_option maxRecDepth 100000 in
theorem lw_loop {p : Program} {l : Launch} {e : Env} {s : State} {m : MethodId} {below : List Frame} {meth : Method} {c : Code} {A : Nat → Prop} {b : Nat} {xs : Nat → Int32} (dC : Nat → ClassId) (dI : Nat → Nat → Nat) (cd : Nat → Nat) (kI kQ kJ kZ : ClassId) (ou g0 : Nat) (ad : Nat → Nat) (Ln : Nat) (hLn : Ln ≤ 3072) (hX : va_X b Ln xs s s.heap) (hl9 : l.stackTraces = false) (hx : p.tables.exec = Jvm.exec) (hb : c.code = code) (hr : meth.sig.returnType = ret) (hlocks : meth.locks = false) (hbl : b < s.heap.size) (hbA : ¬ A b) (hAB : ∀ q, A q → s.heap.size ≤ q) (hml : c.maxLocals = 8) (hown : s.vm.findClass R_LW = some m.cls) (ht : ∀ w ∈ tb_, w.before #[Value.ref b] s = true) (hA : ∀ q : Nat, s.heap.size ≤ q → A q) (hBs : s.heap.size ≤ s.heap.size) (hV : tw_V s.heap.size s s.heap) (hK : va_K (dC, dI) cls_ (LT kI kQ kJ kZ) s) :
    ∀ (n k : Nat) (L : List Nat) (isA : Nat → Bool) (bk : Nat → Nat) (sc : Nat → Int32) (ia : Nat → Nat → Int32) (qa : Nat → Nat → Option Nat) (rf ba : Nat → Nat → Int32) (g : Nat → Int64) (sm : Nat → Int32) (im : Nat → Nat → Int32) (H : Heap) (locs : List Loc) (ls : Array Slot), Ln ≤ 6 * k + 6 * n + 5 → k ≤ 512 → LR (1000 * (k : Int)) L isA bk sc qa rf sm im → va_P (dC, dI) cls_ (LWd cd kI kQ kJ kZ ou g0 ad L isA bk sc ia qa rf ba g sm im) H → va_D A (LWd cd kI kQ kJ kZ ou g0 ad L isA bk sc ia qa rf ba g sm im) → va_S A s.heap H locs → lv_has ls 8 [(4, .int (nI (6 * k))), (3, .ref ou), (2, .ref g0), (1, .ref (cd 0)), (0, .ref b)] → W p l e room_1 s m #[Value.ref b] below meth c H locs (38 + 3 * k) (14124 + 29 * k) (lw_Z below #[Value.ref b] s) (F0 m 23 ls []) := by
  intro n
  induction n with
  | zero =>
    intro k L isA bk sc ia qa rf ba g sm im H locs ls hn hk hR hP hD hS hl
    refine lv_iload hx hb d_LW_law_23 (lv_at hl 0 rfl) ?_
    refine lv_aload_n hx hb d_LW_law_25 rfl (lv_at hl 4 rfl) ?_
    refine va_slen hx hb hX hbl hbA hS d_LW_law_26 ?_
    refine lv_bipush (v := 6) hx hb d_LW_law_27 (by decide) ?_
    refine lv_isub hx hb d_LW_law_29 ?_
    have e9 := lw_len hLn
    have e8 : (nI (6 * k)).toInt = ((6 * k : Nat) : Int) := nI_toInt (by omega)
    refine lv_icmp_gt (tgt := 826) hx hb d_LW_law_30 (by decide) (fun h => ?_) (fun h => ?_)
    · have h := h
      refine lv_iconst (v := 1) hx hb d_LW_law_826 (by decide) ?_
      refine va_forget (fun q h => hAB _ (hS.2.2 q h)) ?_
      refine W.widen (k := 601024) (n := 7293033) (by omega) (by omega) ?_
      exact lw_ret hx hb hr hlocks d_LW_law_827
    · have h := ti_nlt h
      rw [e9, e8] at h
      exact absurd hn (by omega)
  | succ n ih =>
    intro k L isA bk sc ia qa rf ba g sm im H locs ls hn hk hR hP hD hS hl
    refine lv_iload hx hb d_LW_law_23 (lv_at hl 0 rfl) ?_
    refine lv_aload_n hx hb d_LW_law_25 rfl (lv_at hl 4 rfl) ?_
    refine va_slen hx hb hX hbl hbA hS d_LW_law_26 ?_
    refine lv_bipush (v := 6) hx hb d_LW_law_27 (by decide) ?_
    refine lv_isub hx hb d_LW_law_29 ?_
    have e9 := lw_len hLn
    have e8 : (nI (6 * k)).toInt = ((6 * k : Nat) : Int) := nI_toInt (by omega)
    refine lv_icmp_gt (tgt := 826) hx hb d_LW_law_30 (by decide) (fun h => ?_) (fun h => ?_)
    · have h := h
      refine lv_iconst (v := 1) hx hb d_LW_law_826 (by decide) ?_
      refine va_forget (fun q h => hAB _ (hS.2.2 q h)) ?_
      refine W.widen (k := 601024) (n := 7293033) (by omega) (by omega) ?_
      exact lw_ret hx hb hr hlocks d_LW_law_827
    · have h := ti_nlt h
      rw [e9, e8] at h
      have hi : 6 * k + 6 ≤ Ln := by omega
      have hT : 1000 * (k : Int) + 1000 ≤ 1000000 := by omega
      have kk : ∀ (L : List Nat) (isA : Nat → Bool) (bk : Nat → Nat) (sc : Nat → Int32) (ia : Nat → Nat → Int32) (qa : Nat → Nat → Option Nat) (rf ba : Nat → Nat → Int32) (g : Nat → Int64) (sm : Nat → Int32) (im : Nat → Nat → Int32) (H : Heap) (locs : List Loc) (ls : Array Slot), LR (1000 * (k : Int) + 1000) L isA bk sc qa rf sm im → va_P (dC, dI) cls_ (LWd cd kI kQ kJ kZ ou g0 ad L isA bk sc ia qa rf ba g sm im) H → va_D A (LWd cd kI kQ kJ kZ ou g0 ad L isA bk sc ia qa rf ba g sm im) → va_S A s.heap H locs → lv_has ls 8 [(4, .int (nI (6 * k))), (3, .ref ou), (2, .ref g0), (1, .ref (cd 0)), (0, .ref b)] → W p l e room_1 s m #[Value.ref b] below meth c H locs (38 + 3 * k + 3) (14124 + 29 * k + 29) (lw_Z below #[Value.ref b] s) (F0 m 820 ls []) := by
        intro L isA bk sc ia qa rf ba g sm im H locs ls hR hP hD hS hl
        refine lv_iinc (k := 0) (v := nI (6 * (k + 1))) hx hb d_LW_law_820 hl rfl (by rw [show Int32.ofInt 6 = nI 6 from rfl, nI_add, show 6 * (k + 1) = 6 * k + 6 by omega]) (by decide) rfl (fun ls hl => ?_)
        have hl : lv_has ls 8 [(4, .int (nI (6 * (k + 1)))), (3, .ref ou), (2, .ref g0), (1, .ref (cd 0)), (0, .ref b)] := hl
        refine lv_goto (tgt := 23) hx hb d_LW_law_823 (by decide) ?_
        refine W.cs (cells' := 38 + 3 * (k + 1)) (slots' := 14124 + 29 * (k + 1)) (by omega) (by omega) ?_
        refine ih (k + 1) L isA bk sc ia qa rf ba g sm im H locs ls (by omega) (by omega) ?_ hP hD hS hl
        rw [show 1000 * ((k + 1 : Nat) : Int) = 1000 * (k : Int) + 1000 by omega]; exact hR
      refine lv_aload_n hx hb d_LW_law_33 rfl (lv_at hl 4 rfl) ?_
      refine lv_iload hx hb d_LW_law_34 (lv_at hl 0 rfl) ?_
      refine va_sld hx hb hX hbl hbA hS (vp_in_nI (show 6 * k < Ln by omega) (by omega)) d_LW_law_36 ?_
      refine W.eq (g2 := F0 m 37 ls [.int (xs (6 * k))]) (by rw [nI_clamp (show 6 * k < 2 ^ 31 by omega)]) ?_
      refine lv_bipush (v := 31) hx hb d_LW_law_37 (by decide) ?_
      refine lv_iand hx hb d_LW_law_39 ?_
      obtain ⟨j, hj, ej⟩ := pk_andE (xs (6 * k)) (m := 31) 5 (by decide)
      refine lv_topi (fun v1 ev1 => ?_)
      obtain rfl : v1 = nI j := ev1.trans (ej)
      match j, hj with
      | 0, _ =>
        refine lv_tableIn (off := 100) (tgt := 140) hx hb d_LW_law_40 (by decide) (by decide) (by decide) (by decide) ?_
        exact cs_0 dC dI cd kI kQ kJ kZ ou g0 ad (6 * k) Ln hi hLn hX (38 + 3 * k) (14124 + 29 * k) (by omega) (by omega) (1000 * (k : Int)) hT hl9 hx hb hr hlocks hbl hbA hAB hml hown ht hA hBs hV hK kk L isA bk sc ia qa rf ba g sm im H locs ls hR hP hD hS hl
      | 1, _ =>
        refine lv_tableIn (off := 176) (tgt := 216) hx hb d_LW_law_40 (by decide) (by decide) (by decide) (by decide) ?_
        exact cs_1 dC dI cd kI kQ kJ kZ ou g0 ad (6 * k) Ln hi hLn hX (38 + 3 * k) (14124 + 29 * k) (by omega) (by omega) (1000 * (k : Int)) hT hl9 hx hb hr hlocks hbl hbA hAB hml hown ht hA hBs hV hK kk L isA bk sc ia qa rf ba g sm im H locs ls hR hP hD hS hl
      | 2, _ =>
        refine lv_tableIn (off := 201) (tgt := 241) hx hb d_LW_law_40 (by decide) (by decide) (by decide) (by decide) ?_
        exact cs_2 dC dI cd kI kQ kJ kZ ou g0 ad (6 * k) Ln hi hLn hX (38 + 3 * k) (14124 + 29 * k) (by omega) (by omega) (1000 * (k : Int)) hT hl9 hx hb hr hlocks hbl hbA hAB hml hown ht hA hBs hV hK kk L isA bk sc ia qa rf ba g sm im H locs ls hR hP hD hS hl
      | 3, _ =>
        refine lv_tableIn (off := 229) (tgt := 269) hx hb d_LW_law_40 (by decide) (by decide) (by decide) (by decide) ?_
        exact cs_3 dC dI cd kI kQ kJ kZ ou g0 ad (6 * k) Ln hi hLn hX (38 + 3 * k) (14124 + 29 * k) (by omega) (by omega) (1000 * (k : Int)) hT hl9 hx hb hr hlocks hbl hbA hAB hml hown ht hA hBs hV hK kk L isA bk sc ia qa rf ba g sm im H locs ls hR hP hD hS hl
      | 4, _ =>
        refine lv_tableIn (off := 257) (tgt := 297) hx hb d_LW_law_40 (by decide) (by decide) (by decide) (by decide) ?_
        exact cs_4 dC dI cd kI kQ kJ kZ ou g0 ad (6 * k) Ln hi hLn hX (38 + 3 * k) (14124 + 29 * k) (by omega) (by omega) (1000 * (k : Int)) hT hl9 hx hb hr hlocks hbl hbA hAB hml hown ht hA hBs hV hK kk L isA bk sc ia qa rf ba g sm im H locs ls hR hP hD hS hl
      | 5, _ =>
        refine lv_tableIn (off := 285) (tgt := 325) hx hb d_LW_law_40 (by decide) (by decide) (by decide) (by decide) ?_
        exact cs_5 dC dI cd kI kQ kJ kZ ou g0 ad (6 * k) Ln hi hLn hX (38 + 3 * k) (14124 + 29 * k) (by omega) (by omega) (1000 * (k : Int)) hT hl9 hx hb hr hlocks hbl hbA hAB hml hown ht hA hBs hV hK kk L isA bk sc ia qa rf ba g sm im H locs ls hR hP hD hS hl
      | 6, _ =>
        refine lv_tableIn (off := 322) (tgt := 362) hx hb d_LW_law_40 (by decide) (by decide) (by decide) (by decide) ?_
        exact cs_6 dC dI cd kI kQ kJ kZ ou g0 ad (6 * k) Ln hi hLn hX (38 + 3 * k) (14124 + 29 * k) (by omega) (by omega) (1000 * (k : Int)) hT hl9 hx hb hr hlocks hbl hbA hAB hml hown ht hA hBs hV hK kk L isA bk sc ia qa rf ba g sm im H locs ls hR hP hD hS hl
      | 7, _ =>
        refine lv_tableIn (off := 335) (tgt := 375) hx hb d_LW_law_40 (by decide) (by decide) (by decide) (by decide) ?_
        exact cs_7 dC dI cd kI kQ kJ kZ ou g0 ad (6 * k) Ln hi hLn hX (38 + 3 * k) (14124 + 29 * k) (by omega) (by omega) (1000 * (k : Int)) hT hl9 hx hb hr hlocks hbl hbA hAB hml hown ht hA hBs hV hK kk L isA bk sc ia qa rf ba g sm im H locs ls hR hP hD hS hl
      | 8, _ =>
        refine lv_tableIn (off := 363) (tgt := 403) hx hb d_LW_law_40 (by decide) (by decide) (by decide) (by decide) ?_
        exact cs_8 dC dI cd kI kQ kJ kZ ou g0 ad (6 * k) Ln hi hLn hX (38 + 3 * k) (14124 + 29 * k) (by omega) (by omega) (1000 * (k : Int)) hT hl9 hx hb hr hlocks hbl hbA hAB hml hown ht hA hBs hV hK kk L isA bk sc ia qa rf ba g sm im H locs ls hR hP hD hS hl
      | 9, _ =>
        refine lv_tableIn (off := 376) (tgt := 416) hx hb d_LW_law_40 (by decide) (by decide) (by decide) (by decide) ?_
        exact cs_9 dC dI cd kI kQ kJ kZ ou g0 ad (6 * k) Ln hi hLn hX (38 + 3 * k) (14124 + 29 * k) (by omega) (by omega) (1000 * (k : Int)) hT hl9 hx hb hr hlocks hbl hbA hAB hml hown ht hA hBs hV hK kk L isA bk sc ia qa rf ba g sm im H locs ls hR hP hD hS hl
      | 10, _ =>
        refine lv_tableIn (off := 404) (tgt := 444) hx hb d_LW_law_40 (by decide) (by decide) (by decide) (by decide) ?_
        exact cs_10 dC dI cd kI kQ kJ kZ ou g0 ad (6 * k) Ln hi hLn hX (38 + 3 * k) (14124 + 29 * k) (by omega) (by omega) (1000 * (k : Int)) hT hl9 hx hb hr hlocks hbl hbA hAB hml hown ht hA hBs hV hK kk L isA bk sc ia qa rf ba g sm im H locs ls hR hP hD hS hl
      | 11, _ =>
        refine lv_tableIn (off := 429) (tgt := 469) hx hb d_LW_law_40 (by decide) (by decide) (by decide) (by decide) ?_
        exact cs_11 dC dI cd kI kQ kJ kZ ou g0 ad (6 * k) Ln hi hLn hX (38 + 3 * k) (14124 + 29 * k) (by omega) (by omega) (1000 * (k : Int)) hT hl9 hx hb hr hlocks hbl hbA hAB hml hown ht hA hBs hV hK kk L isA bk sc ia qa rf ba g sm im H locs ls hR hP hD hS hl
      | 12, _ =>
        refine lv_tableIn (off := 469) (tgt := 509) hx hb d_LW_law_40 (by decide) (by decide) (by decide) (by decide) ?_
        exact cs_12 dC dI cd kI kQ kJ kZ ou g0 ad (6 * k) Ln hi hLn hX (38 + 3 * k) (14124 + 29 * k) (by omega) (by omega) (1000 * (k : Int)) hT hl9 hx hb hr hlocks hbl hbA hAB hml hown ht hA hBs hV hK kk L isA bk sc ia qa rf ba g sm im H locs ls hR hP hD hS hl
      | 13, _ =>
        refine lv_tableIn (off := 497) (tgt := 537) hx hb d_LW_law_40 (by decide) (by decide) (by decide) (by decide) ?_
        exact cs_13 dC dI cd kI kQ kJ kZ ou g0 ad (6 * k) Ln hi hLn hX (38 + 3 * k) (14124 + 29 * k) (by omega) (by omega) (1000 * (k : Int)) hT hl9 hx hb hr hlocks hbl hbA hAB hml hown ht hA hBs hV hK kk L isA bk sc ia qa rf ba g sm im H locs ls hR hP hD hS hl
      | 14, _ =>
        refine lv_tableIn (off := 525) (tgt := 565) hx hb d_LW_law_40 (by decide) (by decide) (by decide) (by decide) ?_
        exact cs_14 dC dI cd kI kQ kJ kZ ou g0 ad (6 * k) Ln hi hLn hX (38 + 3 * k) (14124 + 29 * k) (by omega) (by omega) (1000 * (k : Int)) hT hl9 hx hb hr hlocks hbl hbA hAB hml hown ht hA hBs hV hK kk L isA bk sc ia qa rf ba g sm im H locs ls hR hP hD hS hl
      | 15, _ =>
        refine lv_tableIn (off := 578) (tgt := 618) hx hb d_LW_law_40 (by decide) (by decide) (by decide) (by decide) ?_
        exact cs_15 dC dI cd kI kQ kJ kZ ou g0 ad (6 * k) Ln hi hLn hX (38 + 3 * k) (14124 + 29 * k) (by omega) (by omega) (1000 * (k : Int)) hT hl9 hx hb hr hlocks hbl hbA hAB hml hown ht hA hBs hV hK kk L isA bk sc ia qa rf ba g sm im H locs ls hR hP hD hS hl
      | 16, _ =>
        refine lv_tableIn (off := 631) (tgt := 671) hx hb d_LW_law_40 (by decide) (by decide) (by decide) (by decide) ?_
        exact cs_16 dC dI cd kI kQ kJ kZ ou g0 ad (6 * k) Ln hi hLn hX (38 + 3 * k) (14124 + 29 * k) (by omega) (by omega) (1000 * (k : Int)) hT hl9 hx hb hr hlocks hbl hbA hAB hml hown ht hA hBs hV hK kk L isA bk sc ia qa rf ba g sm im H locs ls hR hP hD hS hl
      | 17, _ =>
        refine lv_tableIn (off := 659) (tgt := 699) hx hb d_LW_law_40 (by decide) (by decide) (by decide) (by decide) ?_
        exact cs_17 dC dI cd kI kQ kJ kZ ou g0 ad (6 * k) Ln hi hLn hX (38 + 3 * k) (14124 + 29 * k) (by omega) (by omega) (1000 * (k : Int)) hT hl9 hx hb hr hlocks hbl hbA hAB hml hown ht hA hBs hV hK kk L isA bk sc ia qa rf ba g sm im H locs ls hR hP hD hS hl
      | 18, _ =>
        refine lv_tableIn (off := 672) (tgt := 712) hx hb d_LW_law_40 (by decide) (by decide) (by decide) (by decide) ?_
        exact cs_18 dC dI cd kI kQ kJ kZ ou g0 ad (6 * k) Ln hi hLn hX (38 + 3 * k) (14124 + 29 * k) (by omega) (by omega) (1000 * (k : Int)) hT hl9 hx hb hr hlocks hbl hbA hAB hml hown ht hA hBs hV hK kk L isA bk sc ia qa rf ba g sm im H locs ls hR hP hD hS hl
      | 19, _ =>
        refine lv_tableIn (off := 712) (tgt := 752) hx hb d_LW_law_40 (by decide) (by decide) (by decide) (by decide) ?_
        exact cs_19 dC dI cd kI kQ kJ kZ ou g0 ad (6 * k) Ln hi hLn hX (38 + 3 * k) (14124 + 29 * k) (by omega) (by omega) (1000 * (k : Int)) hT hl9 hx hb hr hlocks hbl hbA hAB hml hown ht hA hBs hV hK kk L isA bk sc ia qa rf ba g sm im H locs ls hR hP hD hS hl
      | 20, _ =>
        refine lv_tableIn (off := 752) (tgt := 792) hx hb d_LW_law_40 (by decide) (by decide) (by decide) (by decide) ?_
        exact cs_20 dC dI cd kI kQ kJ kZ ou g0 ad (6 * k) Ln hi hLn hX (38 + 3 * k) (14124 + 29 * k) (by omega) (by omega) (1000 * (k : Int)) hT hl9 hx hb hr hlocks hbl hbA hAB hml hown ht hA hBs hV hK kk L isA bk sc ia qa rf ba g sm im H locs ls hR hP hD hS hl
      | 21, _ =>
        refine lv_tableOut (tgt := 820) hx hb d_LW_law_40 (by decide) (by decide) ?_
        refine W.widen (k := 38 + 3 * k + 3) (n := 14124 + 29 * k + 29) (by omega) (by omega) ?_
        exact kk L isA bk sc ia qa rf ba g sm im H locs ls (LR_wk hR hT) hP hD hS hl
      | 22, _ =>
        refine lv_tableOut (tgt := 820) hx hb d_LW_law_40 (by decide) (by decide) ?_
        refine W.widen (k := 38 + 3 * k + 3) (n := 14124 + 29 * k + 29) (by omega) (by omega) ?_
        exact kk L isA bk sc ia qa rf ba g sm im H locs ls (LR_wk hR hT) hP hD hS hl
      | 23, _ =>
        refine lv_tableOut (tgt := 820) hx hb d_LW_law_40 (by decide) (by decide) ?_
        refine W.widen (k := 38 + 3 * k + 3) (n := 14124 + 29 * k + 29) (by omega) (by omega) ?_
        exact kk L isA bk sc ia qa rf ba g sm im H locs ls (LR_wk hR hT) hP hD hS hl
      | 24, _ =>
        refine lv_tableOut (tgt := 820) hx hb d_LW_law_40 (by decide) (by decide) ?_
        refine W.widen (k := 38 + 3 * k + 3) (n := 14124 + 29 * k + 29) (by omega) (by omega) ?_
        exact kk L isA bk sc ia qa rf ba g sm im H locs ls (LR_wk hR hT) hP hD hS hl
      | 25, _ =>
        refine lv_tableOut (tgt := 820) hx hb d_LW_law_40 (by decide) (by decide) ?_
        refine W.widen (k := 38 + 3 * k + 3) (n := 14124 + 29 * k + 29) (by omega) (by omega) ?_
        exact kk L isA bk sc ia qa rf ba g sm im H locs ls (LR_wk hR hT) hP hD hS hl
      | 26, _ =>
        refine lv_tableOut (tgt := 820) hx hb d_LW_law_40 (by decide) (by decide) ?_
        refine W.widen (k := 38 + 3 * k + 3) (n := 14124 + 29 * k + 29) (by omega) (by omega) ?_
        exact kk L isA bk sc ia qa rf ba g sm im H locs ls (LR_wk hR hT) hP hD hS hl
      | 27, _ =>
        refine lv_tableOut (tgt := 820) hx hb d_LW_law_40 (by decide) (by decide) ?_
        refine W.widen (k := 38 + 3 * k + 3) (n := 14124 + 29 * k + 29) (by omega) (by omega) ?_
        exact kk L isA bk sc ia qa rf ba g sm im H locs ls (LR_wk hR hT) hP hD hS hl
      | 28, _ =>
        refine lv_tableOut (tgt := 820) hx hb d_LW_law_40 (by decide) (by decide) ?_
        refine W.widen (k := 38 + 3 * k + 3) (n := 14124 + 29 * k + 29) (by omega) (by omega) ?_
        exact kk L isA bk sc ia qa rf ba g sm im H locs ls (LR_wk hR hT) hP hD hS hl
      | 29, _ =>
        refine lv_tableOut (tgt := 820) hx hb d_LW_law_40 (by decide) (by decide) ?_
        refine W.widen (k := 38 + 3 * k + 3) (n := 14124 + 29 * k + 29) (by omega) (by omega) ?_
        exact kk L isA bk sc ia qa rf ba g sm im H locs ls (LR_wk hR hT) hP hD hS hl
      | 30, _ =>
        refine lv_tableOut (tgt := 820) hx hb d_LW_law_40 (by decide) (by decide) ?_
        refine W.widen (k := 38 + 3 * k + 3) (n := 14124 + 29 * k + 29) (by omega) (by omega) ?_
        exact kk L isA bk sc ia qa rf ba g sm im H locs ls (LR_wk hR hT) hP hD hS hl
      | 31, _ =>
        refine lv_tableOut (tgt := 820) hx hb d_LW_law_40 (by decide) (by decide) ?_
        refine W.widen (k := 38 + 3 * k + 3) (n := 14124 + 29 * k + 29) (by omega) (by omega) ?_
        exact kk L isA bk sc ia qa rf ba g sm im H locs ls (LR_wk hR hT) hP hD hS hl
      | n + 32, h => exact absurd h (by omega)
