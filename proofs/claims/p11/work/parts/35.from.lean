set_option maxRecDepth 100000 in
theorem tb_15 : (.classLink "TwinTunersLaw" 8 "TwinTuners" : Cond) ∈ tb_ := tb_w 15 rfl rfl
set_option maxRecDepth 100000 in
theorem tb_16 : (.instantiable "TwinTuners" 8 : Cond) ∈ tb_ := tb_w 16 rfl rfl
set_option maxRecDepth 100000 in
theorem tb_17 : (.methodLink "TwinTunersLaw" 73 ⟨"TwinTuners", "<init>", "()V"⟩ : Cond) ∈ tb_ := tb_w 17 rfl rfl
set_option maxRecDepth 100000 in
theorem tb_18 : (.instanceMethod ⟨"TwinTuners", "<init>", "()V"⟩ : Cond) ∈ tb_ := tb_w 18 rfl rfl
set_option maxRecDepth 100000 in
theorem tb_625 : (.classLink "TwinTunersLaw" 74 "TwinTunersModel" : Cond) ∈ tb_ := tb_w 625 rfl rfl
set_option maxRecDepth 100000 in
theorem tb_626 : (.instantiable "TwinTunersModel" 30 : Cond) ∈ tb_ := tb_w 626 rfl rfl
set_option maxRecDepth 100000 in
theorem tb_627 : (.methodLink "TwinTunersLaw" 76 ⟨"TwinTunersModel", "<init>", "()V"⟩ : Cond) ∈ tb_ := tb_w 627 rfl rfl
set_option maxRecDepth 100000 in
theorem tb_628 : (.instanceMethod ⟨"TwinTunersModel", "<init>", "()V"⟩ : Cond) ∈ tb_ := tb_w 628 rfl rfl
set_option maxRecDepth 100000 in
theorem tb_922 : (.arrayClass .long : Cond) ∈ tb_ := tb_w 922 rfl rfl
theorem d_LW_law_0 : decode code 0 = .ok (.new 8, 3) := by decide +kernel
theorem d_LW_law_3 : decode code 3 = .ok (.dup, 1) := by decide +kernel
theorem d_LW_law_4 : decode code 4 = .ok (.invokespecial 73, 3) := by decide +kernel
theorem d_LW_law_7 : decode code 7 = .ok (.astore_n 1, 1) := by decide +kernel
theorem d_LW_law_8 : decode code 8 = .ok (.new 74, 3) := by decide +kernel
theorem d_LW_law_11 : decode code 11 = .ok (.dup, 1) := by decide +kernel
theorem d_LW_law_12 : decode code 12 = .ok (.invokespecial 76, 3) := by decide +kernel
theorem d_LW_law_15 : decode code 15 = .ok (.astore_n 2, 1) := by decide +kernel
theorem d_LW_law_16 : decode code 16 = .ok (.iconst 1, 1) := by decide +kernel
theorem d_LW_law_17 : decode code 17 = .ok (.newarray .long, 2) := by decide +kernel
theorem d_LW_law_19 : decode code 19 = .ok (.astore_n 3, 1) := by decide +kernel
theorem d_LW_law_20 : decode code 20 = .ok (.iconst 0, 1) := by decide +kernel
theorem d_LW_law_21 : decode code 21 = .ok (.istore 4, 2) := by decide +kernel
theorem lw_w {w : Cond} (i : Nat) (h : tables_1[i]? = some w) : w ∈ lw_tbl := List.mem_append_right _ (List.mem_of_getElem? h)
theorem tw_Sof {s : State} {args : Array Value} {k : Nat} {tx : String} (h1 : (Cond.stringRef "TwinTuners" k tx).before args s = true) (h2 : (Cond.exactly (.string "TwinTuners" k) "java/lang/String").before args s = true) : tw_S k tx s := by
  obtain ⟨a, c, cA, kA, q1, -⟩ := Cond.exactly_spec (args := args) (first := s) (o := none) (s := s) (idx := []) (t := .string "TwinTuners" k) (cls := "java/lang/String") h2
  exact ⟨a, vk_R.of (A := args) h1 q1⟩
theorem tw_N.of {s : State} {args : Array Value} {a b : String} (h : (Cond.not (.castable a b)).before args s = true) : tw_N a b s := by
  simp only [Cond.before, Cond.holds, Cond.value] at h
  cases hc : s.vm.findClass a with
  | none => simp [hc] at h
  | some c1 =>
    cases ht : s.vm.findClass b with
    | none => simp [hc, ht] at h
    | some c2 => exact ⟨c1, c2, hc, ht, by simpa [hc, ht] using h⟩
/-- at the start -/
theorem CI_0 : CI 0 [] (fun _ => false) (fun _ => 0) (fun k => match k with | 2 => -1 | _ => 0) (fun _ _ => none) (fun _ _ => 0) := by
  refine ⟨⟨by decide, rfl⟩, by decide, ⟨0, by decide, rfl, fun i h => absurd h (Nat.not_lt_zero i)⟩, by decide, by decide, fun i h => absurd h (Nat.not_lt_zero i), fun a h => absurd h (List.not_mem_nil)⟩
theorem MI_0 : MI 0 0 (fun k => match k with | 2 => -1 | _ => 0) (fun _ _ => 0) := by
  refine ⟨by decide, by decide, ⟨by decide, rfl⟩, by decide, by decide, by decide, fun i _ => rfl, fun i h => absurd h (Nat.not_lt_zero i)⟩
theorem k_all {s : State} {args : Array Value} (ht : ∀ w ∈ tb_, w.before args s = true) : ∃ (dC : Nat → ClassId) (dI : Nat → Nat → Nat), va_K (dC, dI) cls_ [] s := by
  obtain ⟨c0, i0, K0⟩ := u_known (N := 8) ht in_TT (ht _ tb_16)
  obtain ⟨c1, i1, K1⟩ := u_known (N := 2) ht in_PL (ht _ tb_26)
  obtain ⟨c2, i2, K2⟩ := u_known (N := 4) ht in_DK (ht _ tb_41)
  obtain ⟨c3, i3, K3⟩ := u_known (N := 3) ht in_RW (ht _ tb_60)
  obtain ⟨c4, i4, K4⟩ := u_known (N := 17) ht in_RQ (ht _ tb_367)
  obtain ⟨c5, i5, K5⟩ := u_known (N := 30) ht in_MO (ht _ tb_626)
  refine ⟨fun k => match k with | 0 => c0 | 1 => c1 | 2 => c2 | 3 => c3 | 4 => c4 | _ => c5, fun k => match k with | 0 => i0 | 1 => i1 | 2 => i2 | 3 => i3 | 4 => i4 | _ => i5, fun c q hq => ?_, fun k q h => by cases h⟩
  match c, hq with
    | 0, h => cases h; exact K0
    | 1, h => cases h; exact K1
    | 2, h => cases h; exact K2
    | 3, h => cases h; exact K3
    | 4, h => cases h; exact K4
    | 5, h => cases h; exact K5
    | n + 6, h => cases h
set_option maxHeartbeats 8000000 in
set_option maxRecDepth 100000 in
theorem lw_from {p : Program} {l : Launch} {e : Env} {s : State} {m : MethodId} {below : List Frame} {meth : Method} {c : Code} {A : Nat → Prop} {b : Nat} {xs : Nat → Int32} (dC : Nat → ClassId) (dI : Nat → Nat → Nat) (g0 m3 m5 m6 m7 m8 m9 m10 m11 m12 m13 m14 m15 m16 m17 m18 m19 m20 m22 m23 m24 m25 m26 m27 m29 ou h0 rq oa pl od dk d1 d2 d3 d4 rw r1 : Nat) (j3 j5 j6 j7 j8 j9 j10 j11 j12 j13 j14 j15 j16 j17 j18 j19 j20 j22 j23 j24 j25 j26 j27 j29 kJ k1 k2 k3 k4 k5 k6 k7 k8 : ClassId) (Ln : Nat) (hLn : Ln ≤ 3072) (hX : va_X b Ln xs s s.heap) (hl9 : l.stackTraces = false) (hx : p.tables.exec = Jvm.exec) (hb : c.code = code) (hr : meth.sig.returnType = ret) (hlocks : meth.locks = false) (hbl : b < s.heap.size) (hbA : ¬ A b) (hAB : ∀ q, A q → s.heap.size ≤ q) (hml : c.maxLocals = 8) (hown : s.vm.findClass R_LW = some m.cls) (ht : ∀ w ∈ tb_, w.before #[Value.ref b] s = true) (hA : ∀ q : Nat, s.heap.size ≤ q → A q) (hBs : s.heap.size ≤ s.heap.size) (hV : tw_V s.heap.size s s.heap) (H : Heap) (locs : List Loc) (ls : Array Slot) (hK : va_K (dC, dI) cls_ [(j3, .int), (j5, .int), (j6, .int), (j7, .int), (j8, .int), (j9, .int), (j10, .int), (j11, .int), (j12, .int), (j13, .int), (j14, .int), (j15, .boolean), (j16, .boolean), (j17, .boolean), (j18, .int), (j19, .boolean), (j20, .boolean), (j22, .int), (j23, .int), (j24, .int), (j25, .boolean), (j26, .int), (j27, .int), (j29, .int), (kJ, .long), (k1, .object "TwinTuners$Request"), (k2, .int), (k3, .object "TwinTuners$Request"), (k4, .int), (k5, .int), (k6, .int), (k7, .int), (k8, .int)] s) (hP : va_P (dC, dI) cls_ [(g0, .inr (5, [.int 0, .int 0, .int (-1), .ref m3, .int 0, .ref m5, .ref m6, .ref m7, .ref m8, .ref m9, .ref m10, .ref m11, .ref m12, .ref m13, .ref m14, .ref m15, .ref m16, .ref m17, .ref m18, .ref m19, .ref m20, .int 0, .ref m22, .ref m23, .ref m24, .ref m25, .ref m26, .ref m27, .int 0, .ref m29])), (m3, .inl (j3, 8, .inl (fun _ => 0))), (m5, .inl (j5, 40, .inl (fun _ => 0))), (m6, .inl (j6, 40, .inl (fun _ => 0))), (m7, .inl (j7, 40, .inl (fun _ => 0))), (m8, .inl (j8, 40, .inl (fun _ => 0))), (m9, .inl (j9, 40, .inl (fun _ => 0))), (m10, .inl (j10, 40, .inl (fun _ => 0))), (m11, .inl (j11, 40, .inl (fun _ => 0))), (m12, .inl (j12, 40, .inl (fun _ => 0))), (m13, .inl (j13, 40, .inl (fun _ => 0))), (m14, .inl (j14, 40, .inl (fun _ => 0))), (m15, .inl (j15, 40, .inl (fun _ => 0))), (m16, .inl (j16, 40, .inl (fun _ => 0))), (m17, .inl (j17, 4000, .inl (fun _ => 0))), (m18, .inl (j18, 4000, .inl (fun _ => 0))), (m19, .inl (j19, 4000, .inl (fun _ => 0))), (m20, .inl (j20, 1000, .inl (fun _ => 0))), (m22, .inl (j22, 60, .inl (fun _ => 0))), (m23, .inl (j23, 60, .inl (fun _ => 0))), (m24, .inl (j24, 60, .inl (fun _ => 0))), (m25, .inl (j25, 40, .inl (fun _ => 0))), (m26, .inl (j26, 40, .inl (fun _ => 0))), (m27, .inl (j27, 40, .inl (fun _ => 0))), (m29, .inl (j29, 30, .inl (fun _ => 0))), (ou, .inl (kJ, 1, .inr (.inl (fun _ => 0)))), (h0, .inr (0, [.ref rq, .ref oa, .ref pl, .ref dk, .ref rw, .int 0, .int 0, .int (-1)])), (rq, .inl (k1, 40, .inr (.inr (.inr (.inr (fun _ => none)))))), (oa, .inl (k2, 8, .inl (fun _ => 0))), (pl, .inr (1, [.ref od, .int 0])), (od, .inl (k3, 12, .inr (.inr (.inr (.inr (fun _ => none)))))), (dk, .inr (2, [.ref d1, .ref d2, .ref d3, .ref d4])), (d1, .inl (k4, 24, .inl (fun _ => -1))), (d2, .inl (k5, 24, .inl (fun _ => 0))), (d3, .inl (k6, 24, .inl (fun _ => 0))), (d4, .inl (k7, 96, .inl (fun _ => 0))), (rw, .inr (3, [.ref r1, .int 0, .int 0])), (r1, .inl (k8, 30, .inl (fun _ => 0)))] H) (hD : va_D A [(g0, .inr (5, [.int 0, .int 0, .int (-1), .ref m3, .int 0, .ref m5, .ref m6, .ref m7, .ref m8, .ref m9, .ref m10, .ref m11, .ref m12, .ref m13, .ref m14, .ref m15, .ref m16, .ref m17, .ref m18, .ref m19, .ref m20, .int 0, .ref m22, .ref m23, .ref m24, .ref m25, .ref m26, .ref m27, .int 0, .ref m29])), (m3, .inl (j3, 8, .inl (fun _ => 0))), (m5, .inl (j5, 40, .inl (fun _ => 0))), (m6, .inl (j6, 40, .inl (fun _ => 0))), (m7, .inl (j7, 40, .inl (fun _ => 0))), (m8, .inl (j8, 40, .inl (fun _ => 0))), (m9, .inl (j9, 40, .inl (fun _ => 0))), (m10, .inl (j10, 40, .inl (fun _ => 0))), (m11, .inl (j11, 40, .inl (fun _ => 0))), (m12, .inl (j12, 40, .inl (fun _ => 0))), (m13, .inl (j13, 40, .inl (fun _ => 0))), (m14, .inl (j14, 40, .inl (fun _ => 0))), (m15, .inl (j15, 40, .inl (fun _ => 0))), (m16, .inl (j16, 40, .inl (fun _ => 0))), (m17, .inl (j17, 4000, .inl (fun _ => 0))), (m18, .inl (j18, 4000, .inl (fun _ => 0))), (m19, .inl (j19, 4000, .inl (fun _ => 0))), (m20, .inl (j20, 1000, .inl (fun _ => 0))), (m22, .inl (j22, 60, .inl (fun _ => 0))), (m23, .inl (j23, 60, .inl (fun _ => 0))), (m24, .inl (j24, 60, .inl (fun _ => 0))), (m25, .inl (j25, 40, .inl (fun _ => 0))), (m26, .inl (j26, 40, .inl (fun _ => 0))), (m27, .inl (j27, 40, .inl (fun _ => 0))), (m29, .inl (j29, 30, .inl (fun _ => 0))), (ou, .inl (kJ, 1, .inr (.inl (fun _ => 0)))), (h0, .inr (0, [.ref rq, .ref oa, .ref pl, .ref dk, .ref rw, .int 0, .int 0, .int (-1)])), (rq, .inl (k1, 40, .inr (.inr (.inr (.inr (fun _ => none)))))), (oa, .inl (k2, 8, .inl (fun _ => 0))), (pl, .inr (1, [.ref od, .int 0])), (od, .inl (k3, 12, .inr (.inr (.inr (.inr (fun _ => none)))))), (dk, .inr (2, [.ref d1, .ref d2, .ref d3, .ref d4])), (d1, .inl (k4, 24, .inl (fun _ => -1))), (d2, .inl (k5, 24, .inl (fun _ => 0))), (d3, .inl (k6, 24, .inl (fun _ => 0))), (d4, .inl (k7, 96, .inl (fun _ => 0))), (rw, .inr (3, [.ref r1, .int 0, .int 0])), (r1, .inl (k8, 30, .inl (fun _ => 0)))]) (hS : va_S A s.heap H locs) (hl : lv_has ls 8 [(4, .int 0), (3, .ref ou), (2, .ref g0), (1, .ref h0), (0, .ref b)]) : W p l e room_1 s m #[Value.ref b] below meth c H locs 38 14124 (lw_Z below #[Value.ref b] s) (F0 m 23 ls []) := by
  obtain rfl : k2 = j3 := kk_eq hK 26 0 rfl rfl
  obtain rfl : k2 = j5 := kk_eq hK 26 1 rfl rfl
  obtain rfl : k2 = j6 := kk_eq hK 26 2 rfl rfl
  obtain rfl : k2 = j7 := kk_eq hK 26 3 rfl rfl
  obtain rfl : k2 = j8 := kk_eq hK 26 4 rfl rfl
  obtain rfl : k2 = j9 := kk_eq hK 26 5 rfl rfl
  obtain rfl : k2 = j10 := kk_eq hK 26 6 rfl rfl
  obtain rfl : k2 = j11 := kk_eq hK 26 7 rfl rfl
  obtain rfl : k2 = j12 := kk_eq hK 26 8 rfl rfl
  obtain rfl : k2 = j13 := kk_eq hK 26 9 rfl rfl
  obtain rfl : k2 = j14 := kk_eq hK 26 10 rfl rfl
  obtain rfl : j15 = j16 := kk_eq hK 11 12 rfl rfl
  obtain rfl : j15 = j17 := kk_eq hK 11 13 rfl rfl
  obtain rfl : k2 = j18 := kk_eq hK 26 14 rfl rfl
  obtain rfl : j15 = j19 := kk_eq hK 11 15 rfl rfl
  obtain rfl : j15 = j20 := kk_eq hK 11 16 rfl rfl
  obtain rfl : k2 = j22 := kk_eq hK 26 17 rfl rfl
  obtain rfl : k2 = j23 := kk_eq hK 26 18 rfl rfl
  obtain rfl : k2 = j24 := kk_eq hK 26 19 rfl rfl
  obtain rfl : j15 = j25 := kk_eq hK 11 20 rfl rfl
  obtain rfl : k2 = j26 := kk_eq hK 26 21 rfl rfl
  obtain rfl : k2 = j27 := kk_eq hK 26 22 rfl rfl
  obtain rfl : k2 = j29 := kk_eq hK 26 23 rfl rfl
  obtain rfl : k1 = k3 := kk_eq hK 25 27 rfl rfl
  obtain rfl : k2 = k4 := kk_eq hK 26 28 rfl rfl
  obtain rfl : k2 = k5 := kk_eq hK 26 29 rfl rfl
  obtain rfl : k2 = k6 := kk_eq hK 26 30 rfl rfl
  obtain rfl : k2 = k7 := kk_eq hK 26 31 rfl rfl
  obtain rfl : k2 = k8 := kk_eq hK 26 32 rfl rfl
  have hK : va_K (dC, dI) cls_ (LT k2 k1 kJ j15) s := hK.sub (tys' := LT k2 k1 kJ j15) [26, 25, 24, 11] rfl
  obtain ⟨cd, e0, e1, e2, e3, e4, e5, e6, e7, e8, e9, e10, e11⟩ : ∃ cd : Nat → Nat, cd 0 = h0 ∧ cd 1 = rq ∧ cd 2 = oa ∧ cd 3 = pl ∧ cd 4 = od ∧ cd 5 = dk ∧ cd 6 = d1 ∧ cd 7 = d2 ∧ cd 8 = d3 ∧ cd 9 = d4 ∧ cd 10 = rw ∧ cd 11 = r1 := ⟨fun k => [h0, rq, oa, pl, od, dk, d1, d2, d3, d4, rw, r1].getD k 0, rfl, rfl, rfl, rfl, rfl, rfl, rfl, rfl, rfl, rfl, rfl, rfl⟩
  subst e0
  subst e1
  subst e2
  subst e3
  subst e4
  subst e5
  subst e6
  subst e7
  subst e8
  subst e9
  subst e10
  subst e11
  obtain ⟨ad, f3, f5, f6, f7, f8, f9, f10, f11, f12, f13, f14, f15, f16, f17, f18, f19, f20, f22, f23, f24, f25, f26, f27, f29⟩ : ∃ ad : Nat → Nat, ad 3 = m3 ∧ ad 5 = m5 ∧ ad 6 = m6 ∧ ad 7 = m7 ∧ ad 8 = m8 ∧ ad 9 = m9 ∧ ad 10 = m10 ∧ ad 11 = m11 ∧ ad 12 = m12 ∧ ad 13 = m13 ∧ ad 14 = m14 ∧ ad 15 = m15 ∧ ad 16 = m16 ∧ ad 17 = m17 ∧ ad 18 = m18 ∧ ad 19 = m19 ∧ ad 20 = m20 ∧ ad 22 = m22 ∧ ad 23 = m23 ∧ ad 24 = m24 ∧ ad 25 = m25 ∧ ad 26 = m26 ∧ ad 27 = m27 ∧ ad 29 = m29 := ⟨fun k => [0, 0, 0, m3, 0, m5, m6, m7, m8, m9, m10, m11, m12, m13, m14, m15, m16, m17, m18, m19, m20, 0, m22, m23, m24, m25, m26, m27, 0, m29].getD k 0, rfl, rfl, rfl, rfl, rfl, rfl, rfl, rfl, rfl, rfl, rfl, rfl, rfl, rfl, rfl, rfl, rfl, rfl, rfl, rfl, rfl, rfl, rfl, rfl⟩
  subst f3
  subst f5
  subst f6
  subst f7
  subst f8
  subst f9
  subst f10
  subst f11
  subst f12
  subst f13
  subst f14
  subst f15
  subst f16
  subst f17
  subst f18
  subst f19
  subst f20
  subst f22
  subst f23
  subst f24
  subst f25
  subst f26
  subst f27
  subst f29
  have hP : va_P (dC, dI) cls_ (LWd cd k2 k1 kJ j15 ou g0 ad [] (fun _ => false) (fun _ => 0) (fun k => match k with | 2 => -1 | _ => 0) (fun k _ => match k with | 1 => -1 | _ => 0) (fun _ _ => none) (fun _ _ => 0) (fun _ _ => 0) (fun _ => 0) (fun k => match k with | 2 => -1 | _ => 0) (fun _ _ => 0)) H := hP
  have hD : va_D A (LWd cd k2 k1 kJ j15 ou g0 ad [] (fun _ => false) (fun _ => 0) (fun k => match k with | 2 => -1 | _ => 0) (fun k _ => match k with | 1 => -1 | _ => 0) (fun _ _ => none) (fun _ _ => 0) (fun _ _ => 0) (fun _ => 0) (fun k => match k with | 2 => -1 | _ => 0) (fun _ _ => 0)) := hD
  refine W.cs (cells' := 38 + 3 * 0) (slots' := 14124 + 29 * 0) rfl rfl ?_
  exact lw_loop dC dI cd k2 k1 kJ j15 ou g0 ad Ln hLn hX hl9 hx hb hr hlocks hbl hbA hAB hml hown ht hA hBs hV hK 512 0 [] (fun _ => false) (fun _ => 0) (fun k => match k with | 2 => -1 | _ => 0) (fun k _ => match k with | 1 => -1 | _ => 0) (fun _ _ => none) (fun _ _ => 0) (fun _ _ => 0) (fun _ => 0) (fun k => match k with | 2 => -1 | _ => 0) (fun _ _ => 0) H locs ls (by omega) (by omega) ⟨⟨0, CI_0⟩, ⟨0, MI_0⟩, rfl, rfl⟩ hP hD hS hl
