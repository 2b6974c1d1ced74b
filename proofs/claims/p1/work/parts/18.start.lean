set_option maxRecDepth 100000 in
theorem tb_15 : (.classLink "TwinTunersLaw" 8 "TwinTuners" : Cond) ∈ tb_ := tb_w 15 rfl rfl
set_option maxRecDepth 100000 in
theorem tb_16 : (.instantiable "TwinTuners" 8 : Cond) ∈ tb_ := tb_w 16 rfl rfl
set_option maxRecDepth 100000 in
theorem tb_17 : (.methodLink "TwinTunersLaw" 73 ⟨"TwinTuners", "<init>", "()V"⟩ : Cond) ∈ tb_ := tb_w 17 rfl rfl
set_option maxRecDepth 100000 in
theorem tb_18 : (.instanceMethod ⟨"TwinTuners", "<init>", "()V"⟩ : Cond) ∈ tb_ := tb_w 18 rfl rfl
set_option maxRecDepth 100000 in
theorem tb_625 : (.classLink "TwinTunersLaw" 74 "TwinTunersModel" : Cond) ∈ tb_ := tb_w 625 rfl rfl
set_option maxRecDepth 100000 in
theorem tb_626 : (.instantiable "TwinTunersModel" 30 : Cond) ∈ tb_ := tb_w 626 rfl rfl
set_option maxRecDepth 100000 in
theorem tb_627 : (.methodLink "TwinTunersLaw" 76 ⟨"TwinTunersModel", "<init>", "()V"⟩ : Cond) ∈ tb_ := tb_w 627 rfl rfl
set_option maxRecDepth 100000 in
theorem tb_628 : (.instanceMethod ⟨"TwinTunersModel", "<init>", "()V"⟩ : Cond) ∈ tb_ := tb_w 628 rfl rfl
set_option maxRecDepth 100000 in
theorem tb_922 : (.arrayClass .long : Cond) ∈ tb_ := tb_w 922 rfl rfl
theorem d_LW_law_0 : decode code 0 = .ok (.new 8, 3) := by decide +kernel
theorem d_LW_law_3 : decode code 3 = .ok (.dup, 1) := by decide +kernel
theorem d_LW_law_4 : decode code 4 = .ok (.invokespecial 73, 3) := by decide +kernel
theorem d_LW_law_7 : decode code 7 = .ok (.astore_n 1, 1) := by decide +kernel
theorem d_LW_law_8 : decode code 8 = .ok (.new 74, 3) := by decide +kernel
theorem d_LW_law_11 : decode code 11 = .ok (.dup, 1) := by decide +kernel
theorem d_LW_law_12 : decode code 12 = .ok (.invokespecial 76, 3) := by decide +kernel
theorem d_LW_law_15 : decode code 15 = .ok (.astore_n 2, 1) := by decide +kernel
theorem d_LW_law_16 : decode code 16 = .ok (.iconst 1, 1) := by decide +kernel
theorem d_LW_law_17 : decode code 17 = .ok (.newarray .long, 2) := by decide +kernel
theorem d_LW_law_19 : decode code 19 = .ok (.astore_n 3, 1) := by decide +kernel
theorem d_LW_law_20 : decode code 20 = .ok (.iconst 0, 1) := by decide +kernel
theorem d_LW_law_21 : decode code 21 = .ok (.istore 4, 2) := by decide +kernel
theorem d_LW_law_33 : decode code 33 = .ok (.aload_n 0, 1) := by decide +kernel
theorem d_LW_law_34 : decode code 34 = .ok (.iload 4, 2) := by decide +kernel
theorem d_LW_law_36 : decode code 36 = .ok (.iaload, 1) := by decide +kernel
theorem d_LW_law_37 : decode code 37 = .ok (.bipush 31, 2) := by decide +kernel
theorem d_LW_law_39 : decode code 39 = .ok (.iand, 1) := by decide +kernel
theorem d_LW_law_40 : decode code 40 = .ok (.tableswitch 1188 0 20 #[100, 204, 240, 296, 352, 408, 456, 469, 525, 538, 594, 620, 687, 743, 799, 863, 927, 983, 996, 1064, 1132], 100) := by decide +kernel
theorem lw_w {w : Cond} (i : Nat) (h : tables_1[i]? = some w) : w ∈ lw_tbl := List.mem_append_right _ (List.mem_of_getElem? h)
theorem lt6 : ∀ n, n < 6 → Int32.ofNat n - 6 < 0 := by decide
theorem tw_Sof {s : State} {args : Array Value} {k : Nat} {tx : String} (h1 : (Cond.stringRef "TwinTuners" k tx).before args s = true) (h2 : (Cond.exactly (.string "TwinTuners" k) "java/lang/String").before args s = true) : tw_S k tx s := by
  obtain ⟨a, c, cA, kA, q1, -⟩ := Cond.exactly_spec (args := args) (first := s) (o := none) (s := s) (idx := []) (t := .string "TwinTuners" k) (cls := "java/lang/String") h2
  exact ⟨a, vk_R.of (A := args) h1 q1⟩
theorem k_all {s : State} {args : Array Value} (ht : ∀ w ∈ tb_, w.before args s = true) : ∃ (dC : Nat → ClassId) (dI : Nat → Nat → Nat), va_K (dC, dI) cls_ [] s := by
  obtain ⟨c0, i0, K0⟩ := u_known (N := 8) ht in_TT (ht _ tb_16)
  obtain ⟨c1, i1, K1⟩ := u_known (N := 2) ht in_PL (ht _ tb_26)
  obtain ⟨c2, i2, K2⟩ := u_known (N := 4) ht in_DK (ht _ tb_41)
  obtain ⟨c3, i3, K3⟩ := u_known (N := 3) ht in_RW (ht _ tb_60)
  obtain ⟨c4, i4, K4⟩ := u_known (N := 17) ht in_RQ (ht _ tb_367)
  obtain ⟨c5, i5, K5⟩ := u_known (N := 30) ht in_MO (ht _ tb_626)
  refine ⟨fun k => match k with | 0 => c0 | 1 => c1 | 2 => c2 | 3 => c3 | 4 => c4 | _ => c5, fun k => match k with | 0 => i0 | 1 => i1 | 2 => i2 | 3 => i3 | 4 => i4 | _ => i5, fun c q hq => ?_, fun k q h => by cases h⟩
  match c, hq with
    | 0, h => cases h; exact K0
    | 1, h => cases h; exact K1
    | 2, h => cases h; exact K2
    | 3, h => cases h; exact K3
    | 4, h => cases h; exact K4
    | 5, h => cases h; exact K5
    | n + 6, h => cases h
set_option maxHeartbeats 4000000 in
set_option maxRecDepth 100000 in
theorem whole_start {p : Program} {e : Env} {s : State} {m : MethodId} {below : List Frame} {meth : Method} {c : Code} (l : Launch) (hl9 : l.stackTraces = false) {b L : Nat} {xs : Nat → Int32} (hL : L ≤ 6) (C0 : lw_At p s m meth c b L xs) : W p l e room_1 s m #[Value.ref b] below meth c s.heap [] 0 0 (lw_Z below #[Value.ref b] s) (entryFrame m ([Value.ref b] : List Value).toArray 8) := by
  obtain ⟨hx, hb, hr, hml, hown, hts, hX, hbl, hlocks, hgv⟩ := C0
  have hown : s.vm.findClass R_LW = some m.cls := hown
  have ht : ∀ w ∈ tb_, w.before #[Value.ref b] s = true := fun w h => hts w (List.mem_filter.mp h).1
  have hs := flat_of_before _ hgv
  obtain ⟨A, hAe⟩ : ∃ A : Nat → Prop, A = fun q => s.heap.size ≤ q := ⟨_, rfl⟩
  have hA : ∀ q : Nat, s.heap.size ≤ q → A q := fun q h => by rw [hAe]; exact h
  have hAB : ∀ q, A q → s.heap.size ≤ q := fun q h => by rw [hAe] at h; exact h
  have hBs : s.heap.size ≤ s.heap.size := Nat.le_refl _
  have hbA : ¬ A b := fun h => absurd hbl (Nat.not_lt.mpr (hAB b h))
  have hV : tw_V s.heap.size s s.heap := ⟨⟨va_Nw.of rfl (hts _ (lw_w 282 rfl)), va_Nw.of rfl (hts _ (lw_w 284 rfl)), va_Nw.of rfl (hts _ (lw_w 286 rfl))⟩, ⟨va_Nw.of rfl (hts _ (lw_w 280 rfl)), va_Nw.of rfl (hts _ (lw_w 462 rfl))⟩, ⟨va_Nw.of rfl (hts _ (lw_w 27 rfl)), va_Nw.of rfl (hts _ (lw_w 61 rfl))⟩, va_AO.of (hts _ (lw_w 24 rfl)), ⟨tw_Sof (hts _ (lw_w 319 rfl)) (hs _ (by decide +kernel)), tw_Sof (hts _ (lw_w 469 rfl)) (hs _ (by decide +kernel)), tw_Sof (hts _ (lw_w 510 rfl)) (hs _ (by decide +kernel)), tw_Sof (hts _ (lw_w 518 rfl)) (hs _ (by decide +kernel)), tw_Sof (hts _ (lw_w 617 rfl)) (hs _ (by decide +kernel))⟩, tw_Z.of (hts _ (lw_w 305 rfl)) (hs _ (by decide +kernel)), tw_Z.of (hts _ (lw_w 307 rfl)) (hs _ (by decide +kernel))⟩
  obtain ⟨dC, dI, hK⟩ := k_all ht
  have hP : va_P (dC, dI) cls_ [] s.heap := fun k q h => by cases h
  have hD : va_D A [] := ⟨fun i j p q h => by (cases h), fun k q h => by (cases h)⟩
  have hS : va_S A s.heap s.heap [] := va_S.rf
  have hl := lv_entry ([.ref b]) (n := 8) (Nat.le_of_ble_eq_true rfl)
  rw [lg_entry_eq]
  generalize (lg_sl ([.ref b]) ++ List.replicate (8 - (lg_sl ([.ref b])).length) Slot.unset).toArray = ls at hl ⊢
  have hl : lv_has ls 8 [(0, .ref b)] := hl
  refine va_new (ci := 0) (fs := [.null, .null, .null, .null, .null, .int 0, .int 0, .int 0]) (C := R_TT) (T := F_TT) (N := 8) hx hb ht in_TT t_TT t_TT_ok hown (ht _ tb_15) (ht _ tb_16) (ht _ tb_1) hK hP hD hS hA rfl (fun j hj => fs_TT j hj) (Nat.le_of_ble_eq_true rfl) (Nat.le_of_ble_eq_true rfl) d_LW_law_0 (fun q1 H hP hD hS => ?_)
  have hP : va_P (dC, dI) cls_ [(q1, .inr (0, [.null, .null, .null, .null, .null, .int 0, .int 0, .int 0]))] H := hP
  have hD : va_D A [(q1, .inr (0, [.null, .null, .null, .null, .null, .int 0, .int 0, .int 0]))] := hD
  refine W.cs (cells' := 1) (slots' := 8) rfl rfl ?_
  refine lv_dup hx hb d_LW_law_3 rfl ?_
  have hPc := hP.sub (ws' := [(q1, .inr (0, [.null, .null, .null, .null, .null, .int 0, .int 0, .int 0]))]) [0] rfl
  have hKc := hK.sub (tys' := []) [] rfl
  have hDc := hD.sub (ws' := [(q1, .inr (0, [.null, .null, .null, .null, .null, .int 0, .int 0, .int 0]))]) [0] (by decide) rfl
  have hFc := va_free (wc := [(q1, .inr (0, [.null, .null, .null, .null, .null, .int 0, .int 0, .int 0]))]) hD hS hA [0] rfl
  refine fr_call (va_runI (As := []) (rest := [.ref q1]) ⟨hx, hb, hml, hown, ht⟩ (c_TT_init_mk l dC dI H.size s.heap.size q1) (cwI 0 ht (gI tb_19) rfl rfl rfl (ht _ tb_1) (ht _ tb_17) (ht _ tb_18) rfl (by decide +kernel) ⟨Nat.le_of_ble_eq_true rfl, Nat.le_of_ble_eq_true rfl⟩) ⟨frP_blind, fr_pre hPc hKc hDc hAB hBs hS hV⟩ rfl rfl hl.1 rfl (lv_room (Nat.le_of_ble_eq_true rfl)) d_LW_law_4 ⟨Nat.le_of_ble_eq_true rfl, Nat.le_of_ble_eq_true rfl⟩) hS (fun q _ h => hFc q h) hFc (fun t H1 locs ht1 hvm hB1 hz1 hk1 hS => ?_)
  obtain ⟨rq2, oa3, pl4, dk5, rw6, k7, k8, q9, d10, d11, d12, d13, k14, r15, hP1, hK1, hD1⟩ := hB1
  rw [ht1] at hP1
  have hK1 := va_K.moved hvm.symm hK1
  obtain ⟨hP, hD⟩ := va_join (wr := []) (w1 := [(q1, .inr (0, [.ref rq2, .ref oa3, .ref pl4, .ref dk5, .ref rw6, .int 0, .int 0, .int (-1)])), (rq2, .inl (k7, 40, .inr (.inr (.inr (.inr (fun _ => none)))))), (oa3, .inl (k8, 8, .inl (fun _ => 0))), (pl4, .inr (1, [.ref q9, .int 0])), (dk5, .inr (2, [.ref d10, .ref d11, .ref d12, .ref d13])), (d10, .inl (k14, 24, .inl (fun _ => -1))), (rw6, .inr (3, [.ref r15, .int 0, .int 0]))]) hP hD [0] [] rfl rfl (by decide) (by decide) hk1 hFc hP1 hD1
  have hK := hK.app hK1
  generalize H1 = H at hP hS ⊢
  have hP : va_P (dC, dI) cls_ [(q1, .inr (0, [.ref rq2, .ref oa3, .ref pl4, .ref dk5, .ref rw6, .int 0, .int 0, .int (-1)])), (rq2, .inl (k7, 40, .inr (.inr (.inr (.inr (fun _ => none)))))), (oa3, .inl (k8, 8, .inl (fun _ => 0))), (pl4, .inr (1, [.ref q9, .int 0])), (dk5, .inr (2, [.ref d10, .ref d11, .ref d12, .ref d13])), (d10, .inl (k14, 24, .inl (fun _ => -1))), (rw6, .inr (3, [.ref r15, .int 0, .int 0]))] H := hP
  have hD : va_D A [(q1, .inr (0, [.ref rq2, .ref oa3, .ref pl4, .ref dk5, .ref rw6, .int 0, .int 0, .int (-1)])), (rq2, .inl (k7, 40, .inr (.inr (.inr (.inr (fun _ => none)))))), (oa3, .inl (k8, 8, .inl (fun _ => 0))), (pl4, .inr (1, [.ref q9, .int 0])), (dk5, .inr (2, [.ref d10, .ref d11, .ref d12, .ref d13])), (d10, .inl (k14, 24, .inl (fun _ => -1))), (rw6, .inr (3, [.ref r15, .int 0, .int 0]))] := hD
  have hK : va_K (dC, dI) cls_ [(k7, .object "TwinTuners$Request"), (k8, .int), (k14, .int)] s := hK
  refine W.eq (g2 := F0 m 7 ls [.ref q1]) rfl ?_
  refine W.cs (cells' := 12) (slots' := 275) rfl rfl ?_
  refine lv_astore_n hx hb d_LW_law_7 rfl hl (by decide) rfl (fun ls hl => ?_)
  have hl : lv_has ls 8 [(1, .ref q1), (0, .ref b)] := hl
  refine va_new (ci := 5) (fs := [.int 0, .int 0, .int 0, .null, .int 0, .null, .null, .null, .null, .null, .null, .null, .null, .null, .null, .null, .null, .null, .null, .null, .null, .int 0, .null, .null, .null, .null, .null, .null, .int 0, .null]) (C := R_MO) (T := F_MO) (N := 30) hx hb ht in_MO t_MO t_MO_ok hown (ht _ tb_625) (ht _ tb_626) (ht _ tb_5) hK hP hD hS hA rfl (fun j hj => fs_MO j hj) (Nat.le_of_ble_eq_true rfl) (Nat.le_of_ble_eq_true rfl) d_LW_law_8 (fun q16 H hP hD hS => ?_)
  have hP : va_P (dC, dI) cls_ [(q1, .inr (0, [.ref rq2, .ref oa3, .ref pl4, .ref dk5, .ref rw6, .int 0, .int 0, .int (-1)])), (rq2, .inl (k7, 40, .inr (.inr (.inr (.inr (fun _ => none)))))), (oa3, .inl (k8, 8, .inl (fun _ => 0))), (pl4, .inr (1, [.ref q9, .int 0])), (dk5, .inr (2, [.ref d10, .ref d11, .ref d12, .ref d13])), (d10, .inl (k14, 24, .inl (fun _ => -1))), (rw6, .inr (3, [.ref r15, .int 0, .int 0])), (q16, .inr (5, [.int 0, .int 0, .int 0, .null, .int 0, .null, .null, .null, .null, .null, .null, .null, .null, .null, .null, .null, .null, .null, .null, .null, .null, .int 0, .null, .null, .null, .null, .null, .null, .int 0, .null]))] H := hP
  have hD : va_D A [(q1, .inr (0, [.ref rq2, .ref oa3, .ref pl4, .ref dk5, .ref rw6, .int 0, .int 0, .int (-1)])), (rq2, .inl (k7, 40, .inr (.inr (.inr (.inr (fun _ => none)))))), (oa3, .inl (k8, 8, .inl (fun _ => 0))), (pl4, .inr (1, [.ref q9, .int 0])), (dk5, .inr (2, [.ref d10, .ref d11, .ref d12, .ref d13])), (d10, .inl (k14, 24, .inl (fun _ => -1))), (rw6, .inr (3, [.ref r15, .int 0, .int 0])), (q16, .inr (5, [.int 0, .int 0, .int 0, .null, .int 0, .null, .null, .null, .null, .null, .null, .null, .null, .null, .null, .null, .null, .null, .null, .null, .null, .int 0, .null, .null, .null, .null, .null, .null, .int 0, .null]))] := hD
  refine W.cs (cells' := 13) (slots' := 305) rfl rfl ?_
  refine lv_dup hx hb d_LW_law_11 rfl ?_
  have hPc := hP.sub (ws' := [(q16, .inr (5, [.int 0, .int 0, .int 0, .null, .int 0, .null, .null, .null, .null, .null, .null, .null, .null, .null, .null, .null, .null, .null, .null, .null, .null, .int 0, .null, .null, .null, .null, .null, .null, .int 0, .null]))]) [7] rfl
  have hKc := hK.sub (tys' := []) [] rfl
  have hDc := hD.sub (ws' := [(q16, .inr (5, [.int 0, .int 0, .int 0, .null, .int 0, .null, .null, .null, .null, .null, .null, .null, .null, .null, .null, .null, .null, .null, .null, .null, .null, .int 0, .null, .null, .null, .null, .null, .null, .int 0, .null]))]) [7] (by decide) rfl
  have hFc := va_free (wc := [(q16, .inr (5, [.int 0, .int 0, .int 0, .null, .int 0, .null, .null, .null, .null, .null, .null, .null, .null, .null, .null, .null, .null, .null, .null, .null, .null, .int 0, .null, .null, .null, .null, .null, .null, .int 0, .null]))]) hD hS hA [7] rfl
  refine fr_call (va_runI (As := []) (rest := [.ref q16]) ⟨hx, hb, hml, hown, ht⟩ (c_MO_init_mk l dC dI H.size s.heap.size q16) (cwI 0 ht (gI tb_629) rfl rfl rfl (ht _ tb_5) (ht _ tb_627) (ht _ tb_628) rfl (by decide +kernel) ⟨Nat.le_of_ble_eq_true rfl, Nat.le_of_ble_eq_true rfl⟩) ⟨frP_blind, fr_pre hPc hKc hDc hAB hBs hS hV⟩ rfl rfl hl.1 rfl (lv_room (Nat.le_of_ble_eq_true rfl)) d_LW_law_12 ⟨Nat.le_of_ble_eq_true rfl, Nat.le_of_ble_eq_true rfl⟩) hS (fun q _ h => hFc q h) hFc (fun t H1 locs ht1 hvm hB1 hz1 hk1 hS => ?_)
  obtain ⟨m17, m18, m19, m20, m21, m22, m23, m24, m25, m26, m27, m28, m29, m30, m31, m32, m33, m34, m35, m36, m37, m38, m39, m40, j41, j42, j43, j44, j45, j46, j47, hP1, hK1, hD1⟩ := hB1
  rw [ht1] at hP1
  have hK1 := va_K.moved hvm.symm hK1
  obtain ⟨hP, hD⟩ := va_join (wr := [(q1, .inr (0, [.ref rq2, .ref oa3, .ref pl4, .ref dk5, .ref rw6, .int 0, .int 0, .int (-1)])), (rq2, .inl (k7, 40, .inr (.inr (.inr (.inr (fun _ => none)))))), (oa3, .inl (k8, 8, .inl (fun _ => 0))), (pl4, .inr (1, [.ref q9, .int 0])), (dk5, .inr (2, [.ref d10, .ref d11, .ref d12, .ref d13])), (d10, .inl (k14, 24, .inl (fun _ => -1))), (rw6, .inr (3, [.ref r15, .int 0, .int 0]))]) (w1 := [(q16, .inr (5, [.int 0, .int 0, .int (-1), .ref m17, .int 0, .ref m18, .ref m19, .ref m20, .ref m21, .ref m22, .ref m23, .ref m24, .ref m25, .ref m26, .ref m27, .ref m28, .ref m29, .ref m30, .ref m31, .ref m32, .ref m33, .int 0, .ref m34, .ref m35, .ref m36, .ref m37, .ref m38, .ref m39, .int 0, .ref m40])), (m17, .inl (j41, 8, .inl (fun _ => 0))), (m18, .inl (j42, 40, .inl (fun _ => 0))), (m19, .inl (j43, 40, .inl (fun _ => 0))), (m20, .inl (j44, 40, .inl (fun _ => 0))), (m21, .inl (j45, 40, .inl (fun _ => 0))), (m22, .inl (j46, 40, .inl (fun _ => 0))), (m23, .inl (j47, 40, .inl (fun _ => 0)))]) hP hD [7] [0, 1, 2, 3, 4, 5, 6] rfl rfl (by decide) (by decide) hk1 hFc hP1 hD1
  have hK := hK.app hK1
  generalize H1 = H at hP hS ⊢
  have hP : va_P (dC, dI) cls_ [(q1, .inr (0, [.ref rq2, .ref oa3, .ref pl4, .ref dk5, .ref rw6, .int 0, .int 0, .int (-1)])), (rq2, .inl (k7, 40, .inr (.inr (.inr (.inr (fun _ => none)))))), (oa3, .inl (k8, 8, .inl (fun _ => 0))), (pl4, .inr (1, [.ref q9, .int 0])), (dk5, .inr (2, [.ref d10, .ref d11, .ref d12, .ref d13])), (d10, .inl (k14, 24, .inl (fun _ => -1))), (rw6, .inr (3, [.ref r15, .int 0, .int 0])), (q16, .inr (5, [.int 0, .int 0, .int (-1), .ref m17, .int 0, .ref m18, .ref m19, .ref m20, .ref m21, .ref m22, .ref m23, .ref m24, .ref m25, .ref m26, .ref m27, .ref m28, .ref m29, .ref m30, .ref m31, .ref m32, .ref m33, .int 0, .ref m34, .ref m35, .ref m36, .ref m37, .ref m38, .ref m39, .int 0, .ref m40])), (m17, .inl (j41, 8, .inl (fun _ => 0))), (m18, .inl (j42, 40, .inl (fun _ => 0))), (m19, .inl (j43, 40, .inl (fun _ => 0))), (m20, .inl (j44, 40, .inl (fun _ => 0))), (m21, .inl (j45, 40, .inl (fun _ => 0))), (m22, .inl (j46, 40, .inl (fun _ => 0))), (m23, .inl (j47, 40, .inl (fun _ => 0)))] H := hP
  have hD : va_D A [(q1, .inr (0, [.ref rq2, .ref oa3, .ref pl4, .ref dk5, .ref rw6, .int 0, .int 0, .int (-1)])), (rq2, .inl (k7, 40, .inr (.inr (.inr (.inr (fun _ => none)))))), (oa3, .inl (k8, 8, .inl (fun _ => 0))), (pl4, .inr (1, [.ref q9, .int 0])), (dk5, .inr (2, [.ref d10, .ref d11, .ref d12, .ref d13])), (d10, .inl (k14, 24, .inl (fun _ => -1))), (rw6, .inr (3, [.ref r15, .int 0, .int 0])), (q16, .inr (5, [.int 0, .int 0, .int (-1), .ref m17, .int 0, .ref m18, .ref m19, .ref m20, .ref m21, .ref m22, .ref m23, .ref m24, .ref m25, .ref m26, .ref m27, .ref m28, .ref m29, .ref m30, .ref m31, .ref m32, .ref m33, .int 0, .ref m34, .ref m35, .ref m36, .ref m37, .ref m38, .ref m39, .int 0, .ref m40])), (m17, .inl (j41, 8, .inl (fun _ => 0))), (m18, .inl (j42, 40, .inl (fun _ => 0))), (m19, .inl (j43, 40, .inl (fun _ => 0))), (m20, .inl (j44, 40, .inl (fun _ => 0))), (m21, .inl (j45, 40, .inl (fun _ => 0))), (m22, .inl (j46, 40, .inl (fun _ => 0))), (m23, .inl (j47, 40, .inl (fun _ => 0)))] := hD
  have hK : va_K (dC, dI) cls_ [(k7, .object "TwinTuners$Request"), (k8, .int), (k14, .int), (j41, .int), (j42, .int), (j43, .int), (j44, .int), (j45, .int), (j46, .int), (j47, .int)] s := hK
  refine W.eq (g2 := F0 m 15 ls [.ref q16]) rfl ?_
  refine W.cs (cells' := 37) (slots' := 14123) rfl rfl ?_
  refine lv_astore_n hx hb d_LW_law_15 rfl hl (by decide) rfl (fun ls hl => ?_)
  have hl : lv_has ls 8 [(2, .ref q16), (1, .ref q1), (0, .ref b)] := hl
  refine lv_iconst (v := 1) hx hb d_LW_law_16 (by decide) ?_
  refine va_newa (atype := .long) (N' := 1) (a0 := (1, .inr (.inl (fun _ => 0)))) (ty := .long) (n := 1) hx hb (ht _ tb_922) rfl hK hP hD hS hA (fun _ => rfl) (by decide) (by decide) (by decide) (Nat.le_of_ble_eq_true rfl) (Nat.le_of_ble_eq_true rfl) d_LW_law_17 (fun q48 k49 H hK hP hD hS => ?_)
  have hP : va_P (dC, dI) cls_ [(q1, .inr (0, [.ref rq2, .ref oa3, .ref pl4, .ref dk5, .ref rw6, .int 0, .int 0, .int (-1)])), (rq2, .inl (k7, 40, .inr (.inr (.inr (.inr (fun _ => none)))))), (oa3, .inl (k8, 8, .inl (fun _ => 0))), (pl4, .inr (1, [.ref q9, .int 0])), (dk5, .inr (2, [.ref d10, .ref d11, .ref d12, .ref d13])), (d10, .inl (k14, 24, .inl (fun _ => -1))), (rw6, .inr (3, [.ref r15, .int 0, .int 0])), (q16, .inr (5, [.int 0, .int 0, .int (-1), .ref m17, .int 0, .ref m18, .ref m19, .ref m20, .ref m21, .ref m22, .ref m23, .ref m24, .ref m25, .ref m26, .ref m27, .ref m28, .ref m29, .ref m30, .ref m31, .ref m32, .ref m33, .int 0, .ref m34, .ref m35, .ref m36, .ref m37, .ref m38, .ref m39, .int 0, .ref m40])), (m17, .inl (j41, 8, .inl (fun _ => 0))), (m18, .inl (j42, 40, .inl (fun _ => 0))), (m19, .inl (j43, 40, .inl (fun _ => 0))), (m20, .inl (j44, 40, .inl (fun _ => 0))), (m21, .inl (j45, 40, .inl (fun _ => 0))), (m22, .inl (j46, 40, .inl (fun _ => 0))), (m23, .inl (j47, 40, .inl (fun _ => 0))), (q48, .inl (k49, 1, .inr (.inl (fun _ => 0))))] H := hP
  have hD : va_D A [(q1, .inr (0, [.ref rq2, .ref oa3, .ref pl4, .ref dk5, .ref rw6, .int 0, .int 0, .int (-1)])), (rq2, .inl (k7, 40, .inr (.inr (.inr (.inr (fun _ => none)))))), (oa3, .inl (k8, 8, .inl (fun _ => 0))), (pl4, .inr (1, [.ref q9, .int 0])), (dk5, .inr (2, [.ref d10, .ref d11, .ref d12, .ref d13])), (d10, .inl (k14, 24, .inl (fun _ => -1))), (rw6, .inr (3, [.ref r15, .int 0, .int 0])), (q16, .inr (5, [.int 0, .int 0, .int (-1), .ref m17, .int 0, .ref m18, .ref m19, .ref m20, .ref m21, .ref m22, .ref m23, .ref m24, .ref m25, .ref m26, .ref m27, .ref m28, .ref m29, .ref m30, .ref m31, .ref m32, .ref m33, .int 0, .ref m34, .ref m35, .ref m36, .ref m37, .ref m38, .ref m39, .int 0, .ref m40])), (m17, .inl (j41, 8, .inl (fun _ => 0))), (m18, .inl (j42, 40, .inl (fun _ => 0))), (m19, .inl (j43, 40, .inl (fun _ => 0))), (m20, .inl (j44, 40, .inl (fun _ => 0))), (m21, .inl (j45, 40, .inl (fun _ => 0))), (m22, .inl (j46, 40, .inl (fun _ => 0))), (m23, .inl (j47, 40, .inl (fun _ => 0))), (q48, .inl (k49, 1, .inr (.inl (fun _ => 0))))] := hD
  have hK : va_K (dC, dI) cls_ [(k7, .object "TwinTuners$Request"), (k8, .int), (k14, .int), (j41, .int), (j42, .int), (j43, .int), (j44, .int), (j45, .int), (j46, .int), (j47, .int), (k49, .long)] s := hK
  refine W.cs (cells' := 38) (slots' := 14124) rfl rfl ?_
  refine lv_astore_n hx hb d_LW_law_19 rfl hl (by decide) rfl (fun ls hl => ?_)
  have hl : lv_has ls 8 [(3, .ref q48), (2, .ref q16), (1, .ref q1), (0, .ref b)] := hl
  refine lv_iconst (v := 0) hx hb d_LW_law_20 (by decide) ?_
  refine lv_istore hx hb d_LW_law_21 hl (by decide) rfl (fun ls hl => ?_)
  have hl : lv_has ls 8 [(4, .int 0), (3, .ref q48), (2, .ref q16), (1, .ref q1), (0, .ref b)] := hl
  have hP := hP.sub (ws' := [(q1, .inr (0, [.ref rq2, .ref oa3, .ref pl4, .ref dk5, .ref rw6, .int 0, .int 0, .int (-1)])), (rq2, .inl (k7, 40, .inr (.inr (.inr (.inr (fun _ => none)))))), (oa3, .inl (k8, 8, .inl (fun _ => 0))), (pl4, .inr (1, [.ref q9, .int 0])), (dk5, .inr (2, [.ref d10, .ref d11, .ref d12, .ref d13])), (d10, .inl (k14, 24, .inl (fun _ => -1))), (rw6, .inr (3, [.ref r15, .int 0, .int 0])), (q16, .inr (5, [.int 0, .int 0, .int (-1), .ref m17, .int 0, .ref m18, .ref m19, .ref m20, .ref m21, .ref m22, .ref m23, .ref m24, .ref m25, .ref m26, .ref m27, .ref m28, .ref m29, .ref m30, .ref m31, .ref m32, .ref m33, .int 0, .ref m34, .ref m35, .ref m36, .ref m37, .ref m38, .ref m39, .int 0, .ref m40])), (m17, .inl (j41, 8, .inl (fun _ => 0))), (m18, .inl (j42, 40, .inl (fun _ => 0))), (m19, .inl (j43, 40, .inl (fun _ => 0))), (m20, .inl (j44, 40, .inl (fun _ => 0))), (m21, .inl (j45, 40, .inl (fun _ => 0))), (m22, .inl (j46, 40, .inl (fun _ => 0))), (m23, .inl (j47, 40, .inl (fun _ => 0))), (q48, .inl (k49, 1, .inr (.inl (fun _ => 0))))]) [0, 1, 2, 3, 4, 5, 6, 7, 8, 9, 10, 11, 12, 13, 14, 15] rfl
  have hD := hD.sub (ws' := [(q1, .inr (0, [.ref rq2, .ref oa3, .ref pl4, .ref dk5, .ref rw6, .int 0, .int 0, .int (-1)])), (rq2, .inl (k7, 40, .inr (.inr (.inr (.inr (fun _ => none)))))), (oa3, .inl (k8, 8, .inl (fun _ => 0))), (pl4, .inr (1, [.ref q9, .int 0])), (dk5, .inr (2, [.ref d10, .ref d11, .ref d12, .ref d13])), (d10, .inl (k14, 24, .inl (fun _ => -1))), (rw6, .inr (3, [.ref r15, .int 0, .int 0])), (q16, .inr (5, [.int 0, .int 0, .int (-1), .ref m17, .int 0, .ref m18, .ref m19, .ref m20, .ref m21, .ref m22, .ref m23, .ref m24, .ref m25, .ref m26, .ref m27, .ref m28, .ref m29, .ref m30, .ref m31, .ref m32, .ref m33, .int 0, .ref m34, .ref m35, .ref m36, .ref m37, .ref m38, .ref m39, .int 0, .ref m40])), (m17, .inl (j41, 8, .inl (fun _ => 0))), (m18, .inl (j42, 40, .inl (fun _ => 0))), (m19, .inl (j43, 40, .inl (fun _ => 0))), (m20, .inl (j44, 40, .inl (fun _ => 0))), (m21, .inl (j45, 40, .inl (fun _ => 0))), (m22, .inl (j46, 40, .inl (fun _ => 0))), (m23, .inl (j47, 40, .inl (fun _ => 0))), (q48, .inl (k49, 1, .inr (.inl (fun _ => 0))))]) [0, 1, 2, 3, 4, 5, 6, 7, 8, 9, 10, 11, 12, 13, 14, 15] (by decide) rfl
  have hK := hK.sub (tys' := [(k7, .object "TwinTuners$Request"), (k8, .int), (k14, .int), (j41, .int), (j42, .int), (j43, .int), (j44, .int), (j45, .int), (j46, .int), (j47, .int), (k49, .long)]) [0, 1, 2, 3, 4, 5, 6, 7, 8, 9, 10] rfl
  have hl := lv_sub hl [0, 1, 2, 3, 4] (l' := [(4, .int 0), (3, .ref q48), (2, .ref q16), (1, .ref q1), (0, .ref b)]) rfl
  refine lv_iload hx hb d_LW_law_23 (lv_at hl 0 rfl) ?_
  refine lv_aload_n hx hb d_LW_law_25 rfl (lv_at hl 4 rfl) ?_
  refine va_slen hx hb hX hbl hbA hS d_LW_law_26 ?_
  refine lv_bipush (v := 6) hx hb d_LW_law_27 (by decide) ?_
  refine lv_isub hx hb d_LW_law_29 ?_
  rcases Nat.lt_or_ge L 6 with h6 | h6
  · refine lv_icmp_gt (tgt := 1234) hx hb d_LW_law_30 (by decide) (fun _ => ?_) (fun h9 => absurd (lt6 L h6) h9)
    refine lv_iconst (v := 1) hx hb d_LW_law_1234 (by decide) ?_
    refine va_forget (fun q h => hAB _ (hS.2.2 q h)) ?_
    refine W.widen (k := 600002) (n := 7302232) (Nat.le_of_ble_eq_true rfl) (Nat.le_of_ble_eq_true rfl) ?_
    exact lw_ret hx hb hr hlocks d_LW_law_1235
  · obtain rfl : L = 6 := by omega
    refine lv_icmp_gt (tgt := 1234) hx hb d_LW_law_30 (by decide) (fun h9 => absurd h9 (by decide)) (fun _ => ?_)
    refine lv_aload_n hx hb d_LW_law_33 rfl (lv_at hl 4 rfl) ?_
    refine lv_iload hx hb d_LW_law_34 (lv_at hl 0 rfl) ?_
    refine va_sld hx hb hX hbl hbA hS (show vp_in (nI 0) 6 from vp_in_nI (by decide) (by decide)) d_LW_law_36 ?_
    refine W.eq (g2 := F0 m 37 ls [.int (xs 0)]) rfl ?_
    refine lv_bipush (v := 31) hx hb d_LW_law_37 (by decide) ?_
    refine lv_iand hx hb d_LW_law_39 ?_
    obtain ⟨j, hj, ej⟩ := pk_andE (xs 0) (m := 31) 5 (by decide)
    refine lv_topi (fun v50 ev50 => ?_)
    obtain rfl : v50 = nI j := ev50.trans (ej)
    match j, hj with
    | 0, _ =>
      refine lv_tableIn (off := 100) (tgt := 140) hx hb d_LW_law_40 (by decide) (by decide) (by decide) (by decide) ?_
      exact cs_0 dC dI q1 rq2 oa3 pl4 dk5 rw6 q9 d10 d11 d12 d13 r15 q16 m17 m18 m19 m20 m21 m22 m23 m24 m25 m26 m27 m28 m29 m30 m31 m32 m33 m34 m35 m36 m37 m38 m39 m40 q48 k7 k8 k14 j41 j42 j43 j44 j45 j46 j47 k49 hl9 hx hb hr hlocks hbl hbA hAB hX hml hown ht hA hBs hV hK hP hD hS hl
    | 1, _ =>
      refine lv_tableIn (off := 204) (tgt := 244) hx hb d_LW_law_40 (by decide) (by decide) (by decide) (by decide) ?_
      exact cs_1 dC dI q1 rq2 oa3 pl4 dk5 rw6 q9 d10 d11 d12 d13 r15 q16 m17 m18 m19 m20 m21 m22 m23 m24 m25 m26 m27 m28 m29 m30 m31 m32 m33 m34 m35 m36 m37 m38 m39 m40 q48 k7 k8 k14 j41 j42 j43 j44 j45 j46 j47 k49 hl9 hx hb hr hlocks hbl hbA hAB hX hml hown ht hA hBs hV hK hP hD hS hl
    | 2, _ =>
      refine lv_tableIn (off := 240) (tgt := 280) hx hb d_LW_law_40 (by decide) (by decide) (by decide) (by decide) ?_
      exact cs_2 dC dI q1 rq2 oa3 pl4 dk5 rw6 q9 d10 d11 d12 d13 r15 q16 m17 m18 m19 m20 m21 m22 m23 m24 m25 m26 m27 m28 m29 m30 m31 m32 m33 m34 m35 m36 m37 m38 m39 m40 q48 k7 k8 k14 j41 j42 j43 j44 j45 j46 j47 k49 hl9 hx hb hr hlocks hbl hbA hAB hX hml hown ht hA hBs hV hK hP hD hS hl
    | 3, _ =>
      refine lv_tableIn (off := 296) (tgt := 336) hx hb d_LW_law_40 (by decide) (by decide) (by decide) (by decide) ?_
      exact cs_3 dC dI q1 rq2 oa3 pl4 dk5 rw6 q9 d10 d11 d12 d13 r15 q16 m17 m18 m19 m20 m21 m22 m23 m24 m25 m26 m27 m28 m29 m30 m31 m32 m33 m34 m35 m36 m37 m38 m39 m40 q48 k7 k8 k14 j41 j42 j43 j44 j45 j46 j47 k49 hl9 hx hb hr hlocks hbl hbA hAB hX hml hown ht hA hBs hV hK hP hD hS hl
    | 4, _ =>
      refine lv_tableIn (off := 352) (tgt := 392) hx hb d_LW_law_40 (by decide) (by decide) (by decide) (by decide) ?_
      exact cs_4 dC dI q1 rq2 oa3 pl4 dk5 rw6 q9 d10 d11 d12 d13 r15 q16 m17 m18 m19 m20 m21 m22 m23 m24 m25 m26 m27 m28 m29 m30 m31 m32 m33 m34 m35 m36 m37 m38 m39 m40 q48 k7 k8 k14 j41 j42 j43 j44 j45 j46 j47 k49 hl9 hx hb hr hlocks hbl hbA hAB hX hml hown ht hA hBs hV hK hP hD hS hl
    | 5, _ =>
      refine lv_tableIn (off := 408) (tgt := 448) hx hb d_LW_law_40 (by decide) (by decide) (by decide) (by decide) ?_
      exact cs_5 dC dI q1 rq2 oa3 pl4 dk5 rw6 q9 d10 d11 d12 d13 r15 q16 m17 m18 m19 m20 m21 m22 m23 m24 m25 m26 m27 m28 m29 m30 m31 m32 m33 m34 m35 m36 m37 m38 m39 m40 q48 k7 k8 k14 j41 j42 j43 j44 j45 j46 j47 k49 hl9 hx hb hr hlocks hbl hbA hAB hX hml hown ht hA hBs hV hK hP hD hS hl
    | 6, _ =>
      refine lv_tableIn (off := 456) (tgt := 496) hx hb d_LW_law_40 (by decide) (by decide) (by decide) (by decide) ?_
      exact cs_6 dC dI q1 rq2 oa3 pl4 dk5 rw6 q9 d10 d11 d12 d13 r15 q16 m17 m18 m19 m20 m21 m22 m23 m24 m25 m26 m27 m28 m29 m30 m31 m32 m33 m34 m35 m36 m37 m38 m39 m40 q48 k7 k8 k14 j41 j42 j43 j44 j45 j46 j47 k49 hl9 hx hb hr hlocks hbl hbA hAB hX hml hown ht hA hBs hV hK hP hD hS hl
    | 7, _ =>
      refine lv_tableIn (off := 469) (tgt := 509) hx hb d_LW_law_40 (by decide) (by decide) (by decide) (by decide) ?_
      exact cs_7 dC dI q1 rq2 oa3 pl4 dk5 rw6 q9 d10 d11 d12 d13 r15 q16 m17 m18 m19 m20 m21 m22 m23 m24 m25 m26 m27 m28 m29 m30 m31 m32 m33 m34 m35 m36 m37 m38 m39 m40 q48 k7 k8 k14 j41 j42 j43 j44 j45 j46 j47 k49 hl9 hx hb hr hlocks hbl hbA hAB hX hml hown ht hA hBs hV hK hP hD hS hl
    | 8, _ =>
      refine lv_tableIn (off := 525) (tgt := 565) hx hb d_LW_law_40 (by decide) (by decide) (by decide) (by decide) ?_
      exact cs_8 dC dI q1 rq2 oa3 pl4 dk5 rw6 q9 d10 d11 d12 d13 r15 q16 m17 m18 m19 m20 m21 m22 m23 m24 m25 m26 m27 m28 m29 m30 m31 m32 m33 m34 m35 m36 m37 m38 m39 m40 q48 k7 k8 k14 j41 j42 j43 j44 j45 j46 j47 k49 hl9 hx hb hr hlocks hbl hbA hAB hX hml hown ht hA hBs hV hK hP hD hS hl
    | 9, _ =>
      refine lv_tableIn (off := 538) (tgt := 578) hx hb d_LW_law_40 (by decide) (by decide) (by decide) (by decide) ?_
      exact cs_9 dC dI q1 rq2 oa3 pl4 dk5 rw6 q9 d10 d11 d12 d13 r15 q16 m17 m18 m19 m20 m21 m22 m23 m24 m25 m26 m27 m28 m29 m30 m31 m32 m33 m34 m35 m36 m37 m38 m39 m40 q48 k7 k8 k14 j41 j42 j43 j44 j45 j46 j47 k49 hl9 hx hb hr hlocks hbl hbA hAB hX hml hown ht hA hBs hV hK hP hD hS hl
    | 10, _ =>
      refine lv_tableIn (off := 594) (tgt := 634) hx hb d_LW_law_40 (by decide) (by decide) (by decide) (by decide) ?_
      exact cs_10 dC dI q1 rq2 oa3 pl4 dk5 rw6 q9 d10 d11 d12 d13 r15 q16 m17 m18 m19 m20 m21 m22 m23 m24 m25 m26 m27 m28 m29 m30 m31 m32 m33 m34 m35 m36 m37 m38 m39 m40 q48 k7 k8 k14 j41 j42 j43 j44 j45 j46 j47 k49 hl9 hx hb hr hlocks hbl hbA hAB hX hml hown ht hA hBs hV hK hP hD hS hl
    | 11, _ =>
      refine lv_tableIn (off := 620) (tgt := 660) hx hb d_LW_law_40 (by decide) (by decide) (by decide) (by decide) ?_
      exact cs_11 dC dI q1 rq2 oa3 pl4 dk5 rw6 q9 d10 d11 d12 d13 r15 q16 m17 m18 m19 m20 m21 m22 m23 m24 m25 m26 m27 m28 m29 m30 m31 m32 m33 m34 m35 m36 m37 m38 m39 m40 q48 k7 k8 k14 j41 j42 j43 j44 j45 j46 j47 k49 hl9 hx hb hr hlocks hbl hbA hAB hX hml hown ht hA hBs hV hK hP hD hS hl
    | 12, _ =>
      refine lv_tableIn (off := 687) (tgt := 727) hx hb d_LW_law_40 (by decide) (by decide) (by decide) (by decide) ?_
      exact cs_12 dC dI q1 rq2 oa3 pl4 dk5 rw6 q9 d10 d11 d12 d13 r15 q16 m17 m18 m19 m20 m21 m22 m23 m24 m25 m26 m27 m28 m29 m30 m31 m32 m33 m34 m35 m36 m37 m38 m39 m40 q48 k7 k8 k14 j41 j42 j43 j44 j45 j46 j47 k49 hl9 hx hb hr hlocks hbl hbA hAB hX hml hown ht hA hBs hV hK hP hD hS hl
    | 13, _ =>
      refine lv_tableIn (off := 743) (tgt := 783) hx hb d_LW_law_40 (by decide) (by decide) (by decide) (by decide) ?_
      exact cs_13 dC dI q1 rq2 oa3 pl4 dk5 rw6 q9 d10 d11 d12 d13 r15 q16 m17 m18 m19 m20 m21 m22 m23 m24 m25 m26 m27 m28 m29 m30 m31 m32 m33 m34 m35 m36 m37 m38 m39 m40 q48 k7 k8 k14 j41 j42 j43 j44 j45 j46 j47 k49 hl9 hx hb hr hlocks hbl hbA hAB hX hml hown ht hA hBs hV hK hP hD hS hl
    | 14, _ =>
      refine lv_tableIn (off := 799) (tgt := 839) hx hb d_LW_law_40 (by decide) (by decide) (by decide) (by decide) ?_
      exact cs_14 dC dI q1 rq2 oa3 pl4 dk5 rw6 q9 d10 d11 d12 d13 r15 q16 m17 m18 m19 m20 m21 m22 m23 m24 m25 m26 m27 m28 m29 m30 m31 m32 m33 m34 m35 m36 m37 m38 m39 m40 q48 k7 k8 k14 j41 j42 j43 j44 j45 j46 j47 k49 hl9 hx hb hr hlocks hbl hbA hAB hX hml hown ht hA hBs hV hK hP hD hS hl
    | 15, _ =>
      refine lv_tableIn (off := 863) (tgt := 903) hx hb d_LW_law_40 (by decide) (by decide) (by decide) (by decide) ?_
      exact cs_15 dC dI q1 rq2 oa3 pl4 dk5 rw6 q9 d10 d11 d12 d13 r15 q16 m17 m18 m19 m20 m21 m22 m23 m24 m25 m26 m27 m28 m29 m30 m31 m32 m33 m34 m35 m36 m37 m38 m39 m40 q48 k7 k8 k14 j41 j42 j43 j44 j45 j46 j47 k49 hl9 hx hb hr hlocks hbl hbA hAB hX hml hown ht hA hBs hV hK hP hD hS hl
    | 16, _ =>
      refine lv_tableIn (off := 927) (tgt := 967) hx hb d_LW_law_40 (by decide) (by decide) (by decide) (by decide) ?_
      exact cs_16 dC dI q1 rq2 oa3 pl4 dk5 rw6 q9 d10 d11 d12 d13 r15 q16 m17 m18 m19 m20 m21 m22 m23 m24 m25 m26 m27 m28 m29 m30 m31 m32 m33 m34 m35 m36 m37 m38 m39 m40 q48 k7 k8 k14 j41 j42 j43 j44 j45 j46 j47 k49 hl9 hx hb hr hlocks hbl hbA hAB hX hml hown ht hA hBs hV hK hP hD hS hl
    | 17, _ =>
      refine lv_tableIn (off := 983) (tgt := 1023) hx hb d_LW_law_40 (by decide) (by decide) (by decide) (by decide) ?_
      exact cs_17 dC dI q1 rq2 oa3 pl4 dk5 rw6 q9 d10 d11 d12 d13 r15 q16 m17 m18 m19 m20 m21 m22 m23 m24 m25 m26 m27 m28 m29 m30 m31 m32 m33 m34 m35 m36 m37 m38 m39 m40 q48 k7 k8 k14 j41 j42 j43 j44 j45 j46 j47 k49 hl9 hx hb hr hlocks hbl hbA hAB hX hml hown ht hA hBs hV hK hP hD hS hl
    | 18, _ =>
      refine lv_tableIn (off := 996) (tgt := 1036) hx hb d_LW_law_40 (by decide) (by decide) (by decide) (by decide) ?_
      exact cs_18 dC dI q1 rq2 oa3 pl4 dk5 rw6 q9 d10 d11 d12 d13 r15 q16 m17 m18 m19 m20 m21 m22 m23 m24 m25 m26 m27 m28 m29 m30 m31 m32 m33 m34 m35 m36 m37 m38 m39 m40 q48 k7 k8 k14 j41 j42 j43 j44 j45 j46 j47 k49 hl9 hx hb hr hlocks hbl hbA hAB hX hml hown ht hA hBs hV hK hP hD hS hl
    | 19, _ =>
      refine lv_tableIn (off := 1064) (tgt := 1104) hx hb d_LW_law_40 (by decide) (by decide) (by decide) (by decide) ?_
      exact cs_19 dC dI q1 rq2 oa3 pl4 dk5 rw6 q9 d10 d11 d12 d13 r15 q16 m17 m18 m19 m20 m21 m22 m23 m24 m25 m26 m27 m28 m29 m30 m31 m32 m33 m34 m35 m36 m37 m38 m39 m40 q48 k7 k8 k14 j41 j42 j43 j44 j45 j46 j47 k49 hl9 hx hb hr hlocks hbl hbA hAB hX hml hown ht hA hBs hV hK hP hD hS hl
    | 20, _ =>
      refine lv_tableIn (off := 1132) (tgt := 1172) hx hb d_LW_law_40 (by decide) (by decide) (by decide) (by decide) ?_
      exact cs_20 dC dI q1 rq2 oa3 pl4 dk5 rw6 q9 d10 d11 d12 d13 r15 q16 m17 m18 m19 m20 m21 m22 m23 m24 m25 m26 m27 m28 m29 m30 m31 m32 m33 m34 m35 m36 m37 m38 m39 m40 q48 k7 k8 k14 j41 j42 j43 j44 j45 j46 j47 k49 hl9 hx hb hr hlocks hbl hbA hAB hX hml hown ht hA hBs hV hK hP hD hS hl
    | 21, _ =>
      refine lv_tableOut (tgt := 1228) hx hb d_LW_law_40 (by decide) (by decide) ?_
      exact tl_end hx hb hr hlocks hbl hbA hAB hX (Nat.le_of_ble_eq_true rfl) (Nat.le_of_ble_eq_true rfl) hS (lv_sub hl [0, 4] (l' := [(4, .int 0), (0, .ref b)]) rfl)
    | 22, _ =>
      refine lv_tableOut (tgt := 1228) hx hb d_LW_law_40 (by decide) (by decide) ?_
      exact tl_end hx hb hr hlocks hbl hbA hAB hX (Nat.le_of_ble_eq_true rfl) (Nat.le_of_ble_eq_true rfl) hS (lv_sub hl [0, 4] (l' := [(4, .int 0), (0, .ref b)]) rfl)
    | 23, _ =>
      refine lv_tableOut (tgt := 1228) hx hb d_LW_law_40 (by decide) (by decide) ?_
      exact tl_end hx hb hr hlocks hbl hbA hAB hX (Nat.le_of_ble_eq_true rfl) (Nat.le_of_ble_eq_true rfl) hS (lv_sub hl [0, 4] (l' := [(4, .int 0), (0, .ref b)]) rfl)
    | 24, _ =>
      refine lv_tableOut (tgt := 1228) hx hb d_LW_law_40 (by decide) (by decide) ?_
      exact tl_end hx hb hr hlocks hbl hbA hAB hX (Nat.le_of_ble_eq_true rfl) (Nat.le_of_ble_eq_true rfl) hS (lv_sub hl [0, 4] (l' := [(4, .int 0), (0, .ref b)]) rfl)
    | 25, _ =>
      refine lv_tableOut (tgt := 1228) hx hb d_LW_law_40 (by decide) (by decide) ?_
      exact tl_end hx hb hr hlocks hbl hbA hAB hX (Nat.le_of_ble_eq_true rfl) (Nat.le_of_ble_eq_true rfl) hS (lv_sub hl [0, 4] (l' := [(4, .int 0), (0, .ref b)]) rfl)
    | 26, _ =>
      refine lv_tableOut (tgt := 1228) hx hb d_LW_law_40 (by decide) (by decide) ?_
      exact tl_end hx hb hr hlocks hbl hbA hAB hX (Nat.le_of_ble_eq_true rfl) (Nat.le_of_ble_eq_true rfl) hS (lv_sub hl [0, 4] (l' := [(4, .int 0), (0, .ref b)]) rfl)
    | 27, _ =>
      refine lv_tableOut (tgt := 1228) hx hb d_LW_law_40 (by decide) (by decide) ?_
      exact tl_end hx hb hr hlocks hbl hbA hAB hX (Nat.le_of_ble_eq_true rfl) (Nat.le_of_ble_eq_true rfl) hS (lv_sub hl [0, 4] (l' := [(4, .int 0), (0, .ref b)]) rfl)
    | 28, _ =>
      refine lv_tableOut (tgt := 1228) hx hb d_LW_law_40 (by decide) (by decide) ?_
      exact tl_end hx hb hr hlocks hbl hbA hAB hX (Nat.le_of_ble_eq_true rfl) (Nat.le_of_ble_eq_true rfl) hS (lv_sub hl [0, 4] (l' := [(4, .int 0), (0, .ref b)]) rfl)
    | 29, _ =>
      refine lv_tableOut (tgt := 1228) hx hb d_LW_law_40 (by decide) (by decide) ?_
      exact tl_end hx hb hr hlocks hbl hbA hAB hX (Nat.le_of_ble_eq_true rfl) (Nat.le_of_ble_eq_true rfl) hS (lv_sub hl [0, 4] (l' := [(4, .int 0), (0, .ref b)]) rfl)
    | 30, _ =>
      refine lv_tableOut (tgt := 1228) hx hb d_LW_law_40 (by decide) (by decide) ?_
      exact tl_end hx hb hr hlocks hbl hbA hAB hX (Nat.le_of_ble_eq_true rfl) (Nat.le_of_ble_eq_true rfl) hS (lv_sub hl [0, 4] (l' := [(4, .int 0), (0, .ref b)]) rfl)
    | 31, _ =>
      refine lv_tableOut (tgt := 1228) hx hb d_LW_law_40 (by decide) (by decide) ?_
      exact tl_end hx hb hr hlocks hbl hbA hAB hX (Nat.le_of_ble_eq_true rfl) (Nat.le_of_ble_eq_true rfl) hS (lv_sub hl [0, 4] (l' := [(4, .int 0), (0, .ref b)]) rfl)
    | n + 32, h => exact absurd h (by omega)
