set_option maxRecDepth 100000 in
theorem tb_23 : (.classLink "TwinTuners" 9 "TwinTuners$Request" : Cond) ∈ tb_ := tb_w 23 rfl rfl
set_option maxRecDepth 100000 in
theorem tb_367 : (.instantiable "TwinTuners$Request" 17 : Cond) ∈ tb_ := tb_w 367 rfl rfl
set_option maxRecDepth 100000 in
theorem tb_368 : (.methodLink "TwinTuners" 77 ⟨"TwinTuners$Request", "<init>", "(IIIIII)V"⟩ : Cond) ∈ tb_ := tb_w 368 rfl rfl
set_option maxRecDepth 100000 in
theorem tb_369 : (.instanceMethod ⟨"TwinTuners$Request", "<init>", "(IIIIII)V"⟩ : Cond) ∈ tb_ := tb_w 369 rfl rfl
theorem d_TT_request_85 : decode c_TT_request 85 = .ok (.aload_n 0, 1) := by decide +kernel
theorem d_TT_request_86 : decode c_TT_request 86 = .ok (.getfield 40, 3) := by decide +kernel
theorem d_TT_request_89 : decode c_TT_request 89 = .ok (.istore 6, 2) := by decide +kernel
theorem d_TT_request_91 : decode c_TT_request 91 = .ok (.aload_n 0, 1) := by decide +kernel
theorem d_TT_request_92 : decode c_TT_request 92 = .ok (.getfield 11, 3) := by decide +kernel
theorem d_TT_request_95 : decode c_TT_request 95 = .ok (.iload 6, 2) := by decide +kernel
theorem d_TT_request_97 : decode c_TT_request 97 = .ok (.new 9, 3) := by decide +kernel
theorem d_TT_request_100 : decode c_TT_request 100 = .ok (.dup, 1) := by decide +kernel
theorem d_TT_request_101 : decode c_TT_request 101 = .ok (.iload 6, 2) := by decide +kernel
theorem d_TT_request_103 : decode c_TT_request 103 = .ok (.iload_n 1, 1) := by decide +kernel
theorem d_TT_request_104 : decode c_TT_request 104 = .ok (.iload_n 2, 1) := by decide +kernel
theorem d_TT_request_105 : decode c_TT_request 105 = .ok (.iload_n 3, 1) := by decide +kernel
theorem d_TT_request_106 : decode c_TT_request 106 = .ok (.iload 4, 2) := by decide +kernel
theorem d_TT_request_108 : decode c_TT_request 108 = .ok (.iload 5, 2) := by decide +kernel
theorem d_TT_request_110 : decode c_TT_request 110 = .ok (.invokespecial 77, 3) := by decide +kernel
theorem d_TT_request_113 : decode c_TT_request 113 = .ok (.aastore, 1) := by decide +kernel
theorem d_TT_request_114 : decode c_TT_request 114 = .ok (.aload_n 0, 1) := by decide +kernel
theorem d_TT_request_115 : decode c_TT_request 115 = .ok (.dup, 1) := by decide +kernel
theorem d_TT_request_116 : decode c_TT_request 116 = .ok (.getfield 40, 3) := by decide +kernel
theorem d_TT_request_119 : decode c_TT_request 119 = .ok (.iconst 1, 1) := by decide +kernel
theorem d_TT_request_120 : decode c_TT_request 120 = .ok (.iadd, 1) := by decide +kernel
theorem d_TT_request_121 : decode c_TT_request 121 = .ok (.putfield 40, 3) := by decide +kernel
theorem d_TT_request_124 : decode c_TT_request 124 = .ok (.iload 6, 2) := by decide +kernel
theorem d_TT_request_126 : decode c_TT_request 126 = .ok (.ireturn, 1) := by decide +kernel
def rqG (nu ch st ln pr pd : Int32) : Nat → Int32 := fun k => match k with
  | 0 => nu | 1 => ch | 2 => st | 3 => st + ln | 4 => pr | 5 => pd / 10 | 6 => pd - pd / 10 * 10 | 9 => -1 | 10 => -1 | _ => 0
theorem pool_push {X : va_W} {kI : ClassId} {L : List Nat} {isA : Nat → Bool} {bk : Nat → Nat} {rf ba : Nat → Nat → Int32} {q b : Nat} {g : Nat → Int32} (hq : q ∉ L) (hb : b ∉ L) (hqb : q ≠ b) :
    (X ++ va_pl L (PE kI isA bk rf ba)) ++ [(q, .inr (4, RQF g b)), (b, .inl (kI, 6, .inl (fun _ => 0)))] = X ++ va_pl (L ++ [q, b]) (PE kI (va_up (va_up isA q false) b true) (va_up bk q b) (va_up rf q g) (va_up ba b (fun _ => 0))) := by
  rw [List.append_assoc]
  congr 1
  have e1 : va_pl L (PE kI isA bk rf ba) = va_pl L (PE kI (va_up (va_up isA q false) b true) (va_up bk q b) (va_up rf q g) (va_up ba b (fun _ => 0))) := by
    refine List.map_congr_left fun a ha => ?_
    have h1 : a ≠ q := fun e => hq (e ▸ ha)
    have h2 : a ≠ b := fun e => hb (e ▸ ha)
    simp only [PE, va_up_ne _ _ h1, va_up_ne _ _ h2]
  rw [e1]
  show _ = List.map _ (L ++ [q, b])
  rw [List.map_append]
  congr 1
  have f1 : va_up (va_up isA q false) b true q = false := by rw [va_up_ne _ _ hqb, va_up_self]
  have f2 : va_up (va_up isA q false) b true b = true := va_up_self _ _ _
  simp only [List.map_cons, List.map_nil]
  rw [PE_r f1, PE_a f2, va_up_self, va_up_self, va_up_self]
theorem CI_req {N : Nat} {L : List Nat} {isA : Nat → Bool} {bk : Nat → Nat} {sc : Nat → Int32} {qa : Nat → Nat → Option Nat} {rf : Nat → Nat → Int32} {q b : Nat} {g : Nat → Int32} (h : CI N L isA bk sc qa rf) (hN : N < 40) (hq : q ∉ L) (hb : b ∉ L) (hqb : q ≠ b) (h1 : 0 ≤ (g 1).toInt ∧ (g 1).toInt ≤ 7) (h14 : g 14 = 0) :
    CI (N + 1) (L ++ [q, b]) (va_up (va_up isA q false) b true) (va_up bk q b) (va_up sc 0 (nI (N + 1))) (va_up qa 0 (va_up (qa 0) N (some q))) (va_up rf q g) := by
  obtain ⟨a1, a2, a3, a4, a5, a6, a7⟩ := h
  have f1 : va_up (va_up isA q false) b true q = false := by rw [va_up_ne _ _ hqb, va_up_self]
  have f2 : va_up (va_up isA q false) b true b = true := va_up_self _ _ _
  have cg : ∀ o, cG L isA o → cG (L ++ [q, b]) (va_up (va_up isA q false) b true) o := by
    intro o ho
    obtain ⟨a, ea, ha, hn⟩ := ho
    exact ⟨a, ea, List.mem_append_left _ ha, by rw [va_up_ne _ _ (show a ≠ b from fun e => hb (e ▸ ha)), va_up_ne _ _ (show a ≠ q from fun e => hq (e ▸ ha))]; exact hn⟩
  refine ⟨⟨by omega, va_up_self _ _ _⟩, a2, ?_, a4, a5, ?_, ?_⟩
  · obtain ⟨M, hM, e, hO⟩ := a3
    exact ⟨M, hM, e, fun i hi => cg _ (hO i hi)⟩
  · intro i hi
    show cG _ _ (va_up (qa 0) N (some q) i)
    by_cases e : i = N
    · subst e; rw [va_up_self]; exact ⟨q, rfl, List.mem_append_right _ (by simp), f1⟩
    · rw [va_up_ne _ _ e]; exact cg _ (a6 i (by omega))
  · intro a ha hn
    by_cases e : a = q
    · subst e
      rw [va_up_self, va_up_self, h14]
      exact ⟨h1, by rw [l_0]; omega, List.mem_append_right _ (by simp), f2⟩
    · have hab : a ≠ b := fun e9 => by rw [e9, f2] at hn; cases hn
      have haL : a ∈ L := by
        rcases List.mem_append.mp ha with g9 | g9
        · exact g9
        · simp at g9; rcases g9 with g9 | g9
          · exact absurd g9 e
          · exact absurd g9 hab
      rw [va_up_ne _ _ hab, va_up_ne _ _ e] at hn
      obtain ⟨b1, b2, b3, b4⟩ := a7 a haL hn
      rw [va_up_ne _ _ e, va_up_ne _ _ e]
      refine ⟨b1, b2, List.mem_append_left _ b3, ?_⟩
      rw [va_up_ne _ _ (show bk a ≠ b from fun e9 => hb (e9 ▸ b3)), va_up_ne _ _ (show bk a ≠ q from fun e9 => hq (e9 ▸ b3))]
      exact b4
abbrev U6 : Type := (List Nat × (Nat → Bool) × (Nat → Nat)) × U5
abbrev cWL (cd : Nat → Nat) (kI kQ : ClassId) : U6 → va_W := fun u => CW cd kI kQ u.1.1 u.1.2.1 u.1.2.2 u.2.1 u.2.2.1 u.2.2.2.1 u.2.2.2.2.1 u.2.2.2.2.2
set_option maxHeartbeats 8000000 in
set_option maxRecDepth 100000 in
theorem k_TT_request_ok (l : Launch) (dC : Nat → ClassId) (dI : Nat → Nat → Nat) (cd : Nat → Nat) (kI kQ : ClassId) (L : List Nat) (isA : Nat → Bool) (bk : Nat → Nat) (sc : Nat → Int32) (ia : Nat → Nat → Int32) (qa : Nat → Nat → Option Nat) (rf ba : Nat → Nat → Int32) (sz Bd : Nat) (N : Nat) (hC : CI N L isA bk sc qa rf) (xc xs xl xp xd : Int32) (h : ((0 ≤ xc.toInt ∧ xc.toInt ≤ 7) ∧ ((sc 1).toInt ≤ xs.toInt ∧ xs.toInt ≤ (sc 1 + 1000).toInt) ∧ (1 ≤ xl.toInt ∧ xl.toInt ≤ 60) ∧ (1 ≤ xp.toInt ∧ xp.toInt ≤ 9) ∧ (0 ≤ xd.toInt ∧ xd.toInt ≤ 99))) (hf : N < 40 ∧ oc (fun i => phq rf (qa 0 i)) N < 12) : Met l y_TT_request w_TT_request ({ frames := 2, cells := 2, slots := 23, locals := 46 }) (frP (dC, dI) (CW cd kI kQ L isA bk sc ia qa rf ba) (CT kI kQ) sz Bd [.ref (cd 0), .int xc, .int xs, .int xl, .int xp, .int xd]) (tQ (dC, dI) (cWL cd kI kQ) (va_A (CW cd kI kQ L isA bk sc ia qa rf ba) sz) vI (fun _ u => same [0] sc u.2.1 ∧ CI (N + 1) u.1.1 u.1.2.1 u.1.2.2 u.2.1 u.2.2.2.1 u.2.2.2.2.1)) 2 23 (va_A (CW cd kI kQ L isA bk sc ia qa rf ba) sz) := by
  refine Met.ofW (cc := c_TT_request) (maxL := 7) (ret := (some .int)) (by decide) rfl ?_
  intro p e s m args below meth c s₁ B hml hv
  obtain ⟨rfl, ⟨hsz, hBs⟩, hP, hK, hD0, hV⟩ := hv
  have hx := B.exec
  have hb := B.bytes
  have hr := B.returns
  have ht : ∀ w ∈ tb_, w.before _ s = true := fun w h => atoms_spec (ws := w_TT_request) B.pre w (List.mem_cons_of_mem _ h)
  have hown : s.vm.findClass R_TT = some m.cls := findClass_of_methodNamed B.named
  have hlocks := B.notSynchronized
  subst hsz
  have hD := hD0.self (sz := s.heap.size)
  have hAB : ∀ q, va_A (CW cd kI kQ L isA bk sc ia qa rf ba) s.heap.size q → Bd ≤ q := fr_AB hD0 hBs
  generalize hAe : va_A (CW cd kI kQ L isA bk sc ia qa rf ba) s.heap.size = A at hD hAB ⊢
  have hA : ∀ q : Nat, s.heap.size ≤ q → A q := fun q h => by rw [← hAe]; exact Or.inr h
  have hS : va_S A s.heap s.heap [] := va_S.rf
  have hs : same [0] sc sc := same.rf
  have hP : va_P (dC, dI) cls_ (CW cd kI kQ L isA bk sc ia qa rf ba) s.heap := hP
  have hl := lv_entry ([.ref (cd 0), .int xc, .int xs, .int xl, .int xp, .int xd]) (n := 7) (Nat.le_of_ble_eq_true rfl)
  rw [lg_entry_eq]
  generalize (lg_sl ([.ref (cd 0), .int xc, .int xs, .int xl, .int xp, .int xd]) ++ List.replicate (7 - (lg_sl ([.ref (cd 0), .int xc, .int xs, .int xl, .int xp, .int xd])).length) Slot.unset).toArray = ls at hl ⊢
  have hl : lv_has ls 7 [(0, .ref (cd 0)), (1, .int xc), (2, .int xs), (3, .int xl), (4, .int xp), (5, .int xd)] := hl
  have hN := hC.1.1
  refine lv_iload_n hx hb d_TT_request_0 rfl (lv_at hl 1 rfl) ?_
  refine r_call (va_runS (As := [.int xc]) (rest := []) ⟨hx, hb, hml, hown, ht⟩ (k_TT_isChannel l dC dI xc) (va_cwS 1 ht (gS tb_270 tb_271 tb_1 tb_272) rfl rfl rfl (by decide +kernel) ⟨Nat.le_of_ble_eq_true rfl, Nat.le_of_ble_eq_true rfl⟩) ⟨rdP_blind, rd_pre (W0 := []) (tys := []) (fun k q h => by cases h) ⟨hK.1, fun k q h => by cases h⟩⟩ rfl rfl hl.1 rfl (lv_room (Nat.le_of_ble_eq_true rfl)) d_TT_request_1 ⟨Nat.le_of_ble_eq_true rfl, Nat.le_of_ble_eq_true rfl⟩) (fun r1 hu => ?_)
  have hu1_0 := hu
  have hu1_0 : ((0 ≤ xc.toInt ∧ xc.toInt ≤ 7) ∧ r1 = 1 ∨ ¬ (0 ≤ xc.toInt ∧ xc.toInt ≤ 7) ∧ r1 = 0) := hu1_0
  refine W.eq (g2 := F0 m 4 ls [.int r1]) rfl ?_
  obtain rfl : r1 = 1 := by rcases hu1_0 with ⟨_, q⟩ | ⟨q, _⟩; { exact q }; { exact absurd h.1 q }
  refine lv_if_eq (tgt := 47) hx hb d_TT_request_4 (by decide) (fun h9 => absurd h9 (by decide)) (fun _ => ?_)
  refine lv_aload_n hx hb d_TT_request_7 rfl (lv_at hl 0 rfl) ?_
  refine lv_iload_n hx hb d_TT_request_8 rfl (lv_at hl 2 rfl) ?_
  refine r_call (va_runV (C := R_TT) (As := [.int xs]) (rest := []) ⟨hx, hb, hml, hown, ht⟩ (k_TT_isAhead l dC dI cd kI kQ L isA bk sc ia qa rf ba N hC xs) (cwV 1 ht (gV tb_274 tb_276 ts_17 tb_1 tb_277) rfl rfl rfl (by decide +kernel) ⟨Nat.le_of_ble_eq_true rfl, Nat.le_of_ble_eq_true rfl⟩) ⟨rdP_blind, va_recv (q := (R_TT, F_TT, 8)) hK hP rfl (show (CW cd kI kQ L isA bk sc ia qa rf ba : va_W)[0]? = some _ from rfl), rd_pre hP hK⟩ rfl rfl hl.1 rfl (lv_room (Nat.le_of_ble_eq_true rfl)) d_TT_request_9 ⟨Nat.le_of_ble_eq_true rfl, Nat.le_of_ble_eq_true rfl⟩) (fun r2 hu => ?_)
  have hu2_0 := hu
  have hu2_0 : (((sc 1).toInt ≤ xs.toInt ∧ xs.toInt ≤ (sc 1 + 1000).toInt) ∧ r2 = 1 ∨ ¬ ((sc 1).toInt ≤ xs.toInt ∧ xs.toInt ≤ (sc 1 + 1000).toInt) ∧ r2 = 0) := hu2_0
  refine W.eq (g2 := F0 m 12 ls [.int r2]) rfl ?_
  obtain rfl : r2 = 1 := by rcases hu2_0 with ⟨_, q⟩ | ⟨q, _⟩; { exact q }; { exact absurd h.2.1 q }
  refine lv_if_eq (tgt := 47) hx hb d_TT_request_12 (by decide) (fun h9 => absurd h9 (by decide)) (fun _ => ?_)
  refine lv_iload_n hx hb d_TT_request_15 rfl (lv_at hl 3 rfl) ?_
  refine lv_iconst (v := 1) hx hb d_TT_request_16 (by decide) ?_
  refine lv_bipush (v := 60) hx hb d_TT_request_17 (by decide) ?_
  refine r_call (va_runS (As := [.int xl, .int 1, .int 60]) (rest := []) ⟨hx, hb, hml, hown, ht⟩ (k_TT_isWithin l dC dI xl ((1 : Int32)) ((60 : Int32))) (va_cwS 3 ht (gS tb_273 tb_226 tb_1 tb_227) rfl rfl rfl (by decide +kernel) ⟨Nat.le_of_ble_eq_true rfl, Nat.le_of_ble_eq_true rfl⟩) ⟨rdP_blind, rd_pre (W0 := []) (tys := []) (fun k q h => by cases h) ⟨hK.1, fun k q h => by cases h⟩⟩ rfl rfl hl.1 rfl (lv_room (Nat.le_of_ble_eq_true rfl)) d_TT_request_19 ⟨Nat.le_of_ble_eq_true rfl, Nat.le_of_ble_eq_true rfl⟩) (fun r3 hu => ?_)
  have hu3_0 := hu
  have hu3_0 : (((1 : Int32).toInt ≤ xl.toInt ∧ xl.toInt ≤ (60 : Int32).toInt) ∧ r3 = 1 ∨ ¬ ((1 : Int32).toInt ≤ xl.toInt ∧ xl.toInt ≤ (60 : Int32).toInt) ∧ r3 = 0) := hu3_0
  refine W.eq (g2 := F0 m 22 ls [.int r3]) rfl ?_
  obtain rfl : r3 = 1 := by rcases hu3_0 with ⟨_, q⟩ | ⟨q, _⟩; { exact q }; { exact absurd (show (1 : Int32).toInt ≤ xl.toInt ∧ xl.toInt ≤ (60 : Int32).toInt by rw [l_1, l_60]; exact h.2.2.1) q }
  refine lv_if_eq (tgt := 47) hx hb d_TT_request_22 (by decide) (fun h9 => absurd h9 (by decide)) (fun _ => ?_)
  refine lv_iload hx hb d_TT_request_25 (lv_at hl 4 rfl) ?_
  refine lv_iconst (v := 1) hx hb d_TT_request_27 (by decide) ?_
  refine lv_bipush (v := 9) hx hb d_TT_request_28 (by decide) ?_
  refine r_call (va_runS (As := [.int xp, .int 1, .int 9]) (rest := []) ⟨hx, hb, hml, hown, ht⟩ (k_TT_isWithin l dC dI xp ((1 : Int32)) ((9 : Int32))) (va_cwS 3 ht (gS tb_273 tb_226 tb_1 tb_227) rfl rfl rfl (by decide +kernel) ⟨Nat.le_of_ble_eq_true rfl, Nat.le_of_ble_eq_true rfl⟩) ⟨rdP_blind, rd_pre (W0 := []) (tys := []) (fun k q h => by cases h) ⟨hK.1, fun k q h => by cases h⟩⟩ rfl rfl hl.1 rfl (lv_room (Nat.le_of_ble_eq_true rfl)) d_TT_request_30 ⟨Nat.le_of_ble_eq_true rfl, Nat.le_of_ble_eq_true rfl⟩) (fun r4 hu => ?_)
  have hu4_0 := hu
  have hu4_0 : (((1 : Int32).toInt ≤ xp.toInt ∧ xp.toInt ≤ (9 : Int32).toInt) ∧ r4 = 1 ∨ ¬ ((1 : Int32).toInt ≤ xp.toInt ∧ xp.toInt ≤ (9 : Int32).toInt) ∧ r4 = 0) := hu4_0
  refine W.eq (g2 := F0 m 33 ls [.int r4]) rfl ?_
  obtain rfl : r4 = 1 := by rcases hu4_0 with ⟨_, q⟩ | ⟨q, _⟩; { exact q }; { exact absurd (show (1 : Int32).toInt ≤ xp.toInt ∧ xp.toInt ≤ (9 : Int32).toInt by rw [l_1, l_9]; exact h.2.2.2.1) q }
  refine lv_if_eq (tgt := 47) hx hb d_TT_request_33 (by decide) (fun h9 => absurd h9 (by decide)) (fun _ => ?_)
  refine lv_iload hx hb d_TT_request_36 (lv_at hl 5 rfl) ?_
  refine lv_iconst (v := 0) hx hb d_TT_request_38 (by decide) ?_
  refine lv_bipush (v := 99) hx hb d_TT_request_39 (by decide) ?_
  refine r_call (va_runS (As := [.int xd, .int 0, .int 99]) (rest := []) ⟨hx, hb, hml, hown, ht⟩ (k_TT_isWithin l dC dI xd ((0 : Int32)) ((99 : Int32))) (va_cwS 3 ht (gS tb_273 tb_226 tb_1 tb_227) rfl rfl rfl (by decide +kernel) ⟨Nat.le_of_ble_eq_true rfl, Nat.le_of_ble_eq_true rfl⟩) ⟨rdP_blind, rd_pre (W0 := []) (tys := []) (fun k q h => by cases h) ⟨hK.1, fun k q h => by cases h⟩⟩ rfl rfl hl.1 rfl (lv_room (Nat.le_of_ble_eq_true rfl)) d_TT_request_41 ⟨Nat.le_of_ble_eq_true rfl, Nat.le_of_ble_eq_true rfl⟩) (fun r5 hu => ?_)
  have hu5_0 := hu
  have hu5_0 : (((0 : Int32).toInt ≤ xd.toInt ∧ xd.toInt ≤ (99 : Int32).toInt) ∧ r5 = 1 ∨ ¬ ((0 : Int32).toInt ≤ xd.toInt ∧ xd.toInt ≤ (99 : Int32).toInt) ∧ r5 = 0) := hu5_0
  refine W.eq (g2 := F0 m 44 ls [.int r5]) rfl ?_
  obtain rfl : r5 = 1 := by rcases hu5_0 with ⟨_, q⟩ | ⟨q, _⟩; { exact q }; { exact absurd (show (0 : Int32).toInt ≤ xd.toInt ∧ xd.toInt ≤ (99 : Int32).toInt by rw [l_0, l_99]; exact h.2.2.2.2) q }
  refine lv_if_ne (tgt := 57) hx hb d_TT_request_44 (by decide) (fun _ => ?_) (fun h9 => absurd h9 (by decide))
  refine lv_aload_n hx hb d_TT_request_57 rfl (lv_at hl 0 rfl) ?_
  refine va_get (D := (dC, dI)) (ci := 0) (v := .int (sc 0)) (C := R_TT) (T := F_TT) (N := 8) hx hb ht in_TT hown hK hP 0 rfl rfl 5 (by decide) (ht _ tb_80) (fun _ h9 => h9) rfl d_TT_request_58 ?_
  refine W.eq (g2 := F0 m 61 ls [.int (nI N)]) (by rw [show sc 0 = nI N from hC.1.2]) ?_
  refine lv_bipush (v := 40) hx hb d_TT_request_61 (by decide) ?_
  refine lv_icmp_ge (tgt := 75) hx hb d_TT_request_63 (by decide) (fun h63_1 => ?_) (fun h63_1 => ?_)
  · have h63_1 := h63_1
    have i63_1 := ti_le h63_1
    (try rw [nI_toInt (show N < 2 ^ 31 by omega)] at i63_1)
    (try rw [l_40] at i63_1)
    exact absurd i63_1 (by omega)
  · have h63_1 := h63_1
    have i63_1 := ti_nle h63_1
    (try rw [nI_toInt (show N < 2 ^ 31 by omega)] at i63_1)
    (try rw [l_40] at i63_1)
    refine lv_aload_n hx hb d_TT_request_66 rfl (lv_at hl 0 rfl) ?_
    refine r_call (va_runV (C := R_TT) (As := []) (rest := []) ⟨hx, hb, hml, hown, ht⟩ (k_TT_openRequests l dC dI cd kI kQ L isA bk sc ia qa rf ba N hC) (cwV 0 ht (gV tb_346 tb_348 ts_19 tb_1 tb_349) rfl rfl rfl (by decide +kernel) ⟨Nat.le_of_ble_eq_true rfl, Nat.le_of_ble_eq_true rfl⟩) ⟨rdP_blind, va_recv (q := (R_TT, F_TT, 8)) hK hP rfl (show (CW cd kI kQ L isA bk sc ia qa rf ba : va_W)[0]? = some _ from rfl), rd_pre hP hK⟩ rfl rfl hl.1 rfl (lv_room (Nat.le_of_ble_eq_true rfl)) d_TT_request_67 ⟨Nat.le_of_ble_eq_true rfl, Nat.le_of_ble_eq_true rfl⟩) (fun r6 hu => ?_)
    have hu6_0 := hu
    have hu6_0 : r6 = nI (oc (fun i => phq rf (qa 0 i)) N) := hu6_0
    refine W.eq (g2 := F0 m 70 ls [.int r6]) rfl ?_
    have hoc9 := oc_le (fun i => phq rf (qa 0 i)) N
    subst hu6_0
    refine lv_bipush (v := 12) hx hb d_TT_request_70 (by decide) ?_
    refine lv_icmp_lt (tgt := 85) hx hb d_TT_request_72 (by decide) (fun h72_2 => ?_) (fun h72_2 => ?_)
    · have h72_2 := h72_2
      have i72_2 := ti_lt h72_2
      (try rw [nI_toInt (show oc (fun i => phq rf (qa 0 i)) N < 2 ^ 31 by omega)] at i72_2)
      (try rw [l_12] at i72_2)
      refine lv_aload_n hx hb d_TT_request_85 rfl (lv_at hl 0 rfl) ?_
      refine va_get (D := (dC, dI)) (ci := 0) (v := .int (sc 0)) (C := R_TT) (T := F_TT) (N := 8) hx hb ht in_TT hown hK hP 0 rfl rfl 5 (by decide) (ht _ tb_80) (fun _ h9 => h9) rfl d_TT_request_86 ?_
      refine W.eq (g2 := F0 m 89 ls [.int (nI N)]) (by rw [show sc 0 = nI N from hC.1.2]) ?_
      refine lv_istore hx hb d_TT_request_89 hl (by decide) rfl (fun ls hl => ?_)
      have hl : lv_has ls 7 [(6, .int (nI N)), (0, .ref (cd 0)), (1, .int xc), (2, .int xs), (3, .int xl), (4, .int xp), (5, .int xd)] := hl
      refine lv_aload_n hx hb d_TT_request_91 rfl (lv_at hl 1 rfl) ?_
      refine va_get (D := (dC, dI)) (ci := 0) (v := .ref (cd 1)) (C := R_TT) (T := F_TT) (N := 8) hx hb ht in_TT hown hK hP 0 rfl rfl 0 (by decide) (ht _ tb_75) (fun _ h9 => h9) rfl d_TT_request_92 ?_
      refine lv_iload hx hb d_TT_request_95 (lv_at hl 0 rfl) ?_
      have hP0 := hP
      have hD0 := hD
      refine va_new (ci := 4) (fs := [.int 0, .int 0, .int 0, .int 0, .int 0, .int 0, .int 0, .null, .int 0, .int 0, .int 0, .int 0, .int 0, .int 0, .int 0, .int 0, .int 0]) (C := R_RQ) (T := F_RQ) (N := 17) hx hb ht in_RQ t_RQ t_RQ_ok hown (ht _ tb_23) (ht _ tb_367) (ht _ tb_11) hK hP hD hS hA rfl (fun j hj => fs_RQ j hj) (Nat.le_of_ble_eq_true rfl) (Nat.le_of_ble_eq_true rfl) d_TT_request_97 (fun q H hP hD hS => ?_)
      have hP : va_P (dC, dI) cls_ (CW cd kI kQ L isA bk sc ia qa rf ba ++ [(q, .inr (4, [.int 0, .int 0, .int 0, .int 0, .int 0, .int 0, .int 0, .null, .int 0, .int 0, .int 0, .int 0, .int 0, .int 0, .int 0, .int 0, .int 0]))]) H := hP
      have hD : va_D A (CW cd kI kQ L isA bk sc ia qa rf ba ++ [(q, .inr (4, [.int 0, .int 0, .int 0, .int 0, .int 0, .int 0, .int 0, .null, .int 0, .int 0, .int 0, .int 0, .int 0, .int 0, .int 0, .int 0, .int 0]))]) := hD
      refine W.cs (cells' := 1) (slots' := 17) rfl rfl ?_
      refine lv_dup hx hb d_TT_request_100 rfl ?_
      refine lv_iload hx hb d_TT_request_101 (lv_at hl 0 rfl) ?_
      refine lv_iload_n hx hb d_TT_request_103 rfl (lv_at hl 2 rfl) ?_
      refine lv_iload_n hx hb d_TT_request_104 rfl (lv_at hl 3 rfl) ?_
      refine lv_iload_n hx hb d_TT_request_105 rfl (lv_at hl 4 rfl) ?_
      refine lv_iload hx hb d_TT_request_106 (lv_at hl 5 rfl) ?_
      refine lv_iload hx hb d_TT_request_108 (lv_at hl 6 rfl) ?_
      have hF : ∀ x, va_A [(q, .inr (4, [.int 0, .int 0, .int 0, .int 0, .int 0, .int 0, .int 0, .null, .int 0, .int 0, .int 0, .int 0, .int 0, .int 0, .int 0, .int 0, .int 0]))] H.size x → A x := fun x h9 => by
        rcases h9 with ⟨k9, e9, h9⟩ | h9
        · exact (ap_D hD).2 k9 (x, e9) h9
        · exact hA x (Nat.le_trans hS.1 h9)
      refine fr_call (va_runI (As := [.int (nI N), .int xc, .int xs, .int xl, .int xp, .int xd]) (rest := [.ref q, .int (nI N), .ref (cd 1)]) ⟨hx, hb, hml, hown, ht⟩ (c_RQ_init_mk l dC dI H.size Bd q (nI N) xc xs xl xp xd) (cwI 6 ht (gI tb_370) rfl rfl rfl (ht _ tb_11) (ht _ tb_368) (ht _ tb_369) rfl (by decide +kernel) ⟨Nat.le_of_ble_eq_true rfl, Nat.le_of_ble_eq_true rfl⟩) ⟨frP_blind, fr_pre (ap_P hP) ⟨hK.1, fun k q h => by cases h⟩ (ap_D hD) hAB hBs hS hV⟩ rfl rfl hl.1 rfl (lv_room (Nat.le_of_ble_eq_true rfl)) d_TT_request_110 ⟨Nat.le_of_ble_eq_true rfl, Nat.le_of_ble_eq_true rfl⟩) hS (fun x _ h9 => hF x h9) hF (fun t H1 locs ht1 hvm hB1 hz1 hk1 hS => ?_)
      obtain ⟨b, k1, hP1, hK1, hD1⟩ := hB1
      rw [ht1] at hP1
      have hK1 := va_K.moved hvm.symm hK1
      obtain rfl : kI = k1 := Option.some.inj (((hK.2 0 _ rfl).2).symm.trans ((hK1.2 0 _ rfl).2))
      obtain ⟨hP, hD⟩ := fr_app hP hD hk1 hF hP1 hD1
      have hqL : q ∉ L := fun h9 => by
        obtain ⟨k9, hk9⟩ := va_pl_get (X := CX cd kI kQ sc ia qa) (f := PE kI isA bk rf ba) h9
        have h8 := hD.1 k9 _ _ _ (ap_E hk9) (ap_w (E := CX cd kI kQ sc ia qa ++ va_pl L (PE kI isA bk rf ba)) (j := 0) rfl) rfl
        have h7 := (List.getElem?_eq_some_iff.mp hk9).1
        omega
      have hbL : b ∉ L := fun h9 => by
        obtain ⟨k9, hk9⟩ := va_pl_get (X := CX cd kI kQ sc ia qa) (f := PE kI isA bk rf ba) h9
        have h8 := hD.1 k9 _ _ _ (ap_E hk9) (ap_w (E := CX cd kI kQ sc ia qa ++ va_pl L (PE kI isA bk rf ba)) (j := 1) rfl) rfl
        have h7 := (List.getElem?_eq_some_iff.mp hk9).1
        omega
      have hqb : q ≠ b := fun h9 => by have h8 := hD1.1 0 1 _ _ rfl rfl h9; omega
      have hpush := pool_push (X := CX cd kI kQ sc ia qa) (kI := kI) (L := L) (isA := isA) (bk := bk) (rf := rf) (ba := ba) (g := rqG (nI N) xc xs xl xp xd) hqL hbL hqb
      replace hP := (show va_P (dC, dI) cls_ ((CX cd kI kQ sc ia qa ++ va_pl L (PE kI isA bk rf ba)) ++ [(q, .inr (4, RQF (rqG (nI N) xc xs xl xp xd) b)), (b, .inl (kI, 6, .inl (fun _ => 0)))]) H1 from hP)
      replace hD := (show va_D A ((CX cd kI kQ sc ia qa ++ va_pl L (PE kI isA bk rf ba)) ++ [(q, .inr (4, RQF (rqG (nI N) xc xs xl xp xd) b)), (b, .inl (kI, 6, .inl (fun _ => 0)))]) from hD)
      rw [hpush] at hP hD
      obtain ⟨L2, eL2⟩ : ∃ z, z = L ++ [q, b] := ⟨_, rfl⟩
      obtain ⟨isA2, eA2⟩ : ∃ z, z = va_up (va_up isA q false) b true := ⟨_, rfl⟩
      obtain ⟨bk2, eB2⟩ : ∃ z, z = va_up bk q b := ⟨_, rfl⟩
      obtain ⟨rf2, eR2⟩ : ∃ z, z = va_up rf q (rqG (nI N) xc xs xl xp xd) := ⟨_, rfl⟩
      obtain ⟨ba2, eb2⟩ : ∃ z, z = va_up ba b (fun _ => 0) := ⟨_, rfl⟩
      rw [← eL2, ← eA2, ← eB2, ← eR2, ← eb2] at hP hD
      have haq : q ∈ L2 := by rw [eL2]; exact List.mem_append_right _ (by simp)
      have hnq : isA2 q = false := by rw [eA2, va_up_ne _ _ hqb, va_up_self]
      generalize H1 = H at hP hS ⊢
      refine W.eq (g2 := F0 m 113 ls [.ref q, .int (nI N), .ref (cd 1)]) rfl ?_
      refine W.cs (cells' := 2) (slots' := 23) rfl rfl ?_
      obtain ⟨kq, hkq⟩ := pq_at (X := CX cd kI kQ sc ia qa) (kI := kI) (bk := bk2) (rf := rf2) (ba := ba2) haq hnq
      refine va_astq (r := (R_RQ, F_RQ, 17)) hx hb hK hP hD hS 1 1 kq 4 rfl rfl hkq rfl (vp_in_nI (show N < 40 by omega) (by decide)) d_TT_request_113 (fun H locs hP hD hS => ?_)
      rw [nI_clamp (show N < 2 ^ 31 by omega)] at hP hD
      have hP : va_P (dC, dI) cls_ (CW cd kI kQ L2 isA2 bk2 sc ia (va_up qa 0 (va_up (qa 0) N (some q))) rf2 ba2) H := hP
      have hD : va_D A (CW cd kI kQ L2 isA2 bk2 sc ia (va_up qa 0 (va_up (qa 0) N (some q))) rf2 ba2) := hD
      obtain ⟨qa7, eqa7⟩ : ∃ q9_, q9_ = va_up qa 0 (va_up (qa 0) N (some q)) := ⟨_, rfl⟩
      rw [← eqa7] at hP hD
      refine lv_aload_n hx hb d_TT_request_114 rfl (lv_at hl 1 rfl) ?_
      refine lv_dup hx hb d_TT_request_115 rfl ?_
      refine va_get (D := (dC, dI)) (ci := 0) (v := .int (sc 0)) (C := R_TT) (T := F_TT) (N := 8) hx hb ht in_TT hown hK hP 0 rfl rfl 5 (by decide) (ht _ tb_80) (fun _ h9 => h9) rfl d_TT_request_116 ?_
      refine W.eq (g2 := F0 m 119 ls [.int (nI N), .ref (cd 0)]) (by rw [show sc 0 = nI N from hC.1.2]) ?_
      refine lv_iconst (v := 1) hx hb d_TT_request_119 (by decide) ?_
      refine lv_iadd hx hb d_TT_request_120 ?_
      refine lv_topi (fun v8 ev8 => ?_)
      obtain rfl : v8 = nI (N + 1) := ev8.trans ((nI_succ N).symm)
      refine va_put (D := (dC, dI)) (ci := 0) (v := .int (nI (N + 1))) (ty := .int) (C := R_TT) (T := F_TT) (N := 8) hx hb ht in_TT t_TT t_TT_ok n_TT hown hK hP hD hS 0 rfl rfl 5 (by decide) (ht _ tb_80) (fun _ h9 => h9) rfl (by decide +kernel) rfl rfl (Nat.le_of_ble_eq_true rfl) d_TT_request_121 (fun H locs hP hD hS => ?_)
      have hP : va_P (dC, dI) cls_ (CW cd kI kQ L2 isA2 bk2 (va_up sc 0 (nI (N + 1))) ia qa7 rf2 ba2) H := hP
      have hD : va_D A (CW cd kI kQ L2 isA2 bk2 (va_up sc 0 (nI (N + 1))) ia qa7 rf2 ba2) := hD
      obtain ⟨sc9, esc9⟩ : ∃ q9_, q9_ = va_up sc 0 (nI (N + 1)) := ⟨_, rfl⟩
      rw [← esc9] at hP hD
      have hs : same [0] sc sc9 := by rw [esc9]; exact hs.up (by decide)
      have hC : CI (N + 1) L2 isA2 bk2 sc9 qa7 rf2 := by rw [esc9]; exact (by rw [eqa7, eL2, eA2, eB2, eR2]; exact CI_req hC (by omega) hqL hbL hqb h.1 rfl)
      refine lv_iload hx hb d_TT_request_124 (lv_at hl 0 rfl) ?_
      exact W.iret (v := nI N) hx hb hr (fun t ht9 hW => ⟨⟨nI N, ((L2, isA2, bk2), (sc9, ia, qa7, rf2, ba2)), rfl, ⟨hs, hC⟩, by rw [ht9]; exact hP, hD⟩, hS.F ht9⟩) hS.2.2 d_TT_request_126
    · have h72_2 := h72_2
      have i72_2 := ti_nlt h72_2
      (try rw [nI_toInt (show oc (fun i => phq rf (qa 0 i)) N < 2 ^ 31 by omega)] at i72_2)
      (try rw [l_12] at i72_2)
      exact absurd i72_2 (by omega)
