/-- the tables' words that stay true while a method runs -/
def tb_ : List Cond := lw_tbl.filter goodWord
theorem tb_good : ∀ w ∈ tb_, goodWord w = true := fun w h => (List.mem_filter.mp h).2
theorem tb_w {w : Cond} (i : Nat) (h : tables_1[i]? = some w) (hg : goodWord w = true) : w ∈ tb_ := List.mem_filter.mpr ⟨List.mem_append_right _ (List.mem_of_getElem? h), hg⟩
theorem ts_w {w : Cond} (i : Nat) (h : (k2_sels lw_privs)[i]? = some w) (hg : goodWord w = true) : w ∈ tb_ := List.mem_filter.mpr ⟨List.mem_append_left _ (List.mem_of_getElem? h), hg⟩
theorem tb_l {ws : List Cond} (ps : List Nat) (hp : ws = ps.filterMap (fun i => tables_1[i]?)) (hg : ws.all goodWord = true) : ∀ w ∈ ws, w ∈ tb_ := fun w hw => by
  have h1 := List.all_eq_true.mp hg w hw
  rw [hp] at hw
  obtain ⟨i, -, hi⟩ := List.mem_filterMap.mp hw
  exact tb_w i hi h1
theorem gI {y : MethodName} {cc : ByteArray} {n : Nat} {r : Option FieldType} (h : Cond.code y cc n r ∈ tb_) : GoodIn tb_ (Cond.code y cc n r :: tb_) := fun w hw => by
  have h1 : w ∈ tb_ := (List.mem_cons.mp hw).elim (fun e => by rw [e]; exact h) id
  exact ⟨h1, good_of_word (tb_good w h1)⟩
theorem gW {y : MethodName} {cc : ByteArray} {n : Nat} {r : Option FieldType} {hh : List (Nat × Nat × Nat × Nat)} (h : Cond.codeWith y cc n r hh ∈ tb_) : GoodIn tb_ (Cond.codeWith y cc n r hh :: tb_) := fun w hw => by
  have h1 : w ∈ tb_ := (List.mem_cons.mp hw).elim (fun e => by rw [e]; exact h) id
  exact ⟨h1, good_of_word (tb_good w h1)⟩
theorem gL {ws : List Cond} (h : ∀ w ∈ ws, w ∈ tb_) {y : MethodName} {cc : ByteArray} {n : Nat} {r : Option FieldType} (hc : Cond.code y cc n r ∈ tb_) : GoodIn tb_ (ws ++ (Cond.code y cc n r :: tb_)) := fun w hw =>
  (List.mem_append.mp hw).elim (fun h1 => ⟨h w h1, good_of_word (tb_good w (h w h1))⟩) (gI hc w)
theorem gV {own C : String} {i n : Nat} {y : MethodName} {cc : ByteArray} {r : Option FieldType} (h1 : Cond.methodLink own i y ∈ tb_) (h2 : Cond.instanceMethod y ∈ tb_) (h3 : Cond.selects C y y ∈ tb_) (h4 : Cond.initialized C ∈ tb_) (hc : Cond.code y cc n r ∈ tb_) : GoodIn tb_ (wsV own i C y (Cond.code y cc n r :: tb_)) :=
  gL (fun w hw => by simp only [List.mem_cons, List.not_mem_nil, or_false] at hw; rcases hw with rfl | rfl | rfl | rfl <;> assumption) hc
theorem gS {own : String} {i n : Nat} {y : MethodName} {cc : ByteArray} {r : Option FieldType} (h1 : Cond.methodLink own i y ∈ tb_) (h2 : Cond.static y ∈ tb_) (h3 : Cond.initialized y.cls ∈ tb_) (hc : Cond.code y cc n r ∈ tb_) : GoodIn tb_ (va_wsS own i y (Cond.code y cc n r :: tb_)) :=
  gL (fun w hw => by simp only [List.mem_cons, List.not_mem_nil, or_false] at hw; rcases hw with rfl | rfl | rfl <;> assumption) hc
def R_TT : String := "TwinTuners"
def R_PL : String := "TwinTuners$Plan"
def R_DK : String := "TwinTuners$Disk"
def R_RW : String := "TwinTuners$Rewind"
def R_RQ : String := "TwinTuners$Request"
def R_MO : String := "TwinTunersModel"
def R_LW : String := "TwinTunersLaw"
def F_TT : u_T := fun k => match k with
  | 0 => ("TwinTuners", "requests", "[LTwinTuners$Request;", true)
  | 1 => ("TwinTuners", "onAir", "[I", true)
  | 2 => ("TwinTuners", "plan", "LTwinTuners$Plan;", true)
  | 3 => ("TwinTuners", "disk", "LTwinTuners$Disk;", true)
  | 4 => ("TwinTuners", "rewind", "LTwinTuners$Rewind;", true)
  | 5 => ("TwinTuners", "count", "I", false)
  | 6 => ("TwinTuners", "second", "I", false)
  | _ => ("TwinTuners", "watched", "I", false)
def t_TT : Nat → FieldType := fun k => match k with
  | 0 => .array (.object "TwinTuners$Request")
  | 1 => .array .int
  | 2 => .object "TwinTuners$Plan"
  | 3 => .object "TwinTuners$Disk"
  | 4 => .object "TwinTuners$Rewind"
  | 5 => .int
  | 6 => .int
  | _ => .int
theorem n_TT : ∀ a, a < 8 → ∀ b, b < 8 → a ≠ b → (F_TT a).2.1 ≠ (F_TT b).2.1 := by decide +kernel
theorem t_TT_ok : ∀ k, k < 8 → parseFieldDescriptor (F_TT k).2.2.1 = some (t_TT k) := by decide +kernel
theorem in_TT : ∀ w ∈ u_ws R_TT F_TT 8, w ∈ tb_ := tb_l [83, 85, 87, 89, 91, 93, 95, 97] (by decide +kernel) (by decide +kernel)
theorem fs_TT : ∀ j, j < 8 → defaultValue (t_TT j) = vp_V [.null, .null, .null, .null, .null, .int 0, .int 0, .int 0] j := by decide +kernel
def F_PL : u_T := fun k => match k with
  | 0 => ("TwinTuners$Plan", "order", "[LTwinTuners$Request;", true)
  | _ => ("TwinTuners$Plan", "size", "I", false)
def t_PL : Nat → FieldType := fun k => match k with
  | 0 => .array (.object "TwinTuners$Request")
  | _ => .int
theorem n_PL : ∀ a, a < 2 → ∀ b, b < 2 → a ≠ b → (F_PL a).2.1 ≠ (F_PL b).2.1 := by decide +kernel
theorem t_PL_ok : ∀ k, k < 2 → parseFieldDescriptor (F_PL k).2.2.1 = some (t_PL k) := by decide +kernel
theorem in_PL : ∀ w ∈ u_ws R_PL F_PL 2, w ∈ tb_ := tb_l [34, 36] (by decide +kernel) (by decide +kernel)
theorem fs_PL : ∀ j, j < 2 → defaultValue (t_PL j) = vp_V [.null, .int 0] j := by decide +kernel
def F_DK : u_T := fun k => match k with
  | 0 => ("TwinTuners$Disk", "owner", "[I", true)
  | 1 => ("TwinTuners$Disk", "segmentIn", "[I", true)
  | 2 => ("TwinTuners$Disk", "filled", "[I", true)
  | _ => ("TwinTuners$Disk", "words", "[I", true)
def t_DK : Nat → FieldType := fun k => match k with
  | 0 => .array .int
  | 1 => .array .int
  | 2 => .array .int
  | _ => .array .int
theorem n_DK : ∀ a, a < 4 → ∀ b, b < 4 → a ≠ b → (F_DK a).2.1 ≠ (F_DK b).2.1 := by decide +kernel
theorem t_DK_ok : ∀ k, k < 4 → parseFieldDescriptor (F_DK k).2.2.1 = some (t_DK k) := by decide +kernel
theorem in_DK : ∀ w ∈ u_ws R_DK F_DK 4, w ∈ tb_ := tb_l [50, 52, 54, 56] (by decide +kernel) (by decide +kernel)
theorem fs_DK : ∀ j, j < 4 → defaultValue (t_DK j) = vp_V [.null, .null, .null, .null] j := by decide +kernel
def F_RW : u_T := fun k => match k with
  | 0 => ("TwinTuners$Rewind", "ring", "[I", true)
  | 1 => ("TwinTuners$Rewind", "next", "I", false)
  | _ => ("TwinTuners$Rewind", "size", "I", false)
def t_RW : Nat → FieldType := fun k => match k with
  | 0 => .array .int
  | 1 => .int
  | _ => .int
theorem n_RW : ∀ a, a < 3 → ∀ b, b < 3 → a ≠ b → (F_RW a).2.1 ≠ (F_RW b).2.1 := by decide +kernel
theorem t_RW_ok : ∀ k, k < 3 → parseFieldDescriptor (F_RW k).2.2.1 = some (t_RW k) := by decide +kernel
theorem in_RW : ∀ w ∈ u_ws R_RW F_RW 3, w ∈ tb_ := tb_l [68, 70, 72] (by decide +kernel) (by decide +kernel)
theorem fs_RW : ∀ j, j < 3 → defaultValue (t_RW j) = vp_V [.null, .int 0, .int 0] j := by decide +kernel
def F_RQ : u_T := fun k => match k with
  | 0 => ("TwinTuners$Request", "number", "I", true)
  | 1 => ("TwinTuners$Request", "channel", "I", true)
  | 2 => ("TwinTuners$Request", "start", "I", true)
  | 3 => ("TwinTuners$Request", "coreEnd", "I", true)
  | 4 => ("TwinTuners$Request", "priority", "I", true)
  | 5 => ("TwinTuners$Request", "padBefore", "I", true)
  | 6 => ("TwinTuners$Request", "padAfter", "I", true)
  | 7 => ("TwinTuners$Request", "bookmarkSeconds", "[I", true)
  | 8 => ("TwinTuners$Request", "phase", "I", false)
  | 9 => ("TwinTuners$Request", "from", "I", false)
  | 10 => ("TwinTuners$Request", "end", "I", false)
  | 11 => ("TwinTuners$Request", "takenFrom", "I", false)
  | 12 => ("TwinTuners$Request", "takenTo", "I", false)
  | 13 => ("TwinTuners$Request", "secondsShort", "I", false)
  | 14 => ("TwinTuners$Request", "bookmarks", "I", false)
  | 15 => ("TwinTuners$Request", "isProtected", "Z", false)
  | _ => ("TwinTuners$Request", "isSeen", "Z", false)
def t_RQ : Nat → FieldType := fun k => match k with
  | 0 => .int
  | 1 => .int
  | 2 => .int
  | 3 => .int
  | 4 => .int
  | 5 => .int
  | 6 => .int
  | 7 => .array .int
  | 8 => .int
  | 9 => .int
  | 10 => .int
  | 11 => .int
  | 12 => .int
  | 13 => .int
  | 14 => .int
  | 15 => .boolean
  | _ => .boolean
theorem n_RQ : ∀ a, a < 17 → ∀ b, b < 17 → a ≠ b → (F_RQ a).2.1 ≠ (F_RQ b).2.1 := by decide +kernel
theorem t_RQ_ok : ∀ k, k < 17 → parseFieldDescriptor (F_RQ k).2.2.1 = some (t_RQ k) := by decide +kernel
theorem in_RQ : ∀ w ∈ u_ws R_RQ F_RQ 17, w ∈ tb_ := tb_l [413, 415, 417, 419, 421, 423, 425, 427, 429, 431, 433, 435, 437, 439, 441, 443, 445] (by decide +kernel) (by decide +kernel)
theorem fs_RQ : ∀ j, j < 17 → defaultValue (t_RQ j) = vp_V [.int 0, .int 0, .int 0, .int 0, .int 0, .int 0, .int 0, .null, .int 0, .int 0, .int 0, .int 0, .int 0, .int 0, .int 0, .int 0, .int 0] j := by decide +kernel
def F_MO : u_T := fun k => match k with
  | 0 => ("TwinTunersModel", "fault", "I", false)
  | 1 => ("TwinTunersModel", "now", "I", false)
  | 2 => ("TwinTunersModel", "watched", "I", false)
  | 3 => ("TwinTunersModel", "airs", "[I", true)
  | 4 => ("TwinTunersModel", "requests", "I", false)
  | 5 => ("TwinTunersModel", "channels", "[I", true)
  | 6 => ("TwinTunersModel", "starts", "[I", true)
  | 7 => ("TwinTunersModel", "lengths", "[I", true)
  | 8 => ("TwinTunersModel", "priorities", "[I", true)
  | 9 => ("TwinTunersModel", "befores", "[I", true)
  | 10 => ("TwinTunersModel", "afters", "[I", true)
  | 11 => ("TwinTunersModel", "states", "[I", true)
  | 12 => ("TwinTunersModel", "froms", "[I", true)
  | 13 => ("TwinTunersModel", "ends", "[I", true)
  | 14 => ("TwinTunersModel", "shorts", "[I", true)
  | 15 => ("TwinTunersModel", "isProtected", "[Z", true)
  | 16 => ("TwinTunersModel", "isSeen", "[Z", true)
  | 17 => ("TwinTunersModel", "has", "[Z", true)
  | 18 => ("TwinTunersModel", "words", "[I", true)
  | 19 => ("TwinTunersModel", "marks", "[Z", true)
  | 20 => ("TwinTunersModel", "segments", "[Z", true)
  | 21 => ("TwinTunersModel", "spans", "I", false)
  | 22 => ("TwinTunersModel", "spanChannel", "[I", true)
  | 23 => ("TwinTunersModel", "spanFrom", "[I", true)
  | 24 => ("TwinTunersModel", "spanTo", "[I", true)
  | 25 => ("TwinTunersModel", "isPlanned", "[Z", true)
  | 26 => ("TwinTunersModel", "planFroms", "[I", true)
  | 27 => ("TwinTunersModel", "planTos", "[I", true)
  | 28 => ("TwinTunersModel", "backs", "I", false)
  | _ => ("TwinTunersModel", "back", "[I", true)
def t_MO : Nat → FieldType := fun k => match k with
  | 0 => .int
  | 1 => .int
  | 2 => .int
  | 3 => .array .int
  | 4 => .int
  | 5 => .array .int
  | 6 => .array .int
  | 7 => .array .int
  | 8 => .array .int
  | 9 => .array .int
  | 10 => .array .int
  | 11 => .array .int
  | 12 => .array .int
  | 13 => .array .int
  | 14 => .array .int
  | 15 => .array .boolean
  | 16 => .array .boolean
  | 17 => .array .boolean
  | 18 => .array .int
  | 19 => .array .boolean
  | 20 => .array .boolean
  | 21 => .int
  | 22 => .array .int
  | 23 => .array .int
  | 24 => .array .int
  | 25 => .array .boolean
  | 26 => .array .int
  | 27 => .array .int
  | 28 => .int
  | _ => .array .int
theorem n_MO : ∀ a, a < 30 → ∀ b, b < 30 → a ≠ b → (F_MO a).2.1 ≠ (F_MO b).2.1 := by decide +kernel
theorem t_MO_ok : ∀ k, k < 30 → parseFieldDescriptor (F_MO k).2.2.1 = some (t_MO k) := by decide +kernel
theorem in_MO : ∀ w ∈ u_ws R_MO F_MO 30, w ∈ tb_ := tb_l [661, 663, 665, 667, 669, 671, 673, 675, 677, 679, 681, 683, 685, 687, 689, 691, 693, 695, 697, 699, 701, 703, 705, 707, 709, 711, 713, 715, 717, 719] (by decide +kernel) (by decide +kernel)
theorem fs_MO : ∀ j, j < 30 → defaultValue (t_MO j) = vp_V [.int 0, .int 0, .int 0, .null, .int 0, .null, .null, .null, .null, .null, .null, .null, .null, .null, .null, .null, .null, .null, .null, .null, .null, .int 0, .null, .null, .null, .null, .null, .null, .int 0, .null] j := by decide +kernel
abbrev cls_ : List vw_C := [(R_TT, F_TT, 8), (R_PL, F_PL, 2), (R_DK, F_DK, 4), (R_RW, F_RW, 3), (R_RQ, F_RQ, 17), (R_MO, F_MO, 30)]
