section
-- ===== PART A: goes FIRST, ahead of the names: the tables' words, and 'selects' of the private methods out of them =====
/-- a private method of a class that the tables say can be made, by its rows of tables_1 -/
def lw_okq (q : MethodName × Nat) : Prop := (q.1.cls ≠ "java/lang/invoke/MethodHandle" ∧ q.1.cls ≠ "java/lang/invoke/VarHandle") ∧ Cond.instantiable q.1.cls q.2 ∈ tables_1 ∧ Cond.privateMethod q.1 ∈ tables_1 ∧ Cond.instanceMethod q.1 ∈ tables_1
theorem lw_p0 : lw_okq (⟨"LentViews", "remember", "()V"⟩, 12) := ⟨⟨by decide +kernel, by decide +kernel⟩, List.mem_of_getElem? (i := 13) (by decide +kernel), List.mem_of_getElem? (i := 258) (by decide +kernel), List.mem_of_getElem? (i := 259) (by decide +kernel)⟩
theorem lw_p1 : lw_okq (⟨"LentViews", "beginAct", "(III)I"⟩, 12) := ⟨⟨by decide +kernel, by decide +kernel⟩, List.mem_of_getElem? (i := 13) (by decide +kernel), List.mem_of_getElem? (i := 303) (by decide +kernel), List.mem_of_getElem? (i := 304) (by decide +kernel)⟩
theorem lw_p2 : lw_okq (⟨"LentViews$World", "writeOut", "(ILLentViews$Act;)V"⟩, 9) := ⟨⟨by decide +kernel, by decide +kernel⟩, List.mem_of_getElem? (i := 21) (by decide +kernel), List.mem_of_getElem? (i := 332) (by decide +kernel), List.mem_of_getElem? (i := 333) (by decide +kernel)⟩
theorem lw_p3 : lw_okq (⟨"LentViews$World", "versionBehind", "(I)I"⟩, 9) := ⟨⟨by decide +kernel, by decide +kernel⟩, List.mem_of_getElem? (i := 21) (by decide +kernel), List.mem_of_getElem? (i := 336) (by decide +kernel), List.mem_of_getElem? (i := 337) (by decide +kernel)⟩
theorem lw_p4 : lw_okq (⟨"LentViews$Act", "countMoves", "(I)Z"⟩, 12) := ⟨⟨by decide +kernel, by decide +kernel⟩, List.mem_of_getElem? (i := 92) (by decide +kernel), List.mem_of_getElem? (i := 358) (by decide +kernel), List.mem_of_getElem? (i := 359) (by decide +kernel)⟩
theorem lw_p5 : lw_okq (⟨"LentViews$Act", "lowestMoved", "(II)I"⟩, 12) := ⟨⟨by decide +kernel, by decide +kernel⟩, List.mem_of_getElem? (i := 92) (by decide +kernel), List.mem_of_getElem? (i := 362) (by decide +kernel), List.mem_of_getElem? (i := 363) (by decide +kernel)⟩
theorem lw_p6 : lw_okq (⟨"LentViews$Act", "takePhoto", "([III)V"⟩, 12) := ⟨⟨by decide +kernel, by decide +kernel⟩, List.mem_of_getElem? (i := 92) (by decide +kernel), List.mem_of_getElem? (i := 366) (by decide +kernel), List.mem_of_getElem? (i := 367) (by decide +kernel)⟩
theorem lw_p7 : lw_okq (⟨"LentViews$History", "wereAs", "([I)Z"⟩, 5) := ⟨⟨by decide +kernel, by decide +kernel⟩, List.mem_of_getElem? (i := 70) (by decide +kernel), List.mem_of_getElem? (i := 376) (by decide +kernel), List.mem_of_getElem? (i := 377) (by decide +kernel)⟩
theorem lw_p8 : lw_okq (⟨"LentViews", "readsOfTrial", "(III)I"⟩, 12) := ⟨⟨by decide +kernel, by decide +kernel⟩, List.mem_of_getElem? (i := 13) (by decide +kernel), List.mem_of_getElem? (i := 448) (by decide +kernel), List.mem_of_getElem? (i := 449) (by decide +kernel)⟩
theorem lw_p9 : lw_okq (⟨"LentViews", "movesThatFit", "()I"⟩, 12) := ⟨⟨by decide +kernel, by decide +kernel⟩, List.mem_of_getElem? (i := 13) (by decide +kernel), List.mem_of_getElem? (i := 465) (by decide +kernel), List.mem_of_getElem? (i := 466) (by decide +kernel)⟩
theorem lw_p10 : lw_okq (⟨"LentViews", "fitsAllSeen", "(I)Z"⟩, 12) := ⟨⟨by decide +kernel, by decide +kernel⟩, List.mem_of_getElem? (i := 13) (by decide +kernel), List.mem_of_getElem? (i := 469) (by decide +kernel), List.mem_of_getElem? (i := 470) (by decide +kernel)⟩
theorem lw_p11 : lw_okq (⟨"LentViews", "mostAlike", "(III)I"⟩, 12) := ⟨⟨by decide +kernel, by decide +kernel⟩, List.mem_of_getElem? (i := 13) (by decide +kernel), List.mem_of_getElem? (i := 483) (by decide +kernel), List.mem_of_getElem? (i := 484) (by decide +kernel)⟩
theorem lw_p12 : lw_okq (⟨"LentViews", "countAlike", "(I)I"⟩, 12) := ⟨⟨by decide +kernel, by decide +kernel⟩, List.mem_of_getElem? (i := 13) (by decide +kernel), List.mem_of_getElem? (i := 490) (by decide +kernel), List.mem_of_getElem? (i := 491) (by decide +kernel)⟩
theorem lw_p13 : lw_okq (⟨"LentViewsModel", "notes", "()V"⟩, 10) := ⟨⟨by decide +kernel, by decide +kernel⟩, List.mem_of_getElem? (i := 513) (by decide +kernel), List.mem_of_getElem? (i := 560) (by decide +kernel), List.mem_of_getElem? (i := 561) (by decide +kernel)⟩
theorem lw_p14 : lw_okq (⟨"LentViewsModel", "isWriter", "(I)Z"⟩, 10) := ⟨⟨by decide +kernel, by decide +kernel⟩, List.mem_of_getElem? (i := 513) (by decide +kernel), List.mem_of_getElem? (i := 568) (by decide +kernel), List.mem_of_getElem? (i := 569) (by decide +kernel)⟩
theorem lw_p15 : lw_okq (⟨"LentViewsModel", "begun", "(III)I"⟩, 10) := ⟨⟨by decide +kernel, by decide +kernel⟩, List.mem_of_getElem? (i := 513) (by decide +kernel), List.mem_of_getElem? (i := 572) (by decide +kernel), List.mem_of_getElem? (i := 573) (by decide +kernel)⟩
def lw_privs_1 : List (MethodName × Nat) := [(⟨"LentViews", "remember", "()V"⟩, 12), (⟨"LentViews", "beginAct", "(III)I"⟩, 12), (⟨"LentViews$World", "writeOut", "(ILLentViews$Act;)V"⟩, 9), (⟨"LentViews$World", "versionBehind", "(I)I"⟩, 9), (⟨"LentViews$Act", "countMoves", "(I)Z"⟩, 12), (⟨"LentViews$Act", "lowestMoved", "(II)I"⟩, 12), (⟨"LentViews$Act", "takePhoto", "([III)V"⟩, 12), (⟨"LentViews$History", "wereAs", "([I)Z"⟩, 5), (⟨"LentViews", "readsOfTrial", "(III)I"⟩, 12), (⟨"LentViews", "movesThatFit", "()I"⟩, 12), (⟨"LentViews", "fitsAllSeen", "(I)Z"⟩, 12), (⟨"LentViews", "mostAlike", "(III)I"⟩, 12), (⟨"LentViews", "countAlike", "(I)I"⟩, 12), (⟨"LentViewsModel", "notes", "()V"⟩, 10), (⟨"LentViewsModel", "isWriter", "(I)Z"⟩, 10), (⟨"LentViewsModel", "begun", "(III)I"⟩, 10)]
theorem lw_r1 : ∀ q ∈ lw_privs_1, lw_okq q := List.forall_mem_cons.mpr ⟨lw_p0, List.forall_mem_cons.mpr ⟨lw_p1, List.forall_mem_cons.mpr ⟨lw_p2, List.forall_mem_cons.mpr ⟨lw_p3, List.forall_mem_cons.mpr ⟨lw_p4, List.forall_mem_cons.mpr ⟨lw_p5, List.forall_mem_cons.mpr ⟨lw_p6, List.forall_mem_cons.mpr ⟨lw_p7, List.forall_mem_cons.mpr ⟨lw_p8, List.forall_mem_cons.mpr ⟨lw_p9, List.forall_mem_cons.mpr ⟨lw_p10, List.forall_mem_cons.mpr ⟨lw_p11, List.forall_mem_cons.mpr ⟨lw_p12, List.forall_mem_cons.mpr ⟨lw_p13, List.forall_mem_cons.mpr ⟨lw_p14, List.forall_mem_cons.mpr ⟨lw_p15, fun _ h => absurd h List.not_mem_nil⟩⟩⟩⟩⟩⟩⟩⟩⟩⟩⟩⟩⟩⟩⟩⟩
theorem lw_p16 : lw_okq (⟨"LentViewsModel", "isIdle", "(I)Z"⟩, 10) := ⟨⟨by decide +kernel, by decide +kernel⟩, List.mem_of_getElem? (i := 513) (by decide +kernel), List.mem_of_getElem? (i := 576) (by decide +kernel), List.mem_of_getElem? (i := 577) (by decide +kernel)⟩
theorem lw_p17 : lw_okq (⟨"LentViewsModel", "isCell", "(I)Z"⟩, 10) := ⟨⟨by decide +kernel, by decide +kernel⟩, List.mem_of_getElem? (i := 513) (by decide +kernel), List.mem_of_getElem? (i := 623) (by decide +kernel), List.mem_of_getElem? (i := 624) (by decide +kernel)⟩
theorem lw_p18 : lw_okq (⟨"LentViewsModel", "momentOf", "(I)I"⟩, 10) := ⟨⟨by decide +kernel, by decide +kernel⟩, List.mem_of_getElem? (i := 513) (by decide +kernel), List.mem_of_getElem? (i := 639) (by decide +kernel), List.mem_of_getElem? (i := 640) (by decide +kernel)⟩
theorem lw_p19 : lw_okq (⟨"LentViewsModel", "valueAt", "(II)I"⟩, 10) := ⟨⟨by decide +kernel, by decide +kernel⟩, List.mem_of_getElem? (i := 513) (by decide +kernel), List.mem_of_getElem? (i := 643) (by decide +kernel), List.mem_of_getElem? (i := 644) (by decide +kernel)⟩
theorem lw_p20 : lw_okq (⟨"LentViewsModel", "asNow", "()V"⟩, 10) := ⟨⟨by decide +kernel, by decide +kernel⟩, List.mem_of_getElem? (i := 513) (by decide +kernel), List.mem_of_getElem? (i := 651) (by decide +kernel), List.mem_of_getElem? (i := 652) (by decide +kernel)⟩
theorem lw_p21 : lw_okq (⟨"LentViewsModel", "trialOf", "(III)I"⟩, 10) := ⟨⟨by decide +kernel, by decide +kernel⟩, List.mem_of_getElem? (i := 513) (by decide +kernel), List.mem_of_getElem? (i := 670) (by decide +kernel), List.mem_of_getElem? (i := 671) (by decide +kernel)⟩
theorem lw_p22 : lw_okq (⟨"LentViewsModel", "movesSet", "()I"⟩, 10) := ⟨⟨by decide +kernel, by decide +kernel⟩, List.mem_of_getElem? (i := 513) (by decide +kernel), List.mem_of_getElem? (i := 686) (by decide +kernel), List.mem_of_getElem? (i := 687) (by decide +kernel)⟩
theorem lw_p23 : lw_okq (⟨"LentViewsModel", "mostAlike", "(III)I"⟩, 10) := ⟨⟨by decide +kernel, by decide +kernel⟩, List.mem_of_getElem? (i := 513) (by decide +kernel), List.mem_of_getElem? (i := 694) (by decide +kernel), List.mem_of_getElem? (i := 695) (by decide +kernel)⟩
theorem lw_p24 : lw_okq (⟨"LentViewsModel", "photosBy", "(Z)I"⟩, 10) := ⟨⟨by decide +kernel, by decide +kernel⟩, List.mem_of_getElem? (i := 513) (by decide +kernel), List.mem_of_getElem? (i := 710) (by decide +kernel), List.mem_of_getElem? (i := 711) (by decide +kernel)⟩
theorem lw_p25 : lw_okq (⟨"LentViewsModel", "idleOnes", "()I"⟩, 10) := ⟨⟨by decide +kernel, by decide +kernel⟩, List.mem_of_getElem? (i := 513) (by decide +kernel), List.mem_of_getElem? (i := 714) (by decide +kernel), List.mem_of_getElem? (i := 715) (by decide +kernel)⟩
def lw_privs_2 : List (MethodName × Nat) := [(⟨"LentViewsModel", "isIdle", "(I)Z"⟩, 10), (⟨"LentViewsModel", "isCell", "(I)Z"⟩, 10), (⟨"LentViewsModel", "momentOf", "(I)I"⟩, 10), (⟨"LentViewsModel", "valueAt", "(II)I"⟩, 10), (⟨"LentViewsModel", "asNow", "()V"⟩, 10), (⟨"LentViewsModel", "trialOf", "(III)I"⟩, 10), (⟨"LentViewsModel", "movesSet", "()I"⟩, 10), (⟨"LentViewsModel", "mostAlike", "(III)I"⟩, 10), (⟨"LentViewsModel", "photosBy", "(Z)I"⟩, 10), (⟨"LentViewsModel", "idleOnes", "()I"⟩, 10)]
theorem lw_r2 : ∀ q ∈ lw_privs_2, lw_okq q := List.forall_mem_cons.mpr ⟨lw_p16, List.forall_mem_cons.mpr ⟨lw_p17, List.forall_mem_cons.mpr ⟨lw_p18, List.forall_mem_cons.mpr ⟨lw_p19, List.forall_mem_cons.mpr ⟨lw_p20, List.forall_mem_cons.mpr ⟨lw_p21, List.forall_mem_cons.mpr ⟨lw_p22, List.forall_mem_cons.mpr ⟨lw_p23, List.forall_mem_cons.mpr ⟨lw_p24, List.forall_mem_cons.mpr ⟨lw_p25, fun _ h => absurd h List.not_mem_nil⟩⟩⟩⟩⟩⟩⟩⟩⟩⟩
def lw_privs : List (MethodName × Nat) := lw_privs_1 ++ (lw_privs_2)
def lw_tbl : List Cond := k2_sels lw_privs ++ tables_1
theorem lw_privs_ok : ∀ q ∈ lw_privs, lw_okq q := by
  show ∀ q ∈ lw_privs_1 ++ (lw_privs_2), lw_okq q
  exact List.forall_mem_append.mpr ⟨lw_r1, lw_r2⟩
end
section
/-! ===== BEGIN words of one list among another's, by their places ===== -/
theorem goodIn_r {big : List Cond} (ws : List Cond) (ps : List Nat) (hp : ws = ps.filterMap (fun i => big[i]?)) (h : ws.all goodWord = true) : GoodIn big ws := by
  intro w hw
  have h1 := List.all_eq_true.mp h w hw
  rw [hp] at hw
  obtain ⟨i, -, hi⟩ := List.mem_filterMap.mp hw
  have hm : w ∈ big := by first | exact List.mem_of_getElem? hi | exact List.getElem?_mem hi
  exact ⟨hm, good_of_word h1⟩
theorem goodIn_app {big a b : List Cond} (ha : GoodIn big a) (hb : GoodIn big b) : GoodIn big (a ++ b) := fun w h => (List.mem_append.mp h).elim (ha w) (hb w)
theorem goodIn_ca {big a b : List Cond} {c : Cond} (ha : GoodIn big (c :: a)) (hb : GoodIn big b) : GoodIn big (c :: (a ++ b)) := fun w h => (List.mem_cons.mp h).elim (fun e => ha w (List.mem_cons.mpr (Or.inl e))) (fun h => (List.mem_append.mp h).elim (fun h => ha w (List.mem_cons.mpr (Or.inr h))) (hb w))
theorem goodIn_sub {big ws : List Cond} (hm : ∀ w ∈ ws, w ∈ big) (h : ws.all goodWord = true) : GoodIn big ws := fun w hw => ⟨hm w hw, good_of_word (List.all_eq_true.mp h w hw)⟩
/-! ===== END ===== -/

/-! ===== BEGIN printed: names, fields, word lists, decode rows ===== -/
def RX0 : String := "LentViews$Act"
def TX0 : u_T := fun k => match k with
  | 0 => ("LentViews$Act", "kind", "I", false)
  | 1 => ("LentViews$Act", "toWrite", "I", false)
  | 2 => ("LentViews$Act", "began", "I", false)
  | 3 => ("LentViews$Act", "stepsDone", "I", false)
  | 4 => ("LentViews$Act", "nextCell", "I", false)
  | 5 => ("LentViews$Act", "collects", "I", false)
  | 6 => ("LentViews$Act", "hasPhoto", "Z", false)
  | 7 => ("LentViews$Act", "lentBy", "I", false)
  | 8 => ("LentViews$Act", "photoValues", "[I", true)
  | 9 => ("LentViews$Act", "moved", "[I", true)
  | 10 => ("LentViews$Act", "versionsAhead", "[I", true)
  | _ => ("LentViews$Act", "reading", "LLentViews$Cells;", true)
def tyX0 : Nat → FieldType := fun k => match k with
  | 0 => .int
  | 1 => .int
  | 2 => .int
  | 3 => .int
  | 4 => .int
  | 5 => .int
  | 6 => .boolean
  | 7 => .int
  | 8 => .array .int
  | 9 => .array .int
  | 10 => .array .int
  | _ => .object "LentViews$Cells"
abbrev wsX00 : List Cond := u_ws RX0 TX0 12
theorem nmX0 : ∀ a, a < 12 → ∀ b, b < 12 → a ≠ b → (TX0 a).2.1 ≠ (TX0 b).2.1 := by decide +kernel
theorem tyX0_ok : ∀ k, k < 12 → parseFieldDescriptor (TX0 k).2.2.1 = some (tyX0 k) := by decide +kernel
abbrev cX0_init : ByteArray := prog_2_method_1_code
def yX0_init : MethodName := ⟨RX0, "<init>", "()V"⟩
abbrev cX0_become : ByteArray := prog_2_method_2_code
def yX0_become : MethodName := ⟨RX0, "become", "(III)V"⟩
abbrev cX0_isReading : ByteArray := prog_2_method_3_code
def yX0_isReading : MethodName := ⟨RX0, "isReading", "()Z"⟩
abbrev cX0_copyFrom : ByteArray := prog_2_method_4_code
def yX0_copyFrom : MethodName := ⟨RX0, "copyFrom", "(LLentViews$Act;)V"⟩
abbrev cX0_readOne : ByteArray := prog_2_method_5_code
def yX0_readOne : MethodName := ⟨RX0, "readOne", "(LLentViews$Cells;)V"⟩
abbrev cX0_endCollect : ByteArray := prog_2_method_6_code
def yX0_endCollect : MethodName := ⟨RX0, "endCollect", "(II)V"⟩
abbrev cX0_countMoves : ByteArray := prog_2_method_7_code
def yX0_countMoves : MethodName := ⟨RX0, "countMoves", "(I)Z"⟩
abbrev cX0_lowestMoved : ByteArray := prog_2_method_8_code
def yX0_lowestMoved : MethodName := ⟨RX0, "lowestMoved", "(II)I"⟩
abbrev cX0_takePhoto : ByteArray := prog_2_method_9_code
def yX0_takePhoto : MethodName := ⟨RX0, "takePhoto", "([III)V"⟩
def RX1 : String := "LentViews$Album"
def TX1 : u_T := fun k => match k with
  | 0 => ("LentViews$Album", "size", "I", false)
  | _ => ("LentViews$Album", "facts", "[I", true)
def tyX1 : Nat → FieldType := fun k => match k with
  | 0 => .int
  | _ => .array .int
abbrev wsX10 : List Cond := u_ws RX1 TX1 2
theorem nmX1 : ∀ a, a < 2 → ∀ b, b < 2 → a ≠ b → (TX1 a).2.1 ≠ (TX1 b).2.1 := by decide +kernel
theorem tyX1_ok : ∀ k, k < 2 → parseFieldDescriptor (TX1 k).2.2.1 = some (tyX1 k) := by decide +kernel
abbrev cX1_init : ByteArray := prog_3_method_1_code
def yX1_init : MethodName := ⟨RX1, "<init>", "()V"⟩
abbrev cX1_copyFrom : ByteArray := prog_3_method_2_code
def yX1_copyFrom : MethodName := ⟨RX1, "copyFrom", "(LLentViews$Album;)V"⟩
abbrev cX1_fact : ByteArray := prog_3_method_3_code
def yX1_fact : MethodName := ⟨RX1, "fact", "(II)I"⟩
abbrev cX1_add : ByteArray := prog_3_method_4_code
def yX1_add : MethodName := ⟨RX1, "add", "(ILLentViews$Act;II)V"⟩
abbrev cX1_countWith : ByteArray := prog_3_method_5_code
def yX1_countWith : MethodName := ⟨RX1, "countWith", "(II)I"⟩
abbrev cX1_leastReadsAbove : ByteArray := prog_3_method_6_code
def yX1_leastReadsAbove : MethodName := ⟨RX1, "leastReadsAbove", "(I)I"⟩
abbrev cX1_greatestReadsBelow : ByteArray := prog_3_method_7_code
def yX1_greatestReadsBelow : MethodName := ⟨RX1, "greatestReadsBelow", "(I)I"⟩
def RX2 : String := "LentViews$Cells"
def TX2 : u_T := fun k => match k with
  | 0 => ("LentViews$Cells", "values", "[I", true)
  | 1 => ("LentViews$Cells", "versions", "[I", true)
  | _ => ("LentViews$Cells", "views", "[I", true)
def tyX2 : Nat → FieldType := fun k => match k with
  | 0 => .array .int
  | 1 => .array .int
  | _ => .array .int
abbrev wsX20 : List Cond := u_ws RX2 TX2 3
theorem nmX2 : ∀ a, a < 3 → ∀ b, b < 3 → a ≠ b → (TX2 a).2.1 ≠ (TX2 b).2.1 := by decide +kernel
theorem tyX2_ok : ∀ k, k < 3 → parseFieldDescriptor (TX2 k).2.2.1 = some (tyX2 k) := by decide +kernel
abbrev cX2_init : ByteArray := prog_4_method_1_code
def yX2_init : MethodName := ⟨RX2, "<init>", "()V"⟩
abbrev cX2_clear : ByteArray := prog_4_method_2_code
def yX2_clear : MethodName := ⟨RX2, "clear", "()V"⟩
abbrev cX2_copyFrom : ByteArray := prog_4_method_3_code
def yX2_copyFrom : MethodName := ⟨RX2, "copyFrom", "(LLentViews$Cells;)V"⟩
abbrev cX2_copyOne : ByteArray := prog_4_method_4_code
def yX2_copyOne : MethodName := ⟨RX2, "copyOne", "(LLentViews$Cells;I)V"⟩
def RX3 : String := "LentViews$History"
def TX3 : u_T := fun k => match k with
  | 0 => ("LentViews$History", "size", "I", false)
  | 1 => ("LentViews$History", "times", "[I", true)
  | 2 => ("LentViews$History", "places", "[I", true)
  | 3 => ("LentViews$History", "written", "[I", true)
  | _ => ("LentViews$History", "valuesThen", "[I", true)
def tyX3 : Nat → FieldType := fun k => match k with
  | 0 => .int
  | 1 => .array .int
  | 2 => .array .int
  | 3 => .array .int
  | _ => .array .int
abbrev wsX30 : List Cond := u_ws RX3 TX3 5
theorem nmX3 : ∀ a, a < 5 → ∀ b, b < 5 → a ≠ b → (TX3 a).2.1 ≠ (TX3 b).2.1 := by decide +kernel
theorem tyX3_ok : ∀ k, k < 5 → parseFieldDescriptor (TX3 k).2.2.1 = some (tyX3 k) := by decide +kernel
abbrev cX3_init : ByteArray := prog_5_method_1_code
def yX3_init : MethodName := ⟨RX3, "<init>", "()V"⟩
abbrev cX3_copyFrom : ByteArray := prog_5_method_2_code
def yX3_copyFrom : MethodName := ⟨RX3, "copyFrom", "(LLentViews$History;)V"⟩
abbrev cX3_add : ByteArray := prog_5_method_3_code
def yX3_add : MethodName := ⟨RX3, "add", "(III)V"⟩
abbrev cX3_momentOf : ByteArray := prog_5_method_4_code
def yX3_momentOf : MethodName := ⟨RX3, "momentOf", "([II)I"⟩
abbrev cX3_wereAs : ByteArray := prog_5_method_5_code
def yX3_wereAs : MethodName := ⟨RX3, "wereAs", "([I)Z"⟩
def RX4 : String := "LentViews$World"
def TX4 : u_T := fun k => match k with
  | 0 => ("LentViews$World", "n", "I", false)
  | 1 => ("LentViews$World", "moves", "I", false)
  | 2 => ("LentViews$World", "wrap", "I", false)
  | 3 => ("LentViews$World", "time", "I", false)
  | 4 => ("LentViews$World", "actsBegun", "I", false)
  | 5 => ("LentViews$World", "cells", "LLentViews$Cells;", true)
  | 6 => ("LentViews$World", "acts", "[LLentViews$Act;", true)
  | 7 => ("LentViews$World", "album", "LLentViews$Album;", true)
  | _ => ("LentViews$World", "history", "LLentViews$History;", true)
def tyX4 : Nat → FieldType := fun k => match k with
  | 0 => .int
  | 1 => .int
  | 2 => .int
  | 3 => .int
  | 4 => .int
  | 5 => .object "LentViews$Cells"
  | 6 => .array (.object "LentViews$Act")
  | 7 => .object "LentViews$Album"
  | _ => .object "LentViews$History"
abbrev wsX40 : List Cond := u_ws RX4 TX4 9
theorem nmX4 : ∀ a, a < 9 → ∀ b, b < 9 → a ≠ b → (TX4 a).2.1 ≠ (TX4 b).2.1 := by decide +kernel
theorem tyX4_ok : ∀ k, k < 9 → parseFieldDescriptor (TX4 k).2.2.1 = some (tyX4 k) := by decide +kernel
abbrev cX4_init : ByteArray := prog_6_method_1_code
def yX4_init : MethodName := ⟨RX4, "<init>", "()V"⟩
abbrev cX4_restart : ByteArray := prog_6_method_2_code
def yX4_restart : MethodName := ⟨RX4, "restart", "(III)V"⟩
abbrev cX4_copyFrom : ByteArray := prog_6_method_3_code
def yX4_copyFrom : MethodName := ⟨RX4, "copyFrom", "(LLentViews$World;)V"⟩
abbrev cX4_has : ByteArray := prog_6_method_4_code
def yX4_has : MethodName := ⟨RX4, "has", "(I)Z"⟩
abbrev cX4_isIdle : ByteArray := prog_6_method_5_code
def yX4_isIdle : MethodName := ⟨RX4, "isIdle", "(I)Z"⟩
abbrev cX4_allIdle : ByteArray := prog_6_method_6_code
def yX4_allIdle : MethodName := ⟨RX4, "allIdle", "()Z"⟩
abbrev cX4_idleBits : ByteArray := prog_6_method_7_code
def yX4_idleBits : MethodName := ⟨RX4, "idleBits", "()I"⟩
abbrev cX4_beginAct : ByteArray := prog_6_method_8_code
def yX4_beginAct : MethodName := ⟨RX4, "beginAct", "(III)V"⟩
abbrev cX4_stepUpTo : ByteArray := prog_6_method_9_code
def yX4_stepUpTo : MethodName := ⟨RX4, "stepUpTo", "(II)I"⟩
abbrev cX4_stepOnce : ByteArray := prog_6_method_10_code
def yX4_stepOnce : MethodName := ⟨RX4, "stepOnce", "(I)V"⟩
abbrev cX4_writeOut : ByteArray := prog_6_method_11_code
def yX4_writeOut : MethodName := ⟨RX4, "writeOut", "(ILLentViews$Act;)V"⟩
abbrev cX4_versionBehind : ByteArray := prog_6_method_12_code
def yX4_versionBehind : MethodName := ⟨RX4, "versionBehind", "(I)I"⟩
def RX5 : String := "LentViews"
def TX5 : u_T := fun k => match k with
  | 0 => ("LentViews", "now", "LLentViews$World;", true)
  | 1 => ("LentViews", "stage", "LLentViews$World;", true)
  | 2 => ("LentViews", "past", "[LLentViews$World;", true)
  | 3 => ("LentViews", "pastNext", "I", false)
  | 4 => ("LentViews", "pastKnown", "I", false)
  | 5 => ("LentViews", "images", "[LLentViews$World;", true)
  | 6 => ("LentViews", "kept", "[Z", true)
  | 7 => ("LentViews", "seenA", "[I", true)
  | 8 => ("LentViews", "seenB", "[I", true)
  | 9 => ("LentViews", "seenReads", "[I", true)
  | 10 => ("LentViews", "seenCount", "I", false)
  | _ => ("LentViews", "readsByMoves", "[I", true)
def tyX5 : Nat → FieldType := fun k => match k with
  | 0 => .object "LentViews$World"
  | 1 => .object "LentViews$World"
  | 2 => .array (.object "LentViews$World")
  | 3 => .int
  | 4 => .int
  | 5 => .array (.object "LentViews$World")
  | 6 => .array .boolean
  | 7 => .array .int
  | 8 => .array .int
  | 9 => .array .int
  | 10 => .int
  | _ => .array .int
abbrev wsX50 : List Cond := u_ws RX5 TX5 12
theorem nmX5 : ∀ a, a < 12 → ∀ b, b < 12 → a ≠ b → (TX5 a).2.1 ≠ (TX5 b).2.1 := by decide +kernel
theorem tyX5_ok : ∀ k, k < 12 → parseFieldDescriptor (TX5 k).2.2.1 = some (tyX5 k) := by decide +kernel
abbrev cX5_init : ByteArray := prog_1_method_1_code
def yX5_init : MethodName := ⟨RX5, "<init>", "()V"⟩
abbrev cX5_begins : ByteArray := prog_1_method_2_code
def yX5_begins : MethodName := ⟨RX5, "begins", "(III)I"⟩
abbrev cX5_scans : ByteArray := prog_1_method_3_code
def yX5_scans : MethodName := ⟨RX5, "scans", "(I)I"⟩
abbrev cX5_writes : ByteArray := prog_1_method_4_code
def yX5_writes : MethodName := ⟨RX5, "writes", "(II)I"⟩
abbrev cX5_steps : ByteArray := prog_1_method_5_code
def yX5_steps : MethodName := ⟨RX5, "steps", "(II)I"⟩
abbrev cX5_undo : ByteArray := prog_1_method_6_code
def yX5_undo : MethodName := ⟨RX5, "undo", "()I"⟩
abbrev cX5_cell : ByteArray := prog_1_method_7_code
def yX5_cell : MethodName := ⟨RX5, "cell", "(II)I"⟩
abbrev cX5_writer : ByteArray := prog_1_method_8_code
def yX5_writer : MethodName := ⟨RX5, "writer", "(II)I"⟩
abbrev cX5_read : ByteArray := prog_1_method_9_code
def yX5_read : MethodName := ⟨RX5, "read", "(III)I"⟩
abbrev cX5_photo : ByteArray := prog_1_method_10_code
def yX5_photo : MethodName := ⟨RX5, "photo", "(II)I"⟩
abbrev cX5_lone : ByteArray := prog_1_method_11_code
def yX5_lone : MethodName := ⟨RX5, "lone", "(I)I"⟩
abbrev cX5_byTurns : ByteArray := prog_1_method_12_code
def yX5_byTurns : MethodName := ⟨RX5, "byTurns", "()I"⟩
abbrev cX5_reads : ByteArray := prog_1_method_13_code
def yX5_reads : MethodName := ⟨RX5, "reads", "(II)I"⟩
abbrev cX5_trial : ByteArray := prog_1_method_14_code
def yX5_trial : MethodName := ⟨RX5, "trial", "(III)I"⟩
abbrev cX5_sees : ByteArray := prog_1_method_15_code
def yX5_sees : MethodName := ⟨RX5, "sees", "(III)I"⟩
abbrev cX5_forget : ByteArray := prog_1_method_16_code
def yX5_forget : MethodName := ⟨RX5, "forget", "()I"⟩
abbrev cX5_which : ByteArray := prog_1_method_17_code
def yX5_which : MethodName := ⟨RX5, "which", "()I"⟩
abbrev cX5_ask : ByteArray := prog_1_method_18_code
def yX5_ask : MethodName := ⟨RX5, "ask", "()I"⟩
abbrev cX5_keep : ByteArray := prog_1_method_19_code
def yX5_keep : MethodName := ⟨RX5, "keep", "(I)I"⟩
abbrev cX5_back : ByteArray := prog_1_method_20_code
def yX5_back : MethodName := ⟨RX5, "back", "(I)I"⟩
abbrev cX5_count : ByteArray := prog_1_method_21_code
def yX5_count : MethodName := ⟨RX5, "count", "(I)I"⟩
abbrev cX5_isWithin : ByteArray := prog_1_method_22_code
def yX5_isWithin : MethodName := ⟨RX5, "isWithin", "(III)Z"⟩
abbrev cX5_isWrap : ByteArray := prog_1_method_23_code
def yX5_isWrap : MethodName := ⟨RX5, "isWrap", "(I)Z"⟩
abbrev cX5_isPace : ByteArray := prog_1_method_24_code
def yX5_isPace : MethodName := ⟨RX5, "isPace", "(I)Z"⟩
abbrev cX5_remember : ByteArray := prog_1_method_25_code
def yX5_remember : MethodName := ⟨RX5, "remember", "()V"⟩
abbrev cX5_beginAct : ByteArray := prog_1_method_26_code
def yX5_beginAct : MethodName := ⟨RX5, "beginAct", "(III)I"⟩
abbrev cX5_readsOfTrial : ByteArray := prog_1_method_27_code
def yX5_readsOfTrial : MethodName := ⟨RX5, "readsOfTrial", "(III)I"⟩
abbrev cX5_movesThatFit : ByteArray := prog_1_method_28_code
def yX5_movesThatFit : MethodName := ⟨RX5, "movesThatFit", "()I"⟩
abbrev cX5_fitsAllSeen : ByteArray := prog_1_method_29_code
def yX5_fitsAllSeen : MethodName := ⟨RX5, "fitsAllSeen", "(I)Z"⟩
abbrev cX5_mostAlike : ByteArray := prog_1_method_30_code
def yX5_mostAlike : MethodName := ⟨RX5, "mostAlike", "(III)I"⟩
abbrev cX5_countAlike : ByteArray := prog_1_method_31_code
def yX5_countAlike : MethodName := ⟨RX5, "countAlike", "(I)I"⟩
abbrev cX5_isIn : ByteArray := prog_1_method_32_code
def yX5_isIn : MethodName := ⟨RX5, "isIn", "(II)Z"⟩
abbrev cX5_copyAll : ByteArray := prog_1_method_33_code
def yX5_copyAll : MethodName := ⟨RX5, "copyAll", "([I[I)V"⟩
def RX6 : String := "LentViewsModel"
def TX6 : u_T := fun k => match k with
  | 0 => ("LentViewsModel", "thrown", "I", false)
  | 1 => ("LentViewsModel", "s", "[I", true)
  | 2 => ("LentViewsModel", "w", "[I", true)
  | 3 => ("LentViewsModel", "past", "[I", true)
  | 4 => ("LentViewsModel", "undoMany", "I", false)
  | 5 => ("LentViewsModel", "images", "[I", true)
  | 6 => ("LentViewsModel", "isKept", "[Z", true)
  | 7 => ("LentViewsModel", "seen", "[I", true)
  | 8 => ("LentViewsModel", "seenMany", "I", false)
  | _ => ("LentViewsModel", "took", "[I", true)
def tyX6 : Nat → FieldType := fun k => match k with
  | 0 => .int
  | 1 => .array .int
  | 2 => .array .int
  | 3 => .array .int
  | 4 => .int
  | 5 => .array .int
  | 6 => .array .boolean
  | 7 => .array .int
  | 8 => .int
  | _ => .array .int
abbrev wsX60 : List Cond := u_ws RX6 TX6 10
theorem nmX6 : ∀ a, a < 10 → ∀ b, b < 10 → a ≠ b → (TX6 a).2.1 ≠ (TX6 b).2.1 := by decide +kernel
theorem tyX6_ok : ∀ k, k < 10 → parseFieldDescriptor (TX6 k).2.2.1 = some (tyX6 k) := by decide +kernel
abbrev cX6_init : ByteArray := prog_8_method_1_code
def yX6_init : MethodName := ⟨RX6, "<init>", "()V"⟩
abbrev cX6_bares : ByteArray := prog_8_method_2_code
def yX6_bares : MethodName := ⟨RX6, "bares", "([IIII)V"⟩
abbrev cX6_in : ByteArray := prog_8_method_4_code
def yX6_in : MethodName := ⟨RX6, "in", "(III)Z"⟩
abbrev cX6_writerAt : ByteArray := prog_8_method_5_code
def yX6_writerAt : MethodName := ⟨RX6, "writerAt", "(I)I"⟩
abbrev cX6_cellAt : ByteArray := prog_8_method_6_code
def yX6_cellAt : MethodName := ⟨RX6, "cellAt", "(I)I"⟩
abbrev cX6_idles : ByteArray := prog_8_method_7_code
def yX6_idles : MethodName := ⟨RX6, "idles", "([II)V"⟩
abbrev cX6_acts : ByteArray := prog_8_method_8_code
def yX6_acts : MethodName := ⟨RX6, "acts", "([IIII)V"⟩
abbrev cX6_writesNow : ByteArray := prog_8_method_9_code
def yX6_writesNow : MethodName := ⟨RX6, "writesNow", "([II)V"⟩
abbrev cX6_takes : ByteArray := prog_8_method_10_code
def yX6_takes : MethodName := ⟨RX6, "takes", "([III)V"⟩
abbrev cX6_counts : ByteArray := prog_8_method_11_code
def yX6_counts : MethodName := ⟨RX6, "counts", "([II)Z"⟩
abbrev cX6_lender : ByteArray := prog_8_method_12_code
def yX6_lender : MethodName := ⟨RX6, "lender", "([II)I"⟩
abbrev cX6_step : ByteArray := prog_8_method_13_code
def yX6_step : MethodName := ⟨RX6, "step", "([II)V"⟩
abbrev cX6_notes : ByteArray := prog_8_method_14_code
def yX6_notes : MethodName := ⟨RX6, "notes", "()V"⟩
abbrev cX6_isWriter : ByteArray := prog_8_method_15_code
def yX6_isWriter : MethodName := ⟨RX6, "isWriter", "(I)Z"⟩
abbrev cX6_isIdle : ByteArray := prog_8_method_16_code
def yX6_isIdle : MethodName := ⟨RX6, "isIdle", "(I)Z"⟩
abbrev cX6_begins : ByteArray := prog_8_method_17_code
def yX6_begins : MethodName := ⟨RX6, "begins", "(III)I"⟩
abbrev cX6_begun : ByteArray := prog_8_method_18_code
def yX6_begun : MethodName := ⟨RX6, "begun", "(III)I"⟩
abbrev cX6_scans : ByteArray := prog_8_method_19_code
def yX6_scans : MethodName := ⟨RX6, "scans", "(I)I"⟩
abbrev cX6_writes : ByteArray := prog_8_method_20_code
def yX6_writes : MethodName := ⟨RX6, "writes", "(II)I"⟩
abbrev cX6_steps : ByteArray := prog_8_method_21_code
def yX6_steps : MethodName := ⟨RX6, "steps", "(II)I"⟩
abbrev cX6_undo : ByteArray := prog_8_method_22_code
def yX6_undo : MethodName := ⟨RX6, "undo", "()I"⟩
abbrev cX6_isCell : ByteArray := prog_8_method_23_code
def yX6_isCell : MethodName := ⟨RX6, "isCell", "(I)Z"⟩
abbrev cX6_cell : ByteArray := prog_8_method_24_code
def yX6_cell : MethodName := ⟨RX6, "cell", "(II)I"⟩
abbrev cX6_writer : ByteArray := prog_8_method_25_code
def yX6_writer : MethodName := ⟨RX6, "writer", "(II)I"⟩
abbrev cX6_read : ByteArray := prog_8_method_26_code
def yX6_read : MethodName := ⟨RX6, "read", "(III)I"⟩
abbrev cX6_valueAt : ByteArray := prog_8_method_27_code
def yX6_valueAt : MethodName := ⟨RX6, "valueAt", "(II)I"⟩
abbrev cX6_momentOf : ByteArray := prog_8_method_28_code
def yX6_momentOf : MethodName := ⟨RX6, "momentOf", "(I)I"⟩
abbrev cX6_photo : ByteArray := prog_8_method_29_code
def yX6_photo : MethodName := ⟨RX6, "photo", "(II)I"⟩
abbrev cX6_asNow : ByteArray := prog_8_method_30_code
def yX6_asNow : MethodName := ⟨RX6, "asNow", "()V"⟩
abbrev cX6_lone : ByteArray := prog_8_method_31_code
def yX6_lone : MethodName := ⟨RX6, "lone", "(I)I"⟩
abbrev cX6_byTurns : ByteArray := prog_8_method_32_code
def yX6_byTurns : MethodName := ⟨RX6, "byTurns", "()I"⟩
abbrev cX6_reads : ByteArray := prog_8_method_33_code
def yX6_reads : MethodName := ⟨RX6, "reads", "(II)I"⟩
abbrev cX6_trialOf : ByteArray := prog_8_method_34_code
def yX6_trialOf : MethodName := ⟨RX6, "trialOf", "(III)I"⟩
abbrev cX6_isTrial : ByteArray := prog_8_method_35_code
def yX6_isTrial : MethodName := ⟨RX6, "isTrial", "(II)Z"⟩
abbrev cX6_trial : ByteArray := prog_8_method_36_code
def yX6_trial : MethodName := ⟨RX6, "trial", "(III)I"⟩
abbrev cX6_sees : ByteArray := prog_8_method_37_code
def yX6_sees : MethodName := ⟨RX6, "sees", "(III)I"⟩
abbrev cX6_forget : ByteArray := prog_8_method_38_code
def yX6_forget : MethodName := ⟨RX6, "forget", "()I"⟩
abbrev cX6_movesSet : ByteArray := prog_8_method_39_code
def yX6_movesSet : MethodName := ⟨RX6, "movesSet", "()I"⟩
abbrev cX6_which : ByteArray := prog_8_method_40_code
def yX6_which : MethodName := ⟨RX6, "which", "()I"⟩
abbrev cX6_mostAlike : ByteArray := prog_8_method_41_code
def yX6_mostAlike : MethodName := ⟨RX6, "mostAlike", "(III)I"⟩
abbrev cX6_ask : ByteArray := prog_8_method_42_code
def yX6_ask : MethodName := ⟨RX6, "ask", "()I"⟩
abbrev cX6_keep : ByteArray := prog_8_method_43_code
def yX6_keep : MethodName := ⟨RX6, "keep", "(I)I"⟩
abbrev cX6_back : ByteArray := prog_8_method_44_code
def yX6_back : MethodName := ⟨RX6, "back", "(I)I"⟩
abbrev cX6_photosBy : ByteArray := prog_8_method_45_code
def yX6_photosBy : MethodName := ⟨RX6, "photosBy", "(Z)I"⟩
abbrev cX6_idleOnes : ByteArray := prog_8_method_46_code
def yX6_idleOnes : MethodName := ⟨RX6, "idleOnes", "()I"⟩
abbrev cX6_count : ByteArray := prog_8_method_47_code
def yX6_count : MethodName := ⟨RX6, "count", "(I)I"⟩
def RJ6 : String := "java/lang/Integer"
def TJ6 : u_T := fun k => match k with
  | _ => ("", "", "", false)
def tyJ6 : Nat → FieldType := fun k => match k with
  | _ => .int
abbrev wsJ60 : List Cond := u_ws RJ6 TJ6 0
theorem nmJ6 : ∀ a, a < 0 → ∀ b, b < 0 → a ≠ b → (TJ6 a).2.1 ≠ (TJ6 b).2.1 := by decide +kernel
theorem tyJ6_ok : ∀ k, k < 0 → parseFieldDescriptor (TJ6 k).2.2.1 = some (tyJ6 k) := by decide +kernel
abbrev cJ6_bitCount_0f7a4 : ByteArray := prog_9_method_49_code
def yJ6_bitCount_0f7a4 : MethodName := ⟨RJ6, "bitCount", "(I)I"⟩
def RJ9 : String := "java/lang/Math"
def TJ9 : u_T := fun k => match k with
  | _ => ("", "", "", false)
def tyJ9 : Nat → FieldType := fun k => match k with
  | _ => .int
abbrev wsJ90 : List Cond := u_ws RJ9 TJ9 0
theorem nmJ9 : ∀ a, a < 0 → ∀ b, b < 0 → a ≠ b → (TJ9 a).2.1 ≠ (TJ9 b).2.1 := by decide +kernel
theorem tyJ9_ok : ∀ k, k < 0 → parseFieldDescriptor (TJ9 k).2.2.1 = some (tyJ9 k) := by decide +kernel
abbrev cJ9_max_7cf53 : ByteArray := prog_10_method_65_code
def yJ9_max_7cf53 : MethodName := ⟨RJ9, "max", "(II)I"⟩
abbrev cJ9_min_7cf53 : ByteArray := prog_10_method_69_code
def yJ9_min_7cf53 : MethodName := ⟨RJ9, "min", "(II)I"⟩
def RJ10 : String := "java/lang/System"
def TJ10 : u_T := fun k => match k with
  | _ => ("", "", "", false)
def tyJ10 : Nat → FieldType := fun k => match k with
  | _ => .int
abbrev wsJ100 : List Cond := u_ws RJ10 TJ10 0
theorem nmJ10 : ∀ a, a < 0 → ∀ b, b < 0 → a ≠ b → (TJ10 a).2.1 ≠ (TJ10 b).2.1 := by decide +kernel
theorem tyJ10_ok : ∀ k, k < 0 → parseFieldDescriptor (TJ10 k).2.2.1 = some (tyJ10 k) := by decide +kernel
def RJ7 : String := "java/util/Arrays"
def TJ7 : u_T := fun k => match k with
  | _ => ("", "", "", false)
def tyJ7 : Nat → FieldType := fun k => match k with
  | _ => .int
abbrev wsJ70 : List Cond := u_ws RJ7 TJ7 0
theorem nmJ7 : ∀ a, a < 0 → ∀ b, b < 0 → a ≠ b → (TJ7 a).2.1 ≠ (TJ7 b).2.1 := by decide +kernel
theorem tyJ7_ok : ∀ k, k < 0 → parseFieldDescriptor (TJ7 k).2.2.1 = some (tyJ7 k) := by decide +kernel
abbrev cJ7_fill_53178 : ByteArray := prog_12_method_103_code
def yJ7_fill_53178 : MethodName := ⟨RJ7, "fill", "([II)V"⟩
def RL : String := "LentViewsLaw"
abbrev cL_law : ByteArray := code
def yL_law : MethodName := ⟨RL, "law", "([I)Z"⟩
abbrev vwCl : List vw_C := [(RX0, TX0, 12), (RX1, TX1, 2), (RX2, TX2, 3), (RX3, TX3, 5), (RX4, TX4, 9), (RX5, TX5, 12), (RX6, TX6, 10)]
end
section
theorem dX0_init_0 : decode cX0_init 0 = .ok (.aload_n 0, 1) := by decide +kernel
theorem dX0_init_1 : decode cX0_init 1 = .ok (.invokespecial 3, 3) := by decide +kernel
theorem dX0_init_4 : decode cX0_init 4 = .ok (.aload_n 0, 1) := by decide +kernel
theorem dX0_init_5 : decode cX0_init 5 = .ok (.iconst 4, 1) := by decide +kernel
theorem dX0_init_6 : decode cX0_init 6 = .ok (.newarray .int, 2) := by decide +kernel
theorem dX0_init_8 : decode cX0_init 8 = .ok (.putfield 9, 3) := by decide +kernel
theorem dX0_init_11 : decode cX0_init 11 = .ok (.aload_n 0, 1) := by decide +kernel
theorem dX0_init_12 : decode cX0_init 12 = .ok (.iconst 4, 1) := by decide +kernel
theorem dX0_init_13 : decode cX0_init 13 = .ok (.newarray .int, 2) := by decide +kernel
theorem dX0_init_15 : decode cX0_init 15 = .ok (.putfield 15, 3) := by decide +kernel
theorem dX0_init_18 : decode cX0_init 18 = .ok (.aload_n 0, 1) := by decide +kernel
theorem dX0_init_19 : decode cX0_init 19 = .ok (.iconst 4, 1) := by decide +kernel
theorem dX0_init_20 : decode cX0_init 20 = .ok (.newarray .int, 2) := by decide +kernel
theorem dX0_init_22 : decode cX0_init 22 = .ok (.putfield 18, 3) := by decide +kernel
theorem dX0_init_25 : decode cX0_init 25 = .ok (.aload_n 0, 1) := by decide +kernel
theorem dX0_init_26 : decode cX0_init 26 = .ok (.new 21, 3) := by decide +kernel
theorem dX0_init_29 : decode cX0_init 29 = .ok (.dup, 1) := by decide +kernel
theorem dX0_init_30 : decode cX0_init 30 = .ok (.invokespecial 23, 3) := by decide +kernel
theorem dX0_init_33 : decode cX0_init 33 = .ok (.putfield 24, 3) := by decide +kernel
theorem dX0_init_36 : decode cX0_init 36 = .ok (.return_, 1) := by decide +kernel
theorem dX0_become_0 : decode cX0_become 0 = .ok (.aload_n 0, 1) := by decide +kernel
theorem dX0_become_1 : decode cX0_become 1 = .ok (.iload_n 1, 1) := by decide +kernel
theorem dX0_become_2 : decode cX0_become 2 = .ok (.putfield 28, 3) := by decide +kernel
theorem dX0_become_5 : decode cX0_become 5 = .ok (.aload_n 0, 1) := by decide +kernel
theorem dX0_become_6 : decode cX0_become 6 = .ok (.iload_n 2, 1) := by decide +kernel
theorem dX0_become_7 : decode cX0_become 7 = .ok (.putfield 32, 3) := by decide +kernel
theorem dX0_become_10 : decode cX0_become 10 = .ok (.aload_n 0, 1) := by decide +kernel
theorem dX0_become_11 : decode cX0_become 11 = .ok (.iload_n 3, 1) := by decide +kernel
theorem dX0_become_12 : decode cX0_become 12 = .ok (.putfield 35, 3) := by decide +kernel
theorem dX0_become_15 : decode cX0_become 15 = .ok (.aload_n 0, 1) := by decide +kernel
theorem dX0_become_16 : decode cX0_become 16 = .ok (.iconst 0, 1) := by decide +kernel
theorem dX0_become_17 : decode cX0_become 17 = .ok (.putfield 38, 3) := by decide +kernel
theorem dX0_become_20 : decode cX0_become 20 = .ok (.aload_n 0, 1) := by decide +kernel
theorem dX0_become_21 : decode cX0_become 21 = .ok (.iconst 0, 1) := by decide +kernel
theorem dX0_become_22 : decode cX0_become 22 = .ok (.putfield 41, 3) := by decide +kernel
theorem dX0_become_25 : decode cX0_become 25 = .ok (.aload_n 0, 1) := by decide +kernel
theorem dX0_become_26 : decode cX0_become 26 = .ok (.iconst 0, 1) := by decide +kernel
theorem dX0_become_27 : decode cX0_become 27 = .ok (.putfield 44, 3) := by decide +kernel
theorem dX0_become_30 : decode cX0_become 30 = .ok (.aload_n 0, 1) := by decide +kernel
theorem dX0_become_31 : decode cX0_become 31 = .ok (.iconst 0, 1) := by decide +kernel
theorem dX0_become_32 : decode cX0_become 32 = .ok (.putfield 47, 3) := by decide +kernel
theorem dX0_become_35 : decode cX0_become 35 = .ok (.aload_n 0, 1) := by decide +kernel
theorem dX0_become_36 : decode cX0_become 36 = .ok (.bipush (-9), 2) := by decide +kernel
theorem dX0_become_38 : decode cX0_become 38 = .ok (.putfield 51, 3) := by decide +kernel
theorem dX0_become_41 : decode cX0_become 41 = .ok (.aload_n 0, 1) := by decide +kernel
theorem dX0_become_42 : decode cX0_become 42 = .ok (.getfield 9, 3) := by decide +kernel
theorem dX0_become_45 : decode cX0_become 45 = .ok (.iconst 0, 1) := by decide +kernel
theorem dX0_become_46 : decode cX0_become 46 = .ok (.invokestatic 54, 3) := by decide +kernel
theorem dX0_become_49 : decode cX0_become 49 = .ok (.aload_n 0, 1) := by decide +kernel
theorem dX0_become_50 : decode cX0_become 50 = .ok (.getfield 15, 3) := by decide +kernel
theorem dX0_become_53 : decode cX0_become 53 = .ok (.iconst 0, 1) := by decide +kernel
theorem dX0_become_54 : decode cX0_become 54 = .ok (.invokestatic 54, 3) := by decide +kernel
theorem dX0_become_57 : decode cX0_become 57 = .ok (.aload_n 0, 1) := by decide +kernel
theorem dX0_become_58 : decode cX0_become 58 = .ok (.getfield 18, 3) := by decide +kernel
theorem dX0_become_61 : decode cX0_become 61 = .ok (.iconst 0, 1) := by decide +kernel
theorem dX0_become_62 : decode cX0_become 62 = .ok (.invokestatic 54, 3) := by decide +kernel
theorem dX0_become_65 : decode cX0_become 65 = .ok (.aload_n 0, 1) := by decide +kernel
theorem dX0_become_66 : decode cX0_become 66 = .ok (.getfield 24, 3) := by decide +kernel
theorem dX0_become_69 : decode cX0_become 69 = .ok (.invokevirtual 60, 3) := by decide +kernel
theorem dX0_become_72 : decode cX0_become 72 = .ok (.return_, 1) := by decide +kernel
theorem dX0_isReading_0 : decode cX0_isReading 0 = .ok (.aload_n 0, 1) := by decide +kernel
theorem dX0_isReading_1 : decode cX0_isReading 1 = .ok (.getfield 28, 3) := by decide +kernel
theorem dX0_isReading_4 : decode cX0_isReading 4 = .ok (.ifCond .eq 14, 3) := by decide +kernel
theorem dX0_isReading_7 : decode cX0_isReading 7 = .ok (.aload_n 0, 1) := by decide +kernel
theorem dX0_isReading_8 : decode cX0_isReading 8 = .ok (.getfield 47, 3) := by decide +kernel
theorem dX0_isReading_11 : decode cX0_isReading 11 = .ok (.ifCond .ne 7, 3) := by decide +kernel
theorem dX0_isReading_14 : decode cX0_isReading 14 = .ok (.iconst 1, 1) := by decide +kernel
theorem dX0_isReading_15 : decode cX0_isReading 15 = .ok (.goto 4, 3) := by decide +kernel
theorem dX0_isReading_18 : decode cX0_isReading 18 = .ok (.iconst 0, 1) := by decide +kernel
theorem dX0_isReading_19 : decode cX0_isReading 19 = .ok (.ireturn, 1) := by decide +kernel
theorem dX0_copyFrom_0 : decode cX0_copyFrom 0 = .ok (.aload_n 0, 1) := by decide +kernel
theorem dX0_copyFrom_1 : decode cX0_copyFrom 1 = .ok (.aload_n 1, 1) := by decide +kernel
theorem dX0_copyFrom_2 : decode cX0_copyFrom 2 = .ok (.getfield 28, 3) := by decide +kernel
theorem dX0_copyFrom_5 : decode cX0_copyFrom 5 = .ok (.putfield 28, 3) := by decide +kernel
theorem dX0_copyFrom_8 : decode cX0_copyFrom 8 = .ok (.aload_n 0, 1) := by decide +kernel
theorem dX0_copyFrom_9 : decode cX0_copyFrom 9 = .ok (.aload_n 1, 1) := by decide +kernel
theorem dX0_copyFrom_10 : decode cX0_copyFrom 10 = .ok (.getfield 32, 3) := by decide +kernel
theorem dX0_copyFrom_13 : decode cX0_copyFrom 13 = .ok (.putfield 32, 3) := by decide +kernel
theorem dX0_copyFrom_16 : decode cX0_copyFrom 16 = .ok (.aload_n 0, 1) := by decide +kernel
theorem dX0_copyFrom_17 : decode cX0_copyFrom 17 = .ok (.aload_n 1, 1) := by decide +kernel
theorem dX0_copyFrom_18 : decode cX0_copyFrom 18 = .ok (.getfield 35, 3) := by decide +kernel
theorem dX0_copyFrom_21 : decode cX0_copyFrom 21 = .ok (.putfield 35, 3) := by decide +kernel
theorem dX0_copyFrom_24 : decode cX0_copyFrom 24 = .ok (.aload_n 0, 1) := by decide +kernel
theorem dX0_copyFrom_25 : decode cX0_copyFrom 25 = .ok (.aload_n 1, 1) := by decide +kernel
theorem dX0_copyFrom_26 : decode cX0_copyFrom 26 = .ok (.getfield 38, 3) := by decide +kernel
theorem dX0_copyFrom_29 : decode cX0_copyFrom 29 = .ok (.putfield 38, 3) := by decide +kernel
theorem dX0_copyFrom_32 : decode cX0_copyFrom 32 = .ok (.aload_n 0, 1) := by decide +kernel
theorem dX0_copyFrom_33 : decode cX0_copyFrom 33 = .ok (.aload_n 1, 1) := by decide +kernel
theorem dX0_copyFrom_34 : decode cX0_copyFrom 34 = .ok (.getfield 41, 3) := by decide +kernel
theorem dX0_copyFrom_37 : decode cX0_copyFrom 37 = .ok (.putfield 41, 3) := by decide +kernel
theorem dX0_copyFrom_40 : decode cX0_copyFrom 40 = .ok (.aload_n 0, 1) := by decide +kernel
theorem dX0_copyFrom_41 : decode cX0_copyFrom 41 = .ok (.aload_n 1, 1) := by decide +kernel
theorem dX0_copyFrom_42 : decode cX0_copyFrom 42 = .ok (.getfield 44, 3) := by decide +kernel
theorem dX0_copyFrom_45 : decode cX0_copyFrom 45 = .ok (.putfield 44, 3) := by decide +kernel
theorem dX0_copyFrom_48 : decode cX0_copyFrom 48 = .ok (.aload_n 0, 1) := by decide +kernel
theorem dX0_copyFrom_49 : decode cX0_copyFrom 49 = .ok (.aload_n 1, 1) := by decide +kernel
theorem dX0_copyFrom_50 : decode cX0_copyFrom 50 = .ok (.getfield 47, 3) := by decide +kernel
theorem dX0_copyFrom_53 : decode cX0_copyFrom 53 = .ok (.putfield 47, 3) := by decide +kernel
theorem dX0_copyFrom_56 : decode cX0_copyFrom 56 = .ok (.aload_n 0, 1) := by decide +kernel
theorem dX0_copyFrom_57 : decode cX0_copyFrom 57 = .ok (.aload_n 1, 1) := by decide +kernel
theorem dX0_copyFrom_58 : decode cX0_copyFrom 58 = .ok (.getfield 51, 3) := by decide +kernel
theorem dX0_copyFrom_61 : decode cX0_copyFrom 61 = .ok (.putfield 51, 3) := by decide +kernel
theorem dX0_copyFrom_64 : decode cX0_copyFrom 64 = .ok (.aload_n 1, 1) := by decide +kernel
theorem dX0_copyFrom_65 : decode cX0_copyFrom 65 = .ok (.getfield 9, 3) := by decide +kernel
theorem dX0_copyFrom_68 : decode cX0_copyFrom 68 = .ok (.aload_n 0, 1) := by decide +kernel
theorem dX0_copyFrom_69 : decode cX0_copyFrom 69 = .ok (.getfield 9, 3) := by decide +kernel
theorem dX0_copyFrom_72 : decode cX0_copyFrom 72 = .ok (.invokestatic 63, 3) := by decide +kernel
theorem dX0_copyFrom_75 : decode cX0_copyFrom 75 = .ok (.aload_n 1, 1) := by decide +kernel
theorem dX0_copyFrom_76 : decode cX0_copyFrom 76 = .ok (.getfield 15, 3) := by decide +kernel
theorem dX0_copyFrom_79 : decode cX0_copyFrom 79 = .ok (.aload_n 0, 1) := by decide +kernel
theorem dX0_copyFrom_80 : decode cX0_copyFrom 80 = .ok (.getfield 15, 3) := by decide +kernel
theorem dX0_copyFrom_83 : decode cX0_copyFrom 83 = .ok (.invokestatic 63, 3) := by decide +kernel
theorem dX0_copyFrom_86 : decode cX0_copyFrom 86 = .ok (.aload_n 1, 1) := by decide +kernel
theorem dX0_copyFrom_87 : decode cX0_copyFrom 87 = .ok (.getfield 18, 3) := by decide +kernel
theorem dX0_copyFrom_90 : decode cX0_copyFrom 90 = .ok (.aload_n 0, 1) := by decide +kernel
theorem dX0_copyFrom_91 : decode cX0_copyFrom 91 = .ok (.getfield 18, 3) := by decide +kernel
theorem dX0_copyFrom_94 : decode cX0_copyFrom 94 = .ok (.invokestatic 63, 3) := by decide +kernel
theorem dX0_copyFrom_97 : decode cX0_copyFrom 97 = .ok (.aload_n 0, 1) := by decide +kernel
theorem dX0_copyFrom_98 : decode cX0_copyFrom 98 = .ok (.getfield 24, 3) := by decide +kernel
theorem dX0_copyFrom_101 : decode cX0_copyFrom 101 = .ok (.aload_n 1, 1) := by decide +kernel
theorem dX0_copyFrom_102 : decode cX0_copyFrom 102 = .ok (.getfield 24, 3) := by decide +kernel
theorem dX0_copyFrom_105 : decode cX0_copyFrom 105 = .ok (.invokevirtual 67, 3) := by decide +kernel
theorem dX0_copyFrom_108 : decode cX0_copyFrom 108 = .ok (.return_, 1) := by decide +kernel
theorem dX0_readOne_0 : decode cX0_readOne 0 = .ok (.aload_n 0, 1) := by decide +kernel
theorem dX0_readOne_1 : decode cX0_readOne 1 = .ok (.getfield 24, 3) := by decide +kernel
theorem dX0_readOne_4 : decode cX0_readOne 4 = .ok (.aload_n 1, 1) := by decide +kernel
theorem dX0_readOne_5 : decode cX0_readOne 5 = .ok (.aload_n 0, 1) := by decide +kernel
theorem dX0_readOne_6 : decode cX0_readOne 6 = .ok (.getfield 41, 3) := by decide +kernel
theorem dX0_readOne_9 : decode cX0_readOne 9 = .ok (.invokevirtual 71, 3) := by decide +kernel
theorem dX0_readOne_12 : decode cX0_readOne 12 = .ok (.aload_n 0, 1) := by decide +kernel
theorem dX0_readOne_13 : decode cX0_readOne 13 = .ok (.dup, 1) := by decide +kernel
theorem dX0_readOne_14 : decode cX0_readOne 14 = .ok (.getfield 41, 3) := by decide +kernel
theorem dX0_readOne_17 : decode cX0_readOne 17 = .ok (.iconst 1, 1) := by decide +kernel
theorem dX0_readOne_18 : decode cX0_readOne 18 = .ok (.iadd, 1) := by decide +kernel
theorem dX0_readOne_19 : decode cX0_readOne 19 = .ok (.putfield 41, 3) := by decide +kernel
theorem dX0_readOne_22 : decode cX0_readOne 22 = .ok (.return_, 1) := by decide +kernel
theorem dX0_endCollect_0 : decode cX0_endCollect 0 = .ok (.aload_n 0, 1) := by decide +kernel
theorem dX0_endCollect_1 : decode cX0_endCollect 1 = .ok (.iconst 0, 1) := by decide +kernel
theorem dX0_endCollect_2 : decode cX0_endCollect 2 = .ok (.putfield 41, 3) := by decide +kernel
theorem dX0_endCollect_5 : decode cX0_endCollect 5 = .ok (.aload_n 0, 1) := by decide +kernel
theorem dX0_endCollect_6 : decode cX0_endCollect 6 = .ok (.dup, 1) := by decide +kernel
theorem dX0_endCollect_7 : decode cX0_endCollect 7 = .ok (.getfield 44, 3) := by decide +kernel
theorem dX0_endCollect_10 : decode cX0_endCollect 10 = .ok (.iconst 1, 1) := by decide +kernel
theorem dX0_endCollect_11 : decode cX0_endCollect 11 = .ok (.iadd, 1) := by decide +kernel
theorem dX0_endCollect_12 : decode cX0_endCollect 12 = .ok (.putfield 44, 3) := by decide +kernel
theorem dX0_endCollect_15 : decode cX0_endCollect 15 = .ok (.aload_n 0, 1) := by decide +kernel
theorem dX0_endCollect_16 : decode cX0_endCollect 16 = .ok (.getfield 44, 3) := by decide +kernel
theorem dX0_endCollect_19 : decode cX0_endCollect 19 = .ok (.iconst 1, 1) := by decide +kernel
theorem dX0_endCollect_20 : decode cX0_endCollect 20 = .ok (.if_icmp .le 62, 3) := by decide +kernel
theorem dX0_endCollect_23 : decode cX0_endCollect 23 = .ok (.aload_n 0, 1) := by decide +kernel
theorem dX0_endCollect_24 : decode cX0_endCollect 24 = .ok (.iload_n 1, 1) := by decide +kernel
theorem dX0_endCollect_25 : decode cX0_endCollect 25 = .ok (.invokevirtual 75, 3) := by decide +kernel
theorem dX0_endCollect_28 : decode cX0_endCollect 28 = .ok (.istore_n 3, 1) := by decide +kernel
theorem dX0_endCollect_29 : decode cX0_endCollect 29 = .ok (.aload_n 0, 1) := by decide +kernel
theorem dX0_endCollect_30 : decode cX0_endCollect 30 = .ok (.iload_n 1, 1) := by decide +kernel
theorem dX0_endCollect_31 : decode cX0_endCollect 31 = .ok (.iload_n 2, 1) := by decide +kernel
theorem dX0_endCollect_32 : decode cX0_endCollect 32 = .ok (.invokevirtual 79, 3) := by decide +kernel
theorem dX0_endCollect_35 : decode cX0_endCollect 35 = .ok (.istore 4, 2) := by decide +kernel
theorem dX0_endCollect_37 : decode cX0_endCollect 37 = .ok (.iload_n 3, 1) := by decide +kernel
theorem dX0_endCollect_38 : decode cX0_endCollect 38 = .ok (.ifCond .ne 20, 3) := by decide +kernel
theorem dX0_endCollect_41 : decode cX0_endCollect 41 = .ok (.aload_n 0, 1) := by decide +kernel
theorem dX0_endCollect_42 : decode cX0_endCollect 42 = .ok (.aload_n 0, 1) := by decide +kernel
theorem dX0_endCollect_43 : decode cX0_endCollect 43 = .ok (.getfield 24, 3) := by decide +kernel
theorem dX0_endCollect_46 : decode cX0_endCollect 46 = .ok (.getfield 83, 3) := by decide +kernel
theorem dX0_endCollect_49 : decode cX0_endCollect 49 = .ok (.iconst 0, 1) := by decide +kernel
theorem dX0_endCollect_50 : decode cX0_endCollect 50 = .ok (.bipush (-9), 2) := by decide +kernel
theorem dX0_endCollect_52 : decode cX0_endCollect 52 = .ok (.invokevirtual 86, 3) := by decide +kernel
theorem dX0_endCollect_55 : decode cX0_endCollect 55 = .ok (.goto 27, 3) := by decide +kernel
theorem dX0_endCollect_58 : decode cX0_endCollect 58 = .ok (.iload 4, 2) := by decide +kernel
theorem dX0_endCollect_60 : decode cX0_endCollect 60 = .ok (.bipush (-9), 2) := by decide +kernel
theorem dX0_endCollect_62 : decode cX0_endCollect 62 = .ok (.if_icmp .eq 20, 3) := by decide +kernel
theorem dX0_endCollect_65 : decode cX0_endCollect 65 = .ok (.aload_n 0, 1) := by decide +kernel
theorem dX0_endCollect_66 : decode cX0_endCollect 66 = .ok (.aload_n 0, 1) := by decide +kernel
theorem dX0_endCollect_67 : decode cX0_endCollect 67 = .ok (.getfield 24, 3) := by decide +kernel
theorem dX0_endCollect_70 : decode cX0_endCollect 70 = .ok (.getfield 90, 3) := by decide +kernel
theorem dX0_endCollect_73 : decode cX0_endCollect 73 = .ok (.iload 4, 2) := by decide +kernel
theorem dX0_endCollect_75 : decode cX0_endCollect 75 = .ok (.iconst 4, 1) := by decide +kernel
theorem dX0_endCollect_76 : decode cX0_endCollect 76 = .ok (.imul, 1) := by decide +kernel
theorem dX0_endCollect_77 : decode cX0_endCollect 77 = .ok (.iload 4, 2) := by decide +kernel
theorem dX0_endCollect_79 : decode cX0_endCollect 79 = .ok (.invokevirtual 86, 3) := by decide +kernel
theorem dX0_endCollect_82 : decode cX0_endCollect 82 = .ok (.aload_n 0, 1) := by decide +kernel
theorem dX0_endCollect_83 : decode cX0_endCollect 83 = .ok (.getfield 24, 3) := by decide +kernel
theorem dX0_endCollect_86 : decode cX0_endCollect 86 = .ok (.getfield 93, 3) := by decide +kernel
theorem dX0_endCollect_89 : decode cX0_endCollect 89 = .ok (.aload_n 0, 1) := by decide +kernel
theorem dX0_endCollect_90 : decode cX0_endCollect 90 = .ok (.getfield 18, 3) := by decide +kernel
theorem dX0_endCollect_93 : decode cX0_endCollect 93 = .ok (.invokestatic 63, 3) := by decide +kernel
theorem dX0_endCollect_96 : decode cX0_endCollect 96 = .ok (.return_, 1) := by decide +kernel
theorem dX0_countMoves_0 : decode cX0_countMoves 0 = .ok (.iconst 0, 1) := by decide +kernel
theorem dX0_countMoves_1 : decode cX0_countMoves 1 = .ok (.istore_n 2, 1) := by decide +kernel
theorem dX0_countMoves_2 : decode cX0_countMoves 2 = .ok (.iconst 0, 1) := by decide +kernel
theorem dX0_countMoves_3 : decode cX0_countMoves 3 = .ok (.istore_n 3, 1) := by decide +kernel
theorem dX0_countMoves_4 : decode cX0_countMoves 4 = .ok (.iload_n 3, 1) := by decide +kernel
theorem dX0_countMoves_5 : decode cX0_countMoves 5 = .ok (.iload_n 1, 1) := by decide +kernel
theorem dX0_countMoves_6 : decode cX0_countMoves 6 = .ok (.if_icmp .ge 39, 3) := by decide +kernel
theorem dX0_countMoves_9 : decode cX0_countMoves 9 = .ok (.aload_n 0, 1) := by decide +kernel
theorem dX0_countMoves_10 : decode cX0_countMoves 10 = .ok (.getfield 24, 3) := by decide +kernel
theorem dX0_countMoves_13 : decode cX0_countMoves 13 = .ok (.getfield 93, 3) := by decide +kernel
theorem dX0_countMoves_16 : decode cX0_countMoves 16 = .ok (.iload_n 3, 1) := by decide +kernel
theorem dX0_countMoves_17 : decode cX0_countMoves 17 = .ok (.iaload, 1) := by decide +kernel
theorem dX0_countMoves_18 : decode cX0_countMoves 18 = .ok (.aload_n 0, 1) := by decide +kernel
theorem dX0_countMoves_19 : decode cX0_countMoves 19 = .ok (.getfield 18, 3) := by decide +kernel
theorem dX0_countMoves_22 : decode cX0_countMoves 22 = .ok (.iload_n 3, 1) := by decide +kernel
theorem dX0_countMoves_23 : decode cX0_countMoves 23 = .ok (.iaload, 1) := by decide +kernel
theorem dX0_countMoves_24 : decode cX0_countMoves 24 = .ok (.if_icmp .eq 15, 3) := by decide +kernel
theorem dX0_countMoves_27 : decode cX0_countMoves 27 = .ok (.iconst 1, 1) := by decide +kernel
theorem dX0_countMoves_28 : decode cX0_countMoves 28 = .ok (.istore_n 2, 1) := by decide +kernel
theorem dX0_countMoves_29 : decode cX0_countMoves 29 = .ok (.aload_n 0, 1) := by decide +kernel
theorem dX0_countMoves_30 : decode cX0_countMoves 30 = .ok (.getfield 15, 3) := by decide +kernel
theorem dX0_countMoves_33 : decode cX0_countMoves 33 = .ok (.iload_n 3, 1) := by decide +kernel
theorem dX0_countMoves_34 : decode cX0_countMoves 34 = .ok (.dup2, 1) := by decide +kernel
theorem dX0_countMoves_35 : decode cX0_countMoves 35 = .ok (.iaload, 1) := by decide +kernel
theorem dX0_countMoves_36 : decode cX0_countMoves 36 = .ok (.iconst 1, 1) := by decide +kernel
theorem dX0_countMoves_37 : decode cX0_countMoves 37 = .ok (.iadd, 1) := by decide +kernel
theorem dX0_countMoves_38 : decode cX0_countMoves 38 = .ok (.iastore, 1) := by decide +kernel
theorem dX0_countMoves_39 : decode cX0_countMoves 39 = .ok (.iinc 3 1, 3) := by decide +kernel
theorem dX0_countMoves_42 : decode cX0_countMoves 42 = .ok (.goto (-38), 3) := by decide +kernel
theorem dX0_countMoves_45 : decode cX0_countMoves 45 = .ok (.iload_n 2, 1) := by decide +kernel
theorem dX0_countMoves_46 : decode cX0_countMoves 46 = .ok (.ireturn, 1) := by decide +kernel
theorem dX0_lowestMoved_0 : decode cX0_lowestMoved 0 = .ok (.iconst 0, 1) := by decide +kernel
theorem dX0_lowestMoved_1 : decode cX0_lowestMoved 1 = .ok (.istore_n 3, 1) := by decide +kernel
theorem dX0_lowestMoved_2 : decode cX0_lowestMoved 2 = .ok (.iload_n 3, 1) := by decide +kernel
theorem dX0_lowestMoved_3 : decode cX0_lowestMoved 3 = .ok (.iload_n 1, 1) := by decide +kernel
theorem dX0_lowestMoved_4 : decode cX0_lowestMoved 4 = .ok (.if_icmp .ge 21, 3) := by decide +kernel
theorem dX0_lowestMoved_7 : decode cX0_lowestMoved 7 = .ok (.aload_n 0, 1) := by decide +kernel
theorem dX0_lowestMoved_8 : decode cX0_lowestMoved 8 = .ok (.getfield 15, 3) := by decide +kernel
theorem dX0_lowestMoved_11 : decode cX0_lowestMoved 11 = .ok (.iload_n 3, 1) := by decide +kernel
theorem dX0_lowestMoved_12 : decode cX0_lowestMoved 12 = .ok (.iaload, 1) := by decide +kernel
theorem dX0_lowestMoved_13 : decode cX0_lowestMoved 13 = .ok (.iload_n 2, 1) := by decide +kernel
theorem dX0_lowestMoved_14 : decode cX0_lowestMoved 14 = .ok (.if_icmp .lt 5, 3) := by decide +kernel
theorem dX0_lowestMoved_17 : decode cX0_lowestMoved 17 = .ok (.iload_n 3, 1) := by decide +kernel
theorem dX0_lowestMoved_18 : decode cX0_lowestMoved 18 = .ok (.ireturn, 1) := by decide +kernel
theorem dX0_lowestMoved_19 : decode cX0_lowestMoved 19 = .ok (.iinc 3 1, 3) := by decide +kernel
theorem dX0_lowestMoved_22 : decode cX0_lowestMoved 22 = .ok (.goto (-20), 3) := by decide +kernel
theorem dX0_lowestMoved_25 : decode cX0_lowestMoved 25 = .ok (.bipush (-9), 2) := by decide +kernel
theorem dX0_lowestMoved_27 : decode cX0_lowestMoved 27 = .ok (.ireturn, 1) := by decide +kernel
theorem dX0_takePhoto_0 : decode cX0_takePhoto 0 = .ok (.aload_n 1, 1) := by decide +kernel
theorem dX0_takePhoto_1 : decode cX0_takePhoto 1 = .ok (.iload_n 2, 1) := by decide +kernel
theorem dX0_takePhoto_2 : decode cX0_takePhoto 2 = .ok (.aload_n 0, 1) := by decide +kernel
theorem dX0_takePhoto_3 : decode cX0_takePhoto 3 = .ok (.getfield 9, 3) := by decide +kernel
theorem dX0_takePhoto_6 : decode cX0_takePhoto 6 = .ok (.iconst 0, 1) := by decide +kernel
theorem dX0_takePhoto_7 : decode cX0_takePhoto 7 = .ok (.iconst 4, 1) := by decide +kernel
theorem dX0_takePhoto_8 : decode cX0_takePhoto 8 = .ok (.invokestatic 96, 3) := by decide +kernel
theorem dX0_takePhoto_11 : decode cX0_takePhoto 11 = .ok (.aload_n 0, 1) := by decide +kernel
theorem dX0_takePhoto_12 : decode cX0_takePhoto 12 = .ok (.iload_n 3, 1) := by decide +kernel
theorem dX0_takePhoto_13 : decode cX0_takePhoto 13 = .ok (.putfield 51, 3) := by decide +kernel
theorem dX0_takePhoto_16 : decode cX0_takePhoto 16 = .ok (.aload_n 0, 1) := by decide +kernel
theorem dX0_takePhoto_17 : decode cX0_takePhoto 17 = .ok (.iconst 1, 1) := by decide +kernel
theorem dX0_takePhoto_18 : decode cX0_takePhoto 18 = .ok (.putfield 47, 3) := by decide +kernel
theorem dX0_takePhoto_21 : decode cX0_takePhoto 21 = .ok (.return_, 1) := by decide +kernel
theorem dX1_init_0 : decode cX1_init 0 = .ok (.aload_n 0, 1) := by decide +kernel
theorem dX1_init_1 : decode cX1_init 1 = .ok (.invokespecial 3, 3) := by decide +kernel
theorem dX1_init_4 : decode cX1_init 4 = .ok (.aload_n 0, 1) := by decide +kernel
theorem dX1_init_5 : decode cX1_init 5 = .ok (.sipush 264, 3) := by decide +kernel
theorem dX1_init_8 : decode cX1_init 8 = .ok (.newarray .int, 2) := by decide +kernel
theorem dX1_init_10 : decode cX1_init 10 = .ok (.putfield 11, 3) := by decide +kernel
theorem dX1_init_13 : decode cX1_init 13 = .ok (.return_, 1) := by decide +kernel
theorem dX1_copyFrom_0 : decode cX1_copyFrom 0 = .ok (.aload_n 0, 1) := by decide +kernel
theorem dX1_copyFrom_1 : decode cX1_copyFrom 1 = .ok (.aload_n 1, 1) := by decide +kernel
theorem dX1_copyFrom_2 : decode cX1_copyFrom 2 = .ok (.getfield 15, 3) := by decide +kernel
theorem dX1_copyFrom_5 : decode cX1_copyFrom 5 = .ok (.putfield 15, 3) := by decide +kernel
theorem dX1_copyFrom_8 : decode cX1_copyFrom 8 = .ok (.aload_n 1, 1) := by decide +kernel
theorem dX1_copyFrom_9 : decode cX1_copyFrom 9 = .ok (.getfield 11, 3) := by decide +kernel
theorem dX1_copyFrom_12 : decode cX1_copyFrom 12 = .ok (.iconst 0, 1) := by decide +kernel
theorem dX1_copyFrom_13 : decode cX1_copyFrom 13 = .ok (.aload_n 0, 1) := by decide +kernel
theorem dX1_copyFrom_14 : decode cX1_copyFrom 14 = .ok (.getfield 11, 3) := by decide +kernel
theorem dX1_copyFrom_17 : decode cX1_copyFrom 17 = .ok (.iconst 0, 1) := by decide +kernel
theorem dX1_copyFrom_18 : decode cX1_copyFrom 18 = .ok (.aload_n 0, 1) := by decide +kernel
theorem dX1_copyFrom_19 : decode cX1_copyFrom 19 = .ok (.getfield 15, 3) := by decide +kernel
theorem dX1_copyFrom_22 : decode cX1_copyFrom 22 = .ok (.bipush 11, 2) := by decide +kernel
theorem dX1_copyFrom_24 : decode cX1_copyFrom 24 = .ok (.imul, 1) := by decide +kernel
theorem dX1_copyFrom_25 : decode cX1_copyFrom 25 = .ok (.invokestatic 19, 3) := by decide +kernel
theorem dX1_copyFrom_28 : decode cX1_copyFrom 28 = .ok (.return_, 1) := by decide +kernel
theorem dX1_fact_0 : decode cX1_fact 0 = .ok (.aload_n 0, 1) := by decide +kernel
theorem dX1_fact_1 : decode cX1_fact 1 = .ok (.getfield 11, 3) := by decide +kernel
theorem dX1_fact_4 : decode cX1_fact 4 = .ok (.iload_n 1, 1) := by decide +kernel
theorem dX1_fact_5 : decode cX1_fact 5 = .ok (.bipush 11, 2) := by decide +kernel
theorem dX1_fact_7 : decode cX1_fact 7 = .ok (.imul, 1) := by decide +kernel
theorem dX1_fact_8 : decode cX1_fact 8 = .ok (.iload_n 2, 1) := by decide +kernel
theorem dX1_fact_9 : decode cX1_fact 9 = .ok (.iadd, 1) := by decide +kernel
theorem dX1_fact_10 : decode cX1_fact 10 = .ok (.iaload, 1) := by decide +kernel
theorem dX1_fact_11 : decode cX1_fact 11 = .ok (.ireturn, 1) := by decide +kernel
theorem dX1_add_0 : decode cX1_add 0 = .ok (.aload_n 0, 1) := by decide +kernel
theorem dX1_add_1 : decode cX1_add 1 = .ok (.getfield 15, 3) := by decide +kernel
theorem dX1_add_4 : decode cX1_add 4 = .ok (.bipush 24, 2) := by decide +kernel
theorem dX1_add_6 : decode cX1_add 6 = .ok (.if_icmp .lt 4, 3) := by decide +kernel
theorem dX1_add_9 : decode cX1_add 9 = .ok (.return_, 1) := by decide +kernel
theorem dX1_add_10 : decode cX1_add 10 = .ok (.aload_n 0, 1) := by decide +kernel
theorem dX1_add_11 : decode cX1_add 11 = .ok (.getfield 15, 3) := by decide +kernel
theorem dX1_add_14 : decode cX1_add 14 = .ok (.bipush 11, 2) := by decide +kernel
theorem dX1_add_16 : decode cX1_add 16 = .ok (.imul, 1) := by decide +kernel
theorem dX1_add_17 : decode cX1_add 17 = .ok (.istore 5, 2) := by decide +kernel
theorem dX1_add_19 : decode cX1_add 19 = .ok (.aload_n 0, 1) := by decide +kernel
theorem dX1_add_20 : decode cX1_add 20 = .ok (.getfield 11, 3) := by decide +kernel
theorem dX1_add_23 : decode cX1_add 23 = .ok (.iload 5, 2) := by decide +kernel
theorem dX1_add_25 : decode cX1_add 25 = .ok (.iconst 0, 1) := by decide +kernel
theorem dX1_add_26 : decode cX1_add 26 = .ok (.iadd, 1) := by decide +kernel
theorem dX1_add_27 : decode cX1_add 27 = .ok (.iload_n 1, 1) := by decide +kernel
theorem dX1_add_28 : decode cX1_add 28 = .ok (.iastore, 1) := by decide +kernel
theorem dX1_add_29 : decode cX1_add 29 = .ok (.aload_n 0, 1) := by decide +kernel
theorem dX1_add_30 : decode cX1_add 30 = .ok (.getfield 11, 3) := by decide +kernel
theorem dX1_add_33 : decode cX1_add 33 = .ok (.iload 5, 2) := by decide +kernel
theorem dX1_add_35 : decode cX1_add 35 = .ok (.iconst 1, 1) := by decide +kernel
theorem dX1_add_36 : decode cX1_add 36 = .ok (.iadd, 1) := by decide +kernel
theorem dX1_add_37 : decode cX1_add 37 = .ok (.aload_n 2, 1) := by decide +kernel
theorem dX1_add_38 : decode cX1_add 38 = .ok (.getfield 25, 3) := by decide +kernel
theorem dX1_add_41 : decode cX1_add 41 = .ok (.iastore, 1) := by decide +kernel
theorem dX1_add_42 : decode cX1_add 42 = .ok (.aload_n 0, 1) := by decide +kernel
theorem dX1_add_43 : decode cX1_add 43 = .ok (.getfield 11, 3) := by decide +kernel
theorem dX1_add_46 : decode cX1_add 46 = .ok (.iload 5, 2) := by decide +kernel
theorem dX1_add_48 : decode cX1_add 48 = .ok (.iconst 2, 1) := by decide +kernel
theorem dX1_add_49 : decode cX1_add 49 = .ok (.iadd, 1) := by decide +kernel
theorem dX1_add_50 : decode cX1_add 50 = .ok (.iload_n 3, 1) := by decide +kernel
theorem dX1_add_51 : decode cX1_add 51 = .ok (.iastore, 1) := by decide +kernel
theorem dX1_add_52 : decode cX1_add 52 = .ok (.aload_n 0, 1) := by decide +kernel
theorem dX1_add_53 : decode cX1_add 53 = .ok (.getfield 11, 3) := by decide +kernel
theorem dX1_add_56 : decode cX1_add 56 = .ok (.iload 5, 2) := by decide +kernel
theorem dX1_add_58 : decode cX1_add 58 = .ok (.iconst 3, 1) := by decide +kernel
theorem dX1_add_59 : decode cX1_add 59 = .ok (.iadd, 1) := by decide +kernel
theorem dX1_add_60 : decode cX1_add 60 = .ok (.aload_n 2, 1) := by decide +kernel
theorem dX1_add_61 : decode cX1_add 61 = .ok (.getfield 30, 3) := by decide +kernel
theorem dX1_add_64 : decode cX1_add 64 = .ok (.iastore, 1) := by decide +kernel
theorem dX1_add_65 : decode cX1_add 65 = .ok (.aload_n 0, 1) := by decide +kernel
theorem dX1_add_66 : decode cX1_add 66 = .ok (.getfield 11, 3) := by decide +kernel
theorem dX1_add_69 : decode cX1_add 69 = .ok (.iload 5, 2) := by decide +kernel
theorem dX1_add_71 : decode cX1_add 71 = .ok (.iconst 4, 1) := by decide +kernel
theorem dX1_add_72 : decode cX1_add 72 = .ok (.iadd, 1) := by decide +kernel
theorem dX1_add_73 : decode cX1_add 73 = .ok (.aload_n 2, 1) := by decide +kernel
theorem dX1_add_74 : decode cX1_add 74 = .ok (.getfield 33, 3) := by decide +kernel
theorem dX1_add_77 : decode cX1_add 77 = .ok (.iastore, 1) := by decide +kernel
theorem dX1_add_78 : decode cX1_add 78 = .ok (.aload_n 0, 1) := by decide +kernel
theorem dX1_add_79 : decode cX1_add 79 = .ok (.getfield 11, 3) := by decide +kernel
theorem dX1_add_82 : decode cX1_add 82 = .ok (.iload 5, 2) := by decide +kernel
theorem dX1_add_84 : decode cX1_add 84 = .ok (.iconst 5, 1) := by decide +kernel
theorem dX1_add_85 : decode cX1_add 85 = .ok (.iadd, 1) := by decide +kernel
theorem dX1_add_86 : decode cX1_add 86 = .ok (.aload_n 2, 1) := by decide +kernel
theorem dX1_add_87 : decode cX1_add 87 = .ok (.getfield 36, 3) := by decide +kernel
theorem dX1_add_90 : decode cX1_add 90 = .ok (.iconst 2, 1) := by decide +kernel
theorem dX1_add_91 : decode cX1_add 91 = .ok (.if_icmp .ne 7, 3) := by decide +kernel
theorem dX1_add_94 : decode cX1_add 94 = .ok (.iconst 1, 1) := by decide +kernel
theorem dX1_add_95 : decode cX1_add 95 = .ok (.goto 4, 3) := by decide +kernel
theorem dX1_add_98 : decode cX1_add 98 = .ok (.iconst 0, 1) := by decide +kernel
theorem dX1_add_99 : decode cX1_add 99 = .ok (.iastore, 1) := by decide +kernel
theorem dX1_add_100 : decode cX1_add 100 = .ok (.aload_n 2, 1) := by decide +kernel
theorem dX1_add_101 : decode cX1_add 101 = .ok (.getfield 39, 3) := by decide +kernel
theorem dX1_add_104 : decode cX1_add 104 = .ok (.iconst 0, 1) := by decide +kernel
theorem dX1_add_105 : decode cX1_add 105 = .ok (.aload_n 0, 1) := by decide +kernel
theorem dX1_add_106 : decode cX1_add 106 = .ok (.getfield 11, 3) := by decide +kernel
theorem dX1_add_109 : decode cX1_add 109 = .ok (.iload 5, 2) := by decide +kernel
theorem dX1_add_111 : decode cX1_add 111 = .ok (.bipush 6, 2) := by decide +kernel
theorem dX1_add_113 : decode cX1_add 113 = .ok (.iadd, 1) := by decide +kernel
theorem dX1_add_114 : decode cX1_add 114 = .ok (.iconst 4, 1) := by decide +kernel
theorem dX1_add_115 : decode cX1_add 115 = .ok (.invokestatic 19, 3) := by decide +kernel
theorem dX1_add_118 : decode cX1_add 118 = .ok (.aload_n 0, 1) := by decide +kernel
theorem dX1_add_119 : decode cX1_add 119 = .ok (.getfield 11, 3) := by decide +kernel
theorem dX1_add_122 : decode cX1_add 122 = .ok (.iload 5, 2) := by decide +kernel
theorem dX1_add_124 : decode cX1_add 124 = .ok (.bipush 10, 2) := by decide +kernel
theorem dX1_add_126 : decode cX1_add 126 = .ok (.iadd, 1) := by decide +kernel
theorem dX1_add_127 : decode cX1_add 127 = .ok (.iload 4, 2) := by decide +kernel
theorem dX1_add_129 : decode cX1_add 129 = .ok (.iastore, 1) := by decide +kernel
theorem dX1_add_130 : decode cX1_add 130 = .ok (.aload_n 0, 1) := by decide +kernel
theorem dX1_add_131 : decode cX1_add 131 = .ok (.dup, 1) := by decide +kernel
theorem dX1_add_132 : decode cX1_add 132 = .ok (.getfield 15, 3) := by decide +kernel
theorem dX1_add_135 : decode cX1_add 135 = .ok (.iconst 1, 1) := by decide +kernel
theorem dX1_add_136 : decode cX1_add 136 = .ok (.iadd, 1) := by decide +kernel
theorem dX1_add_137 : decode cX1_add 137 = .ok (.putfield 15, 3) := by decide +kernel
theorem dX1_add_140 : decode cX1_add 140 = .ok (.return_, 1) := by decide +kernel
theorem dX1_countWith_0 : decode cX1_countWith 0 = .ok (.iconst 0, 1) := by decide +kernel
theorem dX1_countWith_1 : decode cX1_countWith 1 = .ok (.istore_n 3, 1) := by decide +kernel
theorem dX1_countWith_2 : decode cX1_countWith 2 = .ok (.iconst 0, 1) := by decide +kernel
theorem dX1_countWith_3 : decode cX1_countWith 3 = .ok (.istore 4, 2) := by decide +kernel
theorem dX1_countWith_5 : decode cX1_countWith 5 = .ok (.iload 4, 2) := by decide +kernel
theorem dX1_countWith_7 : decode cX1_countWith 7 = .ok (.aload_n 0, 1) := by decide +kernel
theorem dX1_countWith_8 : decode cX1_countWith 8 = .ok (.getfield 15, 3) := by decide +kernel
theorem dX1_countWith_11 : decode cX1_countWith 11 = .ok (.if_icmp .ge 23, 3) := by decide +kernel
theorem dX1_countWith_14 : decode cX1_countWith 14 = .ok (.aload_n 0, 1) := by decide +kernel
theorem dX1_countWith_15 : decode cX1_countWith 15 = .ok (.iload 4, 2) := by decide +kernel
theorem dX1_countWith_17 : decode cX1_countWith 17 = .ok (.iload_n 1, 1) := by decide +kernel
theorem dX1_countWith_18 : decode cX1_countWith 18 = .ok (.invokevirtual 42, 3) := by decide +kernel
theorem dX1_countWith_21 : decode cX1_countWith 21 = .ok (.iload_n 2, 1) := by decide +kernel
theorem dX1_countWith_22 : decode cX1_countWith 22 = .ok (.if_icmp .ne 6, 3) := by decide +kernel
theorem dX1_countWith_25 : decode cX1_countWith 25 = .ok (.iinc 3 1, 3) := by decide +kernel
theorem dX1_countWith_28 : decode cX1_countWith 28 = .ok (.iinc 4 1, 3) := by decide +kernel
theorem dX1_countWith_31 : decode cX1_countWith 31 = .ok (.goto (-26), 3) := by decide +kernel
theorem dX1_countWith_34 : decode cX1_countWith 34 = .ok (.iload_n 3, 1) := by decide +kernel
theorem dX1_countWith_35 : decode cX1_countWith 35 = .ok (.ireturn, 1) := by decide +kernel
theorem dX1_leastReadsAbove_0 : decode cX1_leastReadsAbove 0 = .ok (.bipush (-9), 2) := by decide +kernel
theorem dX1_leastReadsAbove_2 : decode cX1_leastReadsAbove 2 = .ok (.istore_n 2, 1) := by decide +kernel
theorem dX1_leastReadsAbove_3 : decode cX1_leastReadsAbove 3 = .ok (.iconst 0, 1) := by decide +kernel
theorem dX1_leastReadsAbove_4 : decode cX1_leastReadsAbove 4 = .ok (.istore_n 3, 1) := by decide +kernel
theorem dX1_leastReadsAbove_5 : decode cX1_leastReadsAbove 5 = .ok (.iload_n 3, 1) := by decide +kernel
theorem dX1_leastReadsAbove_6 : decode cX1_leastReadsAbove 6 = .ok (.aload_n 0, 1) := by decide +kernel
theorem dX1_leastReadsAbove_7 : decode cX1_leastReadsAbove 7 = .ok (.getfield 15, 3) := by decide +kernel
theorem dX1_leastReadsAbove_10 : decode cX1_leastReadsAbove 10 = .ok (.if_icmp .ge 38, 3) := by decide +kernel
theorem dX1_leastReadsAbove_13 : decode cX1_leastReadsAbove 13 = .ok (.aload_n 0, 1) := by decide +kernel
theorem dX1_leastReadsAbove_14 : decode cX1_leastReadsAbove 14 = .ok (.iload_n 3, 1) := by decide +kernel
theorem dX1_leastReadsAbove_15 : decode cX1_leastReadsAbove 15 = .ok (.iconst 3, 1) := by decide +kernel
theorem dX1_leastReadsAbove_16 : decode cX1_leastReadsAbove 16 = .ok (.invokevirtual 42, 3) := by decide +kernel
theorem dX1_leastReadsAbove_19 : decode cX1_leastReadsAbove 19 = .ok (.istore 4, 2) := by decide +kernel
theorem dX1_leastReadsAbove_21 : decode cX1_leastReadsAbove 21 = .ok (.iload 4, 2) := by decide +kernel
theorem dX1_leastReadsAbove_23 : decode cX1_leastReadsAbove 23 = .ok (.iload_n 1, 1) := by decide +kernel
theorem dX1_leastReadsAbove_24 : decode cX1_leastReadsAbove 24 = .ok (.if_icmp .le 18, 3) := by decide +kernel
theorem dX1_leastReadsAbove_27 : decode cX1_leastReadsAbove 27 = .ok (.iload_n 2, 1) := by decide +kernel
theorem dX1_leastReadsAbove_28 : decode cX1_leastReadsAbove 28 = .ok (.bipush (-9), 2) := by decide +kernel
theorem dX1_leastReadsAbove_30 : decode cX1_leastReadsAbove 30 = .ok (.if_icmp .eq 9, 3) := by decide +kernel
theorem dX1_leastReadsAbove_33 : decode cX1_leastReadsAbove 33 = .ok (.iload 4, 2) := by decide +kernel
theorem dX1_leastReadsAbove_35 : decode cX1_leastReadsAbove 35 = .ok (.iload_n 2, 1) := by decide +kernel
theorem dX1_leastReadsAbove_36 : decode cX1_leastReadsAbove 36 = .ok (.if_icmp .ge 6, 3) := by decide +kernel
theorem dX1_leastReadsAbove_39 : decode cX1_leastReadsAbove 39 = .ok (.iload 4, 2) := by decide +kernel
theorem dX1_leastReadsAbove_41 : decode cX1_leastReadsAbove 41 = .ok (.istore_n 2, 1) := by decide +kernel
theorem dX1_leastReadsAbove_42 : decode cX1_leastReadsAbove 42 = .ok (.iinc 3 1, 3) := by decide +kernel
theorem dX1_leastReadsAbove_45 : decode cX1_leastReadsAbove 45 = .ok (.goto (-40), 3) := by decide +kernel
theorem dX1_leastReadsAbove_48 : decode cX1_leastReadsAbove 48 = .ok (.iload_n 2, 1) := by decide +kernel
theorem dX1_leastReadsAbove_49 : decode cX1_leastReadsAbove 49 = .ok (.ireturn, 1) := by decide +kernel
theorem dX1_greatestReadsBelow_0 : decode cX1_greatestReadsBelow 0 = .ok (.bipush (-9), 2) := by decide +kernel
theorem dX1_greatestReadsBelow_2 : decode cX1_greatestReadsBelow 2 = .ok (.istore_n 2, 1) := by decide +kernel
theorem dX1_greatestReadsBelow_3 : decode cX1_greatestReadsBelow 3 = .ok (.iconst 0, 1) := by decide +kernel
theorem dX1_greatestReadsBelow_4 : decode cX1_greatestReadsBelow 4 = .ok (.istore_n 3, 1) := by decide +kernel
theorem dX1_greatestReadsBelow_5 : decode cX1_greatestReadsBelow 5 = .ok (.iload_n 3, 1) := by decide +kernel
theorem dX1_greatestReadsBelow_6 : decode cX1_greatestReadsBelow 6 = .ok (.aload_n 0, 1) := by decide +kernel
theorem dX1_greatestReadsBelow_7 : decode cX1_greatestReadsBelow 7 = .ok (.getfield 15, 3) := by decide +kernel
theorem dX1_greatestReadsBelow_10 : decode cX1_greatestReadsBelow 10 = .ok (.if_icmp .ge 38, 3) := by decide +kernel
theorem dX1_greatestReadsBelow_13 : decode cX1_greatestReadsBelow 13 = .ok (.aload_n 0, 1) := by decide +kernel
theorem dX1_greatestReadsBelow_14 : decode cX1_greatestReadsBelow 14 = .ok (.iload_n 3, 1) := by decide +kernel
theorem dX1_greatestReadsBelow_15 : decode cX1_greatestReadsBelow 15 = .ok (.iconst 3, 1) := by decide +kernel
theorem dX1_greatestReadsBelow_16 : decode cX1_greatestReadsBelow 16 = .ok (.invokevirtual 42, 3) := by decide +kernel
theorem dX1_greatestReadsBelow_19 : decode cX1_greatestReadsBelow 19 = .ok (.istore 4, 2) := by decide +kernel
theorem dX1_greatestReadsBelow_21 : decode cX1_greatestReadsBelow 21 = .ok (.iload 4, 2) := by decide +kernel
theorem dX1_greatestReadsBelow_23 : decode cX1_greatestReadsBelow 23 = .ok (.iload_n 1, 1) := by decide +kernel
theorem dX1_greatestReadsBelow_24 : decode cX1_greatestReadsBelow 24 = .ok (.if_icmp .ge 18, 3) := by decide +kernel
theorem dX1_greatestReadsBelow_27 : decode cX1_greatestReadsBelow 27 = .ok (.iload_n 2, 1) := by decide +kernel
theorem dX1_greatestReadsBelow_28 : decode cX1_greatestReadsBelow 28 = .ok (.bipush (-9), 2) := by decide +kernel
theorem dX1_greatestReadsBelow_30 : decode cX1_greatestReadsBelow 30 = .ok (.if_icmp .eq 9, 3) := by decide +kernel
theorem dX1_greatestReadsBelow_33 : decode cX1_greatestReadsBelow 33 = .ok (.iload 4, 2) := by decide +kernel
theorem dX1_greatestReadsBelow_35 : decode cX1_greatestReadsBelow 35 = .ok (.iload_n 2, 1) := by decide +kernel
theorem dX1_greatestReadsBelow_36 : decode cX1_greatestReadsBelow 36 = .ok (.if_icmp .le 6, 3) := by decide +kernel
theorem dX1_greatestReadsBelow_39 : decode cX1_greatestReadsBelow 39 = .ok (.iload 4, 2) := by decide +kernel
theorem dX1_greatestReadsBelow_41 : decode cX1_greatestReadsBelow 41 = .ok (.istore_n 2, 1) := by decide +kernel
theorem dX1_greatestReadsBelow_42 : decode cX1_greatestReadsBelow 42 = .ok (.iinc 3 1, 3) := by decide +kernel
theorem dX1_greatestReadsBelow_45 : decode cX1_greatestReadsBelow 45 = .ok (.goto (-40), 3) := by decide +kernel
theorem dX1_greatestReadsBelow_48 : decode cX1_greatestReadsBelow 48 = .ok (.iload_n 2, 1) := by decide +kernel
theorem dX1_greatestReadsBelow_49 : decode cX1_greatestReadsBelow 49 = .ok (.ireturn, 1) := by decide +kernel
theorem dX2_init_0 : decode cX2_init 0 = .ok (.aload_n 0, 1) := by decide +kernel
theorem dX2_init_1 : decode cX2_init 1 = .ok (.invokespecial 3, 3) := by decide +kernel
theorem dX2_init_4 : decode cX2_init 4 = .ok (.aload_n 0, 1) := by decide +kernel
theorem dX2_init_5 : decode cX2_init 5 = .ok (.iconst 4, 1) := by decide +kernel
theorem dX2_init_6 : decode cX2_init 6 = .ok (.newarray .int, 2) := by decide +kernel
theorem dX2_init_8 : decode cX2_init 8 = .ok (.putfield 9, 3) := by decide +kernel
theorem dX2_init_11 : decode cX2_init 11 = .ok (.aload_n 0, 1) := by decide +kernel
theorem dX2_init_12 : decode cX2_init 12 = .ok (.iconst 4, 1) := by decide +kernel
theorem dX2_init_13 : decode cX2_init 13 = .ok (.newarray .int, 2) := by decide +kernel
theorem dX2_init_15 : decode cX2_init 15 = .ok (.putfield 15, 3) := by decide +kernel
theorem dX2_init_18 : decode cX2_init 18 = .ok (.aload_n 0, 1) := by decide +kernel
theorem dX2_init_19 : decode cX2_init 19 = .ok (.bipush 16, 2) := by decide +kernel
theorem dX2_init_21 : decode cX2_init 21 = .ok (.newarray .int, 2) := by decide +kernel
theorem dX2_init_23 : decode cX2_init 23 = .ok (.putfield 18, 3) := by decide +kernel
theorem dX2_init_26 : decode cX2_init 26 = .ok (.return_, 1) := by decide +kernel
theorem dX2_clear_0 : decode cX2_clear 0 = .ok (.aload_n 0, 1) := by decide +kernel
theorem dX2_clear_1 : decode cX2_clear 1 = .ok (.getfield 9, 3) := by decide +kernel
theorem dX2_clear_4 : decode cX2_clear 4 = .ok (.iconst 0, 1) := by decide +kernel
theorem dX2_clear_5 : decode cX2_clear 5 = .ok (.invokestatic 21, 3) := by decide +kernel
theorem dX2_clear_8 : decode cX2_clear 8 = .ok (.aload_n 0, 1) := by decide +kernel
theorem dX2_clear_9 : decode cX2_clear 9 = .ok (.getfield 15, 3) := by decide +kernel
theorem dX2_clear_12 : decode cX2_clear 12 = .ok (.iconst 0, 1) := by decide +kernel
theorem dX2_clear_13 : decode cX2_clear 13 = .ok (.invokestatic 21, 3) := by decide +kernel
theorem dX2_clear_16 : decode cX2_clear 16 = .ok (.aload_n 0, 1) := by decide +kernel
theorem dX2_clear_17 : decode cX2_clear 17 = .ok (.getfield 18, 3) := by decide +kernel
theorem dX2_clear_20 : decode cX2_clear 20 = .ok (.iconst 0, 1) := by decide +kernel
theorem dX2_clear_21 : decode cX2_clear 21 = .ok (.invokestatic 21, 3) := by decide +kernel
theorem dX2_clear_24 : decode cX2_clear 24 = .ok (.return_, 1) := by decide +kernel
theorem dX2_copyFrom_0 : decode cX2_copyFrom 0 = .ok (.aload_n 1, 1) := by decide +kernel
theorem dX2_copyFrom_1 : decode cX2_copyFrom 1 = .ok (.getfield 9, 3) := by decide +kernel
theorem dX2_copyFrom_4 : decode cX2_copyFrom 4 = .ok (.aload_n 0, 1) := by decide +kernel
theorem dX2_copyFrom_5 : decode cX2_copyFrom 5 = .ok (.getfield 9, 3) := by decide +kernel
theorem dX2_copyFrom_8 : decode cX2_copyFrom 8 = .ok (.invokestatic 27, 3) := by decide +kernel
theorem dX2_copyFrom_11 : decode cX2_copyFrom 11 = .ok (.aload_n 1, 1) := by decide +kernel
theorem dX2_copyFrom_12 : decode cX2_copyFrom 12 = .ok (.getfield 15, 3) := by decide +kernel
theorem dX2_copyFrom_15 : decode cX2_copyFrom 15 = .ok (.aload_n 0, 1) := by decide +kernel
theorem dX2_copyFrom_16 : decode cX2_copyFrom 16 = .ok (.getfield 15, 3) := by decide +kernel
theorem dX2_copyFrom_19 : decode cX2_copyFrom 19 = .ok (.invokestatic 27, 3) := by decide +kernel
theorem dX2_copyFrom_22 : decode cX2_copyFrom 22 = .ok (.aload_n 1, 1) := by decide +kernel
theorem dX2_copyFrom_23 : decode cX2_copyFrom 23 = .ok (.getfield 18, 3) := by decide +kernel
theorem dX2_copyFrom_26 : decode cX2_copyFrom 26 = .ok (.aload_n 0, 1) := by decide +kernel
theorem dX2_copyFrom_27 : decode cX2_copyFrom 27 = .ok (.getfield 18, 3) := by decide +kernel
theorem dX2_copyFrom_30 : decode cX2_copyFrom 30 = .ok (.invokestatic 27, 3) := by decide +kernel
theorem dX2_copyFrom_33 : decode cX2_copyFrom 33 = .ok (.return_, 1) := by decide +kernel
theorem dX2_copyOne_0 : decode cX2_copyOne 0 = .ok (.aload_n 0, 1) := by decide +kernel
theorem dX2_copyOne_1 : decode cX2_copyOne 1 = .ok (.getfield 9, 3) := by decide +kernel
theorem dX2_copyOne_4 : decode cX2_copyOne 4 = .ok (.iload_n 2, 1) := by decide +kernel
theorem dX2_copyOne_5 : decode cX2_copyOne 5 = .ok (.aload_n 1, 1) := by decide +kernel
theorem dX2_copyOne_6 : decode cX2_copyOne 6 = .ok (.getfield 9, 3) := by decide +kernel
theorem dX2_copyOne_9 : decode cX2_copyOne 9 = .ok (.iload_n 2, 1) := by decide +kernel
theorem dX2_copyOne_10 : decode cX2_copyOne 10 = .ok (.iaload, 1) := by decide +kernel
theorem dX2_copyOne_11 : decode cX2_copyOne 11 = .ok (.iastore, 1) := by decide +kernel
theorem dX2_copyOne_12 : decode cX2_copyOne 12 = .ok (.aload_n 0, 1) := by decide +kernel
theorem dX2_copyOne_13 : decode cX2_copyOne 13 = .ok (.getfield 15, 3) := by decide +kernel
theorem dX2_copyOne_16 : decode cX2_copyOne 16 = .ok (.iload_n 2, 1) := by decide +kernel
theorem dX2_copyOne_17 : decode cX2_copyOne 17 = .ok (.aload_n 1, 1) := by decide +kernel
theorem dX2_copyOne_18 : decode cX2_copyOne 18 = .ok (.getfield 15, 3) := by decide +kernel
theorem dX2_copyOne_21 : decode cX2_copyOne 21 = .ok (.iload_n 2, 1) := by decide +kernel
theorem dX2_copyOne_22 : decode cX2_copyOne 22 = .ok (.iaload, 1) := by decide +kernel
theorem dX2_copyOne_23 : decode cX2_copyOne 23 = .ok (.iastore, 1) := by decide +kernel
theorem dX2_copyOne_24 : decode cX2_copyOne 24 = .ok (.aload_n 1, 1) := by decide +kernel
theorem dX2_copyOne_25 : decode cX2_copyOne 25 = .ok (.getfield 18, 3) := by decide +kernel
theorem dX2_copyOne_28 : decode cX2_copyOne 28 = .ok (.iload_n 2, 1) := by decide +kernel
theorem dX2_copyOne_29 : decode cX2_copyOne 29 = .ok (.iconst 4, 1) := by decide +kernel
theorem dX2_copyOne_30 : decode cX2_copyOne 30 = .ok (.imul, 1) := by decide +kernel
theorem dX2_copyOne_31 : decode cX2_copyOne 31 = .ok (.aload_n 0, 1) := by decide +kernel
theorem dX2_copyOne_32 : decode cX2_copyOne 32 = .ok (.getfield 18, 3) := by decide +kernel
theorem dX2_copyOne_35 : decode cX2_copyOne 35 = .ok (.iload_n 2, 1) := by decide +kernel
theorem dX2_copyOne_36 : decode cX2_copyOne 36 = .ok (.iconst 4, 1) := by decide +kernel
theorem dX2_copyOne_37 : decode cX2_copyOne 37 = .ok (.imul, 1) := by decide +kernel
theorem dX2_copyOne_38 : decode cX2_copyOne 38 = .ok (.iconst 4, 1) := by decide +kernel
theorem dX2_copyOne_39 : decode cX2_copyOne 39 = .ok (.invokestatic 31, 3) := by decide +kernel
theorem dX2_copyOne_42 : decode cX2_copyOne 42 = .ok (.return_, 1) := by decide +kernel
theorem dX3_init_0 : decode cX3_init 0 = .ok (.aload_n 0, 1) := by decide +kernel
theorem dX3_init_1 : decode cX3_init 1 = .ok (.invokespecial 3, 3) := by decide +kernel
theorem dX3_init_4 : decode cX3_init 4 = .ok (.aload_n 0, 1) := by decide +kernel
theorem dX3_init_5 : decode cX3_init 5 = .ok (.bipush 24, 2) := by decide +kernel
theorem dX3_init_7 : decode cX3_init 7 = .ok (.newarray .int, 2) := by decide +kernel
theorem dX3_init_9 : decode cX3_init 9 = .ok (.putfield 9, 3) := by decide +kernel
theorem dX3_init_12 : decode cX3_init 12 = .ok (.aload_n 0, 1) := by decide +kernel
theorem dX3_init_13 : decode cX3_init 13 = .ok (.bipush 24, 2) := by decide +kernel
theorem dX3_init_15 : decode cX3_init 15 = .ok (.newarray .int, 2) := by decide +kernel
theorem dX3_init_17 : decode cX3_init 17 = .ok (.putfield 15, 3) := by decide +kernel
theorem dX3_init_20 : decode cX3_init 20 = .ok (.aload_n 0, 1) := by decide +kernel
theorem dX3_init_21 : decode cX3_init 21 = .ok (.bipush 24, 2) := by decide +kernel
theorem dX3_init_23 : decode cX3_init 23 = .ok (.newarray .int, 2) := by decide +kernel
theorem dX3_init_25 : decode cX3_init 25 = .ok (.putfield 18, 3) := by decide +kernel
theorem dX3_init_28 : decode cX3_init 28 = .ok (.aload_n 0, 1) := by decide +kernel
theorem dX3_init_29 : decode cX3_init 29 = .ok (.iconst 4, 1) := by decide +kernel
theorem dX3_init_30 : decode cX3_init 30 = .ok (.newarray .int, 2) := by decide +kernel
theorem dX3_init_32 : decode cX3_init 32 = .ok (.putfield 21, 3) := by decide +kernel
theorem dX3_init_35 : decode cX3_init 35 = .ok (.return_, 1) := by decide +kernel
theorem dX3_copyFrom_0 : decode cX3_copyFrom 0 = .ok (.aload_n 0, 1) := by decide +kernel
theorem dX3_copyFrom_1 : decode cX3_copyFrom 1 = .ok (.aload_n 1, 1) := by decide +kernel
theorem dX3_copyFrom_2 : decode cX3_copyFrom 2 = .ok (.getfield 24, 3) := by decide +kernel
theorem dX3_copyFrom_5 : decode cX3_copyFrom 5 = .ok (.putfield 24, 3) := by decide +kernel
theorem dX3_copyFrom_8 : decode cX3_copyFrom 8 = .ok (.aload_n 1, 1) := by decide +kernel
theorem dX3_copyFrom_9 : decode cX3_copyFrom 9 = .ok (.getfield 9, 3) := by decide +kernel
theorem dX3_copyFrom_12 : decode cX3_copyFrom 12 = .ok (.iconst 0, 1) := by decide +kernel
theorem dX3_copyFrom_13 : decode cX3_copyFrom 13 = .ok (.aload_n 0, 1) := by decide +kernel
theorem dX3_copyFrom_14 : decode cX3_copyFrom 14 = .ok (.getfield 9, 3) := by decide +kernel
theorem dX3_copyFrom_17 : decode cX3_copyFrom 17 = .ok (.iconst 0, 1) := by decide +kernel
theorem dX3_copyFrom_18 : decode cX3_copyFrom 18 = .ok (.aload_n 0, 1) := by decide +kernel
theorem dX3_copyFrom_19 : decode cX3_copyFrom 19 = .ok (.getfield 24, 3) := by decide +kernel
theorem dX3_copyFrom_22 : decode cX3_copyFrom 22 = .ok (.invokestatic 28, 3) := by decide +kernel
theorem dX3_copyFrom_25 : decode cX3_copyFrom 25 = .ok (.aload_n 1, 1) := by decide +kernel
theorem dX3_copyFrom_26 : decode cX3_copyFrom 26 = .ok (.getfield 15, 3) := by decide +kernel
theorem dX3_copyFrom_29 : decode cX3_copyFrom 29 = .ok (.iconst 0, 1) := by decide +kernel
theorem dX3_copyFrom_30 : decode cX3_copyFrom 30 = .ok (.aload_n 0, 1) := by decide +kernel
theorem dX3_copyFrom_31 : decode cX3_copyFrom 31 = .ok (.getfield 15, 3) := by decide +kernel
theorem dX3_copyFrom_34 : decode cX3_copyFrom 34 = .ok (.iconst 0, 1) := by decide +kernel
theorem dX3_copyFrom_35 : decode cX3_copyFrom 35 = .ok (.aload_n 0, 1) := by decide +kernel
theorem dX3_copyFrom_36 : decode cX3_copyFrom 36 = .ok (.getfield 24, 3) := by decide +kernel
theorem dX3_copyFrom_39 : decode cX3_copyFrom 39 = .ok (.invokestatic 28, 3) := by decide +kernel
theorem dX3_copyFrom_42 : decode cX3_copyFrom 42 = .ok (.aload_n 1, 1) := by decide +kernel
theorem dX3_copyFrom_43 : decode cX3_copyFrom 43 = .ok (.getfield 18, 3) := by decide +kernel
theorem dX3_copyFrom_46 : decode cX3_copyFrom 46 = .ok (.iconst 0, 1) := by decide +kernel
theorem dX3_copyFrom_47 : decode cX3_copyFrom 47 = .ok (.aload_n 0, 1) := by decide +kernel
theorem dX3_copyFrom_48 : decode cX3_copyFrom 48 = .ok (.getfield 18, 3) := by decide +kernel
theorem dX3_copyFrom_51 : decode cX3_copyFrom 51 = .ok (.iconst 0, 1) := by decide +kernel
theorem dX3_copyFrom_52 : decode cX3_copyFrom 52 = .ok (.aload_n 0, 1) := by decide +kernel
theorem dX3_copyFrom_53 : decode cX3_copyFrom 53 = .ok (.getfield 24, 3) := by decide +kernel
theorem dX3_copyFrom_56 : decode cX3_copyFrom 56 = .ok (.invokestatic 28, 3) := by decide +kernel
theorem dX3_copyFrom_59 : decode cX3_copyFrom 59 = .ok (.return_, 1) := by decide +kernel
theorem dX3_add_0 : decode cX3_add 0 = .ok (.aload_n 0, 1) := by decide +kernel
theorem dX3_add_1 : decode cX3_add 1 = .ok (.getfield 24, 3) := by decide +kernel
theorem dX3_add_4 : decode cX3_add 4 = .ok (.bipush 24, 2) := by decide +kernel
theorem dX3_add_6 : decode cX3_add 6 = .ok (.if_icmp .lt 4, 3) := by decide +kernel
theorem dX3_add_9 : decode cX3_add 9 = .ok (.return_, 1) := by decide +kernel
theorem dX3_add_10 : decode cX3_add 10 = .ok (.aload_n 0, 1) := by decide +kernel
theorem dX3_add_11 : decode cX3_add 11 = .ok (.getfield 9, 3) := by decide +kernel
theorem dX3_add_14 : decode cX3_add 14 = .ok (.aload_n 0, 1) := by decide +kernel
theorem dX3_add_15 : decode cX3_add 15 = .ok (.getfield 24, 3) := by decide +kernel
theorem dX3_add_18 : decode cX3_add 18 = .ok (.iload_n 1, 1) := by decide +kernel
theorem dX3_add_19 : decode cX3_add 19 = .ok (.iastore, 1) := by decide +kernel
theorem dX3_add_20 : decode cX3_add 20 = .ok (.aload_n 0, 1) := by decide +kernel
theorem dX3_add_21 : decode cX3_add 21 = .ok (.getfield 15, 3) := by decide +kernel
theorem dX3_add_24 : decode cX3_add 24 = .ok (.aload_n 0, 1) := by decide +kernel
theorem dX3_add_25 : decode cX3_add 25 = .ok (.getfield 24, 3) := by decide +kernel
theorem dX3_add_28 : decode cX3_add 28 = .ok (.iload_n 2, 1) := by decide +kernel
theorem dX3_add_29 : decode cX3_add 29 = .ok (.iastore, 1) := by decide +kernel
theorem dX3_add_30 : decode cX3_add 30 = .ok (.aload_n 0, 1) := by decide +kernel
theorem dX3_add_31 : decode cX3_add 31 = .ok (.getfield 18, 3) := by decide +kernel
theorem dX3_add_34 : decode cX3_add 34 = .ok (.aload_n 0, 1) := by decide +kernel
theorem dX3_add_35 : decode cX3_add 35 = .ok (.getfield 24, 3) := by decide +kernel
theorem dX3_add_38 : decode cX3_add 38 = .ok (.iload_n 3, 1) := by decide +kernel
theorem dX3_add_39 : decode cX3_add 39 = .ok (.iastore, 1) := by decide +kernel
theorem dX3_add_40 : decode cX3_add 40 = .ok (.aload_n 0, 1) := by decide +kernel
theorem dX3_add_41 : decode cX3_add 41 = .ok (.dup, 1) := by decide +kernel
theorem dX3_add_42 : decode cX3_add 42 = .ok (.getfield 24, 3) := by decide +kernel
theorem dX3_add_45 : decode cX3_add 45 = .ok (.iconst 1, 1) := by decide +kernel
theorem dX3_add_46 : decode cX3_add 46 = .ok (.iadd, 1) := by decide +kernel
theorem dX3_add_47 : decode cX3_add 47 = .ok (.putfield 24, 3) := by decide +kernel
theorem dX3_add_50 : decode cX3_add 50 = .ok (.return_, 1) := by decide +kernel
theorem dX3_momentOf_0 : decode cX3_momentOf 0 = .ok (.aload_n 0, 1) := by decide +kernel
theorem dX3_momentOf_1 : decode cX3_momentOf 1 = .ok (.getfield 21, 3) := by decide +kernel
theorem dX3_momentOf_4 : decode cX3_momentOf 4 = .ok (.iconst 0, 1) := by decide +kernel
theorem dX3_momentOf_5 : decode cX3_momentOf 5 = .ok (.invokestatic 34, 3) := by decide +kernel
theorem dX3_momentOf_8 : decode cX3_momentOf 8 = .ok (.iconst 0, 1) := by decide +kernel
theorem dX3_momentOf_9 : decode cX3_momentOf 9 = .ok (.istore_n 3, 1) := by decide +kernel
theorem dX3_momentOf_10 : decode cX3_momentOf 10 = .ok (.iload_n 3, 1) := by decide +kernel
theorem dX3_momentOf_11 : decode cX3_momentOf 11 = .ok (.aload_n 0, 1) := by decide +kernel
theorem dX3_momentOf_12 : decode cX3_momentOf 12 = .ok (.getfield 24, 3) := by decide +kernel
theorem dX3_momentOf_15 : decode cX3_momentOf 15 = .ok (.if_icmp .ge 36, 3) := by decide +kernel
theorem dX3_momentOf_18 : decode cX3_momentOf 18 = .ok (.aload_n 0, 1) := by decide +kernel
theorem dX3_momentOf_19 : decode cX3_momentOf 19 = .ok (.getfield 9, 3) := by decide +kernel
theorem dX3_momentOf_22 : decode cX3_momentOf 22 = .ok (.iload_n 3, 1) := by decide +kernel
theorem dX3_momentOf_23 : decode cX3_momentOf 23 = .ok (.iaload, 1) := by decide +kernel
theorem dX3_momentOf_24 : decode cX3_momentOf 24 = .ok (.iload_n 2, 1) := by decide +kernel
theorem dX3_momentOf_25 : decode cX3_momentOf 25 = .ok (.if_icmp .gt 26, 3) := by decide +kernel
theorem dX3_momentOf_28 : decode cX3_momentOf 28 = .ok (.aload_n 0, 1) := by decide +kernel
theorem dX3_momentOf_29 : decode cX3_momentOf 29 = .ok (.getfield 21, 3) := by decide +kernel
theorem dX3_momentOf_32 : decode cX3_momentOf 32 = .ok (.aload_n 0, 1) := by decide +kernel
theorem dX3_momentOf_33 : decode cX3_momentOf 33 = .ok (.getfield 15, 3) := by decide +kernel
theorem dX3_momentOf_36 : decode cX3_momentOf 36 = .ok (.iload_n 3, 1) := by decide +kernel
theorem dX3_momentOf_37 : decode cX3_momentOf 37 = .ok (.iaload, 1) := by decide +kernel
theorem dX3_momentOf_38 : decode cX3_momentOf 38 = .ok (.aload_n 0, 1) := by decide +kernel
theorem dX3_momentOf_39 : decode cX3_momentOf 39 = .ok (.getfield 18, 3) := by decide +kernel
theorem dX3_momentOf_42 : decode cX3_momentOf 42 = .ok (.iload_n 3, 1) := by decide +kernel
theorem dX3_momentOf_43 : decode cX3_momentOf 43 = .ok (.iaload, 1) := by decide +kernel
theorem dX3_momentOf_44 : decode cX3_momentOf 44 = .ok (.iastore, 1) := by decide +kernel
theorem dX3_momentOf_45 : decode cX3_momentOf 45 = .ok (.iinc 3 1, 3) := by decide +kernel
theorem dX3_momentOf_48 : decode cX3_momentOf 48 = .ok (.goto (-38), 3) := by decide +kernel
theorem dX3_momentOf_51 : decode cX3_momentOf 51 = .ok (.aload_n 0, 1) := by decide +kernel
theorem dX3_momentOf_52 : decode cX3_momentOf 52 = .ok (.aload_n 1, 1) := by decide +kernel
theorem dX3_momentOf_53 : decode cX3_momentOf 53 = .ok (.invokevirtual 40, 3) := by decide +kernel
theorem dX3_momentOf_56 : decode cX3_momentOf 56 = .ok (.ifCond .eq 5, 3) := by decide +kernel
theorem dX3_momentOf_59 : decode cX3_momentOf 59 = .ok (.iload_n 2, 1) := by decide +kernel
theorem dX3_momentOf_60 : decode cX3_momentOf 60 = .ok (.ireturn, 1) := by decide +kernel
theorem dX3_momentOf_61 : decode cX3_momentOf 61 = .ok (.iload_n 3, 1) := by decide +kernel
theorem dX3_momentOf_62 : decode cX3_momentOf 62 = .ok (.aload_n 0, 1) := by decide +kernel
theorem dX3_momentOf_63 : decode cX3_momentOf 63 = .ok (.getfield 24, 3) := by decide +kernel
theorem dX3_momentOf_66 : decode cX3_momentOf 66 = .ok (.if_icmp .ge 41, 3) := by decide +kernel
theorem dX3_momentOf_69 : decode cX3_momentOf 69 = .ok (.aload_n 0, 1) := by decide +kernel
theorem dX3_momentOf_70 : decode cX3_momentOf 70 = .ok (.getfield 21, 3) := by decide +kernel
theorem dX3_momentOf_73 : decode cX3_momentOf 73 = .ok (.aload_n 0, 1) := by decide +kernel
theorem dX3_momentOf_74 : decode cX3_momentOf 74 = .ok (.getfield 15, 3) := by decide +kernel
theorem dX3_momentOf_77 : decode cX3_momentOf 77 = .ok (.iload_n 3, 1) := by decide +kernel
theorem dX3_momentOf_78 : decode cX3_momentOf 78 = .ok (.iaload, 1) := by decide +kernel
theorem dX3_momentOf_79 : decode cX3_momentOf 79 = .ok (.aload_n 0, 1) := by decide +kernel
theorem dX3_momentOf_80 : decode cX3_momentOf 80 = .ok (.getfield 18, 3) := by decide +kernel
theorem dX3_momentOf_83 : decode cX3_momentOf 83 = .ok (.iload_n 3, 1) := by decide +kernel
theorem dX3_momentOf_84 : decode cX3_momentOf 84 = .ok (.iaload, 1) := by decide +kernel
theorem dX3_momentOf_85 : decode cX3_momentOf 85 = .ok (.iastore, 1) := by decide +kernel
theorem dX3_momentOf_86 : decode cX3_momentOf 86 = .ok (.aload_n 0, 1) := by decide +kernel
theorem dX3_momentOf_87 : decode cX3_momentOf 87 = .ok (.aload_n 1, 1) := by decide +kernel
theorem dX3_momentOf_88 : decode cX3_momentOf 88 = .ok (.invokevirtual 40, 3) := by decide +kernel
theorem dX3_momentOf_91 : decode cX3_momentOf 91 = .ok (.ifCond .eq 10, 3) := by decide +kernel
theorem dX3_momentOf_94 : decode cX3_momentOf 94 = .ok (.aload_n 0, 1) := by decide +kernel
theorem dX3_momentOf_95 : decode cX3_momentOf 95 = .ok (.getfield 9, 3) := by decide +kernel
theorem dX3_momentOf_98 : decode cX3_momentOf 98 = .ok (.iload_n 3, 1) := by decide +kernel
theorem dX3_momentOf_99 : decode cX3_momentOf 99 = .ok (.iaload, 1) := by decide +kernel
theorem dX3_momentOf_100 : decode cX3_momentOf 100 = .ok (.ireturn, 1) := by decide +kernel
theorem dX3_momentOf_101 : decode cX3_momentOf 101 = .ok (.iinc 3 1, 3) := by decide +kernel
theorem dX3_momentOf_104 : decode cX3_momentOf 104 = .ok (.goto (-43), 3) := by decide +kernel
theorem dX3_momentOf_107 : decode cX3_momentOf 107 = .ok (.bipush (-9), 2) := by decide +kernel
theorem dX3_momentOf_109 : decode cX3_momentOf 109 = .ok (.ireturn, 1) := by decide +kernel
theorem dX3_wereAs_0 : decode cX3_wereAs 0 = .ok (.iconst 0, 1) := by decide +kernel
theorem dX3_wereAs_1 : decode cX3_wereAs 1 = .ok (.istore_n 2, 1) := by decide +kernel
theorem dX3_wereAs_2 : decode cX3_wereAs 2 = .ok (.iload_n 2, 1) := by decide +kernel
theorem dX3_wereAs_3 : decode cX3_wereAs 3 = .ok (.iconst 4, 1) := by decide +kernel
theorem dX3_wereAs_4 : decode cX3_wereAs 4 = .ok (.if_icmp .ge 23, 3) := by decide +kernel
theorem dX3_wereAs_7 : decode cX3_wereAs 7 = .ok (.aload_n 0, 1) := by decide +kernel
theorem dX3_wereAs_8 : decode cX3_wereAs 8 = .ok (.getfield 21, 3) := by decide +kernel
theorem dX3_wereAs_11 : decode cX3_wereAs 11 = .ok (.iload_n 2, 1) := by decide +kernel
theorem dX3_wereAs_12 : decode cX3_wereAs 12 = .ok (.iaload, 1) := by decide +kernel
theorem dX3_wereAs_13 : decode cX3_wereAs 13 = .ok (.aload_n 1, 1) := by decide +kernel
theorem dX3_wereAs_14 : decode cX3_wereAs 14 = .ok (.iload_n 2, 1) := by decide +kernel
theorem dX3_wereAs_15 : decode cX3_wereAs 15 = .ok (.iaload, 1) := by decide +kernel
theorem dX3_wereAs_16 : decode cX3_wereAs 16 = .ok (.if_icmp .eq 5, 3) := by decide +kernel
theorem dX3_wereAs_19 : decode cX3_wereAs 19 = .ok (.iconst 0, 1) := by decide +kernel
theorem dX3_wereAs_20 : decode cX3_wereAs 20 = .ok (.ireturn, 1) := by decide +kernel
theorem dX3_wereAs_21 : decode cX3_wereAs 21 = .ok (.iinc 2 1, 3) := by decide +kernel
theorem dX3_wereAs_24 : decode cX3_wereAs 24 = .ok (.goto (-22), 3) := by decide +kernel
theorem dX3_wereAs_27 : decode cX3_wereAs 27 = .ok (.iconst 1, 1) := by decide +kernel
theorem dX3_wereAs_28 : decode cX3_wereAs 28 = .ok (.ireturn, 1) := by decide +kernel
theorem dX4_init_0 : decode cX4_init 0 = .ok (.aload_n 0, 1) := by decide +kernel
theorem dX4_init_1 : decode cX4_init 1 = .ok (.invokespecial 3, 3) := by decide +kernel
theorem dX4_init_4 : decode cX4_init 4 = .ok (.aload_n 0, 1) := by decide +kernel
theorem dX4_init_5 : decode cX4_init 5 = .ok (.new 9, 3) := by decide +kernel
theorem dX4_init_8 : decode cX4_init 8 = .ok (.dup, 1) := by decide +kernel
theorem dX4_init_9 : decode cX4_init 9 = .ok (.invokespecial 11, 3) := by decide +kernel
theorem dX4_init_12 : decode cX4_init 12 = .ok (.putfield 12, 3) := by decide +kernel
theorem dX4_init_15 : decode cX4_init 15 = .ok (.aload_n 0, 1) := by decide +kernel
theorem dX4_init_16 : decode cX4_init 16 = .ok (.iconst 4, 1) := by decide +kernel
theorem dX4_init_17 : decode cX4_init 17 = .ok (.anewarray 18, 3) := by decide +kernel
theorem dX4_init_20 : decode cX4_init 20 = .ok (.putfield 20, 3) := by decide +kernel
theorem dX4_init_23 : decode cX4_init 23 = .ok (.aload_n 0, 1) := by decide +kernel
theorem dX4_init_24 : decode cX4_init 24 = .ok (.new 24, 3) := by decide +kernel
theorem dX4_init_27 : decode cX4_init 27 = .ok (.dup, 1) := by decide +kernel
theorem dX4_init_28 : decode cX4_init 28 = .ok (.invokespecial 26, 3) := by decide +kernel
theorem dX4_init_31 : decode cX4_init 31 = .ok (.putfield 27, 3) := by decide +kernel
theorem dX4_init_34 : decode cX4_init 34 = .ok (.aload_n 0, 1) := by decide +kernel
theorem dX4_init_35 : decode cX4_init 35 = .ok (.new 31, 3) := by decide +kernel
theorem dX4_init_38 : decode cX4_init 38 = .ok (.dup, 1) := by decide +kernel
theorem dX4_init_39 : decode cX4_init 39 = .ok (.invokespecial 33, 3) := by decide +kernel
theorem dX4_init_42 : decode cX4_init 42 = .ok (.putfield 34, 3) := by decide +kernel
theorem dX4_init_45 : decode cX4_init 45 = .ok (.iconst 0, 1) := by decide +kernel
theorem dX4_init_46 : decode cX4_init 46 = .ok (.istore_n 1, 1) := by decide +kernel
theorem dX4_init_47 : decode cX4_init 47 = .ok (.iload_n 1, 1) := by decide +kernel
theorem dX4_init_48 : decode cX4_init 48 = .ok (.iconst 4, 1) := by decide +kernel
theorem dX4_init_49 : decode cX4_init 49 = .ok (.if_icmp .ge 22, 3) := by decide +kernel
theorem dX4_init_52 : decode cX4_init 52 = .ok (.aload_n 0, 1) := by decide +kernel
theorem dX4_init_53 : decode cX4_init 53 = .ok (.getfield 20, 3) := by decide +kernel
theorem dX4_init_56 : decode cX4_init 56 = .ok (.iload_n 1, 1) := by decide +kernel
theorem dX4_init_57 : decode cX4_init 57 = .ok (.new 18, 3) := by decide +kernel
theorem dX4_init_60 : decode cX4_init 60 = .ok (.dup, 1) := by decide +kernel
theorem dX4_init_61 : decode cX4_init 61 = .ok (.invokespecial 38, 3) := by decide +kernel
theorem dX4_init_64 : decode cX4_init 64 = .ok (.aastore, 1) := by decide +kernel
theorem dX4_init_65 : decode cX4_init 65 = .ok (.iinc 1 1, 3) := by decide +kernel
theorem dX4_init_68 : decode cX4_init 68 = .ok (.goto (-21), 3) := by decide +kernel
theorem dX4_init_71 : decode cX4_init 71 = .ok (.return_, 1) := by decide +kernel
theorem dX4_restart_0 : decode cX4_restart 0 = .ok (.aload_n 0, 1) := by decide +kernel
theorem dX4_restart_1 : decode cX4_restart 1 = .ok (.iload_n 1, 1) := by decide +kernel
theorem dX4_restart_2 : decode cX4_restart 2 = .ok (.putfield 39, 3) := by decide +kernel
theorem dX4_restart_5 : decode cX4_restart 5 = .ok (.aload_n 0, 1) := by decide +kernel
theorem dX4_restart_6 : decode cX4_restart 6 = .ok (.iload_n 2, 1) := by decide +kernel
theorem dX4_restart_7 : decode cX4_restart 7 = .ok (.putfield 43, 3) := by decide +kernel
theorem dX4_restart_10 : decode cX4_restart 10 = .ok (.aload_n 0, 1) := by decide +kernel
theorem dX4_restart_11 : decode cX4_restart 11 = .ok (.iload_n 3, 1) := by decide +kernel
theorem dX4_restart_12 : decode cX4_restart 12 = .ok (.putfield 46, 3) := by decide +kernel
theorem dX4_restart_15 : decode cX4_restart 15 = .ok (.aload_n 0, 1) := by decide +kernel
theorem dX4_restart_16 : decode cX4_restart 16 = .ok (.iconst 0, 1) := by decide +kernel
theorem dX4_restart_17 : decode cX4_restart 17 = .ok (.putfield 49, 3) := by decide +kernel
theorem dX4_restart_20 : decode cX4_restart 20 = .ok (.aload_n 0, 1) := by decide +kernel
theorem dX4_restart_21 : decode cX4_restart 21 = .ok (.iconst 0, 1) := by decide +kernel
theorem dX4_restart_22 : decode cX4_restart 22 = .ok (.putfield 52, 3) := by decide +kernel
theorem dX4_restart_25 : decode cX4_restart 25 = .ok (.aload_n 0, 1) := by decide +kernel
theorem dX4_restart_26 : decode cX4_restart 26 = .ok (.getfield 12, 3) := by decide +kernel
theorem dX4_restart_29 : decode cX4_restart 29 = .ok (.invokevirtual 55, 3) := by decide +kernel
theorem dX4_restart_32 : decode cX4_restart 32 = .ok (.iconst 0, 1) := by decide +kernel
theorem dX4_restart_33 : decode cX4_restart 33 = .ok (.istore 4, 2) := by decide +kernel
theorem dX4_restart_35 : decode cX4_restart 35 = .ok (.iload 4, 2) := by decide +kernel
theorem dX4_restart_37 : decode cX4_restart 37 = .ok (.iconst 4, 1) := by decide +kernel
theorem dX4_restart_38 : decode cX4_restart 38 = .ok (.if_icmp .ge 23, 3) := by decide +kernel
theorem dX4_restart_41 : decode cX4_restart 41 = .ok (.aload_n 0, 1) := by decide +kernel
theorem dX4_restart_42 : decode cX4_restart 42 = .ok (.getfield 20, 3) := by decide +kernel
theorem dX4_restart_45 : decode cX4_restart 45 = .ok (.iload 4, 2) := by decide +kernel
theorem dX4_restart_47 : decode cX4_restart 47 = .ok (.aaload, 1) := by decide +kernel
theorem dX4_restart_48 : decode cX4_restart 48 = .ok (.iconst 0, 1) := by decide +kernel
theorem dX4_restart_49 : decode cX4_restart 49 = .ok (.bipush (-9), 2) := by decide +kernel
theorem dX4_restart_51 : decode cX4_restart 51 = .ok (.iconst 0, 1) := by decide +kernel
theorem dX4_restart_52 : decode cX4_restart 52 = .ok (.invokevirtual 58, 3) := by decide +kernel
theorem dX4_restart_55 : decode cX4_restart 55 = .ok (.iinc 4 1, 3) := by decide +kernel
theorem dX4_restart_58 : decode cX4_restart 58 = .ok (.goto (-23), 3) := by decide +kernel
theorem dX4_restart_61 : decode cX4_restart 61 = .ok (.aload_n 0, 1) := by decide +kernel
theorem dX4_restart_62 : decode cX4_restart 62 = .ok (.getfield 27, 3) := by decide +kernel
theorem dX4_restart_65 : decode cX4_restart 65 = .ok (.iconst 0, 1) := by decide +kernel
theorem dX4_restart_66 : decode cX4_restart 66 = .ok (.putfield 62, 3) := by decide +kernel
theorem dX4_restart_69 : decode cX4_restart 69 = .ok (.aload_n 0, 1) := by decide +kernel
theorem dX4_restart_70 : decode cX4_restart 70 = .ok (.getfield 34, 3) := by decide +kernel
theorem dX4_restart_73 : decode cX4_restart 73 = .ok (.iconst 0, 1) := by decide +kernel
theorem dX4_restart_74 : decode cX4_restart 74 = .ok (.putfield 65, 3) := by decide +kernel
theorem dX4_restart_77 : decode cX4_restart 77 = .ok (.return_, 1) := by decide +kernel
theorem dX4_copyFrom_0 : decode cX4_copyFrom 0 = .ok (.aload_n 0, 1) := by decide +kernel
theorem dX4_copyFrom_1 : decode cX4_copyFrom 1 = .ok (.aload_n 1, 1) := by decide +kernel
theorem dX4_copyFrom_2 : decode cX4_copyFrom 2 = .ok (.getfield 39, 3) := by decide +kernel
theorem dX4_copyFrom_5 : decode cX4_copyFrom 5 = .ok (.putfield 39, 3) := by decide +kernel
theorem dX4_copyFrom_8 : decode cX4_copyFrom 8 = .ok (.aload_n 0, 1) := by decide +kernel
theorem dX4_copyFrom_9 : decode cX4_copyFrom 9 = .ok (.aload_n 1, 1) := by decide +kernel
theorem dX4_copyFrom_10 : decode cX4_copyFrom 10 = .ok (.getfield 43, 3) := by decide +kernel
theorem dX4_copyFrom_13 : decode cX4_copyFrom 13 = .ok (.putfield 43, 3) := by decide +kernel
theorem dX4_copyFrom_16 : decode cX4_copyFrom 16 = .ok (.aload_n 0, 1) := by decide +kernel
theorem dX4_copyFrom_17 : decode cX4_copyFrom 17 = .ok (.aload_n 1, 1) := by decide +kernel
theorem dX4_copyFrom_18 : decode cX4_copyFrom 18 = .ok (.getfield 46, 3) := by decide +kernel
theorem dX4_copyFrom_21 : decode cX4_copyFrom 21 = .ok (.putfield 46, 3) := by decide +kernel
theorem dX4_copyFrom_24 : decode cX4_copyFrom 24 = .ok (.aload_n 0, 1) := by decide +kernel
theorem dX4_copyFrom_25 : decode cX4_copyFrom 25 = .ok (.aload_n 1, 1) := by decide +kernel
theorem dX4_copyFrom_26 : decode cX4_copyFrom 26 = .ok (.getfield 49, 3) := by decide +kernel
theorem dX4_copyFrom_29 : decode cX4_copyFrom 29 = .ok (.putfield 49, 3) := by decide +kernel
theorem dX4_copyFrom_32 : decode cX4_copyFrom 32 = .ok (.aload_n 0, 1) := by decide +kernel
theorem dX4_copyFrom_33 : decode cX4_copyFrom 33 = .ok (.aload_n 1, 1) := by decide +kernel
theorem dX4_copyFrom_34 : decode cX4_copyFrom 34 = .ok (.getfield 52, 3) := by decide +kernel
theorem dX4_copyFrom_37 : decode cX4_copyFrom 37 = .ok (.putfield 52, 3) := by decide +kernel
theorem dX4_copyFrom_40 : decode cX4_copyFrom 40 = .ok (.aload_n 0, 1) := by decide +kernel
theorem dX4_copyFrom_41 : decode cX4_copyFrom 41 = .ok (.getfield 12, 3) := by decide +kernel
theorem dX4_copyFrom_44 : decode cX4_copyFrom 44 = .ok (.aload_n 1, 1) := by decide +kernel
theorem dX4_copyFrom_45 : decode cX4_copyFrom 45 = .ok (.getfield 12, 3) := by decide +kernel
theorem dX4_copyFrom_48 : decode cX4_copyFrom 48 = .ok (.invokevirtual 66, 3) := by decide +kernel
theorem dX4_copyFrom_51 : decode cX4_copyFrom 51 = .ok (.iconst 0, 1) := by decide +kernel
theorem dX4_copyFrom_52 : decode cX4_copyFrom 52 = .ok (.istore_n 2, 1) := by decide +kernel
theorem dX4_copyFrom_53 : decode cX4_copyFrom 53 = .ok (.iload_n 2, 1) := by decide +kernel
theorem dX4_copyFrom_54 : decode cX4_copyFrom 54 = .ok (.iconst 4, 1) := by decide +kernel
theorem dX4_copyFrom_55 : decode cX4_copyFrom 55 = .ok (.if_icmp .ge 24, 3) := by decide +kernel
theorem dX4_copyFrom_58 : decode cX4_copyFrom 58 = .ok (.aload_n 0, 1) := by decide +kernel
theorem dX4_copyFrom_59 : decode cX4_copyFrom 59 = .ok (.getfield 20, 3) := by decide +kernel
theorem dX4_copyFrom_62 : decode cX4_copyFrom 62 = .ok (.iload_n 2, 1) := by decide +kernel
theorem dX4_copyFrom_63 : decode cX4_copyFrom 63 = .ok (.aaload, 1) := by decide +kernel
theorem dX4_copyFrom_64 : decode cX4_copyFrom 64 = .ok (.aload_n 1, 1) := by decide +kernel
theorem dX4_copyFrom_65 : decode cX4_copyFrom 65 = .ok (.getfield 20, 3) := by decide +kernel
theorem dX4_copyFrom_68 : decode cX4_copyFrom 68 = .ok (.iload_n 2, 1) := by decide +kernel
theorem dX4_copyFrom_69 : decode cX4_copyFrom 69 = .ok (.aaload, 1) := by decide +kernel
theorem dX4_copyFrom_70 : decode cX4_copyFrom 70 = .ok (.invokevirtual 70, 3) := by decide +kernel
theorem dX4_copyFrom_73 : decode cX4_copyFrom 73 = .ok (.iinc 2 1, 3) := by decide +kernel
theorem dX4_copyFrom_76 : decode cX4_copyFrom 76 = .ok (.goto (-23), 3) := by decide +kernel
theorem dX4_copyFrom_79 : decode cX4_copyFrom 79 = .ok (.aload_n 0, 1) := by decide +kernel
theorem dX4_copyFrom_80 : decode cX4_copyFrom 80 = .ok (.getfield 27, 3) := by decide +kernel
theorem dX4_copyFrom_83 : decode cX4_copyFrom 83 = .ok (.aload_n 1, 1) := by decide +kernel
theorem dX4_copyFrom_84 : decode cX4_copyFrom 84 = .ok (.getfield 27, 3) := by decide +kernel
theorem dX4_copyFrom_87 : decode cX4_copyFrom 87 = .ok (.invokevirtual 73, 3) := by decide +kernel
theorem dX4_copyFrom_90 : decode cX4_copyFrom 90 = .ok (.aload_n 0, 1) := by decide +kernel
theorem dX4_copyFrom_91 : decode cX4_copyFrom 91 = .ok (.getfield 34, 3) := by decide +kernel
theorem dX4_copyFrom_94 : decode cX4_copyFrom 94 = .ok (.aload_n 1, 1) := by decide +kernel
theorem dX4_copyFrom_95 : decode cX4_copyFrom 95 = .ok (.getfield 34, 3) := by decide +kernel
theorem dX4_copyFrom_98 : decode cX4_copyFrom 98 = .ok (.invokevirtual 76, 3) := by decide +kernel
theorem dX4_copyFrom_101 : decode cX4_copyFrom 101 = .ok (.return_, 1) := by decide +kernel
theorem dX4_has_0 : decode cX4_has 0 = .ok (.iload_n 1, 1) := by decide +kernel
theorem dX4_has_1 : decode cX4_has 1 = .ok (.ifCond .lt 15, 3) := by decide +kernel
theorem dX4_has_4 : decode cX4_has 4 = .ok (.iload_n 1, 1) := by decide +kernel
theorem dX4_has_5 : decode cX4_has 5 = .ok (.aload_n 0, 1) := by decide +kernel
theorem dX4_has_6 : decode cX4_has 6 = .ok (.getfield 39, 3) := by decide +kernel
theorem dX4_has_9 : decode cX4_has 9 = .ok (.if_icmp .ge 7, 3) := by decide +kernel
theorem dX4_has_12 : decode cX4_has 12 = .ok (.iconst 1, 1) := by decide +kernel
theorem dX4_has_13 : decode cX4_has 13 = .ok (.goto 4, 3) := by decide +kernel
theorem dX4_has_16 : decode cX4_has 16 = .ok (.iconst 0, 1) := by decide +kernel
theorem dX4_has_17 : decode cX4_has 17 = .ok (.ireturn, 1) := by decide +kernel
theorem dX4_isIdle_0 : decode cX4_isIdle 0 = .ok (.aload_n 0, 1) := by decide +kernel
theorem dX4_isIdle_1 : decode cX4_isIdle 1 = .ok (.getfield 20, 3) := by decide +kernel
theorem dX4_isIdle_4 : decode cX4_isIdle 4 = .ok (.iload_n 1, 1) := by decide +kernel
theorem dX4_isIdle_5 : decode cX4_isIdle 5 = .ok (.aaload, 1) := by decide +kernel
theorem dX4_isIdle_6 : decode cX4_isIdle 6 = .ok (.getfield 79, 3) := by decide +kernel
theorem dX4_isIdle_9 : decode cX4_isIdle 9 = .ok (.ifCond .ne 7, 3) := by decide +kernel
theorem dX4_isIdle_12 : decode cX4_isIdle 12 = .ok (.iconst 1, 1) := by decide +kernel
theorem dX4_isIdle_13 : decode cX4_isIdle 13 = .ok (.goto 4, 3) := by decide +kernel
theorem dX4_isIdle_16 : decode cX4_isIdle 16 = .ok (.iconst 0, 1) := by decide +kernel
theorem dX4_isIdle_17 : decode cX4_isIdle 17 = .ok (.ireturn, 1) := by decide +kernel
theorem dX4_allIdle_0 : decode cX4_allIdle 0 = .ok (.iconst 0, 1) := by decide +kernel
theorem dX4_allIdle_1 : decode cX4_allIdle 1 = .ok (.istore_n 1, 1) := by decide +kernel
theorem dX4_allIdle_2 : decode cX4_allIdle 2 = .ok (.iload_n 1, 1) := by decide +kernel
theorem dX4_allIdle_3 : decode cX4_allIdle 3 = .ok (.aload_n 0, 1) := by decide +kernel
theorem dX4_allIdle_4 : decode cX4_allIdle 4 = .ok (.getfield 39, 3) := by decide +kernel
theorem dX4_allIdle_7 : decode cX4_allIdle 7 = .ok (.if_icmp .ge 19, 3) := by decide +kernel
theorem dX4_allIdle_10 : decode cX4_allIdle 10 = .ok (.aload_n 0, 1) := by decide +kernel
theorem dX4_allIdle_11 : decode cX4_allIdle 11 = .ok (.iload_n 1, 1) := by decide +kernel
theorem dX4_allIdle_12 : decode cX4_allIdle 12 = .ok (.invokevirtual 82, 3) := by decide +kernel
theorem dX4_allIdle_15 : decode cX4_allIdle 15 = .ok (.ifCond .ne 5, 3) := by decide +kernel
theorem dX4_allIdle_18 : decode cX4_allIdle 18 = .ok (.iconst 0, 1) := by decide +kernel
theorem dX4_allIdle_19 : decode cX4_allIdle 19 = .ok (.ireturn, 1) := by decide +kernel
theorem dX4_allIdle_20 : decode cX4_allIdle 20 = .ok (.iinc 1 1, 3) := by decide +kernel
theorem dX4_allIdle_23 : decode cX4_allIdle 23 = .ok (.goto (-21), 3) := by decide +kernel
theorem dX4_allIdle_26 : decode cX4_allIdle 26 = .ok (.iconst 1, 1) := by decide +kernel
theorem dX4_allIdle_27 : decode cX4_allIdle 27 = .ok (.ireturn, 1) := by decide +kernel
theorem dX4_idleBits_0 : decode cX4_idleBits 0 = .ok (.iconst 0, 1) := by decide +kernel
theorem dX4_idleBits_1 : decode cX4_idleBits 1 = .ok (.istore_n 1, 1) := by decide +kernel
theorem dX4_idleBits_2 : decode cX4_idleBits 2 = .ok (.iconst 0, 1) := by decide +kernel
theorem dX4_idleBits_3 : decode cX4_idleBits 3 = .ok (.istore_n 2, 1) := by decide +kernel
theorem dX4_idleBits_4 : decode cX4_idleBits 4 = .ok (.iload_n 2, 1) := by decide +kernel
theorem dX4_idleBits_5 : decode cX4_idleBits 5 = .ok (.aload_n 0, 1) := by decide +kernel
theorem dX4_idleBits_6 : decode cX4_idleBits 6 = .ok (.getfield 39, 3) := by decide +kernel
theorem dX4_idleBits_9 : decode cX4_idleBits 9 = .ok (.if_icmp .ge 23, 3) := by decide +kernel
theorem dX4_idleBits_12 : decode cX4_idleBits 12 = .ok (.aload_n 0, 1) := by decide +kernel
theorem dX4_idleBits_13 : decode cX4_idleBits 13 = .ok (.iload_n 2, 1) := by decide +kernel
theorem dX4_idleBits_14 : decode cX4_idleBits 14 = .ok (.invokevirtual 82, 3) := by decide +kernel
theorem dX4_idleBits_17 : decode cX4_idleBits 17 = .ok (.ifCond .eq 9, 3) := by decide +kernel
theorem dX4_idleBits_20 : decode cX4_idleBits 20 = .ok (.iload_n 1, 1) := by decide +kernel
theorem dX4_idleBits_21 : decode cX4_idleBits 21 = .ok (.iconst 1, 1) := by decide +kernel
theorem dX4_idleBits_22 : decode cX4_idleBits 22 = .ok (.iload_n 2, 1) := by decide +kernel
theorem dX4_idleBits_23 : decode cX4_idleBits 23 = .ok (.ishl, 1) := by decide +kernel
theorem dX4_idleBits_24 : decode cX4_idleBits 24 = .ok (.ior, 1) := by decide +kernel
theorem dX4_idleBits_25 : decode cX4_idleBits 25 = .ok (.istore_n 1, 1) := by decide +kernel
theorem dX4_idleBits_26 : decode cX4_idleBits 26 = .ok (.iinc 2 1, 3) := by decide +kernel
theorem dX4_idleBits_29 : decode cX4_idleBits 29 = .ok (.goto (-25), 3) := by decide +kernel
theorem dX4_idleBits_32 : decode cX4_idleBits 32 = .ok (.iload_n 1, 1) := by decide +kernel
theorem dX4_idleBits_33 : decode cX4_idleBits 33 = .ok (.ireturn, 1) := by decide +kernel
theorem dX4_beginAct_0 : decode cX4_beginAct 0 = .ok (.aload_n 0, 1) := by decide +kernel
theorem dX4_beginAct_1 : decode cX4_beginAct 1 = .ok (.getfield 20, 3) := by decide +kernel
theorem dX4_beginAct_4 : decode cX4_beginAct 4 = .ok (.iload_n 1, 1) := by decide +kernel
theorem dX4_beginAct_5 : decode cX4_beginAct 5 = .ok (.aaload, 1) := by decide +kernel
theorem dX4_beginAct_6 : decode cX4_beginAct 6 = .ok (.iload_n 2, 1) := by decide +kernel
theorem dX4_beginAct_7 : decode cX4_beginAct 7 = .ok (.iload_n 3, 1) := by decide +kernel
theorem dX4_beginAct_8 : decode cX4_beginAct 8 = .ok (.aload_n 0, 1) := by decide +kernel
theorem dX4_beginAct_9 : decode cX4_beginAct 9 = .ok (.getfield 49, 3) := by decide +kernel
theorem dX4_beginAct_12 : decode cX4_beginAct 12 = .ok (.invokevirtual 58, 3) := by decide +kernel
theorem dX4_beginAct_15 : decode cX4_beginAct 15 = .ok (.aload_n 0, 1) := by decide +kernel
theorem dX4_beginAct_16 : decode cX4_beginAct 16 = .ok (.dup, 1) := by decide +kernel
theorem dX4_beginAct_17 : decode cX4_beginAct 17 = .ok (.getfield 52, 3) := by decide +kernel
theorem dX4_beginAct_20 : decode cX4_beginAct 20 = .ok (.iconst 1, 1) := by decide +kernel
theorem dX4_beginAct_21 : decode cX4_beginAct 21 = .ok (.iadd, 1) := by decide +kernel
theorem dX4_beginAct_22 : decode cX4_beginAct 22 = .ok (.putfield 52, 3) := by decide +kernel
theorem dX4_beginAct_25 : decode cX4_beginAct 25 = .ok (.return_, 1) := by decide +kernel
theorem dX4_stepUpTo_0 : decode cX4_stepUpTo 0 = .ok (.iconst 0, 1) := by decide +kernel
theorem dX4_stepUpTo_1 : decode cX4_stepUpTo 1 = .ok (.istore_n 3, 1) := by decide +kernel
theorem dX4_stepUpTo_2 : decode cX4_stepUpTo 2 = .ok (.iload_n 3, 1) := by decide +kernel
theorem dX4_stepUpTo_3 : decode cX4_stepUpTo 3 = .ok (.iload_n 2, 1) := by decide +kernel
theorem dX4_stepUpTo_4 : decode cX4_stepUpTo 4 = .ok (.if_icmp .ge 22, 3) := by decide +kernel
theorem dX4_stepUpTo_7 : decode cX4_stepUpTo 7 = .ok (.aload_n 0, 1) := by decide +kernel
theorem dX4_stepUpTo_8 : decode cX4_stepUpTo 8 = .ok (.iload_n 1, 1) := by decide +kernel
theorem dX4_stepUpTo_9 : decode cX4_stepUpTo 9 = .ok (.invokevirtual 82, 3) := by decide +kernel
theorem dX4_stepUpTo_12 : decode cX4_stepUpTo 12 = .ok (.ifCond .ne 14, 3) := by decide +kernel
theorem dX4_stepUpTo_15 : decode cX4_stepUpTo 15 = .ok (.aload_n 0, 1) := by decide +kernel
theorem dX4_stepUpTo_16 : decode cX4_stepUpTo 16 = .ok (.iload_n 1, 1) := by decide +kernel
theorem dX4_stepUpTo_17 : decode cX4_stepUpTo 17 = .ok (.invokevirtual 86, 3) := by decide +kernel
theorem dX4_stepUpTo_20 : decode cX4_stepUpTo 20 = .ok (.iinc 3 1, 3) := by decide +kernel
theorem dX4_stepUpTo_23 : decode cX4_stepUpTo 23 = .ok (.goto (-21), 3) := by decide +kernel
theorem dX4_stepUpTo_26 : decode cX4_stepUpTo 26 = .ok (.iload_n 3, 1) := by decide +kernel
theorem dX4_stepUpTo_27 : decode cX4_stepUpTo 27 = .ok (.ireturn, 1) := by decide +kernel
theorem dX4_stepOnce_0 : decode cX4_stepOnce 0 = .ok (.aload_n 0, 1) := by decide +kernel
theorem dX4_stepOnce_1 : decode cX4_stepOnce 1 = .ok (.getfield 20, 3) := by decide +kernel
theorem dX4_stepOnce_4 : decode cX4_stepOnce 4 = .ok (.iload_n 1, 1) := by decide +kernel
theorem dX4_stepOnce_5 : decode cX4_stepOnce 5 = .ok (.aaload, 1) := by decide +kernel
theorem dX4_stepOnce_6 : decode cX4_stepOnce 6 = .ok (.astore_n 2, 1) := by decide +kernel
theorem dX4_stepOnce_7 : decode cX4_stepOnce 7 = .ok (.aload_n 0, 1) := by decide +kernel
theorem dX4_stepOnce_8 : decode cX4_stepOnce 8 = .ok (.dup, 1) := by decide +kernel
theorem dX4_stepOnce_9 : decode cX4_stepOnce 9 = .ok (.getfield 49, 3) := by decide +kernel
theorem dX4_stepOnce_12 : decode cX4_stepOnce 12 = .ok (.iconst 1, 1) := by decide +kernel
theorem dX4_stepOnce_13 : decode cX4_stepOnce 13 = .ok (.iadd, 1) := by decide +kernel
theorem dX4_stepOnce_14 : decode cX4_stepOnce 14 = .ok (.putfield 49, 3) := by decide +kernel
theorem dX4_stepOnce_17 : decode cX4_stepOnce 17 = .ok (.aload_n 2, 1) := by decide +kernel
theorem dX4_stepOnce_18 : decode cX4_stepOnce 18 = .ok (.dup, 1) := by decide +kernel
theorem dX4_stepOnce_19 : decode cX4_stepOnce 19 = .ok (.getfield 90, 3) := by decide +kernel
theorem dX4_stepOnce_22 : decode cX4_stepOnce 22 = .ok (.iconst 1, 1) := by decide +kernel
theorem dX4_stepOnce_23 : decode cX4_stepOnce 23 = .ok (.iadd, 1) := by decide +kernel
theorem dX4_stepOnce_24 : decode cX4_stepOnce 24 = .ok (.putfield 90, 3) := by decide +kernel
theorem dX4_stepOnce_27 : decode cX4_stepOnce 27 = .ok (.aload_n 2, 1) := by decide +kernel
theorem dX4_stepOnce_28 : decode cX4_stepOnce 28 = .ok (.getfield 93, 3) := by decide +kernel
theorem dX4_stepOnce_31 : decode cX4_stepOnce 31 = .ok (.ifCond .eq 18, 3) := by decide +kernel
theorem dX4_stepOnce_34 : decode cX4_stepOnce 34 = .ok (.aload_n 0, 1) := by decide +kernel
theorem dX4_stepOnce_35 : decode cX4_stepOnce 35 = .ok (.iload_n 1, 1) := by decide +kernel
theorem dX4_stepOnce_36 : decode cX4_stepOnce 36 = .ok (.aload_n 2, 1) := by decide +kernel
theorem dX4_stepOnce_37 : decode cX4_stepOnce 37 = .ok (.invokevirtual 97, 3) := by decide +kernel
theorem dX4_stepOnce_40 : decode cX4_stepOnce 40 = .ok (.aload_n 2, 1) := by decide +kernel
theorem dX4_stepOnce_41 : decode cX4_stepOnce 41 = .ok (.iconst 0, 1) := by decide +kernel
theorem dX4_stepOnce_42 : decode cX4_stepOnce 42 = .ok (.bipush (-9), 2) := by decide +kernel
theorem dX4_stepOnce_44 : decode cX4_stepOnce 44 = .ok (.iconst 0, 1) := by decide +kernel
theorem dX4_stepOnce_45 : decode cX4_stepOnce 45 = .ok (.invokevirtual 58, 3) := by decide +kernel
theorem dX4_stepOnce_48 : decode cX4_stepOnce 48 = .ok (.return_, 1) := by decide +kernel
theorem dX4_stepOnce_49 : decode cX4_stepOnce 49 = .ok (.aload_n 2, 1) := by decide +kernel
theorem dX4_stepOnce_50 : decode cX4_stepOnce 50 = .ok (.aload_n 0, 1) := by decide +kernel
theorem dX4_stepOnce_51 : decode cX4_stepOnce 51 = .ok (.getfield 12, 3) := by decide +kernel
theorem dX4_stepOnce_54 : decode cX4_stepOnce 54 = .ok (.invokevirtual 101, 3) := by decide +kernel
theorem dX4_stepOnce_57 : decode cX4_stepOnce 57 = .ok (.aload_n 2, 1) := by decide +kernel
theorem dX4_stepOnce_58 : decode cX4_stepOnce 58 = .ok (.getfield 104, 3) := by decide +kernel
theorem dX4_stepOnce_61 : decode cX4_stepOnce 61 = .ok (.aload_n 0, 1) := by decide +kernel
theorem dX4_stepOnce_62 : decode cX4_stepOnce 62 = .ok (.getfield 39, 3) := by decide +kernel
theorem dX4_stepOnce_65 : decode cX4_stepOnce 65 = .ok (.if_icmp .ge 4, 3) := by decide +kernel
theorem dX4_stepOnce_68 : decode cX4_stepOnce 68 = .ok (.return_, 1) := by decide +kernel
theorem dX4_stepOnce_69 : decode cX4_stepOnce 69 = .ok (.aload_n 2, 1) := by decide +kernel
theorem dX4_stepOnce_70 : decode cX4_stepOnce 70 = .ok (.aload_n 0, 1) := by decide +kernel
theorem dX4_stepOnce_71 : decode cX4_stepOnce 71 = .ok (.getfield 39, 3) := by decide +kernel
theorem dX4_stepOnce_74 : decode cX4_stepOnce 74 = .ok (.aload_n 0, 1) := by decide +kernel
theorem dX4_stepOnce_75 : decode cX4_stepOnce 75 = .ok (.getfield 43, 3) := by decide +kernel
theorem dX4_stepOnce_78 : decode cX4_stepOnce 78 = .ok (.invokevirtual 107, 3) := by decide +kernel
theorem dX4_stepOnce_81 : decode cX4_stepOnce 81 = .ok (.aload_n 2, 1) := by decide +kernel
theorem dX4_stepOnce_82 : decode cX4_stepOnce 82 = .ok (.getfield 93, 3) := by decide +kernel
theorem dX4_stepOnce_85 : decode cX4_stepOnce 85 = .ok (.ifCond .eq 31, 3) := by decide +kernel
theorem dX4_stepOnce_88 : decode cX4_stepOnce 88 = .ok (.aload_n 0, 1) := by decide +kernel
theorem dX4_stepOnce_89 : decode cX4_stepOnce 89 = .ok (.getfield 27, 3) := by decide +kernel
theorem dX4_stepOnce_92 : decode cX4_stepOnce 92 = .ok (.iload_n 1, 1) := by decide +kernel
theorem dX4_stepOnce_93 : decode cX4_stepOnce 93 = .ok (.aload_n 2, 1) := by decide +kernel
theorem dX4_stepOnce_94 : decode cX4_stepOnce 94 = .ok (.aload_n 0, 1) := by decide +kernel
theorem dX4_stepOnce_95 : decode cX4_stepOnce 95 = .ok (.getfield 49, 3) := by decide +kernel
theorem dX4_stepOnce_98 : decode cX4_stepOnce 98 = .ok (.aload_n 0, 1) := by decide +kernel
theorem dX4_stepOnce_99 : decode cX4_stepOnce 99 = .ok (.getfield 34, 3) := by decide +kernel
theorem dX4_stepOnce_102 : decode cX4_stepOnce 102 = .ok (.aload_n 2, 1) := by decide +kernel
theorem dX4_stepOnce_103 : decode cX4_stepOnce 103 = .ok (.getfield 111, 3) := by decide +kernel
theorem dX4_stepOnce_106 : decode cX4_stepOnce 106 = .ok (.aload_n 2, 1) := by decide +kernel
theorem dX4_stepOnce_107 : decode cX4_stepOnce 107 = .ok (.getfield 115, 3) := by decide +kernel
theorem dX4_stepOnce_110 : decode cX4_stepOnce 110 = .ok (.invokevirtual 118, 3) := by decide +kernel
theorem dX4_stepOnce_113 : decode cX4_stepOnce 113 = .ok (.invokevirtual 122, 3) := by decide +kernel
theorem dX4_stepOnce_116 : decode cX4_stepOnce 116 = .ok (.aload_n 2, 1) := by decide +kernel
theorem dX4_stepOnce_117 : decode cX4_stepOnce 117 = .ok (.getfield 93, 3) := by decide +kernel
theorem dX4_stepOnce_120 : decode cX4_stepOnce 120 = .ok (.ifCond .eq 19, 3) := by decide +kernel
theorem dX4_stepOnce_123 : decode cX4_stepOnce 123 = .ok (.aload_n 2, 1) := by decide +kernel
theorem dX4_stepOnce_124 : decode cX4_stepOnce 124 = .ok (.getfield 79, 3) := by decide +kernel
theorem dX4_stepOnce_127 : decode cX4_stepOnce 127 = .ok (.iconst 1, 1) := by decide +kernel
theorem dX4_stepOnce_128 : decode cX4_stepOnce 128 = .ok (.if_icmp .ne 11, 3) := by decide +kernel
theorem dX4_stepOnce_131 : decode cX4_stepOnce 131 = .ok (.aload_n 2, 1) := by decide +kernel
theorem dX4_stepOnce_132 : decode cX4_stepOnce 132 = .ok (.iconst 0, 1) := by decide +kernel
theorem dX4_stepOnce_133 : decode cX4_stepOnce 133 = .ok (.bipush (-9), 2) := by decide +kernel
theorem dX4_stepOnce_135 : decode cX4_stepOnce 135 = .ok (.iconst 0, 1) := by decide +kernel
theorem dX4_stepOnce_136 : decode cX4_stepOnce 136 = .ok (.invokevirtual 58, 3) := by decide +kernel
theorem dX4_stepOnce_139 : decode cX4_stepOnce 139 = .ok (.return_, 1) := by decide +kernel
theorem dX4_writeOut_0 : decode cX4_writeOut 0 = .ok (.aload_n 0, 1) := by decide +kernel
theorem dX4_writeOut_1 : decode cX4_writeOut 1 = .ok (.getfield 12, 3) := by decide +kernel
theorem dX4_writeOut_4 : decode cX4_writeOut 4 = .ok (.getfield 126, 3) := by decide +kernel
theorem dX4_writeOut_7 : decode cX4_writeOut 7 = .ok (.iload_n 1, 1) := by decide +kernel
theorem dX4_writeOut_8 : decode cX4_writeOut 8 = .ok (.aload_n 2, 1) := by decide +kernel
theorem dX4_writeOut_9 : decode cX4_writeOut 9 = .ok (.getfield 129, 3) := by decide +kernel
theorem dX4_writeOut_12 : decode cX4_writeOut 12 = .ok (.iastore, 1) := by decide +kernel
theorem dX4_writeOut_13 : decode cX4_writeOut 13 = .ok (.aload_n 0, 1) := by decide +kernel
theorem dX4_writeOut_14 : decode cX4_writeOut 14 = .ok (.getfield 12, 3) := by decide +kernel
theorem dX4_writeOut_17 : decode cX4_writeOut 17 = .ok (.getfield 132, 3) := by decide +kernel
theorem dX4_writeOut_20 : decode cX4_writeOut 20 = .ok (.iload_n 1, 1) := by decide +kernel
theorem dX4_writeOut_21 : decode cX4_writeOut 21 = .ok (.aload_n 0, 1) := by decide +kernel
theorem dX4_writeOut_22 : decode cX4_writeOut 22 = .ok (.aload_n 0, 1) := by decide +kernel
theorem dX4_writeOut_23 : decode cX4_writeOut 23 = .ok (.getfield 12, 3) := by decide +kernel
theorem dX4_writeOut_26 : decode cX4_writeOut 26 = .ok (.getfield 132, 3) := by decide +kernel
theorem dX4_writeOut_29 : decode cX4_writeOut 29 = .ok (.iload_n 1, 1) := by decide +kernel
theorem dX4_writeOut_30 : decode cX4_writeOut 30 = .ok (.iaload, 1) := by decide +kernel
theorem dX4_writeOut_31 : decode cX4_writeOut 31 = .ok (.invokevirtual 135, 3) := by decide +kernel
theorem dX4_writeOut_34 : decode cX4_writeOut 34 = .ok (.iastore, 1) := by decide +kernel
theorem dX4_writeOut_35 : decode cX4_writeOut 35 = .ok (.aload_n 2, 1) := by decide +kernel
theorem dX4_writeOut_36 : decode cX4_writeOut 36 = .ok (.getfield 111, 3) := by decide +kernel
theorem dX4_writeOut_39 : decode cX4_writeOut 39 = .ok (.iconst 0, 1) := by decide +kernel
theorem dX4_writeOut_40 : decode cX4_writeOut 40 = .ok (.aload_n 0, 1) := by decide +kernel
theorem dX4_writeOut_41 : decode cX4_writeOut 41 = .ok (.getfield 12, 3) := by decide +kernel
theorem dX4_writeOut_44 : decode cX4_writeOut 44 = .ok (.getfield 139, 3) := by decide +kernel
theorem dX4_writeOut_47 : decode cX4_writeOut 47 = .ok (.iload_n 1, 1) := by decide +kernel
theorem dX4_writeOut_48 : decode cX4_writeOut 48 = .ok (.iconst 4, 1) := by decide +kernel
theorem dX4_writeOut_49 : decode cX4_writeOut 49 = .ok (.imul, 1) := by decide +kernel
theorem dX4_writeOut_50 : decode cX4_writeOut 50 = .ok (.iconst 4, 1) := by decide +kernel
theorem dX4_writeOut_51 : decode cX4_writeOut 51 = .ok (.invokestatic 142, 3) := by decide +kernel
theorem dX4_writeOut_54 : decode cX4_writeOut 54 = .ok (.aload_n 0, 1) := by decide +kernel
theorem dX4_writeOut_55 : decode cX4_writeOut 55 = .ok (.getfield 34, 3) := by decide +kernel
theorem dX4_writeOut_58 : decode cX4_writeOut 58 = .ok (.aload_n 0, 1) := by decide +kernel
theorem dX4_writeOut_59 : decode cX4_writeOut 59 = .ok (.getfield 49, 3) := by decide +kernel
theorem dX4_writeOut_62 : decode cX4_writeOut 62 = .ok (.iload_n 1, 1) := by decide +kernel
theorem dX4_writeOut_63 : decode cX4_writeOut 63 = .ok (.aload_n 2, 1) := by decide +kernel
theorem dX4_writeOut_64 : decode cX4_writeOut 64 = .ok (.getfield 129, 3) := by decide +kernel
theorem dX4_writeOut_67 : decode cX4_writeOut 67 = .ok (.invokevirtual 148, 3) := by decide +kernel
theorem dX4_writeOut_70 : decode cX4_writeOut 70 = .ok (.return_, 1) := by decide +kernel
theorem dX4_versionBehind_0 : decode cX4_versionBehind 0 = .ok (.aload_n 0, 1) := by decide +kernel
theorem dX4_versionBehind_1 : decode cX4_versionBehind 1 = .ok (.getfield 46, 3) := by decide +kernel
theorem dX4_versionBehind_4 : decode cX4_versionBehind 4 = .ok (.ifCond .ne 9, 3) := by decide +kernel
theorem dX4_versionBehind_7 : decode cX4_versionBehind 7 = .ok (.iload_n 1, 1) := by decide +kernel
theorem dX4_versionBehind_8 : decode cX4_versionBehind 8 = .ok (.iconst 1, 1) := by decide +kernel
theorem dX4_versionBehind_9 : decode cX4_versionBehind 9 = .ok (.iadd, 1) := by decide +kernel
theorem dX4_versionBehind_10 : decode cX4_versionBehind 10 = .ok (.goto 11, 3) := by decide +kernel
theorem dX4_versionBehind_13 : decode cX4_versionBehind 13 = .ok (.iload_n 1, 1) := by decide +kernel
theorem dX4_versionBehind_14 : decode cX4_versionBehind 14 = .ok (.iconst 1, 1) := by decide +kernel
theorem dX4_versionBehind_15 : decode cX4_versionBehind 15 = .ok (.iadd, 1) := by decide +kernel
theorem dX4_versionBehind_16 : decode cX4_versionBehind 16 = .ok (.aload_n 0, 1) := by decide +kernel
theorem dX4_versionBehind_17 : decode cX4_versionBehind 17 = .ok (.getfield 46, 3) := by decide +kernel
theorem dX4_versionBehind_20 : decode cX4_versionBehind 20 = .ok (.irem, 1) := by decide +kernel
theorem dX4_versionBehind_21 : decode cX4_versionBehind 21 = .ok (.ireturn, 1) := by decide +kernel
theorem dX5_init_0 : decode cX5_init 0 = .ok (.aload_n 0, 1) := by decide +kernel
theorem dX5_init_1 : decode cX5_init 1 = .ok (.invokespecial 1, 3) := by decide +kernel
theorem dX5_init_4 : decode cX5_init 4 = .ok (.aload_n 0, 1) := by decide +kernel
theorem dX5_init_5 : decode cX5_init 5 = .ok (.new 7, 3) := by decide +kernel
theorem dX5_init_8 : decode cX5_init 8 = .ok (.dup, 1) := by decide +kernel
theorem dX5_init_9 : decode cX5_init 9 = .ok (.invokespecial 9, 3) := by decide +kernel
theorem dX5_init_12 : decode cX5_init 12 = .ok (.putfield 10, 3) := by decide +kernel
theorem dX5_init_15 : decode cX5_init 15 = .ok (.aload_n 0, 1) := by decide +kernel
theorem dX5_init_16 : decode cX5_init 16 = .ok (.new 7, 3) := by decide +kernel
theorem dX5_init_19 : decode cX5_init 19 = .ok (.dup, 1) := by decide +kernel
theorem dX5_init_20 : decode cX5_init 20 = .ok (.invokespecial 9, 3) := by decide +kernel
theorem dX5_init_23 : decode cX5_init 23 = .ok (.putfield 16, 3) := by decide +kernel
theorem dX5_init_26 : decode cX5_init 26 = .ok (.aload_n 0, 1) := by decide +kernel
theorem dX5_init_27 : decode cX5_init 27 = .ok (.iconst 5, 1) := by decide +kernel
theorem dX5_init_28 : decode cX5_init 28 = .ok (.anewarray 7, 3) := by decide +kernel
theorem dX5_init_31 : decode cX5_init 31 = .ok (.putfield 19, 3) := by decide +kernel
theorem dX5_init_34 : decode cX5_init 34 = .ok (.iconst 0, 1) := by decide +kernel
theorem dX5_init_35 : decode cX5_init 35 = .ok (.istore_n 1, 1) := by decide +kernel
theorem dX5_init_36 : decode cX5_init 36 = .ok (.iload_n 1, 1) := by decide +kernel
theorem dX5_init_37 : decode cX5_init 37 = .ok (.iconst 5, 1) := by decide +kernel
theorem dX5_init_38 : decode cX5_init 38 = .ok (.if_icmp .ge 22, 3) := by decide +kernel
theorem dX5_init_41 : decode cX5_init 41 = .ok (.aload_n 0, 1) := by decide +kernel
theorem dX5_init_42 : decode cX5_init 42 = .ok (.getfield 19, 3) := by decide +kernel
theorem dX5_init_45 : decode cX5_init 45 = .ok (.iload_n 1, 1) := by decide +kernel
theorem dX5_init_46 : decode cX5_init 46 = .ok (.new 7, 3) := by decide +kernel
theorem dX5_init_49 : decode cX5_init 49 = .ok (.dup, 1) := by decide +kernel
theorem dX5_init_50 : decode cX5_init 50 = .ok (.invokespecial 9, 3) := by decide +kernel
theorem dX5_init_53 : decode cX5_init 53 = .ok (.aastore, 1) := by decide +kernel
theorem dX5_init_54 : decode cX5_init 54 = .ok (.iinc 1 1, 3) := by decide +kernel
theorem dX5_init_57 : decode cX5_init 57 = .ok (.goto (-21), 3) := by decide +kernel
theorem dX5_init_60 : decode cX5_init 60 = .ok (.aload_n 0, 1) := by decide +kernel
theorem dX5_init_61 : decode cX5_init 61 = .ok (.iconst 2, 1) := by decide +kernel
theorem dX5_init_62 : decode cX5_init 62 = .ok (.anewarray 7, 3) := by decide +kernel
theorem dX5_init_65 : decode cX5_init 65 = .ok (.putfield 23, 3) := by decide +kernel
theorem dX5_init_68 : decode cX5_init 68 = .ok (.iconst 0, 1) := by decide +kernel
theorem dX5_init_69 : decode cX5_init 69 = .ok (.istore_n 1, 1) := by decide +kernel
theorem dX5_init_70 : decode cX5_init 70 = .ok (.iload_n 1, 1) := by decide +kernel
theorem dX5_init_71 : decode cX5_init 71 = .ok (.iconst 2, 1) := by decide +kernel
theorem dX5_init_72 : decode cX5_init 72 = .ok (.if_icmp .ge 22, 3) := by decide +kernel
theorem dX5_init_75 : decode cX5_init 75 = .ok (.aload_n 0, 1) := by decide +kernel
theorem dX5_init_76 : decode cX5_init 76 = .ok (.getfield 23, 3) := by decide +kernel
theorem dX5_init_79 : decode cX5_init 79 = .ok (.iload_n 1, 1) := by decide +kernel
theorem dX5_init_80 : decode cX5_init 80 = .ok (.new 7, 3) := by decide +kernel
theorem dX5_init_83 : decode cX5_init 83 = .ok (.dup, 1) := by decide +kernel
theorem dX5_init_84 : decode cX5_init 84 = .ok (.invokespecial 9, 3) := by decide +kernel
theorem dX5_init_87 : decode cX5_init 87 = .ok (.aastore, 1) := by decide +kernel
theorem dX5_init_88 : decode cX5_init 88 = .ok (.iinc 1 1, 3) := by decide +kernel
theorem dX5_init_91 : decode cX5_init 91 = .ok (.goto (-21), 3) := by decide +kernel
theorem dX5_init_94 : decode cX5_init 94 = .ok (.aload_n 0, 1) := by decide +kernel
theorem dX5_init_95 : decode cX5_init 95 = .ok (.iconst 2, 1) := by decide +kernel
theorem dX5_init_96 : decode cX5_init 96 = .ok (.newarray .boolean, 2) := by decide +kernel
theorem dX5_init_98 : decode cX5_init 98 = .ok (.putfield 26, 3) := by decide +kernel
theorem dX5_init_101 : decode cX5_init 101 = .ok (.aload_n 0, 1) := by decide +kernel
theorem dX5_init_102 : decode cX5_init 102 = .ok (.bipush 6, 2) := by decide +kernel
theorem dX5_init_104 : decode cX5_init 104 = .ok (.newarray .int, 2) := by decide +kernel
theorem dX5_init_106 : decode cX5_init 106 = .ok (.putfield 30, 3) := by decide +kernel
theorem dX5_init_109 : decode cX5_init 109 = .ok (.aload_n 0, 1) := by decide +kernel
theorem dX5_init_110 : decode cX5_init 110 = .ok (.bipush 6, 2) := by decide +kernel
theorem dX5_init_112 : decode cX5_init 112 = .ok (.newarray .int, 2) := by decide +kernel
theorem dX5_init_114 : decode cX5_init 114 = .ok (.putfield 34, 3) := by decide +kernel
theorem dX5_init_117 : decode cX5_init 117 = .ok (.aload_n 0, 1) := by decide +kernel
theorem dX5_init_118 : decode cX5_init 118 = .ok (.bipush 6, 2) := by decide +kernel
theorem dX5_init_120 : decode cX5_init 120 = .ok (.newarray .int, 2) := by decide +kernel
theorem dX5_init_122 : decode cX5_init 122 = .ok (.putfield 37, 3) := by decide +kernel
theorem dX5_init_125 : decode cX5_init 125 = .ok (.aload_n 0, 1) := by decide +kernel
theorem dX5_init_126 : decode cX5_init 126 = .ok (.iconst 4, 1) := by decide +kernel
theorem dX5_init_127 : decode cX5_init 127 = .ok (.newarray .int, 2) := by decide +kernel
theorem dX5_init_129 : decode cX5_init 129 = .ok (.putfield 40, 3) := by decide +kernel
theorem dX5_init_132 : decode cX5_init 132 = .ok (.aload_n 0, 1) := by decide +kernel
theorem dX5_init_133 : decode cX5_init 133 = .ok (.getfield 10, 3) := by decide +kernel
theorem dX5_init_136 : decode cX5_init 136 = .ok (.iconst 3, 1) := by decide +kernel
theorem dX5_init_137 : decode cX5_init 137 = .ok (.iconst 2, 1) := by decide +kernel
theorem dX5_init_138 : decode cX5_init 138 = .ok (.iconst 0, 1) := by decide +kernel
theorem dX5_init_139 : decode cX5_init 139 = .ok (.invokevirtual 43, 3) := by decide +kernel
theorem dX5_init_142 : decode cX5_init 142 = .ok (.return_, 1) := by decide +kernel
theorem dX5_begins_0 : decode cX5_begins 0 = .ok (.iload_n 1, 1) := by decide +kernel
theorem dX5_begins_1 : decode cX5_begins 1 = .ok (.iconst 2, 1) := by decide +kernel
theorem dX5_begins_2 : decode cX5_begins 2 = .ok (.iconst 4, 1) := by decide +kernel
theorem dX5_begins_3 : decode cX5_begins 3 = .ok (.invokestatic 47, 3) := by decide +kernel
theorem dX5_begins_6 : decode cX5_begins 6 = .ok (.ifCond .eq 19, 3) := by decide +kernel
theorem dX5_begins_9 : decode cX5_begins 9 = .ok (.iload_n 2, 1) := by decide +kernel
theorem dX5_begins_10 : decode cX5_begins 10 = .ok (.iconst 1, 1) := by decide +kernel
theorem dX5_begins_11 : decode cX5_begins 11 = .ok (.iconst 4, 1) := by decide +kernel
theorem dX5_begins_12 : decode cX5_begins 12 = .ok (.invokestatic 47, 3) := by decide +kernel
theorem dX5_begins_15 : decode cX5_begins 15 = .ok (.ifCond .eq 10, 3) := by decide +kernel
theorem dX5_begins_18 : decode cX5_begins 18 = .ok (.iload_n 3, 1) := by decide +kernel
theorem dX5_begins_19 : decode cX5_begins 19 = .ok (.invokestatic 51, 3) := by decide +kernel
theorem dX5_begins_22 : decode cX5_begins 22 = .ok (.ifCond .ne 5, 3) := by decide +kernel
theorem dX5_begins_25 : decode cX5_begins 25 = .ok (.iconst (-1), 1) := by decide +kernel
theorem dX5_begins_26 : decode cX5_begins 26 = .ok (.ireturn, 1) := by decide +kernel
theorem dX5_begins_27 : decode cX5_begins 27 = .ok (.aload_n 0, 1) := by decide +kernel
theorem dX5_begins_28 : decode cX5_begins 28 = .ok (.invokevirtual 55, 3) := by decide +kernel
theorem dX5_begins_31 : decode cX5_begins 31 = .ok (.aload_n 0, 1) := by decide +kernel
theorem dX5_begins_32 : decode cX5_begins 32 = .ok (.getfield 10, 3) := by decide +kernel
theorem dX5_begins_35 : decode cX5_begins 35 = .ok (.iload_n 1, 1) := by decide +kernel
theorem dX5_begins_36 : decode cX5_begins 36 = .ok (.iload_n 2, 1) := by decide +kernel
theorem dX5_begins_37 : decode cX5_begins 37 = .ok (.iload_n 3, 1) := by decide +kernel
theorem dX5_begins_38 : decode cX5_begins 38 = .ok (.invokevirtual 43, 3) := by decide +kernel
theorem dX5_begins_41 : decode cX5_begins 41 = .ok (.aload_n 0, 1) := by decide +kernel
theorem dX5_begins_42 : decode cX5_begins 42 = .ok (.iconst 0, 1) := by decide +kernel
theorem dX5_begins_43 : decode cX5_begins 43 = .ok (.putfield 58, 3) := by decide +kernel
theorem dX5_begins_46 : decode cX5_begins 46 = .ok (.iconst 0, 1) := by decide +kernel
theorem dX5_begins_47 : decode cX5_begins 47 = .ok (.istore 4, 2) := by decide +kernel
theorem dX5_begins_49 : decode cX5_begins 49 = .ok (.iload 4, 2) := by decide +kernel
theorem dX5_begins_51 : decode cX5_begins 51 = .ok (.iconst 2, 1) := by decide +kernel
theorem dX5_begins_52 : decode cX5_begins 52 = .ok (.if_icmp .ge 17, 3) := by decide +kernel
theorem dX5_begins_55 : decode cX5_begins 55 = .ok (.aload_n 0, 1) := by decide +kernel
theorem dX5_begins_56 : decode cX5_begins 56 = .ok (.getfield 26, 3) := by decide +kernel
theorem dX5_begins_59 : decode cX5_begins 59 = .ok (.iload 4, 2) := by decide +kernel
theorem dX5_begins_61 : decode cX5_begins 61 = .ok (.iconst 0, 1) := by decide +kernel
theorem dX5_begins_62 : decode cX5_begins 62 = .ok (.bastore, 1) := by decide +kernel
theorem dX5_begins_63 : decode cX5_begins 63 = .ok (.iinc 4 1, 3) := by decide +kernel
theorem dX5_begins_66 : decode cX5_begins 66 = .ok (.goto (-17), 3) := by decide +kernel
theorem dX5_begins_69 : decode cX5_begins 69 = .ok (.iload_n 1, 1) := by decide +kernel
theorem dX5_begins_70 : decode cX5_begins 70 = .ok (.ireturn, 1) := by decide +kernel
theorem dX5_scans_0 : decode cX5_scans 0 = .ok (.aload_n 0, 1) := by decide +kernel
theorem dX5_scans_1 : decode cX5_scans 1 = .ok (.getfield 10, 3) := by decide +kernel
theorem dX5_scans_4 : decode cX5_scans 4 = .ok (.iload_n 1, 1) := by decide +kernel
theorem dX5_scans_5 : decode cX5_scans 5 = .ok (.invokevirtual 62, 3) := by decide +kernel
theorem dX5_scans_8 : decode cX5_scans 8 = .ok (.ifCond .ne 5, 3) := by decide +kernel
theorem dX5_scans_11 : decode cX5_scans 11 = .ok (.iconst (-1), 1) := by decide +kernel
theorem dX5_scans_12 : decode cX5_scans 12 = .ok (.ireturn, 1) := by decide +kernel
theorem dX5_scans_13 : decode cX5_scans 13 = .ok (.aload_n 0, 1) := by decide +kernel
theorem dX5_scans_14 : decode cX5_scans 14 = .ok (.iload_n 1, 1) := by decide +kernel
theorem dX5_scans_15 : decode cX5_scans 15 = .ok (.iconst 1, 1) := by decide +kernel
theorem dX5_scans_16 : decode cX5_scans 16 = .ok (.bipush (-9), 2) := by decide +kernel
theorem dX5_scans_18 : decode cX5_scans 18 = .ok (.invokevirtual 65, 3) := by decide +kernel
theorem dX5_scans_21 : decode cX5_scans 21 = .ok (.ireturn, 1) := by decide +kernel
theorem dX5_writes_0 : decode cX5_writes 0 = .ok (.aload_n 0, 1) := by decide +kernel
theorem dX5_writes_1 : decode cX5_writes 1 = .ok (.getfield 10, 3) := by decide +kernel
theorem dX5_writes_4 : decode cX5_writes 4 = .ok (.iload_n 1, 1) := by decide +kernel
theorem dX5_writes_5 : decode cX5_writes 5 = .ok (.invokevirtual 62, 3) := by decide +kernel
theorem dX5_writes_8 : decode cX5_writes 8 = .ok (.ifCond .eq 13, 3) := by decide +kernel
theorem dX5_writes_11 : decode cX5_writes 11 = .ok (.iload_n 2, 1) := by decide +kernel
theorem dX5_writes_12 : decode cX5_writes 12 = .ok (.iconst 0, 1) := by decide +kernel
theorem dX5_writes_13 : decode cX5_writes 13 = .ok (.bipush 99, 2) := by decide +kernel
theorem dX5_writes_15 : decode cX5_writes 15 = .ok (.invokestatic 47, 3) := by decide +kernel
theorem dX5_writes_18 : decode cX5_writes 18 = .ok (.ifCond .ne 5, 3) := by decide +kernel
theorem dX5_writes_21 : decode cX5_writes 21 = .ok (.iconst (-1), 1) := by decide +kernel
theorem dX5_writes_22 : decode cX5_writes 22 = .ok (.ireturn, 1) := by decide +kernel
theorem dX5_writes_23 : decode cX5_writes 23 = .ok (.aload_n 0, 1) := by decide +kernel
theorem dX5_writes_24 : decode cX5_writes 24 = .ok (.iload_n 1, 1) := by decide +kernel
theorem dX5_writes_25 : decode cX5_writes 25 = .ok (.iconst 2, 1) := by decide +kernel
theorem dX5_writes_26 : decode cX5_writes 26 = .ok (.iload_n 2, 1) := by decide +kernel
theorem dX5_writes_27 : decode cX5_writes 27 = .ok (.invokevirtual 65, 3) := by decide +kernel
theorem dX5_writes_30 : decode cX5_writes 30 = .ok (.ireturn, 1) := by decide +kernel
theorem dX5_steps_0 : decode cX5_steps 0 = .ok (.aload_n 0, 1) := by decide +kernel
theorem dX5_steps_1 : decode cX5_steps 1 = .ok (.getfield 10, 3) := by decide +kernel
theorem dX5_steps_4 : decode cX5_steps 4 = .ok (.iload_n 1, 1) := by decide +kernel
theorem dX5_steps_5 : decode cX5_steps 5 = .ok (.invokevirtual 62, 3) := by decide +kernel
theorem dX5_steps_8 : decode cX5_steps 8 = .ok (.ifCond .eq 13, 3) := by decide +kernel
theorem dX5_steps_11 : decode cX5_steps 11 = .ok (.iload_n 2, 1) := by decide +kernel
theorem dX5_steps_12 : decode cX5_steps 12 = .ok (.iconst 1, 1) := by decide +kernel
theorem dX5_steps_13 : decode cX5_steps 13 = .ok (.bipush 20, 2) := by decide +kernel
theorem dX5_steps_15 : decode cX5_steps 15 = .ok (.invokestatic 47, 3) := by decide +kernel
theorem dX5_steps_18 : decode cX5_steps 18 = .ok (.ifCond .ne 5, 3) := by decide +kernel
theorem dX5_steps_21 : decode cX5_steps 21 = .ok (.iconst (-1), 1) := by decide +kernel
theorem dX5_steps_22 : decode cX5_steps 22 = .ok (.ireturn, 1) := by decide +kernel
theorem dX5_steps_23 : decode cX5_steps 23 = .ok (.aload_n 0, 1) := by decide +kernel
theorem dX5_steps_24 : decode cX5_steps 24 = .ok (.getfield 10, 3) := by decide +kernel
theorem dX5_steps_27 : decode cX5_steps 27 = .ok (.iload_n 1, 1) := by decide +kernel
theorem dX5_steps_28 : decode cX5_steps 28 = .ok (.invokevirtual 69, 3) := by decide +kernel
theorem dX5_steps_31 : decode cX5_steps 31 = .ok (.ifCond .eq 6, 3) := by decide +kernel
theorem dX5_steps_34 : decode cX5_steps 34 = .ok (.bipush (-2), 2) := by decide +kernel
theorem dX5_steps_36 : decode cX5_steps 36 = .ok (.ireturn, 1) := by decide +kernel
theorem dX5_steps_37 : decode cX5_steps 37 = .ok (.aload_n 0, 1) := by decide +kernel
theorem dX5_steps_38 : decode cX5_steps 38 = .ok (.invokevirtual 55, 3) := by decide +kernel
theorem dX5_steps_41 : decode cX5_steps 41 = .ok (.aload_n 0, 1) := by decide +kernel
theorem dX5_steps_42 : decode cX5_steps 42 = .ok (.getfield 10, 3) := by decide +kernel
theorem dX5_steps_45 : decode cX5_steps 45 = .ok (.iload_n 1, 1) := by decide +kernel
theorem dX5_steps_46 : decode cX5_steps 46 = .ok (.iload_n 2, 1) := by decide +kernel
theorem dX5_steps_47 : decode cX5_steps 47 = .ok (.invokevirtual 72, 3) := by decide +kernel
theorem dX5_steps_50 : decode cX5_steps 50 = .ok (.ireturn, 1) := by decide +kernel
theorem dX5_undo_0 : decode cX5_undo 0 = .ok (.aload_n 0, 1) := by decide +kernel
theorem dX5_undo_1 : decode cX5_undo 1 = .ok (.getfield 76, 3) := by decide +kernel
theorem dX5_undo_4 : decode cX5_undo 4 = .ok (.ifCond .ne 6, 3) := by decide +kernel
theorem dX5_undo_7 : decode cX5_undo 7 = .ok (.bipush (-2), 2) := by decide +kernel
theorem dX5_undo_9 : decode cX5_undo 9 = .ok (.ireturn, 1) := by decide +kernel
theorem dX5_undo_10 : decode cX5_undo 10 = .ok (.aload_n 0, 1) := by decide +kernel
theorem dX5_undo_11 : decode cX5_undo 11 = .ok (.aload_n 0, 1) := by decide +kernel
theorem dX5_undo_12 : decode cX5_undo 12 = .ok (.getfield 79, 3) := by decide +kernel
theorem dX5_undo_15 : decode cX5_undo 15 = .ok (.ifCond .ne 7, 3) := by decide +kernel
theorem dX5_undo_18 : decode cX5_undo 18 = .ok (.iconst 4, 1) := by decide +kernel
theorem dX5_undo_19 : decode cX5_undo 19 = .ok (.goto 9, 3) := by decide +kernel
theorem dX5_undo_22 : decode cX5_undo 22 = .ok (.aload_n 0, 1) := by decide +kernel
theorem dX5_undo_23 : decode cX5_undo 23 = .ok (.getfield 79, 3) := by decide +kernel
theorem dX5_undo_26 : decode cX5_undo 26 = .ok (.iconst 1, 1) := by decide +kernel
theorem dX5_undo_27 : decode cX5_undo 27 = .ok (.isub, 1) := by decide +kernel
theorem dX5_undo_28 : decode cX5_undo 28 = .ok (.putfield 79, 3) := by decide +kernel
theorem dX5_undo_31 : decode cX5_undo 31 = .ok (.aload_n 0, 1) := by decide +kernel
theorem dX5_undo_32 : decode cX5_undo 32 = .ok (.dup, 1) := by decide +kernel
theorem dX5_undo_33 : decode cX5_undo 33 = .ok (.getfield 76, 3) := by decide +kernel
theorem dX5_undo_36 : decode cX5_undo 36 = .ok (.iconst 1, 1) := by decide +kernel
theorem dX5_undo_37 : decode cX5_undo 37 = .ok (.isub, 1) := by decide +kernel
theorem dX5_undo_38 : decode cX5_undo 38 = .ok (.putfield 76, 3) := by decide +kernel
theorem dX5_undo_41 : decode cX5_undo 41 = .ok (.aload_n 0, 1) := by decide +kernel
theorem dX5_undo_42 : decode cX5_undo 42 = .ok (.getfield 10, 3) := by decide +kernel
theorem dX5_undo_45 : decode cX5_undo 45 = .ok (.aload_n 0, 1) := by decide +kernel
theorem dX5_undo_46 : decode cX5_undo 46 = .ok (.getfield 19, 3) := by decide +kernel
theorem dX5_undo_49 : decode cX5_undo 49 = .ok (.aload_n 0, 1) := by decide +kernel
theorem dX5_undo_50 : decode cX5_undo 50 = .ok (.getfield 79, 3) := by decide +kernel
theorem dX5_undo_53 : decode cX5_undo 53 = .ok (.aaload, 1) := by decide +kernel
theorem dX5_undo_54 : decode cX5_undo 54 = .ok (.invokevirtual 82, 3) := by decide +kernel
theorem dX5_undo_57 : decode cX5_undo 57 = .ok (.aload_n 0, 1) := by decide +kernel
theorem dX5_undo_58 : decode cX5_undo 58 = .ok (.getfield 76, 3) := by decide +kernel
theorem dX5_undo_61 : decode cX5_undo 61 = .ok (.ireturn, 1) := by decide +kernel
theorem dX5_cell_0 : decode cX5_cell 0 = .ok (.aload_n 0, 1) := by decide +kernel
theorem dX5_cell_1 : decode cX5_cell 1 = .ok (.getfield 10, 3) := by decide +kernel
theorem dX5_cell_4 : decode cX5_cell 4 = .ok (.iload_n 1, 1) := by decide +kernel
theorem dX5_cell_5 : decode cX5_cell 5 = .ok (.invokevirtual 62, 3) := by decide +kernel
theorem dX5_cell_8 : decode cX5_cell 8 = .ok (.ifCond .eq 12, 3) := by decide +kernel
theorem dX5_cell_11 : decode cX5_cell 11 = .ok (.iload_n 2, 1) := by decide +kernel
theorem dX5_cell_12 : decode cX5_cell 12 = .ok (.iconst 0, 1) := by decide +kernel
theorem dX5_cell_13 : decode cX5_cell 13 = .ok (.iconst 5, 1) := by decide +kernel
theorem dX5_cell_14 : decode cX5_cell 14 = .ok (.invokestatic 47, 3) := by decide +kernel
theorem dX5_cell_17 : decode cX5_cell 17 = .ok (.ifCond .ne 5, 3) := by decide +kernel
theorem dX5_cell_20 : decode cX5_cell 20 = .ok (.iconst (-1), 1) := by decide +kernel
theorem dX5_cell_21 : decode cX5_cell 21 = .ok (.ireturn, 1) := by decide +kernel
theorem dX5_cell_22 : decode cX5_cell 22 = .ok (.iload_n 2, 1) := by decide +kernel
theorem dX5_cell_23 : decode cX5_cell 23 = .ok (.lookupswitch 51 #[(0, 25), (1, 38)], 25) := by decide +kernel
theorem dX5_cell_48 : decode cX5_cell 48 = .ok (.aload_n 0, 1) := by decide +kernel
theorem dX5_cell_49 : decode cX5_cell 49 = .ok (.getfield 10, 3) := by decide +kernel
theorem dX5_cell_52 : decode cX5_cell 52 = .ok (.getfield 86, 3) := by decide +kernel
theorem dX5_cell_55 : decode cX5_cell 55 = .ok (.getfield 90, 3) := by decide +kernel
theorem dX5_cell_58 : decode cX5_cell 58 = .ok (.iload_n 1, 1) := by decide +kernel
theorem dX5_cell_59 : decode cX5_cell 59 = .ok (.iaload, 1) := by decide +kernel
theorem dX5_cell_60 : decode cX5_cell 60 = .ok (.ireturn, 1) := by decide +kernel
theorem dX5_cell_61 : decode cX5_cell 61 = .ok (.aload_n 0, 1) := by decide +kernel
theorem dX5_cell_62 : decode cX5_cell 62 = .ok (.getfield 10, 3) := by decide +kernel
theorem dX5_cell_65 : decode cX5_cell 65 = .ok (.getfield 86, 3) := by decide +kernel
theorem dX5_cell_68 : decode cX5_cell 68 = .ok (.getfield 95, 3) := by decide +kernel
theorem dX5_cell_71 : decode cX5_cell 71 = .ok (.iload_n 1, 1) := by decide +kernel
theorem dX5_cell_72 : decode cX5_cell 72 = .ok (.iaload, 1) := by decide +kernel
theorem dX5_cell_73 : decode cX5_cell 73 = .ok (.ireturn, 1) := by decide +kernel
theorem dX5_cell_74 : decode cX5_cell 74 = .ok (.aload_n 0, 1) := by decide +kernel
theorem dX5_cell_75 : decode cX5_cell 75 = .ok (.getfield 10, 3) := by decide +kernel
theorem dX5_cell_78 : decode cX5_cell 78 = .ok (.getfield 86, 3) := by decide +kernel
theorem dX5_cell_81 : decode cX5_cell 81 = .ok (.getfield 98, 3) := by decide +kernel
theorem dX5_cell_84 : decode cX5_cell 84 = .ok (.iload_n 1, 1) := by decide +kernel
theorem dX5_cell_85 : decode cX5_cell 85 = .ok (.iconst 4, 1) := by decide +kernel
theorem dX5_cell_86 : decode cX5_cell 86 = .ok (.imul, 1) := by decide +kernel
theorem dX5_cell_87 : decode cX5_cell 87 = .ok (.iload_n 2, 1) := by decide +kernel
theorem dX5_cell_88 : decode cX5_cell 88 = .ok (.iadd, 1) := by decide +kernel
theorem dX5_cell_89 : decode cX5_cell 89 = .ok (.iconst 2, 1) := by decide +kernel
theorem dX5_cell_90 : decode cX5_cell 90 = .ok (.isub, 1) := by decide +kernel
theorem dX5_cell_91 : decode cX5_cell 91 = .ok (.iaload, 1) := by decide +kernel
theorem dX5_cell_92 : decode cX5_cell 92 = .ok (.ireturn, 1) := by decide +kernel
theorem dX5_writer_0 : decode cX5_writer 0 = .ok (.aload_n 0, 1) := by decide +kernel
theorem dX5_writer_1 : decode cX5_writer 1 = .ok (.getfield 10, 3) := by decide +kernel
theorem dX5_writer_4 : decode cX5_writer 4 = .ok (.iload_n 1, 1) := by decide +kernel
theorem dX5_writer_5 : decode cX5_writer 5 = .ok (.invokevirtual 62, 3) := by decide +kernel
theorem dX5_writer_8 : decode cX5_writer 8 = .ok (.ifCond .eq 13, 3) := by decide +kernel
theorem dX5_writer_11 : decode cX5_writer 11 = .ok (.iload_n 2, 1) := by decide +kernel
theorem dX5_writer_12 : decode cX5_writer 12 = .ok (.iconst 0, 1) := by decide +kernel
theorem dX5_writer_13 : decode cX5_writer 13 = .ok (.bipush 8, 2) := by decide +kernel
theorem dX5_writer_15 : decode cX5_writer 15 = .ok (.invokestatic 47, 3) := by decide +kernel
theorem dX5_writer_18 : decode cX5_writer 18 = .ok (.ifCond .ne 5, 3) := by decide +kernel
theorem dX5_writer_21 : decode cX5_writer 21 = .ok (.iconst (-1), 1) := by decide +kernel
theorem dX5_writer_22 : decode cX5_writer 22 = .ok (.ireturn, 1) := by decide +kernel
theorem dX5_writer_23 : decode cX5_writer 23 = .ok (.aload_n 0, 1) := by decide +kernel
theorem dX5_writer_24 : decode cX5_writer 24 = .ok (.getfield 10, 3) := by decide +kernel
theorem dX5_writer_27 : decode cX5_writer 27 = .ok (.getfield 101, 3) := by decide +kernel
theorem dX5_writer_30 : decode cX5_writer 30 = .ok (.iload_n 1, 1) := by decide +kernel
theorem dX5_writer_31 : decode cX5_writer 31 = .ok (.aaload, 1) := by decide +kernel
theorem dX5_writer_32 : decode cX5_writer 32 = .ok (.astore_n 3, 1) := by decide +kernel
theorem dX5_writer_33 : decode cX5_writer 33 = .ok (.iload_n 2, 1) := by decide +kernel
theorem dX5_writer_34 : decode cX5_writer 34 = .ok (.tableswitch 87 0 8 #[50, 55, 60, 77, 87, 87, 87, 87, 82], 50) := by decide +kernel
theorem dX5_writer_84 : decode cX5_writer 84 = .ok (.aload_n 3, 1) := by decide +kernel
theorem dX5_writer_85 : decode cX5_writer 85 = .ok (.getfield 105, 3) := by decide +kernel
theorem dX5_writer_88 : decode cX5_writer 88 = .ok (.ireturn, 1) := by decide +kernel
theorem dX5_writer_89 : decode cX5_writer 89 = .ok (.aload_n 3, 1) := by decide +kernel
theorem dX5_writer_90 : decode cX5_writer 90 = .ok (.getfield 110, 3) := by decide +kernel
theorem dX5_writer_93 : decode cX5_writer 93 = .ok (.ireturn, 1) := by decide +kernel
theorem dX5_writer_94 : decode cX5_writer 94 = .ok (.aload_n 3, 1) := by decide +kernel
theorem dX5_writer_95 : decode cX5_writer 95 = .ok (.invokevirtual 113, 3) := by decide +kernel
theorem dX5_writer_98 : decode cX5_writer 98 = .ok (.ifCond .eq 10, 3) := by decide +kernel
theorem dX5_writer_101 : decode cX5_writer 101 = .ok (.aload_n 3, 1) := by decide +kernel
theorem dX5_writer_102 : decode cX5_writer 102 = .ok (.getfield 117, 3) := by decide +kernel
theorem dX5_writer_105 : decode cX5_writer 105 = .ok (.goto 5, 3) := by decide +kernel
theorem dX5_writer_108 : decode cX5_writer 108 = .ok (.bipush (-9), 2) := by decide +kernel
theorem dX5_writer_110 : decode cX5_writer 110 = .ok (.ireturn, 1) := by decide +kernel
theorem dX5_writer_111 : decode cX5_writer 111 = .ok (.aload_n 3, 1) := by decide +kernel
theorem dX5_writer_112 : decode cX5_writer 112 = .ok (.getfield 120, 3) := by decide +kernel
theorem dX5_writer_115 : decode cX5_writer 115 = .ok (.ireturn, 1) := by decide +kernel
theorem dX5_writer_116 : decode cX5_writer 116 = .ok (.aload_n 3, 1) := by decide +kernel
theorem dX5_writer_117 : decode cX5_writer 117 = .ok (.getfield 123, 3) := by decide +kernel
theorem dX5_writer_120 : decode cX5_writer 120 = .ok (.ireturn, 1) := by decide +kernel
theorem dX5_writer_121 : decode cX5_writer 121 = .ok (.aload_n 3, 1) := by decide +kernel
theorem dX5_writer_122 : decode cX5_writer 122 = .ok (.getfield 126, 3) := by decide +kernel
theorem dX5_writer_125 : decode cX5_writer 125 = .ok (.iload_n 2, 1) := by decide +kernel
theorem dX5_writer_126 : decode cX5_writer 126 = .ok (.iconst 4, 1) := by decide +kernel
theorem dX5_writer_127 : decode cX5_writer 127 = .ok (.isub, 1) := by decide +kernel
theorem dX5_writer_128 : decode cX5_writer 128 = .ok (.iaload, 1) := by decide +kernel
theorem dX5_writer_129 : decode cX5_writer 129 = .ok (.ireturn, 1) := by decide +kernel
theorem dX5_read_0 : decode cX5_read 0 = .ok (.aload_n 0, 1) := by decide +kernel
theorem dX5_read_1 : decode cX5_read 1 = .ok (.getfield 10, 3) := by decide +kernel
theorem dX5_read_4 : decode cX5_read 4 = .ok (.iload_n 1, 1) := by decide +kernel
theorem dX5_read_5 : decode cX5_read 5 = .ok (.invokevirtual 62, 3) := by decide +kernel
theorem dX5_read_8 : decode cX5_read 8 = .ok (.ifCond .eq 23, 3) := by decide +kernel
theorem dX5_read_11 : decode cX5_read 11 = .ok (.aload_n 0, 1) := by decide +kernel
theorem dX5_read_12 : decode cX5_read 12 = .ok (.getfield 10, 3) := by decide +kernel
theorem dX5_read_15 : decode cX5_read 15 = .ok (.iload_n 2, 1) := by decide +kernel
theorem dX5_read_16 : decode cX5_read 16 = .ok (.invokevirtual 62, 3) := by decide +kernel
theorem dX5_read_19 : decode cX5_read 19 = .ok (.ifCond .eq 12, 3) := by decide +kernel
theorem dX5_read_22 : decode cX5_read 22 = .ok (.iload_n 3, 1) := by decide +kernel
theorem dX5_read_23 : decode cX5_read 23 = .ok (.iconst 0, 1) := by decide +kernel
theorem dX5_read_24 : decode cX5_read 24 = .ok (.iconst 1, 1) := by decide +kernel
theorem dX5_read_25 : decode cX5_read 25 = .ok (.invokestatic 47, 3) := by decide +kernel
theorem dX5_read_28 : decode cX5_read 28 = .ok (.ifCond .ne 5, 3) := by decide +kernel
theorem dX5_read_31 : decode cX5_read 31 = .ok (.iconst (-1), 1) := by decide +kernel
theorem dX5_read_32 : decode cX5_read 32 = .ok (.ireturn, 1) := by decide +kernel
theorem dX5_read_33 : decode cX5_read 33 = .ok (.aload_n 0, 1) := by decide +kernel
theorem dX5_read_34 : decode cX5_read 34 = .ok (.getfield 10, 3) := by decide +kernel
theorem dX5_read_37 : decode cX5_read 37 = .ok (.getfield 101, 3) := by decide +kernel
theorem dX5_read_40 : decode cX5_read 40 = .ok (.iload_n 1, 1) := by decide +kernel
theorem dX5_read_41 : decode cX5_read 41 = .ok (.aaload, 1) := by decide +kernel
theorem dX5_read_42 : decode cX5_read 42 = .ok (.astore 4, 2) := by decide +kernel
theorem dX5_read_44 : decode cX5_read 44 = .ok (.aload 4, 2) := by decide +kernel
theorem dX5_read_46 : decode cX5_read 46 = .ok (.invokevirtual 113, 3) := by decide +kernel
theorem dX5_read_49 : decode cX5_read 49 = .ok (.ifCond .eq 12, 3) := by decide +kernel
theorem dX5_read_52 : decode cX5_read 52 = .ok (.iload_n 2, 1) := by decide +kernel
theorem dX5_read_53 : decode cX5_read 53 = .ok (.aload 4, 2) := by decide +kernel
theorem dX5_read_55 : decode cX5_read 55 = .ok (.getfield 117, 3) := by decide +kernel
theorem dX5_read_58 : decode cX5_read 58 = .ok (.if_icmp .lt 6, 3) := by decide +kernel
theorem dX5_read_61 : decode cX5_read 61 = .ok (.bipush (-9), 2) := by decide +kernel
theorem dX5_read_63 : decode cX5_read 63 = .ok (.ireturn, 1) := by decide +kernel
theorem dX5_read_64 : decode cX5_read 64 = .ok (.iload_n 3, 1) := by decide +kernel
theorem dX5_read_65 : decode cX5_read 65 = .ok (.ifCond .ne 16, 3) := by decide +kernel
theorem dX5_read_68 : decode cX5_read 68 = .ok (.aload 4, 2) := by decide +kernel
theorem dX5_read_70 : decode cX5_read 70 = .ok (.getfield 129, 3) := by decide +kernel
theorem dX5_read_73 : decode cX5_read 73 = .ok (.getfield 90, 3) := by decide +kernel
theorem dX5_read_76 : decode cX5_read 76 = .ok (.iload_n 2, 1) := by decide +kernel
theorem dX5_read_77 : decode cX5_read 77 = .ok (.iaload, 1) := by decide +kernel
theorem dX5_read_78 : decode cX5_read 78 = .ok (.goto 13, 3) := by decide +kernel
theorem dX5_read_81 : decode cX5_read 81 = .ok (.aload 4, 2) := by decide +kernel
theorem dX5_read_83 : decode cX5_read 83 = .ok (.getfield 129, 3) := by decide +kernel
theorem dX5_read_86 : decode cX5_read 86 = .ok (.getfield 95, 3) := by decide +kernel
theorem dX5_read_89 : decode cX5_read 89 = .ok (.iload_n 2, 1) := by decide +kernel
theorem dX5_read_90 : decode cX5_read 90 = .ok (.iaload, 1) := by decide +kernel
theorem dX5_read_91 : decode cX5_read 91 = .ok (.ireturn, 1) := by decide +kernel
theorem dX5_photo_0 : decode cX5_photo 0 = .ok (.iload_n 1, 1) := by decide +kernel
theorem dX5_photo_1 : decode cX5_photo 1 = .ok (.iconst 0, 1) := by decide +kernel
theorem dX5_photo_2 : decode cX5_photo 2 = .ok (.aload_n 0, 1) := by decide +kernel
theorem dX5_photo_3 : decode cX5_photo 3 = .ok (.getfield 10, 3) := by decide +kernel
theorem dX5_photo_6 : decode cX5_photo 6 = .ok (.getfield 132, 3) := by decide +kernel
theorem dX5_photo_9 : decode cX5_photo 9 = .ok (.getfield 136, 3) := by decide +kernel
theorem dX5_photo_12 : decode cX5_photo 12 = .ok (.iconst 1, 1) := by decide +kernel
theorem dX5_photo_13 : decode cX5_photo 13 = .ok (.isub, 1) := by decide +kernel
theorem dX5_photo_14 : decode cX5_photo 14 = .ok (.invokestatic 47, 3) := by decide +kernel
theorem dX5_photo_17 : decode cX5_photo 17 = .ok (.ifCond .eq 13, 3) := by decide +kernel
theorem dX5_photo_20 : decode cX5_photo 20 = .ok (.iload_n 2, 1) := by decide +kernel
theorem dX5_photo_21 : decode cX5_photo 21 = .ok (.iconst 0, 1) := by decide +kernel
theorem dX5_photo_22 : decode cX5_photo 22 = .ok (.bipush 10, 2) := by decide +kernel
theorem dX5_photo_24 : decode cX5_photo 24 = .ok (.invokestatic 47, 3) := by decide +kernel
theorem dX5_photo_27 : decode cX5_photo 27 = .ok (.ifCond .ne 5, 3) := by decide +kernel
theorem dX5_photo_30 : decode cX5_photo 30 = .ok (.iconst (-1), 1) := by decide +kernel
theorem dX5_photo_31 : decode cX5_photo 31 = .ok (.ireturn, 1) := by decide +kernel
theorem dX5_photo_32 : decode cX5_photo 32 = .ok (.aload_n 0, 1) := by decide +kernel
theorem dX5_photo_33 : decode cX5_photo 33 = .ok (.getfield 10, 3) := by decide +kernel
theorem dX5_photo_36 : decode cX5_photo 36 = .ok (.getfield 132, 3) := by decide +kernel
theorem dX5_photo_39 : decode cX5_photo 39 = .ok (.iload_n 1, 1) := by decide +kernel
theorem dX5_photo_40 : decode cX5_photo 40 = .ok (.iload_n 2, 1) := by decide +kernel
theorem dX5_photo_41 : decode cX5_photo 41 = .ok (.invokevirtual 141, 3) := by decide +kernel
theorem dX5_photo_44 : decode cX5_photo 44 = .ok (.ireturn, 1) := by decide +kernel
theorem dX5_lone_0 : decode cX5_lone 0 = .ok (.aload_n 0, 1) := by decide +kernel
theorem dX5_lone_1 : decode cX5_lone 1 = .ok (.getfield 10, 3) := by decide +kernel
theorem dX5_lone_4 : decode cX5_lone 4 = .ok (.iload_n 1, 1) := by decide +kernel
theorem dX5_lone_5 : decode cX5_lone 5 = .ok (.invokevirtual 62, 3) := by decide +kernel
theorem dX5_lone_8 : decode cX5_lone 8 = .ok (.ifCond .ne 5, 3) := by decide +kernel
theorem dX5_lone_11 : decode cX5_lone 11 = .ok (.iconst (-1), 1) := by decide +kernel
theorem dX5_lone_12 : decode cX5_lone 12 = .ok (.ireturn, 1) := by decide +kernel
theorem dX5_lone_13 : decode cX5_lone 13 = .ok (.aload_n 0, 1) := by decide +kernel
theorem dX5_lone_14 : decode cX5_lone 14 = .ok (.getfield 16, 3) := by decide +kernel
theorem dX5_lone_17 : decode cX5_lone 17 = .ok (.aload_n 0, 1) := by decide +kernel
theorem dX5_lone_18 : decode cX5_lone 18 = .ok (.getfield 10, 3) := by decide +kernel
theorem dX5_lone_21 : decode cX5_lone 21 = .ok (.invokevirtual 82, 3) := by decide +kernel
theorem dX5_lone_24 : decode cX5_lone 24 = .ok (.aload_n 0, 1) := by decide +kernel
theorem dX5_lone_25 : decode cX5_lone 25 = .ok (.getfield 16, 3) := by decide +kernel
theorem dX5_lone_28 : decode cX5_lone 28 = .ok (.iload_n 1, 1) := by decide +kernel
theorem dX5_lone_29 : decode cX5_lone 29 = .ok (.sipush 1000, 3) := by decide +kernel
theorem dX5_lone_32 : decode cX5_lone 32 = .ok (.invokevirtual 72, 3) := by decide +kernel
theorem dX5_lone_35 : decode cX5_lone 35 = .ok (.ireturn, 1) := by decide +kernel
theorem dX5_byTurns_0 : decode cX5_byTurns 0 = .ok (.aload_n 0, 1) := by decide +kernel
theorem dX5_byTurns_1 : decode cX5_byTurns 1 = .ok (.getfield 16, 3) := by decide +kernel
theorem dX5_byTurns_4 : decode cX5_byTurns 4 = .ok (.aload_n 0, 1) := by decide +kernel
theorem dX5_byTurns_5 : decode cX5_byTurns 5 = .ok (.getfield 10, 3) := by decide +kernel
theorem dX5_byTurns_8 : decode cX5_byTurns 8 = .ok (.invokevirtual 82, 3) := by decide +kernel
theorem dX5_byTurns_11 : decode cX5_byTurns 11 = .ok (.iconst 0, 1) := by decide +kernel
theorem dX5_byTurns_12 : decode cX5_byTurns 12 = .ok (.istore_n 1, 1) := by decide +kernel
theorem dX5_byTurns_13 : decode cX5_byTurns 13 = .ok (.iconst 0, 1) := by decide +kernel
theorem dX5_byTurns_14 : decode cX5_byTurns 14 = .ok (.istore_n 2, 1) := by decide +kernel
theorem dX5_byTurns_15 : decode cX5_byTurns 15 = .ok (.iload_n 2, 1) := by decide +kernel
theorem dX5_byTurns_16 : decode cX5_byTurns 16 = .ok (.sipush 1000, 3) := by decide +kernel
theorem dX5_byTurns_19 : decode cX5_byTurns 19 = .ok (.if_icmp .ge 50, 3) := by decide +kernel
theorem dX5_byTurns_22 : decode cX5_byTurns 22 = .ok (.aload_n 0, 1) := by decide +kernel
theorem dX5_byTurns_23 : decode cX5_byTurns 23 = .ok (.getfield 16, 3) := by decide +kernel
theorem dX5_byTurns_26 : decode cX5_byTurns 26 = .ok (.invokevirtual 144, 3) := by decide +kernel
theorem dX5_byTurns_29 : decode cX5_byTurns 29 = .ok (.ifCond .ne 40, 3) := by decide +kernel
theorem dX5_byTurns_32 : decode cX5_byTurns 32 = .ok (.iconst 0, 1) := by decide +kernel
theorem dX5_byTurns_33 : decode cX5_byTurns 33 = .ok (.istore_n 3, 1) := by decide +kernel
theorem dX5_byTurns_34 : decode cX5_byTurns 34 = .ok (.iload_n 3, 1) := by decide +kernel
theorem dX5_byTurns_35 : decode cX5_byTurns 35 = .ok (.aload_n 0, 1) := by decide +kernel
theorem dX5_byTurns_36 : decode cX5_byTurns 36 = .ok (.getfield 16, 3) := by decide +kernel
theorem dX5_byTurns_39 : decode cX5_byTurns 39 = .ok (.getfield 147, 3) := by decide +kernel
theorem dX5_byTurns_42 : decode cX5_byTurns 42 = .ok (.if_icmp .ge 21, 3) := by decide +kernel
theorem dX5_byTurns_45 : decode cX5_byTurns 45 = .ok (.iload_n 1, 1) := by decide +kernel
theorem dX5_byTurns_46 : decode cX5_byTurns 46 = .ok (.aload_n 0, 1) := by decide +kernel
theorem dX5_byTurns_47 : decode cX5_byTurns 47 = .ok (.getfield 16, 3) := by decide +kernel
theorem dX5_byTurns_50 : decode cX5_byTurns 50 = .ok (.iload_n 3, 1) := by decide +kernel
theorem dX5_byTurns_51 : decode cX5_byTurns 51 = .ok (.iconst 1, 1) := by decide +kernel
theorem dX5_byTurns_52 : decode cX5_byTurns 52 = .ok (.invokevirtual 72, 3) := by decide +kernel
theorem dX5_byTurns_55 : decode cX5_byTurns 55 = .ok (.iadd, 1) := by decide +kernel
theorem dX5_byTurns_56 : decode cX5_byTurns 56 = .ok (.istore_n 1, 1) := by decide +kernel
theorem dX5_byTurns_57 : decode cX5_byTurns 57 = .ok (.iinc 3 1, 3) := by decide +kernel
theorem dX5_byTurns_60 : decode cX5_byTurns 60 = .ok (.goto (-26), 3) := by decide +kernel
theorem dX5_byTurns_63 : decode cX5_byTurns 63 = .ok (.iinc 2 1, 3) := by decide +kernel
theorem dX5_byTurns_66 : decode cX5_byTurns 66 = .ok (.goto (-51), 3) := by decide +kernel
theorem dX5_byTurns_69 : decode cX5_byTurns 69 = .ok (.iload_n 1, 1) := by decide +kernel
theorem dX5_byTurns_70 : decode cX5_byTurns 70 = .ok (.ireturn, 1) := by decide +kernel
theorem dX5_reads_0 : decode cX5_reads 0 = .ok (.iload_n 1, 1) := by decide +kernel
theorem dX5_reads_1 : decode cX5_reads 1 = .ok (.iconst 0, 1) := by decide +kernel
theorem dX5_reads_2 : decode cX5_reads 2 = .ok (.bipush 99, 2) := by decide +kernel
theorem dX5_reads_4 : decode cX5_reads 4 = .ok (.invokestatic 47, 3) := by decide +kernel
theorem dX5_reads_7 : decode cX5_reads 7 = .ok (.ifCond .eq 12, 3) := by decide +kernel
theorem dX5_reads_10 : decode cX5_reads 10 = .ok (.iload_n 2, 1) := by decide +kernel
theorem dX5_reads_11 : decode cX5_reads 11 = .ok (.iconst 0, 1) := by decide +kernel
theorem dX5_reads_12 : decode cX5_reads 12 = .ok (.iconst 2, 1) := by decide +kernel
theorem dX5_reads_13 : decode cX5_reads 13 = .ok (.invokestatic 47, 3) := by decide +kernel
theorem dX5_reads_16 : decode cX5_reads 16 = .ok (.ifCond .ne 5, 3) := by decide +kernel
theorem dX5_reads_19 : decode cX5_reads 19 = .ok (.iconst (-1), 1) := by decide +kernel
theorem dX5_reads_20 : decode cX5_reads 20 = .ok (.ireturn, 1) := by decide +kernel
theorem dX5_reads_21 : decode cX5_reads 21 = .ok (.iload_n 2, 1) := by decide +kernel
theorem dX5_reads_22 : decode cX5_reads 22 = .ok (.lookupswitch 51 #[(0, 26), (1, 39)], 26) := by decide +kernel
theorem dX5_reads_48 : decode cX5_reads 48 = .ok (.aload_n 0, 1) := by decide +kernel
theorem dX5_reads_49 : decode cX5_reads 49 = .ok (.getfield 10, 3) := by decide +kernel
theorem dX5_reads_52 : decode cX5_reads 52 = .ok (.getfield 132, 3) := by decide +kernel
theorem dX5_reads_55 : decode cX5_reads 55 = .ok (.iconst 3, 1) := by decide +kernel
theorem dX5_reads_56 : decode cX5_reads 56 = .ok (.iload_n 1, 1) := by decide +kernel
theorem dX5_reads_57 : decode cX5_reads 57 = .ok (.invokevirtual 150, 3) := by decide +kernel
theorem dX5_reads_60 : decode cX5_reads 60 = .ok (.ireturn, 1) := by decide +kernel
theorem dX5_reads_61 : decode cX5_reads 61 = .ok (.aload_n 0, 1) := by decide +kernel
theorem dX5_reads_62 : decode cX5_reads 62 = .ok (.getfield 10, 3) := by decide +kernel
theorem dX5_reads_65 : decode cX5_reads 65 = .ok (.getfield 132, 3) := by decide +kernel
theorem dX5_reads_68 : decode cX5_reads 68 = .ok (.iload_n 1, 1) := by decide +kernel
theorem dX5_reads_69 : decode cX5_reads 69 = .ok (.invokevirtual 153, 3) := by decide +kernel
theorem dX5_reads_72 : decode cX5_reads 72 = .ok (.ireturn, 1) := by decide +kernel
theorem dX5_reads_73 : decode cX5_reads 73 = .ok (.aload_n 0, 1) := by decide +kernel
theorem dX5_reads_74 : decode cX5_reads 74 = .ok (.getfield 10, 3) := by decide +kernel
theorem dX5_reads_77 : decode cX5_reads 77 = .ok (.getfield 132, 3) := by decide +kernel
theorem dX5_reads_80 : decode cX5_reads 80 = .ok (.iload_n 1, 1) := by decide +kernel
theorem dX5_reads_81 : decode cX5_reads 81 = .ok (.invokevirtual 157, 3) := by decide +kernel
theorem dX5_reads_84 : decode cX5_reads 84 = .ok (.ireturn, 1) := by decide +kernel
theorem dX5_trial_0 : decode cX5_trial 0 = .ok (.iload_n 1, 1) := by decide +kernel
theorem dX5_trial_1 : decode cX5_trial 1 = .ok (.iconst 1, 1) := by decide +kernel
theorem dX5_trial_2 : decode cX5_trial 2 = .ok (.iconst 4, 1) := by decide +kernel
theorem dX5_trial_3 : decode cX5_trial 3 = .ok (.invokestatic 47, 3) := by decide +kernel
theorem dX5_trial_6 : decode cX5_trial 6 = .ok (.ifCond .eq 17, 3) := by decide +kernel
theorem dX5_trial_9 : decode cX5_trial 9 = .ok (.iload_n 2, 1) := by decide +kernel
theorem dX5_trial_10 : decode cX5_trial 10 = .ok (.invokestatic 160, 3) := by decide +kernel
theorem dX5_trial_13 : decode cX5_trial 13 = .ok (.ifCond .eq 10, 3) := by decide +kernel
theorem dX5_trial_16 : decode cX5_trial 16 = .ok (.iload_n 3, 1) := by decide +kernel
theorem dX5_trial_17 : decode cX5_trial 17 = .ok (.invokestatic 160, 3) := by decide +kernel
theorem dX5_trial_20 : decode cX5_trial 20 = .ok (.ifCond .ne 5, 3) := by decide +kernel
theorem dX5_trial_23 : decode cX5_trial 23 = .ok (.iconst (-1), 1) := by decide +kernel
theorem dX5_trial_24 : decode cX5_trial 24 = .ok (.ireturn, 1) := by decide +kernel
theorem dX5_trial_25 : decode cX5_trial 25 = .ok (.aload_n 0, 1) := by decide +kernel
theorem dX5_trial_26 : decode cX5_trial 26 = .ok (.iload_n 1, 1) := by decide +kernel
theorem dX5_trial_27 : decode cX5_trial 27 = .ok (.iload_n 2, 1) := by decide +kernel
theorem dX5_trial_28 : decode cX5_trial 28 = .ok (.iload_n 3, 1) := by decide +kernel
theorem dX5_trial_29 : decode cX5_trial 29 = .ok (.invokevirtual 163, 3) := by decide +kernel
theorem dX5_trial_32 : decode cX5_trial 32 = .ok (.ireturn, 1) := by decide +kernel
theorem dX5_sees_0 : decode cX5_sees 0 = .ok (.iload_n 1, 1) := by decide +kernel
theorem dX5_sees_1 : decode cX5_sees 1 = .ok (.invokestatic 160, 3) := by decide +kernel
theorem dX5_sees_4 : decode cX5_sees 4 = .ok (.ifCond .eq 20, 3) := by decide +kernel
theorem dX5_sees_7 : decode cX5_sees 7 = .ok (.iload_n 2, 1) := by decide +kernel
theorem dX5_sees_8 : decode cX5_sees 8 = .ok (.invokestatic 160, 3) := by decide +kernel
theorem dX5_sees_11 : decode cX5_sees 11 = .ok (.ifCond .eq 13, 3) := by decide +kernel
theorem dX5_sees_14 : decode cX5_sees 14 = .ok (.iload_n 3, 1) := by decide +kernel
theorem dX5_sees_15 : decode cX5_sees 15 = .ok (.iconst 0, 1) := by decide +kernel
theorem dX5_sees_16 : decode cX5_sees 16 = .ok (.bipush 99, 2) := by decide +kernel
theorem dX5_sees_18 : decode cX5_sees 18 = .ok (.invokestatic 47, 3) := by decide +kernel
theorem dX5_sees_21 : decode cX5_sees 21 = .ok (.ifCond .ne 5, 3) := by decide +kernel
theorem dX5_sees_24 : decode cX5_sees 24 = .ok (.iconst (-1), 1) := by decide +kernel
theorem dX5_sees_25 : decode cX5_sees 25 = .ok (.ireturn, 1) := by decide +kernel
theorem dX5_sees_26 : decode cX5_sees 26 = .ok (.aload_n 0, 1) := by decide +kernel
theorem dX5_sees_27 : decode cX5_sees 27 = .ok (.getfield 58, 3) := by decide +kernel
theorem dX5_sees_30 : decode cX5_sees 30 = .ok (.bipush 6, 2) := by decide +kernel
theorem dX5_sees_32 : decode cX5_sees 32 = .ok (.if_icmp .lt 6, 3) := by decide +kernel
theorem dX5_sees_35 : decode cX5_sees 35 = .ok (.bipush (-3), 2) := by decide +kernel
theorem dX5_sees_37 : decode cX5_sees 37 = .ok (.ireturn, 1) := by decide +kernel
theorem dX5_sees_38 : decode cX5_sees 38 = .ok (.aload_n 0, 1) := by decide +kernel
theorem dX5_sees_39 : decode cX5_sees 39 = .ok (.getfield 30, 3) := by decide +kernel
theorem dX5_sees_42 : decode cX5_sees 42 = .ok (.aload_n 0, 1) := by decide +kernel
theorem dX5_sees_43 : decode cX5_sees 43 = .ok (.getfield 58, 3) := by decide +kernel
theorem dX5_sees_46 : decode cX5_sees 46 = .ok (.iload_n 1, 1) := by decide +kernel
theorem dX5_sees_47 : decode cX5_sees 47 = .ok (.iastore, 1) := by decide +kernel
theorem dX5_sees_48 : decode cX5_sees 48 = .ok (.aload_n 0, 1) := by decide +kernel
theorem dX5_sees_49 : decode cX5_sees 49 = .ok (.getfield 34, 3) := by decide +kernel
theorem dX5_sees_52 : decode cX5_sees 52 = .ok (.aload_n 0, 1) := by decide +kernel
theorem dX5_sees_53 : decode cX5_sees 53 = .ok (.getfield 58, 3) := by decide +kernel
theorem dX5_sees_56 : decode cX5_sees 56 = .ok (.iload_n 2, 1) := by decide +kernel
theorem dX5_sees_57 : decode cX5_sees 57 = .ok (.iastore, 1) := by decide +kernel
theorem dX5_sees_58 : decode cX5_sees 58 = .ok (.aload_n 0, 1) := by decide +kernel
theorem dX5_sees_59 : decode cX5_sees 59 = .ok (.getfield 37, 3) := by decide +kernel
theorem dX5_sees_62 : decode cX5_sees 62 = .ok (.aload_n 0, 1) := by decide +kernel
theorem dX5_sees_63 : decode cX5_sees 63 = .ok (.getfield 58, 3) := by decide +kernel
theorem dX5_sees_66 : decode cX5_sees 66 = .ok (.iload_n 3, 1) := by decide +kernel
theorem dX5_sees_67 : decode cX5_sees 67 = .ok (.iastore, 1) := by decide +kernel
theorem dX5_sees_68 : decode cX5_sees 68 = .ok (.aload_n 0, 1) := by decide +kernel
theorem dX5_sees_69 : decode cX5_sees 69 = .ok (.dup, 1) := by decide +kernel
theorem dX5_sees_70 : decode cX5_sees 70 = .ok (.getfield 58, 3) := by decide +kernel
theorem dX5_sees_73 : decode cX5_sees 73 = .ok (.iconst 1, 1) := by decide +kernel
theorem dX5_sees_74 : decode cX5_sees 74 = .ok (.iadd, 1) := by decide +kernel
theorem dX5_sees_75 : decode cX5_sees 75 = .ok (.putfield 58, 3) := by decide +kernel
theorem dX5_sees_78 : decode cX5_sees 78 = .ok (.aload_n 0, 1) := by decide +kernel
theorem dX5_sees_79 : decode cX5_sees 79 = .ok (.getfield 58, 3) := by decide +kernel
theorem dX5_sees_82 : decode cX5_sees 82 = .ok (.ireturn, 1) := by decide +kernel
theorem dX5_forget_0 : decode cX5_forget 0 = .ok (.aload_n 0, 1) := by decide +kernel
theorem dX5_forget_1 : decode cX5_forget 1 = .ok (.getfield 58, 3) := by decide +kernel
theorem dX5_forget_4 : decode cX5_forget 4 = .ok (.istore_n 1, 1) := by decide +kernel
theorem dX5_forget_5 : decode cX5_forget 5 = .ok (.aload_n 0, 1) := by decide +kernel
theorem dX5_forget_6 : decode cX5_forget 6 = .ok (.iconst 0, 1) := by decide +kernel
theorem dX5_forget_7 : decode cX5_forget 7 = .ok (.putfield 58, 3) := by decide +kernel
theorem dX5_forget_10 : decode cX5_forget 10 = .ok (.iload_n 1, 1) := by decide +kernel
theorem dX5_forget_11 : decode cX5_forget 11 = .ok (.ireturn, 1) := by decide +kernel
theorem dX5_which_0 : decode cX5_which 0 = .ok (.aload_n 0, 1) := by decide +kernel
theorem dX5_which_1 : decode cX5_which 1 = .ok (.invokevirtual 166, 3) := by decide +kernel
theorem dX5_which_4 : decode cX5_which 4 = .ok (.ireturn, 1) := by decide +kernel
theorem dX5_ask_0 : decode cX5_ask 0 = .ok (.aload_n 0, 1) := by decide +kernel
theorem dX5_ask_1 : decode cX5_ask 1 = .ok (.invokevirtual 166, 3) := by decide +kernel
theorem dX5_ask_4 : decode cX5_ask 4 = .ok (.istore_n 1, 1) := by decide +kernel
theorem dX5_ask_5 : decode cX5_ask 5 = .ok (.iload_n 1, 1) := by decide +kernel
theorem dX5_ask_6 : decode cX5_ask 6 = .ok (.invokestatic 170, 3) := by decide +kernel
theorem dX5_ask_9 : decode cX5_ask 9 = .ok (.iconst 1, 1) := by decide +kernel
theorem dX5_ask_10 : decode cX5_ask 10 = .ok (.if_icmp .gt 6, 3) := by decide +kernel
theorem dX5_ask_13 : decode cX5_ask 13 = .ok (.bipush (-9), 2) := by decide +kernel
theorem dX5_ask_15 : decode cX5_ask 15 = .ok (.ireturn, 1) := by decide +kernel
theorem dX5_ask_16 : decode cX5_ask 16 = .ok (.bipush (-9), 2) := by decide +kernel
theorem dX5_ask_18 : decode cX5_ask 18 = .ok (.istore_n 2, 1) := by decide +kernel
theorem dX5_ask_19 : decode cX5_ask 19 = .ok (.iconst 5, 1) := by decide +kernel
theorem dX5_ask_20 : decode cX5_ask 20 = .ok (.istore_n 3, 1) := by decide +kernel
theorem dX5_ask_21 : decode cX5_ask 21 = .ok (.iconst 1, 1) := by decide +kernel
theorem dX5_ask_22 : decode cX5_ask 22 = .ok (.istore 4, 2) := by decide +kernel
theorem dX5_ask_24 : decode cX5_ask 24 = .ok (.iload 4, 2) := by decide +kernel
theorem dX5_ask_26 : decode cX5_ask 26 = .ok (.iconst 4, 1) := by decide +kernel
theorem dX5_ask_27 : decode cX5_ask 27 = .ok (.if_icmp .gt 53, 3) := by decide +kernel
theorem dX5_ask_30 : decode cX5_ask 30 = .ok (.iconst 1, 1) := by decide +kernel
theorem dX5_ask_31 : decode cX5_ask 31 = .ok (.istore 5, 2) := by decide +kernel
theorem dX5_ask_33 : decode cX5_ask 33 = .ok (.iload 5, 2) := by decide +kernel
theorem dX5_ask_35 : decode cX5_ask 35 = .ok (.iconst 4, 1) := by decide +kernel
theorem dX5_ask_36 : decode cX5_ask 36 = .ok (.if_icmp .gt 38, 3) := by decide +kernel
theorem dX5_ask_39 : decode cX5_ask 39 = .ok (.aload_n 0, 1) := by decide +kernel
theorem dX5_ask_40 : decode cX5_ask 40 = .ok (.iload_n 1, 1) := by decide +kernel
theorem dX5_ask_41 : decode cX5_ask 41 = .ok (.iload 4, 2) := by decide +kernel
theorem dX5_ask_43 : decode cX5_ask 43 = .ok (.iload 5, 2) := by decide +kernel
theorem dX5_ask_45 : decode cX5_ask 45 = .ok (.invokevirtual 175, 3) := by decide +kernel
theorem dX5_ask_48 : decode cX5_ask 48 = .ok (.istore 6, 2) := by decide +kernel
theorem dX5_ask_50 : decode cX5_ask 50 = .ok (.iload 6, 2) := by decide +kernel
theorem dX5_ask_52 : decode cX5_ask 52 = .ok (.iload_n 3, 1) := by decide +kernel
theorem dX5_ask_53 : decode cX5_ask 53 = .ok (.if_icmp .ge 15, 3) := by decide +kernel
theorem dX5_ask_56 : decode cX5_ask 56 = .ok (.iload 6, 2) := by decide +kernel
theorem dX5_ask_58 : decode cX5_ask 58 = .ok (.istore_n 3, 1) := by decide +kernel
theorem dX5_ask_59 : decode cX5_ask 59 = .ok (.bipush 10, 2) := by decide +kernel
theorem dX5_ask_61 : decode cX5_ask 61 = .ok (.iload 4, 2) := by decide +kernel
theorem dX5_ask_63 : decode cX5_ask 63 = .ok (.imul, 1) := by decide +kernel
theorem dX5_ask_64 : decode cX5_ask 64 = .ok (.iload 5, 2) := by decide +kernel
theorem dX5_ask_66 : decode cX5_ask 66 = .ok (.iadd, 1) := by decide +kernel
theorem dX5_ask_67 : decode cX5_ask 67 = .ok (.istore_n 2, 1) := by decide +kernel
theorem dX5_ask_68 : decode cX5_ask 68 = .ok (.iinc 5 1, 3) := by decide +kernel
theorem dX5_ask_71 : decode cX5_ask 71 = .ok (.goto (-38), 3) := by decide +kernel
theorem dX5_ask_74 : decode cX5_ask 74 = .ok (.iinc 4 1, 3) := by decide +kernel
theorem dX5_ask_77 : decode cX5_ask 77 = .ok (.goto (-53), 3) := by decide +kernel
theorem dX5_ask_80 : decode cX5_ask 80 = .ok (.iload_n 2, 1) := by decide +kernel
theorem dX5_ask_81 : decode cX5_ask 81 = .ok (.ireturn, 1) := by decide +kernel
theorem dX5_keep_0 : decode cX5_keep 0 = .ok (.iload_n 1, 1) := by decide +kernel
theorem dX5_keep_1 : decode cX5_keep 1 = .ok (.iconst 0, 1) := by decide +kernel
theorem dX5_keep_2 : decode cX5_keep 2 = .ok (.iconst 1, 1) := by decide +kernel
theorem dX5_keep_3 : decode cX5_keep 3 = .ok (.invokestatic 47, 3) := by decide +kernel
theorem dX5_keep_6 : decode cX5_keep 6 = .ok (.ifCond .ne 5, 3) := by decide +kernel
theorem dX5_keep_9 : decode cX5_keep 9 = .ok (.iconst (-1), 1) := by decide +kernel
theorem dX5_keep_10 : decode cX5_keep 10 = .ok (.ireturn, 1) := by decide +kernel
theorem dX5_keep_11 : decode cX5_keep 11 = .ok (.aload_n 0, 1) := by decide +kernel
theorem dX5_keep_12 : decode cX5_keep 12 = .ok (.getfield 23, 3) := by decide +kernel
theorem dX5_keep_15 : decode cX5_keep 15 = .ok (.iload_n 1, 1) := by decide +kernel
theorem dX5_keep_16 : decode cX5_keep 16 = .ok (.aaload, 1) := by decide +kernel
theorem dX5_keep_17 : decode cX5_keep 17 = .ok (.aload_n 0, 1) := by decide +kernel
theorem dX5_keep_18 : decode cX5_keep 18 = .ok (.getfield 10, 3) := by decide +kernel
theorem dX5_keep_21 : decode cX5_keep 21 = .ok (.invokevirtual 82, 3) := by decide +kernel
theorem dX5_keep_24 : decode cX5_keep 24 = .ok (.aload_n 0, 1) := by decide +kernel
theorem dX5_keep_25 : decode cX5_keep 25 = .ok (.getfield 26, 3) := by decide +kernel
theorem dX5_keep_28 : decode cX5_keep 28 = .ok (.iload_n 1, 1) := by decide +kernel
theorem dX5_keep_29 : decode cX5_keep 29 = .ok (.iconst 1, 1) := by decide +kernel
theorem dX5_keep_30 : decode cX5_keep 30 = .ok (.bastore, 1) := by decide +kernel
theorem dX5_keep_31 : decode cX5_keep 31 = .ok (.aload_n 0, 1) := by decide +kernel
theorem dX5_keep_32 : decode cX5_keep 32 = .ok (.getfield 10, 3) := by decide +kernel
theorem dX5_keep_35 : decode cX5_keep 35 = .ok (.getfield 178, 3) := by decide +kernel
theorem dX5_keep_38 : decode cX5_keep 38 = .ok (.ireturn, 1) := by decide +kernel
theorem dX5_back_0 : decode cX5_back 0 = .ok (.iload_n 1, 1) := by decide +kernel
theorem dX5_back_1 : decode cX5_back 1 = .ok (.iconst 0, 1) := by decide +kernel
theorem dX5_back_2 : decode cX5_back 2 = .ok (.iconst 1, 1) := by decide +kernel
theorem dX5_back_3 : decode cX5_back 3 = .ok (.invokestatic 47, 3) := by decide +kernel
theorem dX5_back_6 : decode cX5_back 6 = .ok (.ifCond .ne 5, 3) := by decide +kernel
theorem dX5_back_9 : decode cX5_back 9 = .ok (.iconst (-1), 1) := by decide +kernel
theorem dX5_back_10 : decode cX5_back 10 = .ok (.ireturn, 1) := by decide +kernel
theorem dX5_back_11 : decode cX5_back 11 = .ok (.aload_n 0, 1) := by decide +kernel
theorem dX5_back_12 : decode cX5_back 12 = .ok (.getfield 26, 3) := by decide +kernel
theorem dX5_back_15 : decode cX5_back 15 = .ok (.iload_n 1, 1) := by decide +kernel
theorem dX5_back_16 : decode cX5_back 16 = .ok (.baload, 1) := by decide +kernel
theorem dX5_back_17 : decode cX5_back 17 = .ok (.ifCond .ne 6, 3) := by decide +kernel
theorem dX5_back_20 : decode cX5_back 20 = .ok (.bipush (-2), 2) := by decide +kernel
theorem dX5_back_22 : decode cX5_back 22 = .ok (.ireturn, 1) := by decide +kernel
theorem dX5_back_23 : decode cX5_back 23 = .ok (.aload_n 0, 1) := by decide +kernel
theorem dX5_back_24 : decode cX5_back 24 = .ok (.getfield 10, 3) := by decide +kernel
theorem dX5_back_27 : decode cX5_back 27 = .ok (.aload_n 0, 1) := by decide +kernel
theorem dX5_back_28 : decode cX5_back 28 = .ok (.getfield 23, 3) := by decide +kernel
theorem dX5_back_31 : decode cX5_back 31 = .ok (.iload_n 1, 1) := by decide +kernel
theorem dX5_back_32 : decode cX5_back 32 = .ok (.aaload, 1) := by decide +kernel
theorem dX5_back_33 : decode cX5_back 33 = .ok (.invokevirtual 82, 3) := by decide +kernel
theorem dX5_back_36 : decode cX5_back 36 = .ok (.aload_n 0, 1) := by decide +kernel
theorem dX5_back_37 : decode cX5_back 37 = .ok (.iconst 0, 1) := by decide +kernel
theorem dX5_back_38 : decode cX5_back 38 = .ok (.putfield 76, 3) := by decide +kernel
theorem dX5_back_41 : decode cX5_back 41 = .ok (.aload_n 0, 1) := by decide +kernel
theorem dX5_back_42 : decode cX5_back 42 = .ok (.getfield 10, 3) := by decide +kernel
theorem dX5_back_45 : decode cX5_back 45 = .ok (.getfield 178, 3) := by decide +kernel
theorem dX5_back_48 : decode cX5_back 48 = .ok (.ireturn, 1) := by decide +kernel
theorem dX5_count_0 : decode cX5_count 0 = .ok (.iload_n 1, 1) := by decide +kernel
theorem dX5_count_1 : decode cX5_count 1 = .ok (.tableswitch 168 0 10 #[59, 67, 75, 83, 91, 102, 127, 142, 150, 158, 163], 59) := by decide +kernel
theorem dX5_count_60 : decode cX5_count 60 = .ok (.aload_n 0, 1) := by decide +kernel
theorem dX5_count_61 : decode cX5_count 61 = .ok (.getfield 10, 3) := by decide +kernel
theorem dX5_count_64 : decode cX5_count 64 = .ok (.getfield 147, 3) := by decide +kernel
theorem dX5_count_67 : decode cX5_count 67 = .ok (.ireturn, 1) := by decide +kernel
theorem dX5_count_68 : decode cX5_count 68 = .ok (.aload_n 0, 1) := by decide +kernel
theorem dX5_count_69 : decode cX5_count 69 = .ok (.getfield 10, 3) := by decide +kernel
theorem dX5_count_72 : decode cX5_count 72 = .ok (.getfield 181, 3) := by decide +kernel
theorem dX5_count_75 : decode cX5_count 75 = .ok (.ireturn, 1) := by decide +kernel
theorem dX5_count_76 : decode cX5_count 76 = .ok (.aload_n 0, 1) := by decide +kernel
theorem dX5_count_77 : decode cX5_count 77 = .ok (.getfield 10, 3) := by decide +kernel
theorem dX5_count_80 : decode cX5_count 80 = .ok (.getfield 184, 3) := by decide +kernel
theorem dX5_count_83 : decode cX5_count 83 = .ok (.ireturn, 1) := by decide +kernel
theorem dX5_count_84 : decode cX5_count 84 = .ok (.aload_n 0, 1) := by decide +kernel
theorem dX5_count_85 : decode cX5_count 85 = .ok (.getfield 10, 3) := by decide +kernel
theorem dX5_count_88 : decode cX5_count 88 = .ok (.getfield 178, 3) := by decide +kernel
theorem dX5_count_91 : decode cX5_count 91 = .ok (.ireturn, 1) := by decide +kernel
theorem dX5_count_92 : decode cX5_count 92 = .ok (.aload_n 0, 1) := by decide +kernel
theorem dX5_count_93 : decode cX5_count 93 = .ok (.getfield 10, 3) := by decide +kernel
theorem dX5_count_96 : decode cX5_count 96 = .ok (.getfield 132, 3) := by decide +kernel
theorem dX5_count_99 : decode cX5_count 99 = .ok (.getfield 136, 3) := by decide +kernel
theorem dX5_count_102 : decode cX5_count 102 = .ok (.ireturn, 1) := by decide +kernel
theorem dX5_count_103 : decode cX5_count 103 = .ok (.aload_n 0, 1) := by decide +kernel
theorem dX5_count_104 : decode cX5_count 104 = .ok (.getfield 10, 3) := by decide +kernel
theorem dX5_count_107 : decode cX5_count 107 = .ok (.getfield 132, 3) := by decide +kernel
theorem dX5_count_110 : decode cX5_count 110 = .ok (.getfield 136, 3) := by decide +kernel
theorem dX5_count_113 : decode cX5_count 113 = .ok (.aload_n 0, 1) := by decide +kernel
theorem dX5_count_114 : decode cX5_count 114 = .ok (.getfield 10, 3) := by decide +kernel
theorem dX5_count_117 : decode cX5_count 117 = .ok (.getfield 132, 3) := by decide +kernel
theorem dX5_count_120 : decode cX5_count 120 = .ok (.iconst 4, 1) := by decide +kernel
theorem dX5_count_121 : decode cX5_count 121 = .ok (.bipush (-9), 2) := by decide +kernel
theorem dX5_count_123 : decode cX5_count 123 = .ok (.invokevirtual 150, 3) := by decide +kernel
theorem dX5_count_126 : decode cX5_count 126 = .ok (.isub, 1) := by decide +kernel
theorem dX5_count_127 : decode cX5_count 127 = .ok (.ireturn, 1) := by decide +kernel
theorem dX5_count_128 : decode cX5_count 128 = .ok (.aload_n 0, 1) := by decide +kernel
theorem dX5_count_129 : decode cX5_count 129 = .ok (.getfield 10, 3) := by decide +kernel
theorem dX5_count_132 : decode cX5_count 132 = .ok (.getfield 132, 3) := by decide +kernel
theorem dX5_count_135 : decode cX5_count 135 = .ok (.bipush 10, 2) := by decide +kernel
theorem dX5_count_137 : decode cX5_count 137 = .ok (.bipush (-9), 2) := by decide +kernel
theorem dX5_count_139 : decode cX5_count 139 = .ok (.invokevirtual 150, 3) := by decide +kernel
theorem dX5_count_142 : decode cX5_count 142 = .ok (.ireturn, 1) := by decide +kernel
theorem dX5_count_143 : decode cX5_count 143 = .ok (.aload_n 0, 1) := by decide +kernel
theorem dX5_count_144 : decode cX5_count 144 = .ok (.getfield 10, 3) := by decide +kernel
theorem dX5_count_147 : decode cX5_count 147 = .ok (.invokevirtual 187, 3) := by decide +kernel
theorem dX5_count_150 : decode cX5_count 150 = .ok (.ireturn, 1) := by decide +kernel
theorem dX5_count_151 : decode cX5_count 151 = .ok (.aload_n 0, 1) := by decide +kernel
theorem dX5_count_152 : decode cX5_count 152 = .ok (.getfield 10, 3) := by decide +kernel
theorem dX5_count_155 : decode cX5_count 155 = .ok (.getfield 190, 3) := by decide +kernel
theorem dX5_count_158 : decode cX5_count 158 = .ok (.ireturn, 1) := by decide +kernel
theorem dX5_count_159 : decode cX5_count 159 = .ok (.aload_n 0, 1) := by decide +kernel
theorem dX5_count_160 : decode cX5_count 160 = .ok (.getfield 58, 3) := by decide +kernel
theorem dX5_count_163 : decode cX5_count 163 = .ok (.ireturn, 1) := by decide +kernel
theorem dX5_count_164 : decode cX5_count 164 = .ok (.aload_n 0, 1) := by decide +kernel
theorem dX5_count_165 : decode cX5_count 165 = .ok (.getfield 76, 3) := by decide +kernel
theorem dX5_count_168 : decode cX5_count 168 = .ok (.ireturn, 1) := by decide +kernel
theorem dX5_count_169 : decode cX5_count 169 = .ok (.iconst (-1), 1) := by decide +kernel
theorem dX5_count_170 : decode cX5_count 170 = .ok (.ireturn, 1) := by decide +kernel
theorem dX5_isWithin_0 : decode cX5_isWithin 0 = .ok (.iload_n 0, 1) := by decide +kernel
theorem dX5_isWithin_1 : decode cX5_isWithin 1 = .ok (.iload_n 1, 1) := by decide +kernel
theorem dX5_isWithin_2 : decode cX5_isWithin 2 = .ok (.if_icmp .lt 12, 3) := by decide +kernel
theorem dX5_isWithin_5 : decode cX5_isWithin 5 = .ok (.iload_n 0, 1) := by decide +kernel
theorem dX5_isWithin_6 : decode cX5_isWithin 6 = .ok (.iload_n 2, 1) := by decide +kernel
theorem dX5_isWithin_7 : decode cX5_isWithin 7 = .ok (.if_icmp .gt 7, 3) := by decide +kernel
theorem dX5_isWithin_10 : decode cX5_isWithin 10 = .ok (.iconst 1, 1) := by decide +kernel
theorem dX5_isWithin_11 : decode cX5_isWithin 11 = .ok (.goto 4, 3) := by decide +kernel
theorem dX5_isWithin_14 : decode cX5_isWithin 14 = .ok (.iconst 0, 1) := by decide +kernel
theorem dX5_isWithin_15 : decode cX5_isWithin 15 = .ok (.ireturn, 1) := by decide +kernel
theorem dX5_isWrap_0 : decode cX5_isWrap 0 = .ok (.iload_n 0, 1) := by decide +kernel
theorem dX5_isWrap_1 : decode cX5_isWrap 1 = .ok (.ifCond .eq 13, 3) := by decide +kernel
theorem dX5_isWrap_4 : decode cX5_isWrap 4 = .ok (.iload_n 0, 1) := by decide +kernel
theorem dX5_isWrap_5 : decode cX5_isWrap 5 = .ok (.iconst 2, 1) := by decide +kernel
theorem dX5_isWrap_6 : decode cX5_isWrap 6 = .ok (.bipush 8, 2) := by decide +kernel
theorem dX5_isWrap_8 : decode cX5_isWrap 8 = .ok (.invokestatic 47, 3) := by decide +kernel
theorem dX5_isWrap_11 : decode cX5_isWrap 11 = .ok (.ifCond .eq 7, 3) := by decide +kernel
theorem dX5_isWrap_14 : decode cX5_isWrap 14 = .ok (.iconst 1, 1) := by decide +kernel
theorem dX5_isWrap_15 : decode cX5_isWrap 15 = .ok (.goto 4, 3) := by decide +kernel
theorem dX5_isWrap_18 : decode cX5_isWrap 18 = .ok (.iconst 0, 1) := by decide +kernel
theorem dX5_isWrap_19 : decode cX5_isWrap 19 = .ok (.ireturn, 1) := by decide +kernel
theorem dX5_isPace_0 : decode cX5_isPace 0 = .ok (.iload_n 0, 1) := by decide +kernel
theorem dX5_isPace_1 : decode cX5_isPace 1 = .ok (.iconst 1, 1) := by decide +kernel
theorem dX5_isPace_2 : decode cX5_isPace 2 = .ok (.iconst 4, 1) := by decide +kernel
theorem dX5_isPace_3 : decode cX5_isPace 3 = .ok (.invokestatic 47, 3) := by decide +kernel
theorem dX5_isPace_6 : decode cX5_isPace 6 = .ok (.ireturn, 1) := by decide +kernel
theorem dX5_remember_0 : decode cX5_remember 0 = .ok (.aload_n 0, 1) := by decide +kernel
theorem dX5_remember_1 : decode cX5_remember 1 = .ok (.getfield 19, 3) := by decide +kernel
theorem dX5_remember_4 : decode cX5_remember 4 = .ok (.aload_n 0, 1) := by decide +kernel
theorem dX5_remember_5 : decode cX5_remember 5 = .ok (.getfield 79, 3) := by decide +kernel
theorem dX5_remember_8 : decode cX5_remember 8 = .ok (.aaload, 1) := by decide +kernel
theorem dX5_remember_9 : decode cX5_remember 9 = .ok (.aload_n 0, 1) := by decide +kernel
theorem dX5_remember_10 : decode cX5_remember 10 = .ok (.getfield 10, 3) := by decide +kernel
theorem dX5_remember_13 : decode cX5_remember 13 = .ok (.invokevirtual 82, 3) := by decide +kernel
theorem dX5_remember_16 : decode cX5_remember 16 = .ok (.aload_n 0, 1) := by decide +kernel
theorem dX5_remember_17 : decode cX5_remember 17 = .ok (.aload_n 0, 1) := by decide +kernel
theorem dX5_remember_18 : decode cX5_remember 18 = .ok (.getfield 79, 3) := by decide +kernel
theorem dX5_remember_21 : decode cX5_remember 21 = .ok (.iconst 4, 1) := by decide +kernel
theorem dX5_remember_22 : decode cX5_remember 22 = .ok (.if_icmp .ne 7, 3) := by decide +kernel
theorem dX5_remember_25 : decode cX5_remember 25 = .ok (.iconst 0, 1) := by decide +kernel
theorem dX5_remember_26 : decode cX5_remember 26 = .ok (.goto 9, 3) := by decide +kernel
theorem dX5_remember_29 : decode cX5_remember 29 = .ok (.aload_n 0, 1) := by decide +kernel
theorem dX5_remember_30 : decode cX5_remember 30 = .ok (.getfield 79, 3) := by decide +kernel
theorem dX5_remember_33 : decode cX5_remember 33 = .ok (.iconst 1, 1) := by decide +kernel
theorem dX5_remember_34 : decode cX5_remember 34 = .ok (.iadd, 1) := by decide +kernel
theorem dX5_remember_35 : decode cX5_remember 35 = .ok (.putfield 79, 3) := by decide +kernel
theorem dX5_remember_38 : decode cX5_remember 38 = .ok (.aload_n 0, 1) := by decide +kernel
theorem dX5_remember_39 : decode cX5_remember 39 = .ok (.aload_n 0, 1) := by decide +kernel
theorem dX5_remember_40 : decode cX5_remember 40 = .ok (.getfield 76, 3) := by decide +kernel
theorem dX5_remember_43 : decode cX5_remember 43 = .ok (.iconst 1, 1) := by decide +kernel
theorem dX5_remember_44 : decode cX5_remember 44 = .ok (.iadd, 1) := by decide +kernel
theorem dX5_remember_45 : decode cX5_remember 45 = .ok (.iconst 5, 1) := by decide +kernel
theorem dX5_remember_46 : decode cX5_remember 46 = .ok (.invokestatic 193, 3) := by decide +kernel
theorem dX5_remember_49 : decode cX5_remember 49 = .ok (.putfield 76, 3) := by decide +kernel
theorem dX5_remember_52 : decode cX5_remember 52 = .ok (.return_, 1) := by decide +kernel
theorem dX5_beginAct_0 : decode cX5_beginAct 0 = .ok (.aload_n 0, 1) := by decide +kernel
theorem dX5_beginAct_1 : decode cX5_beginAct 1 = .ok (.getfield 10, 3) := by decide +kernel
theorem dX5_beginAct_4 : decode cX5_beginAct 4 = .ok (.iload_n 1, 1) := by decide +kernel
theorem dX5_beginAct_5 : decode cX5_beginAct 5 = .ok (.invokevirtual 69, 3) := by decide +kernel
theorem dX5_beginAct_8 : decode cX5_beginAct 8 = .ok (.ifCond .ne 6, 3) := by decide +kernel
theorem dX5_beginAct_11 : decode cX5_beginAct 11 = .ok (.bipush (-2), 2) := by decide +kernel
theorem dX5_beginAct_13 : decode cX5_beginAct 13 = .ok (.ireturn, 1) := by decide +kernel
theorem dX5_beginAct_14 : decode cX5_beginAct 14 = .ok (.aload_n 0, 1) := by decide +kernel
theorem dX5_beginAct_15 : decode cX5_beginAct 15 = .ok (.getfield 10, 3) := by decide +kernel
theorem dX5_beginAct_18 : decode cX5_beginAct 18 = .ok (.getfield 190, 3) := by decide +kernel
theorem dX5_beginAct_21 : decode cX5_beginAct 21 = .ok (.bipush 24, 2) := by decide +kernel
theorem dX5_beginAct_23 : decode cX5_beginAct 23 = .ok (.if_icmp .lt 6, 3) := by decide +kernel
theorem dX5_beginAct_26 : decode cX5_beginAct 26 = .ok (.bipush (-3), 2) := by decide +kernel
theorem dX5_beginAct_28 : decode cX5_beginAct 28 = .ok (.ireturn, 1) := by decide +kernel
theorem dX5_beginAct_29 : decode cX5_beginAct 29 = .ok (.aload_n 0, 1) := by decide +kernel
theorem dX5_beginAct_30 : decode cX5_beginAct 30 = .ok (.invokevirtual 55, 3) := by decide +kernel
theorem dX5_beginAct_33 : decode cX5_beginAct 33 = .ok (.aload_n 0, 1) := by decide +kernel
theorem dX5_beginAct_34 : decode cX5_beginAct 34 = .ok (.getfield 10, 3) := by decide +kernel
theorem dX5_beginAct_37 : decode cX5_beginAct 37 = .ok (.iload_n 1, 1) := by decide +kernel
theorem dX5_beginAct_38 : decode cX5_beginAct 38 = .ok (.iload_n 2, 1) := by decide +kernel
theorem dX5_beginAct_39 : decode cX5_beginAct 39 = .ok (.iload_n 3, 1) := by decide +kernel
theorem dX5_beginAct_40 : decode cX5_beginAct 40 = .ok (.invokevirtual 198, 3) := by decide +kernel
theorem dX5_beginAct_43 : decode cX5_beginAct 43 = .ok (.aload_n 0, 1) := by decide +kernel
theorem dX5_beginAct_44 : decode cX5_beginAct 44 = .ok (.getfield 10, 3) := by decide +kernel
theorem dX5_beginAct_47 : decode cX5_beginAct 47 = .ok (.getfield 178, 3) := by decide +kernel
theorem dX5_beginAct_50 : decode cX5_beginAct 50 = .ok (.ireturn, 1) := by decide +kernel
theorem dX5_readsOfTrial_0 : decode cX5_readsOfTrial 0 = .ok (.aload_n 0, 1) := by decide +kernel
theorem dX5_readsOfTrial_1 : decode cX5_readsOfTrial 1 = .ok (.getfield 16, 3) := by decide +kernel
theorem dX5_readsOfTrial_4 : decode cX5_readsOfTrial 4 = .ok (.aload_n 0, 1) := by decide +kernel
theorem dX5_readsOfTrial_5 : decode cX5_readsOfTrial 5 = .ok (.getfield 10, 3) := by decide +kernel
theorem dX5_readsOfTrial_8 : decode cX5_readsOfTrial 8 = .ok (.getfield 147, 3) := by decide +kernel
theorem dX5_readsOfTrial_11 : decode cX5_readsOfTrial 11 = .ok (.iload_n 1, 1) := by decide +kernel
theorem dX5_readsOfTrial_12 : decode cX5_readsOfTrial 12 = .ok (.aload_n 0, 1) := by decide +kernel
theorem dX5_readsOfTrial_13 : decode cX5_readsOfTrial 13 = .ok (.getfield 10, 3) := by decide +kernel
theorem dX5_readsOfTrial_16 : decode cX5_readsOfTrial 16 = .ok (.getfield 184, 3) := by decide +kernel
theorem dX5_readsOfTrial_19 : decode cX5_readsOfTrial 19 = .ok (.invokevirtual 43, 3) := by decide +kernel
theorem dX5_readsOfTrial_22 : decode cX5_readsOfTrial 22 = .ok (.aload_n 0, 1) := by decide +kernel
theorem dX5_readsOfTrial_23 : decode cX5_readsOfTrial 23 = .ok (.getfield 16, 3) := by decide +kernel
theorem dX5_readsOfTrial_26 : decode cX5_readsOfTrial 26 = .ok (.iconst 0, 1) := by decide +kernel
theorem dX5_readsOfTrial_27 : decode cX5_readsOfTrial 27 = .ok (.iconst 1, 1) := by decide +kernel
theorem dX5_readsOfTrial_28 : decode cX5_readsOfTrial 28 = .ok (.bipush (-9), 2) := by decide +kernel
theorem dX5_readsOfTrial_30 : decode cX5_readsOfTrial 30 = .ok (.invokevirtual 198, 3) := by decide +kernel
theorem dX5_readsOfTrial_33 : decode cX5_readsOfTrial 33 = .ok (.iconst 1, 1) := by decide +kernel
theorem dX5_readsOfTrial_34 : decode cX5_readsOfTrial 34 = .ok (.istore 4, 2) := by decide +kernel
theorem dX5_readsOfTrial_36 : decode cX5_readsOfTrial 36 = .ok (.aload_n 0, 1) := by decide +kernel
theorem dX5_readsOfTrial_37 : decode cX5_readsOfTrial 37 = .ok (.getfield 16, 3) := by decide +kernel
theorem dX5_readsOfTrial_40 : decode cX5_readsOfTrial 40 = .ok (.iconst 1, 1) := by decide +kernel
theorem dX5_readsOfTrial_41 : decode cX5_readsOfTrial 41 = .ok (.iconst 2, 1) := by decide +kernel
theorem dX5_readsOfTrial_42 : decode cX5_readsOfTrial 42 = .ok (.iload 4, 2) := by decide +kernel
theorem dX5_readsOfTrial_44 : decode cX5_readsOfTrial 44 = .ok (.invokevirtual 198, 3) := by decide +kernel
theorem dX5_readsOfTrial_47 : decode cX5_readsOfTrial 47 = .ok (.iconst 0, 1) := by decide +kernel
theorem dX5_readsOfTrial_48 : decode cX5_readsOfTrial 48 = .ok (.istore 5, 2) := by decide +kernel
theorem dX5_readsOfTrial_50 : decode cX5_readsOfTrial 50 = .ok (.iconst 0, 1) := by decide +kernel
theorem dX5_readsOfTrial_51 : decode cX5_readsOfTrial 51 = .ok (.istore 6, 2) := by decide +kernel
theorem dX5_readsOfTrial_53 : decode cX5_readsOfTrial 53 = .ok (.iload 6, 2) := by decide +kernel
theorem dX5_readsOfTrial_55 : decode cX5_readsOfTrial 55 = .ok (.sipush 1000, 3) := by decide +kernel
theorem dX5_readsOfTrial_58 : decode cX5_readsOfTrial 58 = .ok (.if_icmp .ge 105, 3) := by decide +kernel
theorem dX5_readsOfTrial_61 : decode cX5_readsOfTrial 61 = .ok (.aload_n 0, 1) := by decide +kernel
theorem dX5_readsOfTrial_62 : decode cX5_readsOfTrial 62 = .ok (.getfield 16, 3) := by decide +kernel
theorem dX5_readsOfTrial_65 : decode cX5_readsOfTrial 65 = .ok (.iconst 0, 1) := by decide +kernel
theorem dX5_readsOfTrial_66 : decode cX5_readsOfTrial 66 = .ok (.invokevirtual 69, 3) := by decide +kernel
theorem dX5_readsOfTrial_69 : decode cX5_readsOfTrial 69 = .ok (.ifCond .ne 94, 3) := by decide +kernel
theorem dX5_readsOfTrial_72 : decode cX5_readsOfTrial 72 = .ok (.iconst 0, 1) := by decide +kernel
theorem dX5_readsOfTrial_73 : decode cX5_readsOfTrial 73 = .ok (.istore 7, 2) := by decide +kernel
theorem dX5_readsOfTrial_75 : decode cX5_readsOfTrial 75 = .ok (.iload 7, 2) := by decide +kernel
theorem dX5_readsOfTrial_77 : decode cX5_readsOfTrial 77 = .ok (.iload_n 2, 1) := by decide +kernel
theorem dX5_readsOfTrial_78 : decode cX5_readsOfTrial 78 = .ok (.if_icmp .ge 31, 3) := by decide +kernel
theorem dX5_readsOfTrial_81 : decode cX5_readsOfTrial 81 = .ok (.aload_n 0, 1) := by decide +kernel
theorem dX5_readsOfTrial_82 : decode cX5_readsOfTrial 82 = .ok (.getfield 16, 3) := by decide +kernel
theorem dX5_readsOfTrial_85 : decode cX5_readsOfTrial 85 = .ok (.iconst 0, 1) := by decide +kernel
theorem dX5_readsOfTrial_86 : decode cX5_readsOfTrial 86 = .ok (.invokevirtual 69, 3) := by decide +kernel
theorem dX5_readsOfTrial_89 : decode cX5_readsOfTrial 89 = .ok (.ifCond .ne 20, 3) := by decide +kernel
theorem dX5_readsOfTrial_92 : decode cX5_readsOfTrial 92 = .ok (.aload_n 0, 1) := by decide +kernel
theorem dX5_readsOfTrial_93 : decode cX5_readsOfTrial 93 = .ok (.getfield 16, 3) := by decide +kernel
theorem dX5_readsOfTrial_96 : decode cX5_readsOfTrial 96 = .ok (.iconst 0, 1) := by decide +kernel
theorem dX5_readsOfTrial_97 : decode cX5_readsOfTrial 97 = .ok (.invokevirtual 200, 3) := by decide +kernel
theorem dX5_readsOfTrial_100 : decode cX5_readsOfTrial 100 = .ok (.iinc 5 1, 3) := by decide +kernel
theorem dX5_readsOfTrial_103 : decode cX5_readsOfTrial 103 = .ok (.iinc 7 1, 3) := by decide +kernel
theorem dX5_readsOfTrial_106 : decode cX5_readsOfTrial 106 = .ok (.goto (-31), 3) := by decide +kernel
theorem dX5_readsOfTrial_109 : decode cX5_readsOfTrial 109 = .ok (.iconst 0, 1) := by decide +kernel
theorem dX5_readsOfTrial_110 : decode cX5_readsOfTrial 110 = .ok (.istore 7, 2) := by decide +kernel
theorem dX5_readsOfTrial_112 : decode cX5_readsOfTrial 112 = .ok (.iload 7, 2) := by decide +kernel
theorem dX5_readsOfTrial_114 : decode cX5_readsOfTrial 114 = .ok (.iload_n 3, 1) := by decide +kernel
theorem dX5_readsOfTrial_115 : decode cX5_readsOfTrial 115 = .ok (.if_icmp .ge 42, 3) := by decide +kernel
theorem dX5_readsOfTrial_118 : decode cX5_readsOfTrial 118 = .ok (.aload_n 0, 1) := by decide +kernel
theorem dX5_readsOfTrial_119 : decode cX5_readsOfTrial 119 = .ok (.getfield 16, 3) := by decide +kernel
theorem dX5_readsOfTrial_122 : decode cX5_readsOfTrial 122 = .ok (.iconst 1, 1) := by decide +kernel
theorem dX5_readsOfTrial_123 : decode cX5_readsOfTrial 123 = .ok (.invokevirtual 200, 3) := by decide +kernel
theorem dX5_readsOfTrial_126 : decode cX5_readsOfTrial 126 = .ok (.aload_n 0, 1) := by decide +kernel
theorem dX5_readsOfTrial_127 : decode cX5_readsOfTrial 127 = .ok (.getfield 16, 3) := by decide +kernel
theorem dX5_readsOfTrial_130 : decode cX5_readsOfTrial 130 = .ok (.iconst 1, 1) := by decide +kernel
theorem dX5_readsOfTrial_131 : decode cX5_readsOfTrial 131 = .ok (.invokevirtual 69, 3) := by decide +kernel
theorem dX5_readsOfTrial_134 : decode cX5_readsOfTrial 134 = .ok (.ifCond .eq 17, 3) := by decide +kernel
theorem dX5_readsOfTrial_137 : decode cX5_readsOfTrial 137 = .ok (.iinc 4 1, 3) := by decide +kernel
theorem dX5_readsOfTrial_140 : decode cX5_readsOfTrial 140 = .ok (.aload_n 0, 1) := by decide +kernel
theorem dX5_readsOfTrial_141 : decode cX5_readsOfTrial 141 = .ok (.getfield 16, 3) := by decide +kernel
theorem dX5_readsOfTrial_144 : decode cX5_readsOfTrial 144 = .ok (.iconst 1, 1) := by decide +kernel
theorem dX5_readsOfTrial_145 : decode cX5_readsOfTrial 145 = .ok (.iconst 2, 1) := by decide +kernel
theorem dX5_readsOfTrial_146 : decode cX5_readsOfTrial 146 = .ok (.iload 4, 2) := by decide +kernel
theorem dX5_readsOfTrial_148 : decode cX5_readsOfTrial 148 = .ok (.invokevirtual 198, 3) := by decide +kernel
theorem dX5_readsOfTrial_151 : decode cX5_readsOfTrial 151 = .ok (.iinc 7 1, 3) := by decide +kernel
theorem dX5_readsOfTrial_154 : decode cX5_readsOfTrial 154 = .ok (.goto (-42), 3) := by decide +kernel
theorem dX5_readsOfTrial_157 : decode cX5_readsOfTrial 157 = .ok (.iinc 6 1, 3) := by decide +kernel
theorem dX5_readsOfTrial_160 : decode cX5_readsOfTrial 160 = .ok (.goto (-107), 3) := by decide +kernel
theorem dX5_readsOfTrial_163 : decode cX5_readsOfTrial 163 = .ok (.iload 5, 2) := by decide +kernel
theorem dX5_readsOfTrial_165 : decode cX5_readsOfTrial 165 = .ok (.ireturn, 1) := by decide +kernel
theorem dX5_movesThatFit_0 : decode cX5_movesThatFit 0 = .ok (.iconst 0, 1) := by decide +kernel
theorem dX5_movesThatFit_1 : decode cX5_movesThatFit 1 = .ok (.istore_n 1, 1) := by decide +kernel
theorem dX5_movesThatFit_2 : decode cX5_movesThatFit 2 = .ok (.iconst 1, 1) := by decide +kernel
theorem dX5_movesThatFit_3 : decode cX5_movesThatFit 3 = .ok (.istore_n 2, 1) := by decide +kernel
theorem dX5_movesThatFit_4 : decode cX5_movesThatFit 4 = .ok (.iload_n 2, 1) := by decide +kernel
theorem dX5_movesThatFit_5 : decode cX5_movesThatFit 5 = .ok (.iconst 4, 1) := by decide +kernel
theorem dX5_movesThatFit_6 : decode cX5_movesThatFit 6 = .ok (.if_icmp .gt 25, 3) := by decide +kernel
theorem dX5_movesThatFit_9 : decode cX5_movesThatFit 9 = .ok (.aload_n 0, 1) := by decide +kernel
theorem dX5_movesThatFit_10 : decode cX5_movesThatFit 10 = .ok (.iload_n 2, 1) := by decide +kernel
theorem dX5_movesThatFit_11 : decode cX5_movesThatFit 11 = .ok (.invokevirtual 204, 3) := by decide +kernel
theorem dX5_movesThatFit_14 : decode cX5_movesThatFit 14 = .ok (.ifCond .eq 11, 3) := by decide +kernel
theorem dX5_movesThatFit_17 : decode cX5_movesThatFit 17 = .ok (.iload_n 1, 1) := by decide +kernel
theorem dX5_movesThatFit_18 : decode cX5_movesThatFit 18 = .ok (.iconst 1, 1) := by decide +kernel
theorem dX5_movesThatFit_19 : decode cX5_movesThatFit 19 = .ok (.iload_n 2, 1) := by decide +kernel
theorem dX5_movesThatFit_20 : decode cX5_movesThatFit 20 = .ok (.iconst 1, 1) := by decide +kernel
theorem dX5_movesThatFit_21 : decode cX5_movesThatFit 21 = .ok (.isub, 1) := by decide +kernel
theorem dX5_movesThatFit_22 : decode cX5_movesThatFit 22 = .ok (.ishl, 1) := by decide +kernel
theorem dX5_movesThatFit_23 : decode cX5_movesThatFit 23 = .ok (.ior, 1) := by decide +kernel
theorem dX5_movesThatFit_24 : decode cX5_movesThatFit 24 = .ok (.istore_n 1, 1) := by decide +kernel
theorem dX5_movesThatFit_25 : decode cX5_movesThatFit 25 = .ok (.iinc 2 1, 3) := by decide +kernel
theorem dX5_movesThatFit_28 : decode cX5_movesThatFit 28 = .ok (.goto (-24), 3) := by decide +kernel
theorem dX5_movesThatFit_31 : decode cX5_movesThatFit 31 = .ok (.iload_n 1, 1) := by decide +kernel
theorem dX5_movesThatFit_32 : decode cX5_movesThatFit 32 = .ok (.ireturn, 1) := by decide +kernel
theorem dX5_fitsAllSeen_0 : decode cX5_fitsAllSeen 0 = .ok (.iconst 0, 1) := by decide +kernel
theorem dX5_fitsAllSeen_1 : decode cX5_fitsAllSeen 1 = .ok (.istore_n 2, 1) := by decide +kernel
theorem dX5_fitsAllSeen_2 : decode cX5_fitsAllSeen 2 = .ok (.iload_n 2, 1) := by decide +kernel
theorem dX5_fitsAllSeen_3 : decode cX5_fitsAllSeen 3 = .ok (.aload_n 0, 1) := by decide +kernel
theorem dX5_fitsAllSeen_4 : decode cX5_fitsAllSeen 4 = .ok (.getfield 58, 3) := by decide +kernel
theorem dX5_fitsAllSeen_7 : decode cX5_fitsAllSeen 7 = .ok (.if_icmp .ge 37, 3) := by decide +kernel
theorem dX5_fitsAllSeen_10 : decode cX5_fitsAllSeen 10 = .ok (.aload_n 0, 1) := by decide +kernel
theorem dX5_fitsAllSeen_11 : decode cX5_fitsAllSeen 11 = .ok (.iload_n 1, 1) := by decide +kernel
theorem dX5_fitsAllSeen_12 : decode cX5_fitsAllSeen 12 = .ok (.aload_n 0, 1) := by decide +kernel
theorem dX5_fitsAllSeen_13 : decode cX5_fitsAllSeen 13 = .ok (.getfield 30, 3) := by decide +kernel
theorem dX5_fitsAllSeen_16 : decode cX5_fitsAllSeen 16 = .ok (.iload_n 2, 1) := by decide +kernel
theorem dX5_fitsAllSeen_17 : decode cX5_fitsAllSeen 17 = .ok (.iaload, 1) := by decide +kernel
theorem dX5_fitsAllSeen_18 : decode cX5_fitsAllSeen 18 = .ok (.aload_n 0, 1) := by decide +kernel
theorem dX5_fitsAllSeen_19 : decode cX5_fitsAllSeen 19 = .ok (.getfield 34, 3) := by decide +kernel
theorem dX5_fitsAllSeen_22 : decode cX5_fitsAllSeen 22 = .ok (.iload_n 2, 1) := by decide +kernel
theorem dX5_fitsAllSeen_23 : decode cX5_fitsAllSeen 23 = .ok (.iaload, 1) := by decide +kernel
theorem dX5_fitsAllSeen_24 : decode cX5_fitsAllSeen 24 = .ok (.invokevirtual 163, 3) := by decide +kernel
theorem dX5_fitsAllSeen_27 : decode cX5_fitsAllSeen 27 = .ok (.aload_n 0, 1) := by decide +kernel
theorem dX5_fitsAllSeen_28 : decode cX5_fitsAllSeen 28 = .ok (.getfield 37, 3) := by decide +kernel
theorem dX5_fitsAllSeen_31 : decode cX5_fitsAllSeen 31 = .ok (.iload_n 2, 1) := by decide +kernel
theorem dX5_fitsAllSeen_32 : decode cX5_fitsAllSeen 32 = .ok (.iaload, 1) := by decide +kernel
theorem dX5_fitsAllSeen_33 : decode cX5_fitsAllSeen 33 = .ok (.if_icmp .eq 5, 3) := by decide +kernel
theorem dX5_fitsAllSeen_36 : decode cX5_fitsAllSeen 36 = .ok (.iconst 0, 1) := by decide +kernel
theorem dX5_fitsAllSeen_37 : decode cX5_fitsAllSeen 37 = .ok (.ireturn, 1) := by decide +kernel
theorem dX5_fitsAllSeen_38 : decode cX5_fitsAllSeen 38 = .ok (.iinc 2 1, 3) := by decide +kernel
theorem dX5_fitsAllSeen_41 : decode cX5_fitsAllSeen 41 = .ok (.goto (-39), 3) := by decide +kernel
theorem dX5_fitsAllSeen_44 : decode cX5_fitsAllSeen 44 = .ok (.iconst 1, 1) := by decide +kernel
theorem dX5_fitsAllSeen_45 : decode cX5_fitsAllSeen 45 = .ok (.ireturn, 1) := by decide +kernel
theorem dX5_mostAlike_0 : decode cX5_mostAlike 0 = .ok (.iconst 1, 1) := by decide +kernel
theorem dX5_mostAlike_1 : decode cX5_mostAlike 1 = .ok (.istore 4, 2) := by decide +kernel
theorem dX5_mostAlike_3 : decode cX5_mostAlike 3 = .ok (.iload 4, 2) := by decide +kernel
theorem dX5_mostAlike_5 : decode cX5_mostAlike 5 = .ok (.iconst 4, 1) := by decide +kernel
theorem dX5_mostAlike_6 : decode cX5_mostAlike 6 = .ok (.if_icmp .gt 40, 3) := by decide +kernel
theorem dX5_mostAlike_9 : decode cX5_mostAlike 9 = .ok (.aload_n 0, 1) := by decide +kernel
theorem dX5_mostAlike_10 : decode cX5_mostAlike 10 = .ok (.getfield 40, 3) := by decide +kernel
theorem dX5_mostAlike_13 : decode cX5_mostAlike 13 = .ok (.iload 4, 2) := by decide +kernel
theorem dX5_mostAlike_15 : decode cX5_mostAlike 15 = .ok (.iconst 1, 1) := by decide +kernel
theorem dX5_mostAlike_16 : decode cX5_mostAlike 16 = .ok (.isub, 1) := by decide +kernel
theorem dX5_mostAlike_17 : decode cX5_mostAlike 17 = .ok (.iload_n 1, 1) := by decide +kernel
theorem dX5_mostAlike_18 : decode cX5_mostAlike 18 = .ok (.iload 4, 2) := by decide +kernel
theorem dX5_mostAlike_20 : decode cX5_mostAlike 20 = .ok (.invokestatic 207, 3) := by decide +kernel
theorem dX5_mostAlike_23 : decode cX5_mostAlike 23 = .ok (.ifCond .eq 14, 3) := by decide +kernel
theorem dX5_mostAlike_26 : decode cX5_mostAlike 26 = .ok (.aload_n 0, 1) := by decide +kernel
theorem dX5_mostAlike_27 : decode cX5_mostAlike 27 = .ok (.iload 4, 2) := by decide +kernel
theorem dX5_mostAlike_29 : decode cX5_mostAlike 29 = .ok (.iload_n 2, 1) := by decide +kernel
theorem dX5_mostAlike_30 : decode cX5_mostAlike 30 = .ok (.iload_n 3, 1) := by decide +kernel
theorem dX5_mostAlike_31 : decode cX5_mostAlike 31 = .ok (.invokevirtual 163, 3) := by decide +kernel
theorem dX5_mostAlike_34 : decode cX5_mostAlike 34 = .ok (.goto 5, 3) := by decide +kernel
theorem dX5_mostAlike_37 : decode cX5_mostAlike 37 = .ok (.bipush (-9), 2) := by decide +kernel
theorem dX5_mostAlike_39 : decode cX5_mostAlike 39 = .ok (.iastore, 1) := by decide +kernel
theorem dX5_mostAlike_40 : decode cX5_mostAlike 40 = .ok (.iinc 4 1, 3) := by decide +kernel
theorem dX5_mostAlike_43 : decode cX5_mostAlike 43 = .ok (.goto (-40), 3) := by decide +kernel
theorem dX5_mostAlike_46 : decode cX5_mostAlike 46 = .ok (.iconst 0, 1) := by decide +kernel
theorem dX5_mostAlike_47 : decode cX5_mostAlike 47 = .ok (.istore 4, 2) := by decide +kernel
theorem dX5_mostAlike_49 : decode cX5_mostAlike 49 = .ok (.iconst 0, 1) := by decide +kernel
theorem dX5_mostAlike_50 : decode cX5_mostAlike 50 = .ok (.istore 5, 2) := by decide +kernel
theorem dX5_mostAlike_52 : decode cX5_mostAlike 52 = .ok (.iload 5, 2) := by decide +kernel
theorem dX5_mostAlike_54 : decode cX5_mostAlike 54 = .ok (.iconst 4, 1) := by decide +kernel
theorem dX5_mostAlike_55 : decode cX5_mostAlike 55 = .ok (.if_icmp .ge 39, 3) := by decide +kernel
theorem dX5_mostAlike_58 : decode cX5_mostAlike 58 = .ok (.aload_n 0, 1) := by decide +kernel
theorem dX5_mostAlike_59 : decode cX5_mostAlike 59 = .ok (.getfield 40, 3) := by decide +kernel
theorem dX5_mostAlike_62 : decode cX5_mostAlike 62 = .ok (.iload 5, 2) := by decide +kernel
theorem dX5_mostAlike_64 : decode cX5_mostAlike 64 = .ok (.iaload, 1) := by decide +kernel
theorem dX5_mostAlike_65 : decode cX5_mostAlike 65 = .ok (.bipush (-9), 2) := by decide +kernel
theorem dX5_mostAlike_67 : decode cX5_mostAlike 67 = .ok (.if_icmp .eq 21, 3) := by decide +kernel
theorem dX5_mostAlike_70 : decode cX5_mostAlike 70 = .ok (.iload 4, 2) := by decide +kernel
theorem dX5_mostAlike_72 : decode cX5_mostAlike 72 = .ok (.aload_n 0, 1) := by decide +kernel
theorem dX5_mostAlike_73 : decode cX5_mostAlike 73 = .ok (.aload_n 0, 1) := by decide +kernel
theorem dX5_mostAlike_74 : decode cX5_mostAlike 74 = .ok (.getfield 40, 3) := by decide +kernel
theorem dX5_mostAlike_77 : decode cX5_mostAlike 77 = .ok (.iload 5, 2) := by decide +kernel
theorem dX5_mostAlike_79 : decode cX5_mostAlike 79 = .ok (.iaload, 1) := by decide +kernel
theorem dX5_mostAlike_80 : decode cX5_mostAlike 80 = .ok (.invokevirtual 211, 3) := by decide +kernel
theorem dX5_mostAlike_83 : decode cX5_mostAlike 83 = .ok (.invokestatic 214, 3) := by decide +kernel
theorem dX5_mostAlike_86 : decode cX5_mostAlike 86 = .ok (.istore 4, 2) := by decide +kernel
theorem dX5_mostAlike_88 : decode cX5_mostAlike 88 = .ok (.iinc 5 1, 3) := by decide +kernel
theorem dX5_mostAlike_91 : decode cX5_mostAlike 91 = .ok (.goto (-39), 3) := by decide +kernel
theorem dX5_mostAlike_94 : decode cX5_mostAlike 94 = .ok (.iload 4, 2) := by decide +kernel
theorem dX5_mostAlike_96 : decode cX5_mostAlike 96 = .ok (.ireturn, 1) := by decide +kernel
theorem dX5_countAlike_0 : decode cX5_countAlike 0 = .ok (.iconst 0, 1) := by decide +kernel
theorem dX5_countAlike_1 : decode cX5_countAlike 1 = .ok (.istore_n 2, 1) := by decide +kernel
theorem dX5_countAlike_2 : decode cX5_countAlike 2 = .ok (.iconst 0, 1) := by decide +kernel
theorem dX5_countAlike_3 : decode cX5_countAlike 3 = .ok (.istore_n 3, 1) := by decide +kernel
theorem dX5_countAlike_4 : decode cX5_countAlike 4 = .ok (.iload_n 3, 1) := by decide +kernel
theorem dX5_countAlike_5 : decode cX5_countAlike 5 = .ok (.iconst 4, 1) := by decide +kernel
theorem dX5_countAlike_6 : decode cX5_countAlike 6 = .ok (.if_icmp .ge 22, 3) := by decide +kernel
theorem dX5_countAlike_9 : decode cX5_countAlike 9 = .ok (.aload_n 0, 1) := by decide +kernel
theorem dX5_countAlike_10 : decode cX5_countAlike 10 = .ok (.getfield 40, 3) := by decide +kernel
theorem dX5_countAlike_13 : decode cX5_countAlike 13 = .ok (.iload_n 3, 1) := by decide +kernel
theorem dX5_countAlike_14 : decode cX5_countAlike 14 = .ok (.iaload, 1) := by decide +kernel
theorem dX5_countAlike_15 : decode cX5_countAlike 15 = .ok (.iload_n 1, 1) := by decide +kernel
theorem dX5_countAlike_16 : decode cX5_countAlike 16 = .ok (.if_icmp .ne 6, 3) := by decide +kernel
theorem dX5_countAlike_19 : decode cX5_countAlike 19 = .ok (.iinc 2 1, 3) := by decide +kernel
theorem dX5_countAlike_22 : decode cX5_countAlike 22 = .ok (.iinc 3 1, 3) := by decide +kernel
theorem dX5_countAlike_25 : decode cX5_countAlike 25 = .ok (.goto (-21), 3) := by decide +kernel
theorem dX5_countAlike_28 : decode cX5_countAlike 28 = .ok (.iload_n 2, 1) := by decide +kernel
theorem dX5_countAlike_29 : decode cX5_countAlike 29 = .ok (.ireturn, 1) := by decide +kernel
theorem dX5_isIn_0 : decode cX5_isIn 0 = .ok (.iload_n 0, 1) := by decide +kernel
theorem dX5_isIn_1 : decode cX5_isIn 1 = .ok (.iload_n 1, 1) := by decide +kernel
theorem dX5_isIn_2 : decode cX5_isIn 2 = .ok (.iconst 1, 1) := by decide +kernel
theorem dX5_isIn_3 : decode cX5_isIn 3 = .ok (.isub, 1) := by decide +kernel
theorem dX5_isIn_4 : decode cX5_isIn 4 = .ok (.ishr, 1) := by decide +kernel
theorem dX5_isIn_5 : decode cX5_isIn 5 = .ok (.iconst 1, 1) := by decide +kernel
theorem dX5_isIn_6 : decode cX5_isIn 6 = .ok (.iand, 1) := by decide +kernel
theorem dX5_isIn_7 : decode cX5_isIn 7 = .ok (.iconst 1, 1) := by decide +kernel
theorem dX5_isIn_8 : decode cX5_isIn 8 = .ok (.if_icmp .ne 7, 3) := by decide +kernel
theorem dX5_isIn_11 : decode cX5_isIn 11 = .ok (.iconst 1, 1) := by decide +kernel
theorem dX5_isIn_12 : decode cX5_isIn 12 = .ok (.goto 4, 3) := by decide +kernel
theorem dX5_isIn_15 : decode cX5_isIn 15 = .ok (.iconst 0, 1) := by decide +kernel
theorem dX5_isIn_16 : decode cX5_isIn 16 = .ok (.ireturn, 1) := by decide +kernel
theorem dX5_copyAll_0 : decode cX5_copyAll 0 = .ok (.aload_n 0, 1) := by decide +kernel
theorem dX5_copyAll_1 : decode cX5_copyAll 1 = .ok (.iconst 0, 1) := by decide +kernel
theorem dX5_copyAll_2 : decode cX5_copyAll 2 = .ok (.aload_n 1, 1) := by decide +kernel
theorem dX5_copyAll_3 : decode cX5_copyAll 3 = .ok (.iconst 0, 1) := by decide +kernel
theorem dX5_copyAll_4 : decode cX5_copyAll 4 = .ok (.aload_n 0, 1) := by decide +kernel
theorem dX5_copyAll_5 : decode cX5_copyAll 5 = .ok (.arraylength, 1) := by decide +kernel
theorem dX5_copyAll_6 : decode cX5_copyAll 6 = .ok (.aload_n 1, 1) := by decide +kernel
theorem dX5_copyAll_7 : decode cX5_copyAll 7 = .ok (.arraylength, 1) := by decide +kernel
theorem dX5_copyAll_8 : decode cX5_copyAll 8 = .ok (.invokestatic 193, 3) := by decide +kernel
theorem dX5_copyAll_11 : decode cX5_copyAll 11 = .ok (.invokestatic 217, 3) := by decide +kernel
theorem dX5_copyAll_14 : decode cX5_copyAll 14 = .ok (.return_, 1) := by decide +kernel
theorem dJ6_bitCount_0f7a4_0 : decode cJ6_bitCount_0f7a4 0 = .ok (.iload_n 0, 1) := by decide +kernel
theorem dJ6_bitCount_0f7a4_1 : decode cJ6_bitCount_0f7a4 1 = .ok (.iload_n 0, 1) := by decide +kernel
theorem dJ6_bitCount_0f7a4_2 : decode cJ6_bitCount_0f7a4 2 = .ok (.iconst 1, 1) := by decide +kernel
theorem dJ6_bitCount_0f7a4_3 : decode cJ6_bitCount_0f7a4 3 = .ok (.iushr, 1) := by decide +kernel
theorem dJ6_bitCount_0f7a4_4 : decode cJ6_bitCount_0f7a4 4 = .ok (.ldc_w 265, 3) := by decide +kernel
theorem dJ6_bitCount_0f7a4_7 : decode cJ6_bitCount_0f7a4 7 = .ok (.iand, 1) := by decide +kernel
theorem dJ6_bitCount_0f7a4_8 : decode cJ6_bitCount_0f7a4 8 = .ok (.isub, 1) := by decide +kernel
theorem dJ6_bitCount_0f7a4_9 : decode cJ6_bitCount_0f7a4 9 = .ok (.istore_n 0, 1) := by decide +kernel
theorem dJ6_bitCount_0f7a4_10 : decode cJ6_bitCount_0f7a4 10 = .ok (.iload_n 0, 1) := by decide +kernel
theorem dJ6_bitCount_0f7a4_11 : decode cJ6_bitCount_0f7a4 11 = .ok (.ldc_w 266, 3) := by decide +kernel
theorem dJ6_bitCount_0f7a4_14 : decode cJ6_bitCount_0f7a4 14 = .ok (.iand, 1) := by decide +kernel
theorem dJ6_bitCount_0f7a4_15 : decode cJ6_bitCount_0f7a4 15 = .ok (.iload_n 0, 1) := by decide +kernel
theorem dJ6_bitCount_0f7a4_16 : decode cJ6_bitCount_0f7a4 16 = .ok (.iconst 2, 1) := by decide +kernel
theorem dJ6_bitCount_0f7a4_17 : decode cJ6_bitCount_0f7a4 17 = .ok (.iushr, 1) := by decide +kernel
theorem dJ6_bitCount_0f7a4_18 : decode cJ6_bitCount_0f7a4 18 = .ok (.ldc_w 266, 3) := by decide +kernel
theorem dJ6_bitCount_0f7a4_21 : decode cJ6_bitCount_0f7a4 21 = .ok (.iand, 1) := by decide +kernel
theorem dJ6_bitCount_0f7a4_22 : decode cJ6_bitCount_0f7a4 22 = .ok (.iadd, 1) := by decide +kernel
theorem dJ6_bitCount_0f7a4_23 : decode cJ6_bitCount_0f7a4 23 = .ok (.istore_n 0, 1) := by decide +kernel
theorem dJ6_bitCount_0f7a4_24 : decode cJ6_bitCount_0f7a4 24 = .ok (.iload_n 0, 1) := by decide +kernel
theorem dJ6_bitCount_0f7a4_25 : decode cJ6_bitCount_0f7a4 25 = .ok (.iload_n 0, 1) := by decide +kernel
theorem dJ6_bitCount_0f7a4_26 : decode cJ6_bitCount_0f7a4 26 = .ok (.iconst 4, 1) := by decide +kernel
theorem dJ6_bitCount_0f7a4_27 : decode cJ6_bitCount_0f7a4 27 = .ok (.iushr, 1) := by decide +kernel
theorem dJ6_bitCount_0f7a4_28 : decode cJ6_bitCount_0f7a4 28 = .ok (.iadd, 1) := by decide +kernel
theorem dJ6_bitCount_0f7a4_29 : decode cJ6_bitCount_0f7a4 29 = .ok (.ldc_w 267, 3) := by decide +kernel
theorem dJ6_bitCount_0f7a4_32 : decode cJ6_bitCount_0f7a4 32 = .ok (.iand, 1) := by decide +kernel
theorem dJ6_bitCount_0f7a4_33 : decode cJ6_bitCount_0f7a4 33 = .ok (.istore_n 0, 1) := by decide +kernel
theorem dJ6_bitCount_0f7a4_34 : decode cJ6_bitCount_0f7a4 34 = .ok (.iload_n 0, 1) := by decide +kernel
theorem dJ6_bitCount_0f7a4_35 : decode cJ6_bitCount_0f7a4 35 = .ok (.iload_n 0, 1) := by decide +kernel
theorem dJ6_bitCount_0f7a4_36 : decode cJ6_bitCount_0f7a4 36 = .ok (.bipush 8, 2) := by decide +kernel
theorem dJ6_bitCount_0f7a4_38 : decode cJ6_bitCount_0f7a4 38 = .ok (.iushr, 1) := by decide +kernel
theorem dJ6_bitCount_0f7a4_39 : decode cJ6_bitCount_0f7a4 39 = .ok (.iadd, 1) := by decide +kernel
theorem dJ6_bitCount_0f7a4_40 : decode cJ6_bitCount_0f7a4 40 = .ok (.istore_n 0, 1) := by decide +kernel
theorem dJ6_bitCount_0f7a4_41 : decode cJ6_bitCount_0f7a4 41 = .ok (.iload_n 0, 1) := by decide +kernel
theorem dJ6_bitCount_0f7a4_42 : decode cJ6_bitCount_0f7a4 42 = .ok (.iload_n 0, 1) := by decide +kernel
theorem dJ6_bitCount_0f7a4_43 : decode cJ6_bitCount_0f7a4 43 = .ok (.bipush 16, 2) := by decide +kernel
theorem dJ6_bitCount_0f7a4_45 : decode cJ6_bitCount_0f7a4 45 = .ok (.iushr, 1) := by decide +kernel
theorem dJ6_bitCount_0f7a4_46 : decode cJ6_bitCount_0f7a4 46 = .ok (.iadd, 1) := by decide +kernel
theorem dJ6_bitCount_0f7a4_47 : decode cJ6_bitCount_0f7a4 47 = .ok (.istore_n 0, 1) := by decide +kernel
theorem dJ6_bitCount_0f7a4_48 : decode cJ6_bitCount_0f7a4 48 = .ok (.iload_n 0, 1) := by decide +kernel
theorem dJ6_bitCount_0f7a4_49 : decode cJ6_bitCount_0f7a4 49 = .ok (.bipush 63, 2) := by decide +kernel
theorem dJ6_bitCount_0f7a4_51 : decode cJ6_bitCount_0f7a4 51 = .ok (.iand, 1) := by decide +kernel
theorem dJ6_bitCount_0f7a4_52 : decode cJ6_bitCount_0f7a4 52 = .ok (.ireturn, 1) := by decide +kernel
theorem dJ9_max_7cf53_0 : decode cJ9_max_7cf53 0 = .ok (.iload_n 0, 1) := by decide +kernel
theorem dJ9_max_7cf53_1 : decode cJ9_max_7cf53 1 = .ok (.iload_n 1, 1) := by decide +kernel
theorem dJ9_max_7cf53_2 : decode cJ9_max_7cf53 2 = .ok (.if_icmp .lt 7, 3) := by decide +kernel
theorem dJ9_max_7cf53_5 : decode cJ9_max_7cf53 5 = .ok (.iload_n 0, 1) := by decide +kernel
theorem dJ9_max_7cf53_6 : decode cJ9_max_7cf53 6 = .ok (.goto 4, 3) := by decide +kernel
theorem dJ9_max_7cf53_9 : decode cJ9_max_7cf53 9 = .ok (.iload_n 1, 1) := by decide +kernel
theorem dJ9_max_7cf53_10 : decode cJ9_max_7cf53 10 = .ok (.ireturn, 1) := by decide +kernel
theorem dJ9_min_7cf53_0 : decode cJ9_min_7cf53 0 = .ok (.iload_n 0, 1) := by decide +kernel
theorem dJ9_min_7cf53_1 : decode cJ9_min_7cf53 1 = .ok (.iload_n 1, 1) := by decide +kernel
theorem dJ9_min_7cf53_2 : decode cJ9_min_7cf53 2 = .ok (.if_icmp .gt 7, 3) := by decide +kernel
theorem dJ9_min_7cf53_5 : decode cJ9_min_7cf53 5 = .ok (.iload_n 0, 1) := by decide +kernel
theorem dJ9_min_7cf53_6 : decode cJ9_min_7cf53 6 = .ok (.goto 4, 3) := by decide +kernel
theorem dJ9_min_7cf53_9 : decode cJ9_min_7cf53 9 = .ok (.iload_n 1, 1) := by decide +kernel
theorem dJ9_min_7cf53_10 : decode cJ9_min_7cf53 10 = .ok (.ireturn, 1) := by decide +kernel
theorem dJ7_fill_53178_0 : decode cJ7_fill_53178 0 = .ok (.iconst 0, 1) := by decide +kernel
theorem dJ7_fill_53178_1 : decode cJ7_fill_53178 1 = .ok (.istore_n 2, 1) := by decide +kernel
theorem dJ7_fill_53178_2 : decode cJ7_fill_53178 2 = .ok (.aload_n 0, 1) := by decide +kernel
theorem dJ7_fill_53178_3 : decode cJ7_fill_53178 3 = .ok (.arraylength, 1) := by decide +kernel
theorem dJ7_fill_53178_4 : decode cJ7_fill_53178 4 = .ok (.istore_n 3, 1) := by decide +kernel
theorem dJ7_fill_53178_5 : decode cJ7_fill_53178 5 = .ok (.iload_n 2, 1) := by decide +kernel
theorem dJ7_fill_53178_6 : decode cJ7_fill_53178 6 = .ok (.iload_n 3, 1) := by decide +kernel
theorem dJ7_fill_53178_7 : decode cJ7_fill_53178 7 = .ok (.if_icmp .ge 13, 3) := by decide +kernel
theorem dJ7_fill_53178_10 : decode cJ7_fill_53178 10 = .ok (.aload_n 0, 1) := by decide +kernel
theorem dJ7_fill_53178_11 : decode cJ7_fill_53178 11 = .ok (.iload_n 2, 1) := by decide +kernel
theorem dJ7_fill_53178_12 : decode cJ7_fill_53178 12 = .ok (.iload_n 1, 1) := by decide +kernel
theorem dJ7_fill_53178_13 : decode cJ7_fill_53178 13 = .ok (.iastore, 1) := by decide +kernel
theorem dJ7_fill_53178_14 : decode cJ7_fill_53178 14 = .ok (.iinc 2 1, 3) := by decide +kernel
theorem dJ7_fill_53178_17 : decode cJ7_fill_53178 17 = .ok (.goto (-12), 3) := by decide +kernel
theorem dJ7_fill_53178_20 : decode cJ7_fill_53178 20 = .ok (.return_, 1) := by decide +kernel
end
section
theorem dX6_init_0 : decode cX6_init 0 = .ok (.aload_n 0, 1) := by decide +kernel
theorem dX6_init_1 : decode cX6_init 1 = .ok (.invokespecial 1, 3) := by decide +kernel
theorem dX6_init_4 : decode cX6_init 4 = .ok (.aload_n 0, 1) := by decide +kernel
theorem dX6_init_5 : decode cX6_init 5 = .ok (.sipush 512, 3) := by decide +kernel
theorem dX6_init_8 : decode cX6_init 8 = .ok (.newarray .int, 2) := by decide +kernel
theorem dX6_init_10 : decode cX6_init 10 = .ok (.putfield 7, 3) := by decide +kernel
theorem dX6_init_13 : decode cX6_init 13 = .ok (.aload_n 0, 1) := by decide +kernel
theorem dX6_init_14 : decode cX6_init 14 = .ok (.sipush 512, 3) := by decide +kernel
theorem dX6_init_17 : decode cX6_init 17 = .ok (.newarray .int, 2) := by decide +kernel
theorem dX6_init_19 : decode cX6_init 19 = .ok (.putfield 13, 3) := by decide +kernel
theorem dX6_init_22 : decode cX6_init 22 = .ok (.aload_n 0, 1) := by decide +kernel
theorem dX6_init_23 : decode cX6_init 23 = .ok (.sipush 2560, 3) := by decide +kernel
theorem dX6_init_26 : decode cX6_init 26 = .ok (.newarray .int, 2) := by decide +kernel
theorem dX6_init_28 : decode cX6_init 28 = .ok (.putfield 16, 3) := by decide +kernel
theorem dX6_init_31 : decode cX6_init 31 = .ok (.aload_n 0, 1) := by decide +kernel
theorem dX6_init_32 : decode cX6_init 32 = .ok (.sipush 1024, 3) := by decide +kernel
theorem dX6_init_35 : decode cX6_init 35 = .ok (.newarray .int, 2) := by decide +kernel
theorem dX6_init_37 : decode cX6_init 37 = .ok (.putfield 19, 3) := by decide +kernel
theorem dX6_init_40 : decode cX6_init 40 = .ok (.aload_n 0, 1) := by decide +kernel
theorem dX6_init_41 : decode cX6_init 41 = .ok (.iconst 2, 1) := by decide +kernel
theorem dX6_init_42 : decode cX6_init 42 = .ok (.newarray .boolean, 2) := by decide +kernel
theorem dX6_init_44 : decode cX6_init 44 = .ok (.putfield 22, 3) := by decide +kernel
theorem dX6_init_47 : decode cX6_init 47 = .ok (.aload_n 0, 1) := by decide +kernel
theorem dX6_init_48 : decode cX6_init 48 = .ok (.bipush 18, 2) := by decide +kernel
theorem dX6_init_50 : decode cX6_init 50 = .ok (.newarray .int, 2) := by decide +kernel
theorem dX6_init_52 : decode cX6_init 52 = .ok (.putfield 26, 3) := by decide +kernel
theorem dX6_init_55 : decode cX6_init 55 = .ok (.aload_n 0, 1) := by decide +kernel
theorem dX6_init_56 : decode cX6_init 56 = .ok (.iconst 4, 1) := by decide +kernel
theorem dX6_init_57 : decode cX6_init 57 = .ok (.newarray .int, 2) := by decide +kernel
theorem dX6_init_59 : decode cX6_init 59 = .ok (.putfield 29, 3) := by decide +kernel
theorem dX6_init_62 : decode cX6_init 62 = .ok (.aload_n 0, 1) := by decide +kernel
theorem dX6_init_63 : decode cX6_init 63 = .ok (.getfield 7, 3) := by decide +kernel
theorem dX6_init_66 : decode cX6_init 66 = .ok (.iconst 3, 1) := by decide +kernel
theorem dX6_init_67 : decode cX6_init 67 = .ok (.iconst 2, 1) := by decide +kernel
theorem dX6_init_68 : decode cX6_init 68 = .ok (.iconst 0, 1) := by decide +kernel
theorem dX6_init_69 : decode cX6_init 69 = .ok (.invokestatic 32, 3) := by decide +kernel
theorem dX6_init_72 : decode cX6_init 72 = .ok (.return_, 1) := by decide +kernel
theorem dX6_bares_0 : decode cX6_bares 0 = .ok (.iconst 0, 1) := by decide +kernel
theorem dX6_bares_1 : decode cX6_bares 1 = .ok (.istore 4, 2) := by decide +kernel
theorem dX6_bares_3 : decode cX6_bares 3 = .ok (.iload 4, 2) := by decide +kernel
theorem dX6_bares_5 : decode cX6_bares 5 = .ok (.sipush 512, 3) := by decide +kernel
theorem dX6_bares_8 : decode cX6_bares 8 = .ok (.if_icmp .ge 14, 3) := by decide +kernel
theorem dX6_bares_11 : decode cX6_bares 11 = .ok (.aload_n 0, 1) := by decide +kernel
theorem dX6_bares_12 : decode cX6_bares 12 = .ok (.iload 4, 2) := by decide +kernel
theorem dX6_bares_14 : decode cX6_bares 14 = .ok (.iconst 0, 1) := by decide +kernel
theorem dX6_bares_15 : decode cX6_bares 15 = .ok (.iastore, 1) := by decide +kernel
theorem dX6_bares_16 : decode cX6_bares 16 = .ok (.iinc 4 1, 3) := by decide +kernel
theorem dX6_bares_19 : decode cX6_bares 19 = .ok (.goto (-16), 3) := by decide +kernel
theorem dX6_bares_22 : decode cX6_bares 22 = .ok (.aload_n 0, 1) := by decide +kernel
theorem dX6_bares_23 : decode cX6_bares 23 = .ok (.iconst 0, 1) := by decide +kernel
theorem dX6_bares_24 : decode cX6_bares 24 = .ok (.iload_n 1, 1) := by decide +kernel
theorem dX6_bares_25 : decode cX6_bares 25 = .ok (.iastore, 1) := by decide +kernel
theorem dX6_bares_26 : decode cX6_bares 26 = .ok (.aload_n 0, 1) := by decide +kernel
theorem dX6_bares_27 : decode cX6_bares 27 = .ok (.iconst 1, 1) := by decide +kernel
theorem dX6_bares_28 : decode cX6_bares 28 = .ok (.iload_n 2, 1) := by decide +kernel
theorem dX6_bares_29 : decode cX6_bares 29 = .ok (.iastore, 1) := by decide +kernel
theorem dX6_bares_30 : decode cX6_bares 30 = .ok (.aload_n 0, 1) := by decide +kernel
theorem dX6_bares_31 : decode cX6_bares 31 = .ok (.iconst 2, 1) := by decide +kernel
theorem dX6_bares_32 : decode cX6_bares 32 = .ok (.iload_n 3, 1) := by decide +kernel
theorem dX6_bares_33 : decode cX6_bares 33 = .ok (.iastore, 1) := by decide +kernel
theorem dX6_bares_34 : decode cX6_bares 34 = .ok (.return_, 1) := by decide +kernel
theorem dX6_in_0 : decode cX6_in 0 = .ok (.iload_n 0, 1) := by decide +kernel
theorem dX6_in_1 : decode cX6_in 1 = .ok (.iload_n 1, 1) := by decide +kernel
theorem dX6_in_2 : decode cX6_in 2 = .ok (.if_icmp .lt 12, 3) := by decide +kernel
theorem dX6_in_5 : decode cX6_in 5 = .ok (.iload_n 0, 1) := by decide +kernel
theorem dX6_in_6 : decode cX6_in 6 = .ok (.iload_n 2, 1) := by decide +kernel
theorem dX6_in_7 : decode cX6_in 7 = .ok (.if_icmp .gt 7, 3) := by decide +kernel
theorem dX6_in_10 : decode cX6_in 10 = .ok (.iconst 1, 1) := by decide +kernel
theorem dX6_in_11 : decode cX6_in 11 = .ok (.goto 4, 3) := by decide +kernel
theorem dX6_in_14 : decode cX6_in 14 = .ok (.iconst 0, 1) := by decide +kernel
theorem dX6_in_15 : decode cX6_in 15 = .ok (.ireturn, 1) := by decide +kernel
theorem dX6_writerAt_0 : decode cX6_writerAt 0 = .ok (.bipush 32, 2) := by decide +kernel
theorem dX6_writerAt_2 : decode cX6_writerAt 2 = .ok (.bipush 42, 2) := by decide +kernel
theorem dX6_writerAt_4 : decode cX6_writerAt 4 = .ok (.iload_n 0, 1) := by decide +kernel
theorem dX6_writerAt_5 : decode cX6_writerAt 5 = .ok (.imul, 1) := by decide +kernel
theorem dX6_writerAt_6 : decode cX6_writerAt 6 = .ok (.iadd, 1) := by decide +kernel
theorem dX6_writerAt_7 : decode cX6_writerAt 7 = .ok (.ireturn, 1) := by decide +kernel
theorem dX6_cellAt_0 : decode cX6_cellAt 0 = .ok (.bipush 8, 2) := by decide +kernel
theorem dX6_cellAt_2 : decode cX6_cellAt 2 = .ok (.bipush 6, 2) := by decide +kernel
theorem dX6_cellAt_4 : decode cX6_cellAt 4 = .ok (.iload_n 0, 1) := by decide +kernel
theorem dX6_cellAt_5 : decode cX6_cellAt 5 = .ok (.imul, 1) := by decide +kernel
theorem dX6_cellAt_6 : decode cX6_cellAt 6 = .ok (.iadd, 1) := by decide +kernel
theorem dX6_cellAt_7 : decode cX6_cellAt 7 = .ok (.ireturn, 1) := by decide +kernel
theorem dX6_idles_0 : decode cX6_idles 0 = .ok (.iconst 0, 1) := by decide +kernel
theorem dX6_idles_1 : decode cX6_idles 1 = .ok (.istore_n 2, 1) := by decide +kernel
theorem dX6_idles_2 : decode cX6_idles 2 = .ok (.iload_n 2, 1) := by decide +kernel
theorem dX6_idles_3 : decode cX6_idles 3 = .ok (.bipush 42, 2) := by decide +kernel
theorem dX6_idles_5 : decode cX6_idles 5 = .ok (.if_icmp .ge 18, 3) := by decide +kernel
theorem dX6_idles_8 : decode cX6_idles 8 = .ok (.aload_n 0, 1) := by decide +kernel
theorem dX6_idles_9 : decode cX6_idles 9 = .ok (.iload_n 1, 1) := by decide +kernel
theorem dX6_idles_10 : decode cX6_idles 10 = .ok (.invokestatic 40, 3) := by decide +kernel
theorem dX6_idles_13 : decode cX6_idles 13 = .ok (.iload_n 2, 1) := by decide +kernel
theorem dX6_idles_14 : decode cX6_idles 14 = .ok (.iadd, 1) := by decide +kernel
theorem dX6_idles_15 : decode cX6_idles 15 = .ok (.iconst 0, 1) := by decide +kernel
theorem dX6_idles_16 : decode cX6_idles 16 = .ok (.iastore, 1) := by decide +kernel
theorem dX6_idles_17 : decode cX6_idles 17 = .ok (.iinc 2 1, 3) := by decide +kernel
theorem dX6_idles_20 : decode cX6_idles 20 = .ok (.goto (-18), 3) := by decide +kernel
theorem dX6_idles_23 : decode cX6_idles 23 = .ok (.return_, 1) := by decide +kernel
theorem dX6_acts_0 : decode cX6_acts 0 = .ok (.iload_n 1, 1) := by decide +kernel
theorem dX6_acts_1 : decode cX6_acts 1 = .ok (.invokestatic 40, 3) := by decide +kernel
theorem dX6_acts_4 : decode cX6_acts 4 = .ok (.istore 4, 2) := by decide +kernel
theorem dX6_acts_6 : decode cX6_acts 6 = .ok (.aload_n 0, 1) := by decide +kernel
theorem dX6_acts_7 : decode cX6_acts 7 = .ok (.iload_n 1, 1) := by decide +kernel
theorem dX6_acts_8 : decode cX6_acts 8 = .ok (.invokestatic 44, 3) := by decide +kernel
theorem dX6_acts_11 : decode cX6_acts 11 = .ok (.aload_n 0, 1) := by decide +kernel
theorem dX6_acts_12 : decode cX6_acts 12 = .ok (.iload 4, 2) := by decide +kernel
theorem dX6_acts_14 : decode cX6_acts 14 = .ok (.iconst 0, 1) := by decide +kernel
theorem dX6_acts_15 : decode cX6_acts 15 = .ok (.iadd, 1) := by decide +kernel
theorem dX6_acts_16 : decode cX6_acts 16 = .ok (.iload_n 2, 1) := by decide +kernel
theorem dX6_acts_17 : decode cX6_acts 17 = .ok (.iastore, 1) := by decide +kernel
theorem dX6_acts_18 : decode cX6_acts 18 = .ok (.aload_n 0, 1) := by decide +kernel
theorem dX6_acts_19 : decode cX6_acts 19 = .ok (.iload 4, 2) := by decide +kernel
theorem dX6_acts_21 : decode cX6_acts 21 = .ok (.iconst 1, 1) := by decide +kernel
theorem dX6_acts_22 : decode cX6_acts 22 = .ok (.iadd, 1) := by decide +kernel
theorem dX6_acts_23 : decode cX6_acts 23 = .ok (.iload_n 3, 1) := by decide +kernel
theorem dX6_acts_24 : decode cX6_acts 24 = .ok (.iastore, 1) := by decide +kernel
theorem dX6_acts_25 : decode cX6_acts 25 = .ok (.aload_n 0, 1) := by decide +kernel
theorem dX6_acts_26 : decode cX6_acts 26 = .ok (.iload 4, 2) := by decide +kernel
theorem dX6_acts_28 : decode cX6_acts 28 = .ok (.iconst 3, 1) := by decide +kernel
theorem dX6_acts_29 : decode cX6_acts 29 = .ok (.iadd, 1) := by decide +kernel
theorem dX6_acts_30 : decode cX6_acts 30 = .ok (.aload_n 0, 1) := by decide +kernel
theorem dX6_acts_31 : decode cX6_acts 31 = .ok (.iconst 3, 1) := by decide +kernel
theorem dX6_acts_32 : decode cX6_acts 32 = .ok (.iaload, 1) := by decide +kernel
theorem dX6_acts_33 : decode cX6_acts 33 = .ok (.iastore, 1) := by decide +kernel
theorem dX6_acts_34 : decode cX6_acts 34 = .ok (.aload_n 0, 1) := by decide +kernel
theorem dX6_acts_35 : decode cX6_acts 35 = .ok (.iconst 4, 1) := by decide +kernel
theorem dX6_acts_36 : decode cX6_acts 36 = .ok (.dup2, 1) := by decide +kernel
theorem dX6_acts_37 : decode cX6_acts 37 = .ok (.iaload, 1) := by decide +kernel
theorem dX6_acts_38 : decode cX6_acts 38 = .ok (.iconst 1, 1) := by decide +kernel
theorem dX6_acts_39 : decode cX6_acts 39 = .ok (.iadd, 1) := by decide +kernel
theorem dX6_acts_40 : decode cX6_acts 40 = .ok (.iastore, 1) := by decide +kernel
theorem dX6_acts_41 : decode cX6_acts 41 = .ok (.return_, 1) := by decide +kernel
theorem dX6_writesNow_0 : decode cX6_writesNow 0 = .ok (.iload_n 1, 1) := by decide +kernel
theorem dX6_writesNow_1 : decode cX6_writesNow 1 = .ok (.invokestatic 40, 3) := by decide +kernel
theorem dX6_writesNow_4 : decode cX6_writesNow 4 = .ok (.istore_n 2, 1) := by decide +kernel
theorem dX6_writesNow_5 : decode cX6_writesNow 5 = .ok (.iload_n 1, 1) := by decide +kernel
theorem dX6_writesNow_6 : decode cX6_writesNow 6 = .ok (.invokestatic 48, 3) := by decide +kernel
theorem dX6_writesNow_9 : decode cX6_writesNow 9 = .ok (.istore_n 3, 1) := by decide +kernel
theorem dX6_writesNow_10 : decode cX6_writesNow 10 = .ok (.aload_n 0, 1) := by decide +kernel
theorem dX6_writesNow_11 : decode cX6_writesNow 11 = .ok (.iload_n 3, 1) := by decide +kernel
theorem dX6_writesNow_12 : decode cX6_writesNow 12 = .ok (.aload_n 0, 1) := by decide +kernel
theorem dX6_writesNow_13 : decode cX6_writesNow 13 = .ok (.iload_n 2, 1) := by decide +kernel
theorem dX6_writesNow_14 : decode cX6_writesNow 14 = .ok (.iconst 1, 1) := by decide +kernel
theorem dX6_writesNow_15 : decode cX6_writesNow 15 = .ok (.iadd, 1) := by decide +kernel
theorem dX6_writesNow_16 : decode cX6_writesNow 16 = .ok (.iaload, 1) := by decide +kernel
theorem dX6_writesNow_17 : decode cX6_writesNow 17 = .ok (.iastore, 1) := by decide +kernel
theorem dX6_writesNow_18 : decode cX6_writesNow 18 = .ok (.aload_n 0, 1) := by decide +kernel
theorem dX6_writesNow_19 : decode cX6_writesNow 19 = .ok (.iload_n 3, 1) := by decide +kernel
theorem dX6_writesNow_20 : decode cX6_writesNow 20 = .ok (.iconst 1, 1) := by decide +kernel
theorem dX6_writesNow_21 : decode cX6_writesNow 21 = .ok (.iadd, 1) := by decide +kernel
theorem dX6_writesNow_22 : decode cX6_writesNow 22 = .ok (.dup2, 1) := by decide +kernel
theorem dX6_writesNow_23 : decode cX6_writesNow 23 = .ok (.iaload, 1) := by decide +kernel
theorem dX6_writesNow_24 : decode cX6_writesNow 24 = .ok (.iconst 1, 1) := by decide +kernel
theorem dX6_writesNow_25 : decode cX6_writesNow 25 = .ok (.iadd, 1) := by decide +kernel
theorem dX6_writesNow_26 : decode cX6_writesNow 26 = .ok (.iastore, 1) := by decide +kernel
theorem dX6_writesNow_27 : decode cX6_writesNow 27 = .ok (.aload_n 0, 1) := by decide +kernel
theorem dX6_writesNow_28 : decode cX6_writesNow 28 = .ok (.iload_n 3, 1) := by decide +kernel
theorem dX6_writesNow_29 : decode cX6_writesNow 29 = .ok (.iconst 1, 1) := by decide +kernel
theorem dX6_writesNow_30 : decode cX6_writesNow 30 = .ok (.iadd, 1) := by decide +kernel
theorem dX6_writesNow_31 : decode cX6_writesNow 31 = .ok (.aload_n 0, 1) := by decide +kernel
theorem dX6_writesNow_32 : decode cX6_writesNow 32 = .ok (.iconst 2, 1) := by decide +kernel
theorem dX6_writesNow_33 : decode cX6_writesNow 33 = .ok (.iaload, 1) := by decide +kernel
theorem dX6_writesNow_34 : decode cX6_writesNow 34 = .ok (.ifCond .ne 11, 3) := by decide +kernel
theorem dX6_writesNow_37 : decode cX6_writesNow 37 = .ok (.aload_n 0, 1) := by decide +kernel
theorem dX6_writesNow_38 : decode cX6_writesNow 38 = .ok (.iload_n 3, 1) := by decide +kernel
theorem dX6_writesNow_39 : decode cX6_writesNow 39 = .ok (.iconst 1, 1) := by decide +kernel
theorem dX6_writesNow_40 : decode cX6_writesNow 40 = .ok (.iadd, 1) := by decide +kernel
theorem dX6_writesNow_41 : decode cX6_writesNow 41 = .ok (.iaload, 1) := by decide +kernel
theorem dX6_writesNow_42 : decode cX6_writesNow 42 = .ok (.goto 12, 3) := by decide +kernel
theorem dX6_writesNow_45 : decode cX6_writesNow 45 = .ok (.aload_n 0, 1) := by decide +kernel
theorem dX6_writesNow_46 : decode cX6_writesNow 46 = .ok (.iload_n 3, 1) := by decide +kernel
theorem dX6_writesNow_47 : decode cX6_writesNow 47 = .ok (.iconst 1, 1) := by decide +kernel
theorem dX6_writesNow_48 : decode cX6_writesNow 48 = .ok (.iadd, 1) := by decide +kernel
theorem dX6_writesNow_49 : decode cX6_writesNow 49 = .ok (.iaload, 1) := by decide +kernel
theorem dX6_writesNow_50 : decode cX6_writesNow 50 = .ok (.aload_n 0, 1) := by decide +kernel
theorem dX6_writesNow_51 : decode cX6_writesNow 51 = .ok (.iconst 2, 1) := by decide +kernel
theorem dX6_writesNow_52 : decode cX6_writesNow 52 = .ok (.iaload, 1) := by decide +kernel
theorem dX6_writesNow_53 : decode cX6_writesNow 53 = .ok (.irem, 1) := by decide +kernel
theorem dX6_writesNow_54 : decode cX6_writesNow 54 = .ok (.iastore, 1) := by decide +kernel
theorem dX6_writesNow_55 : decode cX6_writesNow 55 = .ok (.iconst 0, 1) := by decide +kernel
theorem dX6_writesNow_56 : decode cX6_writesNow 56 = .ok (.istore 4, 2) := by decide +kernel
theorem dX6_writesNow_58 : decode cX6_writesNow 58 = .ok (.iload 4, 2) := by decide +kernel
theorem dX6_writesNow_60 : decode cX6_writesNow 60 = .ok (.iconst 4, 1) := by decide +kernel
theorem dX6_writesNow_61 : decode cX6_writesNow 61 = .ok (.if_icmp .ge 26, 3) := by decide +kernel
theorem dX6_writesNow_64 : decode cX6_writesNow 64 = .ok (.aload_n 0, 1) := by decide +kernel
theorem dX6_writesNow_65 : decode cX6_writesNow 65 = .ok (.iload_n 3, 1) := by decide +kernel
theorem dX6_writesNow_66 : decode cX6_writesNow 66 = .ok (.iconst 2, 1) := by decide +kernel
theorem dX6_writesNow_67 : decode cX6_writesNow 67 = .ok (.iadd, 1) := by decide +kernel
theorem dX6_writesNow_68 : decode cX6_writesNow 68 = .ok (.iload 4, 2) := by decide +kernel
theorem dX6_writesNow_70 : decode cX6_writesNow 70 = .ok (.iadd, 1) := by decide +kernel
theorem dX6_writesNow_71 : decode cX6_writesNow 71 = .ok (.aload_n 0, 1) := by decide +kernel
theorem dX6_writesNow_72 : decode cX6_writesNow 72 = .ok (.iload_n 2, 1) := by decide +kernel
theorem dX6_writesNow_73 : decode cX6_writesNow 73 = .ok (.bipush 38, 2) := by decide +kernel
theorem dX6_writesNow_75 : decode cX6_writesNow 75 = .ok (.iadd, 1) := by decide +kernel
theorem dX6_writesNow_76 : decode cX6_writesNow 76 = .ok (.iload 4, 2) := by decide +kernel
theorem dX6_writesNow_78 : decode cX6_writesNow 78 = .ok (.iadd, 1) := by decide +kernel
theorem dX6_writesNow_79 : decode cX6_writesNow 79 = .ok (.iaload, 1) := by decide +kernel
theorem dX6_writesNow_80 : decode cX6_writesNow 80 = .ok (.iastore, 1) := by decide +kernel
theorem dX6_writesNow_81 : decode cX6_writesNow 81 = .ok (.iinc 4 1, 3) := by decide +kernel
theorem dX6_writesNow_84 : decode cX6_writesNow 84 = .ok (.goto (-26), 3) := by decide +kernel
theorem dX6_writesNow_87 : decode cX6_writesNow 87 = .ok (.aload_n 0, 1) := by decide +kernel
theorem dX6_writesNow_88 : decode cX6_writesNow 88 = .ok (.bipush 6, 2) := by decide +kernel
theorem dX6_writesNow_90 : decode cX6_writesNow 90 = .ok (.iaload, 1) := by decide +kernel
theorem dX6_writesNow_91 : decode cX6_writesNow 91 = .ok (.bipush 24, 2) := by decide +kernel
theorem dX6_writesNow_93 : decode cX6_writesNow 93 = .ok (.if_icmp .ge 48, 3) := by decide +kernel
theorem dX6_writesNow_96 : decode cX6_writesNow 96 = .ok (.sipush 440, 3) := by decide +kernel
theorem dX6_writesNow_99 : decode cX6_writesNow 99 = .ok (.iconst 3, 1) := by decide +kernel
theorem dX6_writesNow_100 : decode cX6_writesNow 100 = .ok (.aload_n 0, 1) := by decide +kernel
theorem dX6_writesNow_101 : decode cX6_writesNow 101 = .ok (.bipush 6, 2) := by decide +kernel
theorem dX6_writesNow_103 : decode cX6_writesNow 103 = .ok (.iaload, 1) := by decide +kernel
theorem dX6_writesNow_104 : decode cX6_writesNow 104 = .ok (.imul, 1) := by decide +kernel
theorem dX6_writesNow_105 : decode cX6_writesNow 105 = .ok (.iadd, 1) := by decide +kernel
theorem dX6_writesNow_106 : decode cX6_writesNow 106 = .ok (.istore 4, 2) := by decide +kernel
theorem dX6_writesNow_108 : decode cX6_writesNow 108 = .ok (.aload_n 0, 1) := by decide +kernel
theorem dX6_writesNow_109 : decode cX6_writesNow 109 = .ok (.iload 4, 2) := by decide +kernel
theorem dX6_writesNow_111 : decode cX6_writesNow 111 = .ok (.aload_n 0, 1) := by decide +kernel
theorem dX6_writesNow_112 : decode cX6_writesNow 112 = .ok (.iconst 3, 1) := by decide +kernel
theorem dX6_writesNow_113 : decode cX6_writesNow 113 = .ok (.iaload, 1) := by decide +kernel
theorem dX6_writesNow_114 : decode cX6_writesNow 114 = .ok (.iastore, 1) := by decide +kernel
theorem dX6_writesNow_115 : decode cX6_writesNow 115 = .ok (.aload_n 0, 1) := by decide +kernel
theorem dX6_writesNow_116 : decode cX6_writesNow 116 = .ok (.iload 4, 2) := by decide +kernel
theorem dX6_writesNow_118 : decode cX6_writesNow 118 = .ok (.iconst 1, 1) := by decide +kernel
theorem dX6_writesNow_119 : decode cX6_writesNow 119 = .ok (.iadd, 1) := by decide +kernel
theorem dX6_writesNow_120 : decode cX6_writesNow 120 = .ok (.iload_n 1, 1) := by decide +kernel
theorem dX6_writesNow_121 : decode cX6_writesNow 121 = .ok (.iastore, 1) := by decide +kernel
theorem dX6_writesNow_122 : decode cX6_writesNow 122 = .ok (.aload_n 0, 1) := by decide +kernel
theorem dX6_writesNow_123 : decode cX6_writesNow 123 = .ok (.iload 4, 2) := by decide +kernel
theorem dX6_writesNow_125 : decode cX6_writesNow 125 = .ok (.iconst 2, 1) := by decide +kernel
theorem dX6_writesNow_126 : decode cX6_writesNow 126 = .ok (.iadd, 1) := by decide +kernel
theorem dX6_writesNow_127 : decode cX6_writesNow 127 = .ok (.aload_n 0, 1) := by decide +kernel
theorem dX6_writesNow_128 : decode cX6_writesNow 128 = .ok (.iload_n 2, 1) := by decide +kernel
theorem dX6_writesNow_129 : decode cX6_writesNow 129 = .ok (.iconst 1, 1) := by decide +kernel
theorem dX6_writesNow_130 : decode cX6_writesNow 130 = .ok (.iadd, 1) := by decide +kernel
theorem dX6_writesNow_131 : decode cX6_writesNow 131 = .ok (.iaload, 1) := by decide +kernel
theorem dX6_writesNow_132 : decode cX6_writesNow 132 = .ok (.iastore, 1) := by decide +kernel
theorem dX6_writesNow_133 : decode cX6_writesNow 133 = .ok (.aload_n 0, 1) := by decide +kernel
theorem dX6_writesNow_134 : decode cX6_writesNow 134 = .ok (.bipush 6, 2) := by decide +kernel
theorem dX6_writesNow_136 : decode cX6_writesNow 136 = .ok (.dup2, 1) := by decide +kernel
theorem dX6_writesNow_137 : decode cX6_writesNow 137 = .ok (.iaload, 1) := by decide +kernel
theorem dX6_writesNow_138 : decode cX6_writesNow 138 = .ok (.iconst 1, 1) := by decide +kernel
theorem dX6_writesNow_139 : decode cX6_writesNow 139 = .ok (.iadd, 1) := by decide +kernel
theorem dX6_writesNow_140 : decode cX6_writesNow 140 = .ok (.iastore, 1) := by decide +kernel
theorem dX6_writesNow_141 : decode cX6_writesNow 141 = .ok (.aload_n 0, 1) := by decide +kernel
theorem dX6_writesNow_142 : decode cX6_writesNow 142 = .ok (.iload_n 1, 1) := by decide +kernel
theorem dX6_writesNow_143 : decode cX6_writesNow 143 = .ok (.invokestatic 44, 3) := by decide +kernel
theorem dX6_writesNow_146 : decode cX6_writesNow 146 = .ok (.return_, 1) := by decide +kernel
theorem dX6_takes_0 : decode cX6_takes 0 = .ok (.iload_n 1, 1) := by decide +kernel
theorem dX6_takes_1 : decode cX6_takes 1 = .ok (.invokestatic 40, 3) := by decide +kernel
theorem dX6_takes_4 : decode cX6_takes 4 = .ok (.istore_n 3, 1) := by decide +kernel
theorem dX6_takes_5 : decode cX6_takes 5 = .ok (.iconst 0, 1) := by decide +kernel
theorem dX6_takes_6 : decode cX6_takes 6 = .ok (.istore 4, 2) := by decide +kernel
theorem dX6_takes_8 : decode cX6_takes 8 = .ok (.iload 4, 2) := by decide +kernel
theorem dX6_takes_10 : decode cX6_takes 10 = .ok (.aload_n 0, 1) := by decide +kernel
theorem dX6_takes_11 : decode cX6_takes 11 = .ok (.iconst 0, 1) := by decide +kernel
theorem dX6_takes_12 : decode cX6_takes 12 = .ok (.iaload, 1) := by decide +kernel
theorem dX6_takes_13 : decode cX6_takes 13 = .ok (.if_icmp .ge 55, 3) := by decide +kernel
theorem dX6_takes_16 : decode cX6_takes 16 = .ok (.aload_n 0, 1) := by decide +kernel
theorem dX6_takes_17 : decode cX6_takes 17 = .ok (.iload_n 3, 1) := by decide +kernel
theorem dX6_takes_18 : decode cX6_takes 18 = .ok (.bipush 38, 2) := by decide +kernel
theorem dX6_takes_20 : decode cX6_takes 20 = .ok (.iadd, 1) := by decide +kernel
theorem dX6_takes_21 : decode cX6_takes 21 = .ok (.iload 4, 2) := by decide +kernel
theorem dX6_takes_23 : decode cX6_takes 23 = .ok (.iadd, 1) := by decide +kernel
theorem dX6_takes_24 : decode cX6_takes 24 = .ok (.iload_n 2, 1) := by decide +kernel
theorem dX6_takes_25 : decode cX6_takes 25 = .ok (.bipush (-9), 2) := by decide +kernel
theorem dX6_takes_27 : decode cX6_takes 27 = .ok (.if_icmp .ne 18, 3) := by decide +kernel
theorem dX6_takes_30 : decode cX6_takes 30 = .ok (.aload_n 0, 1) := by decide +kernel
theorem dX6_takes_31 : decode cX6_takes 31 = .ok (.iload_n 3, 1) := by decide +kernel
theorem dX6_takes_32 : decode cX6_takes 32 = .ok (.bipush 14, 2) := by decide +kernel
theorem dX6_takes_34 : decode cX6_takes 34 = .ok (.iadd, 1) := by decide +kernel
theorem dX6_takes_35 : decode cX6_takes 35 = .ok (.bipush 6, 2) := by decide +kernel
theorem dX6_takes_37 : decode cX6_takes 37 = .ok (.iload 4, 2) := by decide +kernel
theorem dX6_takes_39 : decode cX6_takes 39 = .ok (.imul, 1) := by decide +kernel
theorem dX6_takes_40 : decode cX6_takes 40 = .ok (.iadd, 1) := by decide +kernel
theorem dX6_takes_41 : decode cX6_takes 41 = .ok (.iaload, 1) := by decide +kernel
theorem dX6_takes_42 : decode cX6_takes 42 = .ok (.goto 19, 3) := by decide +kernel
theorem dX6_takes_45 : decode cX6_takes 45 = .ok (.aload_n 0, 1) := by decide +kernel
theorem dX6_takes_46 : decode cX6_takes 46 = .ok (.iload_n 3, 1) := by decide +kernel
theorem dX6_takes_47 : decode cX6_takes 47 = .ok (.bipush 14, 2) := by decide +kernel
theorem dX6_takes_49 : decode cX6_takes 49 = .ok (.iadd, 1) := by decide +kernel
theorem dX6_takes_50 : decode cX6_takes 50 = .ok (.bipush 6, 2) := by decide +kernel
theorem dX6_takes_52 : decode cX6_takes 52 = .ok (.iload_n 2, 1) := by decide +kernel
theorem dX6_takes_53 : decode cX6_takes 53 = .ok (.imul, 1) := by decide +kernel
theorem dX6_takes_54 : decode cX6_takes 54 = .ok (.iadd, 1) := by decide +kernel
theorem dX6_takes_55 : decode cX6_takes 55 = .ok (.iconst 2, 1) := by decide +kernel
theorem dX6_takes_56 : decode cX6_takes 56 = .ok (.iadd, 1) := by decide +kernel
theorem dX6_takes_57 : decode cX6_takes 57 = .ok (.iload 4, 2) := by decide +kernel
theorem dX6_takes_59 : decode cX6_takes 59 = .ok (.iadd, 1) := by decide +kernel
theorem dX6_takes_60 : decode cX6_takes 60 = .ok (.iaload, 1) := by decide +kernel
theorem dX6_takes_61 : decode cX6_takes 61 = .ok (.iastore, 1) := by decide +kernel
theorem dX6_takes_62 : decode cX6_takes 62 = .ok (.iinc 4 1, 3) := by decide +kernel
theorem dX6_takes_65 : decode cX6_takes 65 = .ok (.goto (-57), 3) := by decide +kernel
theorem dX6_takes_68 : decode cX6_takes 68 = .ok (.aload_n 0, 1) := by decide +kernel
theorem dX6_takes_69 : decode cX6_takes 69 = .ok (.iconst 5, 1) := by decide +kernel
theorem dX6_takes_70 : decode cX6_takes 70 = .ok (.iaload, 1) := by decide +kernel
theorem dX6_takes_71 : decode cX6_takes 71 = .ok (.bipush 24, 2) := by decide +kernel
theorem dX6_takes_73 : decode cX6_takes 73 = .ok (.if_icmp .ge 119, 3) := by decide +kernel
theorem dX6_takes_76 : decode cX6_takes 76 = .ok (.sipush 200, 3) := by decide +kernel
theorem dX6_takes_79 : decode cX6_takes 79 = .ok (.bipush 10, 2) := by decide +kernel
theorem dX6_takes_81 : decode cX6_takes 81 = .ok (.aload_n 0, 1) := by decide +kernel
theorem dX6_takes_82 : decode cX6_takes 82 = .ok (.iconst 5, 1) := by decide +kernel
theorem dX6_takes_83 : decode cX6_takes 83 = .ok (.iaload, 1) := by decide +kernel
theorem dX6_takes_84 : decode cX6_takes 84 = .ok (.imul, 1) := by decide +kernel
theorem dX6_takes_85 : decode cX6_takes 85 = .ok (.iadd, 1) := by decide +kernel
theorem dX6_takes_86 : decode cX6_takes 86 = .ok (.istore 4, 2) := by decide +kernel
theorem dX6_takes_88 : decode cX6_takes 88 = .ok (.aload_n 0, 1) := by decide +kernel
theorem dX6_takes_89 : decode cX6_takes 89 = .ok (.iload 4, 2) := by decide +kernel
theorem dX6_takes_91 : decode cX6_takes 91 = .ok (.iload_n 1, 1) := by decide +kernel
theorem dX6_takes_92 : decode cX6_takes 92 = .ok (.iastore, 1) := by decide +kernel
theorem dX6_takes_93 : decode cX6_takes 93 = .ok (.aload_n 0, 1) := by decide +kernel
theorem dX6_takes_94 : decode cX6_takes 94 = .ok (.iload 4, 2) := by decide +kernel
theorem dX6_takes_96 : decode cX6_takes 96 = .ok (.iconst 1, 1) := by decide +kernel
theorem dX6_takes_97 : decode cX6_takes 97 = .ok (.iadd, 1) := by decide +kernel
theorem dX6_takes_98 : decode cX6_takes 98 = .ok (.aload_n 0, 1) := by decide +kernel
theorem dX6_takes_99 : decode cX6_takes 99 = .ok (.iload_n 3, 1) := by decide +kernel
theorem dX6_takes_100 : decode cX6_takes 100 = .ok (.iconst 3, 1) := by decide +kernel
theorem dX6_takes_101 : decode cX6_takes 101 = .ok (.iadd, 1) := by decide +kernel
theorem dX6_takes_102 : decode cX6_takes 102 = .ok (.iaload, 1) := by decide +kernel
theorem dX6_takes_103 : decode cX6_takes 103 = .ok (.iastore, 1) := by decide +kernel
theorem dX6_takes_104 : decode cX6_takes 104 = .ok (.aload_n 0, 1) := by decide +kernel
theorem dX6_takes_105 : decode cX6_takes 105 = .ok (.iload 4, 2) := by decide +kernel
theorem dX6_takes_107 : decode cX6_takes 107 = .ok (.iconst 2, 1) := by decide +kernel
theorem dX6_takes_108 : decode cX6_takes 108 = .ok (.iadd, 1) := by decide +kernel
theorem dX6_takes_109 : decode cX6_takes 109 = .ok (.aload_n 0, 1) := by decide +kernel
theorem dX6_takes_110 : decode cX6_takes 110 = .ok (.iconst 3, 1) := by decide +kernel
theorem dX6_takes_111 : decode cX6_takes 111 = .ok (.iaload, 1) := by decide +kernel
theorem dX6_takes_112 : decode cX6_takes 112 = .ok (.iastore, 1) := by decide +kernel
theorem dX6_takes_113 : decode cX6_takes 113 = .ok (.aload_n 0, 1) := by decide +kernel
theorem dX6_takes_114 : decode cX6_takes 114 = .ok (.iload 4, 2) := by decide +kernel
theorem dX6_takes_116 : decode cX6_takes 116 = .ok (.iconst 3, 1) := by decide +kernel
theorem dX6_takes_117 : decode cX6_takes 117 = .ok (.iadd, 1) := by decide +kernel
theorem dX6_takes_118 : decode cX6_takes 118 = .ok (.aload_n 0, 1) := by decide +kernel
theorem dX6_takes_119 : decode cX6_takes 119 = .ok (.iload_n 3, 1) := by decide +kernel
theorem dX6_takes_120 : decode cX6_takes 120 = .ok (.iconst 2, 1) := by decide +kernel
theorem dX6_takes_121 : decode cX6_takes 121 = .ok (.iadd, 1) := by decide +kernel
theorem dX6_takes_122 : decode cX6_takes 122 = .ok (.iaload, 1) := by decide +kernel
theorem dX6_takes_123 : decode cX6_takes 123 = .ok (.iastore, 1) := by decide +kernel
theorem dX6_takes_124 : decode cX6_takes 124 = .ok (.aload_n 0, 1) := by decide +kernel
theorem dX6_takes_125 : decode cX6_takes 125 = .ok (.iload 4, 2) := by decide +kernel
theorem dX6_takes_127 : decode cX6_takes 127 = .ok (.iconst 4, 1) := by decide +kernel
theorem dX6_takes_128 : decode cX6_takes 128 = .ok (.iadd, 1) := by decide +kernel
theorem dX6_takes_129 : decode cX6_takes 129 = .ok (.iload_n 2, 1) := by decide +kernel
theorem dX6_takes_130 : decode cX6_takes 130 = .ok (.iastore, 1) := by decide +kernel
theorem dX6_takes_131 : decode cX6_takes 131 = .ok (.aload_n 0, 1) := by decide +kernel
theorem dX6_takes_132 : decode cX6_takes 132 = .ok (.iload 4, 2) := by decide +kernel
theorem dX6_takes_134 : decode cX6_takes 134 = .ok (.iconst 5, 1) := by decide +kernel
theorem dX6_takes_135 : decode cX6_takes 135 = .ok (.iadd, 1) := by decide +kernel
theorem dX6_takes_136 : decode cX6_takes 136 = .ok (.aload_n 0, 1) := by decide +kernel
theorem dX6_takes_137 : decode cX6_takes 137 = .ok (.iload_n 3, 1) := by decide +kernel
theorem dX6_takes_138 : decode cX6_takes 138 = .ok (.iconst 0, 1) := by decide +kernel
theorem dX6_takes_139 : decode cX6_takes 139 = .ok (.iadd, 1) := by decide +kernel
theorem dX6_takes_140 : decode cX6_takes 140 = .ok (.iaload, 1) := by decide +kernel
theorem dX6_takes_141 : decode cX6_takes 141 = .ok (.iconst 2, 1) := by decide +kernel
theorem dX6_takes_142 : decode cX6_takes 142 = .ok (.if_icmp .ne 7, 3) := by decide +kernel
theorem dX6_takes_145 : decode cX6_takes 145 = .ok (.iconst 1, 1) := by decide +kernel
theorem dX6_takes_146 : decode cX6_takes 146 = .ok (.goto 4, 3) := by decide +kernel
theorem dX6_takes_149 : decode cX6_takes 149 = .ok (.iconst 0, 1) := by decide +kernel
theorem dX6_takes_150 : decode cX6_takes 150 = .ok (.iastore, 1) := by decide +kernel
theorem dX6_takes_151 : decode cX6_takes 151 = .ok (.iconst 0, 1) := by decide +kernel
theorem dX6_takes_152 : decode cX6_takes 152 = .ok (.istore 5, 2) := by decide +kernel
theorem dX6_takes_154 : decode cX6_takes 154 = .ok (.iload 5, 2) := by decide +kernel
theorem dX6_takes_156 : decode cX6_takes 156 = .ok (.iconst 4, 1) := by decide +kernel
theorem dX6_takes_157 : decode cX6_takes 157 = .ok (.if_icmp .ge 28, 3) := by decide +kernel
theorem dX6_takes_160 : decode cX6_takes 160 = .ok (.aload_n 0, 1) := by decide +kernel
theorem dX6_takes_161 : decode cX6_takes 161 = .ok (.iload 4, 2) := by decide +kernel
theorem dX6_takes_163 : decode cX6_takes 163 = .ok (.bipush 6, 2) := by decide +kernel
theorem dX6_takes_165 : decode cX6_takes 165 = .ok (.iadd, 1) := by decide +kernel
theorem dX6_takes_166 : decode cX6_takes 166 = .ok (.iload 5, 2) := by decide +kernel
theorem dX6_takes_168 : decode cX6_takes 168 = .ok (.iadd, 1) := by decide +kernel
theorem dX6_takes_169 : decode cX6_takes 169 = .ok (.aload_n 0, 1) := by decide +kernel
theorem dX6_takes_170 : decode cX6_takes 170 = .ok (.iload_n 3, 1) := by decide +kernel
theorem dX6_takes_171 : decode cX6_takes 171 = .ok (.bipush 38, 2) := by decide +kernel
theorem dX6_takes_173 : decode cX6_takes 173 = .ok (.iadd, 1) := by decide +kernel
theorem dX6_takes_174 : decode cX6_takes 174 = .ok (.iload 5, 2) := by decide +kernel
theorem dX6_takes_176 : decode cX6_takes 176 = .ok (.iadd, 1) := by decide +kernel
theorem dX6_takes_177 : decode cX6_takes 177 = .ok (.iaload, 1) := by decide +kernel
theorem dX6_takes_178 : decode cX6_takes 178 = .ok (.iastore, 1) := by decide +kernel
theorem dX6_takes_179 : decode cX6_takes 179 = .ok (.iinc 5 1, 3) := by decide +kernel
theorem dX6_takes_182 : decode cX6_takes 182 = .ok (.goto (-28), 3) := by decide +kernel
theorem dX6_takes_185 : decode cX6_takes 185 = .ok (.aload_n 0, 1) := by decide +kernel
theorem dX6_takes_186 : decode cX6_takes 186 = .ok (.iconst 5, 1) := by decide +kernel
theorem dX6_takes_187 : decode cX6_takes 187 = .ok (.dup2, 1) := by decide +kernel
theorem dX6_takes_188 : decode cX6_takes 188 = .ok (.iaload, 1) := by decide +kernel
theorem dX6_takes_189 : decode cX6_takes 189 = .ok (.iconst 1, 1) := by decide +kernel
theorem dX6_takes_190 : decode cX6_takes 190 = .ok (.iadd, 1) := by decide +kernel
theorem dX6_takes_191 : decode cX6_takes 191 = .ok (.iastore, 1) := by decide +kernel
theorem dX6_takes_192 : decode cX6_takes 192 = .ok (.aload_n 0, 1) := by decide +kernel
theorem dX6_takes_193 : decode cX6_takes 193 = .ok (.iload_n 3, 1) := by decide +kernel
theorem dX6_takes_194 : decode cX6_takes 194 = .ok (.iconst 5, 1) := by decide +kernel
theorem dX6_takes_195 : decode cX6_takes 195 = .ok (.iadd, 1) := by decide +kernel
theorem dX6_takes_196 : decode cX6_takes 196 = .ok (.iconst 1, 1) := by decide +kernel
theorem dX6_takes_197 : decode cX6_takes 197 = .ok (.iastore, 1) := by decide +kernel
theorem dX6_takes_198 : decode cX6_takes 198 = .ok (.return_, 1) := by decide +kernel
theorem dX6_counts_0 : decode cX6_counts 0 = .ok (.iload_n 1, 1) := by decide +kernel
theorem dX6_counts_1 : decode cX6_counts 1 = .ok (.invokestatic 40, 3) := by decide +kernel
theorem dX6_counts_4 : decode cX6_counts 4 = .ok (.istore_n 2, 1) := by decide +kernel
theorem dX6_counts_5 : decode cX6_counts 5 = .ok (.iconst 0, 1) := by decide +kernel
theorem dX6_counts_6 : decode cX6_counts 6 = .ok (.istore_n 3, 1) := by decide +kernel
theorem dX6_counts_7 : decode cX6_counts 7 = .ok (.iconst 0, 1) := by decide +kernel
theorem dX6_counts_8 : decode cX6_counts 8 = .ok (.istore 4, 2) := by decide +kernel
theorem dX6_counts_10 : decode cX6_counts 10 = .ok (.iload 4, 2) := by decide +kernel
theorem dX6_counts_12 : decode cX6_counts 12 = .ok (.aload_n 0, 1) := by decide +kernel
theorem dX6_counts_13 : decode cX6_counts 13 = .ok (.iconst 0, 1) := by decide +kernel
theorem dX6_counts_14 : decode cX6_counts 14 = .ok (.iaload, 1) := by decide +kernel
theorem dX6_counts_15 : decode cX6_counts 15 = .ok (.if_icmp .ge 74, 3) := by decide +kernel
theorem dX6_counts_18 : decode cX6_counts 18 = .ok (.aload_n 0, 1) := by decide +kernel
theorem dX6_counts_19 : decode cX6_counts 19 = .ok (.iload_n 2, 1) := by decide +kernel
theorem dX6_counts_20 : decode cX6_counts 20 = .ok (.bipush 14, 2) := by decide +kernel
theorem dX6_counts_22 : decode cX6_counts 22 = .ok (.iadd, 1) := by decide +kernel
theorem dX6_counts_23 : decode cX6_counts 23 = .ok (.bipush 6, 2) := by decide +kernel
theorem dX6_counts_25 : decode cX6_counts 25 = .ok (.iload 4, 2) := by decide +kernel
theorem dX6_counts_27 : decode cX6_counts 27 = .ok (.imul, 1) := by decide +kernel
theorem dX6_counts_28 : decode cX6_counts 28 = .ok (.iadd, 1) := by decide +kernel
theorem dX6_counts_29 : decode cX6_counts 29 = .ok (.iconst 1, 1) := by decide +kernel
theorem dX6_counts_30 : decode cX6_counts 30 = .ok (.iadd, 1) := by decide +kernel
theorem dX6_counts_31 : decode cX6_counts 31 = .ok (.iaload, 1) := by decide +kernel
theorem dX6_counts_32 : decode cX6_counts 32 = .ok (.istore 5, 2) := by decide +kernel
theorem dX6_counts_34 : decode cX6_counts 34 = .ok (.aload_n 0, 1) := by decide +kernel
theorem dX6_counts_35 : decode cX6_counts 35 = .ok (.iload_n 2, 1) := by decide +kernel
theorem dX6_counts_36 : decode cX6_counts 36 = .ok (.iconst 4, 1) := by decide +kernel
theorem dX6_counts_37 : decode cX6_counts 37 = .ok (.iadd, 1) := by decide +kernel
theorem dX6_counts_38 : decode cX6_counts 38 = .ok (.iaload, 1) := by decide +kernel
theorem dX6_counts_39 : decode cX6_counts 39 = .ok (.iconst 1, 1) := by decide +kernel
theorem dX6_counts_40 : decode cX6_counts 40 = .ok (.if_icmp .le 32, 3) := by decide +kernel
theorem dX6_counts_43 : decode cX6_counts 43 = .ok (.iload 5, 2) := by decide +kernel
theorem dX6_counts_45 : decode cX6_counts 45 = .ok (.aload_n 0, 1) := by decide +kernel
theorem dX6_counts_46 : decode cX6_counts 46 = .ok (.iload_n 2, 1) := by decide +kernel
theorem dX6_counts_47 : decode cX6_counts 47 = .ok (.bipush 10, 2) := by decide +kernel
theorem dX6_counts_49 : decode cX6_counts 49 = .ok (.iadd, 1) := by decide +kernel
theorem dX6_counts_50 : decode cX6_counts 50 = .ok (.iload 4, 2) := by decide +kernel
theorem dX6_counts_52 : decode cX6_counts 52 = .ok (.iadd, 1) := by decide +kernel
theorem dX6_counts_53 : decode cX6_counts 53 = .ok (.iaload, 1) := by decide +kernel
theorem dX6_counts_54 : decode cX6_counts 54 = .ok (.if_icmp .eq 18, 3) := by decide +kernel
theorem dX6_counts_57 : decode cX6_counts 57 = .ok (.aload_n 0, 1) := by decide +kernel
theorem dX6_counts_58 : decode cX6_counts 58 = .ok (.iload_n 2, 1) := by decide +kernel
theorem dX6_counts_59 : decode cX6_counts 59 = .ok (.bipush 6, 2) := by decide +kernel
theorem dX6_counts_61 : decode cX6_counts 61 = .ok (.iadd, 1) := by decide +kernel
theorem dX6_counts_62 : decode cX6_counts 62 = .ok (.iload 4, 2) := by decide +kernel
theorem dX6_counts_64 : decode cX6_counts 64 = .ok (.iadd, 1) := by decide +kernel
theorem dX6_counts_65 : decode cX6_counts 65 = .ok (.dup2, 1) := by decide +kernel
theorem dX6_counts_66 : decode cX6_counts 66 = .ok (.iaload, 1) := by decide +kernel
theorem dX6_counts_67 : decode cX6_counts 67 = .ok (.iconst 1, 1) := by decide +kernel
theorem dX6_counts_68 : decode cX6_counts 68 = .ok (.iadd, 1) := by decide +kernel
theorem dX6_counts_69 : decode cX6_counts 69 = .ok (.iastore, 1) := by decide +kernel
theorem dX6_counts_70 : decode cX6_counts 70 = .ok (.iconst 1, 1) := by decide +kernel
theorem dX6_counts_71 : decode cX6_counts 71 = .ok (.istore_n 3, 1) := by decide +kernel
theorem dX6_counts_72 : decode cX6_counts 72 = .ok (.aload_n 0, 1) := by decide +kernel
theorem dX6_counts_73 : decode cX6_counts 73 = .ok (.iload_n 2, 1) := by decide +kernel
theorem dX6_counts_74 : decode cX6_counts 74 = .ok (.bipush 10, 2) := by decide +kernel
theorem dX6_counts_76 : decode cX6_counts 76 = .ok (.iadd, 1) := by decide +kernel
theorem dX6_counts_77 : decode cX6_counts 77 = .ok (.iload 4, 2) := by decide +kernel
theorem dX6_counts_79 : decode cX6_counts 79 = .ok (.iadd, 1) := by decide +kernel
theorem dX6_counts_80 : decode cX6_counts 80 = .ok (.iload 5, 2) := by decide +kernel
theorem dX6_counts_82 : decode cX6_counts 82 = .ok (.iastore, 1) := by decide +kernel
theorem dX6_counts_83 : decode cX6_counts 83 = .ok (.iinc 4 1, 3) := by decide +kernel
theorem dX6_counts_86 : decode cX6_counts 86 = .ok (.goto (-76), 3) := by decide +kernel
theorem dX6_counts_89 : decode cX6_counts 89 = .ok (.iload_n 3, 1) := by decide +kernel
theorem dX6_counts_90 : decode cX6_counts 90 = .ok (.ireturn, 1) := by decide +kernel
theorem dX6_lender_0 : decode cX6_lender 0 = .ok (.bipush (-9), 2) := by decide +kernel
theorem dX6_lender_2 : decode cX6_lender 2 = .ok (.istore_n 2, 1) := by decide +kernel
theorem dX6_lender_3 : decode cX6_lender 3 = .ok (.aload_n 0, 1) := by decide +kernel
theorem dX6_lender_4 : decode cX6_lender 4 = .ok (.iconst 0, 1) := by decide +kernel
theorem dX6_lender_5 : decode cX6_lender 5 = .ok (.iaload, 1) := by decide +kernel
theorem dX6_lender_6 : decode cX6_lender 6 = .ok (.iconst 1, 1) := by decide +kernel
theorem dX6_lender_7 : decode cX6_lender 7 = .ok (.isub, 1) := by decide +kernel
theorem dX6_lender_8 : decode cX6_lender 8 = .ok (.istore_n 3, 1) := by decide +kernel
theorem dX6_lender_9 : decode cX6_lender 9 = .ok (.iload_n 3, 1) := by decide +kernel
theorem dX6_lender_10 : decode cX6_lender 10 = .ok (.ifCond .lt 32, 3) := by decide +kernel
theorem dX6_lender_13 : decode cX6_lender 13 = .ok (.aload_n 0, 1) := by decide +kernel
theorem dX6_lender_14 : decode cX6_lender 14 = .ok (.iload_n 1, 1) := by decide +kernel
theorem dX6_lender_15 : decode cX6_lender 15 = .ok (.invokestatic 40, 3) := by decide +kernel
theorem dX6_lender_18 : decode cX6_lender 18 = .ok (.bipush 6, 2) := by decide +kernel
theorem dX6_lender_20 : decode cX6_lender 20 = .ok (.iadd, 1) := by decide +kernel
theorem dX6_lender_21 : decode cX6_lender 21 = .ok (.iload_n 3, 1) := by decide +kernel
theorem dX6_lender_22 : decode cX6_lender 22 = .ok (.iadd, 1) := by decide +kernel
theorem dX6_lender_23 : decode cX6_lender 23 = .ok (.iaload, 1) := by decide +kernel
theorem dX6_lender_24 : decode cX6_lender 24 = .ok (.aload_n 0, 1) := by decide +kernel
theorem dX6_lender_25 : decode cX6_lender 25 = .ok (.iconst 1, 1) := by decide +kernel
theorem dX6_lender_26 : decode cX6_lender 26 = .ok (.iaload, 1) := by decide +kernel
theorem dX6_lender_27 : decode cX6_lender 27 = .ok (.if_icmp .lt 7, 3) := by decide +kernel
theorem dX6_lender_30 : decode cX6_lender 30 = .ok (.iload_n 3, 1) := by decide +kernel
theorem dX6_lender_31 : decode cX6_lender 31 = .ok (.goto 4, 3) := by decide +kernel
theorem dX6_lender_34 : decode cX6_lender 34 = .ok (.iload_n 2, 1) := by decide +kernel
theorem dX6_lender_35 : decode cX6_lender 35 = .ok (.istore_n 2, 1) := by decide +kernel
theorem dX6_lender_36 : decode cX6_lender 36 = .ok (.iinc 3 (-1), 3) := by decide +kernel
theorem dX6_lender_39 : decode cX6_lender 39 = .ok (.goto (-30), 3) := by decide +kernel
theorem dX6_lender_42 : decode cX6_lender 42 = .ok (.iload_n 2, 1) := by decide +kernel
theorem dX6_lender_43 : decode cX6_lender 43 = .ok (.ireturn, 1) := by decide +kernel
theorem dX6_step_0 : decode cX6_step 0 = .ok (.iload_n 1, 1) := by decide +kernel
theorem dX6_step_1 : decode cX6_step 1 = .ok (.invokestatic 40, 3) := by decide +kernel
theorem dX6_step_4 : decode cX6_step 4 = .ok (.istore_n 2, 1) := by decide +kernel
theorem dX6_step_5 : decode cX6_step 5 = .ok (.aload_n 0, 1) := by decide +kernel
theorem dX6_step_6 : decode cX6_step 6 = .ok (.iconst 3, 1) := by decide +kernel
theorem dX6_step_7 : decode cX6_step 7 = .ok (.dup2, 1) := by decide +kernel
theorem dX6_step_8 : decode cX6_step 8 = .ok (.iaload, 1) := by decide +kernel
theorem dX6_step_9 : decode cX6_step 9 = .ok (.iconst 1, 1) := by decide +kernel
theorem dX6_step_10 : decode cX6_step 10 = .ok (.iadd, 1) := by decide +kernel
theorem dX6_step_11 : decode cX6_step 11 = .ok (.iastore, 1) := by decide +kernel
theorem dX6_step_12 : decode cX6_step 12 = .ok (.aload_n 0, 1) := by decide +kernel
theorem dX6_step_13 : decode cX6_step 13 = .ok (.iload_n 2, 1) := by decide +kernel
theorem dX6_step_14 : decode cX6_step 14 = .ok (.iconst 2, 1) := by decide +kernel
theorem dX6_step_15 : decode cX6_step 15 = .ok (.iadd, 1) := by decide +kernel
theorem dX6_step_16 : decode cX6_step 16 = .ok (.dup2, 1) := by decide +kernel
theorem dX6_step_17 : decode cX6_step 17 = .ok (.iaload, 1) := by decide +kernel
theorem dX6_step_18 : decode cX6_step 18 = .ok (.iconst 1, 1) := by decide +kernel
theorem dX6_step_19 : decode cX6_step 19 = .ok (.iadd, 1) := by decide +kernel
theorem dX6_step_20 : decode cX6_step 20 = .ok (.iastore, 1) := by decide +kernel
theorem dX6_step_21 : decode cX6_step 21 = .ok (.aload_n 0, 1) := by decide +kernel
theorem dX6_step_22 : decode cX6_step 22 = .ok (.iload_n 2, 1) := by decide +kernel
theorem dX6_step_23 : decode cX6_step 23 = .ok (.iconst 5, 1) := by decide +kernel
theorem dX6_step_24 : decode cX6_step 24 = .ok (.iadd, 1) := by decide +kernel
theorem dX6_step_25 : decode cX6_step 25 = .ok (.iaload, 1) := by decide +kernel
theorem dX6_step_26 : decode cX6_step 26 = .ok (.iconst 1, 1) := by decide +kernel
theorem dX6_step_27 : decode cX6_step 27 = .ok (.if_icmp .ne 9, 3) := by decide +kernel
theorem dX6_step_30 : decode cX6_step 30 = .ok (.aload_n 0, 1) := by decide +kernel
theorem dX6_step_31 : decode cX6_step 31 = .ok (.iload_n 1, 1) := by decide +kernel
theorem dX6_step_32 : decode cX6_step 32 = .ok (.invokestatic 51, 3) := by decide +kernel
theorem dX6_step_35 : decode cX6_step 35 = .ok (.return_, 1) := by decide +kernel
theorem dX6_step_36 : decode cX6_step 36 = .ok (.aload_n 0, 1) := by decide +kernel
theorem dX6_step_37 : decode cX6_step 37 = .ok (.iload_n 2, 1) := by decide +kernel
theorem dX6_step_38 : decode cX6_step 38 = .ok (.iconst 2, 1) := by decide +kernel
theorem dX6_step_39 : decode cX6_step 39 = .ok (.iadd, 1) := by decide +kernel
theorem dX6_step_40 : decode cX6_step 40 = .ok (.iaload, 1) := by decide +kernel
theorem dX6_step_41 : decode cX6_step 41 = .ok (.iconst 1, 1) := by decide +kernel
theorem dX6_step_42 : decode cX6_step 42 = .ok (.isub, 1) := by decide +kernel
theorem dX6_step_43 : decode cX6_step 43 = .ok (.aload_n 0, 1) := by decide +kernel
theorem dX6_step_44 : decode cX6_step 44 = .ok (.iconst 0, 1) := by decide +kernel
theorem dX6_step_45 : decode cX6_step 45 = .ok (.iaload, 1) := by decide +kernel
theorem dX6_step_46 : decode cX6_step 46 = .ok (.irem, 1) := by decide +kernel
theorem dX6_step_47 : decode cX6_step 47 = .ok (.istore_n 3, 1) := by decide +kernel
theorem dX6_step_48 : decode cX6_step 48 = .ok (.iconst 0, 1) := by decide +kernel
theorem dX6_step_49 : decode cX6_step 49 = .ok (.istore 4, 2) := by decide +kernel
theorem dX6_step_51 : decode cX6_step 51 = .ok (.iload 4, 2) := by decide +kernel
theorem dX6_step_53 : decode cX6_step 53 = .ok (.bipush 6, 2) := by decide +kernel
theorem dX6_step_55 : decode cX6_step 55 = .ok (.if_icmp .ge 32, 3) := by decide +kernel
theorem dX6_step_58 : decode cX6_step 58 = .ok (.aload_n 0, 1) := by decide +kernel
theorem dX6_step_59 : decode cX6_step 59 = .ok (.iload_n 2, 1) := by decide +kernel
theorem dX6_step_60 : decode cX6_step 60 = .ok (.bipush 14, 2) := by decide +kernel
theorem dX6_step_62 : decode cX6_step 62 = .ok (.iadd, 1) := by decide +kernel
theorem dX6_step_63 : decode cX6_step 63 = .ok (.bipush 6, 2) := by decide +kernel
theorem dX6_step_65 : decode cX6_step 65 = .ok (.iload_n 3, 1) := by decide +kernel
theorem dX6_step_66 : decode cX6_step 66 = .ok (.imul, 1) := by decide +kernel
theorem dX6_step_67 : decode cX6_step 67 = .ok (.iadd, 1) := by decide +kernel
theorem dX6_step_68 : decode cX6_step 68 = .ok (.iload 4, 2) := by decide +kernel
theorem dX6_step_70 : decode cX6_step 70 = .ok (.iadd, 1) := by decide +kernel
theorem dX6_step_71 : decode cX6_step 71 = .ok (.aload_n 0, 1) := by decide +kernel
theorem dX6_step_72 : decode cX6_step 72 = .ok (.iload_n 3, 1) := by decide +kernel
theorem dX6_step_73 : decode cX6_step 73 = .ok (.invokestatic 48, 3) := by decide +kernel
theorem dX6_step_76 : decode cX6_step 76 = .ok (.iload 4, 2) := by decide +kernel
theorem dX6_step_78 : decode cX6_step 78 = .ok (.iadd, 1) := by decide +kernel
theorem dX6_step_79 : decode cX6_step 79 = .ok (.iaload, 1) := by decide +kernel
theorem dX6_step_80 : decode cX6_step 80 = .ok (.iastore, 1) := by decide +kernel
theorem dX6_step_81 : decode cX6_step 81 = .ok (.iinc 4 1, 3) := by decide +kernel
theorem dX6_step_84 : decode cX6_step 84 = .ok (.goto (-33), 3) := by decide +kernel
theorem dX6_step_87 : decode cX6_step 87 = .ok (.iload_n 3, 1) := by decide +kernel
theorem dX6_step_88 : decode cX6_step 88 = .ok (.aload_n 0, 1) := by decide +kernel
theorem dX6_step_89 : decode cX6_step 89 = .ok (.iconst 0, 1) := by decide +kernel
theorem dX6_step_90 : decode cX6_step 90 = .ok (.iaload, 1) := by decide +kernel
theorem dX6_step_91 : decode cX6_step 91 = .ok (.iconst 1, 1) := by decide +kernel
theorem dX6_step_92 : decode cX6_step 92 = .ok (.isub, 1) := by decide +kernel
theorem dX6_step_93 : decode cX6_step 93 = .ok (.if_icmp .ge 4, 3) := by decide +kernel
theorem dX6_step_96 : decode cX6_step 96 = .ok (.return_, 1) := by decide +kernel
theorem dX6_step_97 : decode cX6_step 97 = .ok (.aload_n 0, 1) := by decide +kernel
theorem dX6_step_98 : decode cX6_step 98 = .ok (.iload_n 2, 1) := by decide +kernel
theorem dX6_step_99 : decode cX6_step 99 = .ok (.iconst 4, 1) := by decide +kernel
theorem dX6_step_100 : decode cX6_step 100 = .ok (.iadd, 1) := by decide +kernel
theorem dX6_step_101 : decode cX6_step 101 = .ok (.dup2, 1) := by decide +kernel
theorem dX6_step_102 : decode cX6_step 102 = .ok (.iaload, 1) := by decide +kernel
theorem dX6_step_103 : decode cX6_step 103 = .ok (.iconst 1, 1) := by decide +kernel
theorem dX6_step_104 : decode cX6_step 104 = .ok (.iadd, 1) := by decide +kernel
theorem dX6_step_105 : decode cX6_step 105 = .ok (.iastore, 1) := by decide +kernel
theorem dX6_step_106 : decode cX6_step 106 = .ok (.aload_n 0, 1) := by decide +kernel
theorem dX6_step_107 : decode cX6_step 107 = .ok (.iload_n 1, 1) := by decide +kernel
theorem dX6_step_108 : decode cX6_step 108 = .ok (.invokestatic 54, 3) := by decide +kernel
theorem dX6_step_111 : decode cX6_step 111 = .ok (.istore 4, 2) := by decide +kernel
theorem dX6_step_113 : decode cX6_step 113 = .ok (.iload 4, 2) := by decide +kernel
theorem dX6_step_115 : decode cX6_step 115 = .ok (.ifCond .eq 11, 3) := by decide +kernel
theorem dX6_step_118 : decode cX6_step 118 = .ok (.aload_n 0, 1) := by decide +kernel
theorem dX6_step_119 : decode cX6_step 119 = .ok (.iload_n 1, 1) := by decide +kernel
theorem dX6_step_120 : decode cX6_step 120 = .ok (.invokestatic 58, 3) := by decide +kernel
theorem dX6_step_123 : decode cX6_step 123 = .ok (.goto 5, 3) := by decide +kernel
theorem dX6_step_126 : decode cX6_step 126 = .ok (.bipush (-9), 2) := by decide +kernel
theorem dX6_step_128 : decode cX6_step 128 = .ok (.istore 5, 2) := by decide +kernel
theorem dX6_step_130 : decode cX6_step 130 = .ok (.aload_n 0, 1) := by decide +kernel
theorem dX6_step_131 : decode cX6_step 131 = .ok (.iload_n 2, 1) := by decide +kernel
theorem dX6_step_132 : decode cX6_step 132 = .ok (.iconst 4, 1) := by decide +kernel
theorem dX6_step_133 : decode cX6_step 133 = .ok (.iadd, 1) := by decide +kernel
theorem dX6_step_134 : decode cX6_step 134 = .ok (.iaload, 1) := by decide +kernel
theorem dX6_step_135 : decode cX6_step 135 = .ok (.iconst 1, 1) := by decide +kernel
theorem dX6_step_136 : decode cX6_step 136 = .ok (.if_icmp .eq 15, 3) := by decide +kernel
theorem dX6_step_139 : decode cX6_step 139 = .ok (.iload 4, 2) := by decide +kernel
theorem dX6_step_141 : decode cX6_step 141 = .ok (.ifCond .eq 11, 3) := by decide +kernel
theorem dX6_step_144 : decode cX6_step 144 = .ok (.iload 5, 2) := by decide +kernel
theorem dX6_step_146 : decode cX6_step 146 = .ok (.bipush (-9), 2) := by decide +kernel
theorem dX6_step_148 : decode cX6_step 148 = .ok (.if_icmp .ne 4, 3) := by decide +kernel
theorem dX6_step_151 : decode cX6_step 151 = .ok (.return_, 1) := by decide +kernel
theorem dX6_step_152 : decode cX6_step 152 = .ok (.aload_n 0, 1) := by decide +kernel
theorem dX6_step_153 : decode cX6_step 153 = .ok (.iload_n 1, 1) := by decide +kernel
theorem dX6_step_154 : decode cX6_step 154 = .ok (.iload 5, 2) := by decide +kernel
theorem dX6_step_156 : decode cX6_step 156 = .ok (.invokestatic 62, 3) := by decide +kernel
theorem dX6_step_159 : decode cX6_step 159 = .ok (.aload_n 0, 1) := by decide +kernel
theorem dX6_step_160 : decode cX6_step 160 = .ok (.iload_n 2, 1) := by decide +kernel
theorem dX6_step_161 : decode cX6_step 161 = .ok (.iconst 0, 1) := by decide +kernel
theorem dX6_step_162 : decode cX6_step 162 = .ok (.iadd, 1) := by decide +kernel
theorem dX6_step_163 : decode cX6_step 163 = .ok (.iaload, 1) := by decide +kernel
theorem dX6_step_164 : decode cX6_step 164 = .ok (.iconst 1, 1) := by decide +kernel
theorem dX6_step_165 : decode cX6_step 165 = .ok (.if_icmp .ne 8, 3) := by decide +kernel
theorem dX6_step_168 : decode cX6_step 168 = .ok (.aload_n 0, 1) := by decide +kernel
theorem dX6_step_169 : decode cX6_step 169 = .ok (.iload_n 1, 1) := by decide +kernel
theorem dX6_step_170 : decode cX6_step 170 = .ok (.invokestatic 44, 3) := by decide +kernel
theorem dX6_step_173 : decode cX6_step 173 = .ok (.return_, 1) := by decide +kernel
theorem dX6_notes_0 : decode cX6_notes 0 = .ok (.aload_n 0, 1) := by decide +kernel
theorem dX6_notes_1 : decode cX6_notes 1 = .ok (.getfield 66, 3) := by decide +kernel
theorem dX6_notes_4 : decode cX6_notes 4 = .ok (.iconst 5, 1) := by decide +kernel
theorem dX6_notes_5 : decode cX6_notes 5 = .ok (.if_icmp .ne 44, 3) := by decide +kernel
theorem dX6_notes_8 : decode cX6_notes 8 = .ok (.iconst 0, 1) := by decide +kernel
theorem dX6_notes_9 : decode cX6_notes 9 = .ok (.istore_n 1, 1) := by decide +kernel
theorem dX6_notes_10 : decode cX6_notes 10 = .ok (.iload_n 1, 1) := by decide +kernel
theorem dX6_notes_11 : decode cX6_notes 11 = .ok (.sipush 2048, 3) := by decide +kernel
theorem dX6_notes_14 : decode cX6_notes 14 = .ok (.if_icmp .ge 25, 3) := by decide +kernel
theorem dX6_notes_17 : decode cX6_notes 17 = .ok (.aload_n 0, 1) := by decide +kernel
theorem dX6_notes_18 : decode cX6_notes 18 = .ok (.getfield 16, 3) := by decide +kernel
theorem dX6_notes_21 : decode cX6_notes 21 = .ok (.iload_n 1, 1) := by decide +kernel
theorem dX6_notes_22 : decode cX6_notes 22 = .ok (.aload_n 0, 1) := by decide +kernel
theorem dX6_notes_23 : decode cX6_notes 23 = .ok (.getfield 16, 3) := by decide +kernel
theorem dX6_notes_26 : decode cX6_notes 26 = .ok (.sipush 512, 3) := by decide +kernel
theorem dX6_notes_29 : decode cX6_notes 29 = .ok (.iload_n 1, 1) := by decide +kernel
theorem dX6_notes_30 : decode cX6_notes 30 = .ok (.iadd, 1) := by decide +kernel
theorem dX6_notes_31 : decode cX6_notes 31 = .ok (.iaload, 1) := by decide +kernel
theorem dX6_notes_32 : decode cX6_notes 32 = .ok (.iastore, 1) := by decide +kernel
theorem dX6_notes_33 : decode cX6_notes 33 = .ok (.iinc 1 1, 3) := by decide +kernel
theorem dX6_notes_36 : decode cX6_notes 36 = .ok (.goto (-26), 3) := by decide +kernel
theorem dX6_notes_39 : decode cX6_notes 39 = .ok (.aload_n 0, 1) := by decide +kernel
theorem dX6_notes_40 : decode cX6_notes 40 = .ok (.dup, 1) := by decide +kernel
theorem dX6_notes_41 : decode cX6_notes 41 = .ok (.getfield 66, 3) := by decide +kernel
theorem dX6_notes_44 : decode cX6_notes 44 = .ok (.iconst 1, 1) := by decide +kernel
theorem dX6_notes_45 : decode cX6_notes 45 = .ok (.isub, 1) := by decide +kernel
theorem dX6_notes_46 : decode cX6_notes 46 = .ok (.putfield 66, 3) := by decide +kernel
theorem dX6_notes_49 : decode cX6_notes 49 = .ok (.iconst 0, 1) := by decide +kernel
theorem dX6_notes_50 : decode cX6_notes 50 = .ok (.istore_n 1, 1) := by decide +kernel
theorem dX6_notes_51 : decode cX6_notes 51 = .ok (.iload_n 1, 1) := by decide +kernel
theorem dX6_notes_52 : decode cX6_notes 52 = .ok (.sipush 512, 3) := by decide +kernel
theorem dX6_notes_55 : decode cX6_notes 55 = .ok (.if_icmp .ge 30, 3) := by decide +kernel
theorem dX6_notes_58 : decode cX6_notes 58 = .ok (.aload_n 0, 1) := by decide +kernel
theorem dX6_notes_59 : decode cX6_notes 59 = .ok (.getfield 16, 3) := by decide +kernel
theorem dX6_notes_62 : decode cX6_notes 62 = .ok (.sipush 512, 3) := by decide +kernel
theorem dX6_notes_65 : decode cX6_notes 65 = .ok (.aload_n 0, 1) := by decide +kernel
theorem dX6_notes_66 : decode cX6_notes 66 = .ok (.getfield 66, 3) := by decide +kernel
theorem dX6_notes_69 : decode cX6_notes 69 = .ok (.imul, 1) := by decide +kernel
theorem dX6_notes_70 : decode cX6_notes 70 = .ok (.iload_n 1, 1) := by decide +kernel
theorem dX6_notes_71 : decode cX6_notes 71 = .ok (.iadd, 1) := by decide +kernel
theorem dX6_notes_72 : decode cX6_notes 72 = .ok (.aload_n 0, 1) := by decide +kernel
theorem dX6_notes_73 : decode cX6_notes 73 = .ok (.getfield 7, 3) := by decide +kernel
theorem dX6_notes_76 : decode cX6_notes 76 = .ok (.iload_n 1, 1) := by decide +kernel
theorem dX6_notes_77 : decode cX6_notes 77 = .ok (.iaload, 1) := by decide +kernel
theorem dX6_notes_78 : decode cX6_notes 78 = .ok (.iastore, 1) := by decide +kernel
theorem dX6_notes_79 : decode cX6_notes 79 = .ok (.iinc 1 1, 3) := by decide +kernel
theorem dX6_notes_82 : decode cX6_notes 82 = .ok (.goto (-31), 3) := by decide +kernel
theorem dX6_notes_85 : decode cX6_notes 85 = .ok (.aload_n 0, 1) := by decide +kernel
theorem dX6_notes_86 : decode cX6_notes 86 = .ok (.dup, 1) := by decide +kernel
theorem dX6_notes_87 : decode cX6_notes 87 = .ok (.getfield 66, 3) := by decide +kernel
theorem dX6_notes_90 : decode cX6_notes 90 = .ok (.iconst 1, 1) := by decide +kernel
theorem dX6_notes_91 : decode cX6_notes 91 = .ok (.iadd, 1) := by decide +kernel
theorem dX6_notes_92 : decode cX6_notes 92 = .ok (.putfield 66, 3) := by decide +kernel
theorem dX6_notes_95 : decode cX6_notes 95 = .ok (.return_, 1) := by decide +kernel
theorem dX6_isWriter_0 : decode cX6_isWriter 0 = .ok (.iload_n 1, 1) := by decide +kernel
theorem dX6_isWriter_1 : decode cX6_isWriter 1 = .ok (.iconst 0, 1) := by decide +kernel
theorem dX6_isWriter_2 : decode cX6_isWriter 2 = .ok (.aload_n 0, 1) := by decide +kernel
theorem dX6_isWriter_3 : decode cX6_isWriter 3 = .ok (.getfield 7, 3) := by decide +kernel
theorem dX6_isWriter_6 : decode cX6_isWriter 6 = .ok (.iconst 0, 1) := by decide +kernel
theorem dX6_isWriter_7 : decode cX6_isWriter 7 = .ok (.iaload, 1) := by decide +kernel
theorem dX6_isWriter_8 : decode cX6_isWriter 8 = .ok (.iconst 1, 1) := by decide +kernel
theorem dX6_isWriter_9 : decode cX6_isWriter 9 = .ok (.isub, 1) := by decide +kernel
theorem dX6_isWriter_10 : decode cX6_isWriter 10 = .ok (.invokestatic 69, 3) := by decide +kernel
theorem dX6_isWriter_13 : decode cX6_isWriter 13 = .ok (.ireturn, 1) := by decide +kernel
theorem dX6_isIdle_0 : decode cX6_isIdle 0 = .ok (.aload_n 0, 1) := by decide +kernel
theorem dX6_isIdle_1 : decode cX6_isIdle 1 = .ok (.getfield 7, 3) := by decide +kernel
theorem dX6_isIdle_4 : decode cX6_isIdle 4 = .ok (.iload_n 1, 1) := by decide +kernel
theorem dX6_isIdle_5 : decode cX6_isIdle 5 = .ok (.invokestatic 40, 3) := by decide +kernel
theorem dX6_isIdle_8 : decode cX6_isIdle 8 = .ok (.iconst 0, 1) := by decide +kernel
theorem dX6_isIdle_9 : decode cX6_isIdle 9 = .ok (.iadd, 1) := by decide +kernel
theorem dX6_isIdle_10 : decode cX6_isIdle 10 = .ok (.iaload, 1) := by decide +kernel
theorem dX6_isIdle_11 : decode cX6_isIdle 11 = .ok (.ifCond .ne 7, 3) := by decide +kernel
theorem dX6_isIdle_14 : decode cX6_isIdle 14 = .ok (.iconst 1, 1) := by decide +kernel
theorem dX6_isIdle_15 : decode cX6_isIdle 15 = .ok (.goto 4, 3) := by decide +kernel
theorem dX6_isIdle_18 : decode cX6_isIdle 18 = .ok (.iconst 0, 1) := by decide +kernel
theorem dX6_isIdle_19 : decode cX6_isIdle 19 = .ok (.ireturn, 1) := by decide +kernel
theorem dX6_begins_0 : decode cX6_begins 0 = .ok (.aload_n 0, 1) := by decide +kernel
theorem dX6_begins_1 : decode cX6_begins 1 = .ok (.iconst 0, 1) := by decide +kernel
theorem dX6_begins_2 : decode cX6_begins 2 = .ok (.putfield 36, 3) := by decide +kernel
theorem dX6_begins_5 : decode cX6_begins 5 = .ok (.iload_n 1, 1) := by decide +kernel
theorem dX6_begins_6 : decode cX6_begins 6 = .ok (.iconst 2, 1) := by decide +kernel
theorem dX6_begins_7 : decode cX6_begins 7 = .ok (.iconst 4, 1) := by decide +kernel
theorem dX6_begins_8 : decode cX6_begins 8 = .ok (.invokestatic 69, 3) := by decide +kernel
theorem dX6_begins_11 : decode cX6_begins 11 = .ok (.ifCond .eq 26, 3) := by decide +kernel
theorem dX6_begins_14 : decode cX6_begins 14 = .ok (.iload_n 2, 1) := by decide +kernel
theorem dX6_begins_15 : decode cX6_begins 15 = .ok (.iconst 1, 1) := by decide +kernel
theorem dX6_begins_16 : decode cX6_begins 16 = .ok (.iconst 4, 1) := by decide +kernel
theorem dX6_begins_17 : decode cX6_begins 17 = .ok (.invokestatic 69, 3) := by decide +kernel
theorem dX6_begins_20 : decode cX6_begins 20 = .ok (.ifCond .eq 17, 3) := by decide +kernel
theorem dX6_begins_23 : decode cX6_begins 23 = .ok (.iload_n 3, 1) := by decide +kernel
theorem dX6_begins_24 : decode cX6_begins 24 = .ok (.ifCond .eq 15, 3) := by decide +kernel
theorem dX6_begins_27 : decode cX6_begins 27 = .ok (.iload_n 3, 1) := by decide +kernel
theorem dX6_begins_28 : decode cX6_begins 28 = .ok (.iconst 2, 1) := by decide +kernel
theorem dX6_begins_29 : decode cX6_begins 29 = .ok (.bipush 8, 2) := by decide +kernel
theorem dX6_begins_31 : decode cX6_begins 31 = .ok (.invokestatic 69, 3) := by decide +kernel
theorem dX6_begins_34 : decode cX6_begins 34 = .ok (.ifCond .ne 5, 3) := by decide +kernel
theorem dX6_begins_37 : decode cX6_begins 37 = .ok (.iconst (-1), 1) := by decide +kernel
theorem dX6_begins_38 : decode cX6_begins 38 = .ok (.ireturn, 1) := by decide +kernel
theorem dX6_begins_39 : decode cX6_begins 39 = .ok (.aload_n 0, 1) := by decide +kernel
theorem dX6_begins_40 : decode cX6_begins 40 = .ok (.invokevirtual 73, 3) := by decide +kernel
theorem dX6_begins_43 : decode cX6_begins 43 = .ok (.aload_n 0, 1) := by decide +kernel
theorem dX6_begins_44 : decode cX6_begins 44 = .ok (.getfield 7, 3) := by decide +kernel
theorem dX6_begins_47 : decode cX6_begins 47 = .ok (.iload_n 1, 1) := by decide +kernel
theorem dX6_begins_48 : decode cX6_begins 48 = .ok (.iload_n 2, 1) := by decide +kernel
theorem dX6_begins_49 : decode cX6_begins 49 = .ok (.iload_n 3, 1) := by decide +kernel
theorem dX6_begins_50 : decode cX6_begins 50 = .ok (.invokestatic 32, 3) := by decide +kernel
theorem dX6_begins_53 : decode cX6_begins 53 = .ok (.aload_n 0, 1) := by decide +kernel
theorem dX6_begins_54 : decode cX6_begins 54 = .ok (.iconst 0, 1) := by decide +kernel
theorem dX6_begins_55 : decode cX6_begins 55 = .ok (.putfield 76, 3) := by decide +kernel
theorem dX6_begins_58 : decode cX6_begins 58 = .ok (.aload_n 0, 1) := by decide +kernel
theorem dX6_begins_59 : decode cX6_begins 59 = .ok (.getfield 22, 3) := by decide +kernel
theorem dX6_begins_62 : decode cX6_begins 62 = .ok (.iconst 0, 1) := by decide +kernel
theorem dX6_begins_63 : decode cX6_begins 63 = .ok (.iconst 0, 1) := by decide +kernel
theorem dX6_begins_64 : decode cX6_begins 64 = .ok (.bastore, 1) := by decide +kernel
theorem dX6_begins_65 : decode cX6_begins 65 = .ok (.aload_n 0, 1) := by decide +kernel
theorem dX6_begins_66 : decode cX6_begins 66 = .ok (.getfield 22, 3) := by decide +kernel
theorem dX6_begins_69 : decode cX6_begins 69 = .ok (.iconst 1, 1) := by decide +kernel
theorem dX6_begins_70 : decode cX6_begins 70 = .ok (.iconst 0, 1) := by decide +kernel
theorem dX6_begins_71 : decode cX6_begins 71 = .ok (.bastore, 1) := by decide +kernel
theorem dX6_begins_72 : decode cX6_begins 72 = .ok (.iload_n 1, 1) := by decide +kernel
theorem dX6_begins_73 : decode cX6_begins 73 = .ok (.ireturn, 1) := by decide +kernel
theorem dX6_begun_0 : decode cX6_begun 0 = .ok (.aload_n 0, 1) := by decide +kernel
theorem dX6_begun_1 : decode cX6_begun 1 = .ok (.iload_n 1, 1) := by decide +kernel
theorem dX6_begun_2 : decode cX6_begun 2 = .ok (.invokevirtual 79, 3) := by decide +kernel
theorem dX6_begun_5 : decode cX6_begun 5 = .ok (.ifCond .ne 6, 3) := by decide +kernel
theorem dX6_begun_8 : decode cX6_begun 8 = .ok (.bipush (-2), 2) := by decide +kernel
theorem dX6_begun_10 : decode cX6_begun 10 = .ok (.ireturn, 1) := by decide +kernel
theorem dX6_begun_11 : decode cX6_begun 11 = .ok (.aload_n 0, 1) := by decide +kernel
theorem dX6_begun_12 : decode cX6_begun 12 = .ok (.getfield 7, 3) := by decide +kernel
theorem dX6_begun_15 : decode cX6_begun 15 = .ok (.iconst 4, 1) := by decide +kernel
theorem dX6_begun_16 : decode cX6_begun 16 = .ok (.iaload, 1) := by decide +kernel
theorem dX6_begun_17 : decode cX6_begun 17 = .ok (.bipush 24, 2) := by decide +kernel
theorem dX6_begun_19 : decode cX6_begun 19 = .ok (.if_icmp .ne 6, 3) := by decide +kernel
theorem dX6_begun_22 : decode cX6_begun 22 = .ok (.bipush (-3), 2) := by decide +kernel
theorem dX6_begun_24 : decode cX6_begun 24 = .ok (.ireturn, 1) := by decide +kernel
theorem dX6_begun_25 : decode cX6_begun 25 = .ok (.aload_n 0, 1) := by decide +kernel
theorem dX6_begun_26 : decode cX6_begun 26 = .ok (.invokevirtual 73, 3) := by decide +kernel
theorem dX6_begun_29 : decode cX6_begun 29 = .ok (.aload_n 0, 1) := by decide +kernel
theorem dX6_begun_30 : decode cX6_begun 30 = .ok (.getfield 7, 3) := by decide +kernel
theorem dX6_begun_33 : decode cX6_begun 33 = .ok (.iload_n 1, 1) := by decide +kernel
theorem dX6_begun_34 : decode cX6_begun 34 = .ok (.iload_n 2, 1) := by decide +kernel
theorem dX6_begun_35 : decode cX6_begun 35 = .ok (.iload_n 3, 1) := by decide +kernel
theorem dX6_begun_36 : decode cX6_begun 36 = .ok (.invokestatic 83, 3) := by decide +kernel
theorem dX6_begun_39 : decode cX6_begun 39 = .ok (.aload_n 0, 1) := by decide +kernel
theorem dX6_begun_40 : decode cX6_begun 40 = .ok (.getfield 7, 3) := by decide +kernel
theorem dX6_begun_43 : decode cX6_begun 43 = .ok (.iconst 3, 1) := by decide +kernel
theorem dX6_begun_44 : decode cX6_begun 44 = .ok (.iaload, 1) := by decide +kernel
theorem dX6_begun_45 : decode cX6_begun 45 = .ok (.ireturn, 1) := by decide +kernel
theorem dX6_scans_0 : decode cX6_scans 0 = .ok (.aload_n 0, 1) := by decide +kernel
theorem dX6_scans_1 : decode cX6_scans 1 = .ok (.iconst 0, 1) := by decide +kernel
theorem dX6_scans_2 : decode cX6_scans 2 = .ok (.putfield 36, 3) := by decide +kernel
theorem dX6_scans_5 : decode cX6_scans 5 = .ok (.aload_n 0, 1) := by decide +kernel
theorem dX6_scans_6 : decode cX6_scans 6 = .ok (.iload_n 1, 1) := by decide +kernel
theorem dX6_scans_7 : decode cX6_scans 7 = .ok (.invokevirtual 86, 3) := by decide +kernel
theorem dX6_scans_10 : decode cX6_scans 10 = .ok (.ifCond .eq 13, 3) := by decide +kernel
theorem dX6_scans_13 : decode cX6_scans 13 = .ok (.aload_n 0, 1) := by decide +kernel
theorem dX6_scans_14 : decode cX6_scans 14 = .ok (.iload_n 1, 1) := by decide +kernel
theorem dX6_scans_15 : decode cX6_scans 15 = .ok (.iconst 1, 1) := by decide +kernel
theorem dX6_scans_16 : decode cX6_scans 16 = .ok (.iconst 0, 1) := by decide +kernel
theorem dX6_scans_17 : decode cX6_scans 17 = .ok (.invokevirtual 89, 3) := by decide +kernel
theorem dX6_scans_20 : decode cX6_scans 20 = .ok (.goto 4, 3) := by decide +kernel
theorem dX6_scans_23 : decode cX6_scans 23 = .ok (.iconst (-1), 1) := by decide +kernel
theorem dX6_scans_24 : decode cX6_scans 24 = .ok (.ireturn, 1) := by decide +kernel
theorem dX6_writes_0 : decode cX6_writes 0 = .ok (.aload_n 0, 1) := by decide +kernel
theorem dX6_writes_1 : decode cX6_writes 1 = .ok (.iconst 0, 1) := by decide +kernel
theorem dX6_writes_2 : decode cX6_writes 2 = .ok (.putfield 36, 3) := by decide +kernel
theorem dX6_writes_5 : decode cX6_writes 5 = .ok (.aload_n 0, 1) := by decide +kernel
theorem dX6_writes_6 : decode cX6_writes 6 = .ok (.iload_n 1, 1) := by decide +kernel
theorem dX6_writes_7 : decode cX6_writes 7 = .ok (.invokevirtual 86, 3) := by decide +kernel
theorem dX6_writes_10 : decode cX6_writes 10 = .ok (.ifCond .eq 23, 3) := by decide +kernel
theorem dX6_writes_13 : decode cX6_writes 13 = .ok (.iload_n 2, 1) := by decide +kernel
theorem dX6_writes_14 : decode cX6_writes 14 = .ok (.iconst 0, 1) := by decide +kernel
theorem dX6_writes_15 : decode cX6_writes 15 = .ok (.bipush 99, 2) := by decide +kernel
theorem dX6_writes_17 : decode cX6_writes 17 = .ok (.invokestatic 69, 3) := by decide +kernel
theorem dX6_writes_20 : decode cX6_writes 20 = .ok (.ifCond .eq 13, 3) := by decide +kernel
theorem dX6_writes_23 : decode cX6_writes 23 = .ok (.aload_n 0, 1) := by decide +kernel
theorem dX6_writes_24 : decode cX6_writes 24 = .ok (.iload_n 1, 1) := by decide +kernel
theorem dX6_writes_25 : decode cX6_writes 25 = .ok (.iconst 2, 1) := by decide +kernel
theorem dX6_writes_26 : decode cX6_writes 26 = .ok (.iload_n 2, 1) := by decide +kernel
theorem dX6_writes_27 : decode cX6_writes 27 = .ok (.invokevirtual 89, 3) := by decide +kernel
theorem dX6_writes_30 : decode cX6_writes 30 = .ok (.goto 4, 3) := by decide +kernel
theorem dX6_writes_33 : decode cX6_writes 33 = .ok (.iconst (-1), 1) := by decide +kernel
theorem dX6_writes_34 : decode cX6_writes 34 = .ok (.ireturn, 1) := by decide +kernel
theorem dX6_steps_0 : decode cX6_steps 0 = .ok (.aload_n 0, 1) := by decide +kernel
theorem dX6_steps_1 : decode cX6_steps 1 = .ok (.iconst 0, 1) := by decide +kernel
theorem dX6_steps_2 : decode cX6_steps 2 = .ok (.putfield 36, 3) := by decide +kernel
theorem dX6_steps_5 : decode cX6_steps 5 = .ok (.aload_n 0, 1) := by decide +kernel
theorem dX6_steps_6 : decode cX6_steps 6 = .ok (.iload_n 1, 1) := by decide +kernel
theorem dX6_steps_7 : decode cX6_steps 7 = .ok (.invokevirtual 86, 3) := by decide +kernel
theorem dX6_steps_10 : decode cX6_steps 10 = .ok (.ifCond .eq 13, 3) := by decide +kernel
theorem dX6_steps_13 : decode cX6_steps 13 = .ok (.iload_n 2, 1) := by decide +kernel
theorem dX6_steps_14 : decode cX6_steps 14 = .ok (.iconst 1, 1) := by decide +kernel
theorem dX6_steps_15 : decode cX6_steps 15 = .ok (.bipush 20, 2) := by decide +kernel
theorem dX6_steps_17 : decode cX6_steps 17 = .ok (.invokestatic 69, 3) := by decide +kernel
theorem dX6_steps_20 : decode cX6_steps 20 = .ok (.ifCond .ne 5, 3) := by decide +kernel
theorem dX6_steps_23 : decode cX6_steps 23 = .ok (.iconst (-1), 1) := by decide +kernel
theorem dX6_steps_24 : decode cX6_steps 24 = .ok (.ireturn, 1) := by decide +kernel
theorem dX6_steps_25 : decode cX6_steps 25 = .ok (.aload_n 0, 1) := by decide +kernel
theorem dX6_steps_26 : decode cX6_steps 26 = .ok (.iload_n 1, 1) := by decide +kernel
theorem dX6_steps_27 : decode cX6_steps 27 = .ok (.invokevirtual 79, 3) := by decide +kernel
theorem dX6_steps_30 : decode cX6_steps 30 = .ok (.ifCond .eq 6, 3) := by decide +kernel
theorem dX6_steps_33 : decode cX6_steps 33 = .ok (.bipush (-2), 2) := by decide +kernel
theorem dX6_steps_35 : decode cX6_steps 35 = .ok (.ireturn, 1) := by decide +kernel
theorem dX6_steps_36 : decode cX6_steps 36 = .ok (.aload_n 0, 1) := by decide +kernel
theorem dX6_steps_37 : decode cX6_steps 37 = .ok (.invokevirtual 73, 3) := by decide +kernel
theorem dX6_steps_40 : decode cX6_steps 40 = .ok (.iconst 0, 1) := by decide +kernel
theorem dX6_steps_41 : decode cX6_steps 41 = .ok (.istore_n 3, 1) := by decide +kernel
theorem dX6_steps_42 : decode cX6_steps 42 = .ok (.iload_n 3, 1) := by decide +kernel
theorem dX6_steps_43 : decode cX6_steps 43 = .ok (.iload_n 2, 1) := by decide +kernel
theorem dX6_steps_44 : decode cX6_steps 44 = .ok (.if_icmp .ge 25, 3) := by decide +kernel
theorem dX6_steps_47 : decode cX6_steps 47 = .ok (.aload_n 0, 1) := by decide +kernel
theorem dX6_steps_48 : decode cX6_steps 48 = .ok (.iload_n 1, 1) := by decide +kernel
theorem dX6_steps_49 : decode cX6_steps 49 = .ok (.invokevirtual 79, 3) := by decide +kernel
theorem dX6_steps_52 : decode cX6_steps 52 = .ok (.ifCond .ne 17, 3) := by decide +kernel
theorem dX6_steps_55 : decode cX6_steps 55 = .ok (.aload_n 0, 1) := by decide +kernel
theorem dX6_steps_56 : decode cX6_steps 56 = .ok (.getfield 7, 3) := by decide +kernel
theorem dX6_steps_59 : decode cX6_steps 59 = .ok (.iload_n 1, 1) := by decide +kernel
theorem dX6_steps_60 : decode cX6_steps 60 = .ok (.invokestatic 93, 3) := by decide +kernel
theorem dX6_steps_63 : decode cX6_steps 63 = .ok (.iinc 3 1, 3) := by decide +kernel
theorem dX6_steps_66 : decode cX6_steps 66 = .ok (.goto (-24), 3) := by decide +kernel
theorem dX6_steps_69 : decode cX6_steps 69 = .ok (.iload_n 3, 1) := by decide +kernel
theorem dX6_steps_70 : decode cX6_steps 70 = .ok (.ireturn, 1) := by decide +kernel
theorem dX6_undo_0 : decode cX6_undo 0 = .ok (.aload_n 0, 1) := by decide +kernel
theorem dX6_undo_1 : decode cX6_undo 1 = .ok (.iconst 0, 1) := by decide +kernel
theorem dX6_undo_2 : decode cX6_undo 2 = .ok (.putfield 36, 3) := by decide +kernel
theorem dX6_undo_5 : decode cX6_undo 5 = .ok (.aload_n 0, 1) := by decide +kernel
theorem dX6_undo_6 : decode cX6_undo 6 = .ok (.getfield 66, 3) := by decide +kernel
theorem dX6_undo_9 : decode cX6_undo 9 = .ok (.ifCond .ne 6, 3) := by decide +kernel
theorem dX6_undo_12 : decode cX6_undo 12 = .ok (.bipush (-2), 2) := by decide +kernel
theorem dX6_undo_14 : decode cX6_undo 14 = .ok (.ireturn, 1) := by decide +kernel
theorem dX6_undo_15 : decode cX6_undo 15 = .ok (.aload_n 0, 1) := by decide +kernel
theorem dX6_undo_16 : decode cX6_undo 16 = .ok (.dup, 1) := by decide +kernel
theorem dX6_undo_17 : decode cX6_undo 17 = .ok (.getfield 66, 3) := by decide +kernel
theorem dX6_undo_20 : decode cX6_undo 20 = .ok (.iconst 1, 1) := by decide +kernel
theorem dX6_undo_21 : decode cX6_undo 21 = .ok (.isub, 1) := by decide +kernel
theorem dX6_undo_22 : decode cX6_undo 22 = .ok (.putfield 66, 3) := by decide +kernel
theorem dX6_undo_25 : decode cX6_undo 25 = .ok (.iconst 0, 1) := by decide +kernel
theorem dX6_undo_26 : decode cX6_undo 26 = .ok (.istore_n 1, 1) := by decide +kernel
theorem dX6_undo_27 : decode cX6_undo 27 = .ok (.iload_n 1, 1) := by decide +kernel
theorem dX6_undo_28 : decode cX6_undo 28 = .ok (.sipush 512, 3) := by decide +kernel
theorem dX6_undo_31 : decode cX6_undo 31 = .ok (.if_icmp .ge 30, 3) := by decide +kernel
theorem dX6_undo_34 : decode cX6_undo 34 = .ok (.aload_n 0, 1) := by decide +kernel
theorem dX6_undo_35 : decode cX6_undo 35 = .ok (.getfield 7, 3) := by decide +kernel
theorem dX6_undo_38 : decode cX6_undo 38 = .ok (.iload_n 1, 1) := by decide +kernel
theorem dX6_undo_39 : decode cX6_undo 39 = .ok (.aload_n 0, 1) := by decide +kernel
theorem dX6_undo_40 : decode cX6_undo 40 = .ok (.getfield 16, 3) := by decide +kernel
theorem dX6_undo_43 : decode cX6_undo 43 = .ok (.sipush 512, 3) := by decide +kernel
theorem dX6_undo_46 : decode cX6_undo 46 = .ok (.aload_n 0, 1) := by decide +kernel
theorem dX6_undo_47 : decode cX6_undo 47 = .ok (.getfield 66, 3) := by decide +kernel
theorem dX6_undo_50 : decode cX6_undo 50 = .ok (.imul, 1) := by decide +kernel
theorem dX6_undo_51 : decode cX6_undo 51 = .ok (.iload_n 1, 1) := by decide +kernel
theorem dX6_undo_52 : decode cX6_undo 52 = .ok (.iadd, 1) := by decide +kernel
theorem dX6_undo_53 : decode cX6_undo 53 = .ok (.iaload, 1) := by decide +kernel
theorem dX6_undo_54 : decode cX6_undo 54 = .ok (.iastore, 1) := by decide +kernel
theorem dX6_undo_55 : decode cX6_undo 55 = .ok (.iinc 1 1, 3) := by decide +kernel
theorem dX6_undo_58 : decode cX6_undo 58 = .ok (.goto (-31), 3) := by decide +kernel
theorem dX6_undo_61 : decode cX6_undo 61 = .ok (.aload_n 0, 1) := by decide +kernel
theorem dX6_undo_62 : decode cX6_undo 62 = .ok (.getfield 66, 3) := by decide +kernel
theorem dX6_undo_65 : decode cX6_undo 65 = .ok (.ireturn, 1) := by decide +kernel
theorem dX6_isCell_0 : decode cX6_isCell 0 = .ok (.iload_n 1, 1) := by decide +kernel
theorem dX6_isCell_1 : decode cX6_isCell 1 = .ok (.iconst 0, 1) := by decide +kernel
theorem dX6_isCell_2 : decode cX6_isCell 2 = .ok (.aload_n 0, 1) := by decide +kernel
theorem dX6_isCell_3 : decode cX6_isCell 3 = .ok (.getfield 7, 3) := by decide +kernel
theorem dX6_isCell_6 : decode cX6_isCell 6 = .ok (.iconst 0, 1) := by decide +kernel
theorem dX6_isCell_7 : decode cX6_isCell 7 = .ok (.iaload, 1) := by decide +kernel
theorem dX6_isCell_8 : decode cX6_isCell 8 = .ok (.iconst 1, 1) := by decide +kernel
theorem dX6_isCell_9 : decode cX6_isCell 9 = .ok (.isub, 1) := by decide +kernel
theorem dX6_isCell_10 : decode cX6_isCell 10 = .ok (.invokestatic 69, 3) := by decide +kernel
theorem dX6_isCell_13 : decode cX6_isCell 13 = .ok (.ireturn, 1) := by decide +kernel
theorem dX6_cell_0 : decode cX6_cell 0 = .ok (.aload_n 0, 1) := by decide +kernel
theorem dX6_cell_1 : decode cX6_cell 1 = .ok (.iconst 0, 1) := by decide +kernel
theorem dX6_cell_2 : decode cX6_cell 2 = .ok (.putfield 36, 3) := by decide +kernel
theorem dX6_cell_5 : decode cX6_cell 5 = .ok (.aload_n 0, 1) := by decide +kernel
theorem dX6_cell_6 : decode cX6_cell 6 = .ok (.iload_n 1, 1) := by decide +kernel
theorem dX6_cell_7 : decode cX6_cell 7 = .ok (.invokevirtual 96, 3) := by decide +kernel
theorem dX6_cell_10 : decode cX6_cell 10 = .ok (.ifCond .eq 26, 3) := by decide +kernel
theorem dX6_cell_13 : decode cX6_cell 13 = .ok (.iload_n 2, 1) := by decide +kernel
theorem dX6_cell_14 : decode cX6_cell 14 = .ok (.iconst 0, 1) := by decide +kernel
theorem dX6_cell_15 : decode cX6_cell 15 = .ok (.iconst 5, 1) := by decide +kernel
theorem dX6_cell_16 : decode cX6_cell 16 = .ok (.invokestatic 69, 3) := by decide +kernel
theorem dX6_cell_19 : decode cX6_cell 19 = .ok (.ifCond .eq 17, 3) := by decide +kernel
theorem dX6_cell_22 : decode cX6_cell 22 = .ok (.aload_n 0, 1) := by decide +kernel
theorem dX6_cell_23 : decode cX6_cell 23 = .ok (.getfield 7, 3) := by decide +kernel
theorem dX6_cell_26 : decode cX6_cell 26 = .ok (.iload_n 1, 1) := by decide +kernel
theorem dX6_cell_27 : decode cX6_cell 27 = .ok (.invokestatic 48, 3) := by decide +kernel
theorem dX6_cell_30 : decode cX6_cell 30 = .ok (.iload_n 2, 1) := by decide +kernel
theorem dX6_cell_31 : decode cX6_cell 31 = .ok (.iadd, 1) := by decide +kernel
theorem dX6_cell_32 : decode cX6_cell 32 = .ok (.iaload, 1) := by decide +kernel
theorem dX6_cell_33 : decode cX6_cell 33 = .ok (.goto 4, 3) := by decide +kernel
theorem dX6_cell_36 : decode cX6_cell 36 = .ok (.iconst (-1), 1) := by decide +kernel
theorem dX6_cell_37 : decode cX6_cell 37 = .ok (.ireturn, 1) := by decide +kernel
theorem dX6_writer_0 : decode cX6_writer 0 = .ok (.aload_n 0, 1) := by decide +kernel
theorem dX6_writer_1 : decode cX6_writer 1 = .ok (.iconst 0, 1) := by decide +kernel
theorem dX6_writer_2 : decode cX6_writer 2 = .ok (.putfield 36, 3) := by decide +kernel
theorem dX6_writer_5 : decode cX6_writer 5 = .ok (.aload_n 0, 1) := by decide +kernel
theorem dX6_writer_6 : decode cX6_writer 6 = .ok (.iload_n 1, 1) := by decide +kernel
theorem dX6_writer_7 : decode cX6_writer 7 = .ok (.invokevirtual 86, 3) := by decide +kernel
theorem dX6_writer_10 : decode cX6_writer 10 = .ok (.ifCond .eq 13, 3) := by decide +kernel
theorem dX6_writer_13 : decode cX6_writer 13 = .ok (.iload_n 2, 1) := by decide +kernel
theorem dX6_writer_14 : decode cX6_writer 14 = .ok (.iconst 0, 1) := by decide +kernel
theorem dX6_writer_15 : decode cX6_writer 15 = .ok (.bipush 8, 2) := by decide +kernel
theorem dX6_writer_17 : decode cX6_writer 17 = .ok (.invokestatic 69, 3) := by decide +kernel
theorem dX6_writer_20 : decode cX6_writer 20 = .ok (.ifCond .ne 5, 3) := by decide +kernel
theorem dX6_writer_23 : decode cX6_writer 23 = .ok (.iconst (-1), 1) := by decide +kernel
theorem dX6_writer_24 : decode cX6_writer 24 = .ok (.ireturn, 1) := by decide +kernel
theorem dX6_writer_25 : decode cX6_writer 25 = .ok (.iload_n 1, 1) := by decide +kernel
theorem dX6_writer_26 : decode cX6_writer 26 = .ok (.invokestatic 40, 3) := by decide +kernel
theorem dX6_writer_29 : decode cX6_writer 29 = .ok (.istore_n 3, 1) := by decide +kernel
theorem dX6_writer_30 : decode cX6_writer 30 = .ok (.aload_n 0, 1) := by decide +kernel
theorem dX6_writer_31 : decode cX6_writer 31 = .ok (.iload_n 1, 1) := by decide +kernel
theorem dX6_writer_32 : decode cX6_writer 32 = .ok (.invokevirtual 79, 3) := by decide +kernel
theorem dX6_writer_35 : decode cX6_writer 35 = .ok (.ifCond .ne 18, 3) := by decide +kernel
theorem dX6_writer_38 : decode cX6_writer 38 = .ok (.aload_n 0, 1) := by decide +kernel
theorem dX6_writer_39 : decode cX6_writer 39 = .ok (.getfield 7, 3) := by decide +kernel
theorem dX6_writer_42 : decode cX6_writer 42 = .ok (.iload_n 3, 1) := by decide +kernel
theorem dX6_writer_43 : decode cX6_writer 43 = .ok (.iconst 5, 1) := by decide +kernel
theorem dX6_writer_44 : decode cX6_writer 44 = .ok (.iadd, 1) := by decide +kernel
theorem dX6_writer_45 : decode cX6_writer 45 = .ok (.iaload, 1) := by decide +kernel
theorem dX6_writer_46 : decode cX6_writer 46 = .ok (.ifCond .ne 7, 3) := by decide +kernel
theorem dX6_writer_49 : decode cX6_writer 49 = .ok (.iconst 1, 1) := by decide +kernel
theorem dX6_writer_50 : decode cX6_writer 50 = .ok (.goto 4, 3) := by decide +kernel
theorem dX6_writer_53 : decode cX6_writer 53 = .ok (.iconst 0, 1) := by decide +kernel
theorem dX6_writer_54 : decode cX6_writer 54 = .ok (.istore 4, 2) := by decide +kernel
theorem dX6_writer_56 : decode cX6_writer 56 = .ok (.iload_n 2, 1) := by decide +kernel
theorem dX6_writer_57 : decode cX6_writer 57 = .ok (.tableswitch 130 0 8 #[51, 60, 69, 95, 130, 130, 130, 130, 104], 51) := by decide +kernel
theorem dX6_writer_108 : decode cX6_writer 108 = .ok (.aload_n 0, 1) := by decide +kernel
theorem dX6_writer_109 : decode cX6_writer 109 = .ok (.getfield 7, 3) := by decide +kernel
theorem dX6_writer_112 : decode cX6_writer 112 = .ok (.iload_n 3, 1) := by decide +kernel
theorem dX6_writer_113 : decode cX6_writer 113 = .ok (.iconst 0, 1) := by decide +kernel
theorem dX6_writer_114 : decode cX6_writer 114 = .ok (.iadd, 1) := by decide +kernel
theorem dX6_writer_115 : decode cX6_writer 115 = .ok (.iaload, 1) := by decide +kernel
theorem dX6_writer_116 : decode cX6_writer 116 = .ok (.ireturn, 1) := by decide +kernel
theorem dX6_writer_117 : decode cX6_writer 117 = .ok (.aload_n 0, 1) := by decide +kernel
theorem dX6_writer_118 : decode cX6_writer 118 = .ok (.getfield 7, 3) := by decide +kernel
theorem dX6_writer_121 : decode cX6_writer 121 = .ok (.iload_n 3, 1) := by decide +kernel
theorem dX6_writer_122 : decode cX6_writer 122 = .ok (.iconst 2, 1) := by decide +kernel
theorem dX6_writer_123 : decode cX6_writer 123 = .ok (.iadd, 1) := by decide +kernel
theorem dX6_writer_124 : decode cX6_writer 124 = .ok (.iaload, 1) := by decide +kernel
theorem dX6_writer_125 : decode cX6_writer 125 = .ok (.ireturn, 1) := by decide +kernel
theorem dX6_writer_126 : decode cX6_writer 126 = .ok (.iload 4, 2) := by decide +kernel
theorem dX6_writer_128 : decode cX6_writer 128 = .ok (.ifCond .eq 21, 3) := by decide +kernel
theorem dX6_writer_131 : decode cX6_writer 131 = .ok (.aload_n 0, 1) := by decide +kernel
theorem dX6_writer_132 : decode cX6_writer 132 = .ok (.getfield 7, 3) := by decide +kernel
theorem dX6_writer_135 : decode cX6_writer 135 = .ok (.iload_n 3, 1) := by decide +kernel
theorem dX6_writer_136 : decode cX6_writer 136 = .ok (.iconst 2, 1) := by decide +kernel
theorem dX6_writer_137 : decode cX6_writer 137 = .ok (.iadd, 1) := by decide +kernel
theorem dX6_writer_138 : decode cX6_writer 138 = .ok (.iaload, 1) := by decide +kernel
theorem dX6_writer_139 : decode cX6_writer 139 = .ok (.aload_n 0, 1) := by decide +kernel
theorem dX6_writer_140 : decode cX6_writer 140 = .ok (.getfield 7, 3) := by decide +kernel
theorem dX6_writer_143 : decode cX6_writer 143 = .ok (.iconst 0, 1) := by decide +kernel
theorem dX6_writer_144 : decode cX6_writer 144 = .ok (.iaload, 1) := by decide +kernel
theorem dX6_writer_145 : decode cX6_writer 145 = .ok (.irem, 1) := by decide +kernel
theorem dX6_writer_146 : decode cX6_writer 146 = .ok (.goto 5, 3) := by decide +kernel
theorem dX6_writer_149 : decode cX6_writer 149 = .ok (.bipush (-9), 2) := by decide +kernel
theorem dX6_writer_151 : decode cX6_writer 151 = .ok (.ireturn, 1) := by decide +kernel
theorem dX6_writer_152 : decode cX6_writer 152 = .ok (.aload_n 0, 1) := by decide +kernel
theorem dX6_writer_153 : decode cX6_writer 153 = .ok (.getfield 7, 3) := by decide +kernel
theorem dX6_writer_156 : decode cX6_writer 156 = .ok (.iload_n 3, 1) := by decide +kernel
theorem dX6_writer_157 : decode cX6_writer 157 = .ok (.iconst 4, 1) := by decide +kernel
theorem dX6_writer_158 : decode cX6_writer 158 = .ok (.iadd, 1) := by decide +kernel
theorem dX6_writer_159 : decode cX6_writer 159 = .ok (.iaload, 1) := by decide +kernel
theorem dX6_writer_160 : decode cX6_writer 160 = .ok (.ireturn, 1) := by decide +kernel
theorem dX6_writer_161 : decode cX6_writer 161 = .ok (.aload_n 0, 1) := by decide +kernel
theorem dX6_writer_162 : decode cX6_writer 162 = .ok (.getfield 7, 3) := by decide +kernel
theorem dX6_writer_165 : decode cX6_writer 165 = .ok (.iload_n 3, 1) := by decide +kernel
theorem dX6_writer_166 : decode cX6_writer 166 = .ok (.iconst 0, 1) := by decide +kernel
theorem dX6_writer_167 : decode cX6_writer 167 = .ok (.iadd, 1) := by decide +kernel
theorem dX6_writer_168 : decode cX6_writer 168 = .ok (.iaload, 1) := by decide +kernel
theorem dX6_writer_169 : decode cX6_writer 169 = .ok (.iconst 2, 1) := by decide +kernel
theorem dX6_writer_170 : decode cX6_writer 170 = .ok (.if_icmp .ne 14, 3) := by decide +kernel
theorem dX6_writer_173 : decode cX6_writer 173 = .ok (.aload_n 0, 1) := by decide +kernel
theorem dX6_writer_174 : decode cX6_writer 174 = .ok (.getfield 7, 3) := by decide +kernel
theorem dX6_writer_177 : decode cX6_writer 177 = .ok (.iload_n 3, 1) := by decide +kernel
theorem dX6_writer_178 : decode cX6_writer 178 = .ok (.iconst 1, 1) := by decide +kernel
theorem dX6_writer_179 : decode cX6_writer 179 = .ok (.iadd, 1) := by decide +kernel
theorem dX6_writer_180 : decode cX6_writer 180 = .ok (.iaload, 1) := by decide +kernel
theorem dX6_writer_181 : decode cX6_writer 181 = .ok (.goto 5, 3) := by decide +kernel
theorem dX6_writer_184 : decode cX6_writer 184 = .ok (.bipush (-9), 2) := by decide +kernel
theorem dX6_writer_186 : decode cX6_writer 186 = .ok (.ireturn, 1) := by decide +kernel
theorem dX6_writer_187 : decode cX6_writer 187 = .ok (.aload_n 0, 1) := by decide +kernel
theorem dX6_writer_188 : decode cX6_writer 188 = .ok (.getfield 7, 3) := by decide +kernel
theorem dX6_writer_191 : decode cX6_writer 191 = .ok (.iload_n 3, 1) := by decide +kernel
theorem dX6_writer_192 : decode cX6_writer 192 = .ok (.bipush 6, 2) := by decide +kernel
theorem dX6_writer_194 : decode cX6_writer 194 = .ok (.iadd, 1) := by decide +kernel
theorem dX6_writer_195 : decode cX6_writer 195 = .ok (.iload_n 2, 1) := by decide +kernel
theorem dX6_writer_196 : decode cX6_writer 196 = .ok (.iadd, 1) := by decide +kernel
theorem dX6_writer_197 : decode cX6_writer 197 = .ok (.iconst 4, 1) := by decide +kernel
theorem dX6_writer_198 : decode cX6_writer 198 = .ok (.isub, 1) := by decide +kernel
theorem dX6_writer_199 : decode cX6_writer 199 = .ok (.iaload, 1) := by decide +kernel
theorem dX6_writer_200 : decode cX6_writer 200 = .ok (.ireturn, 1) := by decide +kernel
theorem dX6_read_0 : decode cX6_read 0 = .ok (.aload_n 0, 1) := by decide +kernel
theorem dX6_read_1 : decode cX6_read 1 = .ok (.iconst 0, 1) := by decide +kernel
theorem dX6_read_2 : decode cX6_read 2 = .ok (.putfield 36, 3) := by decide +kernel
theorem dX6_read_5 : decode cX6_read 5 = .ok (.aload_n 0, 1) := by decide +kernel
theorem dX6_read_6 : decode cX6_read 6 = .ok (.iload_n 1, 1) := by decide +kernel
theorem dX6_read_7 : decode cX6_read 7 = .ok (.invokevirtual 86, 3) := by decide +kernel
theorem dX6_read_10 : decode cX6_read 10 = .ok (.ifCond .eq 20, 3) := by decide +kernel
theorem dX6_read_13 : decode cX6_read 13 = .ok (.aload_n 0, 1) := by decide +kernel
theorem dX6_read_14 : decode cX6_read 14 = .ok (.iload_n 2, 1) := by decide +kernel
theorem dX6_read_15 : decode cX6_read 15 = .ok (.invokevirtual 96, 3) := by decide +kernel
theorem dX6_read_18 : decode cX6_read 18 = .ok (.ifCond .eq 12, 3) := by decide +kernel
theorem dX6_read_21 : decode cX6_read 21 = .ok (.iload_n 3, 1) := by decide +kernel
theorem dX6_read_22 : decode cX6_read 22 = .ok (.iconst 0, 1) := by decide +kernel
theorem dX6_read_23 : decode cX6_read 23 = .ok (.iconst 1, 1) := by decide +kernel
theorem dX6_read_24 : decode cX6_read 24 = .ok (.invokestatic 69, 3) := by decide +kernel
theorem dX6_read_27 : decode cX6_read 27 = .ok (.ifCond .ne 5, 3) := by decide +kernel
theorem dX6_read_30 : decode cX6_read 30 = .ok (.iconst (-1), 1) := by decide +kernel
theorem dX6_read_31 : decode cX6_read 31 = .ok (.ireturn, 1) := by decide +kernel
theorem dX6_read_32 : decode cX6_read 32 = .ok (.iload_n 1, 1) := by decide +kernel
theorem dX6_read_33 : decode cX6_read 33 = .ok (.invokestatic 40, 3) := by decide +kernel
theorem dX6_read_36 : decode cX6_read 36 = .ok (.istore 4, 2) := by decide +kernel
theorem dX6_read_38 : decode cX6_read 38 = .ok (.aload_n 0, 1) := by decide +kernel
theorem dX6_read_39 : decode cX6_read 39 = .ok (.iload_n 1, 1) := by decide +kernel
theorem dX6_read_40 : decode cX6_read 40 = .ok (.invokevirtual 79, 3) := by decide +kernel
theorem dX6_read_43 : decode cX6_read 43 = .ok (.ifCond .ne 39, 3) := by decide +kernel
theorem dX6_read_46 : decode cX6_read 46 = .ok (.aload_n 0, 1) := by decide +kernel
theorem dX6_read_47 : decode cX6_read 47 = .ok (.getfield 7, 3) := by decide +kernel
theorem dX6_read_50 : decode cX6_read 50 = .ok (.iload 4, 2) := by decide +kernel
theorem dX6_read_52 : decode cX6_read 52 = .ok (.iconst 5, 1) := by decide +kernel
theorem dX6_read_53 : decode cX6_read 53 = .ok (.iadd, 1) := by decide +kernel
theorem dX6_read_54 : decode cX6_read 54 = .ok (.iaload, 1) := by decide +kernel
theorem dX6_read_55 : decode cX6_read 55 = .ok (.ifCond .ne 27, 3) := by decide +kernel
theorem dX6_read_58 : decode cX6_read 58 = .ok (.aload_n 0, 1) := by decide +kernel
theorem dX6_read_59 : decode cX6_read 59 = .ok (.getfield 7, 3) := by decide +kernel
theorem dX6_read_62 : decode cX6_read 62 = .ok (.iload 4, 2) := by decide +kernel
theorem dX6_read_64 : decode cX6_read 64 = .ok (.iconst 2, 1) := by decide +kernel
theorem dX6_read_65 : decode cX6_read 65 = .ok (.iadd, 1) := by decide +kernel
theorem dX6_read_66 : decode cX6_read 66 = .ok (.iaload, 1) := by decide +kernel
theorem dX6_read_67 : decode cX6_read 67 = .ok (.aload_n 0, 1) := by decide +kernel
theorem dX6_read_68 : decode cX6_read 68 = .ok (.getfield 7, 3) := by decide +kernel
theorem dX6_read_71 : decode cX6_read 71 = .ok (.iconst 0, 1) := by decide +kernel
theorem dX6_read_72 : decode cX6_read 72 = .ok (.iaload, 1) := by decide +kernel
theorem dX6_read_73 : decode cX6_read 73 = .ok (.irem, 1) := by decide +kernel
theorem dX6_read_74 : decode cX6_read 74 = .ok (.iload_n 2, 1) := by decide +kernel
theorem dX6_read_75 : decode cX6_read 75 = .ok (.if_icmp .le 7, 3) := by decide +kernel
theorem dX6_read_78 : decode cX6_read 78 = .ok (.iconst 1, 1) := by decide +kernel
theorem dX6_read_79 : decode cX6_read 79 = .ok (.goto 4, 3) := by decide +kernel
theorem dX6_read_82 : decode cX6_read 82 = .ok (.iconst 0, 1) := by decide +kernel
theorem dX6_read_83 : decode cX6_read 83 = .ok (.istore 5, 2) := by decide +kernel
theorem dX6_read_85 : decode cX6_read 85 = .ok (.iload 5, 2) := by decide +kernel
theorem dX6_read_87 : decode cX6_read 87 = .ok (.ifCond .eq 23, 3) := by decide +kernel
theorem dX6_read_90 : decode cX6_read 90 = .ok (.aload_n 0, 1) := by decide +kernel
theorem dX6_read_91 : decode cX6_read 91 = .ok (.getfield 7, 3) := by decide +kernel
theorem dX6_read_94 : decode cX6_read 94 = .ok (.iload 4, 2) := by decide +kernel
theorem dX6_read_96 : decode cX6_read 96 = .ok (.bipush 14, 2) := by decide +kernel
theorem dX6_read_98 : decode cX6_read 98 = .ok (.iadd, 1) := by decide +kernel
theorem dX6_read_99 : decode cX6_read 99 = .ok (.bipush 6, 2) := by decide +kernel
theorem dX6_read_101 : decode cX6_read 101 = .ok (.iload_n 2, 1) := by decide +kernel
theorem dX6_read_102 : decode cX6_read 102 = .ok (.imul, 1) := by decide +kernel
theorem dX6_read_103 : decode cX6_read 103 = .ok (.iadd, 1) := by decide +kernel
theorem dX6_read_104 : decode cX6_read 104 = .ok (.iload_n 3, 1) := by decide +kernel
theorem dX6_read_105 : decode cX6_read 105 = .ok (.iadd, 1) := by decide +kernel
theorem dX6_read_106 : decode cX6_read 106 = .ok (.iaload, 1) := by decide +kernel
theorem dX6_read_107 : decode cX6_read 107 = .ok (.goto 5, 3) := by decide +kernel
theorem dX6_read_110 : decode cX6_read 110 = .ok (.bipush (-9), 2) := by decide +kernel
theorem dX6_read_112 : decode cX6_read 112 = .ok (.ireturn, 1) := by decide +kernel
theorem dX6_valueAt_0 : decode cX6_valueAt 0 = .ok (.iconst 0, 1) := by decide +kernel
theorem dX6_valueAt_1 : decode cX6_valueAt 1 = .ok (.istore_n 3, 1) := by decide +kernel
theorem dX6_valueAt_2 : decode cX6_valueAt 2 = .ok (.iconst 0, 1) := by decide +kernel
theorem dX6_valueAt_3 : decode cX6_valueAt 3 = .ok (.istore 4, 2) := by decide +kernel
theorem dX6_valueAt_5 : decode cX6_valueAt 5 = .ok (.iload 4, 2) := by decide +kernel
theorem dX6_valueAt_7 : decode cX6_valueAt 7 = .ok (.aload_n 0, 1) := by decide +kernel
theorem dX6_valueAt_8 : decode cX6_valueAt 8 = .ok (.getfield 7, 3) := by decide +kernel
theorem dX6_valueAt_11 : decode cX6_valueAt 11 = .ok (.bipush 6, 2) := by decide +kernel
theorem dX6_valueAt_13 : decode cX6_valueAt 13 = .ok (.iaload, 1) := by decide +kernel
theorem dX6_valueAt_14 : decode cX6_valueAt 14 = .ok (.if_icmp .ge 57, 3) := by decide +kernel
theorem dX6_valueAt_17 : decode cX6_valueAt 17 = .ok (.sipush 440, 3) := by decide +kernel
theorem dX6_valueAt_20 : decode cX6_valueAt 20 = .ok (.iconst 3, 1) := by decide +kernel
theorem dX6_valueAt_21 : decode cX6_valueAt 21 = .ok (.iload 4, 2) := by decide +kernel
theorem dX6_valueAt_23 : decode cX6_valueAt 23 = .ok (.imul, 1) := by decide +kernel
theorem dX6_valueAt_24 : decode cX6_valueAt 24 = .ok (.iadd, 1) := by decide +kernel
theorem dX6_valueAt_25 : decode cX6_valueAt 25 = .ok (.istore 5, 2) := by decide +kernel
theorem dX6_valueAt_27 : decode cX6_valueAt 27 = .ok (.aload_n 0, 1) := by decide +kernel
theorem dX6_valueAt_28 : decode cX6_valueAt 28 = .ok (.getfield 7, 3) := by decide +kernel
theorem dX6_valueAt_31 : decode cX6_valueAt 31 = .ok (.iload 5, 2) := by decide +kernel
theorem dX6_valueAt_33 : decode cX6_valueAt 33 = .ok (.iaload, 1) := by decide +kernel
theorem dX6_valueAt_34 : decode cX6_valueAt 34 = .ok (.iload_n 2, 1) := by decide +kernel
theorem dX6_valueAt_35 : decode cX6_valueAt 35 = .ok (.if_icmp .gt 28, 3) := by decide +kernel
theorem dX6_valueAt_38 : decode cX6_valueAt 38 = .ok (.aload_n 0, 1) := by decide +kernel
theorem dX6_valueAt_39 : decode cX6_valueAt 39 = .ok (.getfield 7, 3) := by decide +kernel
theorem dX6_valueAt_42 : decode cX6_valueAt 42 = .ok (.iload 5, 2) := by decide +kernel
theorem dX6_valueAt_44 : decode cX6_valueAt 44 = .ok (.iconst 1, 1) := by decide +kernel
theorem dX6_valueAt_45 : decode cX6_valueAt 45 = .ok (.iadd, 1) := by decide +kernel
theorem dX6_valueAt_46 : decode cX6_valueAt 46 = .ok (.iaload, 1) := by decide +kernel
theorem dX6_valueAt_47 : decode cX6_valueAt 47 = .ok (.iload_n 1, 1) := by decide +kernel
theorem dX6_valueAt_48 : decode cX6_valueAt 48 = .ok (.if_icmp .ne 15, 3) := by decide +kernel
theorem dX6_valueAt_51 : decode cX6_valueAt 51 = .ok (.aload_n 0, 1) := by decide +kernel
theorem dX6_valueAt_52 : decode cX6_valueAt 52 = .ok (.getfield 7, 3) := by decide +kernel
theorem dX6_valueAt_55 : decode cX6_valueAt 55 = .ok (.iload 5, 2) := by decide +kernel
theorem dX6_valueAt_57 : decode cX6_valueAt 57 = .ok (.iconst 2, 1) := by decide +kernel
theorem dX6_valueAt_58 : decode cX6_valueAt 58 = .ok (.iadd, 1) := by decide +kernel
theorem dX6_valueAt_59 : decode cX6_valueAt 59 = .ok (.iaload, 1) := by decide +kernel
theorem dX6_valueAt_60 : decode cX6_valueAt 60 = .ok (.goto 4, 3) := by decide +kernel
theorem dX6_valueAt_63 : decode cX6_valueAt 63 = .ok (.iload_n 3, 1) := by decide +kernel
theorem dX6_valueAt_64 : decode cX6_valueAt 64 = .ok (.istore_n 3, 1) := by decide +kernel
theorem dX6_valueAt_65 : decode cX6_valueAt 65 = .ok (.iinc 4 1, 3) := by decide +kernel
theorem dX6_valueAt_68 : decode cX6_valueAt 68 = .ok (.goto (-63), 3) := by decide +kernel
theorem dX6_valueAt_71 : decode cX6_valueAt 71 = .ok (.iload_n 3, 1) := by decide +kernel
theorem dX6_valueAt_72 : decode cX6_valueAt 72 = .ok (.ireturn, 1) := by decide +kernel
theorem dX6_momentOf_0 : decode cX6_momentOf 0 = .ok (.sipush 200, 3) := by decide +kernel
theorem dX6_momentOf_3 : decode cX6_momentOf 3 = .ok (.bipush 10, 2) := by decide +kernel
theorem dX6_momentOf_5 : decode cX6_momentOf 5 = .ok (.iload_n 1, 1) := by decide +kernel
theorem dX6_momentOf_6 : decode cX6_momentOf 6 = .ok (.imul, 1) := by decide +kernel
theorem dX6_momentOf_7 : decode cX6_momentOf 7 = .ok (.iadd, 1) := by decide +kernel
theorem dX6_momentOf_8 : decode cX6_momentOf 8 = .ok (.istore_n 2, 1) := by decide +kernel
theorem dX6_momentOf_9 : decode cX6_momentOf 9 = .ok (.aload_n 0, 1) := by decide +kernel
theorem dX6_momentOf_10 : decode cX6_momentOf 10 = .ok (.getfield 7, 3) := by decide +kernel
theorem dX6_momentOf_13 : decode cX6_momentOf 13 = .ok (.iload_n 2, 1) := by decide +kernel
theorem dX6_momentOf_14 : decode cX6_momentOf 14 = .ok (.iconst 1, 1) := by decide +kernel
theorem dX6_momentOf_15 : decode cX6_momentOf 15 = .ok (.iadd, 1) := by decide +kernel
theorem dX6_momentOf_16 : decode cX6_momentOf 16 = .ok (.iaload, 1) := by decide +kernel
theorem dX6_momentOf_17 : decode cX6_momentOf 17 = .ok (.istore_n 3, 1) := by decide +kernel
theorem dX6_momentOf_18 : decode cX6_momentOf 18 = .ok (.iload_n 3, 1) := by decide +kernel
theorem dX6_momentOf_19 : decode cX6_momentOf 19 = .ok (.aload_n 0, 1) := by decide +kernel
theorem dX6_momentOf_20 : decode cX6_momentOf 20 = .ok (.getfield 7, 3) := by decide +kernel
theorem dX6_momentOf_23 : decode cX6_momentOf 23 = .ok (.iload_n 2, 1) := by decide +kernel
theorem dX6_momentOf_24 : decode cX6_momentOf 24 = .ok (.iconst 2, 1) := by decide +kernel
theorem dX6_momentOf_25 : decode cX6_momentOf 25 = .ok (.iadd, 1) := by decide +kernel
theorem dX6_momentOf_26 : decode cX6_momentOf 26 = .ok (.iaload, 1) := by decide +kernel
theorem dX6_momentOf_27 : decode cX6_momentOf 27 = .ok (.if_icmp .gt 73, 3) := by decide +kernel
theorem dX6_momentOf_30 : decode cX6_momentOf 30 = .ok (.iconst 1, 1) := by decide +kernel
theorem dX6_momentOf_31 : decode cX6_momentOf 31 = .ok (.istore 4, 2) := by decide +kernel
theorem dX6_momentOf_33 : decode cX6_momentOf 33 = .ok (.iconst 0, 1) := by decide +kernel
theorem dX6_momentOf_34 : decode cX6_momentOf 34 = .ok (.istore 5, 2) := by decide +kernel
theorem dX6_momentOf_36 : decode cX6_momentOf 36 = .ok (.iload 5, 2) := by decide +kernel
theorem dX6_momentOf_38 : decode cX6_momentOf 38 = .ok (.aload_n 0, 1) := by decide +kernel
theorem dX6_momentOf_39 : decode cX6_momentOf 39 = .ok (.getfield 7, 3) := by decide +kernel
theorem dX6_momentOf_42 : decode cX6_momentOf 42 = .ok (.iconst 0, 1) := by decide +kernel
theorem dX6_momentOf_43 : decode cX6_momentOf 43 = .ok (.iaload, 1) := by decide +kernel
theorem dX6_momentOf_44 : decode cX6_momentOf 44 = .ok (.if_icmp .ge 43, 3) := by decide +kernel
theorem dX6_momentOf_47 : decode cX6_momentOf 47 = .ok (.iload 4, 2) := by decide +kernel
theorem dX6_momentOf_49 : decode cX6_momentOf 49 = .ok (.ifCond .eq 38, 3) := by decide +kernel
theorem dX6_momentOf_52 : decode cX6_momentOf 52 = .ok (.aload_n 0, 1) := by decide +kernel
theorem dX6_momentOf_53 : decode cX6_momentOf 53 = .ok (.iload 5, 2) := by decide +kernel
theorem dX6_momentOf_55 : decode cX6_momentOf 55 = .ok (.iload_n 3, 1) := by decide +kernel
theorem dX6_momentOf_56 : decode cX6_momentOf 56 = .ok (.invokevirtual 99, 3) := by decide +kernel
theorem dX6_momentOf_59 : decode cX6_momentOf 59 = .ok (.aload_n 0, 1) := by decide +kernel
theorem dX6_momentOf_60 : decode cX6_momentOf 60 = .ok (.getfield 7, 3) := by decide +kernel
theorem dX6_momentOf_63 : decode cX6_momentOf 63 = .ok (.iload_n 2, 1) := by decide +kernel
theorem dX6_momentOf_64 : decode cX6_momentOf 64 = .ok (.bipush 6, 2) := by decide +kernel
theorem dX6_momentOf_66 : decode cX6_momentOf 66 = .ok (.iadd, 1) := by decide +kernel
theorem dX6_momentOf_67 : decode cX6_momentOf 67 = .ok (.iload 5, 2) := by decide +kernel
theorem dX6_momentOf_69 : decode cX6_momentOf 69 = .ok (.iadd, 1) := by decide +kernel
theorem dX6_momentOf_70 : decode cX6_momentOf 70 = .ok (.iaload, 1) := by decide +kernel
theorem dX6_momentOf_71 : decode cX6_momentOf 71 = .ok (.if_icmp .ne 7, 3) := by decide +kernel
theorem dX6_momentOf_74 : decode cX6_momentOf 74 = .ok (.iconst 1, 1) := by decide +kernel
theorem dX6_momentOf_75 : decode cX6_momentOf 75 = .ok (.goto 4, 3) := by decide +kernel
theorem dX6_momentOf_78 : decode cX6_momentOf 78 = .ok (.iconst 0, 1) := by decide +kernel
theorem dX6_momentOf_79 : decode cX6_momentOf 79 = .ok (.istore 4, 2) := by decide +kernel
theorem dX6_momentOf_81 : decode cX6_momentOf 81 = .ok (.iinc 5 1, 3) := by decide +kernel
theorem dX6_momentOf_84 : decode cX6_momentOf 84 = .ok (.goto (-48), 3) := by decide +kernel
theorem dX6_momentOf_87 : decode cX6_momentOf 87 = .ok (.iload 4, 2) := by decide +kernel
theorem dX6_momentOf_89 : decode cX6_momentOf 89 = .ok (.ifCond .eq 5, 3) := by decide +kernel
theorem dX6_momentOf_92 : decode cX6_momentOf 92 = .ok (.iload_n 3, 1) := by decide +kernel
theorem dX6_momentOf_93 : decode cX6_momentOf 93 = .ok (.ireturn, 1) := by decide +kernel
theorem dX6_momentOf_94 : decode cX6_momentOf 94 = .ok (.iinc 3 1, 3) := by decide +kernel
theorem dX6_momentOf_97 : decode cX6_momentOf 97 = .ok (.goto (-79), 3) := by decide +kernel
theorem dX6_momentOf_100 : decode cX6_momentOf 100 = .ok (.bipush (-9), 2) := by decide +kernel
theorem dX6_momentOf_102 : decode cX6_momentOf 102 = .ok (.ireturn, 1) := by decide +kernel
theorem dX6_photo_0 : decode cX6_photo 0 = .ok (.aload_n 0, 1) := by decide +kernel
theorem dX6_photo_1 : decode cX6_photo 1 = .ok (.iconst 0, 1) := by decide +kernel
theorem dX6_photo_2 : decode cX6_photo 2 = .ok (.putfield 36, 3) := by decide +kernel
theorem dX6_photo_5 : decode cX6_photo 5 = .ok (.iload_n 1, 1) := by decide +kernel
theorem dX6_photo_6 : decode cX6_photo 6 = .ok (.iconst 0, 1) := by decide +kernel
theorem dX6_photo_7 : decode cX6_photo 7 = .ok (.aload_n 0, 1) := by decide +kernel
theorem dX6_photo_8 : decode cX6_photo 8 = .ok (.getfield 7, 3) := by decide +kernel
theorem dX6_photo_11 : decode cX6_photo 11 = .ok (.iconst 5, 1) := by decide +kernel
theorem dX6_photo_12 : decode cX6_photo 12 = .ok (.iaload, 1) := by decide +kernel
theorem dX6_photo_13 : decode cX6_photo 13 = .ok (.iconst 1, 1) := by decide +kernel
theorem dX6_photo_14 : decode cX6_photo 14 = .ok (.isub, 1) := by decide +kernel
theorem dX6_photo_15 : decode cX6_photo 15 = .ok (.invokestatic 69, 3) := by decide +kernel
theorem dX6_photo_18 : decode cX6_photo 18 = .ok (.ifCond .eq 13, 3) := by decide +kernel
theorem dX6_photo_21 : decode cX6_photo 21 = .ok (.iload_n 2, 1) := by decide +kernel
theorem dX6_photo_22 : decode cX6_photo 22 = .ok (.iconst 0, 1) := by decide +kernel
theorem dX6_photo_23 : decode cX6_photo 23 = .ok (.bipush 10, 2) := by decide +kernel
theorem dX6_photo_25 : decode cX6_photo 25 = .ok (.invokestatic 69, 3) := by decide +kernel
theorem dX6_photo_28 : decode cX6_photo 28 = .ok (.ifCond .ne 5, 3) := by decide +kernel
theorem dX6_photo_31 : decode cX6_photo 31 = .ok (.iconst (-1), 1) := by decide +kernel
theorem dX6_photo_32 : decode cX6_photo 32 = .ok (.ireturn, 1) := by decide +kernel
theorem dX6_photo_33 : decode cX6_photo 33 = .ok (.iload_n 2, 1) := by decide +kernel
theorem dX6_photo_34 : decode cX6_photo 34 = .ok (.bipush 10, 2) := by decide +kernel
theorem dX6_photo_36 : decode cX6_photo 36 = .ok (.if_icmp .ne 11, 3) := by decide +kernel
theorem dX6_photo_39 : decode cX6_photo 39 = .ok (.aload_n 0, 1) := by decide +kernel
theorem dX6_photo_40 : decode cX6_photo 40 = .ok (.iload_n 1, 1) := by decide +kernel
theorem dX6_photo_41 : decode cX6_photo 41 = .ok (.invokevirtual 103, 3) := by decide +kernel
theorem dX6_photo_44 : decode cX6_photo 44 = .ok (.goto 18, 3) := by decide +kernel
theorem dX6_photo_47 : decode cX6_photo 47 = .ok (.aload_n 0, 1) := by decide +kernel
theorem dX6_photo_48 : decode cX6_photo 48 = .ok (.getfield 7, 3) := by decide +kernel
theorem dX6_photo_51 : decode cX6_photo 51 = .ok (.sipush 200, 3) := by decide +kernel
theorem dX6_photo_54 : decode cX6_photo 54 = .ok (.bipush 10, 2) := by decide +kernel
theorem dX6_photo_56 : decode cX6_photo 56 = .ok (.iload_n 1, 1) := by decide +kernel
theorem dX6_photo_57 : decode cX6_photo 57 = .ok (.imul, 1) := by decide +kernel
theorem dX6_photo_58 : decode cX6_photo 58 = .ok (.iadd, 1) := by decide +kernel
theorem dX6_photo_59 : decode cX6_photo 59 = .ok (.iload_n 2, 1) := by decide +kernel
theorem dX6_photo_60 : decode cX6_photo 60 = .ok (.iadd, 1) := by decide +kernel
theorem dX6_photo_61 : decode cX6_photo 61 = .ok (.iaload, 1) := by decide +kernel
theorem dX6_photo_62 : decode cX6_photo 62 = .ok (.ireturn, 1) := by decide +kernel
theorem dX6_asNow_0 : decode cX6_asNow 0 = .ok (.iconst 0, 1) := by decide +kernel
theorem dX6_asNow_1 : decode cX6_asNow 1 = .ok (.istore_n 1, 1) := by decide +kernel
theorem dX6_asNow_2 : decode cX6_asNow 2 = .ok (.iload_n 1, 1) := by decide +kernel
theorem dX6_asNow_3 : decode cX6_asNow 3 = .ok (.sipush 512, 3) := by decide +kernel
theorem dX6_asNow_6 : decode cX6_asNow 6 = .ok (.if_icmp .ge 21, 3) := by decide +kernel
theorem dX6_asNow_9 : decode cX6_asNow 9 = .ok (.aload_n 0, 1) := by decide +kernel
theorem dX6_asNow_10 : decode cX6_asNow 10 = .ok (.getfield 13, 3) := by decide +kernel
theorem dX6_asNow_13 : decode cX6_asNow 13 = .ok (.iload_n 1, 1) := by decide +kernel
theorem dX6_asNow_14 : decode cX6_asNow 14 = .ok (.aload_n 0, 1) := by decide +kernel
theorem dX6_asNow_15 : decode cX6_asNow 15 = .ok (.getfield 7, 3) := by decide +kernel
theorem dX6_asNow_18 : decode cX6_asNow 18 = .ok (.iload_n 1, 1) := by decide +kernel
theorem dX6_asNow_19 : decode cX6_asNow 19 = .ok (.iaload, 1) := by decide +kernel
theorem dX6_asNow_20 : decode cX6_asNow 20 = .ok (.iastore, 1) := by decide +kernel
theorem dX6_asNow_21 : decode cX6_asNow 21 = .ok (.iinc 1 1, 3) := by decide +kernel
theorem dX6_asNow_24 : decode cX6_asNow 24 = .ok (.goto (-22), 3) := by decide +kernel
theorem dX6_asNow_27 : decode cX6_asNow 27 = .ok (.return_, 1) := by decide +kernel
theorem dX6_lone_0 : decode cX6_lone 0 = .ok (.aload_n 0, 1) := by decide +kernel
theorem dX6_lone_1 : decode cX6_lone 1 = .ok (.iconst 0, 1) := by decide +kernel
theorem dX6_lone_2 : decode cX6_lone 2 = .ok (.putfield 36, 3) := by decide +kernel
theorem dX6_lone_5 : decode cX6_lone 5 = .ok (.aload_n 0, 1) := by decide +kernel
theorem dX6_lone_6 : decode cX6_lone 6 = .ok (.iload_n 1, 1) := by decide +kernel
theorem dX6_lone_7 : decode cX6_lone 7 = .ok (.invokevirtual 86, 3) := by decide +kernel
theorem dX6_lone_10 : decode cX6_lone 10 = .ok (.ifCond .ne 5, 3) := by decide +kernel
theorem dX6_lone_13 : decode cX6_lone 13 = .ok (.iconst (-1), 1) := by decide +kernel
theorem dX6_lone_14 : decode cX6_lone 14 = .ok (.ireturn, 1) := by decide +kernel
theorem dX6_lone_15 : decode cX6_lone 15 = .ok (.aload_n 0, 1) := by decide +kernel
theorem dX6_lone_16 : decode cX6_lone 16 = .ok (.invokevirtual 106, 3) := by decide +kernel
theorem dX6_lone_19 : decode cX6_lone 19 = .ok (.iconst 0, 1) := by decide +kernel
theorem dX6_lone_20 : decode cX6_lone 20 = .ok (.istore_n 2, 1) := by decide +kernel
theorem dX6_lone_21 : decode cX6_lone 21 = .ok (.aload_n 0, 1) := by decide +kernel
theorem dX6_lone_22 : decode cX6_lone 22 = .ok (.getfield 13, 3) := by decide +kernel
theorem dX6_lone_25 : decode cX6_lone 25 = .ok (.iload_n 1, 1) := by decide +kernel
theorem dX6_lone_26 : decode cX6_lone 26 = .ok (.invokestatic 40, 3) := by decide +kernel
theorem dX6_lone_29 : decode cX6_lone 29 = .ok (.iconst 0, 1) := by decide +kernel
theorem dX6_lone_30 : decode cX6_lone 30 = .ok (.iadd, 1) := by decide +kernel
theorem dX6_lone_31 : decode cX6_lone 31 = .ok (.iaload, 1) := by decide +kernel
theorem dX6_lone_32 : decode cX6_lone 32 = .ok (.ifCond .eq 17, 3) := by decide +kernel
theorem dX6_lone_35 : decode cX6_lone 35 = .ok (.aload_n 0, 1) := by decide +kernel
theorem dX6_lone_36 : decode cX6_lone 36 = .ok (.getfield 13, 3) := by decide +kernel
theorem dX6_lone_39 : decode cX6_lone 39 = .ok (.iload_n 1, 1) := by decide +kernel
theorem dX6_lone_40 : decode cX6_lone 40 = .ok (.invokestatic 93, 3) := by decide +kernel
theorem dX6_lone_43 : decode cX6_lone 43 = .ok (.iinc 2 1, 3) := by decide +kernel
theorem dX6_lone_46 : decode cX6_lone 46 = .ok (.goto (-25), 3) := by decide +kernel
theorem dX6_lone_49 : decode cX6_lone 49 = .ok (.iload_n 2, 1) := by decide +kernel
theorem dX6_lone_50 : decode cX6_lone 50 = .ok (.ireturn, 1) := by decide +kernel
theorem dX6_byTurns_0 : decode cX6_byTurns 0 = .ok (.aload_n 0, 1) := by decide +kernel
theorem dX6_byTurns_1 : decode cX6_byTurns 1 = .ok (.iconst 0, 1) := by decide +kernel
theorem dX6_byTurns_2 : decode cX6_byTurns 2 = .ok (.putfield 36, 3) := by decide +kernel
theorem dX6_byTurns_5 : decode cX6_byTurns 5 = .ok (.aload_n 0, 1) := by decide +kernel
theorem dX6_byTurns_6 : decode cX6_byTurns 6 = .ok (.invokevirtual 106, 3) := by decide +kernel
theorem dX6_byTurns_9 : decode cX6_byTurns 9 = .ok (.iconst 0, 1) := by decide +kernel
theorem dX6_byTurns_10 : decode cX6_byTurns 10 = .ok (.istore_n 1, 1) := by decide +kernel
theorem dX6_byTurns_11 : decode cX6_byTurns 11 = .ok (.iconst 1, 1) := by decide +kernel
theorem dX6_byTurns_12 : decode cX6_byTurns 12 = .ok (.istore_n 2, 1) := by decide +kernel
theorem dX6_byTurns_13 : decode cX6_byTurns 13 = .ok (.iload_n 2, 1) := by decide +kernel
theorem dX6_byTurns_14 : decode cX6_byTurns 14 = .ok (.ifCond .eq 53, 3) := by decide +kernel
theorem dX6_byTurns_17 : decode cX6_byTurns 17 = .ok (.iconst 0, 1) := by decide +kernel
theorem dX6_byTurns_18 : decode cX6_byTurns 18 = .ok (.istore_n 2, 1) := by decide +kernel
theorem dX6_byTurns_19 : decode cX6_byTurns 19 = .ok (.iconst 0, 1) := by decide +kernel
theorem dX6_byTurns_20 : decode cX6_byTurns 20 = .ok (.istore_n 3, 1) := by decide +kernel
theorem dX6_byTurns_21 : decode cX6_byTurns 21 = .ok (.iload_n 3, 1) := by decide +kernel
theorem dX6_byTurns_22 : decode cX6_byTurns 22 = .ok (.aload_n 0, 1) := by decide +kernel
theorem dX6_byTurns_23 : decode cX6_byTurns 23 = .ok (.getfield 7, 3) := by decide +kernel
theorem dX6_byTurns_26 : decode cX6_byTurns 26 = .ok (.iconst 0, 1) := by decide +kernel
theorem dX6_byTurns_27 : decode cX6_byTurns 27 = .ok (.iaload, 1) := by decide +kernel
theorem dX6_byTurns_28 : decode cX6_byTurns 28 = .ok (.if_icmp .ge 36, 3) := by decide +kernel
theorem dX6_byTurns_31 : decode cX6_byTurns 31 = .ok (.aload_n 0, 1) := by decide +kernel
theorem dX6_byTurns_32 : decode cX6_byTurns 32 = .ok (.getfield 13, 3) := by decide +kernel
theorem dX6_byTurns_35 : decode cX6_byTurns 35 = .ok (.iload_n 3, 1) := by decide +kernel
theorem dX6_byTurns_36 : decode cX6_byTurns 36 = .ok (.invokestatic 40, 3) := by decide +kernel
theorem dX6_byTurns_39 : decode cX6_byTurns 39 = .ok (.iconst 0, 1) := by decide +kernel
theorem dX6_byTurns_40 : decode cX6_byTurns 40 = .ok (.iadd, 1) := by decide +kernel
theorem dX6_byTurns_41 : decode cX6_byTurns 41 = .ok (.iaload, 1) := by decide +kernel
theorem dX6_byTurns_42 : decode cX6_byTurns 42 = .ok (.ifCond .eq 16, 3) := by decide +kernel
theorem dX6_byTurns_45 : decode cX6_byTurns 45 = .ok (.aload_n 0, 1) := by decide +kernel
theorem dX6_byTurns_46 : decode cX6_byTurns 46 = .ok (.getfield 13, 3) := by decide +kernel
theorem dX6_byTurns_49 : decode cX6_byTurns 49 = .ok (.iload_n 3, 1) := by decide +kernel
theorem dX6_byTurns_50 : decode cX6_byTurns 50 = .ok (.invokestatic 93, 3) := by decide +kernel
theorem dX6_byTurns_53 : decode cX6_byTurns 53 = .ok (.iinc 1 1, 3) := by decide +kernel
theorem dX6_byTurns_56 : decode cX6_byTurns 56 = .ok (.iconst 1, 1) := by decide +kernel
theorem dX6_byTurns_57 : decode cX6_byTurns 57 = .ok (.istore_n 2, 1) := by decide +kernel
theorem dX6_byTurns_58 : decode cX6_byTurns 58 = .ok (.iinc 3 1, 3) := by decide +kernel
theorem dX6_byTurns_61 : decode cX6_byTurns 61 = .ok (.goto (-40), 3) := by decide +kernel
theorem dX6_byTurns_64 : decode cX6_byTurns 64 = .ok (.goto (-51), 3) := by decide +kernel
theorem dX6_byTurns_67 : decode cX6_byTurns 67 = .ok (.iload_n 1, 1) := by decide +kernel
theorem dX6_byTurns_68 : decode cX6_byTurns 68 = .ok (.ireturn, 1) := by decide +kernel
theorem dX6_reads_0 : decode cX6_reads 0 = .ok (.aload_n 0, 1) := by decide +kernel
theorem dX6_reads_1 : decode cX6_reads 1 = .ok (.iconst 0, 1) := by decide +kernel
theorem dX6_reads_2 : decode cX6_reads 2 = .ok (.putfield 36, 3) := by decide +kernel
theorem dX6_reads_5 : decode cX6_reads 5 = .ok (.iload_n 1, 1) := by decide +kernel
theorem dX6_reads_6 : decode cX6_reads 6 = .ok (.iconst 0, 1) := by decide +kernel
theorem dX6_reads_7 : decode cX6_reads 7 = .ok (.bipush 99, 2) := by decide +kernel
theorem dX6_reads_9 : decode cX6_reads 9 = .ok (.invokestatic 69, 3) := by decide +kernel
theorem dX6_reads_12 : decode cX6_reads 12 = .ok (.ifCond .eq 12, 3) := by decide +kernel
theorem dX6_reads_15 : decode cX6_reads 15 = .ok (.iload_n 2, 1) := by decide +kernel
theorem dX6_reads_16 : decode cX6_reads 16 = .ok (.iconst 0, 1) := by decide +kernel
theorem dX6_reads_17 : decode cX6_reads 17 = .ok (.iconst 2, 1) := by decide +kernel
theorem dX6_reads_18 : decode cX6_reads 18 = .ok (.invokestatic 69, 3) := by decide +kernel
theorem dX6_reads_21 : decode cX6_reads 21 = .ok (.ifCond .ne 5, 3) := by decide +kernel
theorem dX6_reads_24 : decode cX6_reads 24 = .ok (.iconst (-1), 1) := by decide +kernel
theorem dX6_reads_25 : decode cX6_reads 25 = .ok (.ireturn, 1) := by decide +kernel
theorem dX6_reads_26 : decode cX6_reads 26 = .ok (.iconst 0, 1) := by decide +kernel
theorem dX6_reads_27 : decode cX6_reads 27 = .ok (.istore_n 3, 1) := by decide +kernel
theorem dX6_reads_28 : decode cX6_reads 28 = .ok (.bipush (-9), 2) := by decide +kernel
theorem dX6_reads_30 : decode cX6_reads 30 = .ok (.istore 4, 2) := by decide +kernel
theorem dX6_reads_32 : decode cX6_reads 32 = .ok (.bipush (-9), 2) := by decide +kernel
theorem dX6_reads_34 : decode cX6_reads 34 = .ok (.istore 5, 2) := by decide +kernel
theorem dX6_reads_36 : decode cX6_reads 36 = .ok (.iconst 0, 1) := by decide +kernel
theorem dX6_reads_37 : decode cX6_reads 37 = .ok (.istore 6, 2) := by decide +kernel
theorem dX6_reads_39 : decode cX6_reads 39 = .ok (.iload 6, 2) := by decide +kernel
theorem dX6_reads_41 : decode cX6_reads 41 = .ok (.aload_n 0, 1) := by decide +kernel
theorem dX6_reads_42 : decode cX6_reads 42 = .ok (.getfield 7, 3) := by decide +kernel
theorem dX6_reads_45 : decode cX6_reads 45 = .ok (.iconst 5, 1) := by decide +kernel
theorem dX6_reads_46 : decode cX6_reads 46 = .ok (.iaload, 1) := by decide +kernel
theorem dX6_reads_47 : decode cX6_reads 47 = .ok (.if_icmp .ge 92, 3) := by decide +kernel
theorem dX6_reads_50 : decode cX6_reads 50 = .ok (.aload_n 0, 1) := by decide +kernel
theorem dX6_reads_51 : decode cX6_reads 51 = .ok (.getfield 7, 3) := by decide +kernel
theorem dX6_reads_54 : decode cX6_reads 54 = .ok (.sipush 200, 3) := by decide +kernel
theorem dX6_reads_57 : decode cX6_reads 57 = .ok (.bipush 10, 2) := by decide +kernel
theorem dX6_reads_59 : decode cX6_reads 59 = .ok (.iload 6, 2) := by decide +kernel
theorem dX6_reads_61 : decode cX6_reads 61 = .ok (.imul, 1) := by decide +kernel
theorem dX6_reads_62 : decode cX6_reads 62 = .ok (.iadd, 1) := by decide +kernel
theorem dX6_reads_63 : decode cX6_reads 63 = .ok (.iconst 3, 1) := by decide +kernel
theorem dX6_reads_64 : decode cX6_reads 64 = .ok (.iadd, 1) := by decide +kernel
theorem dX6_reads_65 : decode cX6_reads 65 = .ok (.iaload, 1) := by decide +kernel
theorem dX6_reads_66 : decode cX6_reads 66 = .ok (.istore 7, 2) := by decide +kernel
theorem dX6_reads_68 : decode cX6_reads 68 = .ok (.iload_n 3, 1) := by decide +kernel
theorem dX6_reads_69 : decode cX6_reads 69 = .ok (.iload 7, 2) := by decide +kernel
theorem dX6_reads_71 : decode cX6_reads 71 = .ok (.iload_n 1, 1) := by decide +kernel
theorem dX6_reads_72 : decode cX6_reads 72 = .ok (.if_icmp .ne 7, 3) := by decide +kernel
theorem dX6_reads_75 : decode cX6_reads 75 = .ok (.iconst 1, 1) := by decide +kernel
theorem dX6_reads_76 : decode cX6_reads 76 = .ok (.goto 4, 3) := by decide +kernel
theorem dX6_reads_79 : decode cX6_reads 79 = .ok (.iconst 0, 1) := by decide +kernel
theorem dX6_reads_80 : decode cX6_reads 80 = .ok (.iadd, 1) := by decide +kernel
theorem dX6_reads_81 : decode cX6_reads 81 = .ok (.istore_n 3, 1) := by decide +kernel
theorem dX6_reads_82 : decode cX6_reads 82 = .ok (.iload 7, 2) := by decide +kernel
theorem dX6_reads_84 : decode cX6_reads 84 = .ok (.iload_n 1, 1) := by decide +kernel
theorem dX6_reads_85 : decode cX6_reads 85 = .ok (.if_icmp .le 22, 3) := by decide +kernel
theorem dX6_reads_88 : decode cX6_reads 88 = .ok (.iload 4, 2) := by decide +kernel
theorem dX6_reads_90 : decode cX6_reads 90 = .ok (.bipush (-9), 2) := by decide +kernel
theorem dX6_reads_92 : decode cX6_reads 92 = .ok (.if_icmp .eq 10, 3) := by decide +kernel
theorem dX6_reads_95 : decode cX6_reads 95 = .ok (.iload 7, 2) := by decide +kernel
theorem dX6_reads_97 : decode cX6_reads 97 = .ok (.iload 4, 2) := by decide +kernel
theorem dX6_reads_99 : decode cX6_reads 99 = .ok (.if_icmp .ge 8, 3) := by decide +kernel
theorem dX6_reads_102 : decode cX6_reads 102 = .ok (.iload 7, 2) := by decide +kernel
theorem dX6_reads_104 : decode cX6_reads 104 = .ok (.goto 5, 3) := by decide +kernel
theorem dX6_reads_107 : decode cX6_reads 107 = .ok (.iload 4, 2) := by decide +kernel
theorem dX6_reads_109 : decode cX6_reads 109 = .ok (.istore 4, 2) := by decide +kernel
theorem dX6_reads_111 : decode cX6_reads 111 = .ok (.iload 7, 2) := by decide +kernel
theorem dX6_reads_113 : decode cX6_reads 113 = .ok (.iload_n 1, 1) := by decide +kernel
theorem dX6_reads_114 : decode cX6_reads 114 = .ok (.if_icmp .ge 15, 3) := by decide +kernel
theorem dX6_reads_117 : decode cX6_reads 117 = .ok (.iload 7, 2) := by decide +kernel
theorem dX6_reads_119 : decode cX6_reads 119 = .ok (.iload 5, 2) := by decide +kernel
theorem dX6_reads_121 : decode cX6_reads 121 = .ok (.if_icmp .le 8, 3) := by decide +kernel
theorem dX6_reads_124 : decode cX6_reads 124 = .ok (.iload 7, 2) := by decide +kernel
theorem dX6_reads_126 : decode cX6_reads 126 = .ok (.goto 5, 3) := by decide +kernel
theorem dX6_reads_129 : decode cX6_reads 129 = .ok (.iload 5, 2) := by decide +kernel
theorem dX6_reads_131 : decode cX6_reads 131 = .ok (.istore 5, 2) := by decide +kernel
theorem dX6_reads_133 : decode cX6_reads 133 = .ok (.iinc 6 1, 3) := by decide +kernel
theorem dX6_reads_136 : decode cX6_reads 136 = .ok (.goto (-97), 3) := by decide +kernel
theorem dX6_reads_139 : decode cX6_reads 139 = .ok (.iload_n 2, 1) := by decide +kernel
theorem dX6_reads_140 : decode cX6_reads 140 = .ok (.ifCond .ne 7, 3) := by decide +kernel
theorem dX6_reads_143 : decode cX6_reads 143 = .ok (.iload_n 3, 1) := by decide +kernel
theorem dX6_reads_144 : decode cX6_reads 144 = .ok (.goto 15, 3) := by decide +kernel
theorem dX6_reads_147 : decode cX6_reads 147 = .ok (.iload_n 2, 1) := by decide +kernel
theorem dX6_reads_148 : decode cX6_reads 148 = .ok (.iconst 1, 1) := by decide +kernel
theorem dX6_reads_149 : decode cX6_reads 149 = .ok (.if_icmp .ne 8, 3) := by decide +kernel
theorem dX6_reads_152 : decode cX6_reads 152 = .ok (.iload 4, 2) := by decide +kernel
theorem dX6_reads_154 : decode cX6_reads 154 = .ok (.goto 5, 3) := by decide +kernel
theorem dX6_reads_157 : decode cX6_reads 157 = .ok (.iload 5, 2) := by decide +kernel
theorem dX6_reads_159 : decode cX6_reads 159 = .ok (.ireturn, 1) := by decide +kernel
theorem dX6_trialOf_0 : decode cX6_trialOf 0 = .ok (.aload_n 0, 1) := by decide +kernel
theorem dX6_trialOf_1 : decode cX6_trialOf 1 = .ok (.getfield 13, 3) := by decide +kernel
theorem dX6_trialOf_4 : decode cX6_trialOf 4 = .ok (.aload_n 0, 1) := by decide +kernel
theorem dX6_trialOf_5 : decode cX6_trialOf 5 = .ok (.getfield 7, 3) := by decide +kernel
theorem dX6_trialOf_8 : decode cX6_trialOf 8 = .ok (.iconst 0, 1) := by decide +kernel
theorem dX6_trialOf_9 : decode cX6_trialOf 9 = .ok (.iaload, 1) := by decide +kernel
theorem dX6_trialOf_10 : decode cX6_trialOf 10 = .ok (.iload_n 1, 1) := by decide +kernel
theorem dX6_trialOf_11 : decode cX6_trialOf 11 = .ok (.aload_n 0, 1) := by decide +kernel
theorem dX6_trialOf_12 : decode cX6_trialOf 12 = .ok (.getfield 7, 3) := by decide +kernel
theorem dX6_trialOf_15 : decode cX6_trialOf 15 = .ok (.iconst 2, 1) := by decide +kernel
theorem dX6_trialOf_16 : decode cX6_trialOf 16 = .ok (.iaload, 1) := by decide +kernel
theorem dX6_trialOf_17 : decode cX6_trialOf 17 = .ok (.invokestatic 32, 3) := by decide +kernel
theorem dX6_trialOf_20 : decode cX6_trialOf 20 = .ok (.aload_n 0, 1) := by decide +kernel
theorem dX6_trialOf_21 : decode cX6_trialOf 21 = .ok (.getfield 13, 3) := by decide +kernel
theorem dX6_trialOf_24 : decode cX6_trialOf 24 = .ok (.iconst 0, 1) := by decide +kernel
theorem dX6_trialOf_25 : decode cX6_trialOf 25 = .ok (.iconst 1, 1) := by decide +kernel
theorem dX6_trialOf_26 : decode cX6_trialOf 26 = .ok (.iconst 0, 1) := by decide +kernel
theorem dX6_trialOf_27 : decode cX6_trialOf 27 = .ok (.invokestatic 83, 3) := by decide +kernel
theorem dX6_trialOf_30 : decode cX6_trialOf 30 = .ok (.aload_n 0, 1) := by decide +kernel
theorem dX6_trialOf_31 : decode cX6_trialOf 31 = .ok (.getfield 13, 3) := by decide +kernel
theorem dX6_trialOf_34 : decode cX6_trialOf 34 = .ok (.iconst 1, 1) := by decide +kernel
theorem dX6_trialOf_35 : decode cX6_trialOf 35 = .ok (.iconst 2, 1) := by decide +kernel
theorem dX6_trialOf_36 : decode cX6_trialOf 36 = .ok (.iconst 1, 1) := by decide +kernel
theorem dX6_trialOf_37 : decode cX6_trialOf 37 = .ok (.invokestatic 83, 3) := by decide +kernel
theorem dX6_trialOf_40 : decode cX6_trialOf 40 = .ok (.iconst 1, 1) := by decide +kernel
theorem dX6_trialOf_41 : decode cX6_trialOf 41 = .ok (.istore 4, 2) := by decide +kernel
theorem dX6_trialOf_43 : decode cX6_trialOf 43 = .ok (.iconst 0, 1) := by decide +kernel
theorem dX6_trialOf_44 : decode cX6_trialOf 44 = .ok (.istore 5, 2) := by decide +kernel
theorem dX6_trialOf_46 : decode cX6_trialOf 46 = .ok (.aload_n 0, 1) := by decide +kernel
theorem dX6_trialOf_47 : decode cX6_trialOf 47 = .ok (.getfield 13, 3) := by decide +kernel
theorem dX6_trialOf_50 : decode cX6_trialOf 50 = .ok (.iconst 0, 1) := by decide +kernel
theorem dX6_trialOf_51 : decode cX6_trialOf 51 = .ok (.invokestatic 40, 3) := by decide +kernel
theorem dX6_trialOf_54 : decode cX6_trialOf 54 = .ok (.iconst 0, 1) := by decide +kernel
theorem dX6_trialOf_55 : decode cX6_trialOf 55 = .ok (.iadd, 1) := by decide +kernel
theorem dX6_trialOf_56 : decode cX6_trialOf 56 = .ok (.iaload, 1) := by decide +kernel
theorem dX6_trialOf_57 : decode cX6_trialOf 57 = .ok (.ifCond .eq 97, 3) := by decide +kernel
theorem dX6_trialOf_60 : decode cX6_trialOf 60 = .ok (.iconst 0, 1) := by decide +kernel
theorem dX6_trialOf_61 : decode cX6_trialOf 61 = .ok (.istore 6, 2) := by decide +kernel
theorem dX6_trialOf_63 : decode cX6_trialOf 63 = .ok (.iload 6, 2) := by decide +kernel
theorem dX6_trialOf_65 : decode cX6_trialOf 65 = .ok (.iload_n 2, 1) := by decide +kernel
theorem dX6_trialOf_66 : decode cX6_trialOf 66 = .ok (.if_icmp .ge 34, 3) := by decide +kernel
theorem dX6_trialOf_69 : decode cX6_trialOf 69 = .ok (.aload_n 0, 1) := by decide +kernel
theorem dX6_trialOf_70 : decode cX6_trialOf 70 = .ok (.getfield 13, 3) := by decide +kernel
theorem dX6_trialOf_73 : decode cX6_trialOf 73 = .ok (.iconst 0, 1) := by decide +kernel
theorem dX6_trialOf_74 : decode cX6_trialOf 74 = .ok (.invokestatic 40, 3) := by decide +kernel
theorem dX6_trialOf_77 : decode cX6_trialOf 77 = .ok (.iconst 0, 1) := by decide +kernel
theorem dX6_trialOf_78 : decode cX6_trialOf 78 = .ok (.iadd, 1) := by decide +kernel
theorem dX6_trialOf_79 : decode cX6_trialOf 79 = .ok (.iaload, 1) := by decide +kernel
theorem dX6_trialOf_80 : decode cX6_trialOf 80 = .ok (.ifCond .eq 20, 3) := by decide +kernel
theorem dX6_trialOf_83 : decode cX6_trialOf 83 = .ok (.aload_n 0, 1) := by decide +kernel
theorem dX6_trialOf_84 : decode cX6_trialOf 84 = .ok (.getfield 13, 3) := by decide +kernel
theorem dX6_trialOf_87 : decode cX6_trialOf 87 = .ok (.iconst 0, 1) := by decide +kernel
theorem dX6_trialOf_88 : decode cX6_trialOf 88 = .ok (.invokestatic 93, 3) := by decide +kernel
theorem dX6_trialOf_91 : decode cX6_trialOf 91 = .ok (.iinc 5 1, 3) := by decide +kernel
theorem dX6_trialOf_94 : decode cX6_trialOf 94 = .ok (.iinc 6 1, 3) := by decide +kernel
theorem dX6_trialOf_97 : decode cX6_trialOf 97 = .ok (.goto (-34), 3) := by decide +kernel
theorem dX6_trialOf_100 : decode cX6_trialOf 100 = .ok (.iconst 0, 1) := by decide +kernel
theorem dX6_trialOf_101 : decode cX6_trialOf 101 = .ok (.istore 6, 2) := by decide +kernel
theorem dX6_trialOf_103 : decode cX6_trialOf 103 = .ok (.iload 6, 2) := by decide +kernel
theorem dX6_trialOf_105 : decode cX6_trialOf 105 = .ok (.iload_n 3, 1) := by decide +kernel
theorem dX6_trialOf_106 : decode cX6_trialOf 106 = .ok (.if_icmp .ge 45, 3) := by decide +kernel
theorem dX6_trialOf_109 : decode cX6_trialOf 109 = .ok (.aload_n 0, 1) := by decide +kernel
theorem dX6_trialOf_110 : decode cX6_trialOf 110 = .ok (.getfield 13, 3) := by decide +kernel
theorem dX6_trialOf_113 : decode cX6_trialOf 113 = .ok (.iconst 1, 1) := by decide +kernel
theorem dX6_trialOf_114 : decode cX6_trialOf 114 = .ok (.invokestatic 93, 3) := by decide +kernel
theorem dX6_trialOf_117 : decode cX6_trialOf 117 = .ok (.aload_n 0, 1) := by decide +kernel
theorem dX6_trialOf_118 : decode cX6_trialOf 118 = .ok (.getfield 13, 3) := by decide +kernel
theorem dX6_trialOf_121 : decode cX6_trialOf 121 = .ok (.iconst 1, 1) := by decide +kernel
theorem dX6_trialOf_122 : decode cX6_trialOf 122 = .ok (.invokestatic 40, 3) := by decide +kernel
theorem dX6_trialOf_125 : decode cX6_trialOf 125 = .ok (.iconst 0, 1) := by decide +kernel
theorem dX6_trialOf_126 : decode cX6_trialOf 126 = .ok (.iadd, 1) := by decide +kernel
theorem dX6_trialOf_127 : decode cX6_trialOf 127 = .ok (.iaload, 1) := by decide +kernel
theorem dX6_trialOf_128 : decode cX6_trialOf 128 = .ok (.ifCond .ne 17, 3) := by decide +kernel
theorem dX6_trialOf_131 : decode cX6_trialOf 131 = .ok (.iinc 4 1, 3) := by decide +kernel
theorem dX6_trialOf_134 : decode cX6_trialOf 134 = .ok (.aload_n 0, 1) := by decide +kernel
theorem dX6_trialOf_135 : decode cX6_trialOf 135 = .ok (.getfield 13, 3) := by decide +kernel
theorem dX6_trialOf_138 : decode cX6_trialOf 138 = .ok (.iconst 1, 1) := by decide +kernel
theorem dX6_trialOf_139 : decode cX6_trialOf 139 = .ok (.iconst 2, 1) := by decide +kernel
theorem dX6_trialOf_140 : decode cX6_trialOf 140 = .ok (.iload 4, 2) := by decide +kernel
theorem dX6_trialOf_142 : decode cX6_trialOf 142 = .ok (.invokestatic 83, 3) := by decide +kernel
theorem dX6_trialOf_145 : decode cX6_trialOf 145 = .ok (.iinc 6 1, 3) := by decide +kernel
theorem dX6_trialOf_148 : decode cX6_trialOf 148 = .ok (.goto (-45), 3) := by decide +kernel
theorem dX6_trialOf_151 : decode cX6_trialOf 151 = .ok (.goto (-105), 3) := by decide +kernel
theorem dX6_trialOf_154 : decode cX6_trialOf 154 = .ok (.iload 5, 2) := by decide +kernel
theorem dX6_trialOf_156 : decode cX6_trialOf 156 = .ok (.ireturn, 1) := by decide +kernel
theorem dX6_isTrial_0 : decode cX6_isTrial 0 = .ok (.iload_n 0, 1) := by decide +kernel
theorem dX6_isTrial_1 : decode cX6_isTrial 1 = .ok (.iconst 1, 1) := by decide +kernel
theorem dX6_isTrial_2 : decode cX6_isTrial 2 = .ok (.iconst 4, 1) := by decide +kernel
theorem dX6_isTrial_3 : decode cX6_isTrial 3 = .ok (.invokestatic 69, 3) := by decide +kernel
theorem dX6_isTrial_6 : decode cX6_isTrial 6 = .ok (.ifCond .eq 16, 3) := by decide +kernel
theorem dX6_isTrial_9 : decode cX6_isTrial 9 = .ok (.iload_n 1, 1) := by decide +kernel
theorem dX6_isTrial_10 : decode cX6_isTrial 10 = .ok (.iconst 1, 1) := by decide +kernel
theorem dX6_isTrial_11 : decode cX6_isTrial 11 = .ok (.iconst 4, 1) := by decide +kernel
theorem dX6_isTrial_12 : decode cX6_isTrial 12 = .ok (.invokestatic 69, 3) := by decide +kernel
theorem dX6_isTrial_15 : decode cX6_isTrial 15 = .ok (.ifCond .eq 7, 3) := by decide +kernel
theorem dX6_isTrial_18 : decode cX6_isTrial 18 = .ok (.iconst 1, 1) := by decide +kernel
theorem dX6_isTrial_19 : decode cX6_isTrial 19 = .ok (.goto 4, 3) := by decide +kernel
theorem dX6_isTrial_22 : decode cX6_isTrial 22 = .ok (.iconst 0, 1) := by decide +kernel
theorem dX6_isTrial_23 : decode cX6_isTrial 23 = .ok (.ireturn, 1) := by decide +kernel
theorem dX6_trial_0 : decode cX6_trial 0 = .ok (.aload_n 0, 1) := by decide +kernel
theorem dX6_trial_1 : decode cX6_trial 1 = .ok (.iconst 0, 1) := by decide +kernel
theorem dX6_trial_2 : decode cX6_trial 2 = .ok (.putfield 36, 3) := by decide +kernel
theorem dX6_trial_5 : decode cX6_trial 5 = .ok (.iload_n 1, 1) := by decide +kernel
theorem dX6_trial_6 : decode cX6_trial 6 = .ok (.iconst 1, 1) := by decide +kernel
theorem dX6_trial_7 : decode cX6_trial 7 = .ok (.iconst 4, 1) := by decide +kernel
theorem dX6_trial_8 : decode cX6_trial 8 = .ok (.invokestatic 69, 3) := by decide +kernel
theorem dX6_trial_11 : decode cX6_trial 11 = .ok (.ifCond .eq 21, 3) := by decide +kernel
theorem dX6_trial_14 : decode cX6_trial 14 = .ok (.iload_n 2, 1) := by decide +kernel
theorem dX6_trial_15 : decode cX6_trial 15 = .ok (.iload_n 3, 1) := by decide +kernel
theorem dX6_trial_16 : decode cX6_trial 16 = .ok (.invokestatic 109, 3) := by decide +kernel
theorem dX6_trial_19 : decode cX6_trial 19 = .ok (.ifCond .eq 13, 3) := by decide +kernel
theorem dX6_trial_22 : decode cX6_trial 22 = .ok (.aload_n 0, 1) := by decide +kernel
theorem dX6_trial_23 : decode cX6_trial 23 = .ok (.iload_n 1, 1) := by decide +kernel
theorem dX6_trial_24 : decode cX6_trial 24 = .ok (.iload_n 2, 1) := by decide +kernel
theorem dX6_trial_25 : decode cX6_trial 25 = .ok (.iload_n 3, 1) := by decide +kernel
theorem dX6_trial_26 : decode cX6_trial 26 = .ok (.invokevirtual 113, 3) := by decide +kernel
theorem dX6_trial_29 : decode cX6_trial 29 = .ok (.goto 4, 3) := by decide +kernel
theorem dX6_trial_32 : decode cX6_trial 32 = .ok (.iconst (-1), 1) := by decide +kernel
theorem dX6_trial_33 : decode cX6_trial 33 = .ok (.ireturn, 1) := by decide +kernel
theorem dX6_sees_0 : decode cX6_sees 0 = .ok (.aload_n 0, 1) := by decide +kernel
theorem dX6_sees_1 : decode cX6_sees 1 = .ok (.iconst 0, 1) := by decide +kernel
theorem dX6_sees_2 : decode cX6_sees 2 = .ok (.putfield 36, 3) := by decide +kernel
theorem dX6_sees_5 : decode cX6_sees 5 = .ok (.iload_n 1, 1) := by decide +kernel
theorem dX6_sees_6 : decode cX6_sees 6 = .ok (.iload_n 2, 1) := by decide +kernel
theorem dX6_sees_7 : decode cX6_sees 7 = .ok (.invokestatic 109, 3) := by decide +kernel
theorem dX6_sees_10 : decode cX6_sees 10 = .ok (.ifCond .eq 13, 3) := by decide +kernel
theorem dX6_sees_13 : decode cX6_sees 13 = .ok (.iload_n 3, 1) := by decide +kernel
theorem dX6_sees_14 : decode cX6_sees 14 = .ok (.iconst 0, 1) := by decide +kernel
theorem dX6_sees_15 : decode cX6_sees 15 = .ok (.bipush 99, 2) := by decide +kernel
theorem dX6_sees_17 : decode cX6_sees 17 = .ok (.invokestatic 69, 3) := by decide +kernel
theorem dX6_sees_20 : decode cX6_sees 20 = .ok (.ifCond .ne 5, 3) := by decide +kernel
theorem dX6_sees_23 : decode cX6_sees 23 = .ok (.iconst (-1), 1) := by decide +kernel
theorem dX6_sees_24 : decode cX6_sees 24 = .ok (.ireturn, 1) := by decide +kernel
theorem dX6_sees_25 : decode cX6_sees 25 = .ok (.aload_n 0, 1) := by decide +kernel
theorem dX6_sees_26 : decode cX6_sees 26 = .ok (.getfield 76, 3) := by decide +kernel
theorem dX6_sees_29 : decode cX6_sees 29 = .ok (.bipush 6, 2) := by decide +kernel
theorem dX6_sees_31 : decode cX6_sees 31 = .ok (.if_icmp .ne 6, 3) := by decide +kernel
theorem dX6_sees_34 : decode cX6_sees 34 = .ok (.bipush (-3), 2) := by decide +kernel
theorem dX6_sees_36 : decode cX6_sees 36 = .ok (.ireturn, 1) := by decide +kernel
theorem dX6_sees_37 : decode cX6_sees 37 = .ok (.aload_n 0, 1) := by decide +kernel
theorem dX6_sees_38 : decode cX6_sees 38 = .ok (.getfield 26, 3) := by decide +kernel
theorem dX6_sees_41 : decode cX6_sees 41 = .ok (.iconst 3, 1) := by decide +kernel
theorem dX6_sees_42 : decode cX6_sees 42 = .ok (.aload_n 0, 1) := by decide +kernel
theorem dX6_sees_43 : decode cX6_sees 43 = .ok (.getfield 76, 3) := by decide +kernel
theorem dX6_sees_46 : decode cX6_sees 46 = .ok (.imul, 1) := by decide +kernel
theorem dX6_sees_47 : decode cX6_sees 47 = .ok (.iload_n 1, 1) := by decide +kernel
theorem dX6_sees_48 : decode cX6_sees 48 = .ok (.iastore, 1) := by decide +kernel
theorem dX6_sees_49 : decode cX6_sees 49 = .ok (.aload_n 0, 1) := by decide +kernel
theorem dX6_sees_50 : decode cX6_sees 50 = .ok (.getfield 26, 3) := by decide +kernel
theorem dX6_sees_53 : decode cX6_sees 53 = .ok (.iconst 3, 1) := by decide +kernel
theorem dX6_sees_54 : decode cX6_sees 54 = .ok (.aload_n 0, 1) := by decide +kernel
theorem dX6_sees_55 : decode cX6_sees 55 = .ok (.getfield 76, 3) := by decide +kernel
theorem dX6_sees_58 : decode cX6_sees 58 = .ok (.imul, 1) := by decide +kernel
theorem dX6_sees_59 : decode cX6_sees 59 = .ok (.iconst 1, 1) := by decide +kernel
theorem dX6_sees_60 : decode cX6_sees 60 = .ok (.iadd, 1) := by decide +kernel
theorem dX6_sees_61 : decode cX6_sees 61 = .ok (.iload_n 2, 1) := by decide +kernel
theorem dX6_sees_62 : decode cX6_sees 62 = .ok (.iastore, 1) := by decide +kernel
theorem dX6_sees_63 : decode cX6_sees 63 = .ok (.aload_n 0, 1) := by decide +kernel
theorem dX6_sees_64 : decode cX6_sees 64 = .ok (.getfield 26, 3) := by decide +kernel
theorem dX6_sees_67 : decode cX6_sees 67 = .ok (.iconst 3, 1) := by decide +kernel
theorem dX6_sees_68 : decode cX6_sees 68 = .ok (.aload_n 0, 1) := by decide +kernel
theorem dX6_sees_69 : decode cX6_sees 69 = .ok (.getfield 76, 3) := by decide +kernel
theorem dX6_sees_72 : decode cX6_sees 72 = .ok (.imul, 1) := by decide +kernel
theorem dX6_sees_73 : decode cX6_sees 73 = .ok (.iconst 2, 1) := by decide +kernel
theorem dX6_sees_74 : decode cX6_sees 74 = .ok (.iadd, 1) := by decide +kernel
theorem dX6_sees_75 : decode cX6_sees 75 = .ok (.iload_n 3, 1) := by decide +kernel
theorem dX6_sees_76 : decode cX6_sees 76 = .ok (.iastore, 1) := by decide +kernel
theorem dX6_sees_77 : decode cX6_sees 77 = .ok (.aload_n 0, 1) := by decide +kernel
theorem dX6_sees_78 : decode cX6_sees 78 = .ok (.dup, 1) := by decide +kernel
theorem dX6_sees_79 : decode cX6_sees 79 = .ok (.getfield 76, 3) := by decide +kernel
theorem dX6_sees_82 : decode cX6_sees 82 = .ok (.iconst 1, 1) := by decide +kernel
theorem dX6_sees_83 : decode cX6_sees 83 = .ok (.iadd, 1) := by decide +kernel
theorem dX6_sees_84 : decode cX6_sees 84 = .ok (.putfield 76, 3) := by decide +kernel
theorem dX6_sees_87 : decode cX6_sees 87 = .ok (.aload_n 0, 1) := by decide +kernel
theorem dX6_sees_88 : decode cX6_sees 88 = .ok (.getfield 76, 3) := by decide +kernel
theorem dX6_sees_91 : decode cX6_sees 91 = .ok (.ireturn, 1) := by decide +kernel
theorem dX6_forget_0 : decode cX6_forget 0 = .ok (.aload_n 0, 1) := by decide +kernel
theorem dX6_forget_1 : decode cX6_forget 1 = .ok (.iconst 0, 1) := by decide +kernel
theorem dX6_forget_2 : decode cX6_forget 2 = .ok (.putfield 36, 3) := by decide +kernel
theorem dX6_forget_5 : decode cX6_forget 5 = .ok (.aload_n 0, 1) := by decide +kernel
theorem dX6_forget_6 : decode cX6_forget 6 = .ok (.getfield 76, 3) := by decide +kernel
theorem dX6_forget_9 : decode cX6_forget 9 = .ok (.istore_n 1, 1) := by decide +kernel
theorem dX6_forget_10 : decode cX6_forget 10 = .ok (.aload_n 0, 1) := by decide +kernel
theorem dX6_forget_11 : decode cX6_forget 11 = .ok (.iconst 0, 1) := by decide +kernel
theorem dX6_forget_12 : decode cX6_forget 12 = .ok (.putfield 76, 3) := by decide +kernel
theorem dX6_forget_15 : decode cX6_forget 15 = .ok (.iload_n 1, 1) := by decide +kernel
theorem dX6_forget_16 : decode cX6_forget 16 = .ok (.ireturn, 1) := by decide +kernel
theorem dX6_movesSet_0 : decode cX6_movesSet 0 = .ok (.iconst 0, 1) := by decide +kernel
theorem dX6_movesSet_1 : decode cX6_movesSet 1 = .ok (.istore_n 1, 1) := by decide +kernel
theorem dX6_movesSet_2 : decode cX6_movesSet 2 = .ok (.iconst 1, 1) := by decide +kernel
theorem dX6_movesSet_3 : decode cX6_movesSet 3 = .ok (.istore_n 2, 1) := by decide +kernel
theorem dX6_movesSet_4 : decode cX6_movesSet 4 = .ok (.iload_n 2, 1) := by decide +kernel
theorem dX6_movesSet_5 : decode cX6_movesSet 5 = .ok (.iconst 5, 1) := by decide +kernel
theorem dX6_movesSet_6 : decode cX6_movesSet 6 = .ok (.if_icmp .ge 94, 3) := by decide +kernel
theorem dX6_movesSet_9 : decode cX6_movesSet 9 = .ok (.iconst 1, 1) := by decide +kernel
theorem dX6_movesSet_10 : decode cX6_movesSet 10 = .ok (.istore_n 3, 1) := by decide +kernel
theorem dX6_movesSet_11 : decode cX6_movesSet 11 = .ok (.iconst 0, 1) := by decide +kernel
theorem dX6_movesSet_12 : decode cX6_movesSet 12 = .ok (.istore 4, 2) := by decide +kernel
theorem dX6_movesSet_14 : decode cX6_movesSet 14 = .ok (.iload 4, 2) := by decide +kernel
theorem dX6_movesSet_16 : decode cX6_movesSet 16 = .ok (.aload_n 0, 1) := by decide +kernel
theorem dX6_movesSet_17 : decode cX6_movesSet 17 = .ok (.getfield 76, 3) := by decide +kernel
theorem dX6_movesSet_20 : decode cX6_movesSet 20 = .ok (.if_icmp .ge 58, 3) := by decide +kernel
theorem dX6_movesSet_23 : decode cX6_movesSet 23 = .ok (.iload_n 3, 1) := by decide +kernel
theorem dX6_movesSet_24 : decode cX6_movesSet 24 = .ok (.ifCond .eq 54, 3) := by decide +kernel
theorem dX6_movesSet_27 : decode cX6_movesSet 27 = .ok (.aload_n 0, 1) := by decide +kernel
theorem dX6_movesSet_28 : decode cX6_movesSet 28 = .ok (.iload_n 2, 1) := by decide +kernel
theorem dX6_movesSet_29 : decode cX6_movesSet 29 = .ok (.aload_n 0, 1) := by decide +kernel
theorem dX6_movesSet_30 : decode cX6_movesSet 30 = .ok (.getfield 26, 3) := by decide +kernel
theorem dX6_movesSet_33 : decode cX6_movesSet 33 = .ok (.iconst 3, 1) := by decide +kernel
theorem dX6_movesSet_34 : decode cX6_movesSet 34 = .ok (.iload 4, 2) := by decide +kernel
theorem dX6_movesSet_36 : decode cX6_movesSet 36 = .ok (.imul, 1) := by decide +kernel
theorem dX6_movesSet_37 : decode cX6_movesSet 37 = .ok (.iaload, 1) := by decide +kernel
theorem dX6_movesSet_38 : decode cX6_movesSet 38 = .ok (.aload_n 0, 1) := by decide +kernel
theorem dX6_movesSet_39 : decode cX6_movesSet 39 = .ok (.getfield 26, 3) := by decide +kernel
theorem dX6_movesSet_42 : decode cX6_movesSet 42 = .ok (.iconst 3, 1) := by decide +kernel
theorem dX6_movesSet_43 : decode cX6_movesSet 43 = .ok (.iload 4, 2) := by decide +kernel
theorem dX6_movesSet_45 : decode cX6_movesSet 45 = .ok (.imul, 1) := by decide +kernel
theorem dX6_movesSet_46 : decode cX6_movesSet 46 = .ok (.iconst 1, 1) := by decide +kernel
theorem dX6_movesSet_47 : decode cX6_movesSet 47 = .ok (.iadd, 1) := by decide +kernel
theorem dX6_movesSet_48 : decode cX6_movesSet 48 = .ok (.iaload, 1) := by decide +kernel
theorem dX6_movesSet_49 : decode cX6_movesSet 49 = .ok (.invokevirtual 113, 3) := by decide +kernel
theorem dX6_movesSet_52 : decode cX6_movesSet 52 = .ok (.aload_n 0, 1) := by decide +kernel
theorem dX6_movesSet_53 : decode cX6_movesSet 53 = .ok (.getfield 26, 3) := by decide +kernel
theorem dX6_movesSet_56 : decode cX6_movesSet 56 = .ok (.iconst 3, 1) := by decide +kernel
theorem dX6_movesSet_57 : decode cX6_movesSet 57 = .ok (.iload 4, 2) := by decide +kernel
theorem dX6_movesSet_59 : decode cX6_movesSet 59 = .ok (.imul, 1) := by decide +kernel
theorem dX6_movesSet_60 : decode cX6_movesSet 60 = .ok (.iconst 2, 1) := by decide +kernel
theorem dX6_movesSet_61 : decode cX6_movesSet 61 = .ok (.iadd, 1) := by decide +kernel
theorem dX6_movesSet_62 : decode cX6_movesSet 62 = .ok (.iaload, 1) := by decide +kernel
theorem dX6_movesSet_63 : decode cX6_movesSet 63 = .ok (.if_icmp .ne 7, 3) := by decide +kernel
theorem dX6_movesSet_66 : decode cX6_movesSet 66 = .ok (.iconst 1, 1) := by decide +kernel
theorem dX6_movesSet_67 : decode cX6_movesSet 67 = .ok (.goto 4, 3) := by decide +kernel
theorem dX6_movesSet_70 : decode cX6_movesSet 70 = .ok (.iconst 0, 1) := by decide +kernel
theorem dX6_movesSet_71 : decode cX6_movesSet 71 = .ok (.istore_n 3, 1) := by decide +kernel
theorem dX6_movesSet_72 : decode cX6_movesSet 72 = .ok (.iinc 4 1, 3) := by decide +kernel
theorem dX6_movesSet_75 : decode cX6_movesSet 75 = .ok (.goto (-61), 3) := by decide +kernel
theorem dX6_movesSet_78 : decode cX6_movesSet 78 = .ok (.iload_n 1, 1) := by decide +kernel
theorem dX6_movesSet_79 : decode cX6_movesSet 79 = .ok (.iload_n 3, 1) := by decide +kernel
theorem dX6_movesSet_80 : decode cX6_movesSet 80 = .ok (.ifCond .eq 11, 3) := by decide +kernel
theorem dX6_movesSet_83 : decode cX6_movesSet 83 = .ok (.iconst 1, 1) := by decide +kernel
theorem dX6_movesSet_84 : decode cX6_movesSet 84 = .ok (.iload_n 2, 1) := by decide +kernel
theorem dX6_movesSet_85 : decode cX6_movesSet 85 = .ok (.iconst 1, 1) := by decide +kernel
theorem dX6_movesSet_86 : decode cX6_movesSet 86 = .ok (.isub, 1) := by decide +kernel
theorem dX6_movesSet_87 : decode cX6_movesSet 87 = .ok (.ishl, 1) := by decide +kernel
theorem dX6_movesSet_88 : decode cX6_movesSet 88 = .ok (.goto 4, 3) := by decide +kernel
theorem dX6_movesSet_91 : decode cX6_movesSet 91 = .ok (.iconst 0, 1) := by decide +kernel
theorem dX6_movesSet_92 : decode cX6_movesSet 92 = .ok (.ior, 1) := by decide +kernel
theorem dX6_movesSet_93 : decode cX6_movesSet 93 = .ok (.istore_n 1, 1) := by decide +kernel
theorem dX6_movesSet_94 : decode cX6_movesSet 94 = .ok (.iinc 2 1, 3) := by decide +kernel
theorem dX6_movesSet_97 : decode cX6_movesSet 97 = .ok (.goto (-93), 3) := by decide +kernel
theorem dX6_movesSet_100 : decode cX6_movesSet 100 = .ok (.iload_n 1, 1) := by decide +kernel
theorem dX6_movesSet_101 : decode cX6_movesSet 101 = .ok (.ireturn, 1) := by decide +kernel
theorem dX6_which_0 : decode cX6_which 0 = .ok (.aload_n 0, 1) := by decide +kernel
theorem dX6_which_1 : decode cX6_which 1 = .ok (.iconst 0, 1) := by decide +kernel
theorem dX6_which_2 : decode cX6_which 2 = .ok (.putfield 36, 3) := by decide +kernel
theorem dX6_which_5 : decode cX6_which 5 = .ok (.aload_n 0, 1) := by decide +kernel
theorem dX6_which_6 : decode cX6_which 6 = .ok (.invokevirtual 116, 3) := by decide +kernel
theorem dX6_which_9 : decode cX6_which 9 = .ok (.ireturn, 1) := by decide +kernel
theorem dX6_mostAlike_0 : decode cX6_mostAlike 0 = .ok (.iconst 0, 1) := by decide +kernel
theorem dX6_mostAlike_1 : decode cX6_mostAlike 1 = .ok (.istore 4, 2) := by decide +kernel
theorem dX6_mostAlike_3 : decode cX6_mostAlike 3 = .ok (.iload 4, 2) := by decide +kernel
theorem dX6_mostAlike_5 : decode cX6_mostAlike 5 = .ok (.iconst 4, 1) := by decide +kernel
theorem dX6_mostAlike_6 : decode cX6_mostAlike 6 = .ok (.if_icmp .ge 43, 3) := by decide +kernel
theorem dX6_mostAlike_9 : decode cX6_mostAlike 9 = .ok (.aload_n 0, 1) := by decide +kernel
theorem dX6_mostAlike_10 : decode cX6_mostAlike 10 = .ok (.getfield 29, 3) := by decide +kernel
theorem dX6_mostAlike_13 : decode cX6_mostAlike 13 = .ok (.iload 4, 2) := by decide +kernel
theorem dX6_mostAlike_15 : decode cX6_mostAlike 15 = .ok (.iload_n 1, 1) := by decide +kernel
theorem dX6_mostAlike_16 : decode cX6_mostAlike 16 = .ok (.iload 4, 2) := by decide +kernel
theorem dX6_mostAlike_18 : decode cX6_mostAlike 18 = .ok (.ishr, 1) := by decide +kernel
theorem dX6_mostAlike_19 : decode cX6_mostAlike 19 = .ok (.iconst 1, 1) := by decide +kernel
theorem dX6_mostAlike_20 : decode cX6_mostAlike 20 = .ok (.iand, 1) := by decide +kernel
theorem dX6_mostAlike_21 : decode cX6_mostAlike 21 = .ok (.iconst 1, 1) := by decide +kernel
theorem dX6_mostAlike_22 : decode cX6_mostAlike 22 = .ok (.if_icmp .ne 16, 3) := by decide +kernel
theorem dX6_mostAlike_25 : decode cX6_mostAlike 25 = .ok (.aload_n 0, 1) := by decide +kernel
theorem dX6_mostAlike_26 : decode cX6_mostAlike 26 = .ok (.iload 4, 2) := by decide +kernel
theorem dX6_mostAlike_28 : decode cX6_mostAlike 28 = .ok (.iconst 1, 1) := by decide +kernel
theorem dX6_mostAlike_29 : decode cX6_mostAlike 29 = .ok (.iadd, 1) := by decide +kernel
theorem dX6_mostAlike_30 : decode cX6_mostAlike 30 = .ok (.iload_n 2, 1) := by decide +kernel
theorem dX6_mostAlike_31 : decode cX6_mostAlike 31 = .ok (.iload_n 3, 1) := by decide +kernel
theorem dX6_mostAlike_32 : decode cX6_mostAlike 32 = .ok (.invokevirtual 113, 3) := by decide +kernel
theorem dX6_mostAlike_35 : decode cX6_mostAlike 35 = .ok (.goto 7, 3) := by decide +kernel
theorem dX6_mostAlike_38 : decode cX6_mostAlike 38 = .ok (.iconst (-1), 1) := by decide +kernel
theorem dX6_mostAlike_39 : decode cX6_mostAlike 39 = .ok (.iload 4, 2) := by decide +kernel
theorem dX6_mostAlike_41 : decode cX6_mostAlike 41 = .ok (.isub, 1) := by decide +kernel
theorem dX6_mostAlike_42 : decode cX6_mostAlike 42 = .ok (.iastore, 1) := by decide +kernel
theorem dX6_mostAlike_43 : decode cX6_mostAlike 43 = .ok (.iinc 4 1, 3) := by decide +kernel
theorem dX6_mostAlike_46 : decode cX6_mostAlike 46 = .ok (.goto (-43), 3) := by decide +kernel
theorem dX6_mostAlike_49 : decode cX6_mostAlike 49 = .ok (.iconst 0, 1) := by decide +kernel
theorem dX6_mostAlike_50 : decode cX6_mostAlike 50 = .ok (.istore 4, 2) := by decide +kernel
theorem dX6_mostAlike_52 : decode cX6_mostAlike 52 = .ok (.iconst 0, 1) := by decide +kernel
theorem dX6_mostAlike_53 : decode cX6_mostAlike 53 = .ok (.istore 5, 2) := by decide +kernel
theorem dX6_mostAlike_55 : decode cX6_mostAlike 55 = .ok (.iload 5, 2) := by decide +kernel
theorem dX6_mostAlike_57 : decode cX6_mostAlike 57 = .ok (.iconst 4, 1) := by decide +kernel
theorem dX6_mostAlike_58 : decode cX6_mostAlike 58 = .ok (.if_icmp .ge 80, 3) := by decide +kernel
theorem dX6_mostAlike_61 : decode cX6_mostAlike 61 = .ok (.iconst 0, 1) := by decide +kernel
theorem dX6_mostAlike_62 : decode cX6_mostAlike 62 = .ok (.istore 6, 2) := by decide +kernel
theorem dX6_mostAlike_64 : decode cX6_mostAlike 64 = .ok (.iconst 0, 1) := by decide +kernel
theorem dX6_mostAlike_65 : decode cX6_mostAlike 65 = .ok (.istore 7, 2) := by decide +kernel
theorem dX6_mostAlike_67 : decode cX6_mostAlike 67 = .ok (.iload 7, 2) := by decide +kernel
theorem dX6_mostAlike_69 : decode cX6_mostAlike 69 = .ok (.iconst 4, 1) := by decide +kernel
theorem dX6_mostAlike_70 : decode cX6_mostAlike 70 = .ok (.if_icmp .ge 46, 3) := by decide +kernel
theorem dX6_mostAlike_73 : decode cX6_mostAlike 73 = .ok (.iload 6, 2) := by decide +kernel
theorem dX6_mostAlike_75 : decode cX6_mostAlike 75 = .ok (.aload_n 0, 1) := by decide +kernel
theorem dX6_mostAlike_76 : decode cX6_mostAlike 76 = .ok (.getfield 29, 3) := by decide +kernel
theorem dX6_mostAlike_79 : decode cX6_mostAlike 79 = .ok (.iload 7, 2) := by decide +kernel
theorem dX6_mostAlike_81 : decode cX6_mostAlike 81 = .ok (.iaload, 1) := by decide +kernel
theorem dX6_mostAlike_82 : decode cX6_mostAlike 82 = .ok (.aload_n 0, 1) := by decide +kernel
theorem dX6_mostAlike_83 : decode cX6_mostAlike 83 = .ok (.getfield 29, 3) := by decide +kernel
theorem dX6_mostAlike_86 : decode cX6_mostAlike 86 = .ok (.iload 5, 2) := by decide +kernel
theorem dX6_mostAlike_88 : decode cX6_mostAlike 88 = .ok (.iaload, 1) := by decide +kernel
theorem dX6_mostAlike_89 : decode cX6_mostAlike 89 = .ok (.if_icmp .ne 17, 3) := by decide +kernel
theorem dX6_mostAlike_92 : decode cX6_mostAlike 92 = .ok (.iload_n 1, 1) := by decide +kernel
theorem dX6_mostAlike_93 : decode cX6_mostAlike 93 = .ok (.iload 7, 2) := by decide +kernel
theorem dX6_mostAlike_95 : decode cX6_mostAlike 95 = .ok (.ishr, 1) := by decide +kernel
theorem dX6_mostAlike_96 : decode cX6_mostAlike 96 = .ok (.iconst 1, 1) := by decide +kernel
theorem dX6_mostAlike_97 : decode cX6_mostAlike 97 = .ok (.iand, 1) := by decide +kernel
theorem dX6_mostAlike_98 : decode cX6_mostAlike 98 = .ok (.iconst 1, 1) := by decide +kernel
theorem dX6_mostAlike_99 : decode cX6_mostAlike 99 = .ok (.if_icmp .ne 7, 3) := by decide +kernel
theorem dX6_mostAlike_102 : decode cX6_mostAlike 102 = .ok (.iconst 1, 1) := by decide +kernel
theorem dX6_mostAlike_103 : decode cX6_mostAlike 103 = .ok (.goto 4, 3) := by decide +kernel
theorem dX6_mostAlike_106 : decode cX6_mostAlike 106 = .ok (.iconst 0, 1) := by decide +kernel
theorem dX6_mostAlike_107 : decode cX6_mostAlike 107 = .ok (.iadd, 1) := by decide +kernel
theorem dX6_mostAlike_108 : decode cX6_mostAlike 108 = .ok (.istore 6, 2) := by decide +kernel
theorem dX6_mostAlike_110 : decode cX6_mostAlike 110 = .ok (.iinc 7 1, 3) := by decide +kernel
theorem dX6_mostAlike_113 : decode cX6_mostAlike 113 = .ok (.goto (-46), 3) := by decide +kernel
theorem dX6_mostAlike_116 : decode cX6_mostAlike 116 = .ok (.iload 6, 2) := by decide +kernel
theorem dX6_mostAlike_118 : decode cX6_mostAlike 118 = .ok (.iload 4, 2) := by decide +kernel
theorem dX6_mostAlike_120 : decode cX6_mostAlike 120 = .ok (.if_icmp .le 8, 3) := by decide +kernel
theorem dX6_mostAlike_123 : decode cX6_mostAlike 123 = .ok (.iload 6, 2) := by decide +kernel
theorem dX6_mostAlike_125 : decode cX6_mostAlike 125 = .ok (.goto 5, 3) := by decide +kernel
theorem dX6_mostAlike_128 : decode cX6_mostAlike 128 = .ok (.iload 4, 2) := by decide +kernel
theorem dX6_mostAlike_130 : decode cX6_mostAlike 130 = .ok (.istore 4, 2) := by decide +kernel
theorem dX6_mostAlike_132 : decode cX6_mostAlike 132 = .ok (.iinc 5 1, 3) := by decide +kernel
theorem dX6_mostAlike_135 : decode cX6_mostAlike 135 = .ok (.goto (-80), 3) := by decide +kernel
theorem dX6_mostAlike_138 : decode cX6_mostAlike 138 = .ok (.iload 4, 2) := by decide +kernel
theorem dX6_mostAlike_140 : decode cX6_mostAlike 140 = .ok (.ireturn, 1) := by decide +kernel
theorem dX6_ask_0 : decode cX6_ask 0 = .ok (.aload_n 0, 1) := by decide +kernel
theorem dX6_ask_1 : decode cX6_ask 1 = .ok (.iconst 0, 1) := by decide +kernel
theorem dX6_ask_2 : decode cX6_ask 2 = .ok (.putfield 36, 3) := by decide +kernel
theorem dX6_ask_5 : decode cX6_ask 5 = .ok (.aload_n 0, 1) := by decide +kernel
theorem dX6_ask_6 : decode cX6_ask 6 = .ok (.invokevirtual 116, 3) := by decide +kernel
theorem dX6_ask_9 : decode cX6_ask 9 = .ok (.istore_n 1, 1) := by decide +kernel
theorem dX6_ask_10 : decode cX6_ask 10 = .ok (.iload_n 1, 1) := by decide +kernel
theorem dX6_ask_11 : decode cX6_ask 11 = .ok (.iload_n 1, 1) := by decide +kernel
theorem dX6_ask_12 : decode cX6_ask 12 = .ok (.iconst 1, 1) := by decide +kernel
theorem dX6_ask_13 : decode cX6_ask 13 = .ok (.isub, 1) := by decide +kernel
theorem dX6_ask_14 : decode cX6_ask 14 = .ok (.iand, 1) := by decide +kernel
theorem dX6_ask_15 : decode cX6_ask 15 = .ok (.ifCond .ne 6, 3) := by decide +kernel
theorem dX6_ask_18 : decode cX6_ask 18 = .ok (.bipush (-9), 2) := by decide +kernel
theorem dX6_ask_20 : decode cX6_ask 20 = .ok (.ireturn, 1) := by decide +kernel
theorem dX6_ask_21 : decode cX6_ask 21 = .ok (.bipush (-9), 2) := by decide +kernel
theorem dX6_ask_23 : decode cX6_ask 23 = .ok (.istore_n 2, 1) := by decide +kernel
theorem dX6_ask_24 : decode cX6_ask 24 = .ok (.iconst 5, 1) := by decide +kernel
theorem dX6_ask_25 : decode cX6_ask 25 = .ok (.istore_n 3, 1) := by decide +kernel
theorem dX6_ask_26 : decode cX6_ask 26 = .ok (.iconst 1, 1) := by decide +kernel
theorem dX6_ask_27 : decode cX6_ask 27 = .ok (.istore 4, 2) := by decide +kernel
theorem dX6_ask_29 : decode cX6_ask 29 = .ok (.iload 4, 2) := by decide +kernel
theorem dX6_ask_31 : decode cX6_ask 31 = .ok (.iconst 5, 1) := by decide +kernel
theorem dX6_ask_32 : decode cX6_ask 32 = .ok (.if_icmp .ge 67, 3) := by decide +kernel
theorem dX6_ask_35 : decode cX6_ask 35 = .ok (.iconst 1, 1) := by decide +kernel
theorem dX6_ask_36 : decode cX6_ask 36 = .ok (.istore 5, 2) := by decide +kernel
theorem dX6_ask_38 : decode cX6_ask 38 = .ok (.iload 5, 2) := by decide +kernel
theorem dX6_ask_40 : decode cX6_ask 40 = .ok (.iconst 5, 1) := by decide +kernel
theorem dX6_ask_41 : decode cX6_ask 41 = .ok (.if_icmp .ge 52, 3) := by decide +kernel
theorem dX6_ask_44 : decode cX6_ask 44 = .ok (.aload_n 0, 1) := by decide +kernel
theorem dX6_ask_45 : decode cX6_ask 45 = .ok (.iload_n 1, 1) := by decide +kernel
theorem dX6_ask_46 : decode cX6_ask 46 = .ok (.iload 4, 2) := by decide +kernel
theorem dX6_ask_48 : decode cX6_ask 48 = .ok (.iload 5, 2) := by decide +kernel
theorem dX6_ask_50 : decode cX6_ask 50 = .ok (.invokevirtual 120, 3) := by decide +kernel
theorem dX6_ask_53 : decode cX6_ask 53 = .ok (.istore 6, 2) := by decide +kernel
theorem dX6_ask_55 : decode cX6_ask 55 = .ok (.iload 6, 2) := by decide +kernel
theorem dX6_ask_57 : decode cX6_ask 57 = .ok (.iload_n 3, 1) := by decide +kernel
theorem dX6_ask_58 : decode cX6_ask 58 = .ok (.if_icmp .ge 14, 3) := by decide +kernel
theorem dX6_ask_61 : decode cX6_ask 61 = .ok (.bipush 10, 2) := by decide +kernel
theorem dX6_ask_63 : decode cX6_ask 63 = .ok (.iload 4, 2) := by decide +kernel
theorem dX6_ask_65 : decode cX6_ask 65 = .ok (.imul, 1) := by decide +kernel
theorem dX6_ask_66 : decode cX6_ask 66 = .ok (.iload 5, 2) := by decide +kernel
theorem dX6_ask_68 : decode cX6_ask 68 = .ok (.iadd, 1) := by decide +kernel
theorem dX6_ask_69 : decode cX6_ask 69 = .ok (.goto 4, 3) := by decide +kernel
theorem dX6_ask_72 : decode cX6_ask 72 = .ok (.iload_n 2, 1) := by decide +kernel
theorem dX6_ask_73 : decode cX6_ask 73 = .ok (.istore_n 2, 1) := by decide +kernel
theorem dX6_ask_74 : decode cX6_ask 74 = .ok (.iload 6, 2) := by decide +kernel
theorem dX6_ask_76 : decode cX6_ask 76 = .ok (.iload_n 3, 1) := by decide +kernel
theorem dX6_ask_77 : decode cX6_ask 77 = .ok (.if_icmp .ge 8, 3) := by decide +kernel
theorem dX6_ask_80 : decode cX6_ask 80 = .ok (.iload 6, 2) := by decide +kernel
theorem dX6_ask_82 : decode cX6_ask 82 = .ok (.goto 4, 3) := by decide +kernel
theorem dX6_ask_85 : decode cX6_ask 85 = .ok (.iload_n 3, 1) := by decide +kernel
theorem dX6_ask_86 : decode cX6_ask 86 = .ok (.istore_n 3, 1) := by decide +kernel
theorem dX6_ask_87 : decode cX6_ask 87 = .ok (.iinc 5 1, 3) := by decide +kernel
theorem dX6_ask_90 : decode cX6_ask 90 = .ok (.goto (-52), 3) := by decide +kernel
theorem dX6_ask_93 : decode cX6_ask 93 = .ok (.iinc 4 1, 3) := by decide +kernel
theorem dX6_ask_96 : decode cX6_ask 96 = .ok (.goto (-67), 3) := by decide +kernel
theorem dX6_ask_99 : decode cX6_ask 99 = .ok (.iload_n 2, 1) := by decide +kernel
theorem dX6_ask_100 : decode cX6_ask 100 = .ok (.ireturn, 1) := by decide +kernel
theorem dX6_keep_0 : decode cX6_keep 0 = .ok (.aload_n 0, 1) := by decide +kernel
theorem dX6_keep_1 : decode cX6_keep 1 = .ok (.iconst 0, 1) := by decide +kernel
theorem dX6_keep_2 : decode cX6_keep 2 = .ok (.putfield 36, 3) := by decide +kernel
theorem dX6_keep_5 : decode cX6_keep 5 = .ok (.iload_n 1, 1) := by decide +kernel
theorem dX6_keep_6 : decode cX6_keep 6 = .ok (.iconst 0, 1) := by decide +kernel
theorem dX6_keep_7 : decode cX6_keep 7 = .ok (.iconst 1, 1) := by decide +kernel
theorem dX6_keep_8 : decode cX6_keep 8 = .ok (.invokestatic 69, 3) := by decide +kernel
theorem dX6_keep_11 : decode cX6_keep 11 = .ok (.ifCond .ne 5, 3) := by decide +kernel
theorem dX6_keep_14 : decode cX6_keep 14 = .ok (.iconst (-1), 1) := by decide +kernel
theorem dX6_keep_15 : decode cX6_keep 15 = .ok (.ireturn, 1) := by decide +kernel
theorem dX6_keep_16 : decode cX6_keep 16 = .ok (.iconst 0, 1) := by decide +kernel
theorem dX6_keep_17 : decode cX6_keep 17 = .ok (.istore_n 2, 1) := by decide +kernel
theorem dX6_keep_18 : decode cX6_keep 18 = .ok (.iload_n 2, 1) := by decide +kernel
theorem dX6_keep_19 : decode cX6_keep 19 = .ok (.sipush 512, 3) := by decide +kernel
theorem dX6_keep_22 : decode cX6_keep 22 = .ok (.if_icmp .ge 27, 3) := by decide +kernel
theorem dX6_keep_25 : decode cX6_keep 25 = .ok (.aload_n 0, 1) := by decide +kernel
theorem dX6_keep_26 : decode cX6_keep 26 = .ok (.getfield 19, 3) := by decide +kernel
theorem dX6_keep_29 : decode cX6_keep 29 = .ok (.sipush 512, 3) := by decide +kernel
theorem dX6_keep_32 : decode cX6_keep 32 = .ok (.iload_n 1, 1) := by decide +kernel
theorem dX6_keep_33 : decode cX6_keep 33 = .ok (.imul, 1) := by decide +kernel
theorem dX6_keep_34 : decode cX6_keep 34 = .ok (.iload_n 2, 1) := by decide +kernel
theorem dX6_keep_35 : decode cX6_keep 35 = .ok (.iadd, 1) := by decide +kernel
theorem dX6_keep_36 : decode cX6_keep 36 = .ok (.aload_n 0, 1) := by decide +kernel
theorem dX6_keep_37 : decode cX6_keep 37 = .ok (.getfield 7, 3) := by decide +kernel
theorem dX6_keep_40 : decode cX6_keep 40 = .ok (.iload_n 2, 1) := by decide +kernel
theorem dX6_keep_41 : decode cX6_keep 41 = .ok (.iaload, 1) := by decide +kernel
theorem dX6_keep_42 : decode cX6_keep 42 = .ok (.iastore, 1) := by decide +kernel
theorem dX6_keep_43 : decode cX6_keep 43 = .ok (.iinc 2 1, 3) := by decide +kernel
theorem dX6_keep_46 : decode cX6_keep 46 = .ok (.goto (-28), 3) := by decide +kernel
theorem dX6_keep_49 : decode cX6_keep 49 = .ok (.aload_n 0, 1) := by decide +kernel
theorem dX6_keep_50 : decode cX6_keep 50 = .ok (.getfield 22, 3) := by decide +kernel
theorem dX6_keep_53 : decode cX6_keep 53 = .ok (.iload_n 1, 1) := by decide +kernel
theorem dX6_keep_54 : decode cX6_keep 54 = .ok (.iconst 1, 1) := by decide +kernel
theorem dX6_keep_55 : decode cX6_keep 55 = .ok (.bastore, 1) := by decide +kernel
theorem dX6_keep_56 : decode cX6_keep 56 = .ok (.aload_n 0, 1) := by decide +kernel
theorem dX6_keep_57 : decode cX6_keep 57 = .ok (.getfield 7, 3) := by decide +kernel
theorem dX6_keep_60 : decode cX6_keep 60 = .ok (.iconst 3, 1) := by decide +kernel
theorem dX6_keep_61 : decode cX6_keep 61 = .ok (.iaload, 1) := by decide +kernel
theorem dX6_keep_62 : decode cX6_keep 62 = .ok (.ireturn, 1) := by decide +kernel
theorem dX6_back_0 : decode cX6_back 0 = .ok (.aload_n 0, 1) := by decide +kernel
theorem dX6_back_1 : decode cX6_back 1 = .ok (.iconst 0, 1) := by decide +kernel
theorem dX6_back_2 : decode cX6_back 2 = .ok (.putfield 36, 3) := by decide +kernel
theorem dX6_back_5 : decode cX6_back 5 = .ok (.iload_n 1, 1) := by decide +kernel
theorem dX6_back_6 : decode cX6_back 6 = .ok (.iconst 0, 1) := by decide +kernel
theorem dX6_back_7 : decode cX6_back 7 = .ok (.iconst 1, 1) := by decide +kernel
theorem dX6_back_8 : decode cX6_back 8 = .ok (.invokestatic 69, 3) := by decide +kernel
theorem dX6_back_11 : decode cX6_back 11 = .ok (.ifCond .ne 5, 3) := by decide +kernel
theorem dX6_back_14 : decode cX6_back 14 = .ok (.iconst (-1), 1) := by decide +kernel
theorem dX6_back_15 : decode cX6_back 15 = .ok (.ireturn, 1) := by decide +kernel
theorem dX6_back_16 : decode cX6_back 16 = .ok (.aload_n 0, 1) := by decide +kernel
theorem dX6_back_17 : decode cX6_back 17 = .ok (.getfield 22, 3) := by decide +kernel
theorem dX6_back_20 : decode cX6_back 20 = .ok (.iload_n 1, 1) := by decide +kernel
theorem dX6_back_21 : decode cX6_back 21 = .ok (.baload, 1) := by decide +kernel
theorem dX6_back_22 : decode cX6_back 22 = .ok (.ifCond .ne 6, 3) := by decide +kernel
theorem dX6_back_25 : decode cX6_back 25 = .ok (.bipush (-2), 2) := by decide +kernel
theorem dX6_back_27 : decode cX6_back 27 = .ok (.ireturn, 1) := by decide +kernel
theorem dX6_back_28 : decode cX6_back 28 = .ok (.iconst 0, 1) := by decide +kernel
theorem dX6_back_29 : decode cX6_back 29 = .ok (.istore_n 2, 1) := by decide +kernel
theorem dX6_back_30 : decode cX6_back 30 = .ok (.iload_n 2, 1) := by decide +kernel
theorem dX6_back_31 : decode cX6_back 31 = .ok (.sipush 512, 3) := by decide +kernel
theorem dX6_back_34 : decode cX6_back 34 = .ok (.if_icmp .ge 27, 3) := by decide +kernel
theorem dX6_back_37 : decode cX6_back 37 = .ok (.aload_n 0, 1) := by decide +kernel
theorem dX6_back_38 : decode cX6_back 38 = .ok (.getfield 7, 3) := by decide +kernel
theorem dX6_back_41 : decode cX6_back 41 = .ok (.iload_n 2, 1) := by decide +kernel
theorem dX6_back_42 : decode cX6_back 42 = .ok (.aload_n 0, 1) := by decide +kernel
theorem dX6_back_43 : decode cX6_back 43 = .ok (.getfield 19, 3) := by decide +kernel
theorem dX6_back_46 : decode cX6_back 46 = .ok (.sipush 512, 3) := by decide +kernel
theorem dX6_back_49 : decode cX6_back 49 = .ok (.iload_n 1, 1) := by decide +kernel
theorem dX6_back_50 : decode cX6_back 50 = .ok (.imul, 1) := by decide +kernel
theorem dX6_back_51 : decode cX6_back 51 = .ok (.iload_n 2, 1) := by decide +kernel
theorem dX6_back_52 : decode cX6_back 52 = .ok (.iadd, 1) := by decide +kernel
theorem dX6_back_53 : decode cX6_back 53 = .ok (.iaload, 1) := by decide +kernel
theorem dX6_back_54 : decode cX6_back 54 = .ok (.iastore, 1) := by decide +kernel
theorem dX6_back_55 : decode cX6_back 55 = .ok (.iinc 2 1, 3) := by decide +kernel
theorem dX6_back_58 : decode cX6_back 58 = .ok (.goto (-28), 3) := by decide +kernel
theorem dX6_back_61 : decode cX6_back 61 = .ok (.aload_n 0, 1) := by decide +kernel
theorem dX6_back_62 : decode cX6_back 62 = .ok (.iconst 0, 1) := by decide +kernel
theorem dX6_back_63 : decode cX6_back 63 = .ok (.putfield 66, 3) := by decide +kernel
theorem dX6_back_66 : decode cX6_back 66 = .ok (.aload_n 0, 1) := by decide +kernel
theorem dX6_back_67 : decode cX6_back 67 = .ok (.getfield 7, 3) := by decide +kernel
theorem dX6_back_70 : decode cX6_back 70 = .ok (.iconst 3, 1) := by decide +kernel
theorem dX6_back_71 : decode cX6_back 71 = .ok (.iaload, 1) := by decide +kernel
theorem dX6_back_72 : decode cX6_back 72 = .ok (.ireturn, 1) := by decide +kernel
theorem dX6_photosBy_0 : decode cX6_photosBy 0 = .ok (.iconst 0, 1) := by decide +kernel
theorem dX6_photosBy_1 : decode cX6_photosBy 1 = .ok (.istore_n 2, 1) := by decide +kernel
theorem dX6_photosBy_2 : decode cX6_photosBy 2 = .ok (.iconst 0, 1) := by decide +kernel
theorem dX6_photosBy_3 : decode cX6_photosBy 3 = .ok (.istore_n 3, 1) := by decide +kernel
theorem dX6_photosBy_4 : decode cX6_photosBy 4 = .ok (.iload_n 3, 1) := by decide +kernel
theorem dX6_photosBy_5 : decode cX6_photosBy 5 = .ok (.aload_n 0, 1) := by decide +kernel
theorem dX6_photosBy_6 : decode cX6_photosBy 6 = .ok (.getfield 7, 3) := by decide +kernel
theorem dX6_photosBy_9 : decode cX6_photosBy 9 = .ok (.iconst 5, 1) := by decide +kernel
theorem dX6_photosBy_10 : decode cX6_photosBy 10 = .ok (.iaload, 1) := by decide +kernel
theorem dX6_photosBy_11 : decode cX6_photosBy 11 = .ok (.if_icmp .ge 54, 3) := by decide +kernel
theorem dX6_photosBy_14 : decode cX6_photosBy 14 = .ok (.iload_n 2, 1) := by decide +kernel
theorem dX6_photosBy_15 : decode cX6_photosBy 15 = .ok (.iload_n 1, 1) := by decide +kernel
theorem dX6_photosBy_16 : decode cX6_photosBy 16 = .ok (.ifCond .eq 26, 3) := by decide +kernel
theorem dX6_photosBy_19 : decode cX6_photosBy 19 = .ok (.aload_n 0, 1) := by decide +kernel
theorem dX6_photosBy_20 : decode cX6_photosBy 20 = .ok (.getfield 7, 3) := by decide +kernel
theorem dX6_photosBy_23 : decode cX6_photosBy 23 = .ok (.sipush 200, 3) := by decide +kernel
theorem dX6_photosBy_26 : decode cX6_photosBy 26 = .ok (.bipush 10, 2) := by decide +kernel
theorem dX6_photosBy_28 : decode cX6_photosBy 28 = .ok (.iload_n 3, 1) := by decide +kernel
theorem dX6_photosBy_29 : decode cX6_photosBy 29 = .ok (.imul, 1) := by decide +kernel
theorem dX6_photosBy_30 : decode cX6_photosBy 30 = .ok (.iadd, 1) := by decide +kernel
theorem dX6_photosBy_31 : decode cX6_photosBy 31 = .ok (.iconst 4, 1) := by decide +kernel
theorem dX6_photosBy_32 : decode cX6_photosBy 32 = .ok (.iadd, 1) := by decide +kernel
theorem dX6_photosBy_33 : decode cX6_photosBy 33 = .ok (.iaload, 1) := by decide +kernel
theorem dX6_photosBy_34 : decode cX6_photosBy 34 = .ok (.bipush (-9), 2) := by decide +kernel
theorem dX6_photosBy_36 : decode cX6_photosBy 36 = .ok (.if_icmp .eq 20, 3) := by decide +kernel
theorem dX6_photosBy_39 : decode cX6_photosBy 39 = .ok (.goto 13, 3) := by decide +kernel
theorem dX6_photosBy_42 : decode cX6_photosBy 42 = .ok (.aload_n 0, 1) := by decide +kernel
theorem dX6_photosBy_43 : decode cX6_photosBy 43 = .ok (.iload_n 3, 1) := by decide +kernel
theorem dX6_photosBy_44 : decode cX6_photosBy 44 = .ok (.invokevirtual 103, 3) := by decide +kernel
theorem dX6_photosBy_47 : decode cX6_photosBy 47 = .ok (.bipush (-9), 2) := by decide +kernel
theorem dX6_photosBy_49 : decode cX6_photosBy 49 = .ok (.if_icmp .ne 7, 3) := by decide +kernel
theorem dX6_photosBy_52 : decode cX6_photosBy 52 = .ok (.iconst 1, 1) := by decide +kernel
theorem dX6_photosBy_53 : decode cX6_photosBy 53 = .ok (.goto 4, 3) := by decide +kernel
theorem dX6_photosBy_56 : decode cX6_photosBy 56 = .ok (.iconst 0, 1) := by decide +kernel
theorem dX6_photosBy_57 : decode cX6_photosBy 57 = .ok (.iadd, 1) := by decide +kernel
theorem dX6_photosBy_58 : decode cX6_photosBy 58 = .ok (.istore_n 2, 1) := by decide +kernel
theorem dX6_photosBy_59 : decode cX6_photosBy 59 = .ok (.iinc 3 1, 3) := by decide +kernel
theorem dX6_photosBy_62 : decode cX6_photosBy 62 = .ok (.goto (-58), 3) := by decide +kernel
theorem dX6_photosBy_65 : decode cX6_photosBy 65 = .ok (.iload_n 2, 1) := by decide +kernel
theorem dX6_photosBy_66 : decode cX6_photosBy 66 = .ok (.ireturn, 1) := by decide +kernel
theorem dX6_idleOnes_0 : decode cX6_idleOnes 0 = .ok (.iconst 0, 1) := by decide +kernel
theorem dX6_idleOnes_1 : decode cX6_idleOnes 1 = .ok (.istore_n 1, 1) := by decide +kernel
theorem dX6_idleOnes_2 : decode cX6_idleOnes 2 = .ok (.iconst 0, 1) := by decide +kernel
theorem dX6_idleOnes_3 : decode cX6_idleOnes 3 = .ok (.istore_n 2, 1) := by decide +kernel
theorem dX6_idleOnes_4 : decode cX6_idleOnes 4 = .ok (.iload_n 2, 1) := by decide +kernel
theorem dX6_idleOnes_5 : decode cX6_idleOnes 5 = .ok (.aload_n 0, 1) := by decide +kernel
theorem dX6_idleOnes_6 : decode cX6_idleOnes 6 = .ok (.getfield 7, 3) := by decide +kernel
theorem dX6_idleOnes_9 : decode cX6_idleOnes 9 = .ok (.iconst 0, 1) := by decide +kernel
theorem dX6_idleOnes_10 : decode cX6_idleOnes 10 = .ok (.iaload, 1) := by decide +kernel
theorem dX6_idleOnes_11 : decode cX6_idleOnes 11 = .ok (.if_icmp .ge 27, 3) := by decide +kernel
theorem dX6_idleOnes_14 : decode cX6_idleOnes 14 = .ok (.iload_n 1, 1) := by decide +kernel
theorem dX6_idleOnes_15 : decode cX6_idleOnes 15 = .ok (.aload_n 0, 1) := by decide +kernel
theorem dX6_idleOnes_16 : decode cX6_idleOnes 16 = .ok (.iload_n 2, 1) := by decide +kernel
theorem dX6_idleOnes_17 : decode cX6_idleOnes 17 = .ok (.invokevirtual 79, 3) := by decide +kernel
theorem dX6_idleOnes_20 : decode cX6_idleOnes 20 = .ok (.ifCond .eq 9, 3) := by decide +kernel
theorem dX6_idleOnes_23 : decode cX6_idleOnes 23 = .ok (.iconst 1, 1) := by decide +kernel
theorem dX6_idleOnes_24 : decode cX6_idleOnes 24 = .ok (.iload_n 2, 1) := by decide +kernel
theorem dX6_idleOnes_25 : decode cX6_idleOnes 25 = .ok (.ishl, 1) := by decide +kernel
theorem dX6_idleOnes_26 : decode cX6_idleOnes 26 = .ok (.goto 4, 3) := by decide +kernel
theorem dX6_idleOnes_29 : decode cX6_idleOnes 29 = .ok (.iconst 0, 1) := by decide +kernel
theorem dX6_idleOnes_30 : decode cX6_idleOnes 30 = .ok (.ior, 1) := by decide +kernel
theorem dX6_idleOnes_31 : decode cX6_idleOnes 31 = .ok (.istore_n 1, 1) := by decide +kernel
theorem dX6_idleOnes_32 : decode cX6_idleOnes 32 = .ok (.iinc 2 1, 3) := by decide +kernel
theorem dX6_idleOnes_35 : decode cX6_idleOnes 35 = .ok (.goto (-31), 3) := by decide +kernel
theorem dX6_idleOnes_38 : decode cX6_idleOnes 38 = .ok (.iload_n 1, 1) := by decide +kernel
theorem dX6_idleOnes_39 : decode cX6_idleOnes 39 = .ok (.ireturn, 1) := by decide +kernel
theorem dX6_count_0 : decode cX6_count 0 = .ok (.aload_n 0, 1) := by decide +kernel
theorem dX6_count_1 : decode cX6_count 1 = .ok (.iconst 0, 1) := by decide +kernel
theorem dX6_count_2 : decode cX6_count 2 = .ok (.putfield 36, 3) := by decide +kernel
theorem dX6_count_5 : decode cX6_count 5 = .ok (.iload_n 1, 1) := by decide +kernel
theorem dX6_count_6 : decode cX6_count 6 = .ok (.tableswitch 72 5 10 #[38, 44, 50, 55, 62, 67], 38) := by decide +kernel
theorem dX6_count_44 : decode cX6_count 44 = .ok (.aload_n 0, 1) := by decide +kernel
theorem dX6_count_45 : decode cX6_count 45 = .ok (.iconst 1, 1) := by decide +kernel
theorem dX6_count_46 : decode cX6_count 46 = .ok (.invokevirtual 123, 3) := by decide +kernel
theorem dX6_count_49 : decode cX6_count 49 = .ok (.ireturn, 1) := by decide +kernel
theorem dX6_count_50 : decode cX6_count 50 = .ok (.aload_n 0, 1) := by decide +kernel
theorem dX6_count_51 : decode cX6_count 51 = .ok (.iconst 0, 1) := by decide +kernel
theorem dX6_count_52 : decode cX6_count 52 = .ok (.invokevirtual 123, 3) := by decide +kernel
theorem dX6_count_55 : decode cX6_count 55 = .ok (.ireturn, 1) := by decide +kernel
theorem dX6_count_56 : decode cX6_count 56 = .ok (.aload_n 0, 1) := by decide +kernel
theorem dX6_count_57 : decode cX6_count 57 = .ok (.invokevirtual 127, 3) := by decide +kernel
theorem dX6_count_60 : decode cX6_count 60 = .ok (.ireturn, 1) := by decide +kernel
theorem dX6_count_61 : decode cX6_count 61 = .ok (.aload_n 0, 1) := by decide +kernel
theorem dX6_count_62 : decode cX6_count 62 = .ok (.getfield 7, 3) := by decide +kernel
theorem dX6_count_65 : decode cX6_count 65 = .ok (.iconst 4, 1) := by decide +kernel
theorem dX6_count_66 : decode cX6_count 66 = .ok (.iaload, 1) := by decide +kernel
theorem dX6_count_67 : decode cX6_count 67 = .ok (.ireturn, 1) := by decide +kernel
theorem dX6_count_68 : decode cX6_count 68 = .ok (.aload_n 0, 1) := by decide +kernel
theorem dX6_count_69 : decode cX6_count 69 = .ok (.getfield 76, 3) := by decide +kernel
theorem dX6_count_72 : decode cX6_count 72 = .ok (.ireturn, 1) := by decide +kernel
theorem dX6_count_73 : decode cX6_count 73 = .ok (.aload_n 0, 1) := by decide +kernel
theorem dX6_count_74 : decode cX6_count 74 = .ok (.getfield 66, 3) := by decide +kernel
theorem dX6_count_77 : decode cX6_count 77 = .ok (.ireturn, 1) := by decide +kernel
theorem dX6_count_78 : decode cX6_count 78 = .ok (.iload_n 1, 1) := by decide +kernel
theorem dX6_count_79 : decode cX6_count 79 = .ok (.iconst 0, 1) := by decide +kernel
theorem dX6_count_80 : decode cX6_count 80 = .ok (.iconst 4, 1) := by decide +kernel
theorem dX6_count_81 : decode cX6_count 81 = .ok (.invokestatic 69, 3) := by decide +kernel
theorem dX6_count_84 : decode cX6_count 84 = .ok (.ifCond .ne 7, 3) := by decide +kernel
theorem dX6_count_87 : decode cX6_count 87 = .ok (.iconst (-1), 1) := by decide +kernel
theorem dX6_count_88 : decode cX6_count 88 = .ok (.goto 23, 3) := by decide +kernel
theorem dX6_count_91 : decode cX6_count 91 = .ok (.iload_n 1, 1) := by decide +kernel
theorem dX6_count_92 : decode cX6_count 92 = .ok (.iconst 4, 1) := by decide +kernel
theorem dX6_count_93 : decode cX6_count 93 = .ok (.if_icmp .ne 12, 3) := by decide +kernel
theorem dX6_count_96 : decode cX6_count 96 = .ok (.aload_n 0, 1) := by decide +kernel
theorem dX6_count_97 : decode cX6_count 97 = .ok (.getfield 7, 3) := by decide +kernel
theorem dX6_count_100 : decode cX6_count 100 = .ok (.iconst 5, 1) := by decide +kernel
theorem dX6_count_101 : decode cX6_count 101 = .ok (.iaload, 1) := by decide +kernel
theorem dX6_count_102 : decode cX6_count 102 = .ok (.goto 9, 3) := by decide +kernel
theorem dX6_count_105 : decode cX6_count 105 = .ok (.aload_n 0, 1) := by decide +kernel
theorem dX6_count_106 : decode cX6_count 106 = .ok (.getfield 7, 3) := by decide +kernel
theorem dX6_count_109 : decode cX6_count 109 = .ok (.iload_n 1, 1) := by decide +kernel
theorem dX6_count_110 : decode cX6_count 110 = .ok (.iaload, 1) := by decide +kernel
theorem dX6_count_111 : decode cX6_count 111 = .ok (.ireturn, 1) := by decide +kernel
end
section
theorem dL_law_0 : decode cL_law 0 = .ok (.new 7, 3) := by decide +kernel
theorem dL_law_3 : decode cL_law 3 = .ok (.dup, 1) := by decide +kernel
theorem dL_law_4 : decode cL_law 4 = .ok (.invokespecial 9, 3) := by decide +kernel
theorem dL_law_7 : decode cL_law 7 = .ok (.astore_n 1, 1) := by decide +kernel
theorem dL_law_8 : decode cL_law 8 = .ok (.new 10, 3) := by decide +kernel
theorem dL_law_11 : decode cL_law 11 = .ok (.dup, 1) := by decide +kernel
theorem dL_law_12 : decode cL_law 12 = .ok (.invokespecial 12, 3) := by decide +kernel
theorem dL_law_15 : decode cL_law 15 = .ok (.astore_n 2, 1) := by decide +kernel
theorem dL_law_16 : decode cL_law 16 = .ok (.iconst 0, 1) := by decide +kernel
theorem dL_law_17 : decode cL_law 17 = .ok (.istore_n 3, 1) := by decide +kernel
theorem dL_law_18 : decode cL_law 18 = .ok (.iload_n 3, 1) := by decide +kernel
theorem dL_law_19 : decode cL_law 19 = .ok (.aload_n 0, 1) := by decide +kernel
theorem dL_law_20 : decode cL_law 20 = .ok (.arraylength, 1) := by decide +kernel
theorem dL_law_21 : decode cL_law 21 = .ok (.iconst 4, 1) := by decide +kernel
theorem dL_law_22 : decode cL_law 22 = .ok (.isub, 1) := by decide +kernel
theorem dL_law_23 : decode cL_law 23 = .ok (.if_icmp .gt 661, 3) := by decide +kernel
theorem dL_law_26 : decode cL_law 26 = .ok (.aload_n 0, 1) := by decide +kernel
theorem dL_law_27 : decode cL_law 27 = .ok (.iload_n 3, 1) := by decide +kernel
theorem dL_law_28 : decode cL_law 28 = .ok (.iaload, 1) := by decide +kernel
theorem dL_law_29 : decode cL_law 29 = .ok (.bipush 31, 2) := by decide +kernel
theorem dL_law_31 : decode cL_law 31 = .ok (.iand, 1) := by decide +kernel
theorem dL_law_32 : decode cL_law 32 = .ok (.tableswitch 646 0 19 #[96, 139, 162, 195, 228, 241, 274, 307, 350, 383, 406, 419, 452, 495, 538, 551, 564, 577, 600, 623], 96) := by decide +kernel
theorem dL_law_128 : decode cL_law 128 = .ok (.aload_n 1, 1) := by decide +kernel
theorem dL_law_129 : decode cL_law 129 = .ok (.aload_n 0, 1) := by decide +kernel
theorem dL_law_130 : decode cL_law 130 = .ok (.iload_n 3, 1) := by decide +kernel
theorem dL_law_131 : decode cL_law 131 = .ok (.iconst 1, 1) := by decide +kernel
theorem dL_law_132 : decode cL_law 132 = .ok (.iadd, 1) := by decide +kernel
theorem dL_law_133 : decode cL_law 133 = .ok (.iaload, 1) := by decide +kernel
theorem dL_law_134 : decode cL_law 134 = .ok (.aload_n 0, 1) := by decide +kernel
theorem dL_law_135 : decode cL_law 135 = .ok (.iload_n 3, 1) := by decide +kernel
theorem dL_law_136 : decode cL_law 136 = .ok (.iconst 2, 1) := by decide +kernel
theorem dL_law_137 : decode cL_law 137 = .ok (.iadd, 1) := by decide +kernel
theorem dL_law_138 : decode cL_law 138 = .ok (.iaload, 1) := by decide +kernel
theorem dL_law_139 : decode cL_law 139 = .ok (.aload_n 0, 1) := by decide +kernel
theorem dL_law_140 : decode cL_law 140 = .ok (.iload_n 3, 1) := by decide +kernel
theorem dL_law_141 : decode cL_law 141 = .ok (.iconst 3, 1) := by decide +kernel
theorem dL_law_142 : decode cL_law 142 = .ok (.iadd, 1) := by decide +kernel
theorem dL_law_143 : decode cL_law 143 = .ok (.iaload, 1) := by decide +kernel
theorem dL_law_144 : decode cL_law 144 = .ok (.invokevirtual 13, 3) := by decide +kernel
theorem dL_law_147 : decode cL_law 147 = .ok (.aload_n 2, 1) := by decide +kernel
theorem dL_law_148 : decode cL_law 148 = .ok (.aload_n 0, 1) := by decide +kernel
theorem dL_law_149 : decode cL_law 149 = .ok (.iload_n 3, 1) := by decide +kernel
theorem dL_law_150 : decode cL_law 150 = .ok (.iconst 1, 1) := by decide +kernel
theorem dL_law_151 : decode cL_law 151 = .ok (.iadd, 1) := by decide +kernel
theorem dL_law_152 : decode cL_law 152 = .ok (.iaload, 1) := by decide +kernel
theorem dL_law_153 : decode cL_law 153 = .ok (.aload_n 0, 1) := by decide +kernel
theorem dL_law_154 : decode cL_law 154 = .ok (.iload_n 3, 1) := by decide +kernel
theorem dL_law_155 : decode cL_law 155 = .ok (.iconst 2, 1) := by decide +kernel
theorem dL_law_156 : decode cL_law 156 = .ok (.iadd, 1) := by decide +kernel
theorem dL_law_157 : decode cL_law 157 = .ok (.iaload, 1) := by decide +kernel
theorem dL_law_158 : decode cL_law 158 = .ok (.aload_n 0, 1) := by decide +kernel
theorem dL_law_159 : decode cL_law 159 = .ok (.iload_n 3, 1) := by decide +kernel
theorem dL_law_160 : decode cL_law 160 = .ok (.iconst 3, 1) := by decide +kernel
theorem dL_law_161 : decode cL_law 161 = .ok (.iadd, 1) := by decide +kernel
theorem dL_law_162 : decode cL_law 162 = .ok (.iaload, 1) := by decide +kernel
theorem dL_law_163 : decode cL_law 163 = .ok (.invokevirtual 17, 3) := by decide +kernel
theorem dL_law_166 : decode cL_law 166 = .ok (.if_icmp .eq 512, 3) := by decide +kernel
theorem dL_law_169 : decode cL_law 169 = .ok (.iconst 0, 1) := by decide +kernel
theorem dL_law_170 : decode cL_law 170 = .ok (.ireturn, 1) := by decide +kernel
theorem dL_law_171 : decode cL_law 171 = .ok (.aload_n 1, 1) := by decide +kernel
theorem dL_law_172 : decode cL_law 172 = .ok (.aload_n 0, 1) := by decide +kernel
theorem dL_law_173 : decode cL_law 173 = .ok (.iload_n 3, 1) := by decide +kernel
theorem dL_law_174 : decode cL_law 174 = .ok (.iconst 1, 1) := by decide +kernel
theorem dL_law_175 : decode cL_law 175 = .ok (.iadd, 1) := by decide +kernel
theorem dL_law_176 : decode cL_law 176 = .ok (.iaload, 1) := by decide +kernel
theorem dL_law_177 : decode cL_law 177 = .ok (.invokevirtual 18, 3) := by decide +kernel
theorem dL_law_180 : decode cL_law 180 = .ok (.aload_n 2, 1) := by decide +kernel
theorem dL_law_181 : decode cL_law 181 = .ok (.aload_n 0, 1) := by decide +kernel
theorem dL_law_182 : decode cL_law 182 = .ok (.iload_n 3, 1) := by decide +kernel
theorem dL_law_183 : decode cL_law 183 = .ok (.iconst 1, 1) := by decide +kernel
theorem dL_law_184 : decode cL_law 184 = .ok (.iadd, 1) := by decide +kernel
theorem dL_law_185 : decode cL_law 185 = .ok (.iaload, 1) := by decide +kernel
theorem dL_law_186 : decode cL_law 186 = .ok (.invokevirtual 22, 3) := by decide +kernel
theorem dL_law_189 : decode cL_law 189 = .ok (.if_icmp .eq 489, 3) := by decide +kernel
theorem dL_law_192 : decode cL_law 192 = .ok (.iconst 0, 1) := by decide +kernel
theorem dL_law_193 : decode cL_law 193 = .ok (.ireturn, 1) := by decide +kernel
theorem dL_law_194 : decode cL_law 194 = .ok (.aload_n 1, 1) := by decide +kernel
theorem dL_law_195 : decode cL_law 195 = .ok (.aload_n 0, 1) := by decide +kernel
theorem dL_law_196 : decode cL_law 196 = .ok (.iload_n 3, 1) := by decide +kernel
theorem dL_law_197 : decode cL_law 197 = .ok (.iconst 1, 1) := by decide +kernel
theorem dL_law_198 : decode cL_law 198 = .ok (.iadd, 1) := by decide +kernel
theorem dL_law_199 : decode cL_law 199 = .ok (.iaload, 1) := by decide +kernel
theorem dL_law_200 : decode cL_law 200 = .ok (.aload_n 0, 1) := by decide +kernel
theorem dL_law_201 : decode cL_law 201 = .ok (.iload_n 3, 1) := by decide +kernel
theorem dL_law_202 : decode cL_law 202 = .ok (.iconst 2, 1) := by decide +kernel
theorem dL_law_203 : decode cL_law 203 = .ok (.iadd, 1) := by decide +kernel
theorem dL_law_204 : decode cL_law 204 = .ok (.iaload, 1) := by decide +kernel
theorem dL_law_205 : decode cL_law 205 = .ok (.invokevirtual 23, 3) := by decide +kernel
theorem dL_law_208 : decode cL_law 208 = .ok (.aload_n 2, 1) := by decide +kernel
theorem dL_law_209 : decode cL_law 209 = .ok (.aload_n 0, 1) := by decide +kernel
theorem dL_law_210 : decode cL_law 210 = .ok (.iload_n 3, 1) := by decide +kernel
theorem dL_law_211 : decode cL_law 211 = .ok (.iconst 1, 1) := by decide +kernel
theorem dL_law_212 : decode cL_law 212 = .ok (.iadd, 1) := by decide +kernel
theorem dL_law_213 : decode cL_law 213 = .ok (.iaload, 1) := by decide +kernel
theorem dL_law_214 : decode cL_law 214 = .ok (.aload_n 0, 1) := by decide +kernel
theorem dL_law_215 : decode cL_law 215 = .ok (.iload_n 3, 1) := by decide +kernel
theorem dL_law_216 : decode cL_law 216 = .ok (.iconst 2, 1) := by decide +kernel
theorem dL_law_217 : decode cL_law 217 = .ok (.iadd, 1) := by decide +kernel
theorem dL_law_218 : decode cL_law 218 = .ok (.iaload, 1) := by decide +kernel
theorem dL_law_219 : decode cL_law 219 = .ok (.invokevirtual 27, 3) := by decide +kernel
theorem dL_law_222 : decode cL_law 222 = .ok (.if_icmp .eq 456, 3) := by decide +kernel
theorem dL_law_225 : decode cL_law 225 = .ok (.iconst 0, 1) := by decide +kernel
theorem dL_law_226 : decode cL_law 226 = .ok (.ireturn, 1) := by decide +kernel
theorem dL_law_227 : decode cL_law 227 = .ok (.aload_n 1, 1) := by decide +kernel
theorem dL_law_228 : decode cL_law 228 = .ok (.aload_n 0, 1) := by decide +kernel
theorem dL_law_229 : decode cL_law 229 = .ok (.iload_n 3, 1) := by decide +kernel
theorem dL_law_230 : decode cL_law 230 = .ok (.iconst 1, 1) := by decide +kernel
theorem dL_law_231 : decode cL_law 231 = .ok (.iadd, 1) := by decide +kernel
theorem dL_law_232 : decode cL_law 232 = .ok (.iaload, 1) := by decide +kernel
theorem dL_law_233 : decode cL_law 233 = .ok (.aload_n 0, 1) := by decide +kernel
theorem dL_law_234 : decode cL_law 234 = .ok (.iload_n 3, 1) := by decide +kernel
theorem dL_law_235 : decode cL_law 235 = .ok (.iconst 2, 1) := by decide +kernel
theorem dL_law_236 : decode cL_law 236 = .ok (.iadd, 1) := by decide +kernel
theorem dL_law_237 : decode cL_law 237 = .ok (.iaload, 1) := by decide +kernel
theorem dL_law_238 : decode cL_law 238 = .ok (.invokevirtual 28, 3) := by decide +kernel
theorem dL_law_241 : decode cL_law 241 = .ok (.aload_n 2, 1) := by decide +kernel
theorem dL_law_242 : decode cL_law 242 = .ok (.aload_n 0, 1) := by decide +kernel
theorem dL_law_243 : decode cL_law 243 = .ok (.iload_n 3, 1) := by decide +kernel
theorem dL_law_244 : decode cL_law 244 = .ok (.iconst 1, 1) := by decide +kernel
theorem dL_law_245 : decode cL_law 245 = .ok (.iadd, 1) := by decide +kernel
theorem dL_law_246 : decode cL_law 246 = .ok (.iaload, 1) := by decide +kernel
theorem dL_law_247 : decode cL_law 247 = .ok (.aload_n 0, 1) := by decide +kernel
theorem dL_law_248 : decode cL_law 248 = .ok (.iload_n 3, 1) := by decide +kernel
theorem dL_law_249 : decode cL_law 249 = .ok (.iconst 2, 1) := by decide +kernel
theorem dL_law_250 : decode cL_law 250 = .ok (.iadd, 1) := by decide +kernel
theorem dL_law_251 : decode cL_law 251 = .ok (.iaload, 1) := by decide +kernel
theorem dL_law_252 : decode cL_law 252 = .ok (.invokevirtual 31, 3) := by decide +kernel
theorem dL_law_255 : decode cL_law 255 = .ok (.if_icmp .eq 423, 3) := by decide +kernel
theorem dL_law_258 : decode cL_law 258 = .ok (.iconst 0, 1) := by decide +kernel
theorem dL_law_259 : decode cL_law 259 = .ok (.ireturn, 1) := by decide +kernel
theorem dL_law_260 : decode cL_law 260 = .ok (.aload_n 1, 1) := by decide +kernel
theorem dL_law_261 : decode cL_law 261 = .ok (.invokevirtual 32, 3) := by decide +kernel
theorem dL_law_264 : decode cL_law 264 = .ok (.aload_n 2, 1) := by decide +kernel
theorem dL_law_265 : decode cL_law 265 = .ok (.invokevirtual 36, 3) := by decide +kernel
theorem dL_law_268 : decode cL_law 268 = .ok (.if_icmp .eq 410, 3) := by decide +kernel
theorem dL_law_271 : decode cL_law 271 = .ok (.iconst 0, 1) := by decide +kernel
theorem dL_law_272 : decode cL_law 272 = .ok (.ireturn, 1) := by decide +kernel
theorem dL_law_273 : decode cL_law 273 = .ok (.aload_n 1, 1) := by decide +kernel
theorem dL_law_274 : decode cL_law 274 = .ok (.aload_n 0, 1) := by decide +kernel
theorem dL_law_275 : decode cL_law 275 = .ok (.iload_n 3, 1) := by decide +kernel
theorem dL_law_276 : decode cL_law 276 = .ok (.iconst 1, 1) := by decide +kernel
theorem dL_law_277 : decode cL_law 277 = .ok (.iadd, 1) := by decide +kernel
theorem dL_law_278 : decode cL_law 278 = .ok (.iaload, 1) := by decide +kernel
theorem dL_law_279 : decode cL_law 279 = .ok (.aload_n 0, 1) := by decide +kernel
theorem dL_law_280 : decode cL_law 280 = .ok (.iload_n 3, 1) := by decide +kernel
theorem dL_law_281 : decode cL_law 281 = .ok (.iconst 2, 1) := by decide +kernel
theorem dL_law_282 : decode cL_law 282 = .ok (.iadd, 1) := by decide +kernel
theorem dL_law_283 : decode cL_law 283 = .ok (.iaload, 1) := by decide +kernel
theorem dL_law_284 : decode cL_law 284 = .ok (.invokevirtual 37, 3) := by decide +kernel
theorem dL_law_287 : decode cL_law 287 = .ok (.aload_n 2, 1) := by decide +kernel
theorem dL_law_288 : decode cL_law 288 = .ok (.aload_n 0, 1) := by decide +kernel
theorem dL_law_289 : decode cL_law 289 = .ok (.iload_n 3, 1) := by decide +kernel
theorem dL_law_290 : decode cL_law 290 = .ok (.iconst 1, 1) := by decide +kernel
theorem dL_law_291 : decode cL_law 291 = .ok (.iadd, 1) := by decide +kernel
theorem dL_law_292 : decode cL_law 292 = .ok (.iaload, 1) := by decide +kernel
theorem dL_law_293 : decode cL_law 293 = .ok (.aload_n 0, 1) := by decide +kernel
theorem dL_law_294 : decode cL_law 294 = .ok (.iload_n 3, 1) := by decide +kernel
theorem dL_law_295 : decode cL_law 295 = .ok (.iconst 2, 1) := by decide +kernel
theorem dL_law_296 : decode cL_law 296 = .ok (.iadd, 1) := by decide +kernel
theorem dL_law_297 : decode cL_law 297 = .ok (.iaload, 1) := by decide +kernel
theorem dL_law_298 : decode cL_law 298 = .ok (.invokevirtual 40, 3) := by decide +kernel
theorem dL_law_301 : decode cL_law 301 = .ok (.if_icmp .eq 377, 3) := by decide +kernel
theorem dL_law_304 : decode cL_law 304 = .ok (.iconst 0, 1) := by decide +kernel
theorem dL_law_305 : decode cL_law 305 = .ok (.ireturn, 1) := by decide +kernel
theorem dL_law_306 : decode cL_law 306 = .ok (.aload_n 1, 1) := by decide +kernel
theorem dL_law_307 : decode cL_law 307 = .ok (.aload_n 0, 1) := by decide +kernel
theorem dL_law_308 : decode cL_law 308 = .ok (.iload_n 3, 1) := by decide +kernel
theorem dL_law_309 : decode cL_law 309 = .ok (.iconst 1, 1) := by decide +kernel
theorem dL_law_310 : decode cL_law 310 = .ok (.iadd, 1) := by decide +kernel
theorem dL_law_311 : decode cL_law 311 = .ok (.iaload, 1) := by decide +kernel
theorem dL_law_312 : decode cL_law 312 = .ok (.aload_n 0, 1) := by decide +kernel
theorem dL_law_313 : decode cL_law 313 = .ok (.iload_n 3, 1) := by decide +kernel
theorem dL_law_314 : decode cL_law 314 = .ok (.iconst 2, 1) := by decide +kernel
theorem dL_law_315 : decode cL_law 315 = .ok (.iadd, 1) := by decide +kernel
theorem dL_law_316 : decode cL_law 316 = .ok (.iaload, 1) := by decide +kernel
theorem dL_law_317 : decode cL_law 317 = .ok (.invokevirtual 41, 3) := by decide +kernel
theorem dL_law_320 : decode cL_law 320 = .ok (.aload_n 2, 1) := by decide +kernel
theorem dL_law_321 : decode cL_law 321 = .ok (.aload_n 0, 1) := by decide +kernel
theorem dL_law_322 : decode cL_law 322 = .ok (.iload_n 3, 1) := by decide +kernel
theorem dL_law_323 : decode cL_law 323 = .ok (.iconst 1, 1) := by decide +kernel
theorem dL_law_324 : decode cL_law 324 = .ok (.iadd, 1) := by decide +kernel
theorem dL_law_325 : decode cL_law 325 = .ok (.iaload, 1) := by decide +kernel
theorem dL_law_326 : decode cL_law 326 = .ok (.aload_n 0, 1) := by decide +kernel
theorem dL_law_327 : decode cL_law 327 = .ok (.iload_n 3, 1) := by decide +kernel
theorem dL_law_328 : decode cL_law 328 = .ok (.iconst 2, 1) := by decide +kernel
theorem dL_law_329 : decode cL_law 329 = .ok (.iadd, 1) := by decide +kernel
theorem dL_law_330 : decode cL_law 330 = .ok (.iaload, 1) := by decide +kernel
theorem dL_law_331 : decode cL_law 331 = .ok (.invokevirtual 44, 3) := by decide +kernel
theorem dL_law_334 : decode cL_law 334 = .ok (.if_icmp .eq 344, 3) := by decide +kernel
theorem dL_law_337 : decode cL_law 337 = .ok (.iconst 0, 1) := by decide +kernel
theorem dL_law_338 : decode cL_law 338 = .ok (.ireturn, 1) := by decide +kernel
theorem dL_law_339 : decode cL_law 339 = .ok (.aload_n 1, 1) := by decide +kernel
theorem dL_law_340 : decode cL_law 340 = .ok (.aload_n 0, 1) := by decide +kernel
theorem dL_law_341 : decode cL_law 341 = .ok (.iload_n 3, 1) := by decide +kernel
theorem dL_law_342 : decode cL_law 342 = .ok (.iconst 1, 1) := by decide +kernel
theorem dL_law_343 : decode cL_law 343 = .ok (.iadd, 1) := by decide +kernel
theorem dL_law_344 : decode cL_law 344 = .ok (.iaload, 1) := by decide +kernel
theorem dL_law_345 : decode cL_law 345 = .ok (.aload_n 0, 1) := by decide +kernel
theorem dL_law_346 : decode cL_law 346 = .ok (.iload_n 3, 1) := by decide +kernel
theorem dL_law_347 : decode cL_law 347 = .ok (.iconst 2, 1) := by decide +kernel
theorem dL_law_348 : decode cL_law 348 = .ok (.iadd, 1) := by decide +kernel
theorem dL_law_349 : decode cL_law 349 = .ok (.iaload, 1) := by decide +kernel
theorem dL_law_350 : decode cL_law 350 = .ok (.aload_n 0, 1) := by decide +kernel
theorem dL_law_351 : decode cL_law 351 = .ok (.iload_n 3, 1) := by decide +kernel
theorem dL_law_352 : decode cL_law 352 = .ok (.iconst 3, 1) := by decide +kernel
theorem dL_law_353 : decode cL_law 353 = .ok (.iadd, 1) := by decide +kernel
theorem dL_law_354 : decode cL_law 354 = .ok (.iaload, 1) := by decide +kernel
theorem dL_law_355 : decode cL_law 355 = .ok (.invokevirtual 45, 3) := by decide +kernel
theorem dL_law_358 : decode cL_law 358 = .ok (.aload_n 2, 1) := by decide +kernel
theorem dL_law_359 : decode cL_law 359 = .ok (.aload_n 0, 1) := by decide +kernel
theorem dL_law_360 : decode cL_law 360 = .ok (.iload_n 3, 1) := by decide +kernel
theorem dL_law_361 : decode cL_law 361 = .ok (.iconst 1, 1) := by decide +kernel
theorem dL_law_362 : decode cL_law 362 = .ok (.iadd, 1) := by decide +kernel
theorem dL_law_363 : decode cL_law 363 = .ok (.iaload, 1) := by decide +kernel
theorem dL_law_364 : decode cL_law 364 = .ok (.aload_n 0, 1) := by decide +kernel
theorem dL_law_365 : decode cL_law 365 = .ok (.iload_n 3, 1) := by decide +kernel
theorem dL_law_366 : decode cL_law 366 = .ok (.iconst 2, 1) := by decide +kernel
theorem dL_law_367 : decode cL_law 367 = .ok (.iadd, 1) := by decide +kernel
theorem dL_law_368 : decode cL_law 368 = .ok (.iaload, 1) := by decide +kernel
theorem dL_law_369 : decode cL_law 369 = .ok (.aload_n 0, 1) := by decide +kernel
theorem dL_law_370 : decode cL_law 370 = .ok (.iload_n 3, 1) := by decide +kernel
theorem dL_law_371 : decode cL_law 371 = .ok (.iconst 3, 1) := by decide +kernel
theorem dL_law_372 : decode cL_law 372 = .ok (.iadd, 1) := by decide +kernel
theorem dL_law_373 : decode cL_law 373 = .ok (.iaload, 1) := by decide +kernel
theorem dL_law_374 : decode cL_law 374 = .ok (.invokevirtual 48, 3) := by decide +kernel
theorem dL_law_377 : decode cL_law 377 = .ok (.if_icmp .eq 301, 3) := by decide +kernel
theorem dL_law_380 : decode cL_law 380 = .ok (.iconst 0, 1) := by decide +kernel
theorem dL_law_381 : decode cL_law 381 = .ok (.ireturn, 1) := by decide +kernel
theorem dL_law_382 : decode cL_law 382 = .ok (.aload_n 1, 1) := by decide +kernel
theorem dL_law_383 : decode cL_law 383 = .ok (.aload_n 0, 1) := by decide +kernel
theorem dL_law_384 : decode cL_law 384 = .ok (.iload_n 3, 1) := by decide +kernel
theorem dL_law_385 : decode cL_law 385 = .ok (.iconst 1, 1) := by decide +kernel
theorem dL_law_386 : decode cL_law 386 = .ok (.iadd, 1) := by decide +kernel
theorem dL_law_387 : decode cL_law 387 = .ok (.iaload, 1) := by decide +kernel
theorem dL_law_388 : decode cL_law 388 = .ok (.aload_n 0, 1) := by decide +kernel
theorem dL_law_389 : decode cL_law 389 = .ok (.iload_n 3, 1) := by decide +kernel
theorem dL_law_390 : decode cL_law 390 = .ok (.iconst 2, 1) := by decide +kernel
theorem dL_law_391 : decode cL_law 391 = .ok (.iadd, 1) := by decide +kernel
theorem dL_law_392 : decode cL_law 392 = .ok (.iaload, 1) := by decide +kernel
theorem dL_law_393 : decode cL_law 393 = .ok (.invokevirtual 49, 3) := by decide +kernel
theorem dL_law_396 : decode cL_law 396 = .ok (.aload_n 2, 1) := by decide +kernel
theorem dL_law_397 : decode cL_law 397 = .ok (.aload_n 0, 1) := by decide +kernel
theorem dL_law_398 : decode cL_law 398 = .ok (.iload_n 3, 1) := by decide +kernel
theorem dL_law_399 : decode cL_law 399 = .ok (.iconst 1, 1) := by decide +kernel
theorem dL_law_400 : decode cL_law 400 = .ok (.iadd, 1) := by decide +kernel
theorem dL_law_401 : decode cL_law 401 = .ok (.iaload, 1) := by decide +kernel
theorem dL_law_402 : decode cL_law 402 = .ok (.aload_n 0, 1) := by decide +kernel
theorem dL_law_403 : decode cL_law 403 = .ok (.iload_n 3, 1) := by decide +kernel
theorem dL_law_404 : decode cL_law 404 = .ok (.iconst 2, 1) := by decide +kernel
theorem dL_law_405 : decode cL_law 405 = .ok (.iadd, 1) := by decide +kernel
theorem dL_law_406 : decode cL_law 406 = .ok (.iaload, 1) := by decide +kernel
theorem dL_law_407 : decode cL_law 407 = .ok (.invokevirtual 52, 3) := by decide +kernel
theorem dL_law_410 : decode cL_law 410 = .ok (.if_icmp .eq 268, 3) := by decide +kernel
theorem dL_law_413 : decode cL_law 413 = .ok (.iconst 0, 1) := by decide +kernel
theorem dL_law_414 : decode cL_law 414 = .ok (.ireturn, 1) := by decide +kernel
theorem dL_law_415 : decode cL_law 415 = .ok (.aload_n 1, 1) := by decide +kernel
theorem dL_law_416 : decode cL_law 416 = .ok (.aload_n 0, 1) := by decide +kernel
theorem dL_law_417 : decode cL_law 417 = .ok (.iload_n 3, 1) := by decide +kernel
theorem dL_law_418 : decode cL_law 418 = .ok (.iconst 1, 1) := by decide +kernel
theorem dL_law_419 : decode cL_law 419 = .ok (.iadd, 1) := by decide +kernel
theorem dL_law_420 : decode cL_law 420 = .ok (.iaload, 1) := by decide +kernel
theorem dL_law_421 : decode cL_law 421 = .ok (.invokevirtual 53, 3) := by decide +kernel
theorem dL_law_424 : decode cL_law 424 = .ok (.aload_n 2, 1) := by decide +kernel
theorem dL_law_425 : decode cL_law 425 = .ok (.aload_n 0, 1) := by decide +kernel
theorem dL_law_426 : decode cL_law 426 = .ok (.iload_n 3, 1) := by decide +kernel
theorem dL_law_427 : decode cL_law 427 = .ok (.iconst 1, 1) := by decide +kernel
theorem dL_law_428 : decode cL_law 428 = .ok (.iadd, 1) := by decide +kernel
theorem dL_law_429 : decode cL_law 429 = .ok (.iaload, 1) := by decide +kernel
theorem dL_law_430 : decode cL_law 430 = .ok (.invokevirtual 56, 3) := by decide +kernel
theorem dL_law_433 : decode cL_law 433 = .ok (.if_icmp .eq 245, 3) := by decide +kernel
theorem dL_law_436 : decode cL_law 436 = .ok (.iconst 0, 1) := by decide +kernel
theorem dL_law_437 : decode cL_law 437 = .ok (.ireturn, 1) := by decide +kernel
theorem dL_law_438 : decode cL_law 438 = .ok (.aload_n 1, 1) := by decide +kernel
theorem dL_law_439 : decode cL_law 439 = .ok (.invokevirtual 57, 3) := by decide +kernel
theorem dL_law_442 : decode cL_law 442 = .ok (.aload_n 2, 1) := by decide +kernel
theorem dL_law_443 : decode cL_law 443 = .ok (.invokevirtual 60, 3) := by decide +kernel
theorem dL_law_446 : decode cL_law 446 = .ok (.if_icmp .eq 232, 3) := by decide +kernel
theorem dL_law_449 : decode cL_law 449 = .ok (.iconst 0, 1) := by decide +kernel
theorem dL_law_450 : decode cL_law 450 = .ok (.ireturn, 1) := by decide +kernel
theorem dL_law_451 : decode cL_law 451 = .ok (.aload_n 1, 1) := by decide +kernel
theorem dL_law_452 : decode cL_law 452 = .ok (.aload_n 0, 1) := by decide +kernel
theorem dL_law_453 : decode cL_law 453 = .ok (.iload_n 3, 1) := by decide +kernel
theorem dL_law_454 : decode cL_law 454 = .ok (.iconst 1, 1) := by decide +kernel
theorem dL_law_455 : decode cL_law 455 = .ok (.iadd, 1) := by decide +kernel
theorem dL_law_456 : decode cL_law 456 = .ok (.iaload, 1) := by decide +kernel
theorem dL_law_457 : decode cL_law 457 = .ok (.aload_n 0, 1) := by decide +kernel
theorem dL_law_458 : decode cL_law 458 = .ok (.iload_n 3, 1) := by decide +kernel
theorem dL_law_459 : decode cL_law 459 = .ok (.iconst 2, 1) := by decide +kernel
theorem dL_law_460 : decode cL_law 460 = .ok (.iadd, 1) := by decide +kernel
theorem dL_law_461 : decode cL_law 461 = .ok (.iaload, 1) := by decide +kernel
theorem dL_law_462 : decode cL_law 462 = .ok (.invokevirtual 61, 3) := by decide +kernel
theorem dL_law_465 : decode cL_law 465 = .ok (.aload_n 2, 1) := by decide +kernel
theorem dL_law_466 : decode cL_law 466 = .ok (.aload_n 0, 1) := by decide +kernel
theorem dL_law_467 : decode cL_law 467 = .ok (.iload_n 3, 1) := by decide +kernel
theorem dL_law_468 : decode cL_law 468 = .ok (.iconst 1, 1) := by decide +kernel
theorem dL_law_469 : decode cL_law 469 = .ok (.iadd, 1) := by decide +kernel
theorem dL_law_470 : decode cL_law 470 = .ok (.iaload, 1) := by decide +kernel
theorem dL_law_471 : decode cL_law 471 = .ok (.aload_n 0, 1) := by decide +kernel
theorem dL_law_472 : decode cL_law 472 = .ok (.iload_n 3, 1) := by decide +kernel
theorem dL_law_473 : decode cL_law 473 = .ok (.iconst 2, 1) := by decide +kernel
theorem dL_law_474 : decode cL_law 474 = .ok (.iadd, 1) := by decide +kernel
theorem dL_law_475 : decode cL_law 475 = .ok (.iaload, 1) := by decide +kernel
theorem dL_law_476 : decode cL_law 476 = .ok (.invokevirtual 64, 3) := by decide +kernel
theorem dL_law_479 : decode cL_law 479 = .ok (.if_icmp .eq 199, 3) := by decide +kernel
theorem dL_law_482 : decode cL_law 482 = .ok (.iconst 0, 1) := by decide +kernel
theorem dL_law_483 : decode cL_law 483 = .ok (.ireturn, 1) := by decide +kernel
theorem dL_law_484 : decode cL_law 484 = .ok (.aload_n 1, 1) := by decide +kernel
theorem dL_law_485 : decode cL_law 485 = .ok (.aload_n 0, 1) := by decide +kernel
theorem dL_law_486 : decode cL_law 486 = .ok (.iload_n 3, 1) := by decide +kernel
theorem dL_law_487 : decode cL_law 487 = .ok (.iconst 1, 1) := by decide +kernel
theorem dL_law_488 : decode cL_law 488 = .ok (.iadd, 1) := by decide +kernel
theorem dL_law_489 : decode cL_law 489 = .ok (.iaload, 1) := by decide +kernel
theorem dL_law_490 : decode cL_law 490 = .ok (.aload_n 0, 1) := by decide +kernel
theorem dL_law_491 : decode cL_law 491 = .ok (.iload_n 3, 1) := by decide +kernel
theorem dL_law_492 : decode cL_law 492 = .ok (.iconst 2, 1) := by decide +kernel
theorem dL_law_493 : decode cL_law 493 = .ok (.iadd, 1) := by decide +kernel
theorem dL_law_494 : decode cL_law 494 = .ok (.iaload, 1) := by decide +kernel
theorem dL_law_495 : decode cL_law 495 = .ok (.aload_n 0, 1) := by decide +kernel
theorem dL_law_496 : decode cL_law 496 = .ok (.iload_n 3, 1) := by decide +kernel
theorem dL_law_497 : decode cL_law 497 = .ok (.iconst 3, 1) := by decide +kernel
theorem dL_law_498 : decode cL_law 498 = .ok (.iadd, 1) := by decide +kernel
theorem dL_law_499 : decode cL_law 499 = .ok (.iaload, 1) := by decide +kernel
theorem dL_law_500 : decode cL_law 500 = .ok (.invokevirtual 65, 3) := by decide +kernel
theorem dL_law_503 : decode cL_law 503 = .ok (.aload_n 2, 1) := by decide +kernel
theorem dL_law_504 : decode cL_law 504 = .ok (.aload_n 0, 1) := by decide +kernel
theorem dL_law_505 : decode cL_law 505 = .ok (.iload_n 3, 1) := by decide +kernel
theorem dL_law_506 : decode cL_law 506 = .ok (.iconst 1, 1) := by decide +kernel
theorem dL_law_507 : decode cL_law 507 = .ok (.iadd, 1) := by decide +kernel
theorem dL_law_508 : decode cL_law 508 = .ok (.iaload, 1) := by decide +kernel
theorem dL_law_509 : decode cL_law 509 = .ok (.aload_n 0, 1) := by decide +kernel
theorem dL_law_510 : decode cL_law 510 = .ok (.iload_n 3, 1) := by decide +kernel
theorem dL_law_511 : decode cL_law 511 = .ok (.iconst 2, 1) := by decide +kernel
theorem dL_law_512 : decode cL_law 512 = .ok (.iadd, 1) := by decide +kernel
theorem dL_law_513 : decode cL_law 513 = .ok (.iaload, 1) := by decide +kernel
theorem dL_law_514 : decode cL_law 514 = .ok (.aload_n 0, 1) := by decide +kernel
theorem dL_law_515 : decode cL_law 515 = .ok (.iload_n 3, 1) := by decide +kernel
theorem dL_law_516 : decode cL_law 516 = .ok (.iconst 3, 1) := by decide +kernel
theorem dL_law_517 : decode cL_law 517 = .ok (.iadd, 1) := by decide +kernel
theorem dL_law_518 : decode cL_law 518 = .ok (.iaload, 1) := by decide +kernel
theorem dL_law_519 : decode cL_law 519 = .ok (.invokevirtual 68, 3) := by decide +kernel
theorem dL_law_522 : decode cL_law 522 = .ok (.if_icmp .eq 156, 3) := by decide +kernel
theorem dL_law_525 : decode cL_law 525 = .ok (.iconst 0, 1) := by decide +kernel
theorem dL_law_526 : decode cL_law 526 = .ok (.ireturn, 1) := by decide +kernel
theorem dL_law_527 : decode cL_law 527 = .ok (.aload_n 1, 1) := by decide +kernel
theorem dL_law_528 : decode cL_law 528 = .ok (.aload_n 0, 1) := by decide +kernel
theorem dL_law_529 : decode cL_law 529 = .ok (.iload_n 3, 1) := by decide +kernel
theorem dL_law_530 : decode cL_law 530 = .ok (.iconst 1, 1) := by decide +kernel
theorem dL_law_531 : decode cL_law 531 = .ok (.iadd, 1) := by decide +kernel
theorem dL_law_532 : decode cL_law 532 = .ok (.iaload, 1) := by decide +kernel
theorem dL_law_533 : decode cL_law 533 = .ok (.aload_n 0, 1) := by decide +kernel
theorem dL_law_534 : decode cL_law 534 = .ok (.iload_n 3, 1) := by decide +kernel
theorem dL_law_535 : decode cL_law 535 = .ok (.iconst 2, 1) := by decide +kernel
theorem dL_law_536 : decode cL_law 536 = .ok (.iadd, 1) := by decide +kernel
theorem dL_law_537 : decode cL_law 537 = .ok (.iaload, 1) := by decide +kernel
theorem dL_law_538 : decode cL_law 538 = .ok (.aload_n 0, 1) := by decide +kernel
theorem dL_law_539 : decode cL_law 539 = .ok (.iload_n 3, 1) := by decide +kernel
theorem dL_law_540 : decode cL_law 540 = .ok (.iconst 3, 1) := by decide +kernel
theorem dL_law_541 : decode cL_law 541 = .ok (.iadd, 1) := by decide +kernel
theorem dL_law_542 : decode cL_law 542 = .ok (.iaload, 1) := by decide +kernel
theorem dL_law_543 : decode cL_law 543 = .ok (.invokevirtual 69, 3) := by decide +kernel
theorem dL_law_546 : decode cL_law 546 = .ok (.aload_n 2, 1) := by decide +kernel
theorem dL_law_547 : decode cL_law 547 = .ok (.aload_n 0, 1) := by decide +kernel
theorem dL_law_548 : decode cL_law 548 = .ok (.iload_n 3, 1) := by decide +kernel
theorem dL_law_549 : decode cL_law 549 = .ok (.iconst 1, 1) := by decide +kernel
theorem dL_law_550 : decode cL_law 550 = .ok (.iadd, 1) := by decide +kernel
theorem dL_law_551 : decode cL_law 551 = .ok (.iaload, 1) := by decide +kernel
theorem dL_law_552 : decode cL_law 552 = .ok (.aload_n 0, 1) := by decide +kernel
theorem dL_law_553 : decode cL_law 553 = .ok (.iload_n 3, 1) := by decide +kernel
theorem dL_law_554 : decode cL_law 554 = .ok (.iconst 2, 1) := by decide +kernel
theorem dL_law_555 : decode cL_law 555 = .ok (.iadd, 1) := by decide +kernel
theorem dL_law_556 : decode cL_law 556 = .ok (.iaload, 1) := by decide +kernel
theorem dL_law_557 : decode cL_law 557 = .ok (.aload_n 0, 1) := by decide +kernel
theorem dL_law_558 : decode cL_law 558 = .ok (.iload_n 3, 1) := by decide +kernel
theorem dL_law_559 : decode cL_law 559 = .ok (.iconst 3, 1) := by decide +kernel
theorem dL_law_560 : decode cL_law 560 = .ok (.iadd, 1) := by decide +kernel
theorem dL_law_561 : decode cL_law 561 = .ok (.iaload, 1) := by decide +kernel
theorem dL_law_562 : decode cL_law 562 = .ok (.invokevirtual 72, 3) := by decide +kernel
theorem dL_law_565 : decode cL_law 565 = .ok (.if_icmp .eq 113, 3) := by decide +kernel
theorem dL_law_568 : decode cL_law 568 = .ok (.iconst 0, 1) := by decide +kernel
theorem dL_law_569 : decode cL_law 569 = .ok (.ireturn, 1) := by decide +kernel
theorem dL_law_570 : decode cL_law 570 = .ok (.aload_n 1, 1) := by decide +kernel
theorem dL_law_571 : decode cL_law 571 = .ok (.invokevirtual 73, 3) := by decide +kernel
theorem dL_law_574 : decode cL_law 574 = .ok (.aload_n 2, 1) := by decide +kernel
theorem dL_law_575 : decode cL_law 575 = .ok (.invokevirtual 76, 3) := by decide +kernel
theorem dL_law_578 : decode cL_law 578 = .ok (.if_icmp .eq 100, 3) := by decide +kernel
theorem dL_law_581 : decode cL_law 581 = .ok (.iconst 0, 1) := by decide +kernel
theorem dL_law_582 : decode cL_law 582 = .ok (.ireturn, 1) := by decide +kernel
theorem dL_law_583 : decode cL_law 583 = .ok (.aload_n 1, 1) := by decide +kernel
theorem dL_law_584 : decode cL_law 584 = .ok (.invokevirtual 77, 3) := by decide +kernel
theorem dL_law_587 : decode cL_law 587 = .ok (.aload_n 2, 1) := by decide +kernel
theorem dL_law_588 : decode cL_law 588 = .ok (.invokevirtual 80, 3) := by decide +kernel
theorem dL_law_591 : decode cL_law 591 = .ok (.if_icmp .eq 87, 3) := by decide +kernel
theorem dL_law_594 : decode cL_law 594 = .ok (.iconst 0, 1) := by decide +kernel
theorem dL_law_595 : decode cL_law 595 = .ok (.ireturn, 1) := by decide +kernel
theorem dL_law_596 : decode cL_law 596 = .ok (.aload_n 1, 1) := by decide +kernel
theorem dL_law_597 : decode cL_law 597 = .ok (.invokevirtual 81, 3) := by decide +kernel
theorem dL_law_600 : decode cL_law 600 = .ok (.aload_n 2, 1) := by decide +kernel
theorem dL_law_601 : decode cL_law 601 = .ok (.invokevirtual 84, 3) := by decide +kernel
theorem dL_law_604 : decode cL_law 604 = .ok (.if_icmp .eq 74, 3) := by decide +kernel
theorem dL_law_607 : decode cL_law 607 = .ok (.iconst 0, 1) := by decide +kernel
theorem dL_law_608 : decode cL_law 608 = .ok (.ireturn, 1) := by decide +kernel
theorem dL_law_609 : decode cL_law 609 = .ok (.aload_n 1, 1) := by decide +kernel
theorem dL_law_610 : decode cL_law 610 = .ok (.aload_n 0, 1) := by decide +kernel
theorem dL_law_611 : decode cL_law 611 = .ok (.iload_n 3, 1) := by decide +kernel
theorem dL_law_612 : decode cL_law 612 = .ok (.iconst 1, 1) := by decide +kernel
theorem dL_law_613 : decode cL_law 613 = .ok (.iadd, 1) := by decide +kernel
theorem dL_law_614 : decode cL_law 614 = .ok (.iaload, 1) := by decide +kernel
theorem dL_law_615 : decode cL_law 615 = .ok (.invokevirtual 85, 3) := by decide +kernel
theorem dL_law_618 : decode cL_law 618 = .ok (.aload_n 2, 1) := by decide +kernel
theorem dL_law_619 : decode cL_law 619 = .ok (.aload_n 0, 1) := by decide +kernel
theorem dL_law_620 : decode cL_law 620 = .ok (.iload_n 3, 1) := by decide +kernel
theorem dL_law_621 : decode cL_law 621 = .ok (.iconst 1, 1) := by decide +kernel
theorem dL_law_622 : decode cL_law 622 = .ok (.iadd, 1) := by decide +kernel
theorem dL_law_623 : decode cL_law 623 = .ok (.iaload, 1) := by decide +kernel
theorem dL_law_624 : decode cL_law 624 = .ok (.invokevirtual 88, 3) := by decide +kernel
theorem dL_law_627 : decode cL_law 627 = .ok (.if_icmp .eq 51, 3) := by decide +kernel
theorem dL_law_630 : decode cL_law 630 = .ok (.iconst 0, 1) := by decide +kernel
theorem dL_law_631 : decode cL_law 631 = .ok (.ireturn, 1) := by decide +kernel
theorem dL_law_632 : decode cL_law 632 = .ok (.aload_n 1, 1) := by decide +kernel
theorem dL_law_633 : decode cL_law 633 = .ok (.aload_n 0, 1) := by decide +kernel
theorem dL_law_634 : decode cL_law 634 = .ok (.iload_n 3, 1) := by decide +kernel
theorem dL_law_635 : decode cL_law 635 = .ok (.iconst 1, 1) := by decide +kernel
theorem dL_law_636 : decode cL_law 636 = .ok (.iadd, 1) := by decide +kernel
theorem dL_law_637 : decode cL_law 637 = .ok (.iaload, 1) := by decide +kernel
theorem dL_law_638 : decode cL_law 638 = .ok (.invokevirtual 89, 3) := by decide +kernel
theorem dL_law_641 : decode cL_law 641 = .ok (.aload_n 2, 1) := by decide +kernel
theorem dL_law_642 : decode cL_law 642 = .ok (.aload_n 0, 1) := by decide +kernel
theorem dL_law_643 : decode cL_law 643 = .ok (.iload_n 3, 1) := by decide +kernel
theorem dL_law_644 : decode cL_law 644 = .ok (.iconst 1, 1) := by decide +kernel
theorem dL_law_645 : decode cL_law 645 = .ok (.iadd, 1) := by decide +kernel
theorem dL_law_646 : decode cL_law 646 = .ok (.iaload, 1) := by decide +kernel
theorem dL_law_647 : decode cL_law 647 = .ok (.invokevirtual 92, 3) := by decide +kernel
theorem dL_law_650 : decode cL_law 650 = .ok (.if_icmp .eq 28, 3) := by decide +kernel
theorem dL_law_653 : decode cL_law 653 = .ok (.iconst 0, 1) := by decide +kernel
theorem dL_law_654 : decode cL_law 654 = .ok (.ireturn, 1) := by decide +kernel
theorem dL_law_655 : decode cL_law 655 = .ok (.aload_n 1, 1) := by decide +kernel
theorem dL_law_656 : decode cL_law 656 = .ok (.aload_n 0, 1) := by decide +kernel
theorem dL_law_657 : decode cL_law 657 = .ok (.iload_n 3, 1) := by decide +kernel
theorem dL_law_658 : decode cL_law 658 = .ok (.iconst 1, 1) := by decide +kernel
theorem dL_law_659 : decode cL_law 659 = .ok (.iadd, 1) := by decide +kernel
theorem dL_law_660 : decode cL_law 660 = .ok (.iaload, 1) := by decide +kernel
theorem dL_law_661 : decode cL_law 661 = .ok (.invokevirtual 93, 3) := by decide +kernel
theorem dL_law_664 : decode cL_law 664 = .ok (.aload_n 2, 1) := by decide +kernel
theorem dL_law_665 : decode cL_law 665 = .ok (.aload_n 0, 1) := by decide +kernel
theorem dL_law_666 : decode cL_law 666 = .ok (.iload_n 3, 1) := by decide +kernel
theorem dL_law_667 : decode cL_law 667 = .ok (.iconst 1, 1) := by decide +kernel
theorem dL_law_668 : decode cL_law 668 = .ok (.iadd, 1) := by decide +kernel
theorem dL_law_669 : decode cL_law 669 = .ok (.iaload, 1) := by decide +kernel
theorem dL_law_670 : decode cL_law 670 = .ok (.invokevirtual 96, 3) := by decide +kernel
theorem dL_law_673 : decode cL_law 673 = .ok (.if_icmp .eq 5, 3) := by decide +kernel
theorem dL_law_676 : decode cL_law 676 = .ok (.iconst 0, 1) := by decide +kernel
theorem dL_law_677 : decode cL_law 677 = .ok (.ireturn, 1) := by decide +kernel
theorem dL_law_678 : decode cL_law 678 = .ok (.iinc 3 4, 3) := by decide +kernel
theorem dL_law_681 : decode cL_law 681 = .ok (.goto (-663), 3) := by decide +kernel
theorem dL_law_684 : decode cL_law 684 = .ok (.iconst 1, 1) := by decide +kernel
theorem dL_law_685 : decode cL_law 685 = .ok (.ireturn, 1) := by decide +kernel
end
section
/-- the words that a callee may take over -/
def BIG : List Cond := lw_tbl.filter goodWord
theorem big_of {w : Cond} (h : w ∈ lw_tbl) (hg : goodWord w = true) : w ∈ BIG := List.mem_filter.mpr ⟨h, hg⟩
theorem big_in {w : Cond} (h : w ∈ BIG) : w ∈ lw_tbl := (List.mem_filter.mp h).1
theorem big_good {w : Cond} (h : w ∈ BIG) : (w.onTables && w.keeps) = true ∨ ∃ ty, w = .arrayClass ty := good_of_word (List.mem_filter.mp h).2
theorem layX0 : ∀ k, k < 12 → u_lay RX0 TX0 k ∈ BIG := fun k hk => match k, hk with
  | 0, _ => big_of (List.mem_append_right _ (List.mem_append_left _ (List.mem_of_getElem? (i := 130) rfl))) rfl
  | 1, _ => big_of (List.mem_append_right _ (List.mem_append_left _ (List.mem_of_getElem? (i := 132) rfl))) rfl
  | 2, _ => big_of (List.mem_append_right _ (List.mem_append_left _ (List.mem_of_getElem? (i := 134) rfl))) rfl
  | 3, _ => big_of (List.mem_append_right _ (List.mem_append_left _ (List.mem_of_getElem? (i := 136) rfl))) rfl
  | 4, _ => big_of (List.mem_append_right _ (List.mem_append_left _ (List.mem_of_getElem? (i := 138) rfl))) rfl
  | 5, _ => big_of (List.mem_append_right _ (List.mem_append_left _ (List.mem_of_getElem? (i := 140) rfl))) rfl
  | 6, _ => big_of (List.mem_append_right _ (List.mem_append_left _ (List.mem_of_getElem? (i := 142) rfl))) rfl
  | 7, _ => big_of (List.mem_append_right _ (List.mem_append_left _ (List.mem_of_getElem? (i := 144) rfl))) rfl
  | 8, _ => big_of (List.mem_append_right _ (List.mem_append_left _ (List.mem_of_getElem? (i := 146) rfl))) rfl
  | 9, _ => big_of (List.mem_append_right _ (List.mem_append_left _ (List.mem_of_getElem? (i := 148) rfl))) rfl
  | 10, _ => big_of (List.mem_append_right _ (List.mem_append_left _ (List.mem_of_getElem? (i := 150) rfl))) rfl
  | 11, _ => big_of (List.mem_append_right _ (List.mem_append_left _ (List.mem_of_getElem? (i := 152) rfl))) rfl
  | n + 12, h => absurd h (by omega)
theorem wwX0 : ∀ w ∈ u_ws RX0 TX0 12, w ∈ BIG := fun w h => by
  obtain ⟨k, hk, rfl⟩ := List.mem_map.mp h
  exact layX0 k (List.mem_range.mp hk)
theorem layX1 : ∀ k, k < 2 → u_lay RX1 TX1 k ∈ BIG := fun k hk => match k, hk with
  | 0, _ => big_of (List.mem_append_right _ (List.mem_append_left _ (List.mem_of_getElem? (i := 64) rfl))) rfl
  | 1, _ => big_of (List.mem_append_right _ (List.mem_append_left _ (List.mem_of_getElem? (i := 66) rfl))) rfl
  | n + 2, h => absurd h (by omega)
theorem wwX1 : ∀ w ∈ u_ws RX1 TX1 2, w ∈ BIG := fun w h => by
  obtain ⟨k, hk, rfl⟩ := List.mem_map.mp h
  exact layX1 k (List.mem_range.mp hk)
theorem layX2 : ∀ k, k < 3 → u_lay RX2 TX2 k ∈ BIG := fun k hk => match k, hk with
  | 0, _ => big_of (List.mem_append_right _ (List.mem_append_left _ (List.mem_of_getElem? (i := 44) rfl))) rfl
  | 1, _ => big_of (List.mem_append_right _ (List.mem_append_left _ (List.mem_of_getElem? (i := 46) rfl))) rfl
  | 2, _ => big_of (List.mem_append_right _ (List.mem_append_left _ (List.mem_of_getElem? (i := 48) rfl))) rfl
  | n + 3, h => absurd h (by omega)
theorem wwX2 : ∀ w ∈ u_ws RX2 TX2 3, w ∈ BIG := fun w h => by
  obtain ⟨k, hk, rfl⟩ := List.mem_map.mp h
  exact layX2 k (List.mem_range.mp hk)
theorem layX3 : ∀ k, k < 5 → u_lay RX3 TX3 k ∈ BIG := fun k hk => match k, hk with
  | 0, _ => big_of (List.mem_append_right _ (List.mem_append_left _ (List.mem_of_getElem? (i := 81) rfl))) rfl
  | 1, _ => big_of (List.mem_append_right _ (List.mem_append_left _ (List.mem_of_getElem? (i := 83) rfl))) rfl
  | 2, _ => big_of (List.mem_append_right _ (List.mem_append_left _ (List.mem_of_getElem? (i := 85) rfl))) rfl
  | 3, _ => big_of (List.mem_append_right _ (List.mem_append_left _ (List.mem_of_getElem? (i := 87) rfl))) rfl
  | 4, _ => big_of (List.mem_append_right _ (List.mem_append_left _ (List.mem_of_getElem? (i := 89) rfl))) rfl
  | n + 5, h => absurd h (by omega)
theorem wwX3 : ∀ w ∈ u_ws RX3 TX3 5, w ∈ BIG := fun w h => by
  obtain ⟨k, hk, rfl⟩ := List.mem_map.mp h
  exact layX3 k (List.mem_range.mp hk)
theorem layX4 : ∀ k, k < 9 → u_lay RX4 TX4 k ∈ BIG := fun k hk => match k, hk with
  | 0, _ => big_of (List.mem_append_right _ (List.mem_append_left _ (List.mem_of_getElem? (i := 172) rfl))) rfl
  | 1, _ => big_of (List.mem_append_right _ (List.mem_append_left _ (List.mem_of_getElem? (i := 174) rfl))) rfl
  | 2, _ => big_of (List.mem_append_right _ (List.mem_append_left _ (List.mem_of_getElem? (i := 176) rfl))) rfl
  | 3, _ => big_of (List.mem_append_right _ (List.mem_append_left _ (List.mem_of_getElem? (i := 178) rfl))) rfl
  | 4, _ => big_of (List.mem_append_right _ (List.mem_append_left _ (List.mem_of_getElem? (i := 180) rfl))) rfl
  | 5, _ => big_of (List.mem_append_right _ (List.mem_append_left _ (List.mem_of_getElem? (i := 182) rfl))) rfl
  | 6, _ => big_of (List.mem_append_right _ (List.mem_append_left _ (List.mem_of_getElem? (i := 184) rfl))) rfl
  | 7, _ => big_of (List.mem_append_right _ (List.mem_append_left _ (List.mem_of_getElem? (i := 186) rfl))) rfl
  | 8, _ => big_of (List.mem_append_right _ (List.mem_append_left _ (List.mem_of_getElem? (i := 188) rfl))) rfl
  | n + 9, h => absurd h (by omega)
theorem wwX4 : ∀ w ∈ u_ws RX4 TX4 9, w ∈ BIG := fun w h => by
  obtain ⟨k, hk, rfl⟩ := List.mem_map.mp h
  exact layX4 k (List.mem_range.mp hk)
theorem layX5 : ∀ k, k < 12 → u_lay RX5 TX5 k ∈ BIG := fun k hk => match k, hk with
  | 0, _ => big_of (List.mem_append_right _ (List.mem_append_left _ (List.mem_of_getElem? (i := 221) rfl))) rfl
  | 1, _ => big_of (List.mem_append_right _ (List.mem_append_left _ (List.mem_of_getElem? (i := 223) rfl))) rfl
  | 2, _ => big_of (List.mem_append_right _ (List.mem_append_left _ (List.mem_of_getElem? (i := 225) rfl))) rfl
  | 3, _ => big_of (List.mem_append_right _ (List.mem_append_left _ (List.mem_of_getElem? (i := 227) rfl))) rfl
  | 4, _ => big_of (List.mem_append_right _ (List.mem_append_left _ (List.mem_of_getElem? (i := 229) rfl))) rfl
  | 5, _ => big_of (List.mem_append_right _ (List.mem_append_left _ (List.mem_of_getElem? (i := 231) rfl))) rfl
  | 6, _ => big_of (List.mem_append_right _ (List.mem_append_left _ (List.mem_of_getElem? (i := 233) rfl))) rfl
  | 7, _ => big_of (List.mem_append_right _ (List.mem_append_left _ (List.mem_of_getElem? (i := 235) rfl))) rfl
  | 8, _ => big_of (List.mem_append_right _ (List.mem_append_left _ (List.mem_of_getElem? (i := 237) rfl))) rfl
  | 9, _ => big_of (List.mem_append_right _ (List.mem_append_left _ (List.mem_of_getElem? (i := 239) rfl))) rfl
  | 10, _ => big_of (List.mem_append_right _ (List.mem_append_right _ (List.mem_append_left _ (List.mem_of_getElem? (i := 1) rfl)))) rfl
  | 11, _ => big_of (List.mem_append_right _ (List.mem_append_right _ (List.mem_append_left _ (List.mem_of_getElem? (i := 3) rfl)))) rfl
  | n + 12, h => absurd h (by omega)
theorem wwX5 : ∀ w ∈ u_ws RX5 TX5 12, w ∈ BIG := fun w h => by
  obtain ⟨k, hk, rfl⟩ := List.mem_map.mp h
  exact layX5 k (List.mem_range.mp hk)
theorem layX6 : ∀ k, k < 10 → u_lay RX6 TX6 k ∈ BIG := fun k hk => match k, hk with
  | 0, _ => big_of (List.mem_append_right _ (List.mem_append_right _ (List.mem_append_right _ (List.mem_of_getElem? (i := 51) rfl)))) rfl
  | 1, _ => big_of (List.mem_append_right _ (List.mem_append_right _ (List.mem_append_right _ (List.mem_of_getElem? (i := 53) rfl)))) rfl
  | 2, _ => big_of (List.mem_append_right _ (List.mem_append_right _ (List.mem_append_right _ (List.mem_of_getElem? (i := 55) rfl)))) rfl
  | 3, _ => big_of (List.mem_append_right _ (List.mem_append_right _ (List.mem_append_right _ (List.mem_of_getElem? (i := 57) rfl)))) rfl
  | 4, _ => big_of (List.mem_append_right _ (List.mem_append_right _ (List.mem_append_right _ (List.mem_of_getElem? (i := 59) rfl)))) rfl
  | 5, _ => big_of (List.mem_append_right _ (List.mem_append_right _ (List.mem_append_right _ (List.mem_of_getElem? (i := 61) rfl)))) rfl
  | 6, _ => big_of (List.mem_append_right _ (List.mem_append_right _ (List.mem_append_right _ (List.mem_of_getElem? (i := 63) rfl)))) rfl
  | 7, _ => big_of (List.mem_append_right _ (List.mem_append_right _ (List.mem_append_right _ (List.mem_of_getElem? (i := 65) rfl)))) rfl
  | 8, _ => big_of (List.mem_append_right _ (List.mem_append_right _ (List.mem_append_right _ (List.mem_of_getElem? (i := 67) rfl)))) rfl
  | 9, _ => big_of (List.mem_append_right _ (List.mem_append_right _ (List.mem_append_right _ (List.mem_of_getElem? (i := 69) rfl)))) rfl
  | n + 10, h => absurd h (by omega)
theorem wwX6 : ∀ w ∈ u_ws RX6 TX6 10, w ∈ BIG := fun w h => by
  obtain ⟨k, hk, rfl⟩ := List.mem_map.mp h
  exact layX6 k (List.mem_range.mp hk)
def FFd (own : String) (idx ci k : Nat) : Prop := ∃ r : vw_C, vwCl[ci]? = some r ∧ k < r.2.2 ∧ Cond.fieldLink own idx (r.2.1 k).1 (r.2.1 k).2.1 (r.2.1 k).2.2.1 ∈ BIG ∧ ∀ w ∈ u_ws r.1 r.2.1 r.2.2, w ∈ BIG
def PFd (ci k : Nat) (ty : FieldType) (fin : Bool) : Prop := ∃ (r : vw_C) (ty0 : Nat → FieldType), vwCl[ci]? = some r ∧ (∀ k, k < r.2.2 → parseFieldDescriptor (r.2.1 k).2.2.1 = some (ty0 k)) ∧ (∀ a, a < r.2.2 → ∀ b, b < r.2.2 → a ≠ b → (r.2.1 a).2.1 ≠ (r.2.1 b).2.1) ∧ (r.2.1 k).2.2.2 = fin ∧ parseFieldDescriptor (r.2.1 k).2.2.1 = some ty
theorem ffX2_9 : FFd RX2 9 2 0 := ⟨(RX2, TX2, 3), rfl, by decide, big_of (List.mem_append_right _ (List.mem_append_left _ (List.mem_of_getElem? (i := 32) rfl))) rfl, wwX2⟩
theorem ffX0_83 : FFd RX0 83 2 0 := ⟨(RX2, TX2, 3), rfl, by decide, big_of (List.mem_append_right _ (List.mem_append_left _ (List.mem_of_getElem? (i := 33) rfl))) rfl, wwX2⟩
theorem ffX5_90 : FFd RX5 90 2 0 := ⟨(RX2, TX2, 3), rfl, by decide, big_of (List.mem_append_right _ (List.mem_append_left _ (List.mem_of_getElem? (i := 34) rfl))) rfl, wwX2⟩
theorem ffX4_126 : FFd RX4 126 2 0 := ⟨(RX2, TX2, 3), rfl, by decide, big_of (List.mem_append_right _ (List.mem_append_left _ (List.mem_of_getElem? (i := 35) rfl))) rfl, wwX2⟩
theorem ffX2_15 : FFd RX2 15 2 1 := ⟨(RX2, TX2, 3), rfl, by decide, big_of (List.mem_append_right _ (List.mem_append_left _ (List.mem_of_getElem? (i := 36) rfl))) rfl, wwX2⟩
theorem ffX0_93 : FFd RX0 93 2 1 := ⟨(RX2, TX2, 3), rfl, by decide, big_of (List.mem_append_right _ (List.mem_append_left _ (List.mem_of_getElem? (i := 37) rfl))) rfl, wwX2⟩
theorem ffX5_95 : FFd RX5 95 2 1 := ⟨(RX2, TX2, 3), rfl, by decide, big_of (List.mem_append_right _ (List.mem_append_left _ (List.mem_of_getElem? (i := 38) rfl))) rfl, wwX2⟩
theorem ffX4_132 : FFd RX4 132 2 1 := ⟨(RX2, TX2, 3), rfl, by decide, big_of (List.mem_append_right _ (List.mem_append_left _ (List.mem_of_getElem? (i := 39) rfl))) rfl, wwX2⟩
theorem ffX2_18 : FFd RX2 18 2 2 := ⟨(RX2, TX2, 3), rfl, by decide, big_of (List.mem_append_right _ (List.mem_append_left _ (List.mem_of_getElem? (i := 40) rfl))) rfl, wwX2⟩
theorem ffX0_90 : FFd RX0 90 2 2 := ⟨(RX2, TX2, 3), rfl, by decide, big_of (List.mem_append_right _ (List.mem_append_left _ (List.mem_of_getElem? (i := 41) rfl))) rfl, wwX2⟩
theorem ffX5_98 : FFd RX5 98 2 2 := ⟨(RX2, TX2, 3), rfl, by decide, big_of (List.mem_append_right _ (List.mem_append_left _ (List.mem_of_getElem? (i := 42) rfl))) rfl, wwX2⟩
theorem ffX4_139 : FFd RX4 139 2 2 := ⟨(RX2, TX2, 3), rfl, by decide, big_of (List.mem_append_right _ (List.mem_append_left _ (List.mem_of_getElem? (i := 43) rfl))) rfl, wwX2⟩
theorem ffX1_15 : FFd RX1 15 1 0 := ⟨(RX1, TX1, 2), rfl, by decide, big_of (List.mem_append_right _ (List.mem_append_left _ (List.mem_of_getElem? (i := 60) rfl))) rfl, wwX1⟩
theorem ffX4_62 : FFd RX4 62 1 0 := ⟨(RX1, TX1, 2), rfl, by decide, big_of (List.mem_append_right _ (List.mem_append_left _ (List.mem_of_getElem? (i := 61) rfl))) rfl, wwX1⟩
theorem ffX5_136 : FFd RX5 136 1 0 := ⟨(RX1, TX1, 2), rfl, by decide, big_of (List.mem_append_right _ (List.mem_append_left _ (List.mem_of_getElem? (i := 62) rfl))) rfl, wwX1⟩
theorem ffX1_11 : FFd RX1 11 1 1 := ⟨(RX1, TX1, 2), rfl, by decide, big_of (List.mem_append_right _ (List.mem_append_left _ (List.mem_of_getElem? (i := 63) rfl))) rfl, wwX1⟩
theorem ffX3_24 : FFd RX3 24 3 0 := ⟨(RX3, TX3, 5), rfl, by decide, big_of (List.mem_append_right _ (List.mem_append_left _ (List.mem_of_getElem? (i := 75) rfl))) rfl, wwX3⟩
theorem ffX4_65 : FFd RX4 65 3 0 := ⟨(RX3, TX3, 5), rfl, by decide, big_of (List.mem_append_right _ (List.mem_append_left _ (List.mem_of_getElem? (i := 76) rfl))) rfl, wwX3⟩
theorem ffX3_9 : FFd RX3 9 3 1 := ⟨(RX3, TX3, 5), rfl, by decide, big_of (List.mem_append_right _ (List.mem_append_left _ (List.mem_of_getElem? (i := 77) rfl))) rfl, wwX3⟩
theorem ffX3_15 : FFd RX3 15 3 2 := ⟨(RX3, TX3, 5), rfl, by decide, big_of (List.mem_append_right _ (List.mem_append_left _ (List.mem_of_getElem? (i := 78) rfl))) rfl, wwX3⟩
theorem ffX3_18 : FFd RX3 18 3 3 := ⟨(RX3, TX3, 5), rfl, by decide, big_of (List.mem_append_right _ (List.mem_append_left _ (List.mem_of_getElem? (i := 79) rfl))) rfl, wwX3⟩
theorem ffX3_21 : FFd RX3 21 3 4 := ⟨(RX3, TX3, 5), rfl, by decide, big_of (List.mem_append_right _ (List.mem_append_left _ (List.mem_of_getElem? (i := 80) rfl))) rfl, wwX3⟩
theorem ffX0_28 : FFd RX0 28 0 0 := ⟨(RX0, TX0, 12), rfl, by decide, big_of (List.mem_append_right _ (List.mem_append_left _ (List.mem_of_getElem? (i := 99) rfl))) rfl, wwX0⟩
theorem ffX1_36 : FFd RX1 36 0 0 := ⟨(RX0, TX0, 12), rfl, by decide, big_of (List.mem_append_right _ (List.mem_append_left _ (List.mem_of_getElem? (i := 100) rfl))) rfl, wwX0⟩
theorem ffX4_79 : FFd RX4 79 0 0 := ⟨(RX0, TX0, 12), rfl, by decide, big_of (List.mem_append_right _ (List.mem_append_left _ (List.mem_of_getElem? (i := 101) rfl))) rfl, wwX0⟩
theorem ffX5_105 : FFd RX5 105 0 0 := ⟨(RX0, TX0, 12), rfl, by decide, big_of (List.mem_append_right _ (List.mem_append_left _ (List.mem_of_getElem? (i := 102) rfl))) rfl, wwX0⟩
theorem ffX0_32 : FFd RX0 32 0 1 := ⟨(RX0, TX0, 12), rfl, by decide, big_of (List.mem_append_right _ (List.mem_append_left _ (List.mem_of_getElem? (i := 103) rfl))) rfl, wwX0⟩
theorem ffX5_123 : FFd RX5 123 0 1 := ⟨(RX0, TX0, 12), rfl, by decide, big_of (List.mem_append_right _ (List.mem_append_left _ (List.mem_of_getElem? (i := 104) rfl))) rfl, wwX0⟩
theorem ffX4_129 : FFd RX4 129 0 1 := ⟨(RX0, TX0, 12), rfl, by decide, big_of (List.mem_append_right _ (List.mem_append_left _ (List.mem_of_getElem? (i := 105) rfl))) rfl, wwX0⟩
theorem ffX0_35 : FFd RX0 35 0 2 := ⟨(RX0, TX0, 12), rfl, by decide, big_of (List.mem_append_right _ (List.mem_append_left _ (List.mem_of_getElem? (i := 106) rfl))) rfl, wwX0⟩
theorem ffX1_25 : FFd RX1 25 0 2 := ⟨(RX0, TX0, 12), rfl, by decide, big_of (List.mem_append_right _ (List.mem_append_left _ (List.mem_of_getElem? (i := 107) rfl))) rfl, wwX0⟩
theorem ffX4_115 : FFd RX4 115 0 2 := ⟨(RX0, TX0, 12), rfl, by decide, big_of (List.mem_append_right _ (List.mem_append_left _ (List.mem_of_getElem? (i := 108) rfl))) rfl, wwX0⟩
theorem ffX0_38 : FFd RX0 38 0 3 := ⟨(RX0, TX0, 12), rfl, by decide, big_of (List.mem_append_right _ (List.mem_append_left _ (List.mem_of_getElem? (i := 109) rfl))) rfl, wwX0⟩
theorem ffX1_30 : FFd RX1 30 0 3 := ⟨(RX0, TX0, 12), rfl, by decide, big_of (List.mem_append_right _ (List.mem_append_left _ (List.mem_of_getElem? (i := 110) rfl))) rfl, wwX0⟩
theorem ffX5_110 : FFd RX5 110 0 3 := ⟨(RX0, TX0, 12), rfl, by decide, big_of (List.mem_append_right _ (List.mem_append_left _ (List.mem_of_getElem? (i := 111) rfl))) rfl, wwX0⟩
theorem ffX4_90 : FFd RX4 90 0 3 := ⟨(RX0, TX0, 12), rfl, by decide, big_of (List.mem_append_right _ (List.mem_append_left _ (List.mem_of_getElem? (i := 112) rfl))) rfl, wwX0⟩
theorem ffX0_41 : FFd RX0 41 0 4 := ⟨(RX0, TX0, 12), rfl, by decide, big_of (List.mem_append_right _ (List.mem_append_left _ (List.mem_of_getElem? (i := 113) rfl))) rfl, wwX0⟩
theorem ffX5_117 : FFd RX5 117 0 4 := ⟨(RX0, TX0, 12), rfl, by decide, big_of (List.mem_append_right _ (List.mem_append_left _ (List.mem_of_getElem? (i := 114) rfl))) rfl, wwX0⟩
theorem ffX4_104 : FFd RX4 104 0 4 := ⟨(RX0, TX0, 12), rfl, by decide, big_of (List.mem_append_right _ (List.mem_append_left _ (List.mem_of_getElem? (i := 115) rfl))) rfl, wwX0⟩
theorem ffX0_44 : FFd RX0 44 0 5 := ⟨(RX0, TX0, 12), rfl, by decide, big_of (List.mem_append_right _ (List.mem_append_left _ (List.mem_of_getElem? (i := 116) rfl))) rfl, wwX0⟩
theorem ffX5_120 : FFd RX5 120 0 5 := ⟨(RX0, TX0, 12), rfl, by decide, big_of (List.mem_append_right _ (List.mem_append_left _ (List.mem_of_getElem? (i := 117) rfl))) rfl, wwX0⟩
theorem ffX0_47 : FFd RX0 47 0 6 := ⟨(RX0, TX0, 12), rfl, by decide, big_of (List.mem_append_right _ (List.mem_append_left _ (List.mem_of_getElem? (i := 118) rfl))) rfl, wwX0⟩
theorem ffX4_93 : FFd RX4 93 0 6 := ⟨(RX0, TX0, 12), rfl, by decide, big_of (List.mem_append_right _ (List.mem_append_left _ (List.mem_of_getElem? (i := 119) rfl))) rfl, wwX0⟩
theorem ffX0_51 : FFd RX0 51 0 7 := ⟨(RX0, TX0, 12), rfl, by decide, big_of (List.mem_append_right _ (List.mem_append_left _ (List.mem_of_getElem? (i := 120) rfl))) rfl, wwX0⟩
theorem ffX1_33 : FFd RX1 33 0 7 := ⟨(RX0, TX0, 12), rfl, by decide, big_of (List.mem_append_right _ (List.mem_append_left _ (List.mem_of_getElem? (i := 121) rfl))) rfl, wwX0⟩
theorem ffX0_9 : FFd RX0 9 0 8 := ⟨(RX0, TX0, 12), rfl, by decide, big_of (List.mem_append_right _ (List.mem_append_left _ (List.mem_of_getElem? (i := 122) rfl))) rfl, wwX0⟩
theorem ffX1_39 : FFd RX1 39 0 8 := ⟨(RX0, TX0, 12), rfl, by decide, big_of (List.mem_append_right _ (List.mem_append_left _ (List.mem_of_getElem? (i := 123) rfl))) rfl, wwX0⟩
theorem ffX4_111 : FFd RX4 111 0 8 := ⟨(RX0, TX0, 12), rfl, by decide, big_of (List.mem_append_right _ (List.mem_append_left _ (List.mem_of_getElem? (i := 124) rfl))) rfl, wwX0⟩
theorem ffX0_15 : FFd RX0 15 0 9 := ⟨(RX0, TX0, 12), rfl, by decide, big_of (List.mem_append_right _ (List.mem_append_left _ (List.mem_of_getElem? (i := 125) rfl))) rfl, wwX0⟩
theorem ffX5_126 : FFd RX5 126 0 9 := ⟨(RX0, TX0, 12), rfl, by decide, big_of (List.mem_append_right _ (List.mem_append_left _ (List.mem_of_getElem? (i := 126) rfl))) rfl, wwX0⟩
theorem ffX0_18 : FFd RX0 18 0 10 := ⟨(RX0, TX0, 12), rfl, by decide, big_of (List.mem_append_right _ (List.mem_append_left _ (List.mem_of_getElem? (i := 127) rfl))) rfl, wwX0⟩
theorem ffX0_24 : FFd RX0 24 0 11 := ⟨(RX0, TX0, 12), rfl, by decide, big_of (List.mem_append_right _ (List.mem_append_left _ (List.mem_of_getElem? (i := 128) rfl))) rfl, wwX0⟩
theorem ffX5_129 : FFd RX5 129 0 11 := ⟨(RX0, TX0, 12), rfl, by decide, big_of (List.mem_append_right _ (List.mem_append_left _ (List.mem_of_getElem? (i := 129) rfl))) rfl, wwX0⟩
theorem ffX4_39 : FFd RX4 39 4 0 := ⟨(RX4, TX4, 9), rfl, by decide, big_of (List.mem_append_right _ (List.mem_append_left _ (List.mem_of_getElem? (i := 155) rfl))) rfl, wwX4⟩
theorem ffX5_147 : FFd RX5 147 4 0 := ⟨(RX4, TX4, 9), rfl, by decide, big_of (List.mem_append_right _ (List.mem_append_left _ (List.mem_of_getElem? (i := 156) rfl))) rfl, wwX4⟩
theorem ffX4_43 : FFd RX4 43 4 1 := ⟨(RX4, TX4, 9), rfl, by decide, big_of (List.mem_append_right _ (List.mem_append_left _ (List.mem_of_getElem? (i := 157) rfl))) rfl, wwX4⟩
theorem ffX5_181 : FFd RX5 181 4 1 := ⟨(RX4, TX4, 9), rfl, by decide, big_of (List.mem_append_right _ (List.mem_append_left _ (List.mem_of_getElem? (i := 158) rfl))) rfl, wwX4⟩
theorem ffX4_46 : FFd RX4 46 4 2 := ⟨(RX4, TX4, 9), rfl, by decide, big_of (List.mem_append_right _ (List.mem_append_left _ (List.mem_of_getElem? (i := 159) rfl))) rfl, wwX4⟩
theorem ffX5_184 : FFd RX5 184 4 2 := ⟨(RX4, TX4, 9), rfl, by decide, big_of (List.mem_append_right _ (List.mem_append_left _ (List.mem_of_getElem? (i := 160) rfl))) rfl, wwX4⟩
theorem ffX4_49 : FFd RX4 49 4 3 := ⟨(RX4, TX4, 9), rfl, by decide, big_of (List.mem_append_right _ (List.mem_append_left _ (List.mem_of_getElem? (i := 161) rfl))) rfl, wwX4⟩
theorem ffX5_178 : FFd RX5 178 4 3 := ⟨(RX4, TX4, 9), rfl, by decide, big_of (List.mem_append_right _ (List.mem_append_left _ (List.mem_of_getElem? (i := 162) rfl))) rfl, wwX4⟩
theorem ffX4_52 : FFd RX4 52 4 4 := ⟨(RX4, TX4, 9), rfl, by decide, big_of (List.mem_append_right _ (List.mem_append_left _ (List.mem_of_getElem? (i := 163) rfl))) rfl, wwX4⟩
theorem ffX5_190 : FFd RX5 190 4 4 := ⟨(RX4, TX4, 9), rfl, by decide, big_of (List.mem_append_right _ (List.mem_append_left _ (List.mem_of_getElem? (i := 164) rfl))) rfl, wwX4⟩
theorem ffX4_12 : FFd RX4 12 4 5 := ⟨(RX4, TX4, 9), rfl, by decide, big_of (List.mem_append_right _ (List.mem_append_left _ (List.mem_of_getElem? (i := 165) rfl))) rfl, wwX4⟩
theorem ffX5_86 : FFd RX5 86 4 5 := ⟨(RX4, TX4, 9), rfl, by decide, big_of (List.mem_append_right _ (List.mem_append_left _ (List.mem_of_getElem? (i := 166) rfl))) rfl, wwX4⟩
theorem ffX4_20 : FFd RX4 20 4 6 := ⟨(RX4, TX4, 9), rfl, by decide, big_of (List.mem_append_right _ (List.mem_append_left _ (List.mem_of_getElem? (i := 167) rfl))) rfl, wwX4⟩
theorem ffX5_101 : FFd RX5 101 4 6 := ⟨(RX4, TX4, 9), rfl, by decide, big_of (List.mem_append_right _ (List.mem_append_left _ (List.mem_of_getElem? (i := 168) rfl))) rfl, wwX4⟩
theorem ffX4_27 : FFd RX4 27 4 7 := ⟨(RX4, TX4, 9), rfl, by decide, big_of (List.mem_append_right _ (List.mem_append_left _ (List.mem_of_getElem? (i := 169) rfl))) rfl, wwX4⟩
theorem ffX5_132 : FFd RX5 132 4 7 := ⟨(RX4, TX4, 9), rfl, by decide, big_of (List.mem_append_right _ (List.mem_append_left _ (List.mem_of_getElem? (i := 170) rfl))) rfl, wwX4⟩
theorem ffX4_34 : FFd RX4 34 4 8 := ⟨(RX4, TX4, 9), rfl, by decide, big_of (List.mem_append_right _ (List.mem_append_left _ (List.mem_of_getElem? (i := 171) rfl))) rfl, wwX4⟩
theorem ffX5_10 : FFd RX5 10 5 0 := ⟨(RX5, TX5, 12), rfl, by decide, big_of (List.mem_append_right _ (List.mem_append_left _ (List.mem_of_getElem? (i := 209) rfl))) rfl, wwX5⟩
theorem ffX5_16 : FFd RX5 16 5 1 := ⟨(RX5, TX5, 12), rfl, by decide, big_of (List.mem_append_right _ (List.mem_append_left _ (List.mem_of_getElem? (i := 210) rfl))) rfl, wwX5⟩
theorem ffX5_19 : FFd RX5 19 5 2 := ⟨(RX5, TX5, 12), rfl, by decide, big_of (List.mem_append_right _ (List.mem_append_left _ (List.mem_of_getElem? (i := 211) rfl))) rfl, wwX5⟩
theorem ffX5_79 : FFd RX5 79 5 3 := ⟨(RX5, TX5, 12), rfl, by decide, big_of (List.mem_append_right _ (List.mem_append_left _ (List.mem_of_getElem? (i := 212) rfl))) rfl, wwX5⟩
theorem ffX5_76 : FFd RX5 76 5 4 := ⟨(RX5, TX5, 12), rfl, by decide, big_of (List.mem_append_right _ (List.mem_append_left _ (List.mem_of_getElem? (i := 213) rfl))) rfl, wwX5⟩
theorem ffX5_23 : FFd RX5 23 5 5 := ⟨(RX5, TX5, 12), rfl, by decide, big_of (List.mem_append_right _ (List.mem_append_left _ (List.mem_of_getElem? (i := 214) rfl))) rfl, wwX5⟩
theorem ffX5_26 : FFd RX5 26 5 6 := ⟨(RX5, TX5, 12), rfl, by decide, big_of (List.mem_append_right _ (List.mem_append_left _ (List.mem_of_getElem? (i := 215) rfl))) rfl, wwX5⟩
theorem ffX5_30 : FFd RX5 30 5 7 := ⟨(RX5, TX5, 12), rfl, by decide, big_of (List.mem_append_right _ (List.mem_append_left _ (List.mem_of_getElem? (i := 216) rfl))) rfl, wwX5⟩
theorem ffX5_34 : FFd RX5 34 5 8 := ⟨(RX5, TX5, 12), rfl, by decide, big_of (List.mem_append_right _ (List.mem_append_left _ (List.mem_of_getElem? (i := 217) rfl))) rfl, wwX5⟩
theorem ffX5_37 : FFd RX5 37 5 9 := ⟨(RX5, TX5, 12), rfl, by decide, big_of (List.mem_append_right _ (List.mem_append_left _ (List.mem_of_getElem? (i := 218) rfl))) rfl, wwX5⟩
theorem ffX5_58 : FFd RX5 58 5 10 := ⟨(RX5, TX5, 12), rfl, by decide, big_of (List.mem_append_right _ (List.mem_append_left _ (List.mem_of_getElem? (i := 219) rfl))) rfl, wwX5⟩
theorem ffX5_40 : FFd RX5 40 5 11 := ⟨(RX5, TX5, 12), rfl, by decide, big_of (List.mem_append_right _ (List.mem_append_left _ (List.mem_of_getElem? (i := 220) rfl))) rfl, wwX5⟩
theorem ffX6_36 : FFd RX6 36 6 0 := ⟨(RX6, TX6, 10), rfl, by decide, big_of (List.mem_append_right _ (List.mem_append_right _ (List.mem_append_right _ (List.mem_of_getElem? (i := 41) rfl)))) rfl, wwX6⟩
theorem ffX6_7 : FFd RX6 7 6 1 := ⟨(RX6, TX6, 10), rfl, by decide, big_of (List.mem_append_right _ (List.mem_append_right _ (List.mem_append_right _ (List.mem_of_getElem? (i := 42) rfl)))) rfl, wwX6⟩
theorem ffX6_13 : FFd RX6 13 6 2 := ⟨(RX6, TX6, 10), rfl, by decide, big_of (List.mem_append_right _ (List.mem_append_right _ (List.mem_append_right _ (List.mem_of_getElem? (i := 43) rfl)))) rfl, wwX6⟩
theorem ffX6_16 : FFd RX6 16 6 3 := ⟨(RX6, TX6, 10), rfl, by decide, big_of (List.mem_append_right _ (List.mem_append_right _ (List.mem_append_right _ (List.mem_of_getElem? (i := 44) rfl)))) rfl, wwX6⟩
theorem ffX6_66 : FFd RX6 66 6 4 := ⟨(RX6, TX6, 10), rfl, by decide, big_of (List.mem_append_right _ (List.mem_append_right _ (List.mem_append_right _ (List.mem_of_getElem? (i := 45) rfl)))) rfl, wwX6⟩
theorem ffX6_19 : FFd RX6 19 6 5 := ⟨(RX6, TX6, 10), rfl, by decide, big_of (List.mem_append_right _ (List.mem_append_right _ (List.mem_append_right _ (List.mem_of_getElem? (i := 46) rfl)))) rfl, wwX6⟩
theorem ffX6_22 : FFd RX6 22 6 6 := ⟨(RX6, TX6, 10), rfl, by decide, big_of (List.mem_append_right _ (List.mem_append_right _ (List.mem_append_right _ (List.mem_of_getElem? (i := 47) rfl)))) rfl, wwX6⟩
theorem ffX6_26 : FFd RX6 26 6 7 := ⟨(RX6, TX6, 10), rfl, by decide, big_of (List.mem_append_right _ (List.mem_append_right _ (List.mem_append_right _ (List.mem_of_getElem? (i := 48) rfl)))) rfl, wwX6⟩
theorem ffX6_76 : FFd RX6 76 6 8 := ⟨(RX6, TX6, 10), rfl, by decide, big_of (List.mem_append_right _ (List.mem_append_right _ (List.mem_append_right _ (List.mem_of_getElem? (i := 49) rfl)))) rfl, wwX6⟩
theorem ffX6_29 : FFd RX6 29 6 9 := ⟨(RX6, TX6, 10), rfl, by decide, big_of (List.mem_append_right _ (List.mem_append_right _ (List.mem_append_right _ (List.mem_of_getElem? (i := 50) rfl)))) rfl, wwX6⟩
theorem pfX0_0 : PFd 0 0 (.int) false := ⟨(RX0, TX0, 12), tyX0, rfl, tyX0_ok, nmX0, rfl, by decide +kernel⟩
theorem pfX0_1 : PFd 0 1 (.int) false := ⟨(RX0, TX0, 12), tyX0, rfl, tyX0_ok, nmX0, rfl, by decide +kernel⟩
theorem pfX0_2 : PFd 0 2 (.int) false := ⟨(RX0, TX0, 12), tyX0, rfl, tyX0_ok, nmX0, rfl, by decide +kernel⟩
theorem pfX0_3 : PFd 0 3 (.int) false := ⟨(RX0, TX0, 12), tyX0, rfl, tyX0_ok, nmX0, rfl, by decide +kernel⟩
theorem pfX0_4 : PFd 0 4 (.int) false := ⟨(RX0, TX0, 12), tyX0, rfl, tyX0_ok, nmX0, rfl, by decide +kernel⟩
theorem pfX0_5 : PFd 0 5 (.int) false := ⟨(RX0, TX0, 12), tyX0, rfl, tyX0_ok, nmX0, rfl, by decide +kernel⟩
theorem pfX0_6 : PFd 0 6 (.boolean) false := ⟨(RX0, TX0, 12), tyX0, rfl, tyX0_ok, nmX0, rfl, by decide +kernel⟩
theorem pfX0_7 : PFd 0 7 (.int) false := ⟨(RX0, TX0, 12), tyX0, rfl, tyX0_ok, nmX0, rfl, by decide +kernel⟩
theorem pfX0_8 : PFd 0 8 (.array .int) true := ⟨(RX0, TX0, 12), tyX0, rfl, tyX0_ok, nmX0, rfl, by decide +kernel⟩
theorem pfX0_9 : PFd 0 9 (.array .int) true := ⟨(RX0, TX0, 12), tyX0, rfl, tyX0_ok, nmX0, rfl, by decide +kernel⟩
theorem pfX0_10 : PFd 0 10 (.array .int) true := ⟨(RX0, TX0, 12), tyX0, rfl, tyX0_ok, nmX0, rfl, by decide +kernel⟩
theorem pfX0_11 : PFd 0 11 (.object "LentViews$Cells") true := ⟨(RX0, TX0, 12), tyX0, rfl, tyX0_ok, nmX0, rfl, by decide +kernel⟩
theorem pfX1_0 : PFd 1 0 (.int) false := ⟨(RX1, TX1, 2), tyX1, rfl, tyX1_ok, nmX1, rfl, by decide +kernel⟩
theorem pfX1_1 : PFd 1 1 (.array .int) true := ⟨(RX1, TX1, 2), tyX1, rfl, tyX1_ok, nmX1, rfl, by decide +kernel⟩
theorem pfX2_0 : PFd 2 0 (.array .int) true := ⟨(RX2, TX2, 3), tyX2, rfl, tyX2_ok, nmX2, rfl, by decide +kernel⟩
theorem pfX2_1 : PFd 2 1 (.array .int) true := ⟨(RX2, TX2, 3), tyX2, rfl, tyX2_ok, nmX2, rfl, by decide +kernel⟩
theorem pfX2_2 : PFd 2 2 (.array .int) true := ⟨(RX2, TX2, 3), tyX2, rfl, tyX2_ok, nmX2, rfl, by decide +kernel⟩
theorem pfX3_0 : PFd 3 0 (.int) false := ⟨(RX3, TX3, 5), tyX3, rfl, tyX3_ok, nmX3, rfl, by decide +kernel⟩
theorem pfX3_1 : PFd 3 1 (.array .int) true := ⟨(RX3, TX3, 5), tyX3, rfl, tyX3_ok, nmX3, rfl, by decide +kernel⟩
theorem pfX3_2 : PFd 3 2 (.array .int) true := ⟨(RX3, TX3, 5), tyX3, rfl, tyX3_ok, nmX3, rfl, by decide +kernel⟩
theorem pfX3_3 : PFd 3 3 (.array .int) true := ⟨(RX3, TX3, 5), tyX3, rfl, tyX3_ok, nmX3, rfl, by decide +kernel⟩
theorem pfX3_4 : PFd 3 4 (.array .int) true := ⟨(RX3, TX3, 5), tyX3, rfl, tyX3_ok, nmX3, rfl, by decide +kernel⟩
theorem pfX4_0 : PFd 4 0 (.int) false := ⟨(RX4, TX4, 9), tyX4, rfl, tyX4_ok, nmX4, rfl, by decide +kernel⟩
theorem pfX4_1 : PFd 4 1 (.int) false := ⟨(RX4, TX4, 9), tyX4, rfl, tyX4_ok, nmX4, rfl, by decide +kernel⟩
theorem pfX4_2 : PFd 4 2 (.int) false := ⟨(RX4, TX4, 9), tyX4, rfl, tyX4_ok, nmX4, rfl, by decide +kernel⟩
theorem pfX4_3 : PFd 4 3 (.int) false := ⟨(RX4, TX4, 9), tyX4, rfl, tyX4_ok, nmX4, rfl, by decide +kernel⟩
theorem pfX4_4 : PFd 4 4 (.int) false := ⟨(RX4, TX4, 9), tyX4, rfl, tyX4_ok, nmX4, rfl, by decide +kernel⟩
theorem pfX4_5 : PFd 4 5 (.object "LentViews$Cells") true := ⟨(RX4, TX4, 9), tyX4, rfl, tyX4_ok, nmX4, rfl, by decide +kernel⟩
theorem pfX4_6 : PFd 4 6 (.array (.object "LentViews$Act")) true := ⟨(RX4, TX4, 9), tyX4, rfl, tyX4_ok, nmX4, rfl, by decide +kernel⟩
theorem pfX4_7 : PFd 4 7 (.object "LentViews$Album") true := ⟨(RX4, TX4, 9), tyX4, rfl, tyX4_ok, nmX4, rfl, by decide +kernel⟩
theorem pfX4_8 : PFd 4 8 (.object "LentViews$History") true := ⟨(RX4, TX4, 9), tyX4, rfl, tyX4_ok, nmX4, rfl, by decide +kernel⟩
theorem pfX5_0 : PFd 5 0 (.object "LentViews$World") true := ⟨(RX5, TX5, 12), tyX5, rfl, tyX5_ok, nmX5, rfl, by decide +kernel⟩
theorem pfX5_1 : PFd 5 1 (.object "LentViews$World") true := ⟨(RX5, TX5, 12), tyX5, rfl, tyX5_ok, nmX5, rfl, by decide +kernel⟩
theorem pfX5_2 : PFd 5 2 (.array (.object "LentViews$World")) true := ⟨(RX5, TX5, 12), tyX5, rfl, tyX5_ok, nmX5, rfl, by decide +kernel⟩
theorem pfX5_3 : PFd 5 3 (.int) false := ⟨(RX5, TX5, 12), tyX5, rfl, tyX5_ok, nmX5, rfl, by decide +kernel⟩
theorem pfX5_4 : PFd 5 4 (.int) false := ⟨(RX5, TX5, 12), tyX5, rfl, tyX5_ok, nmX5, rfl, by decide +kernel⟩
theorem pfX5_5 : PFd 5 5 (.array (.object "LentViews$World")) true := ⟨(RX5, TX5, 12), tyX5, rfl, tyX5_ok, nmX5, rfl, by decide +kernel⟩
theorem pfX5_6 : PFd 5 6 (.array .boolean) true := ⟨(RX5, TX5, 12), tyX5, rfl, tyX5_ok, nmX5, rfl, by decide +kernel⟩
theorem pfX5_7 : PFd 5 7 (.array .int) true := ⟨(RX5, TX5, 12), tyX5, rfl, tyX5_ok, nmX5, rfl, by decide +kernel⟩
theorem pfX5_8 : PFd 5 8 (.array .int) true := ⟨(RX5, TX5, 12), tyX5, rfl, tyX5_ok, nmX5, rfl, by decide +kernel⟩
theorem pfX5_9 : PFd 5 9 (.array .int) true := ⟨(RX5, TX5, 12), tyX5, rfl, tyX5_ok, nmX5, rfl, by decide +kernel⟩
theorem pfX5_10 : PFd 5 10 (.int) false := ⟨(RX5, TX5, 12), tyX5, rfl, tyX5_ok, nmX5, rfl, by decide +kernel⟩
theorem pfX5_11 : PFd 5 11 (.array .int) true := ⟨(RX5, TX5, 12), tyX5, rfl, tyX5_ok, nmX5, rfl, by decide +kernel⟩
theorem pfX6_0 : PFd 6 0 (.int) false := ⟨(RX6, TX6, 10), tyX6, rfl, tyX6_ok, nmX6, rfl, by decide +kernel⟩
theorem pfX6_1 : PFd 6 1 (.array .int) true := ⟨(RX6, TX6, 10), tyX6, rfl, tyX6_ok, nmX6, rfl, by decide +kernel⟩
theorem pfX6_2 : PFd 6 2 (.array .int) true := ⟨(RX6, TX6, 10), tyX6, rfl, tyX6_ok, nmX6, rfl, by decide +kernel⟩
theorem pfX6_3 : PFd 6 3 (.array .int) true := ⟨(RX6, TX6, 10), tyX6, rfl, tyX6_ok, nmX6, rfl, by decide +kernel⟩
theorem pfX6_4 : PFd 6 4 (.int) false := ⟨(RX6, TX6, 10), tyX6, rfl, tyX6_ok, nmX6, rfl, by decide +kernel⟩
theorem pfX6_5 : PFd 6 5 (.array .int) true := ⟨(RX6, TX6, 10), tyX6, rfl, tyX6_ok, nmX6, rfl, by decide +kernel⟩
theorem pfX6_6 : PFd 6 6 (.array .boolean) true := ⟨(RX6, TX6, 10), tyX6, rfl, tyX6_ok, nmX6, rfl, by decide +kernel⟩
theorem pfX6_7 : PFd 6 7 (.array .int) true := ⟨(RX6, TX6, 10), tyX6, rfl, tyX6_ok, nmX6, rfl, by decide +kernel⟩
theorem pfX6_8 : PFd 6 8 (.int) false := ⟨(RX6, TX6, 10), tyX6, rfl, tyX6_ok, nmX6, rfl, by decide +kernel⟩
theorem pfX6_9 : PFd 6 9 (.array .int) true := ⟨(RX6, TX6, 10), tyX6, rfl, tyX6_ok, nmX6, rfl, by decide +kernel⟩
/-- a method that a call may name: its code word, its class made ready -/
def MCd (y : MethodName) (cc : ByteArray) (n : Nat) (r : Option FieldType) (np : Nat) : Prop := Cond.code y cc n r ∈ BIG ∧ Cond.initialized y.cls ∈ BIG ∧ (y.cls ≠ "java/lang/invoke/MethodHandle" ∧ y.cls ≠ "java/lang/invoke/VarHandle" ∧ (parseMethodDescriptor y.desc).map (fun d => d.parameters.length) = some np)
theorem mc_X5_init : MCd yX5_init cX5_init 2 none 0 := ⟨big_of (List.mem_append_right _ (List.mem_append_left _ (List.mem_of_getElem? (i := 16) rfl))) rfl, big_of (List.mem_append_right _ (List.mem_append_left _ (List.mem_of_getElem? (i := 1) rfl))) rfl, by decide +kernel⟩
theorem mc_X4_init : MCd yX4_init cX4_init 2 none 0 := ⟨big_of (List.mem_append_right _ (List.mem_append_left _ (List.mem_of_getElem? (i := 24) rfl))) rfl, big_of (List.mem_append_right _ (List.mem_append_left _ (List.mem_of_getElem? (i := 2) rfl))) rfl, by decide +kernel⟩
theorem mc_X2_init : MCd yX2_init cX2_init 1 none 0 := ⟨big_of (List.mem_append_right _ (List.mem_append_left _ (List.mem_of_getElem? (i := 30) rfl))) rfl, big_of (List.mem_append_right _ (List.mem_append_left _ (List.mem_of_getElem? (i := 3) rfl))) rfl, by decide +kernel⟩
theorem mc_X1_init : MCd yX1_init cX1_init 1 none 0 := ⟨big_of (List.mem_append_right _ (List.mem_append_left _ (List.mem_of_getElem? (i := 58) rfl))) rfl, big_of (List.mem_append_right _ (List.mem_append_left _ (List.mem_of_getElem? (i := 4) rfl))) rfl, by decide +kernel⟩
theorem mc_X3_init : MCd yX3_init cX3_init 1 none 0 := ⟨big_of (List.mem_append_right _ (List.mem_append_left _ (List.mem_of_getElem? (i := 73) rfl))) rfl, big_of (List.mem_append_right _ (List.mem_append_left _ (List.mem_of_getElem? (i := 5) rfl))) rfl, by decide +kernel⟩
theorem mc_X0_init : MCd yX0_init cX0_init 1 none 0 := ⟨big_of (List.mem_append_right _ (List.mem_append_left _ (List.mem_of_getElem? (i := 95) rfl))) rfl, big_of (List.mem_append_right _ (List.mem_append_left _ (List.mem_of_getElem? (i := 6) rfl))) rfl, by decide +kernel⟩
theorem mc_X4_restart : MCd yX4_restart cX4_restart 5 none 3 := ⟨big_of (List.mem_append_right _ (List.mem_append_left _ (List.mem_of_getElem? (i := 195) rfl))) rfl, big_of (List.mem_append_right _ (List.mem_append_left _ (List.mem_of_getElem? (i := 2) rfl))) rfl, by decide +kernel⟩
theorem mc_X2_clear : MCd yX2_clear cX2_clear 1 none 0 := ⟨big_of (List.mem_append_right _ (List.mem_append_left _ (List.mem_of_getElem? (i := 199) rfl))) rfl, big_of (List.mem_append_right _ (List.mem_append_left _ (List.mem_of_getElem? (i := 3) rfl))) rfl, by decide +kernel⟩
theorem mc_J7_fill_53178 : MCd yJ7_fill_53178 cJ7_fill_53178 4 none 2 := ⟨big_of (List.mem_append_right _ (List.mem_append_left _ (List.mem_of_getElem? (i := 202) rfl))) rfl, big_of (List.mem_append_right _ (List.mem_append_left _ (List.mem_of_getElem? (i := 7) rfl))) rfl, by decide +kernel⟩
theorem mc_X0_become : MCd yX0_become cX0_become 4 none 3 := ⟨big_of (List.mem_append_right _ (List.mem_append_left _ (List.mem_of_getElem? (i := 206) rfl))) rfl, big_of (List.mem_append_right _ (List.mem_append_left _ (List.mem_of_getElem? (i := 6) rfl))) rfl, by decide +kernel⟩
theorem mc_X5_begins : MCd yX5_begins cX5_begins 5 (some .int) 3 := ⟨big_of (List.mem_append_right _ (List.mem_append_right _ (List.mem_append_left _ (List.mem_of_getElem? (i := 10) rfl)))) rfl, big_of (List.mem_append_right _ (List.mem_append_left _ (List.mem_of_getElem? (i := 1) rfl))) rfl, by decide +kernel⟩
theorem mc_X5_isWithin : MCd yX5_isWithin cX5_isWithin 3 (some .boolean) 3 := ⟨big_of (List.mem_append_right _ (List.mem_append_right _ (List.mem_append_left _ (List.mem_of_getElem? (i := 13) rfl)))) rfl, big_of (List.mem_append_right _ (List.mem_append_left _ (List.mem_of_getElem? (i := 1) rfl))) rfl, by decide +kernel⟩
theorem mc_X5_isWrap : MCd yX5_isWrap cX5_isWrap 1 (some .boolean) 1 := ⟨big_of (List.mem_append_right _ (List.mem_append_right _ (List.mem_append_left _ (List.mem_of_getElem? (i := 16) rfl)))) rfl, big_of (List.mem_append_right _ (List.mem_append_left _ (List.mem_of_getElem? (i := 1) rfl))) rfl, by decide +kernel⟩
theorem mc_X5_remember : MCd yX5_remember cX5_remember 1 none 0 := ⟨big_of (List.mem_append_right _ (List.mem_append_right _ (List.mem_append_left _ (List.mem_of_getElem? (i := 20) rfl)))) rfl, big_of (List.mem_append_right _ (List.mem_append_left _ (List.mem_of_getElem? (i := 1) rfl))) rfl, by decide +kernel⟩
theorem mc_X4_copyFrom : MCd yX4_copyFrom cX4_copyFrom 3 none 1 := ⟨big_of (List.mem_append_right _ (List.mem_append_right _ (List.mem_append_left _ (List.mem_of_getElem? (i := 24) rfl)))) rfl, big_of (List.mem_append_right _ (List.mem_append_left _ (List.mem_of_getElem? (i := 2) rfl))) rfl, by decide +kernel⟩
theorem mc_X2_copyFrom : MCd yX2_copyFrom cX2_copyFrom 2 none 1 := ⟨big_of (List.mem_append_right _ (List.mem_append_right _ (List.mem_append_left _ (List.mem_of_getElem? (i := 28) rfl)))) rfl, big_of (List.mem_append_right _ (List.mem_append_left _ (List.mem_of_getElem? (i := 3) rfl))) rfl, by decide +kernel⟩
theorem mc_X5_copyAll : MCd yX5_copyAll cX5_copyAll 2 none 2 := ⟨big_of (List.mem_append_right _ (List.mem_append_right _ (List.mem_append_left _ (List.mem_of_getElem? (i := 31) rfl)))) rfl, big_of (List.mem_append_right _ (List.mem_append_left _ (List.mem_of_getElem? (i := 1) rfl))) rfl, by decide +kernel⟩
theorem mc_J9_min_7cf53 : MCd yJ9_min_7cf53 cJ9_min_7cf53 2 (some .int) 2 := ⟨big_of (List.mem_append_right _ (List.mem_append_right _ (List.mem_append_left _ (List.mem_of_getElem? (i := 34) rfl)))) rfl, big_of (List.mem_append_right _ (List.mem_append_left _ (List.mem_of_getElem? (i := 9) rfl))) rfl, by decide +kernel⟩
theorem mc_X0_copyFrom : MCd yX0_copyFrom cX0_copyFrom 2 none 1 := ⟨big_of (List.mem_append_right _ (List.mem_append_right _ (List.mem_append_left _ (List.mem_of_getElem? (i := 41) rfl)))) rfl, big_of (List.mem_append_right _ (List.mem_append_left _ (List.mem_of_getElem? (i := 6) rfl))) rfl, by decide +kernel⟩
theorem mc_X1_copyFrom : MCd yX1_copyFrom cX1_copyFrom 2 none 1 := ⟨big_of (List.mem_append_right _ (List.mem_append_right _ (List.mem_append_left _ (List.mem_of_getElem? (i := 47) rfl)))) rfl, big_of (List.mem_append_right _ (List.mem_append_left _ (List.mem_of_getElem? (i := 4) rfl))) rfl, by decide +kernel⟩
theorem mc_X3_copyFrom : MCd yX3_copyFrom cX3_copyFrom 2 none 1 := ⟨big_of (List.mem_append_right _ (List.mem_append_right _ (List.mem_append_left _ (List.mem_of_getElem? (i := 52) rfl)))) rfl, big_of (List.mem_append_right _ (List.mem_append_left _ (List.mem_of_getElem? (i := 5) rfl))) rfl, by decide +kernel⟩
theorem mc_X5_scans : MCd yX5_scans cX5_scans 2 (some .int) 1 := ⟨big_of (List.mem_append_right _ (List.mem_append_right _ (List.mem_append_left _ (List.mem_of_getElem? (i := 57) rfl)))) rfl, big_of (List.mem_append_right _ (List.mem_append_left _ (List.mem_of_getElem? (i := 1) rfl))) rfl, by decide +kernel⟩
theorem mc_X4_has : MCd yX4_has cX4_has 2 (some .boolean) 1 := ⟨big_of (List.mem_append_right _ (List.mem_append_right _ (List.mem_append_left _ (List.mem_of_getElem? (i := 61) rfl)))) rfl, big_of (List.mem_append_right _ (List.mem_append_left _ (List.mem_of_getElem? (i := 2) rfl))) rfl, by decide +kernel⟩
theorem mc_X5_beginAct : MCd yX5_beginAct cX5_beginAct 4 (some .int) 3 := ⟨big_of (List.mem_append_right _ (List.mem_append_right _ (List.mem_append_left _ (List.mem_of_getElem? (i := 65) rfl)))) rfl, big_of (List.mem_append_right _ (List.mem_append_left _ (List.mem_of_getElem? (i := 1) rfl))) rfl, by decide +kernel⟩
theorem mc_X4_isIdle : MCd yX4_isIdle cX4_isIdle 2 (some .boolean) 1 := ⟨big_of (List.mem_append_right _ (List.mem_append_right _ (List.mem_append_left _ (List.mem_of_getElem? (i := 69) rfl)))) rfl, big_of (List.mem_append_right _ (List.mem_append_left _ (List.mem_of_getElem? (i := 2) rfl))) rfl, by decide +kernel⟩
theorem mc_X4_beginAct : MCd yX4_beginAct cX4_beginAct 4 none 3 := ⟨big_of (List.mem_append_right _ (List.mem_append_right _ (List.mem_append_left _ (List.mem_of_getElem? (i := 73) rfl)))) rfl, big_of (List.mem_append_right _ (List.mem_append_left _ (List.mem_of_getElem? (i := 2) rfl))) rfl, by decide +kernel⟩
theorem mc_X5_writes : MCd yX5_writes cX5_writes 3 (some .int) 2 := ⟨big_of (List.mem_append_right _ (List.mem_append_right _ (List.mem_append_left _ (List.mem_of_getElem? (i := 77) rfl)))) rfl, big_of (List.mem_append_right _ (List.mem_append_left _ (List.mem_of_getElem? (i := 1) rfl))) rfl, by decide +kernel⟩
theorem mc_X5_steps : MCd yX5_steps cX5_steps 3 (some .int) 2 := ⟨big_of (List.mem_append_right _ (List.mem_append_right _ (List.mem_append_left _ (List.mem_of_getElem? (i := 81) rfl)))) rfl, big_of (List.mem_append_right _ (List.mem_append_left _ (List.mem_of_getElem? (i := 1) rfl))) rfl, by decide +kernel⟩
theorem mc_X4_stepUpTo : MCd yX4_stepUpTo cX4_stepUpTo 4 (some .int) 2 := ⟨big_of (List.mem_append_right _ (List.mem_append_right _ (List.mem_append_left _ (List.mem_of_getElem? (i := 85) rfl)))) rfl, big_of (List.mem_append_right _ (List.mem_append_left _ (List.mem_of_getElem? (i := 2) rfl))) rfl, by decide +kernel⟩
theorem mc_X4_stepOnce : MCd yX4_stepOnce cX4_stepOnce 3 none 1 := ⟨big_of (List.mem_append_right _ (List.mem_append_right _ (List.mem_append_left _ (List.mem_of_getElem? (i := 90) rfl)))) rfl, big_of (List.mem_append_right _ (List.mem_append_left _ (List.mem_of_getElem? (i := 2) rfl))) rfl, by decide +kernel⟩
theorem mc_X4_writeOut : MCd yX4_writeOut cX4_writeOut 3 none 2 := ⟨big_of (List.mem_append_right _ (List.mem_append_right _ (List.mem_append_left _ (List.mem_of_getElem? (i := 94) rfl)))) rfl, big_of (List.mem_append_right _ (List.mem_append_left _ (List.mem_of_getElem? (i := 2) rfl))) rfl, by decide +kernel⟩
theorem mc_X4_versionBehind : MCd yX4_versionBehind cX4_versionBehind 2 (some .int) 1 := ⟨big_of (List.mem_append_right _ (List.mem_append_right _ (List.mem_append_left _ (List.mem_of_getElem? (i := 98) rfl)))) rfl, big_of (List.mem_append_right _ (List.mem_append_left _ (List.mem_of_getElem? (i := 2) rfl))) rfl, by decide +kernel⟩
theorem mc_X3_add : MCd yX3_add cX3_add 4 none 3 := ⟨big_of (List.mem_append_right _ (List.mem_append_right _ (List.mem_append_left _ (List.mem_of_getElem? (i := 103) rfl)))) rfl, big_of (List.mem_append_right _ (List.mem_append_left _ (List.mem_of_getElem? (i := 5) rfl))) rfl, by decide +kernel⟩
theorem mc_X0_readOne : MCd yX0_readOne cX0_readOne 2 none 1 := ⟨big_of (List.mem_append_right _ (List.mem_append_right _ (List.mem_append_left _ (List.mem_of_getElem? (i := 107) rfl)))) rfl, big_of (List.mem_append_right _ (List.mem_append_left _ (List.mem_of_getElem? (i := 6) rfl))) rfl, by decide +kernel⟩
theorem mc_X2_copyOne : MCd yX2_copyOne cX2_copyOne 3 none 2 := ⟨big_of (List.mem_append_right _ (List.mem_append_right _ (List.mem_append_left _ (List.mem_of_getElem? (i := 111) rfl)))) rfl, big_of (List.mem_append_right _ (List.mem_append_left _ (List.mem_of_getElem? (i := 3) rfl))) rfl, by decide +kernel⟩
theorem mc_X0_endCollect : MCd yX0_endCollect cX0_endCollect 5 none 2 := ⟨big_of (List.mem_append_right _ (List.mem_append_right _ (List.mem_append_left _ (List.mem_of_getElem? (i := 116) rfl)))) rfl, big_of (List.mem_append_right _ (List.mem_append_left _ (List.mem_of_getElem? (i := 6) rfl))) rfl, by decide +kernel⟩
theorem mc_X0_countMoves : MCd yX0_countMoves cX0_countMoves 4 (some .boolean) 1 := ⟨big_of (List.mem_append_right _ (List.mem_append_right _ (List.mem_append_left _ (List.mem_of_getElem? (i := 120) rfl)))) rfl, big_of (List.mem_append_right _ (List.mem_append_left _ (List.mem_of_getElem? (i := 6) rfl))) rfl, by decide +kernel⟩
theorem mc_X0_lowestMoved : MCd yX0_lowestMoved cX0_lowestMoved 4 (some .int) 2 := ⟨big_of (List.mem_append_right _ (List.mem_append_right _ (List.mem_append_left _ (List.mem_of_getElem? (i := 124) rfl)))) rfl, big_of (List.mem_append_right _ (List.mem_append_left _ (List.mem_of_getElem? (i := 6) rfl))) rfl, by decide +kernel⟩
theorem mc_X0_takePhoto : MCd yX0_takePhoto cX0_takePhoto 4 none 3 := ⟨big_of (List.mem_append_right _ (List.mem_append_right _ (List.mem_append_left _ (List.mem_of_getElem? (i := 128) rfl)))) rfl, big_of (List.mem_append_right _ (List.mem_append_left _ (List.mem_of_getElem? (i := 6) rfl))) rfl, by decide +kernel⟩
theorem mc_X3_momentOf : MCd yX3_momentOf cX3_momentOf 4 (some .int) 2 := ⟨big_of (List.mem_append_right _ (List.mem_append_right _ (List.mem_append_left _ (List.mem_of_getElem? (i := 133) rfl)))) rfl, big_of (List.mem_append_right _ (List.mem_append_left _ (List.mem_of_getElem? (i := 5) rfl))) rfl, by decide +kernel⟩
theorem mc_X3_wereAs : MCd yX3_wereAs cX3_wereAs 3 (some .boolean) 1 := ⟨big_of (List.mem_append_right _ (List.mem_append_right _ (List.mem_append_left _ (List.mem_of_getElem? (i := 138) rfl)))) rfl, big_of (List.mem_append_right _ (List.mem_append_left _ (List.mem_of_getElem? (i := 5) rfl))) rfl, by decide +kernel⟩
theorem mc_X1_add : MCd yX1_add cX1_add 6 none 4 := ⟨big_of (List.mem_append_right _ (List.mem_append_right _ (List.mem_append_left _ (List.mem_of_getElem? (i := 142) rfl)))) rfl, big_of (List.mem_append_right _ (List.mem_append_left _ (List.mem_of_getElem? (i := 4) rfl))) rfl, by decide +kernel⟩
theorem mc_X5_undo : MCd yX5_undo cX5_undo 1 (some .int) 0 := ⟨big_of (List.mem_append_right _ (List.mem_append_right _ (List.mem_append_left _ (List.mem_of_getElem? (i := 146) rfl)))) rfl, big_of (List.mem_append_right _ (List.mem_append_left _ (List.mem_of_getElem? (i := 1) rfl))) rfl, by decide +kernel⟩
theorem mc_X5_cell : MCd yX5_cell cX5_cell 3 (some .int) 2 := ⟨big_of (List.mem_append_right _ (List.mem_append_right _ (List.mem_append_left _ (List.mem_of_getElem? (i := 150) rfl)))) rfl, big_of (List.mem_append_right _ (List.mem_append_left _ (List.mem_of_getElem? (i := 1) rfl))) rfl, by decide +kernel⟩
theorem mc_X5_writer : MCd yX5_writer cX5_writer 4 (some .int) 2 := ⟨big_of (List.mem_append_right _ (List.mem_append_right _ (List.mem_append_left _ (List.mem_of_getElem? (i := 154) rfl)))) rfl, big_of (List.mem_append_right _ (List.mem_append_left _ (List.mem_of_getElem? (i := 1) rfl))) rfl, by decide +kernel⟩
theorem mc_X0_isReading : MCd yX0_isReading cX0_isReading 1 (some .boolean) 0 := ⟨big_of (List.mem_append_right _ (List.mem_append_right _ (List.mem_append_left _ (List.mem_of_getElem? (i := 158) rfl)))) rfl, big_of (List.mem_append_right _ (List.mem_append_left _ (List.mem_of_getElem? (i := 6) rfl))) rfl, by decide +kernel⟩
theorem mc_X5_read : MCd yX5_read cX5_read 5 (some .int) 3 := ⟨big_of (List.mem_append_right _ (List.mem_append_right _ (List.mem_append_left _ (List.mem_of_getElem? (i := 162) rfl)))) rfl, big_of (List.mem_append_right _ (List.mem_append_left _ (List.mem_of_getElem? (i := 1) rfl))) rfl, by decide +kernel⟩
theorem mc_X5_photo : MCd yX5_photo cX5_photo 3 (some .int) 2 := ⟨big_of (List.mem_append_right _ (List.mem_append_right _ (List.mem_append_left _ (List.mem_of_getElem? (i := 166) rfl)))) rfl, big_of (List.mem_append_right _ (List.mem_append_left _ (List.mem_of_getElem? (i := 1) rfl))) rfl, by decide +kernel⟩
theorem mc_X1_fact : MCd yX1_fact cX1_fact 3 (some .int) 2 := ⟨big_of (List.mem_append_right _ (List.mem_append_right _ (List.mem_append_left _ (List.mem_of_getElem? (i := 170) rfl)))) rfl, big_of (List.mem_append_right _ (List.mem_append_left _ (List.mem_of_getElem? (i := 4) rfl))) rfl, by decide +kernel⟩
theorem mc_X5_lone : MCd yX5_lone cX5_lone 2 (some .int) 1 := ⟨big_of (List.mem_append_right _ (List.mem_append_right _ (List.mem_append_left _ (List.mem_of_getElem? (i := 174) rfl)))) rfl, big_of (List.mem_append_right _ (List.mem_append_left _ (List.mem_of_getElem? (i := 1) rfl))) rfl, by decide +kernel⟩
theorem mc_X5_byTurns : MCd yX5_byTurns cX5_byTurns 4 (some .int) 0 := ⟨big_of (List.mem_append_right _ (List.mem_append_right _ (List.mem_append_left _ (List.mem_of_getElem? (i := 178) rfl)))) rfl, big_of (List.mem_append_right _ (List.mem_append_left _ (List.mem_of_getElem? (i := 1) rfl))) rfl, by decide +kernel⟩
theorem mc_X4_allIdle : MCd yX4_allIdle cX4_allIdle 2 (some .boolean) 0 := ⟨big_of (List.mem_append_right _ (List.mem_append_right _ (List.mem_append_left _ (List.mem_of_getElem? (i := 182) rfl)))) rfl, big_of (List.mem_append_right _ (List.mem_append_left _ (List.mem_of_getElem? (i := 2) rfl))) rfl, by decide +kernel⟩
theorem mc_X5_reads : MCd yX5_reads cX5_reads 3 (some .int) 2 := ⟨big_of (List.mem_append_right _ (List.mem_append_right _ (List.mem_append_left _ (List.mem_of_getElem? (i := 186) rfl)))) rfl, big_of (List.mem_append_right _ (List.mem_append_left _ (List.mem_of_getElem? (i := 1) rfl))) rfl, by decide +kernel⟩
theorem mc_X1_countWith : MCd yX1_countWith cX1_countWith 5 (some .int) 2 := ⟨big_of (List.mem_append_right _ (List.mem_append_right _ (List.mem_append_left _ (List.mem_of_getElem? (i := 190) rfl)))) rfl, big_of (List.mem_append_right _ (List.mem_append_left _ (List.mem_of_getElem? (i := 4) rfl))) rfl, by decide +kernel⟩
theorem mc_X1_leastReadsAbove : MCd yX1_leastReadsAbove cX1_leastReadsAbove 5 (some .int) 1 := ⟨big_of (List.mem_append_right _ (List.mem_append_right _ (List.mem_append_left _ (List.mem_of_getElem? (i := 195) rfl)))) rfl, big_of (List.mem_append_right _ (List.mem_append_left _ (List.mem_of_getElem? (i := 4) rfl))) rfl, by decide +kernel⟩
theorem mc_X1_greatestReadsBelow : MCd yX1_greatestReadsBelow cX1_greatestReadsBelow 5 (some .int) 1 := ⟨big_of (List.mem_append_right _ (List.mem_append_right _ (List.mem_append_left _ (List.mem_of_getElem? (i := 199) rfl)))) rfl, big_of (List.mem_append_right _ (List.mem_append_left _ (List.mem_of_getElem? (i := 4) rfl))) rfl, by decide +kernel⟩
theorem mc_X5_trial : MCd yX5_trial cX5_trial 4 (some .int) 3 := ⟨big_of (List.mem_append_right _ (List.mem_append_right _ (List.mem_append_left _ (List.mem_of_getElem? (i := 203) rfl)))) rfl, big_of (List.mem_append_right _ (List.mem_append_left _ (List.mem_of_getElem? (i := 1) rfl))) rfl, by decide +kernel⟩
theorem mc_X5_isPace : MCd yX5_isPace cX5_isPace 1 (some .boolean) 1 := ⟨big_of (List.mem_append_right _ (List.mem_append_right _ (List.mem_append_left _ (List.mem_of_getElem? (i := 206) rfl)))) rfl, big_of (List.mem_append_right _ (List.mem_append_left _ (List.mem_of_getElem? (i := 1) rfl))) rfl, by decide +kernel⟩
theorem mc_X5_readsOfTrial : MCd yX5_readsOfTrial cX5_readsOfTrial 8 (some .int) 3 := ⟨big_of (List.mem_append_right _ (List.mem_append_right _ (List.mem_append_left _ (List.mem_of_getElem? (i := 210) rfl)))) rfl, big_of (List.mem_append_right _ (List.mem_append_left _ (List.mem_of_getElem? (i := 1) rfl))) rfl, by decide +kernel⟩
theorem mc_X5_sees : MCd yX5_sees cX5_sees 4 (some .int) 3 := ⟨big_of (List.mem_append_right _ (List.mem_append_right _ (List.mem_append_left _ (List.mem_of_getElem? (i := 215) rfl)))) rfl, big_of (List.mem_append_right _ (List.mem_append_left _ (List.mem_of_getElem? (i := 1) rfl))) rfl, by decide +kernel⟩
theorem mc_X5_forget : MCd yX5_forget cX5_forget 2 (some .int) 0 := ⟨big_of (List.mem_append_right _ (List.mem_append_right _ (List.mem_append_left _ (List.mem_of_getElem? (i := 219) rfl)))) rfl, big_of (List.mem_append_right _ (List.mem_append_left _ (List.mem_of_getElem? (i := 1) rfl))) rfl, by decide +kernel⟩
theorem mc_X5_which : MCd yX5_which cX5_which 1 (some .int) 0 := ⟨big_of (List.mem_append_right _ (List.mem_append_right _ (List.mem_append_left _ (List.mem_of_getElem? (i := 223) rfl)))) rfl, big_of (List.mem_append_right _ (List.mem_append_left _ (List.mem_of_getElem? (i := 1) rfl))) rfl, by decide +kernel⟩
theorem mc_X5_movesThatFit : MCd yX5_movesThatFit cX5_movesThatFit 3 (some .int) 0 := ⟨big_of (List.mem_append_right _ (List.mem_append_right _ (List.mem_append_left _ (List.mem_of_getElem? (i := 227) rfl)))) rfl, big_of (List.mem_append_right _ (List.mem_append_left _ (List.mem_of_getElem? (i := 1) rfl))) rfl, by decide +kernel⟩
theorem mc_X5_fitsAllSeen : MCd yX5_fitsAllSeen cX5_fitsAllSeen 3 (some .boolean) 1 := ⟨big_of (List.mem_append_right _ (List.mem_append_right _ (List.mem_append_left _ (List.mem_of_getElem? (i := 231) rfl)))) rfl, big_of (List.mem_append_right _ (List.mem_append_left _ (List.mem_of_getElem? (i := 1) rfl))) rfl, by decide +kernel⟩
theorem mc_X5_ask : MCd yX5_ask cX5_ask 7 (some .int) 0 := ⟨big_of (List.mem_append_right _ (List.mem_append_right _ (List.mem_append_left _ (List.mem_of_getElem? (i := 235) rfl)))) rfl, big_of (List.mem_append_right _ (List.mem_append_left _ (List.mem_of_getElem? (i := 1) rfl))) rfl, by decide +kernel⟩
theorem mc_J6_bitCount_0f7a4 : MCd yJ6_bitCount_0f7a4 cJ6_bitCount_0f7a4 1 (some .int) 1 := ⟨big_of (List.mem_append_right _ (List.mem_append_right _ (List.mem_append_left _ (List.mem_of_getElem? (i := 238) rfl)))) rfl, big_of (List.mem_append_right _ (List.mem_append_left _ (List.mem_of_getElem? (i := 11) rfl))) rfl, by decide +kernel⟩
theorem mc_X5_mostAlike : MCd yX5_mostAlike cX5_mostAlike 6 (some .int) 3 := ⟨big_of (List.mem_append_right _ (List.mem_append_right _ (List.mem_append_right _ (List.mem_of_getElem? (i := 5) rfl)))) rfl, big_of (List.mem_append_right _ (List.mem_append_left _ (List.mem_of_getElem? (i := 1) rfl))) rfl, by decide +kernel⟩
theorem mc_X5_isIn : MCd yX5_isIn cX5_isIn 2 (some .boolean) 2 := ⟨big_of (List.mem_append_right _ (List.mem_append_right _ (List.mem_append_right _ (List.mem_of_getElem? (i := 8) rfl)))) rfl, big_of (List.mem_append_right _ (List.mem_append_left _ (List.mem_of_getElem? (i := 1) rfl))) rfl, by decide +kernel⟩
theorem mc_X5_countAlike : MCd yX5_countAlike cX5_countAlike 4 (some .int) 1 := ⟨big_of (List.mem_append_right _ (List.mem_append_right _ (List.mem_append_right _ (List.mem_of_getElem? (i := 12) rfl)))) rfl, big_of (List.mem_append_right _ (List.mem_append_left _ (List.mem_of_getElem? (i := 1) rfl))) rfl, by decide +kernel⟩
theorem mc_J9_max_7cf53 : MCd yJ9_max_7cf53 cJ9_max_7cf53 2 (some .int) 2 := ⟨big_of (List.mem_append_right _ (List.mem_append_right _ (List.mem_append_right _ (List.mem_of_getElem? (i := 15) rfl)))) rfl, big_of (List.mem_append_right _ (List.mem_append_left _ (List.mem_of_getElem? (i := 9) rfl))) rfl, by decide +kernel⟩
theorem mc_X5_keep : MCd yX5_keep cX5_keep 2 (some .int) 1 := ⟨big_of (List.mem_append_right _ (List.mem_append_right _ (List.mem_append_right _ (List.mem_of_getElem? (i := 19) rfl)))) rfl, big_of (List.mem_append_right _ (List.mem_append_left _ (List.mem_of_getElem? (i := 1) rfl))) rfl, by decide +kernel⟩
theorem mc_X5_back : MCd yX5_back cX5_back 2 (some .int) 1 := ⟨big_of (List.mem_append_right _ (List.mem_append_right _ (List.mem_append_right _ (List.mem_of_getElem? (i := 23) rfl)))) rfl, big_of (List.mem_append_right _ (List.mem_append_left _ (List.mem_of_getElem? (i := 1) rfl))) rfl, by decide +kernel⟩
theorem mc_X5_count : MCd yX5_count cX5_count 2 (some .int) 1 := ⟨big_of (List.mem_append_right _ (List.mem_append_right _ (List.mem_append_right _ (List.mem_of_getElem? (i := 27) rfl)))) rfl, big_of (List.mem_append_right _ (List.mem_append_left _ (List.mem_of_getElem? (i := 1) rfl))) rfl, by decide +kernel⟩
theorem mc_X4_idleBits : MCd yX4_idleBits cX4_idleBits 3 (some .int) 0 := ⟨big_of (List.mem_append_right _ (List.mem_append_right _ (List.mem_append_right _ (List.mem_of_getElem? (i := 31) rfl)))) rfl, big_of (List.mem_append_right _ (List.mem_append_left _ (List.mem_of_getElem? (i := 2) rfl))) rfl, by decide +kernel⟩
theorem mc_X6_init : MCd yX6_init cX6_init 1 none 0 := ⟨big_of (List.mem_append_right _ (List.mem_append_right _ (List.mem_append_right _ (List.mem_of_getElem? (i := 36) rfl)))) rfl, big_of (List.mem_append_right _ (List.mem_append_left _ (List.mem_of_getElem? (i := 8) rfl))) rfl, by decide +kernel⟩
theorem mc_X6_bares : MCd yX6_bares cX6_bares 5 none 4 := ⟨big_of (List.mem_append_right _ (List.mem_append_right _ (List.mem_append_right _ (List.mem_of_getElem? (i := 40) rfl)))) rfl, big_of (List.mem_append_right _ (List.mem_append_left _ (List.mem_of_getElem? (i := 8) rfl))) rfl, by decide +kernel⟩
theorem mc_X6_begins : MCd yX6_begins cX6_begins 4 (some .int) 3 := ⟨big_of (List.mem_append_right _ (List.mem_append_right _ (List.mem_append_right _ (List.mem_of_getElem? (i := 75) rfl)))) rfl, big_of (List.mem_append_right _ (List.mem_append_left _ (List.mem_of_getElem? (i := 8) rfl))) rfl, by decide +kernel⟩
theorem mc_X6_in : MCd yX6_in cX6_in 3 (some .boolean) 3 := ⟨big_of (List.mem_append_right _ (List.mem_append_right _ (List.mem_append_right _ (List.mem_of_getElem? (i := 78) rfl)))) rfl, big_of (List.mem_append_right _ (List.mem_append_left _ (List.mem_of_getElem? (i := 8) rfl))) rfl, by decide +kernel⟩
theorem mc_X6_notes : MCd yX6_notes cX6_notes 2 none 0 := ⟨big_of (List.mem_append_right _ (List.mem_append_right _ (List.mem_append_right _ (List.mem_of_getElem? (i := 82) rfl)))) rfl, big_of (List.mem_append_right _ (List.mem_append_left _ (List.mem_of_getElem? (i := 8) rfl))) rfl, by decide +kernel⟩
theorem mc_X6_scans : MCd yX6_scans cX6_scans 2 (some .int) 1 := ⟨big_of (List.mem_append_right _ (List.mem_append_right _ (List.mem_append_right _ (List.mem_of_getElem? (i := 86) rfl)))) rfl, big_of (List.mem_append_right _ (List.mem_append_left _ (List.mem_of_getElem? (i := 8) rfl))) rfl, by decide +kernel⟩
theorem mc_X6_isWriter : MCd yX6_isWriter cX6_isWriter 2 (some .boolean) 1 := ⟨big_of (List.mem_append_right _ (List.mem_append_right _ (List.mem_append_right _ (List.mem_of_getElem? (i := 90) rfl)))) rfl, big_of (List.mem_append_right _ (List.mem_append_left _ (List.mem_of_getElem? (i := 8) rfl))) rfl, by decide +kernel⟩
theorem mc_X6_begun : MCd yX6_begun cX6_begun 4 (some .int) 3 := ⟨big_of (List.mem_append_right _ (List.mem_append_right _ (List.mem_append_right _ (List.mem_of_getElem? (i := 94) rfl)))) rfl, big_of (List.mem_append_right _ (List.mem_append_left _ (List.mem_of_getElem? (i := 8) rfl))) rfl, by decide +kernel⟩
theorem mc_X6_isIdle : MCd yX6_isIdle cX6_isIdle 2 (some .boolean) 1 := ⟨big_of (List.mem_append_right _ (List.mem_append_right _ (List.mem_append_right _ (List.mem_of_getElem? (i := 98) rfl)))) rfl, big_of (List.mem_append_right _ (List.mem_append_left _ (List.mem_of_getElem? (i := 8) rfl))) rfl, by decide +kernel⟩
theorem mc_X6_writerAt : MCd yX6_writerAt cX6_writerAt 1 (some .int) 1 := ⟨big_of (List.mem_append_right _ (List.mem_append_right _ (List.mem_append_right _ (List.mem_of_getElem? (i := 101) rfl)))) rfl, big_of (List.mem_append_right _ (List.mem_append_left _ (List.mem_of_getElem? (i := 8) rfl))) rfl, by decide +kernel⟩
theorem mc_X6_acts : MCd yX6_acts cX6_acts 5 none 4 := ⟨big_of (List.mem_append_right _ (List.mem_append_right _ (List.mem_append_right _ (List.mem_of_getElem? (i := 104) rfl)))) rfl, big_of (List.mem_append_right _ (List.mem_append_left _ (List.mem_of_getElem? (i := 8) rfl))) rfl, by decide +kernel⟩
theorem mc_X6_idles : MCd yX6_idles cX6_idles 3 none 2 := ⟨big_of (List.mem_append_right _ (List.mem_append_right _ (List.mem_append_right _ (List.mem_of_getElem? (i := 107) rfl)))) rfl, big_of (List.mem_append_right _ (List.mem_append_left _ (List.mem_of_getElem? (i := 8) rfl))) rfl, by decide +kernel⟩
theorem mc_X6_writes : MCd yX6_writes cX6_writes 3 (some .int) 2 := ⟨big_of (List.mem_append_right _ (List.mem_append_right _ (List.mem_append_right _ (List.mem_of_getElem? (i := 111) rfl)))) rfl, big_of (List.mem_append_right _ (List.mem_append_left _ (List.mem_of_getElem? (i := 8) rfl))) rfl, by decide +kernel⟩
theorem mc_X6_steps : MCd yX6_steps cX6_steps 4 (some .int) 2 := ⟨big_of (List.mem_append_right _ (List.mem_append_right _ (List.mem_append_right _ (List.mem_of_getElem? (i := 115) rfl)))) rfl, big_of (List.mem_append_right _ (List.mem_append_left _ (List.mem_of_getElem? (i := 8) rfl))) rfl, by decide +kernel⟩
theorem mc_X6_step : MCd yX6_step cX6_step 6 none 2 := ⟨big_of (List.mem_append_right _ (List.mem_append_right _ (List.mem_append_right _ (List.mem_of_getElem? (i := 118) rfl)))) rfl, big_of (List.mem_append_right _ (List.mem_append_left _ (List.mem_of_getElem? (i := 8) rfl))) rfl, by decide +kernel⟩
theorem mc_X6_writesNow : MCd yX6_writesNow cX6_writesNow 5 none 2 := ⟨big_of (List.mem_append_right _ (List.mem_append_right _ (List.mem_append_right _ (List.mem_of_getElem? (i := 121) rfl)))) rfl, big_of (List.mem_append_right _ (List.mem_append_left _ (List.mem_of_getElem? (i := 8) rfl))) rfl, by decide +kernel⟩
theorem mc_X6_cellAt : MCd yX6_cellAt cX6_cellAt 1 (some .int) 1 := ⟨big_of (List.mem_append_right _ (List.mem_append_right _ (List.mem_append_right _ (List.mem_of_getElem? (i := 124) rfl)))) rfl, big_of (List.mem_append_right _ (List.mem_append_left _ (List.mem_of_getElem? (i := 8) rfl))) rfl, by decide +kernel⟩
theorem mc_X6_counts : MCd yX6_counts cX6_counts 6 (some .boolean) 2 := ⟨big_of (List.mem_append_right _ (List.mem_append_right _ (List.mem_append_right _ (List.mem_of_getElem? (i := 127) rfl)))) rfl, big_of (List.mem_append_right _ (List.mem_append_left _ (List.mem_of_getElem? (i := 8) rfl))) rfl, by decide +kernel⟩
theorem mc_X6_lender : MCd yX6_lender cX6_lender 4 (some .int) 2 := ⟨big_of (List.mem_append_right _ (List.mem_append_right _ (List.mem_append_right _ (List.mem_of_getElem? (i := 130) rfl)))) rfl, big_of (List.mem_append_right _ (List.mem_append_left _ (List.mem_of_getElem? (i := 8) rfl))) rfl, by decide +kernel⟩
theorem mc_X6_takes : MCd yX6_takes cX6_takes 6 none 3 := ⟨big_of (List.mem_append_right _ (List.mem_append_right _ (List.mem_append_right _ (List.mem_of_getElem? (i := 133) rfl)))) rfl, big_of (List.mem_append_right _ (List.mem_append_left _ (List.mem_of_getElem? (i := 8) rfl))) rfl, by decide +kernel⟩
theorem mc_X6_undo : MCd yX6_undo cX6_undo 2 (some .int) 0 := ⟨big_of (List.mem_append_right _ (List.mem_append_right _ (List.mem_append_right _ (List.mem_of_getElem? (i := 137) rfl)))) rfl, big_of (List.mem_append_right _ (List.mem_append_left _ (List.mem_of_getElem? (i := 8) rfl))) rfl, by decide +kernel⟩
theorem mc_X6_cell : MCd yX6_cell cX6_cell 3 (some .int) 2 := ⟨big_of (List.mem_append_right _ (List.mem_append_right _ (List.mem_append_right _ (List.mem_of_getElem? (i := 141) rfl)))) rfl, big_of (List.mem_append_right _ (List.mem_append_left _ (List.mem_of_getElem? (i := 8) rfl))) rfl, by decide +kernel⟩
theorem mc_X6_isCell : MCd yX6_isCell cX6_isCell 2 (some .boolean) 1 := ⟨big_of (List.mem_append_right _ (List.mem_append_right _ (List.mem_append_right _ (List.mem_of_getElem? (i := 145) rfl)))) rfl, big_of (List.mem_append_right _ (List.mem_append_left _ (List.mem_of_getElem? (i := 8) rfl))) rfl, by decide +kernel⟩
theorem mc_X6_writer : MCd yX6_writer cX6_writer 5 (some .int) 2 := ⟨big_of (List.mem_append_right _ (List.mem_append_right _ (List.mem_append_right _ (List.mem_of_getElem? (i := 149) rfl)))) rfl, big_of (List.mem_append_right _ (List.mem_append_left _ (List.mem_of_getElem? (i := 8) rfl))) rfl, by decide +kernel⟩
theorem mc_X6_read : MCd yX6_read cX6_read 6 (some .int) 3 := ⟨big_of (List.mem_append_right _ (List.mem_append_right _ (List.mem_append_right _ (List.mem_of_getElem? (i := 153) rfl)))) rfl, big_of (List.mem_append_right _ (List.mem_append_left _ (List.mem_of_getElem? (i := 8) rfl))) rfl, by decide +kernel⟩
theorem mc_X6_photo : MCd yX6_photo cX6_photo 3 (some .int) 2 := ⟨big_of (List.mem_append_right _ (List.mem_append_right _ (List.mem_append_right _ (List.mem_of_getElem? (i := 157) rfl)))) rfl, big_of (List.mem_append_right _ (List.mem_append_left _ (List.mem_of_getElem? (i := 8) rfl))) rfl, by decide +kernel⟩
theorem mc_X6_momentOf : MCd yX6_momentOf cX6_momentOf 6 (some .int) 1 := ⟨big_of (List.mem_append_right _ (List.mem_append_right _ (List.mem_append_right _ (List.mem_of_getElem? (i := 161) rfl)))) rfl, big_of (List.mem_append_right _ (List.mem_append_left _ (List.mem_of_getElem? (i := 8) rfl))) rfl, by decide +kernel⟩
theorem mc_X6_valueAt : MCd yX6_valueAt cX6_valueAt 6 (some .int) 2 := ⟨big_of (List.mem_append_right _ (List.mem_append_right _ (List.mem_append_right _ (List.mem_of_getElem? (i := 165) rfl)))) rfl, big_of (List.mem_append_right _ (List.mem_append_left _ (List.mem_of_getElem? (i := 8) rfl))) rfl, by decide +kernel⟩
theorem mc_X6_lone : MCd yX6_lone cX6_lone 3 (some .int) 1 := ⟨big_of (List.mem_append_right _ (List.mem_append_right _ (List.mem_append_right _ (List.mem_of_getElem? (i := 169) rfl)))) rfl, big_of (List.mem_append_right _ (List.mem_append_left _ (List.mem_of_getElem? (i := 8) rfl))) rfl, by decide +kernel⟩
theorem mc_X6_asNow : MCd yX6_asNow cX6_asNow 2 none 0 := ⟨big_of (List.mem_append_right _ (List.mem_append_right _ (List.mem_append_right _ (List.mem_of_getElem? (i := 173) rfl)))) rfl, big_of (List.mem_append_right _ (List.mem_append_left _ (List.mem_of_getElem? (i := 8) rfl))) rfl, by decide +kernel⟩
theorem mc_X6_byTurns : MCd yX6_byTurns cX6_byTurns 4 (some .int) 0 := ⟨big_of (List.mem_append_right _ (List.mem_append_right _ (List.mem_append_right _ (List.mem_of_getElem? (i := 177) rfl)))) rfl, big_of (List.mem_append_right _ (List.mem_append_left _ (List.mem_of_getElem? (i := 8) rfl))) rfl, by decide +kernel⟩
theorem mc_X6_reads : MCd yX6_reads cX6_reads 8 (some .int) 2 := ⟨big_of (List.mem_append_right _ (List.mem_append_right _ (List.mem_append_right _ (List.mem_of_getElem? (i := 181) rfl)))) rfl, big_of (List.mem_append_right _ (List.mem_append_left _ (List.mem_of_getElem? (i := 8) rfl))) rfl, by decide +kernel⟩
theorem mc_X6_trial : MCd yX6_trial cX6_trial 4 (some .int) 3 := ⟨big_of (List.mem_append_right _ (List.mem_append_right _ (List.mem_append_right _ (List.mem_of_getElem? (i := 185) rfl)))) rfl, big_of (List.mem_append_right _ (List.mem_append_left _ (List.mem_of_getElem? (i := 8) rfl))) rfl, by decide +kernel⟩
theorem mc_X6_isTrial : MCd yX6_isTrial cX6_isTrial 2 (some .boolean) 2 := ⟨big_of (List.mem_append_right _ (List.mem_append_right _ (List.mem_append_right _ (List.mem_of_getElem? (i := 188) rfl)))) rfl, big_of (List.mem_append_right _ (List.mem_append_left _ (List.mem_of_getElem? (i := 8) rfl))) rfl, by decide +kernel⟩
theorem mc_X6_trialOf : MCd yX6_trialOf cX6_trialOf 7 (some .int) 3 := ⟨big_of (List.mem_append_right _ (List.mem_append_right _ (List.mem_append_right _ (List.mem_of_getElem? (i := 192) rfl)))) rfl, big_of (List.mem_append_right _ (List.mem_append_left _ (List.mem_of_getElem? (i := 8) rfl))) rfl, by decide +kernel⟩
theorem mc_X6_sees : MCd yX6_sees cX6_sees 4 (some .int) 3 := ⟨big_of (List.mem_append_right _ (List.mem_append_right _ (List.mem_append_right _ (List.mem_of_getElem? (i := 196) rfl)))) rfl, big_of (List.mem_append_right _ (List.mem_append_left _ (List.mem_of_getElem? (i := 8) rfl))) rfl, by decide +kernel⟩
theorem mc_X6_forget : MCd yX6_forget cX6_forget 2 (some .int) 0 := ⟨big_of (List.mem_append_right _ (List.mem_append_right _ (List.mem_append_right _ (List.mem_of_getElem? (i := 200) rfl)))) rfl, big_of (List.mem_append_right _ (List.mem_append_left _ (List.mem_of_getElem? (i := 8) rfl))) rfl, by decide +kernel⟩
theorem mc_X6_which : MCd yX6_which cX6_which 1 (some .int) 0 := ⟨big_of (List.mem_append_right _ (List.mem_append_right _ (List.mem_append_right _ (List.mem_of_getElem? (i := 204) rfl)))) rfl, big_of (List.mem_append_right _ (List.mem_append_left _ (List.mem_of_getElem? (i := 8) rfl))) rfl, by decide +kernel⟩
theorem mc_X6_movesSet : MCd yX6_movesSet cX6_movesSet 5 (some .int) 0 := ⟨big_of (List.mem_append_right _ (List.mem_append_right _ (List.mem_append_right _ (List.mem_of_getElem? (i := 208) rfl)))) rfl, big_of (List.mem_append_right _ (List.mem_append_left _ (List.mem_of_getElem? (i := 8) rfl))) rfl, by decide +kernel⟩
theorem mc_X6_ask : MCd yX6_ask cX6_ask 7 (some .int) 0 := ⟨big_of (List.mem_append_right _ (List.mem_append_right _ (List.mem_append_right _ (List.mem_of_getElem? (i := 212) rfl)))) rfl, big_of (List.mem_append_right _ (List.mem_append_left _ (List.mem_of_getElem? (i := 8) rfl))) rfl, by decide +kernel⟩
theorem mc_X6_mostAlike : MCd yX6_mostAlike cX6_mostAlike 8 (some .int) 3 := ⟨big_of (List.mem_append_right _ (List.mem_append_right _ (List.mem_append_right _ (List.mem_of_getElem? (i := 216) rfl)))) rfl, big_of (List.mem_append_right _ (List.mem_append_left _ (List.mem_of_getElem? (i := 8) rfl))) rfl, by decide +kernel⟩
theorem mc_X6_keep : MCd yX6_keep cX6_keep 3 (some .int) 1 := ⟨big_of (List.mem_append_right _ (List.mem_append_right _ (List.mem_append_right _ (List.mem_of_getElem? (i := 220) rfl)))) rfl, big_of (List.mem_append_right _ (List.mem_append_left _ (List.mem_of_getElem? (i := 8) rfl))) rfl, by decide +kernel⟩
theorem mc_X6_back : MCd yX6_back cX6_back 3 (some .int) 1 := ⟨big_of (List.mem_append_right _ (List.mem_append_right _ (List.mem_append_right _ (List.mem_of_getElem? (i := 224) rfl)))) rfl, big_of (List.mem_append_right _ (List.mem_append_left _ (List.mem_of_getElem? (i := 8) rfl))) rfl, by decide +kernel⟩
theorem mc_X6_count : MCd yX6_count cX6_count 2 (some .int) 1 := ⟨big_of (List.mem_append_right _ (List.mem_append_right _ (List.mem_append_right _ (List.mem_of_getElem? (i := 228) rfl)))) rfl, big_of (List.mem_append_right _ (List.mem_append_left _ (List.mem_of_getElem? (i := 8) rfl))) rfl, by decide +kernel⟩
theorem mc_X6_photosBy : MCd yX6_photosBy cX6_photosBy 4 (some .int) 1 := ⟨big_of (List.mem_append_right _ (List.mem_append_right _ (List.mem_append_right _ (List.mem_of_getElem? (i := 232) rfl)))) rfl, big_of (List.mem_append_right _ (List.mem_append_left _ (List.mem_of_getElem? (i := 8) rfl))) rfl, by decide +kernel⟩
theorem mc_X6_idleOnes : MCd yX6_idleOnes cX6_idleOnes 3 (some .int) 0 := ⟨big_of (List.mem_append_right _ (List.mem_append_right _ (List.mem_append_right _ (List.mem_of_getElem? (i := 236) rfl)))) rfl, big_of (List.mem_append_right _ (List.mem_append_left _ (List.mem_of_getElem? (i := 8) rfl))) rfl, by decide +kernel⟩
def VMd (y : MethodName) : Prop := Cond.instanceMethod y ∈ BIG ∧ Cond.selects y.cls y y ∈ BIG
theorem im_X5_init : Cond.instanceMethod yX5_init ∈ BIG := big_of (List.mem_append_right _ (List.mem_append_left _ (List.mem_of_getElem? (i := 15) rfl))) rfl
theorem im_X4_init : Cond.instanceMethod yX4_init ∈ BIG := big_of (List.mem_append_right _ (List.mem_append_left _ (List.mem_of_getElem? (i := 23) rfl))) rfl
theorem im_X2_init : Cond.instanceMethod yX2_init ∈ BIG := big_of (List.mem_append_right _ (List.mem_append_left _ (List.mem_of_getElem? (i := 29) rfl))) rfl
theorem im_X1_init : Cond.instanceMethod yX1_init ∈ BIG := big_of (List.mem_append_right _ (List.mem_append_left _ (List.mem_of_getElem? (i := 57) rfl))) rfl
theorem im_X3_init : Cond.instanceMethod yX3_init ∈ BIG := big_of (List.mem_append_right _ (List.mem_append_left _ (List.mem_of_getElem? (i := 72) rfl))) rfl
theorem im_X0_init : Cond.instanceMethod yX0_init ∈ BIG := big_of (List.mem_append_right _ (List.mem_append_left _ (List.mem_of_getElem? (i := 94) rfl))) rfl
theorem vm_X4_restart : VMd yX4_restart := ⟨big_of (List.mem_append_right _ (List.mem_append_left _ (List.mem_of_getElem? (i := 193) rfl))) rfl, big_of (List.mem_append_right _ (List.mem_append_left _ (List.mem_of_getElem? (i := 194) rfl))) rfl⟩
theorem vm_X2_clear : VMd yX2_clear := ⟨big_of (List.mem_append_right _ (List.mem_append_left _ (List.mem_of_getElem? (i := 197) rfl))) rfl, big_of (List.mem_append_right _ (List.mem_append_left _ (List.mem_of_getElem? (i := 198) rfl))) rfl⟩
theorem st_J7_fill_53178 : Cond.static yJ7_fill_53178 ∈ BIG := big_of (List.mem_append_right _ (List.mem_append_left _ (List.mem_of_getElem? (i := 201) rfl))) rfl
theorem vm_X0_become : VMd yX0_become := ⟨big_of (List.mem_append_right _ (List.mem_append_left _ (List.mem_of_getElem? (i := 204) rfl))) rfl, big_of (List.mem_append_right _ (List.mem_append_left _ (List.mem_of_getElem? (i := 205) rfl))) rfl⟩
theorem vm_X5_begins : VMd yX5_begins := ⟨big_of (List.mem_append_right _ (List.mem_append_right _ (List.mem_append_left _ (List.mem_of_getElem? (i := 8) rfl)))) rfl, big_of (List.mem_append_right _ (List.mem_append_right _ (List.mem_append_left _ (List.mem_of_getElem? (i := 9) rfl)))) rfl⟩
theorem st_X5_isWithin : Cond.static yX5_isWithin ∈ BIG := big_of (List.mem_append_right _ (List.mem_append_right _ (List.mem_append_left _ (List.mem_of_getElem? (i := 12) rfl)))) rfl
theorem st_X5_isWrap : Cond.static yX5_isWrap ∈ BIG := big_of (List.mem_append_right _ (List.mem_append_right _ (List.mem_append_left _ (List.mem_of_getElem? (i := 15) rfl)))) rfl
theorem vm_X5_remember : VMd yX5_remember := ⟨big_of (List.mem_append_right _ (List.mem_append_right _ (List.mem_append_left _ (List.mem_of_getElem? (i := 19) rfl)))) rfl, big_of (List.mem_append_left _ (List.mem_of_getElem? (i := 0) rfl)) rfl⟩
theorem vm_X4_copyFrom : VMd yX4_copyFrom := ⟨big_of (List.mem_append_right _ (List.mem_append_right _ (List.mem_append_left _ (List.mem_of_getElem? (i := 22) rfl)))) rfl, big_of (List.mem_append_right _ (List.mem_append_right _ (List.mem_append_left _ (List.mem_of_getElem? (i := 23) rfl)))) rfl⟩
theorem vm_X2_copyFrom : VMd yX2_copyFrom := ⟨big_of (List.mem_append_right _ (List.mem_append_right _ (List.mem_append_left _ (List.mem_of_getElem? (i := 26) rfl)))) rfl, big_of (List.mem_append_right _ (List.mem_append_right _ (List.mem_append_left _ (List.mem_of_getElem? (i := 27) rfl)))) rfl⟩
theorem st_X5_copyAll : Cond.static yX5_copyAll ∈ BIG := big_of (List.mem_append_right _ (List.mem_append_right _ (List.mem_append_left _ (List.mem_of_getElem? (i := 30) rfl)))) rfl
theorem st_J9_min_7cf53 : Cond.static yJ9_min_7cf53 ∈ BIG := big_of (List.mem_append_right _ (List.mem_append_right _ (List.mem_append_left _ (List.mem_of_getElem? (i := 33) rfl)))) rfl
theorem vm_X0_copyFrom : VMd yX0_copyFrom := ⟨big_of (List.mem_append_right _ (List.mem_append_right _ (List.mem_append_left _ (List.mem_of_getElem? (i := 39) rfl)))) rfl, big_of (List.mem_append_right _ (List.mem_append_right _ (List.mem_append_left _ (List.mem_of_getElem? (i := 40) rfl)))) rfl⟩
theorem vm_X1_copyFrom : VMd yX1_copyFrom := ⟨big_of (List.mem_append_right _ (List.mem_append_right _ (List.mem_append_left _ (List.mem_of_getElem? (i := 45) rfl)))) rfl, big_of (List.mem_append_right _ (List.mem_append_right _ (List.mem_append_left _ (List.mem_of_getElem? (i := 46) rfl)))) rfl⟩
theorem vm_X3_copyFrom : VMd yX3_copyFrom := ⟨big_of (List.mem_append_right _ (List.mem_append_right _ (List.mem_append_left _ (List.mem_of_getElem? (i := 50) rfl)))) rfl, big_of (List.mem_append_right _ (List.mem_append_right _ (List.mem_append_left _ (List.mem_of_getElem? (i := 51) rfl)))) rfl⟩
theorem vm_X5_scans : VMd yX5_scans := ⟨big_of (List.mem_append_right _ (List.mem_append_right _ (List.mem_append_left _ (List.mem_of_getElem? (i := 55) rfl)))) rfl, big_of (List.mem_append_right _ (List.mem_append_right _ (List.mem_append_left _ (List.mem_of_getElem? (i := 56) rfl)))) rfl⟩
theorem vm_X4_has : VMd yX4_has := ⟨big_of (List.mem_append_right _ (List.mem_append_right _ (List.mem_append_left _ (List.mem_of_getElem? (i := 59) rfl)))) rfl, big_of (List.mem_append_right _ (List.mem_append_right _ (List.mem_append_left _ (List.mem_of_getElem? (i := 60) rfl)))) rfl⟩
theorem vm_X5_beginAct : VMd yX5_beginAct := ⟨big_of (List.mem_append_right _ (List.mem_append_right _ (List.mem_append_left _ (List.mem_of_getElem? (i := 64) rfl)))) rfl, big_of (List.mem_append_left _ (List.mem_of_getElem? (i := 1) rfl)) rfl⟩
theorem vm_X4_isIdle : VMd yX4_isIdle := ⟨big_of (List.mem_append_right _ (List.mem_append_right _ (List.mem_append_left _ (List.mem_of_getElem? (i := 67) rfl)))) rfl, big_of (List.mem_append_right _ (List.mem_append_right _ (List.mem_append_left _ (List.mem_of_getElem? (i := 68) rfl)))) rfl⟩
theorem vm_X4_beginAct : VMd yX4_beginAct := ⟨big_of (List.mem_append_right _ (List.mem_append_right _ (List.mem_append_left _ (List.mem_of_getElem? (i := 71) rfl)))) rfl, big_of (List.mem_append_right _ (List.mem_append_right _ (List.mem_append_left _ (List.mem_of_getElem? (i := 72) rfl)))) rfl⟩
theorem vm_X5_writes : VMd yX5_writes := ⟨big_of (List.mem_append_right _ (List.mem_append_right _ (List.mem_append_left _ (List.mem_of_getElem? (i := 75) rfl)))) rfl, big_of (List.mem_append_right _ (List.mem_append_right _ (List.mem_append_left _ (List.mem_of_getElem? (i := 76) rfl)))) rfl⟩
theorem vm_X5_steps : VMd yX5_steps := ⟨big_of (List.mem_append_right _ (List.mem_append_right _ (List.mem_append_left _ (List.mem_of_getElem? (i := 79) rfl)))) rfl, big_of (List.mem_append_right _ (List.mem_append_right _ (List.mem_append_left _ (List.mem_of_getElem? (i := 80) rfl)))) rfl⟩
theorem vm_X4_stepUpTo : VMd yX4_stepUpTo := ⟨big_of (List.mem_append_right _ (List.mem_append_right _ (List.mem_append_left _ (List.mem_of_getElem? (i := 83) rfl)))) rfl, big_of (List.mem_append_right _ (List.mem_append_right _ (List.mem_append_left _ (List.mem_of_getElem? (i := 84) rfl)))) rfl⟩
theorem vm_X4_stepOnce : VMd yX4_stepOnce := ⟨big_of (List.mem_append_right _ (List.mem_append_right _ (List.mem_append_left _ (List.mem_of_getElem? (i := 88) rfl)))) rfl, big_of (List.mem_append_right _ (List.mem_append_right _ (List.mem_append_left _ (List.mem_of_getElem? (i := 89) rfl)))) rfl⟩
theorem vm_X4_writeOut : VMd yX4_writeOut := ⟨big_of (List.mem_append_right _ (List.mem_append_right _ (List.mem_append_left _ (List.mem_of_getElem? (i := 93) rfl)))) rfl, big_of (List.mem_append_left _ (List.mem_of_getElem? (i := 2) rfl)) rfl⟩
theorem vm_X4_versionBehind : VMd yX4_versionBehind := ⟨big_of (List.mem_append_right _ (List.mem_append_right _ (List.mem_append_left _ (List.mem_of_getElem? (i := 97) rfl)))) rfl, big_of (List.mem_append_left _ (List.mem_of_getElem? (i := 3) rfl)) rfl⟩
theorem vm_X3_add : VMd yX3_add := ⟨big_of (List.mem_append_right _ (List.mem_append_right _ (List.mem_append_left _ (List.mem_of_getElem? (i := 101) rfl)))) rfl, big_of (List.mem_append_right _ (List.mem_append_right _ (List.mem_append_left _ (List.mem_of_getElem? (i := 102) rfl)))) rfl⟩
theorem vm_X0_readOne : VMd yX0_readOne := ⟨big_of (List.mem_append_right _ (List.mem_append_right _ (List.mem_append_left _ (List.mem_of_getElem? (i := 105) rfl)))) rfl, big_of (List.mem_append_right _ (List.mem_append_right _ (List.mem_append_left _ (List.mem_of_getElem? (i := 106) rfl)))) rfl⟩
theorem vm_X2_copyOne : VMd yX2_copyOne := ⟨big_of (List.mem_append_right _ (List.mem_append_right _ (List.mem_append_left _ (List.mem_of_getElem? (i := 109) rfl)))) rfl, big_of (List.mem_append_right _ (List.mem_append_right _ (List.mem_append_left _ (List.mem_of_getElem? (i := 110) rfl)))) rfl⟩
theorem vm_X0_endCollect : VMd yX0_endCollect := ⟨big_of (List.mem_append_right _ (List.mem_append_right _ (List.mem_append_left _ (List.mem_of_getElem? (i := 114) rfl)))) rfl, big_of (List.mem_append_right _ (List.mem_append_right _ (List.mem_append_left _ (List.mem_of_getElem? (i := 115) rfl)))) rfl⟩
theorem vm_X0_countMoves : VMd yX0_countMoves := ⟨big_of (List.mem_append_right _ (List.mem_append_right _ (List.mem_append_left _ (List.mem_of_getElem? (i := 119) rfl)))) rfl, big_of (List.mem_append_left _ (List.mem_of_getElem? (i := 4) rfl)) rfl⟩
theorem vm_X0_lowestMoved : VMd yX0_lowestMoved := ⟨big_of (List.mem_append_right _ (List.mem_append_right _ (List.mem_append_left _ (List.mem_of_getElem? (i := 123) rfl)))) rfl, big_of (List.mem_append_left _ (List.mem_of_getElem? (i := 5) rfl)) rfl⟩
theorem vm_X0_takePhoto : VMd yX0_takePhoto := ⟨big_of (List.mem_append_right _ (List.mem_append_right _ (List.mem_append_left _ (List.mem_of_getElem? (i := 127) rfl)))) rfl, big_of (List.mem_append_left _ (List.mem_of_getElem? (i := 6) rfl)) rfl⟩
theorem vm_X3_momentOf : VMd yX3_momentOf := ⟨big_of (List.mem_append_right _ (List.mem_append_right _ (List.mem_append_left _ (List.mem_of_getElem? (i := 131) rfl)))) rfl, big_of (List.mem_append_right _ (List.mem_append_right _ (List.mem_append_left _ (List.mem_of_getElem? (i := 132) rfl)))) rfl⟩
theorem vm_X3_wereAs : VMd yX3_wereAs := ⟨big_of (List.mem_append_right _ (List.mem_append_right _ (List.mem_append_left _ (List.mem_of_getElem? (i := 137) rfl)))) rfl, big_of (List.mem_append_left _ (List.mem_of_getElem? (i := 7) rfl)) rfl⟩
theorem vm_X1_add : VMd yX1_add := ⟨big_of (List.mem_append_right _ (List.mem_append_right _ (List.mem_append_left _ (List.mem_of_getElem? (i := 140) rfl)))) rfl, big_of (List.mem_append_right _ (List.mem_append_right _ (List.mem_append_left _ (List.mem_of_getElem? (i := 141) rfl)))) rfl⟩
theorem vm_X5_undo : VMd yX5_undo := ⟨big_of (List.mem_append_right _ (List.mem_append_right _ (List.mem_append_left _ (List.mem_of_getElem? (i := 144) rfl)))) rfl, big_of (List.mem_append_right _ (List.mem_append_right _ (List.mem_append_left _ (List.mem_of_getElem? (i := 145) rfl)))) rfl⟩
theorem vm_X5_cell : VMd yX5_cell := ⟨big_of (List.mem_append_right _ (List.mem_append_right _ (List.mem_append_left _ (List.mem_of_getElem? (i := 148) rfl)))) rfl, big_of (List.mem_append_right _ (List.mem_append_right _ (List.mem_append_left _ (List.mem_of_getElem? (i := 149) rfl)))) rfl⟩
theorem vm_X5_writer : VMd yX5_writer := ⟨big_of (List.mem_append_right _ (List.mem_append_right _ (List.mem_append_left _ (List.mem_of_getElem? (i := 152) rfl)))) rfl, big_of (List.mem_append_right _ (List.mem_append_right _ (List.mem_append_left _ (List.mem_of_getElem? (i := 153) rfl)))) rfl⟩
theorem vm_X0_isReading : VMd yX0_isReading := ⟨big_of (List.mem_append_right _ (List.mem_append_right _ (List.mem_append_left _ (List.mem_of_getElem? (i := 156) rfl)))) rfl, big_of (List.mem_append_right _ (List.mem_append_right _ (List.mem_append_left _ (List.mem_of_getElem? (i := 157) rfl)))) rfl⟩
theorem vm_X5_read : VMd yX5_read := ⟨big_of (List.mem_append_right _ (List.mem_append_right _ (List.mem_append_left _ (List.mem_of_getElem? (i := 160) rfl)))) rfl, big_of (List.mem_append_right _ (List.mem_append_right _ (List.mem_append_left _ (List.mem_of_getElem? (i := 161) rfl)))) rfl⟩
theorem vm_X5_photo : VMd yX5_photo := ⟨big_of (List.mem_append_right _ (List.mem_append_right _ (List.mem_append_left _ (List.mem_of_getElem? (i := 164) rfl)))) rfl, big_of (List.mem_append_right _ (List.mem_append_right _ (List.mem_append_left _ (List.mem_of_getElem? (i := 165) rfl)))) rfl⟩
theorem vm_X1_fact : VMd yX1_fact := ⟨big_of (List.mem_append_right _ (List.mem_append_right _ (List.mem_append_left _ (List.mem_of_getElem? (i := 168) rfl)))) rfl, big_of (List.mem_append_right _ (List.mem_append_right _ (List.mem_append_left _ (List.mem_of_getElem? (i := 169) rfl)))) rfl⟩
theorem vm_X5_lone : VMd yX5_lone := ⟨big_of (List.mem_append_right _ (List.mem_append_right _ (List.mem_append_left _ (List.mem_of_getElem? (i := 172) rfl)))) rfl, big_of (List.mem_append_right _ (List.mem_append_right _ (List.mem_append_left _ (List.mem_of_getElem? (i := 173) rfl)))) rfl⟩
theorem vm_X5_byTurns : VMd yX5_byTurns := ⟨big_of (List.mem_append_right _ (List.mem_append_right _ (List.mem_append_left _ (List.mem_of_getElem? (i := 176) rfl)))) rfl, big_of (List.mem_append_right _ (List.mem_append_right _ (List.mem_append_left _ (List.mem_of_getElem? (i := 177) rfl)))) rfl⟩
theorem vm_X4_allIdle : VMd yX4_allIdle := ⟨big_of (List.mem_append_right _ (List.mem_append_right _ (List.mem_append_left _ (List.mem_of_getElem? (i := 180) rfl)))) rfl, big_of (List.mem_append_right _ (List.mem_append_right _ (List.mem_append_left _ (List.mem_of_getElem? (i := 181) rfl)))) rfl⟩
theorem vm_X5_reads : VMd yX5_reads := ⟨big_of (List.mem_append_right _ (List.mem_append_right _ (List.mem_append_left _ (List.mem_of_getElem? (i := 184) rfl)))) rfl, big_of (List.mem_append_right _ (List.mem_append_right _ (List.mem_append_left _ (List.mem_of_getElem? (i := 185) rfl)))) rfl⟩
theorem vm_X1_countWith : VMd yX1_countWith := ⟨big_of (List.mem_append_right _ (List.mem_append_right _ (List.mem_append_left _ (List.mem_of_getElem? (i := 188) rfl)))) rfl, big_of (List.mem_append_right _ (List.mem_append_right _ (List.mem_append_left _ (List.mem_of_getElem? (i := 189) rfl)))) rfl⟩
theorem vm_X1_leastReadsAbove : VMd yX1_leastReadsAbove := ⟨big_of (List.mem_append_right _ (List.mem_append_right _ (List.mem_append_left _ (List.mem_of_getElem? (i := 193) rfl)))) rfl, big_of (List.mem_append_right _ (List.mem_append_right _ (List.mem_append_left _ (List.mem_of_getElem? (i := 194) rfl)))) rfl⟩
theorem vm_X1_greatestReadsBelow : VMd yX1_greatestReadsBelow := ⟨big_of (List.mem_append_right _ (List.mem_append_right _ (List.mem_append_left _ (List.mem_of_getElem? (i := 197) rfl)))) rfl, big_of (List.mem_append_right _ (List.mem_append_right _ (List.mem_append_left _ (List.mem_of_getElem? (i := 198) rfl)))) rfl⟩
theorem vm_X5_trial : VMd yX5_trial := ⟨big_of (List.mem_append_right _ (List.mem_append_right _ (List.mem_append_left _ (List.mem_of_getElem? (i := 201) rfl)))) rfl, big_of (List.mem_append_right _ (List.mem_append_right _ (List.mem_append_left _ (List.mem_of_getElem? (i := 202) rfl)))) rfl⟩
theorem st_X5_isPace : Cond.static yX5_isPace ∈ BIG := big_of (List.mem_append_right _ (List.mem_append_right _ (List.mem_append_left _ (List.mem_of_getElem? (i := 205) rfl)))) rfl
theorem vm_X5_readsOfTrial : VMd yX5_readsOfTrial := ⟨big_of (List.mem_append_right _ (List.mem_append_right _ (List.mem_append_left _ (List.mem_of_getElem? (i := 209) rfl)))) rfl, big_of (List.mem_append_left _ (List.mem_of_getElem? (i := 8) rfl)) rfl⟩
theorem vm_X5_sees : VMd yX5_sees := ⟨big_of (List.mem_append_right _ (List.mem_append_right _ (List.mem_append_left _ (List.mem_of_getElem? (i := 213) rfl)))) rfl, big_of (List.mem_append_right _ (List.mem_append_right _ (List.mem_append_left _ (List.mem_of_getElem? (i := 214) rfl)))) rfl⟩
theorem vm_X5_forget : VMd yX5_forget := ⟨big_of (List.mem_append_right _ (List.mem_append_right _ (List.mem_append_left _ (List.mem_of_getElem? (i := 217) rfl)))) rfl, big_of (List.mem_append_right _ (List.mem_append_right _ (List.mem_append_left _ (List.mem_of_getElem? (i := 218) rfl)))) rfl⟩
theorem vm_X5_which : VMd yX5_which := ⟨big_of (List.mem_append_right _ (List.mem_append_right _ (List.mem_append_left _ (List.mem_of_getElem? (i := 221) rfl)))) rfl, big_of (List.mem_append_right _ (List.mem_append_right _ (List.mem_append_left _ (List.mem_of_getElem? (i := 222) rfl)))) rfl⟩
theorem vm_X5_movesThatFit : VMd yX5_movesThatFit := ⟨big_of (List.mem_append_right _ (List.mem_append_right _ (List.mem_append_left _ (List.mem_of_getElem? (i := 226) rfl)))) rfl, big_of (List.mem_append_left _ (List.mem_of_getElem? (i := 9) rfl)) rfl⟩
theorem vm_X5_fitsAllSeen : VMd yX5_fitsAllSeen := ⟨big_of (List.mem_append_right _ (List.mem_append_right _ (List.mem_append_left _ (List.mem_of_getElem? (i := 230) rfl)))) rfl, big_of (List.mem_append_left _ (List.mem_of_getElem? (i := 10) rfl)) rfl⟩
theorem vm_X5_ask : VMd yX5_ask := ⟨big_of (List.mem_append_right _ (List.mem_append_right _ (List.mem_append_left _ (List.mem_of_getElem? (i := 233) rfl)))) rfl, big_of (List.mem_append_right _ (List.mem_append_right _ (List.mem_append_left _ (List.mem_of_getElem? (i := 234) rfl)))) rfl⟩
theorem st_J6_bitCount_0f7a4 : Cond.static yJ6_bitCount_0f7a4 ∈ BIG := big_of (List.mem_append_right _ (List.mem_append_right _ (List.mem_append_left _ (List.mem_of_getElem? (i := 237) rfl)))) rfl
theorem vm_X5_mostAlike : VMd yX5_mostAlike := ⟨big_of (List.mem_append_right _ (List.mem_append_right _ (List.mem_append_right _ (List.mem_of_getElem? (i := 4) rfl)))) rfl, big_of (List.mem_append_left _ (List.mem_of_getElem? (i := 11) rfl)) rfl⟩
theorem st_X5_isIn : Cond.static yX5_isIn ∈ BIG := big_of (List.mem_append_right _ (List.mem_append_right _ (List.mem_append_right _ (List.mem_of_getElem? (i := 7) rfl)))) rfl
theorem vm_X5_countAlike : VMd yX5_countAlike := ⟨big_of (List.mem_append_right _ (List.mem_append_right _ (List.mem_append_right _ (List.mem_of_getElem? (i := 11) rfl)))) rfl, big_of (List.mem_append_left _ (List.mem_of_getElem? (i := 12) rfl)) rfl⟩
theorem st_J9_max_7cf53 : Cond.static yJ9_max_7cf53 ∈ BIG := big_of (List.mem_append_right _ (List.mem_append_right _ (List.mem_append_right _ (List.mem_of_getElem? (i := 14) rfl)))) rfl
theorem vm_X5_keep : VMd yX5_keep := ⟨big_of (List.mem_append_right _ (List.mem_append_right _ (List.mem_append_right _ (List.mem_of_getElem? (i := 17) rfl)))) rfl, big_of (List.mem_append_right _ (List.mem_append_right _ (List.mem_append_right _ (List.mem_of_getElem? (i := 18) rfl)))) rfl⟩
theorem vm_X5_back : VMd yX5_back := ⟨big_of (List.mem_append_right _ (List.mem_append_right _ (List.mem_append_right _ (List.mem_of_getElem? (i := 21) rfl)))) rfl, big_of (List.mem_append_right _ (List.mem_append_right _ (List.mem_append_right _ (List.mem_of_getElem? (i := 22) rfl)))) rfl⟩
theorem vm_X5_count : VMd yX5_count := ⟨big_of (List.mem_append_right _ (List.mem_append_right _ (List.mem_append_right _ (List.mem_of_getElem? (i := 25) rfl)))) rfl, big_of (List.mem_append_right _ (List.mem_append_right _ (List.mem_append_right _ (List.mem_of_getElem? (i := 26) rfl)))) rfl⟩
theorem vm_X4_idleBits : VMd yX4_idleBits := ⟨big_of (List.mem_append_right _ (List.mem_append_right _ (List.mem_append_right _ (List.mem_of_getElem? (i := 29) rfl)))) rfl, big_of (List.mem_append_right _ (List.mem_append_right _ (List.mem_append_right _ (List.mem_of_getElem? (i := 30) rfl)))) rfl⟩
theorem im_X6_init : Cond.instanceMethod yX6_init ∈ BIG := big_of (List.mem_append_right _ (List.mem_append_right _ (List.mem_append_right _ (List.mem_of_getElem? (i := 35) rfl)))) rfl
theorem st_X6_bares : Cond.static yX6_bares ∈ BIG := big_of (List.mem_append_right _ (List.mem_append_right _ (List.mem_append_right _ (List.mem_of_getElem? (i := 39) rfl)))) rfl
theorem vm_X6_begins : VMd yX6_begins := ⟨big_of (List.mem_append_right _ (List.mem_append_right _ (List.mem_append_right _ (List.mem_of_getElem? (i := 73) rfl)))) rfl, big_of (List.mem_append_right _ (List.mem_append_right _ (List.mem_append_right _ (List.mem_of_getElem? (i := 74) rfl)))) rfl⟩
theorem st_X6_in : Cond.static yX6_in ∈ BIG := big_of (List.mem_append_right _ (List.mem_append_right _ (List.mem_append_right _ (List.mem_of_getElem? (i := 77) rfl)))) rfl
theorem vm_X6_notes : VMd yX6_notes := ⟨big_of (List.mem_append_right _ (List.mem_append_right _ (List.mem_append_right _ (List.mem_of_getElem? (i := 81) rfl)))) rfl, big_of (List.mem_append_left _ (List.mem_of_getElem? (i := 13) rfl)) rfl⟩
theorem vm_X6_scans : VMd yX6_scans := ⟨big_of (List.mem_append_right _ (List.mem_append_right _ (List.mem_append_right _ (List.mem_of_getElem? (i := 84) rfl)))) rfl, big_of (List.mem_append_right _ (List.mem_append_right _ (List.mem_append_right _ (List.mem_of_getElem? (i := 85) rfl)))) rfl⟩
theorem vm_X6_isWriter : VMd yX6_isWriter := ⟨big_of (List.mem_append_right _ (List.mem_append_right _ (List.mem_append_right _ (List.mem_of_getElem? (i := 89) rfl)))) rfl, big_of (List.mem_append_left _ (List.mem_of_getElem? (i := 14) rfl)) rfl⟩
theorem vm_X6_begun : VMd yX6_begun := ⟨big_of (List.mem_append_right _ (List.mem_append_right _ (List.mem_append_right _ (List.mem_of_getElem? (i := 93) rfl)))) rfl, big_of (List.mem_append_left _ (List.mem_of_getElem? (i := 15) rfl)) rfl⟩
theorem vm_X6_isIdle : VMd yX6_isIdle := ⟨big_of (List.mem_append_right _ (List.mem_append_right _ (List.mem_append_right _ (List.mem_of_getElem? (i := 97) rfl)))) rfl, big_of (List.mem_append_left _ (List.mem_of_getElem? (i := 16) rfl)) rfl⟩
theorem st_X6_writerAt : Cond.static yX6_writerAt ∈ BIG := big_of (List.mem_append_right _ (List.mem_append_right _ (List.mem_append_right _ (List.mem_of_getElem? (i := 100) rfl)))) rfl
theorem st_X6_acts : Cond.static yX6_acts ∈ BIG := big_of (List.mem_append_right _ (List.mem_append_right _ (List.mem_append_right _ (List.mem_of_getElem? (i := 103) rfl)))) rfl
theorem st_X6_idles : Cond.static yX6_idles ∈ BIG := big_of (List.mem_append_right _ (List.mem_append_right _ (List.mem_append_right _ (List.mem_of_getElem? (i := 106) rfl)))) rfl
theorem vm_X6_writes : VMd yX6_writes := ⟨big_of (List.mem_append_right _ (List.mem_append_right _ (List.mem_append_right _ (List.mem_of_getElem? (i := 109) rfl)))) rfl, big_of (List.mem_append_right _ (List.mem_append_right _ (List.mem_append_right _ (List.mem_of_getElem? (i := 110) rfl)))) rfl⟩
theorem vm_X6_steps : VMd yX6_steps := ⟨big_of (List.mem_append_right _ (List.mem_append_right _ (List.mem_append_right _ (List.mem_of_getElem? (i := 113) rfl)))) rfl, big_of (List.mem_append_right _ (List.mem_append_right _ (List.mem_append_right _ (List.mem_of_getElem? (i := 114) rfl)))) rfl⟩
theorem st_X6_step : Cond.static yX6_step ∈ BIG := big_of (List.mem_append_right _ (List.mem_append_right _ (List.mem_append_right _ (List.mem_of_getElem? (i := 117) rfl)))) rfl
theorem st_X6_writesNow : Cond.static yX6_writesNow ∈ BIG := big_of (List.mem_append_right _ (List.mem_append_right _ (List.mem_append_right _ (List.mem_of_getElem? (i := 120) rfl)))) rfl
theorem st_X6_cellAt : Cond.static yX6_cellAt ∈ BIG := big_of (List.mem_append_right _ (List.mem_append_right _ (List.mem_append_right _ (List.mem_of_getElem? (i := 123) rfl)))) rfl
theorem st_X6_counts : Cond.static yX6_counts ∈ BIG := big_of (List.mem_append_right _ (List.mem_append_right _ (List.mem_append_right _ (List.mem_of_getElem? (i := 126) rfl)))) rfl
theorem st_X6_lender : Cond.static yX6_lender ∈ BIG := big_of (List.mem_append_right _ (List.mem_append_right _ (List.mem_append_right _ (List.mem_of_getElem? (i := 129) rfl)))) rfl
theorem st_X6_takes : Cond.static yX6_takes ∈ BIG := big_of (List.mem_append_right _ (List.mem_append_right _ (List.mem_append_right _ (List.mem_of_getElem? (i := 132) rfl)))) rfl
theorem vm_X6_undo : VMd yX6_undo := ⟨big_of (List.mem_append_right _ (List.mem_append_right _ (List.mem_append_right _ (List.mem_of_getElem? (i := 135) rfl)))) rfl, big_of (List.mem_append_right _ (List.mem_append_right _ (List.mem_append_right _ (List.mem_of_getElem? (i := 136) rfl)))) rfl⟩
theorem vm_X6_cell : VMd yX6_cell := ⟨big_of (List.mem_append_right _ (List.mem_append_right _ (List.mem_append_right _ (List.mem_of_getElem? (i := 139) rfl)))) rfl, big_of (List.mem_append_right _ (List.mem_append_right _ (List.mem_append_right _ (List.mem_of_getElem? (i := 140) rfl)))) rfl⟩
theorem vm_X6_isCell : VMd yX6_isCell := ⟨big_of (List.mem_append_right _ (List.mem_append_right _ (List.mem_append_right _ (List.mem_of_getElem? (i := 144) rfl)))) rfl, big_of (List.mem_append_left _ (List.mem_of_getElem? (i := 17) rfl)) rfl⟩
theorem vm_X6_writer : VMd yX6_writer := ⟨big_of (List.mem_append_right _ (List.mem_append_right _ (List.mem_append_right _ (List.mem_of_getElem? (i := 147) rfl)))) rfl, big_of (List.mem_append_right _ (List.mem_append_right _ (List.mem_append_right _ (List.mem_of_getElem? (i := 148) rfl)))) rfl⟩
theorem vm_X6_read : VMd yX6_read := ⟨big_of (List.mem_append_right _ (List.mem_append_right _ (List.mem_append_right _ (List.mem_of_getElem? (i := 151) rfl)))) rfl, big_of (List.mem_append_right _ (List.mem_append_right _ (List.mem_append_right _ (List.mem_of_getElem? (i := 152) rfl)))) rfl⟩
theorem vm_X6_photo : VMd yX6_photo := ⟨big_of (List.mem_append_right _ (List.mem_append_right _ (List.mem_append_right _ (List.mem_of_getElem? (i := 155) rfl)))) rfl, big_of (List.mem_append_right _ (List.mem_append_right _ (List.mem_append_right _ (List.mem_of_getElem? (i := 156) rfl)))) rfl⟩
theorem vm_X6_momentOf : VMd yX6_momentOf := ⟨big_of (List.mem_append_right _ (List.mem_append_right _ (List.mem_append_right _ (List.mem_of_getElem? (i := 160) rfl)))) rfl, big_of (List.mem_append_left _ (List.mem_of_getElem? (i := 18) rfl)) rfl⟩
theorem vm_X6_valueAt : VMd yX6_valueAt := ⟨big_of (List.mem_append_right _ (List.mem_append_right _ (List.mem_append_right _ (List.mem_of_getElem? (i := 164) rfl)))) rfl, big_of (List.mem_append_left _ (List.mem_of_getElem? (i := 19) rfl)) rfl⟩
theorem vm_X6_lone : VMd yX6_lone := ⟨big_of (List.mem_append_right _ (List.mem_append_right _ (List.mem_append_right _ (List.mem_of_getElem? (i := 167) rfl)))) rfl, big_of (List.mem_append_right _ (List.mem_append_right _ (List.mem_append_right _ (List.mem_of_getElem? (i := 168) rfl)))) rfl⟩
theorem vm_X6_asNow : VMd yX6_asNow := ⟨big_of (List.mem_append_right _ (List.mem_append_right _ (List.mem_append_right _ (List.mem_of_getElem? (i := 172) rfl)))) rfl, big_of (List.mem_append_left _ (List.mem_of_getElem? (i := 20) rfl)) rfl⟩
theorem vm_X6_byTurns : VMd yX6_byTurns := ⟨big_of (List.mem_append_right _ (List.mem_append_right _ (List.mem_append_right _ (List.mem_of_getElem? (i := 175) rfl)))) rfl, big_of (List.mem_append_right _ (List.mem_append_right _ (List.mem_append_right _ (List.mem_of_getElem? (i := 176) rfl)))) rfl⟩
theorem vm_X6_reads : VMd yX6_reads := ⟨big_of (List.mem_append_right _ (List.mem_append_right _ (List.mem_append_right _ (List.mem_of_getElem? (i := 179) rfl)))) rfl, big_of (List.mem_append_right _ (List.mem_append_right _ (List.mem_append_right _ (List.mem_of_getElem? (i := 180) rfl)))) rfl⟩
theorem vm_X6_trial : VMd yX6_trial := ⟨big_of (List.mem_append_right _ (List.mem_append_right _ (List.mem_append_right _ (List.mem_of_getElem? (i := 183) rfl)))) rfl, big_of (List.mem_append_right _ (List.mem_append_right _ (List.mem_append_right _ (List.mem_of_getElem? (i := 184) rfl)))) rfl⟩
theorem st_X6_isTrial : Cond.static yX6_isTrial ∈ BIG := big_of (List.mem_append_right _ (List.mem_append_right _ (List.mem_append_right _ (List.mem_of_getElem? (i := 187) rfl)))) rfl
theorem vm_X6_trialOf : VMd yX6_trialOf := ⟨big_of (List.mem_append_right _ (List.mem_append_right _ (List.mem_append_right _ (List.mem_of_getElem? (i := 191) rfl)))) rfl, big_of (List.mem_append_left _ (List.mem_of_getElem? (i := 21) rfl)) rfl⟩
theorem vm_X6_sees : VMd yX6_sees := ⟨big_of (List.mem_append_right _ (List.mem_append_right _ (List.mem_append_right _ (List.mem_of_getElem? (i := 194) rfl)))) rfl, big_of (List.mem_append_right _ (List.mem_append_right _ (List.mem_append_right _ (List.mem_of_getElem? (i := 195) rfl)))) rfl⟩
theorem vm_X6_forget : VMd yX6_forget := ⟨big_of (List.mem_append_right _ (List.mem_append_right _ (List.mem_append_right _ (List.mem_of_getElem? (i := 198) rfl)))) rfl, big_of (List.mem_append_right _ (List.mem_append_right _ (List.mem_append_right _ (List.mem_of_getElem? (i := 199) rfl)))) rfl⟩
theorem vm_X6_which : VMd yX6_which := ⟨big_of (List.mem_append_right _ (List.mem_append_right _ (List.mem_append_right _ (List.mem_of_getElem? (i := 202) rfl)))) rfl, big_of (List.mem_append_right _ (List.mem_append_right _ (List.mem_append_right _ (List.mem_of_getElem? (i := 203) rfl)))) rfl⟩
theorem vm_X6_movesSet : VMd yX6_movesSet := ⟨big_of (List.mem_append_right _ (List.mem_append_right _ (List.mem_append_right _ (List.mem_of_getElem? (i := 207) rfl)))) rfl, big_of (List.mem_append_left _ (List.mem_of_getElem? (i := 22) rfl)) rfl⟩
theorem vm_X6_ask : VMd yX6_ask := ⟨big_of (List.mem_append_right _ (List.mem_append_right _ (List.mem_append_right _ (List.mem_of_getElem? (i := 210) rfl)))) rfl, big_of (List.mem_append_right _ (List.mem_append_right _ (List.mem_append_right _ (List.mem_of_getElem? (i := 211) rfl)))) rfl⟩
theorem vm_X6_mostAlike : VMd yX6_mostAlike := ⟨big_of (List.mem_append_right _ (List.mem_append_right _ (List.mem_append_right _ (List.mem_of_getElem? (i := 215) rfl)))) rfl, big_of (List.mem_append_left _ (List.mem_of_getElem? (i := 23) rfl)) rfl⟩
theorem vm_X6_keep : VMd yX6_keep := ⟨big_of (List.mem_append_right _ (List.mem_append_right _ (List.mem_append_right _ (List.mem_of_getElem? (i := 218) rfl)))) rfl, big_of (List.mem_append_right _ (List.mem_append_right _ (List.mem_append_right _ (List.mem_of_getElem? (i := 219) rfl)))) rfl⟩
theorem vm_X6_back : VMd yX6_back := ⟨big_of (List.mem_append_right _ (List.mem_append_right _ (List.mem_append_right _ (List.mem_of_getElem? (i := 222) rfl)))) rfl, big_of (List.mem_append_right _ (List.mem_append_right _ (List.mem_append_right _ (List.mem_of_getElem? (i := 223) rfl)))) rfl⟩
theorem vm_X6_count : VMd yX6_count := ⟨big_of (List.mem_append_right _ (List.mem_append_right _ (List.mem_append_right _ (List.mem_of_getElem? (i := 226) rfl)))) rfl, big_of (List.mem_append_right _ (List.mem_append_right _ (List.mem_append_right _ (List.mem_of_getElem? (i := 227) rfl)))) rfl⟩
theorem vm_X6_photosBy : VMd yX6_photosBy := ⟨big_of (List.mem_append_right _ (List.mem_append_right _ (List.mem_append_right _ (List.mem_of_getElem? (i := 231) rfl)))) rfl, big_of (List.mem_append_left _ (List.mem_of_getElem? (i := 24) rfl)) rfl⟩
theorem vm_X6_idleOnes : VMd yX6_idleOnes := ⟨big_of (List.mem_append_right _ (List.mem_append_right _ (List.mem_append_right _ (List.mem_of_getElem? (i := 235) rfl)))) rfl, big_of (List.mem_append_left _ (List.mem_of_getElem? (i := 25) rfl)) rfl⟩
theorem mlL_9 : Cond.methodLink RL 9 yX5_init ∈ BIG := big_of (List.mem_append_right _ (List.mem_append_left _ (List.mem_of_getElem? (i := 14) rfl))) rfl
theorem mlX5_1 : Cond.methodLink RX5 1 objectInit ∈ BIG := big_of (List.mem_append_right _ (List.mem_append_left _ (List.mem_of_getElem? (i := 17) rfl))) rfl
theorem mlX5_9 : Cond.methodLink RX5 9 yX4_init ∈ BIG := big_of (List.mem_append_right _ (List.mem_append_left _ (List.mem_of_getElem? (i := 22) rfl))) rfl
theorem mlX4_3 : Cond.methodLink RX4 3 objectInit ∈ BIG := big_of (List.mem_append_right _ (List.mem_append_left _ (List.mem_of_getElem? (i := 25) rfl))) rfl
theorem mlX2_3 : Cond.methodLink RX2 3 objectInit ∈ BIG := big_of (List.mem_append_right _ (List.mem_append_left _ (List.mem_of_getElem? (i := 31) rfl))) rfl
theorem mlX1_3 : Cond.methodLink RX1 3 objectInit ∈ BIG := big_of (List.mem_append_right _ (List.mem_append_left _ (List.mem_of_getElem? (i := 59) rfl))) rfl
theorem mlX3_3 : Cond.methodLink RX3 3 objectInit ∈ BIG := big_of (List.mem_append_right _ (List.mem_append_left _ (List.mem_of_getElem? (i := 74) rfl))) rfl
theorem mlX0_3 : Cond.methodLink RX0 3 objectInit ∈ BIG := big_of (List.mem_append_right _ (List.mem_append_left _ (List.mem_of_getElem? (i := 96) rfl))) rfl
theorem mlX5_43 : Cond.methodLink RX5 43 yX4_restart ∈ BIG := big_of (List.mem_append_right _ (List.mem_append_left _ (List.mem_of_getElem? (i := 192) rfl))) rfl
theorem mlX4_55 : Cond.methodLink RX4 55 yX2_clear ∈ BIG := big_of (List.mem_append_right _ (List.mem_append_left _ (List.mem_of_getElem? (i := 196) rfl))) rfl
theorem mlX2_21 : Cond.methodLink RX2 21 yJ7_fill_53178 ∈ BIG := big_of (List.mem_append_right _ (List.mem_append_left _ (List.mem_of_getElem? (i := 200) rfl))) rfl
theorem mlX4_58 : Cond.methodLink RX4 58 yX0_become ∈ BIG := big_of (List.mem_append_right _ (List.mem_append_left _ (List.mem_of_getElem? (i := 203) rfl))) rfl
theorem mlX0_54 : Cond.methodLink RX0 54 yJ7_fill_53178 ∈ BIG := big_of (List.mem_append_right _ (List.mem_append_left _ (List.mem_of_getElem? (i := 207) rfl))) rfl
theorem mlX0_60 : Cond.methodLink RX0 60 yX2_clear ∈ BIG := big_of (List.mem_append_right _ (List.mem_append_left _ (List.mem_of_getElem? (i := 208) rfl))) rfl
theorem mlL_13 : Cond.methodLink RL 13 yX5_begins ∈ BIG := big_of (List.mem_append_right _ (List.mem_append_right _ (List.mem_append_left _ (List.mem_of_getElem? (i := 7) rfl)))) rfl
theorem mlX5_47 : Cond.methodLink RX5 47 yX5_isWithin ∈ BIG := big_of (List.mem_append_right _ (List.mem_append_right _ (List.mem_append_left _ (List.mem_of_getElem? (i := 11) rfl)))) rfl
theorem mlX5_51 : Cond.methodLink RX5 51 yX5_isWrap ∈ BIG := big_of (List.mem_append_right _ (List.mem_append_right _ (List.mem_append_left _ (List.mem_of_getElem? (i := 14) rfl)))) rfl
theorem mlX5_55 : Cond.methodLink RX5 55 yX5_remember ∈ BIG := big_of (List.mem_append_right _ (List.mem_append_right _ (List.mem_append_left _ (List.mem_of_getElem? (i := 17) rfl)))) rfl
theorem mlX5_82 : Cond.methodLink RX5 82 yX4_copyFrom ∈ BIG := big_of (List.mem_append_right _ (List.mem_append_right _ (List.mem_append_left _ (List.mem_of_getElem? (i := 21) rfl)))) rfl
theorem mlX4_66 : Cond.methodLink RX4 66 yX2_copyFrom ∈ BIG := big_of (List.mem_append_right _ (List.mem_append_right _ (List.mem_append_left _ (List.mem_of_getElem? (i := 25) rfl)))) rfl
theorem mlX5_193 : Cond.methodLink RX5 193 Lib.Math.min.name ∈ BIG := big_of (List.mem_append_right _ (List.mem_append_right _ (List.mem_append_left _ (List.mem_of_getElem? (i := 32) rfl)))) rfl
theorem mlX5_217 : Cond.methodLink RX5 217 arraycopyName ∈ BIG := big_of (List.mem_append_right _ (List.mem_append_right _ (List.mem_append_left _ (List.mem_of_getElem? (i := 35) rfl)))) rfl
theorem mlX4_70 : Cond.methodLink RX4 70 yX0_copyFrom ∈ BIG := big_of (List.mem_append_right _ (List.mem_append_right _ (List.mem_append_left _ (List.mem_of_getElem? (i := 38) rfl)))) rfl
theorem mlX0_67 : Cond.methodLink RX0 67 yX2_copyFrom ∈ BIG := big_of (List.mem_append_right _ (List.mem_append_right _ (List.mem_append_left _ (List.mem_of_getElem? (i := 43) rfl)))) rfl
theorem mlX4_73 : Cond.methodLink RX4 73 yX1_copyFrom ∈ BIG := big_of (List.mem_append_right _ (List.mem_append_right _ (List.mem_append_left _ (List.mem_of_getElem? (i := 44) rfl)))) rfl
theorem mlX1_19 : Cond.methodLink RX1 19 arraycopyName ∈ BIG := big_of (List.mem_append_right _ (List.mem_append_right _ (List.mem_append_left _ (List.mem_of_getElem? (i := 48) rfl)))) rfl
theorem mlX4_76 : Cond.methodLink RX4 76 yX3_copyFrom ∈ BIG := big_of (List.mem_append_right _ (List.mem_append_right _ (List.mem_append_left _ (List.mem_of_getElem? (i := 49) rfl)))) rfl
theorem mlX3_28 : Cond.methodLink RX3 28 arraycopyName ∈ BIG := big_of (List.mem_append_right _ (List.mem_append_right _ (List.mem_append_left _ (List.mem_of_getElem? (i := 53) rfl)))) rfl
theorem mlL_18 : Cond.methodLink RL 18 yX5_scans ∈ BIG := big_of (List.mem_append_right _ (List.mem_append_right _ (List.mem_append_left _ (List.mem_of_getElem? (i := 54) rfl)))) rfl
theorem mlX5_62 : Cond.methodLink RX5 62 yX4_has ∈ BIG := big_of (List.mem_append_right _ (List.mem_append_right _ (List.mem_append_left _ (List.mem_of_getElem? (i := 58) rfl)))) rfl
theorem mlX5_65 : Cond.methodLink RX5 65 yX5_beginAct ∈ BIG := big_of (List.mem_append_right _ (List.mem_append_right _ (List.mem_append_left _ (List.mem_of_getElem? (i := 62) rfl)))) rfl
theorem mlX5_69 : Cond.methodLink RX5 69 yX4_isIdle ∈ BIG := big_of (List.mem_append_right _ (List.mem_append_right _ (List.mem_append_left _ (List.mem_of_getElem? (i := 66) rfl)))) rfl
theorem mlX5_198 : Cond.methodLink RX5 198 yX4_beginAct ∈ BIG := big_of (List.mem_append_right _ (List.mem_append_right _ (List.mem_append_left _ (List.mem_of_getElem? (i := 70) rfl)))) rfl
theorem mlL_23 : Cond.methodLink RL 23 yX5_writes ∈ BIG := big_of (List.mem_append_right _ (List.mem_append_right _ (List.mem_append_left _ (List.mem_of_getElem? (i := 74) rfl)))) rfl
theorem mlL_28 : Cond.methodLink RL 28 yX5_steps ∈ BIG := big_of (List.mem_append_right _ (List.mem_append_right _ (List.mem_append_left _ (List.mem_of_getElem? (i := 78) rfl)))) rfl
theorem mlX5_72 : Cond.methodLink RX5 72 yX4_stepUpTo ∈ BIG := big_of (List.mem_append_right _ (List.mem_append_right _ (List.mem_append_left _ (List.mem_of_getElem? (i := 82) rfl)))) rfl
theorem mlX4_82 : Cond.methodLink RX4 82 yX4_isIdle ∈ BIG := big_of (List.mem_append_right _ (List.mem_append_right _ (List.mem_append_left _ (List.mem_of_getElem? (i := 86) rfl)))) rfl
theorem mlX4_86 : Cond.methodLink RX4 86 yX4_stepOnce ∈ BIG := big_of (List.mem_append_right _ (List.mem_append_right _ (List.mem_append_left _ (List.mem_of_getElem? (i := 87) rfl)))) rfl
theorem mlX4_97 : Cond.methodLink RX4 97 yX4_writeOut ∈ BIG := big_of (List.mem_append_right _ (List.mem_append_right _ (List.mem_append_left _ (List.mem_of_getElem? (i := 91) rfl)))) rfl
theorem mlX4_135 : Cond.methodLink RX4 135 yX4_versionBehind ∈ BIG := big_of (List.mem_append_right _ (List.mem_append_right _ (List.mem_append_left _ (List.mem_of_getElem? (i := 95) rfl)))) rfl
theorem mlX4_142 : Cond.methodLink RX4 142 arraycopyName ∈ BIG := big_of (List.mem_append_right _ (List.mem_append_right _ (List.mem_append_left _ (List.mem_of_getElem? (i := 99) rfl)))) rfl
theorem mlX4_148 : Cond.methodLink RX4 148 yX3_add ∈ BIG := big_of (List.mem_append_right _ (List.mem_append_right _ (List.mem_append_left _ (List.mem_of_getElem? (i := 100) rfl)))) rfl
theorem mlX4_101 : Cond.methodLink RX4 101 yX0_readOne ∈ BIG := big_of (List.mem_append_right _ (List.mem_append_right _ (List.mem_append_left _ (List.mem_of_getElem? (i := 104) rfl)))) rfl
theorem mlX0_71 : Cond.methodLink RX0 71 yX2_copyOne ∈ BIG := big_of (List.mem_append_right _ (List.mem_append_right _ (List.mem_append_left _ (List.mem_of_getElem? (i := 108) rfl)))) rfl
theorem mlX2_31 : Cond.methodLink RX2 31 arraycopyName ∈ BIG := big_of (List.mem_append_right _ (List.mem_append_right _ (List.mem_append_left _ (List.mem_of_getElem? (i := 112) rfl)))) rfl
theorem mlX4_107 : Cond.methodLink RX4 107 yX0_endCollect ∈ BIG := big_of (List.mem_append_right _ (List.mem_append_right _ (List.mem_append_left _ (List.mem_of_getElem? (i := 113) rfl)))) rfl
theorem mlX0_75 : Cond.methodLink RX0 75 yX0_countMoves ∈ BIG := big_of (List.mem_append_right _ (List.mem_append_right _ (List.mem_append_left _ (List.mem_of_getElem? (i := 117) rfl)))) rfl
theorem mlX0_79 : Cond.methodLink RX0 79 yX0_lowestMoved ∈ BIG := big_of (List.mem_append_right _ (List.mem_append_right _ (List.mem_append_left _ (List.mem_of_getElem? (i := 121) rfl)))) rfl
theorem mlX0_86 : Cond.methodLink RX0 86 yX0_takePhoto ∈ BIG := big_of (List.mem_append_right _ (List.mem_append_right _ (List.mem_append_left _ (List.mem_of_getElem? (i := 125) rfl)))) rfl
theorem mlX0_96 : Cond.methodLink RX0 96 arraycopyName ∈ BIG := big_of (List.mem_append_right _ (List.mem_append_right _ (List.mem_append_left _ (List.mem_of_getElem? (i := 129) rfl)))) rfl
theorem mlX4_118 : Cond.methodLink RX4 118 yX3_momentOf ∈ BIG := big_of (List.mem_append_right _ (List.mem_append_right _ (List.mem_append_left _ (List.mem_of_getElem? (i := 130) rfl)))) rfl
theorem mlX3_34 : Cond.methodLink RX3 34 yJ7_fill_53178 ∈ BIG := big_of (List.mem_append_right _ (List.mem_append_right _ (List.mem_append_left _ (List.mem_of_getElem? (i := 134) rfl)))) rfl
theorem mlX3_40 : Cond.methodLink RX3 40 yX3_wereAs ∈ BIG := big_of (List.mem_append_right _ (List.mem_append_right _ (List.mem_append_left _ (List.mem_of_getElem? (i := 135) rfl)))) rfl
theorem mlX4_122 : Cond.methodLink RX4 122 yX1_add ∈ BIG := big_of (List.mem_append_right _ (List.mem_append_right _ (List.mem_append_left _ (List.mem_of_getElem? (i := 139) rfl)))) rfl
theorem mlL_32 : Cond.methodLink RL 32 yX5_undo ∈ BIG := big_of (List.mem_append_right _ (List.mem_append_right _ (List.mem_append_left _ (List.mem_of_getElem? (i := 143) rfl)))) rfl
theorem mlL_37 : Cond.methodLink RL 37 yX5_cell ∈ BIG := big_of (List.mem_append_right _ (List.mem_append_right _ (List.mem_append_left _ (List.mem_of_getElem? (i := 147) rfl)))) rfl
theorem mlL_41 : Cond.methodLink RL 41 yX5_writer ∈ BIG := big_of (List.mem_append_right _ (List.mem_append_right _ (List.mem_append_left _ (List.mem_of_getElem? (i := 151) rfl)))) rfl
theorem mlX5_113 : Cond.methodLink RX5 113 yX0_isReading ∈ BIG := big_of (List.mem_append_right _ (List.mem_append_right _ (List.mem_append_left _ (List.mem_of_getElem? (i := 155) rfl)))) rfl
theorem mlL_45 : Cond.methodLink RL 45 yX5_read ∈ BIG := big_of (List.mem_append_right _ (List.mem_append_right _ (List.mem_append_left _ (List.mem_of_getElem? (i := 159) rfl)))) rfl
theorem mlL_49 : Cond.methodLink RL 49 yX5_photo ∈ BIG := big_of (List.mem_append_right _ (List.mem_append_right _ (List.mem_append_left _ (List.mem_of_getElem? (i := 163) rfl)))) rfl
theorem mlX5_141 : Cond.methodLink RX5 141 yX1_fact ∈ BIG := big_of (List.mem_append_right _ (List.mem_append_right _ (List.mem_append_left _ (List.mem_of_getElem? (i := 167) rfl)))) rfl
theorem mlL_53 : Cond.methodLink RL 53 yX5_lone ∈ BIG := big_of (List.mem_append_right _ (List.mem_append_right _ (List.mem_append_left _ (List.mem_of_getElem? (i := 171) rfl)))) rfl
theorem mlL_57 : Cond.methodLink RL 57 yX5_byTurns ∈ BIG := big_of (List.mem_append_right _ (List.mem_append_right _ (List.mem_append_left _ (List.mem_of_getElem? (i := 175) rfl)))) rfl
theorem mlX5_144 : Cond.methodLink RX5 144 yX4_allIdle ∈ BIG := big_of (List.mem_append_right _ (List.mem_append_right _ (List.mem_append_left _ (List.mem_of_getElem? (i := 179) rfl)))) rfl
theorem mlL_61 : Cond.methodLink RL 61 yX5_reads ∈ BIG := big_of (List.mem_append_right _ (List.mem_append_right _ (List.mem_append_left _ (List.mem_of_getElem? (i := 183) rfl)))) rfl
theorem mlX5_150 : Cond.methodLink RX5 150 yX1_countWith ∈ BIG := big_of (List.mem_append_right _ (List.mem_append_right _ (List.mem_append_left _ (List.mem_of_getElem? (i := 187) rfl)))) rfl
theorem mlX1_42 : Cond.methodLink RX1 42 yX1_fact ∈ BIG := big_of (List.mem_append_right _ (List.mem_append_right _ (List.mem_append_left _ (List.mem_of_getElem? (i := 191) rfl)))) rfl
theorem mlX5_153 : Cond.methodLink RX5 153 yX1_leastReadsAbove ∈ BIG := big_of (List.mem_append_right _ (List.mem_append_right _ (List.mem_append_left _ (List.mem_of_getElem? (i := 192) rfl)))) rfl
theorem mlX5_157 : Cond.methodLink RX5 157 yX1_greatestReadsBelow ∈ BIG := big_of (List.mem_append_right _ (List.mem_append_right _ (List.mem_append_left _ (List.mem_of_getElem? (i := 196) rfl)))) rfl
theorem mlL_65 : Cond.methodLink RL 65 yX5_trial ∈ BIG := big_of (List.mem_append_right _ (List.mem_append_right _ (List.mem_append_left _ (List.mem_of_getElem? (i := 200) rfl)))) rfl
theorem mlX5_160 : Cond.methodLink RX5 160 yX5_isPace ∈ BIG := big_of (List.mem_append_right _ (List.mem_append_right _ (List.mem_append_left _ (List.mem_of_getElem? (i := 204) rfl)))) rfl
theorem mlX5_163 : Cond.methodLink RX5 163 yX5_readsOfTrial ∈ BIG := big_of (List.mem_append_right _ (List.mem_append_right _ (List.mem_append_left _ (List.mem_of_getElem? (i := 207) rfl)))) rfl
theorem mlX5_200 : Cond.methodLink RX5 200 yX4_stepOnce ∈ BIG := big_of (List.mem_append_right _ (List.mem_append_right _ (List.mem_append_left _ (List.mem_of_getElem? (i := 211) rfl)))) rfl
theorem mlL_69 : Cond.methodLink RL 69 yX5_sees ∈ BIG := big_of (List.mem_append_right _ (List.mem_append_right _ (List.mem_append_left _ (List.mem_of_getElem? (i := 212) rfl)))) rfl
theorem mlL_73 : Cond.methodLink RL 73 yX5_forget ∈ BIG := big_of (List.mem_append_right _ (List.mem_append_right _ (List.mem_append_left _ (List.mem_of_getElem? (i := 216) rfl)))) rfl
theorem mlL_77 : Cond.methodLink RL 77 yX5_which ∈ BIG := big_of (List.mem_append_right _ (List.mem_append_right _ (List.mem_append_left _ (List.mem_of_getElem? (i := 220) rfl)))) rfl
theorem mlX5_166 : Cond.methodLink RX5 166 yX5_movesThatFit ∈ BIG := big_of (List.mem_append_right _ (List.mem_append_right _ (List.mem_append_left _ (List.mem_of_getElem? (i := 224) rfl)))) rfl
theorem mlX5_204 : Cond.methodLink RX5 204 yX5_fitsAllSeen ∈ BIG := big_of (List.mem_append_right _ (List.mem_append_right _ (List.mem_append_left _ (List.mem_of_getElem? (i := 228) rfl)))) rfl
theorem mlL_81 : Cond.methodLink RL 81 yX5_ask ∈ BIG := big_of (List.mem_append_right _ (List.mem_append_right _ (List.mem_append_left _ (List.mem_of_getElem? (i := 232) rfl)))) rfl
theorem mlX5_170 : Cond.methodLink RX5 170 yJ6_bitCount_0f7a4 ∈ BIG := big_of (List.mem_append_right _ (List.mem_append_right _ (List.mem_append_left _ (List.mem_of_getElem? (i := 236) rfl)))) rfl
theorem mlX5_175 : Cond.methodLink RX5 175 yX5_mostAlike ∈ BIG := big_of (List.mem_append_right _ (List.mem_append_right _ (List.mem_append_right _ (List.mem_of_getElem? (i := 2) rfl)))) rfl
theorem mlX5_207 : Cond.methodLink RX5 207 yX5_isIn ∈ BIG := big_of (List.mem_append_right _ (List.mem_append_right _ (List.mem_append_right _ (List.mem_of_getElem? (i := 6) rfl)))) rfl
theorem mlX5_211 : Cond.methodLink RX5 211 yX5_countAlike ∈ BIG := big_of (List.mem_append_right _ (List.mem_append_right _ (List.mem_append_right _ (List.mem_of_getElem? (i := 9) rfl)))) rfl
theorem mlX5_214 : Cond.methodLink RX5 214 Lib.Math.max.name ∈ BIG := big_of (List.mem_append_right _ (List.mem_append_right _ (List.mem_append_right _ (List.mem_of_getElem? (i := 13) rfl)))) rfl
theorem mlL_85 : Cond.methodLink RL 85 yX5_keep ∈ BIG := big_of (List.mem_append_right _ (List.mem_append_right _ (List.mem_append_right _ (List.mem_of_getElem? (i := 16) rfl)))) rfl
theorem mlL_89 : Cond.methodLink RL 89 yX5_back ∈ BIG := big_of (List.mem_append_right _ (List.mem_append_right _ (List.mem_append_right _ (List.mem_of_getElem? (i := 20) rfl)))) rfl
theorem mlL_93 : Cond.methodLink RL 93 yX5_count ∈ BIG := big_of (List.mem_append_right _ (List.mem_append_right _ (List.mem_append_right _ (List.mem_of_getElem? (i := 24) rfl)))) rfl
theorem mlX5_187 : Cond.methodLink RX5 187 yX4_idleBits ∈ BIG := big_of (List.mem_append_right _ (List.mem_append_right _ (List.mem_append_right _ (List.mem_of_getElem? (i := 28) rfl)))) rfl
theorem mlL_12 : Cond.methodLink RL 12 yX6_init ∈ BIG := big_of (List.mem_append_right _ (List.mem_append_right _ (List.mem_append_right _ (List.mem_of_getElem? (i := 34) rfl)))) rfl
theorem mlX6_1 : Cond.methodLink RX6 1 objectInit ∈ BIG := big_of (List.mem_append_right _ (List.mem_append_right _ (List.mem_append_right _ (List.mem_of_getElem? (i := 37) rfl)))) rfl
theorem mlX6_32 : Cond.methodLink RX6 32 yX6_bares ∈ BIG := big_of (List.mem_append_right _ (List.mem_append_right _ (List.mem_append_right _ (List.mem_of_getElem? (i := 38) rfl)))) rfl
theorem mlL_17 : Cond.methodLink RL 17 yX6_begins ∈ BIG := big_of (List.mem_append_right _ (List.mem_append_right _ (List.mem_append_right _ (List.mem_of_getElem? (i := 72) rfl)))) rfl
theorem mlX6_69 : Cond.methodLink RX6 69 yX6_in ∈ BIG := big_of (List.mem_append_right _ (List.mem_append_right _ (List.mem_append_right _ (List.mem_of_getElem? (i := 76) rfl)))) rfl
theorem mlX6_73 : Cond.methodLink RX6 73 yX6_notes ∈ BIG := big_of (List.mem_append_right _ (List.mem_append_right _ (List.mem_append_right _ (List.mem_of_getElem? (i := 79) rfl)))) rfl
theorem mlL_22 : Cond.methodLink RL 22 yX6_scans ∈ BIG := big_of (List.mem_append_right _ (List.mem_append_right _ (List.mem_append_right _ (List.mem_of_getElem? (i := 83) rfl)))) rfl
theorem mlX6_86 : Cond.methodLink RX6 86 yX6_isWriter ∈ BIG := big_of (List.mem_append_right _ (List.mem_append_right _ (List.mem_append_right _ (List.mem_of_getElem? (i := 87) rfl)))) rfl
theorem mlX6_89 : Cond.methodLink RX6 89 yX6_begun ∈ BIG := big_of (List.mem_append_right _ (List.mem_append_right _ (List.mem_append_right _ (List.mem_of_getElem? (i := 91) rfl)))) rfl
theorem mlX6_79 : Cond.methodLink RX6 79 yX6_isIdle ∈ BIG := big_of (List.mem_append_right _ (List.mem_append_right _ (List.mem_append_right _ (List.mem_of_getElem? (i := 95) rfl)))) rfl
theorem mlX6_40 : Cond.methodLink RX6 40 yX6_writerAt ∈ BIG := big_of (List.mem_append_right _ (List.mem_append_right _ (List.mem_append_right _ (List.mem_of_getElem? (i := 99) rfl)))) rfl
theorem mlX6_83 : Cond.methodLink RX6 83 yX6_acts ∈ BIG := big_of (List.mem_append_right _ (List.mem_append_right _ (List.mem_append_right _ (List.mem_of_getElem? (i := 102) rfl)))) rfl
theorem mlX6_44 : Cond.methodLink RX6 44 yX6_idles ∈ BIG := big_of (List.mem_append_right _ (List.mem_append_right _ (List.mem_append_right _ (List.mem_of_getElem? (i := 105) rfl)))) rfl
theorem mlL_27 : Cond.methodLink RL 27 yX6_writes ∈ BIG := big_of (List.mem_append_right _ (List.mem_append_right _ (List.mem_append_right _ (List.mem_of_getElem? (i := 108) rfl)))) rfl
theorem mlL_31 : Cond.methodLink RL 31 yX6_steps ∈ BIG := big_of (List.mem_append_right _ (List.mem_append_right _ (List.mem_append_right _ (List.mem_of_getElem? (i := 112) rfl)))) rfl
theorem mlX6_93 : Cond.methodLink RX6 93 yX6_step ∈ BIG := big_of (List.mem_append_right _ (List.mem_append_right _ (List.mem_append_right _ (List.mem_of_getElem? (i := 116) rfl)))) rfl
theorem mlX6_51 : Cond.methodLink RX6 51 yX6_writesNow ∈ BIG := big_of (List.mem_append_right _ (List.mem_append_right _ (List.mem_append_right _ (List.mem_of_getElem? (i := 119) rfl)))) rfl
theorem mlX6_48 : Cond.methodLink RX6 48 yX6_cellAt ∈ BIG := big_of (List.mem_append_right _ (List.mem_append_right _ (List.mem_append_right _ (List.mem_of_getElem? (i := 122) rfl)))) rfl
theorem mlX6_54 : Cond.methodLink RX6 54 yX6_counts ∈ BIG := big_of (List.mem_append_right _ (List.mem_append_right _ (List.mem_append_right _ (List.mem_of_getElem? (i := 125) rfl)))) rfl
theorem mlX6_58 : Cond.methodLink RX6 58 yX6_lender ∈ BIG := big_of (List.mem_append_right _ (List.mem_append_right _ (List.mem_append_right _ (List.mem_of_getElem? (i := 128) rfl)))) rfl
theorem mlX6_62 : Cond.methodLink RX6 62 yX6_takes ∈ BIG := big_of (List.mem_append_right _ (List.mem_append_right _ (List.mem_append_right _ (List.mem_of_getElem? (i := 131) rfl)))) rfl
theorem mlL_36 : Cond.methodLink RL 36 yX6_undo ∈ BIG := big_of (List.mem_append_right _ (List.mem_append_right _ (List.mem_append_right _ (List.mem_of_getElem? (i := 134) rfl)))) rfl
theorem mlL_40 : Cond.methodLink RL 40 yX6_cell ∈ BIG := big_of (List.mem_append_right _ (List.mem_append_right _ (List.mem_append_right _ (List.mem_of_getElem? (i := 138) rfl)))) rfl
theorem mlX6_96 : Cond.methodLink RX6 96 yX6_isCell ∈ BIG := big_of (List.mem_append_right _ (List.mem_append_right _ (List.mem_append_right _ (List.mem_of_getElem? (i := 142) rfl)))) rfl
theorem mlL_44 : Cond.methodLink RL 44 yX6_writer ∈ BIG := big_of (List.mem_append_right _ (List.mem_append_right _ (List.mem_append_right _ (List.mem_of_getElem? (i := 146) rfl)))) rfl
theorem mlL_48 : Cond.methodLink RL 48 yX6_read ∈ BIG := big_of (List.mem_append_right _ (List.mem_append_right _ (List.mem_append_right _ (List.mem_of_getElem? (i := 150) rfl)))) rfl
theorem mlL_52 : Cond.methodLink RL 52 yX6_photo ∈ BIG := big_of (List.mem_append_right _ (List.mem_append_right _ (List.mem_append_right _ (List.mem_of_getElem? (i := 154) rfl)))) rfl
theorem mlX6_103 : Cond.methodLink RX6 103 yX6_momentOf ∈ BIG := big_of (List.mem_append_right _ (List.mem_append_right _ (List.mem_append_right _ (List.mem_of_getElem? (i := 158) rfl)))) rfl
theorem mlX6_99 : Cond.methodLink RX6 99 yX6_valueAt ∈ BIG := big_of (List.mem_append_right _ (List.mem_append_right _ (List.mem_append_right _ (List.mem_of_getElem? (i := 162) rfl)))) rfl
theorem mlL_56 : Cond.methodLink RL 56 yX6_lone ∈ BIG := big_of (List.mem_append_right _ (List.mem_append_right _ (List.mem_append_right _ (List.mem_of_getElem? (i := 166) rfl)))) rfl
theorem mlX6_106 : Cond.methodLink RX6 106 yX6_asNow ∈ BIG := big_of (List.mem_append_right _ (List.mem_append_right _ (List.mem_append_right _ (List.mem_of_getElem? (i := 170) rfl)))) rfl
theorem mlL_60 : Cond.methodLink RL 60 yX6_byTurns ∈ BIG := big_of (List.mem_append_right _ (List.mem_append_right _ (List.mem_append_right _ (List.mem_of_getElem? (i := 174) rfl)))) rfl
theorem mlL_64 : Cond.methodLink RL 64 yX6_reads ∈ BIG := big_of (List.mem_append_right _ (List.mem_append_right _ (List.mem_append_right _ (List.mem_of_getElem? (i := 178) rfl)))) rfl
theorem mlL_68 : Cond.methodLink RL 68 yX6_trial ∈ BIG := big_of (List.mem_append_right _ (List.mem_append_right _ (List.mem_append_right _ (List.mem_of_getElem? (i := 182) rfl)))) rfl
theorem mlX6_109 : Cond.methodLink RX6 109 yX6_isTrial ∈ BIG := big_of (List.mem_append_right _ (List.mem_append_right _ (List.mem_append_right _ (List.mem_of_getElem? (i := 186) rfl)))) rfl
theorem mlX6_113 : Cond.methodLink RX6 113 yX6_trialOf ∈ BIG := big_of (List.mem_append_right _ (List.mem_append_right _ (List.mem_append_right _ (List.mem_of_getElem? (i := 189) rfl)))) rfl
theorem mlL_72 : Cond.methodLink RL 72 yX6_sees ∈ BIG := big_of (List.mem_append_right _ (List.mem_append_right _ (List.mem_append_right _ (List.mem_of_getElem? (i := 193) rfl)))) rfl
theorem mlL_76 : Cond.methodLink RL 76 yX6_forget ∈ BIG := big_of (List.mem_append_right _ (List.mem_append_right _ (List.mem_append_right _ (List.mem_of_getElem? (i := 197) rfl)))) rfl
theorem mlL_80 : Cond.methodLink RL 80 yX6_which ∈ BIG := big_of (List.mem_append_right _ (List.mem_append_right _ (List.mem_append_right _ (List.mem_of_getElem? (i := 201) rfl)))) rfl
theorem mlX6_116 : Cond.methodLink RX6 116 yX6_movesSet ∈ BIG := big_of (List.mem_append_right _ (List.mem_append_right _ (List.mem_append_right _ (List.mem_of_getElem? (i := 205) rfl)))) rfl
theorem mlL_84 : Cond.methodLink RL 84 yX6_ask ∈ BIG := big_of (List.mem_append_right _ (List.mem_append_right _ (List.mem_append_right _ (List.mem_of_getElem? (i := 209) rfl)))) rfl
theorem mlX6_120 : Cond.methodLink RX6 120 yX6_mostAlike ∈ BIG := big_of (List.mem_append_right _ (List.mem_append_right _ (List.mem_append_right _ (List.mem_of_getElem? (i := 213) rfl)))) rfl
theorem mlL_88 : Cond.methodLink RL 88 yX6_keep ∈ BIG := big_of (List.mem_append_right _ (List.mem_append_right _ (List.mem_append_right _ (List.mem_of_getElem? (i := 217) rfl)))) rfl
theorem mlL_92 : Cond.methodLink RL 92 yX6_back ∈ BIG := big_of (List.mem_append_right _ (List.mem_append_right _ (List.mem_append_right _ (List.mem_of_getElem? (i := 221) rfl)))) rfl
theorem mlL_96 : Cond.methodLink RL 96 yX6_count ∈ BIG := big_of (List.mem_append_right _ (List.mem_append_right _ (List.mem_append_right _ (List.mem_of_getElem? (i := 225) rfl)))) rfl
theorem mlX6_123 : Cond.methodLink RX6 123 yX6_photosBy ∈ BIG := big_of (List.mem_append_right _ (List.mem_append_right _ (List.mem_append_right _ (List.mem_of_getElem? (i := 229) rfl)))) rfl
theorem mlX6_127 : Cond.methodLink RX6 127 yX6_idleOnes ∈ BIG := big_of (List.mem_append_right _ (List.mem_append_right _ (List.mem_append_right _ (List.mem_of_getElem? (i := 233) rfl)))) rfl
theorem nlX4_11 : Cond.methodLinkNest RX4 11 yX2_init RX5 ∈ lw_tbl := List.mem_append_right _ (List.mem_append_left _ (List.mem_of_getElem? (i := 28) rfl))
theorem nlX4_26 : Cond.methodLinkNest RX4 26 yX1_init RX5 ∈ lw_tbl := List.mem_append_right _ (List.mem_append_left _ (List.mem_of_getElem? (i := 56) rfl))
theorem nlX4_33 : Cond.methodLinkNest RX4 33 yX3_init RX5 ∈ lw_tbl := List.mem_append_right _ (List.mem_append_left _ (List.mem_of_getElem? (i := 71) rfl))
theorem nlX4_38 : Cond.methodLinkNest RX4 38 yX0_init RX5 ∈ lw_tbl := List.mem_append_right _ (List.mem_append_left _ (List.mem_of_getElem? (i := 93) rfl))
theorem nlX0_23 : Cond.methodLinkNest RX0 23 yX2_init RX5 ∈ lw_tbl := List.mem_append_right _ (List.mem_append_left _ (List.mem_of_getElem? (i := 98) rfl))
theorem nlX2_27 : Cond.methodLinkNest RX2 27 yX5_copyAll RX5 ∈ lw_tbl := List.mem_append_right _ (List.mem_append_right _ (List.mem_append_left _ (List.mem_of_getElem? (i := 29) rfl)))
theorem nlX0_63 : Cond.methodLinkNest RX0 63 yX5_copyAll RX5 ∈ lw_tbl := List.mem_append_right _ (List.mem_append_right _ (List.mem_append_left _ (List.mem_of_getElem? (i := 42) rfl)))
theorem inL : Cond.initialized "LentViewsLaw" ∈ BIG := big_of (List.mem_append_right _ (List.mem_append_left _ (List.mem_of_getElem? (i := 0) rfl))) rfl
theorem inX5 : Cond.initialized "LentViews" ∈ BIG := big_of (List.mem_append_right _ (List.mem_append_left _ (List.mem_of_getElem? (i := 1) rfl))) rfl
theorem inX4 : Cond.initialized "LentViews$World" ∈ BIG := big_of (List.mem_append_right _ (List.mem_append_left _ (List.mem_of_getElem? (i := 2) rfl))) rfl
theorem inX2 : Cond.initialized "LentViews$Cells" ∈ BIG := big_of (List.mem_append_right _ (List.mem_append_left _ (List.mem_of_getElem? (i := 3) rfl))) rfl
theorem inX1 : Cond.initialized "LentViews$Album" ∈ BIG := big_of (List.mem_append_right _ (List.mem_append_left _ (List.mem_of_getElem? (i := 4) rfl))) rfl
theorem inX3 : Cond.initialized "LentViews$History" ∈ BIG := big_of (List.mem_append_right _ (List.mem_append_left _ (List.mem_of_getElem? (i := 5) rfl))) rfl
theorem inX0 : Cond.initialized "LentViews$Act" ∈ BIG := big_of (List.mem_append_right _ (List.mem_append_left _ (List.mem_of_getElem? (i := 6) rfl))) rfl
theorem inJ7 : Cond.initialized "java/util/Arrays" ∈ BIG := big_of (List.mem_append_right _ (List.mem_append_left _ (List.mem_of_getElem? (i := 7) rfl))) rfl
theorem inX6 : Cond.initialized "LentViewsModel" ∈ BIG := big_of (List.mem_append_right _ (List.mem_append_left _ (List.mem_of_getElem? (i := 8) rfl))) rfl
theorem inJ9 : Cond.initialized "java/lang/Math" ∈ BIG := big_of (List.mem_append_right _ (List.mem_append_left _ (List.mem_of_getElem? (i := 9) rfl))) rfl
theorem inJ10 : Cond.initialized "java/lang/System" ∈ BIG := big_of (List.mem_append_right _ (List.mem_append_left _ (List.mem_of_getElem? (i := 10) rfl))) rfl
theorem inJ6 : Cond.initialized "java/lang/Integer" ∈ BIG := big_of (List.mem_append_right _ (List.mem_append_left _ (List.mem_of_getElem? (i := 11) rfl))) rfl
theorem clL_7 : Cond.classLink RL 7 RX5 ∈ BIG := big_of (List.mem_append_right _ (List.mem_append_left _ (List.mem_of_getElem? (i := 12) rfl))) rfl
theorem isX5 : Cond.instantiable RX5 12 ∈ BIG := big_of (List.mem_append_right _ (List.mem_append_left _ (List.mem_of_getElem? (i := 13) rfl))) rfl
theorem clX5_7 : Cond.classLink RX5 7 RX4 ∈ BIG := big_of (List.mem_append_right _ (List.mem_append_left _ (List.mem_of_getElem? (i := 20) rfl))) rfl
theorem isX4 : Cond.instantiable RX4 9 ∈ BIG := big_of (List.mem_append_right _ (List.mem_append_left _ (List.mem_of_getElem? (i := 21) rfl))) rfl
theorem clX4_9 : Cond.classLink RX4 9 RX2 ∈ BIG := big_of (List.mem_append_right _ (List.mem_append_left _ (List.mem_of_getElem? (i := 26) rfl))) rfl
theorem isX2 : Cond.instantiable RX2 3 ∈ BIG := big_of (List.mem_append_right _ (List.mem_append_left _ (List.mem_of_getElem? (i := 27) rfl))) rfl
theorem clX4_18 : Cond.classLink RX4 18 RX0 ∈ BIG := big_of (List.mem_append_right _ (List.mem_append_left _ (List.mem_of_getElem? (i := 52) rfl))) rfl
theorem clX4_24 : Cond.classLink RX4 24 RX1 ∈ BIG := big_of (List.mem_append_right _ (List.mem_append_left _ (List.mem_of_getElem? (i := 54) rfl))) rfl
theorem isX1 : Cond.instantiable RX1 2 ∈ BIG := big_of (List.mem_append_right _ (List.mem_append_left _ (List.mem_of_getElem? (i := 55) rfl))) rfl
theorem clX4_31 : Cond.classLink RX4 31 RX3 ∈ BIG := big_of (List.mem_append_right _ (List.mem_append_left _ (List.mem_of_getElem? (i := 69) rfl))) rfl
theorem isX3 : Cond.instantiable RX3 5 ∈ BIG := big_of (List.mem_append_right _ (List.mem_append_left _ (List.mem_of_getElem? (i := 70) rfl))) rfl
theorem isX0 : Cond.instantiable RX0 12 ∈ BIG := big_of (List.mem_append_right _ (List.mem_append_left _ (List.mem_of_getElem? (i := 92) rfl))) rfl
theorem clX0_21 : Cond.classLink RX0 21 RX2 ∈ BIG := big_of (List.mem_append_right _ (List.mem_append_left _ (List.mem_of_getElem? (i := 97) rfl))) rfl
theorem coJ6_265 : Cond.constant RJ6 265 1431655765 ∈ BIG := big_of (List.mem_append_right _ (List.mem_append_right _ (List.mem_append_left _ (List.mem_of_getElem? (i := 239) rfl)))) rfl
theorem coJ6_266 : Cond.constant RJ6 266 858993459 ∈ BIG := big_of (List.mem_append_right _ (List.mem_append_right _ (List.mem_append_right _ (List.mem_of_getElem? (i := 0) rfl)))) rfl
theorem coJ6_267 : Cond.constant RJ6 267 252645135 ∈ BIG := big_of (List.mem_append_right _ (List.mem_append_right _ (List.mem_append_right _ (List.mem_of_getElem? (i := 1) rfl)))) rfl
theorem clL_10 : Cond.classLink RL 10 RX6 ∈ BIG := big_of (List.mem_append_right _ (List.mem_append_right _ (List.mem_append_right _ (List.mem_of_getElem? (i := 32) rfl)))) rfl
theorem isX6 : Cond.instantiable RX6 10 ∈ BIG := big_of (List.mem_append_right _ (List.mem_append_right _ (List.mem_append_right _ (List.mem_of_getElem? (i := 33) rfl)))) rfl
theorem ac_int : Cond.arrayClass .int ∈ BIG := big_of (List.mem_append_right _ (List.mem_append_left _ (List.mem_of_getElem? (i := 51) rfl))) rfl
theorem ac_bool : Cond.arrayClass .boolean ∈ BIG := big_of (List.mem_append_right _ (List.mem_append_right _ (List.mem_append_left _ (List.mem_of_getElem? (i := 6) rfl)))) rfl
theorem ao_Act : Cond.arrayOver (.object "LentViews$Act") ∈ lw_tbl := List.mem_append_right _ (List.mem_append_left _ (List.mem_of_getElem? (i := 53) rfl))
theorem ao_World : Cond.arrayOver (.object "LentViews$World") ∈ lw_tbl := List.mem_append_right _ (List.mem_append_left _ (List.mem_of_getElem? (i := 191) rfl))
theorem oi_1 : Cond.instanceMethod objectInit ∈ BIG := big_of (List.mem_append_right _ (List.mem_append_left _ (List.mem_of_getElem? (i := 18) rfl))) rfl
theorem oi_2 : Cond.code objectInit ⟨#[0xb1]⟩ 1 none ∈ BIG := big_of (List.mem_append_right _ (List.mem_append_left _ (List.mem_of_getElem? (i := 19) rfl))) rfl
theorem ay_1 : Cond.native arraycopyName ∈ BIG := big_of (List.mem_append_right _ (List.mem_append_right _ (List.mem_append_left _ (List.mem_of_getElem? (i := 37) rfl)))) rfl
theorem ay_2 : Cond.static arraycopyName ∈ BIG := big_of (List.mem_append_right _ (List.mem_append_right _ (List.mem_append_left _ (List.mem_of_getElem? (i := 36) rfl)))) rfl
theorem mmin_1 : Cond.static Lib.Math.min.name ∈ BIG := big_of (List.mem_append_right _ (List.mem_append_right _ (List.mem_append_left _ (List.mem_of_getElem? (i := 33) rfl)))) rfl
theorem mmin_2 : Cond.code Lib.Math.min.name Lib.Math.min.code 2 (some .int) ∈ BIG := big_of (List.mem_append_right _ (List.mem_append_right _ (List.mem_append_left _ (List.mem_of_getElem? (i := 34) rfl)))) rfl
theorem mmax_1 : Cond.static Lib.Math.max.name ∈ BIG := big_of (List.mem_append_right _ (List.mem_append_right _ (List.mem_append_right _ (List.mem_of_getElem? (i := 14) rfl)))) rfl
theorem mmax_2 : Cond.code Lib.Math.max.name Lib.Math.max.code 2 (some .int) ∈ BIG := big_of (List.mem_append_right _ (List.mem_append_right _ (List.mem_append_right _ (List.mem_of_getElem? (i := 15) rfl)))) rfl
end
section
/-! my layer over the kit: what is fixed of a method's run (Cx), the heap's picture (Hp), locals by place (Lq), contracts without making (Ct) -/
abbrev GG : Type := va_G × (Nat → ClassId)
abbrev TYS (g : GG) : List (ClassId × FieldType) := [(g.2 0, .int), (g.2 1, .boolean), (g.2 2, .object "LentViews$Act"), (g.2 3, .object "LentViews$World")]
def NS (U : State) : Prop := va_Nw (.methodLinkNest RX4 11 yX2_init RX5) U ∧ va_Nw (.methodLinkNest RX4 26 yX1_init RX5) U ∧ va_Nw (.methodLinkNest RX4 33 yX3_init RX5) U ∧ va_Nw (.methodLinkNest RX4 38 yX0_init RX5) U ∧ va_Nw (.methodLinkNest RX0 23 yX2_init RX5) U ∧ va_Nw (.methodLinkNest RX2 27 yX5_copyAll RX5) U ∧ va_Nw (.methodLinkNest RX0 63 yX5_copyAll RX5) U
theorem NS.warm {s U : State} (hW : s.WarmedH U.vm) (h : NS s) : NS U := ⟨h.1.warmM hW, h.2.1.warmM hW, h.2.2.1.warmM hW, h.2.2.2.1.warmM hW, h.2.2.2.2.1.warmM hW, h.2.2.2.2.2.1.warmM hW, h.2.2.2.2.2.2.warmM hW⟩
theorem NS.same {s U : State} (e : s.vm = U.vm) (h : NS s) : NS U := ⟨va_Nw.same rfl e h.1, va_Nw.same rfl e h.2.1, va_Nw.same rfl e h.2.2.1, va_Nw.same rfl e h.2.2.2.1, va_Nw.same rfl e h.2.2.2.2.1, va_Nw.same rfl e h.2.2.2.2.2.1, va_Nw.same rfl e h.2.2.2.2.2.2⟩
/-- all that is fixed of the machine's classes -/
def gK (g : GG) (U : State) : Prop := va_K g.1 vwCl (TYS g) U ∧ NS U ∧ va_AO "LentViews$Act" U ∧ va_AO "LentViews$World" U
theorem gK.warm {g : GG} {s U : State} (hW : s.WarmedH U.vm) (h : gK g s) : gK g U := ⟨va_K.moved hW.alike h.1, h.2.1.warm hW, h.2.2.1.moved hW.alike, h.2.2.2.moved hW.alike⟩
theorem gK.same {g : GG} {s U : State} (e : s.vm = U.vm) (h : gK g s) : gK g U := ⟨va_K.moved (by rw [e]; exact Vm.Alike.refl U.vm) h.1, h.2.1.same e, h.2.2.1.moved (by rw [e]; exact Vm.Alike.refl U.vm), h.2.2.2.moved (by rw [e]; exact Vm.Alike.refl U.vm)⟩
def RM (d : Nat) : Room := { frames := d, cells := 0, slots := 0, locals := 38 * d }
def MW (y : MethodName) (cc : ByteArray) (n : Nat) (r : Option FieldType) : List Cond := .code y cc n r :: BIG
def cPre (g : GG) (av : List Value) (w0 : va_W) (sz : Nat) : Array Value → State → Prop := va_Pc av (fun U => U.heap.size = sz ∧ va_P g.1 vwCl w0 U.heap ∧ gK g U ∧ va_D (fun _ => True) w0)
def cQ (g : GG) (ans : Option Value) (w1 : va_W) (A : Nat → Prop) : Array Value → State → Outcome → State → Prop := fun _ st oc t => (oc = .returned ans ∧ va_P g.1 vwCl w1 t.heap) ∧ va_F A st t
/-- a contract of a method that makes nothing: from the picture w0 to the picture w1 (the same addresses), with the answer -/
def Ct (l : Launch) (g : GG) (y : MethodName) (cc : ByteArray) (n : Nat) (rt : Option FieldType) (d : Nat) (av : List Value) (w0 : va_W) (ans : Option Value) (w1 : va_W) : Prop :=
  ∀ sz, Met l y (MW y cc n rt) (RM d) (cPre g av w0 sz) (cQ g ans w1 (va_A w0 sz)) 0 0 (va_A w0 sz)
theorem cPre.blind {g : GG} {av : List Value} {w0 : va_W} {sz : Nat} : FrameBlind (cPre g av w0 sz) := fun _ _ _ _ q => ⟨q.1, q.2.1, q.2.2.1, q.2.2.2.1.same rfl, q.2.2.2.2⟩
def Hp (g : GG) (A : Nat → Prop) (s : State) (H : Heap) (locs : List Loc) (ws : va_W) : Prop := va_P g.1 vwCl ws H ∧ va_D A ws ∧ va_S A s.heap H locs
/-! locals by place -/
def lqp : Nat → List (Option Value) → List (Nat × Value)
  | _, [] => []
  | i, some v :: t => (i, v) :: lqp (i + 1) t
  | i, none :: t => lqp (i + 1) t
theorem lqp_mem : ∀ (l : List (Option Value)) (i j : Nat) (v : Value), (j, v) ∈ lqp i l ↔ ∃ k, j = i + k ∧ l[k]? = some (some v)
  | [], i, j, v => by simp [lqp]
  | none :: t, i, j, v => by
    rw [lqp, lqp_mem t (i + 1) j v]
    constructor
    · rintro ⟨k, rfl, h⟩; exact ⟨k + 1, by omega, by simpa using h⟩
    · rintro ⟨k, rfl, h⟩
      cases k with
      | zero => simp at h
      | succ k => exact ⟨k, by omega, by simpa using h⟩
  | some w :: t, i, j, v => by
    rw [lqp, List.mem_cons, lqp_mem t (i + 1) j v]
    constructor
    · rintro (h | ⟨k, rfl, h⟩)
      · cases h; exact ⟨0, rfl, rfl⟩
      · exact ⟨k + 1, by omega, by simpa using h⟩
    · rintro ⟨k, rfl, h⟩
      cases k with
      | zero => left; simp at h; rw [h]; rfl
      | succ k => right; exact ⟨k, by omega, by simpa using h⟩
def Lq (ls : Array Slot) (n : Nat) (l : List (Option Value)) : Prop := n = l.length ∧ lv_has ls n (lqp 0 l) ∧ ∀ v, some v ∈ l → v.category = 1
theorem Lq.at {ls : Array Slot} {n : Nat} {l : List (Option Value)} (h : Lq ls n l) {i : Nat} {v : Value} (hi : l[i]? = some (some v)) : ls[i]? = some (.val v) := h.2.1.2.2 (i, v) ((lqp_mem l 0 i v).mpr ⟨i, by omega, hi⟩)
theorem Lq.store {ls ls' : Array Slot} {n : Nat} {l : List (Option Value)} {i : Nat} {v : Value} (h : Lq ls n l) (hc : v.category = 1) (h' : lv_has ls' n ((i, v) :: (lqp 0 l).filter (fun q => !(q.1 == i) && !(q.1 + 1 == i && q.2.category == 2)))) : Lq ls' n (l.set i (some v)) := by
  refine ⟨by rw [List.length_set]; exact h.1, ⟨h'.1, h'.2.1, fun q hq => ?_⟩, fun w hw => ?_⟩
  · obtain ⟨j, w⟩ := q
    obtain ⟨k, hk, hl⟩ := (lqp_mem _ 0 j w).mp hq
    have hjk : j = k := by omega
    subst hjk
    apply h'.2.2
    by_cases hji : j = i
    · subst hji
      have hlt : j < (l.set j (some v)).length := (List.getElem?_eq_some_iff.mp hl).1
      rw [List.length_set] at hlt
      rw [List.getElem?_set_self hlt] at hl
      cases hl
      exact List.mem_cons_self
    · rw [List.getElem?_set_ne (fun e => hji e.symm)] at hl
      refine List.mem_cons_of_mem _ (List.mem_filter.mpr ⟨(lqp_mem l 0 j w).mpr ⟨j, by omega, hl⟩, ?_⟩)
      have hcw := h.2.2 w (List.mem_of_getElem? hl)
      simp [hji, hcw]
  · rcases List.mem_or_eq_of_mem_set hw with h1 | h1
    · exact h.2.2 w h1
    · cases h1; exact hc
def lqi (n : Nat) (av : List Value) : List (Option Value) := av.map some ++ List.replicate (n - av.length) none
theorem lqp_none (k i : Nat) : lqp i (List.replicate k none) = [] := by
  induction k generalizing i with
  | zero => rfl
  | succ k ih => rw [List.replicate_succ, lqp]; exact ih (i + 1)
theorem lqp_args : ∀ (av : List Value) (k i : Nat), (∀ v ∈ av, v.category = 1) → lqp i (av.map some ++ List.replicate k none) = lv_args i av
  | [], k, i, _ => by simp [lqp_none, lv_args]
  | v :: t, k, i, h => by
    have hv : v.category = 1 := h v List.mem_cons_self
    rw [List.map_cons, List.cons_append, lqp, lv_args, lqp_args t k (i + 1) (fun w hw => h w (List.mem_cons_of_mem _ hw))]
    simp [hv]
theorem lg_sl_len : ∀ (av : List Value), (∀ v ∈ av, v.category = 1) → (lg_sl av).length = av.length
  | [], _ => rfl
  | v :: t, h => by
    have hv : v.category = 1 := h v List.mem_cons_self
    have := lg_sl_len t (fun w hw => h w (List.mem_cons_of_mem _ hw))
    simp only [lg_sl, List.flatMap_cons] at this ⊢
    simp [hv, this]
theorem Lq.entry (av : List Value) {n : Nat} (hn : av.length ≤ n) (hc : ∀ v ∈ av, v.category = 1) : Lq ((lg_sl av ++ List.replicate (n - (lg_sl av).length) Slot.unset).toArray) n (lqi n av) := by
  refine ⟨by simp [lqi]; omega, ?_, fun v hv => ?_⟩
  · rw [lqi, lqp_args av _ 0 hc]
    exact lv_entry av (by rw [lg_sl_len av hc]; exact hn)
  · simp only [lqi, List.mem_append, List.mem_map, List.mem_replicate] at hv
    rcases hv with ⟨w, hw, e⟩ | h
    · cases e; exact hc _ hw
    · exact absurd h.2 (by simp)
/-! the fixed part of a run -/
def Cx (p : Program) (l : Launch) (R : Room) (s : State) (m : MethodId) (args : Array Value) (meth : Method) (c : Code) (g : GG) (A : Nat → Prop) (cc : ByteArray) (nL : Nat) (own : String) (rt : Option FieldType) (d : Nat) : Prop :=
  CallFix p m c cc nL s args BIG own ∧ meth.sig.returnType = rt ∧ meth.locks = false ∧ gK g s ∧ (∀ q, s.heap.size ≤ q → A q) ∧ d ≤ R.frames ∧ 38 * d ≤ R.locals
/-- a method's run may end in Q: with the answer and the picture that the contract names -/
def Rt (p : Program) (l : Launch) (e : Env) (R : Room) (s : State) (m : MethodId) (args : Array Value) (below : List Frame) (meth : Method) (c : Code) (g : GG) (A : Nat → Prop) (cc : ByteArray) (Q : State → Prop) (ans : Option Value) (w1 : va_W) : Prop :=
  (∀ (H : Heap) (locs : List Loc) (ls : Array Slot) (pc : Nat) (v : Int32), decode cc pc = .ok (.ireturn, 1) → Hp g A s H locs w1 → ans = some (.int v) → W p l e R s m args below meth c H locs 0 0 Q (F0 m pc ls [.int v])) ∧
  (∀ (H : Heap) (locs : List Loc) (ls : Array Slot) (pc : Nat), decode cc pc = .ok (.return_, 1) → Hp g A s H locs w1 → ans = none → W p l e R s m args below meth c H locs 0 0 Q (F0 m pc ls []))
theorem Ct.start {l : Launch} {g : GG} {y : MethodName} {cc : ByteArray} {n : Nat} {rt : Option FieldType} {d : Nat} {av : List Value} {w0 : va_W} {ans : Option Value} {w1 : va_W} (hy : plainName y.cls = true) (hav : av.length ≤ n) (hcat : ∀ v ∈ av, v.category = 1)
    (hrt : rt = none ∧ ans = none ∨ ∃ (ty : FieldType) (v : Int32), rt = some ty ∧ ans = some (.int v) ∧ narrow ty (.int v) = .int v)
    (body : ∀ (p : Program) (e : Env) (R : Room) (s : State) (m : MethodId) (args : Array Value) (below : List Frame) (meth : Method) (c : Code) (A : Nat → Prop) (Q : State → Prop), Cx p l R s m args meth c g A cc n y.cls rt d → Rt p l e R s m args below meth c g A cc Q ans w1 → Hp g A s s.heap [] w0 → ∀ ls : Array Slot, Lq ls n (lqi n av) → W p l e R s m args below meth c s.heap [] 0 0 Q (F0 m 0 ls [])) : Ct l g y cc n rt d av w0 ans w1 := by
  intro sz
  refine Met.ofW (cc := cc) (maxL := n) (ret := rt) hy rfl ?_
  intro p e s m args below meth c s₁ B hml hv
  obtain ⟨rfl, hsz, hP, hK, hD0⟩ := hv
  subst hsz
  have hts : ∀ w ∈ BIG, w.before av.toArray s = true := fun w h => atoms_spec (ws := MW y cc n rt) B.pre w (List.mem_cons_of_mem _ h)
  have hown : s.vm.findClass y.cls = some m.cls := findClass_of_methodNamed B.named
  have hlocks := B.notSynchronized
  rw [lg_entry_eq]
  refine body p e _ s m _ below meth c (va_A w0 s.heap.size) _ ⟨⟨B.exec, B.bytes, hml, hown, hts⟩, B.returns, hlocks, hK, fun q h => Or.inr h, Nat.le_refl _, Nat.le_refl _⟩ ⟨?_, ?_⟩ ⟨hP, hD0.self, va_S.rf⟩ _ (Lq.entry av hav hcat)
  · intro H locs ls pc v hd hH ha
    obtain ⟨hP1, hD1, hS1⟩ := hH
    rcases hrt with ⟨-, h2⟩ | ⟨ty, v', h1, h2, h3⟩
    · rw [h2] at ha; cases ha
    · rw [h2] at ha
      cases ha
      exact W.zret B.exec B.bytes (B.returns.trans h1) h3 (fun t ht hW => ⟨⟨by rw [h2], by rw [ht]; exact hP1⟩, hS1.F ht⟩) hS1.2.2 hd
  · intro H locs ls pc hd hH ha
    obtain ⟨hP1, hD1, hS1⟩ := hH
    rcases hrt with ⟨h1, h2⟩ | ⟨ty, v', h1, h2, h3⟩
    · exact W.vret B.exec B.bytes (B.returns.trans h1) (fun t ht hW => ⟨⟨by rw [h2], by rw [ht]; exact hP1⟩, hS1.F ht⟩) hS1.2.2 hd
    · rw [h2] at ha; cases ha
/-! the frame: a callee's cells put back at their places -/
def putAt : va_W → List Nat → va_W → va_W
  | ws, i :: is, e :: es => putAt (ws.set i e) is es
  | ws, _, _ => ws
theorem putAt_get : ∀ (is : List Nat) (es ws : va_W) (k : Nat) (q : Nat × va_E), is.length = es.length → (putAt ws is es)[k]? = some q → (∃ j : Nat, is[j]? = some k ∧ es[j]? = some q) ∨ (ws[k]? = some q ∧ k ∉ is)
  | [], [], ws, k, q, _, h => by rw [putAt] at h <;> simp_all
  | [], _ :: _, _, _, _, hl, _ => by simp at hl
  | _ :: _, [], _, _, _, hl, _ => by simp at hl
  | i :: is, e :: es, ws, k, q, hl, h => by
    rw [putAt] at h
    rcases putAt_get is es (ws.set i e) k q (by simpa using hl) h with ⟨j, h1, h2⟩ | ⟨h1, h2⟩
    · exact Or.inl ⟨j + 1, by simpa using h1, by simpa using h2⟩
    · by_cases hk : k = i
      · subst hk
        have hlt : k < (ws.set k e).length := (List.getElem?_eq_some_iff.mp h1).1
        rw [List.length_set] at hlt
        rw [List.getElem?_set_self hlt] at h1
        cases h1
        exact Or.inl ⟨0, rfl, rfl⟩
      · rw [List.getElem?_set_ne (fun e => hk e.symm)] at h1
        exact Or.inr ⟨h1, fun h3 => (List.mem_cons.mp h3).elim hk h2⟩
theorem map_at {ws w : va_W} {is : List Nat} (hs : is.map (fun i => ws[i]?) = w.map some) {k : Nat} {q : Nat × va_E} (hq : w[k]? = some q) : ∃ i, is[k]? = some i ∧ ws[i]? = some q := by
  have h1 : (is.map (fun i => ws[i]?))[k]? = some (some q) := by rw [hs, List.getElem?_map, hq]; rfl
  rw [List.getElem?_map] at h1
  cases hi : is[k]? with
  | none => rw [hi] at h1; cases h1
  | some i => rw [hi] at h1; exact ⟨i, rfl, Option.some.inj h1⟩
theorem Hp.sameD {A : Nat → Prop} {ws ws' : va_W} (hD : va_D A ws) (h : ∀ (k : Nat) (q : Nat × va_E), ws'[k]? = some q → ∃ q0, ws[k]? = some q0 ∧ q0.1 = q.1) : va_D A ws' := by
  refine ⟨fun i j x y hx hy e => ?_, fun k q hk => ?_⟩
  · obtain ⟨x0, h1, h2⟩ := h i x hx
    obtain ⟨y0, h3, h4⟩ := h j y hy
    exact hD.1 i j x0 y0 h1 h3 (by rw [h2, h4]; exact e)
  · obtain ⟨q0, h1, h2⟩ := h k q hk
    rw [← h2]; exact hD.2 k q0 h1
theorem Hp.back {g : GG} {A : Nat → Prop} {s : State} {H H1 : Heap} {locs locs1 : List Loc} {ws w0 w1 : va_W} (h : Hp g A s H locs ws) (isC : List Nat) (hC : isC.map (fun i => ws[i]?) = w0.map some) (hs : w1.map Prod.fst = w0.map Prod.fst) (hP1 : va_P g.1 vwCl w1 H1) (hk : ∀ q : Nat, q < H.size → ¬ va_A w0 H.size q → H1[q]? = H[q]?) (hS : va_S A s.heap H1 locs1) : Hp g A s H1 locs1 (putAt ws isC w1) := by
  have hlen : isC.length = w1.length := by
    have h1 := congrArg List.length hC
    have h2 := congrArg List.length hs
    simp at h1 h2; omega
  refine ⟨fun k q hq => ?_, Hp.sameD h.2.1 (fun k q hq => ?_), hS⟩
  · rcases putAt_get isC w1 ws k q hlen hq with ⟨j, h1, h2⟩ | ⟨h1, h2⟩
    · exact hP1 j q h2
    · have hat := h.1 k q h1
      refine hat.kept (hk q.1 hat.lt (fun hA => ?_))
      rcases hA with ⟨k2, e, h3⟩ | h3
      · obtain ⟨i, h4, h5⟩ := map_at hC h3
        have hki := h.2.1.1 k i q (q.1, e) h1 h5 rfl
        exact h2 (by rw [hki]; exact List.mem_of_getElem? h4)
      · have := hat.lt; omega
  · rcases putAt_get isC w1 ws k q hlen hq with ⟨j, h1, h2⟩ | ⟨h1, h2⟩
    · have h3 : (w0.map Prod.fst)[j]? = some q.1 := by rw [← hs, List.getElem?_map, h2]; rfl
      rw [List.getElem?_map] at h3
      cases h4 : w0[j]? with
      | none => rw [h4] at h3; cases h3
      | some q0 =>
        rw [h4] at h3
        obtain ⟨i, h5, h6⟩ := map_at hC h4
        rw [h1] at h5
        cases h5
        exact ⟨q0, h6, Option.some.inj h3⟩
    · exact ⟨q, h1, rfl⟩
/-- an array's content may be told otherwise, where it agrees within the length -/
theorem arr_cg {cA : ClassId} {n : Nat} {f f' : Nat → Int32} (h : ∀ j, j < n → f j = f' j) : vp_cell cA (n, .inl f) = vp_cell cA (n, .inl f') := by
  rw [vp_cell_i, vp_cell_i]
  unfold arrV
  congr 1
  apply Array.ext
  · simp
  · intro i h1 h2
    simp at h1 ⊢
    exact h i h1
theorem Hp.arr {g : GG} {A : Nat → Prop} {s : State} {H : Heap} {locs : List Loc} {ws : va_W} (h : Hp g A s H locs ws) (q0 : Nat) {a : Nat} {cA : ClassId} {n : Nat} {f : Nat → Int32} (f' : Nat → Int32) (he : ws[q0]? = some (a, .inl (cA, n, .inl f))) (hf : ∀ j, j < n → f j = f' j) : Hp g A s H locs (ws.set q0 (a, .inl (cA, n, .inl f'))) := by
  refine ⟨fun k q hq => ?_, h.2.1.set he, h.2.2⟩
  by_cases hk : k = q0
  · subst hk
    have hlt : k < (ws.set k (a, .inl (cA, n, .inl f'))).length := (List.getElem?_eq_some_iff.mp hq).1
    rw [List.length_set] at hlt
    rw [List.getElem?_set_self hlt] at hq
    cases hq
    have := h.1 k _ he
    show H[a]? = some _
    rw [← arr_cg hf]
    exact this
  · rw [List.getElem?_set_ne (fun e => hk e.symm)] at hq
    exact h.1 k q hq
theorem Hp.to {g : GG} {A : Nat → Prop} {s : State} {H : Heap} {locs : List Loc} {ws ws' : va_W} (h : Hp g A s H locs ws) (e : ws = ws') : Hp g A s H locs ws' := e ▸ h
end
section
/-! rows an instruction, over the fixed part K, the picture h and the locals hl -/
theorem Hp.P {g : GG} {A : Nat → Prop} {s : State} {H : Heap} {locs : List Loc} {ws : va_W} (h : Hp g A s H locs ws) : va_P g.1 vwCl ws H := h.1
theorem lit_nI (n : Nat) : Int32.ofInt (n : Int) = nI n := rfl
theorem addI_nI (a : Nat) (n : Nat) : nI a + Int32.ofInt (n : Int) = nI (a + n) := nI_add a n
section ROWS
variable {p : Program} {l : Launch} {e : Env} {R : Room} {s : State} {m : MethodId} {args : Array Value} {below : List Frame} {meth : Method} {c : Code} {H : Heap} {locs : List Loc} {cells slots : Nat} {Q : State → Prop}
variable {g : GG} {A : Nat → Prop} {cc : ByteArray} {nL : Nat} {own : String} {rt : Option FieldType} {d : Nat} {pc : Nat} {ls : Array Slot} {rest : List Value} {ws : va_W} {lv : List (Option Value)}
theorem r_ic (K : Cx p l R s m args meth c g A cc nL own rt d) {n : Int} (v : Int32) (dd : decode cc pc = .ok (.iconst n, 1)) (hv : Int32.ofInt n = v) (kk : W p l e R s m args below meth c H locs cells slots Q (F0 m (pc + 1) ls (.int v :: rest))) : W p l e R s m args below meth c H locs cells slots Q (F0 m pc ls rest) := lv_iconst K.1.1 K.1.2.1 dd hv kk
theorem r_bp (K : Cx p l R s m args meth c g A cc nL own rt d) {n : Int} (v : Int32) (dd : decode cc pc = .ok (.bipush n, 2)) (hv : (Int8.ofInt n).toInt32 = v) (kk : W p l e R s m args below meth c H locs cells slots Q (F0 m (pc + 2) ls (.int v :: rest))) : W p l e R s m args below meth c H locs cells slots Q (F0 m pc ls rest) := lv_bipush K.1.1 K.1.2.1 dd hv kk
theorem r_sp (K : Cx p l R s m args meth c g A cc nL own rt d) {n : Int} (v : Int32) (dd : decode cc pc = .ok (.sipush n, 3)) (hv : (Int16.ofInt n).toInt32 = v) (kk : W p l e R s m args below meth c H locs cells slots Q (F0 m (pc + 3) ls (.int v :: rest))) : W p l e R s m args below meth c H locs cells slots Q (F0 m pc ls rest) := lv_sipush K.1.1 K.1.2.1 dd hv kk
theorem r_ldcw (K : Cx p l R s m args meth c g A cc nL own rt d) {n : Nat} {v : Int32} (hw : Cond.constant own n v ∈ BIG) (dd : decode cc pc = .ok (.ldc_w n, 3)) (kk : W p l e R s m args below meth c H locs cells slots Q (F0 m (pc + 3) ls (.int v :: rest))) : W p l e R s m args below meth c H locs cells slots Q (F0 m pc ls rest) := lv_ldcw K.1.1 K.1.2.1 K.1.2.2.2.1 (K.1.2.2.2.2 _ hw) dd kk
theorem r_iln (K : Cx p l R s m args meth c g A cc nL own rt d) (hl : Lq ls nL lv) {k : Fin 4} (i : Nat) {x : Int32} (dd : decode cc pc = .ok (.iload_n k, 1)) (hi : (k : Nat) = i) (hx : lv[i]? = some (some (.int x))) (kk : W p l e R s m args below meth c H locs cells slots Q (F0 m (pc + 1) ls (.int x :: rest))) : W p l e R s m args below meth c H locs cells slots Q (F0 m pc ls rest) := lv_iload_n K.1.1 K.1.2.1 dd hi (hl.at hx) kk
theorem r_il (K : Cx p l R s m args meth c g A cc nL own rt d) (hl : Lq ls nL lv) (i : Nat) {x : Int32} (dd : decode cc pc = .ok (.iload i, 2)) (hx : lv[i]? = some (some (.int x))) (kk : W p l e R s m args below meth c H locs cells slots Q (F0 m (pc + 2) ls (.int x :: rest))) : W p l e R s m args below meth c H locs cells slots Q (F0 m pc ls rest) := lv_iload K.1.1 K.1.2.1 dd (hl.at hx) kk
theorem r_aln (K : Cx p l R s m args meth c g A cc nL own rt d) (hl : Lq ls nL lv) {k : Fin 4} (i : Nat) {x : Nat} (dd : decode cc pc = .ok (.aload_n k, 1)) (hi : (k : Nat) = i) (hx : lv[i]? = some (some (.ref x))) (kk : W p l e R s m args below meth c H locs cells slots Q (F0 m (pc + 1) ls (.ref x :: rest))) : W p l e R s m args below meth c H locs cells slots Q (F0 m pc ls rest) := lv_aload_n K.1.1 K.1.2.1 dd hi (hl.at hx) kk
theorem r_al (K : Cx p l R s m args meth c g A cc nL own rt d) (hl : Lq ls nL lv) (i : Nat) {x : Nat} (dd : decode cc pc = .ok (.aload i, 2)) (hx : lv[i]? = some (some (.ref x))) (kk : W p l e R s m args below meth c H locs cells slots Q (F0 m (pc + 2) ls (.ref x :: rest))) : W p l e R s m args below meth c H locs cells slots Q (F0 m pc ls rest) := lv_aload K.1.1 K.1.2.1 dd (hl.at hx) kk
theorem r_isn (K : Cx p l R s m args meth c g A cc nL own rt d) (hl : Lq ls nL lv) {k : Fin 4} (i : Nat) {x : Int32} (lv' : List (Option Value)) (dd : decode cc pc = .ok (.istore_n k, 1)) (hi : (k : Nat) = i) (hn : i < nL) (hs : lv.set i (some (.int x)) = lv') (kk : ∀ ls : Array Slot, Lq ls nL lv' → W p l e R s m args below meth c H locs cells slots Q (F0 m (pc + 1) ls rest)) : W p l e R s m args below meth c H locs cells slots Q (F0 m pc ls (.int x :: rest)) := lv_istore_n K.1.1 K.1.2.1 dd hi hl.2.1 hn rfl (fun ls' h' => kk ls' (by rw [← hs]; exact hl.store rfl h'))
theorem r_is (K : Cx p l R s m args meth c g A cc nL own rt d) (hl : Lq ls nL lv) (i : Nat) {x : Int32} (lv' : List (Option Value)) (dd : decode cc pc = .ok (.istore i, 2)) (hn : i < nL) (hs : lv.set i (some (.int x)) = lv') (kk : ∀ ls : Array Slot, Lq ls nL lv' → W p l e R s m args below meth c H locs cells slots Q (F0 m (pc + 2) ls rest)) : W p l e R s m args below meth c H locs cells slots Q (F0 m pc ls (.int x :: rest)) := lv_istore K.1.1 K.1.2.1 dd hl.2.1 hn rfl (fun ls' h' => kk ls' (by rw [← hs]; exact hl.store rfl h'))
theorem r_asn (K : Cx p l R s m args meth c g A cc nL own rt d) (hl : Lq ls nL lv) {k : Fin 4} (i : Nat) {x : Nat} (lv' : List (Option Value)) (dd : decode cc pc = .ok (.astore_n k, 1)) (hi : (k : Nat) = i) (hn : i < nL) (hs : lv.set i (some (.ref x)) = lv') (kk : ∀ ls : Array Slot, Lq ls nL lv' → W p l e R s m args below meth c H locs cells slots Q (F0 m (pc + 1) ls rest)) : W p l e R s m args below meth c H locs cells slots Q (F0 m pc ls (.ref x :: rest)) := lv_astore_n K.1.1 K.1.2.1 dd hi hl.2.1 hn rfl (fun ls' h' => kk ls' (by rw [← hs]; exact hl.store rfl h'))
theorem r_inc (K : Cx p l R s m args meth c g A cc nL own rt d) (hl : Lq ls nL lv) {i : Nat} {n : Int} {x : Int32} (v : Int32) (lv' : List (Option Value)) (dd : decode cc pc = .ok (.iinc i n, 3)) (hx : lv[i]? = some (some (.int x))) (hv : x + Int32.ofInt n = v) (hn : i < nL) (hs : lv.set i (some (.int v)) = lv') (kk : ∀ ls : Array Slot, Lq ls nL lv' → W p l e R s m args below meth c H locs cells slots Q (F0 m (pc + 3) ls rest)) : W p l e R s m args below meth c H locs cells slots Q (F0 m pc ls rest) := by
  obtain ⟨j, hj⟩ := List.getElem?_of_mem ((lqp_mem lv 0 i (.int x)).mpr ⟨i, by omega, hx⟩)
  exact lv_iinc K.1.1 K.1.2.1 dd hl.2.1 hj hv hn rfl (fun ls' h' => kk ls' (by rw [← hs]; exact hl.store rfl h'))
theorem r_incN (K : Cx p l R s m args meth c g A cc nL own rt d) (hl : Lq ls nL lv) {i : Nat} {x k : Nat} (lv' : List (Option Value)) (dd : decode cc pc = .ok (.iinc i (k : Int), 3)) (hx : lv[i]? = some (some (.int (nI x)))) (hn : i < nL) (hs : lv.set i (some (.int (nI (x + k)))) = lv') (kk : ∀ ls : Array Slot, Lq ls nL lv' → W p l e R s m args below meth c H locs cells slots Q (F0 m (pc + 3) ls rest)) : W p l e R s m args below meth c H locs cells slots Q (F0 m pc ls rest) := r_inc K hl (nI (x + k)) lv' dd hx (addI_nI x k) hn hs kk
theorem r_addN (K : Cx p l R s m args meth c g A cc nL own rt d) {a b : Nat} (dd : decode cc pc = .ok (.iadd, 1)) (kk : W p l e R s m args below meth c H locs cells slots Q (F0 m (pc + 1) ls (.int (nI (a + b)) :: rest))) : W p l e R s m args below meth c H locs cells slots Q (F0 m pc ls (.int (nI b) :: .int (nI a) :: rest)) := lv_iadd K.1.1 K.1.2.1 dd (by rw [nI_add]; exact kk)
theorem r_mulN (K : Cx p l R s m args meth c g A cc nL own rt d) {a b : Nat} (dd : decode cc pc = .ok (.imul, 1)) (kk : W p l e R s m args below meth c H locs cells slots Q (F0 m (pc + 1) ls (.int (nI (a * b)) :: rest))) : W p l e R s m args below meth c H locs cells slots Q (F0 m pc ls (.int (nI b) :: .int (nI a) :: rest)) := lv_imul K.1.1 K.1.2.1 dd (by rw [pk_mul]; exact kk)
theorem r_subN (K : Cx p l R s m args meth c g A cc nL own rt d) {a b : Nat} (hab : b ≤ a) (dd : decode cc pc = .ok (.isub, 1)) (kk : W p l e R s m args below meth c H locs cells slots Q (F0 m (pc + 1) ls (.int (nI (a - b)) :: rest))) : W p l e R s m args below meth c H locs cells slots Q (F0 m pc ls (.int (nI b) :: .int (nI a) :: rest)) := lv_isub K.1.1 K.1.2.1 dd (by rw [pk_sub hab]; exact kk)
theorem r_remN (K : Cx p l R s m args meth c g A cc nL own rt d) {a b : Nat} (ha : a < 2 ^ 31) (h0 : 0 < b) (hb : b < 2 ^ 31) (dd : decode cc pc = .ok (.irem, 1)) (kk : W p l e R s m args below meth c H locs cells slots Q (F0 m (pc + 1) ls (.int (nI (a % b)) :: rest))) : W p l e R s m args below meth c H locs cells slots Q (F0 m pc ls (.int (nI b) :: .int (nI a) :: rest)) := lv_irem K.1.1 K.1.2.1 dd (nI_ne0 h0 hb) (by rw [pk_rem ha h0 hb]; exact kk)
theorem r_add (K : Cx p l R s m args meth c g A cc nL own rt d) {x y : Int32} (dd : decode cc pc = .ok (.iadd, 1)) (kk : W p l e R s m args below meth c H locs cells slots Q (F0 m (pc + 1) ls (.int (x + y) :: rest))) : W p l e R s m args below meth c H locs cells slots Q (F0 m pc ls (.int y :: .int x :: rest)) := lv_iadd K.1.1 K.1.2.1 dd kk
theorem r_sub (K : Cx p l R s m args meth c g A cc nL own rt d) {x y : Int32} (dd : decode cc pc = .ok (.isub, 1)) (kk : W p l e R s m args below meth c H locs cells slots Q (F0 m (pc + 1) ls (.int (x - y) :: rest))) : W p l e R s m args below meth c H locs cells slots Q (F0 m pc ls (.int y :: .int x :: rest)) := lv_isub K.1.1 K.1.2.1 dd kk
theorem r_mul (K : Cx p l R s m args meth c g A cc nL own rt d) {x y : Int32} (dd : decode cc pc = .ok (.imul, 1)) (kk : W p l e R s m args below meth c H locs cells slots Q (F0 m (pc + 1) ls (.int (x * y) :: rest))) : W p l e R s m args below meth c H locs cells slots Q (F0 m pc ls (.int y :: .int x :: rest)) := lv_imul K.1.1 K.1.2.1 dd kk
theorem r_rem (K : Cx p l R s m args meth c g A cc nL own rt d) {x y : Int32} (hy : ¬ y = 0) (dd : decode cc pc = .ok (.irem, 1)) (kk : W p l e R s m args below meth c H locs cells slots Q (F0 m (pc + 1) ls (.int (x - x / y * y) :: rest))) : W p l e R s m args below meth c H locs cells slots Q (F0 m pc ls (.int y :: .int x :: rest)) := lv_irem K.1.1 K.1.2.1 dd hy kk
theorem r_and (K : Cx p l R s m args meth c g A cc nL own rt d) {x y : Int32} (dd : decode cc pc = .ok (.iand, 1)) (kk : W p l e R s m args below meth c H locs cells slots Q (F0 m (pc + 1) ls (.int (x &&& y) :: rest))) : W p l e R s m args below meth c H locs cells slots Q (F0 m pc ls (.int y :: .int x :: rest)) := lv_iand K.1.1 K.1.2.1 dd kk
theorem r_or (K : Cx p l R s m args meth c g A cc nL own rt d) {x y : Int32} (dd : decode cc pc = .ok (.ior, 1)) (kk : W p l e R s m args below meth c H locs cells slots Q (F0 m (pc + 1) ls (.int (x ||| y) :: rest))) : W p l e R s m args below meth c H locs cells slots Q (F0 m pc ls (.int y :: .int x :: rest)) := lv_ior K.1.1 K.1.2.1 dd kk
theorem r_shl (K : Cx p l R s m args meth c g A cc nL own rt d) {x y : Int32} (dd : decode cc pc = .ok (.ishl, 1)) (kk : W p l e R s m args below meth c H locs cells slots Q (F0 m (pc + 1) ls (.int (x <<< (y &&& 31)) :: rest))) : W p l e R s m args below meth c H locs cells slots Q (F0 m pc ls (.int y :: .int x :: rest)) := lv_ishl K.1.1 K.1.2.1 dd kk
theorem r_shr (K : Cx p l R s m args meth c g A cc nL own rt d) {x y : Int32} (dd : decode cc pc = .ok (.ishr, 1)) (kk : W p l e R s m args below meth c H locs cells slots Q (F0 m (pc + 1) ls (.int (x >>> (y &&& 31)) :: rest))) : W p l e R s m args below meth c H locs cells slots Q (F0 m pc ls (.int y :: .int x :: rest)) := lv_ishr K.1.1 K.1.2.1 dd kk
theorem r_ushr (K : Cx p l R s m args meth c g A cc nL own rt d) {x y : Int32} (dd : decode cc pc = .ok (.iushr, 1)) (kk : W p l e R s m args below meth c H locs cells slots Q (F0 m (pc + 1) ls (.int ((x.toUInt32 >>> (y.toUInt32 &&& Int32.toUInt32 31)).toInt32) :: rest))) : W p l e R s m args below meth c H locs cells slots Q (F0 m pc ls (.int y :: .int x :: rest)) := lv_iushr K.1.1 K.1.2.1 dd rfl kk
theorem r_dup (K : Cx p l R s m args meth c g A cc nL own rt d) {va : Value} (dd : decode cc pc = .ok (.dup, 1)) (hv : va.category = 1) (kk : W p l e R s m args below meth c H locs cells slots Q (F0 m (pc + 1) ls (va :: va :: rest))) : W p l e R s m args below meth c H locs cells slots Q (F0 m pc ls (va :: rest)) := lv_dup K.1.1 K.1.2.1 dd hv kk
theorem r_dup2 (K : Cx p l R s m args meth c g A cc nL own rt d) {va vb : Value} (dd : decode cc pc = .ok (.dup2, 1)) (hv : va.category = 1) (hw : vb.category = 1) (kk : W p l e R s m args below meth c H locs cells slots Q (F0 m (pc + 1) ls (va :: vb :: va :: vb :: rest))) : W p l e R s m args below meth c H locs cells slots Q (F0 m pc ls (va :: vb :: rest)) := lv_dup2_11 K.1.1 K.1.2.1 dd hv hw kk
theorem r_go (K : Cx p l R s m args meth c g A cc nL own rt d) {off : Int} (tgt : Nat) (dd : decode cc pc = .ok (.goto off, 3)) (ht : (pc : Int) + off = (tgt : Int)) (kk : W p l e R s m args below meth c H locs cells slots Q (F0 m tgt ls rest)) : W p l e R s m args below meth c H locs cells slots Q (F0 m pc ls rest) := lv_goto K.1.1 K.1.2.1 dd ht kk
theorem r_ceq (K : Cx p l R s m args meth c g A cc nL own rt d) {x y : Int32} {off : Int} (tgt : Nat) (dd : decode cc pc = .ok (.if_icmp .eq off, 3)) (ht : (pc : Int) + off = (tgt : Int)) (kt : x = y → W p l e R s m args below meth c H locs cells slots Q (F0 m tgt ls rest)) (kf : ¬ x = y → W p l e R s m args below meth c H locs cells slots Q (F0 m (pc + 3) ls rest)) : W p l e R s m args below meth c H locs cells slots Q (F0 m pc ls (.int y :: .int x :: rest)) := lv_icmp_eq K.1.1 K.1.2.1 dd ht kt kf
theorem r_zeq (K : Cx p l R s m args meth c g A cc nL own rt d) {x : Int32} {off : Int} (tgt : Nat) (dd : decode cc pc = .ok (.ifCond .eq off, 3)) (ht : (pc : Int) + off = (tgt : Int)) (kt : x = 0 → W p l e R s m args below meth c H locs cells slots Q (F0 m tgt ls rest)) (kf : ¬ x = 0 → W p l e R s m args below meth c H locs cells slots Q (F0 m (pc + 3) ls rest)) : W p l e R s m args below meth c H locs cells slots Q (F0 m pc ls (.int x :: rest)) := lv_if_eq K.1.1 K.1.2.1 dd ht kt kf
theorem r_cne (K : Cx p l R s m args meth c g A cc nL own rt d) {x y : Int32} {off : Int} (tgt : Nat) (dd : decode cc pc = .ok (.if_icmp .ne off, 3)) (ht : (pc : Int) + off = (tgt : Int)) (kt : ¬ x = y → W p l e R s m args below meth c H locs cells slots Q (F0 m tgt ls rest)) (kf : x = y → W p l e R s m args below meth c H locs cells slots Q (F0 m (pc + 3) ls rest)) : W p l e R s m args below meth c H locs cells slots Q (F0 m pc ls (.int y :: .int x :: rest)) := lv_icmp_ne K.1.1 K.1.2.1 dd ht kt kf
theorem r_zne (K : Cx p l R s m args meth c g A cc nL own rt d) {x : Int32} {off : Int} (tgt : Nat) (dd : decode cc pc = .ok (.ifCond .ne off, 3)) (ht : (pc : Int) + off = (tgt : Int)) (kt : ¬ x = 0 → W p l e R s m args below meth c H locs cells slots Q (F0 m tgt ls rest)) (kf : x = 0 → W p l e R s m args below meth c H locs cells slots Q (F0 m (pc + 3) ls rest)) : W p l e R s m args below meth c H locs cells slots Q (F0 m pc ls (.int x :: rest)) := lv_if_ne K.1.1 K.1.2.1 dd ht kt kf
theorem r_clt (K : Cx p l R s m args meth c g A cc nL own rt d) {x y : Int32} {off : Int} (tgt : Nat) (dd : decode cc pc = .ok (.if_icmp .lt off, 3)) (ht : (pc : Int) + off = (tgt : Int)) (kt : x < y → W p l e R s m args below meth c H locs cells slots Q (F0 m tgt ls rest)) (kf : ¬ x < y → W p l e R s m args below meth c H locs cells slots Q (F0 m (pc + 3) ls rest)) : W p l e R s m args below meth c H locs cells slots Q (F0 m pc ls (.int y :: .int x :: rest)) := lv_icmp_lt K.1.1 K.1.2.1 dd ht kt kf
theorem r_zlt (K : Cx p l R s m args meth c g A cc nL own rt d) {x : Int32} {off : Int} (tgt : Nat) (dd : decode cc pc = .ok (.ifCond .lt off, 3)) (ht : (pc : Int) + off = (tgt : Int)) (kt : x < 0 → W p l e R s m args below meth c H locs cells slots Q (F0 m tgt ls rest)) (kf : ¬ x < 0 → W p l e R s m args below meth c H locs cells slots Q (F0 m (pc + 3) ls rest)) : W p l e R s m args below meth c H locs cells slots Q (F0 m pc ls (.int x :: rest)) := lv_if_lt K.1.1 K.1.2.1 dd ht kt kf
theorem r_cge (K : Cx p l R s m args meth c g A cc nL own rt d) {x y : Int32} {off : Int} (tgt : Nat) (dd : decode cc pc = .ok (.if_icmp .ge off, 3)) (ht : (pc : Int) + off = (tgt : Int)) (kt : y ≤ x → W p l e R s m args below meth c H locs cells slots Q (F0 m tgt ls rest)) (kf : ¬ y ≤ x → W p l e R s m args below meth c H locs cells slots Q (F0 m (pc + 3) ls rest)) : W p l e R s m args below meth c H locs cells slots Q (F0 m pc ls (.int y :: .int x :: rest)) := lv_icmp_ge K.1.1 K.1.2.1 dd ht kt kf
theorem r_zge (K : Cx p l R s m args meth c g A cc nL own rt d) {x : Int32} {off : Int} (tgt : Nat) (dd : decode cc pc = .ok (.ifCond .ge off, 3)) (ht : (pc : Int) + off = (tgt : Int)) (kt : 0 ≤ x → W p l e R s m args below meth c H locs cells slots Q (F0 m tgt ls rest)) (kf : ¬ 0 ≤ x → W p l e R s m args below meth c H locs cells slots Q (F0 m (pc + 3) ls rest)) : W p l e R s m args below meth c H locs cells slots Q (F0 m pc ls (.int x :: rest)) := lv_if_ge K.1.1 K.1.2.1 dd ht kt kf
theorem r_cgt (K : Cx p l R s m args meth c g A cc nL own rt d) {x y : Int32} {off : Int} (tgt : Nat) (dd : decode cc pc = .ok (.if_icmp .gt off, 3)) (ht : (pc : Int) + off = (tgt : Int)) (kt : y < x → W p l e R s m args below meth c H locs cells slots Q (F0 m tgt ls rest)) (kf : ¬ y < x → W p l e R s m args below meth c H locs cells slots Q (F0 m (pc + 3) ls rest)) : W p l e R s m args below meth c H locs cells slots Q (F0 m pc ls (.int y :: .int x :: rest)) := lv_icmp_gt K.1.1 K.1.2.1 dd ht kt kf
theorem r_zgt (K : Cx p l R s m args meth c g A cc nL own rt d) {x : Int32} {off : Int} (tgt : Nat) (dd : decode cc pc = .ok (.ifCond .gt off, 3)) (ht : (pc : Int) + off = (tgt : Int)) (kt : 0 < x → W p l e R s m args below meth c H locs cells slots Q (F0 m tgt ls rest)) (kf : ¬ 0 < x → W p l e R s m args below meth c H locs cells slots Q (F0 m (pc + 3) ls rest)) : W p l e R s m args below meth c H locs cells slots Q (F0 m pc ls (.int x :: rest)) := lv_if_gt K.1.1 K.1.2.1 dd ht kt kf
theorem r_cle (K : Cx p l R s m args meth c g A cc nL own rt d) {x y : Int32} {off : Int} (tgt : Nat) (dd : decode cc pc = .ok (.if_icmp .le off, 3)) (ht : (pc : Int) + off = (tgt : Int)) (kt : x ≤ y → W p l e R s m args below meth c H locs cells slots Q (F0 m tgt ls rest)) (kf : ¬ x ≤ y → W p l e R s m args below meth c H locs cells slots Q (F0 m (pc + 3) ls rest)) : W p l e R s m args below meth c H locs cells slots Q (F0 m pc ls (.int y :: .int x :: rest)) := lv_icmp_le K.1.1 K.1.2.1 dd ht kt kf
theorem r_zle (K : Cx p l R s m args meth c g A cc nL own rt d) {x : Int32} {off : Int} (tgt : Nat) (dd : decode cc pc = .ok (.ifCond .le off, 3)) (ht : (pc : Int) + off = (tgt : Int)) (kt : x ≤ 0 → W p l e R s m args below meth c H locs cells slots Q (F0 m tgt ls rest)) (kf : ¬ x ≤ 0 → W p l e R s m args below meth c H locs cells slots Q (F0 m (pc + 3) ls rest)) : W p l e R s m args below meth c H locs cells slots Q (F0 m pc ls (.int x :: rest)) := lv_if_le K.1.1 K.1.2.1 dd ht kt kf
theorem r_ceqN (K : Cx p l R s m args meth c g A cc nL own rt d) {a b : Nat} {off : Int} (tgt : Nat) (dd : decode cc pc = .ok (.if_icmp .eq off, 3)) (ht : (pc : Int) + off = (tgt : Int)) (ha : a < 2 ^ 31) (hb : b < 2 ^ 31) (kt : a = b → W p l e R s m args below meth c H locs cells slots Q (F0 m tgt ls rest)) (kf : a ≠ b → W p l e R s m args below meth c H locs cells slots Q (F0 m (pc + 3) ls rest)) : W p l e R s m args below meth c H locs cells slots Q (F0 m pc ls (.int (nI b) :: .int (nI a) :: rest)) := r_ceq K tgt dd ht (fun h => kt ((nI_eq ha hb).mp h)) (fun h => kf (fun q => h ((nI_eq ha hb).mpr q)))
theorem r_cneN (K : Cx p l R s m args meth c g A cc nL own rt d) {a b : Nat} {off : Int} (tgt : Nat) (dd : decode cc pc = .ok (.if_icmp .ne off, 3)) (ht : (pc : Int) + off = (tgt : Int)) (ha : a < 2 ^ 31) (hb : b < 2 ^ 31) (kt : a ≠ b → W p l e R s m args below meth c H locs cells slots Q (F0 m tgt ls rest)) (kf : a = b → W p l e R s m args below meth c H locs cells slots Q (F0 m (pc + 3) ls rest)) : W p l e R s m args below meth c H locs cells slots Q (F0 m pc ls (.int (nI b) :: .int (nI a) :: rest)) := r_cne K tgt dd ht (fun h => kt (fun q => h ((nI_eq ha hb).mpr q))) (fun h => kf ((nI_eq ha hb).mp (by exact h)))
theorem r_cltN (K : Cx p l R s m args meth c g A cc nL own rt d) {a b : Nat} {off : Int} (tgt : Nat) (dd : decode cc pc = .ok (.if_icmp .lt off, 3)) (ht : (pc : Int) + off = (tgt : Int)) (ha : a < 2 ^ 31) (hb : b < 2 ^ 31) (kt : a < b → W p l e R s m args below meth c H locs cells slots Q (F0 m tgt ls rest)) (kf : b ≤ a → W p l e R s m args below meth c H locs cells slots Q (F0 m (pc + 3) ls rest)) : W p l e R s m args below meth c H locs cells slots Q (F0 m pc ls (.int (nI b) :: .int (nI a) :: rest)) := r_clt K tgt dd ht (fun h => kt ((nI_ltI ha hb).mp h)) (fun h => kf (Nat.not_lt.mp (fun q => h ((nI_ltI ha hb).mpr q))))
theorem r_cgeN (K : Cx p l R s m args meth c g A cc nL own rt d) {a b : Nat} {off : Int} (tgt : Nat) (dd : decode cc pc = .ok (.if_icmp .ge off, 3)) (ht : (pc : Int) + off = (tgt : Int)) (ha : a < 2 ^ 31) (hb : b < 2 ^ 31) (kt : b ≤ a → W p l e R s m args below meth c H locs cells slots Q (F0 m tgt ls rest)) (kf : a < b → W p l e R s m args below meth c H locs cells slots Q (F0 m (pc + 3) ls rest)) : W p l e R s m args below meth c H locs cells slots Q (F0 m pc ls (.int (nI b) :: .int (nI a) :: rest)) := r_cge K tgt dd ht (fun h => kt ((nI_leI hb ha).mp h)) (fun h => kf (Nat.not_le.mp (fun q => h ((nI_leI hb ha).mpr q))))
theorem r_cgtN (K : Cx p l R s m args meth c g A cc nL own rt d) {a b : Nat} {off : Int} (tgt : Nat) (dd : decode cc pc = .ok (.if_icmp .gt off, 3)) (ht : (pc : Int) + off = (tgt : Int)) (ha : a < 2 ^ 31) (hb : b < 2 ^ 31) (kt : b < a → W p l e R s m args below meth c H locs cells slots Q (F0 m tgt ls rest)) (kf : a ≤ b → W p l e R s m args below meth c H locs cells slots Q (F0 m (pc + 3) ls rest)) : W p l e R s m args below meth c H locs cells slots Q (F0 m pc ls (.int (nI b) :: .int (nI a) :: rest)) := r_cgt K tgt dd ht (fun h => kt ((nI_ltI hb ha).mp h)) (fun h => kf (Nat.not_lt.mp (fun q => h ((nI_ltI hb ha).mpr q))))
theorem r_cleN (K : Cx p l R s m args meth c g A cc nL own rt d) {a b : Nat} {off : Int} (tgt : Nat) (dd : decode cc pc = .ok (.if_icmp .le off, 3)) (ht : (pc : Int) + off = (tgt : Int)) (ha : a < 2 ^ 31) (hb : b < 2 ^ 31) (kt : a ≤ b → W p l e R s m args below meth c H locs cells slots Q (F0 m tgt ls rest)) (kf : b < a → W p l e R s m args below meth c H locs cells slots Q (F0 m (pc + 3) ls rest)) : W p l e R s m args below meth c H locs cells slots Q (F0 m pc ls (.int (nI b) :: .int (nI a) :: rest)) := r_cle K tgt dd ht (fun h => kt ((nI_leI ha hb).mp h)) (fun h => kf (Nat.not_le.mp (fun q => h ((nI_leI ha hb).mpr q))))
/-! fields and arrays -/
theorem r_get (K : Cx p l R s m args meth c g A cc nL own rt d) (h : Hp g A s H locs ws) {idx ci k : Nat} (ff : FFd own idx ci k) (q0 : Nat) {a : Nat} {fs : List Value} {v : Value} (he : ws[q0]? = some (a, .inr (ci, fs))) (hv : fs[k]? = some v) (dd : decode cc pc = .ok (.getfield idx, 3)) (kk : W p l e R s m args below meth c H locs cells slots Q (F0 m (pc + 3) ls (v :: rest))) : W p l e R s m args below meth c H locs cells slots Q (F0 m pc ls (.ref a :: rest)) := by
  obtain ⟨⟨C, T, N⟩, h1, h2, h3, h4⟩ := ff
  exact va_get (C := C) (T := T) (N := N) (Ts := BIG) K.1.1 K.1.2.1 K.1.2.2.2.2 h4 K.1.2.2.2.1 K.2.2.2.1.1 h.1 q0 he h1 k h2 (K.1.2.2.2.2 _ h3) (fun _ z => z) hv dd kk
theorem r_put (K : Cx p l R s m args meth c g A cc nL own rt d) (h : Hp g A s H locs ws) {idx ci k : Nat} (ff : FFd own idx ci k) {ty : FieldType} (pf : PFd ci k ty false) (q0 : Nat) {a : Nat} {fs : List Value} {v : Value} (fs' : List Value) (ws' : va_W) (he : ws[q0]? = some (a, .inr (ci, fs))) (hn : narrow ty v = v) (hfit : fits ty v = true) (hl : k < fs.length) (hfs : fs.set k v = fs') (hws : ws.set q0 (a, .inr (ci, fs')) = ws') (dd : decode cc pc = .ok (.putfield idx, 3)) (kk : ∀ (H : Heap) (locs : List Loc), Hp g A s H locs ws' → W p l e R s m args below meth c H locs cells slots Q (F0 m (pc + 3) ls rest)) : W p l e R s m args below meth c H locs cells slots Q (F0 m pc ls (v :: .ref a :: rest)) := by
  obtain ⟨⟨C, T, N⟩, h1, h2, h3, h4⟩ := ff
  obtain ⟨r, ty0, h5, h6, h7, h8, h9⟩ := pf
  have hr : r = (C, T, N) := Option.some.inj (h5.symm.trans h1)
  subst hr
  refine va_put (C := C) (T := T) (N := N) (Ts := BIG) K.1.1 K.1.2.1 K.1.2.2.2.2 h4 ty0 h6 h7 K.1.2.2.2.1 K.2.2.2.1.1 h.1 h.2.1 h.2.2 q0 he h1 k h2 (K.1.2.2.2.2 _ h3) (fun _ z => z) h8 h9 hn hfit hl dd (fun H1 locs1 hP hD hS => kk H1 locs1 ?_)
  rw [← hws, ← hfs]
  exact ⟨hP, hD, hS⟩
theorem cl_nI {j n : Nat} (h : j < n) (hn : n < 2 ^ 31) : (nI j).toNatClampNeg = j := nI_clamp (by omega)
theorem r_ial (K : Cx p l R s m args meth c g A cc nL own rt d) (h : Hp g A s H locs ws) (q0 : Nat) {a n : Nat} {f : Nat → Int32} {j : Nat} (he : ws[q0]? = some (a, .inl (g.2 0, n, .inl f))) (hj : j < n) (hn : n < 2 ^ 31) (dd : decode cc pc = .ok (.iaload, 1)) (kk : W p l e R s m args below meth c H locs cells slots Q (F0 m (pc + 1) ls (.int (f j) :: rest))) : W p l e R s m args below meth c H locs cells slots Q (F0 m pc ls (.int (nI j) :: .ref a :: rest)) :=
  va_iald K.1.1 K.1.2.1 K.2.2.2.1.1 h.1 q0 0 he rfl (vp_in_nI hj hn) dd (by rw [cl_nI hj hn]; exact kk)
theorem r_ialE (K : Cx p l R s m args meth c g A cc nL own rt d) (h : Hp g A s H locs ws) (q0 : Nat) {a n : Nat} {f : Nat → Int32} {j : Nat} {v : Int32} (he : ws[q0]? = some (a, .inl (g.2 0, n, .inl f))) (hj : j < n) (hn : n < 2 ^ 31) (hv : f j = v) (dd : decode cc pc = .ok (.iaload, 1)) (kk : W p l e R s m args below meth c H locs cells slots Q (F0 m (pc + 1) ls (.int v :: rest))) : W p l e R s m args below meth c H locs cells slots Q (F0 m pc ls (.int (nI j) :: .ref a :: rest)) := r_ial K h q0 he hj hn dd (by rw [hv]; exact kk)
theorem r_ias (K : Cx p l R s m args meth c g A cc nL own rt d) (h : Hp g A s H locs ws) (q0 : Nat) {a n : Nat} {f : Nat → Int32} {j : Nat} {x : Int32} (ws' : va_W) (he : ws[q0]? = some (a, .inl (g.2 0, n, .inl f))) (hj : j < n) (hn : n < 2 ^ 31) (hws : ws.set q0 (a, .inl (g.2 0, n, .inl (upd f j x))) = ws') (dd : decode cc pc = .ok (.iastore, 1)) (kk : ∀ (H : Heap) (locs : List Loc), Hp g A s H locs ws' → W p l e R s m args below meth c H locs cells slots Q (F0 m (pc + 1) ls rest)) : W p l e R s m args below meth c H locs cells slots Q (F0 m pc ls (.int x :: .int (nI j) :: .ref a :: rest)) := by
  refine va_iast K.1.1 K.1.2.1 K.2.2.2.1.1 h.1 h.2.1 h.2.2 q0 0 he rfl (vp_in_nI hj hn) dd (fun H1 locs1 hP hD hS => kk H1 locs1 ?_)
  rw [cl_nI hj hn] at hP hD
  rw [← hws]
  exact ⟨hP, hD, hS⟩
theorem r_zal (K : Cx p l R s m args meth c g A cc nL own rt d) (h : Hp g A s H locs ws) (q0 : Nat) {a n : Nat} {f : Nat → Int32} {j : Nat} (he : ws[q0]? = some (a, .inl (g.2 1, n, .inl f))) (hj : j < n) (hn : n < 2 ^ 31) (dd : decode cc pc = .ok (.baload, 1)) (kk : W p l e R s m args below meth c H locs cells slots Q (F0 m (pc + 1) ls (.int (f j) :: rest))) : W p l e R s m args below meth c H locs cells slots Q (F0 m pc ls (.int (nI j) :: .ref a :: rest)) :=
  va_zald K.1.1 K.1.2.1 K.2.2.2.1.1 h.1 q0 1 he rfl (vp_in_nI hj hn) dd (by rw [cl_nI hj hn]; exact kk)
theorem r_zas (K : Cx p l R s m args meth c g A cc nL own rt d) (h : Hp g A s H locs ws) (q0 : Nat) {a n : Nat} {f : Nat → Int32} {j : Nat} {x : Int32} (ws' : va_W) (he : ws[q0]? = some (a, .inl (g.2 1, n, .inl f))) (hj : j < n) (hn : n < 2 ^ 31) (hx : vp_nar .boolean x = x) (hws : ws.set q0 (a, .inl (g.2 1, n, .inl (upd f j x))) = ws') (dd : decode cc pc = .ok (.bastore, 1)) (kk : ∀ (H : Heap) (locs : List Loc), Hp g A s H locs ws' → W p l e R s m args below meth c H locs cells slots Q (F0 m (pc + 1) ls rest)) : W p l e R s m args below meth c H locs cells slots Q (F0 m pc ls (.int x :: .int (nI j) :: .ref a :: rest)) := by
  refine va_zast K.1.1 K.1.2.1 K.2.2.2.1.1 h.1 h.2.1 h.2.2 q0 1 he rfl (vp_in_nI hj hn) dd (fun H1 locs1 hP hD hS => kk H1 locs1 ?_)
  rw [cl_nI hj hn, hx] at hP hD
  rw [← hws]
  exact ⟨hP, hD, hS⟩
theorem r_len (K : Cx p l R s m args meth c g A cc nL own rt d) (h : Hp g A s H locs ws) (q0 : Nat) {a n : Nat} {f : Nat → Int32} (he : ws[q0]? = some (a, .inl (g.2 0, n, .inl f))) (dd : decode cc pc = .ok (.arraylength, 1)) (kk : W p l e R s m args below meth c H locs cells slots Q (F0 m (pc + 1) ls (.int (nI n) :: rest))) : W p l e R s m args below meth c H locs cells slots Q (F0 m pc ls (.ref a :: rest)) :=
  va_alen K.1.1 K.1.2.1 K.2.2.2.1.1 h.1 q0 0 he (ty := .int) rfl rfl dd kk
theorem r_aal2 (K : Cx p l R s m args meth c g A cc nL own rt d) (h : Hp g A s H locs ws) (q0 : Nat) {a n b : Nat} {f : Nat → Option Nat} {j : Nat} (he : ws[q0]? = some (a, .inl (g.2 2, n, .inr (.inr (.inr (.inr f)))))) (hj : j < n) (hn : n < 2 ^ 31) (hv : f j = some b) (dd : decode cc pc = .ok (.aaload, 1)) (kk : W p l e R s m args below meth c H locs cells slots Q (F0 m (pc + 1) ls (.ref b :: rest))) : W p l e R s m args below meth c H locs cells slots Q (F0 m pc ls (.int (nI j) :: .ref a :: rest)) :=
  va_aldq (C := "LentViews$Act") K.1.1 K.1.2.1 K.2.2.2.1.1 h.1 q0 2 he rfl (vp_in_nI hj hn) dd (by rw [cl_nI hj hn, hv]; exact kk)
theorem r_aal3 (K : Cx p l R s m args meth c g A cc nL own rt d) (h : Hp g A s H locs ws) (q0 : Nat) {a n b : Nat} {f : Nat → Option Nat} {j : Nat} (he : ws[q0]? = some (a, .inl (g.2 3, n, .inr (.inr (.inr (.inr f)))))) (hj : j < n) (hn : n < 2 ^ 31) (hv : f j = some b) (dd : decode cc pc = .ok (.aaload, 1)) (kk : W p l e R s m args below meth c H locs cells slots Q (F0 m (pc + 1) ls (.ref b :: rest))) : W p l e R s m args below meth c H locs cells slots Q (F0 m pc ls (.int (nI j) :: .ref a :: rest)) :=
  va_aldq (C := "LentViews$World") K.1.1 K.1.2.1 K.2.2.2.1.1 h.1 q0 3 he rfl (vp_in_nI hj hn) dd (by rw [cl_nI hj hn, hv]; exact kk)
theorem r_cpy (K : Cx p l R s m args meth c g A cc nL own rt d) (h : Hp g A s H locs ws) (hl : Lq ls nL lv) (q0 q1 : Nat) {idx a0 a1 n0 n1 sp dp n : Nat} {f0 f1 : Nat → Int32} (f' : Nat → Int32) (ws' : va_W) (hw : Cond.methodLink own idx arraycopyName ∈ BIG) (he0 : ws[q0]? = some (a0, .inl (g.2 0, n0, .inl f0))) (he1 : ws[q1]? = some (a1, .inl (g.2 0, n1, .inl f1))) (h0 : sp + n ≤ n0) (h1 : dp + n ≤ n1) (hb : n0 < 2 ^ 31 ∧ n1 < 2 ^ 31) (hf : ∀ j, j < n1 → va_cpy f0 f1 sp dp n j = f' j) (hws : ws.set q1 (a1, .inl (g.2 0, n1, .inl f')) = ws') (hd : 1 ≤ d) (hrest : (rest.map fun v => v.category).sum ≤ 8) (dd : decode cc pc = .ok (.invokestatic idx, 3)) (kk : ∀ (H : Heap) (locs : List Loc), Hp g A s H locs ws' → W p l e R s m args below meth c H locs cells slots Q (F0 m (pc + 3) ls rest)) : W p l e R s m args below meth c H locs cells slots Q (F0 m pc ls (.int (nI n) :: .int (nI dp) :: .ref a1 :: .int (nI sp) :: .ref a0 :: rest)) := by
  obtain ⟨⟨hx, hbb, hml, hown, hts⟩, -, -, hK, hA, hR1, hR2⟩ := K
  have e1 : sp < 2 ^ 31 := by omega
  have e2 : dp < 2 ^ 31 := by omega
  have e3 : n < 2 ^ 31 := by omega
  have e4 : nativeFrameWords "java/lang/System" "arraycopy" 5 ≤ 19 := by decide +kernel
  have e5 : (rest.map fun v => v.category).sum + (nativeFrameWords "java/lang/System" "arraycopy" 5 + 11) ≤ R.locals := by omega
  have e6 : 1 ≤ R.frames := by omega
  refine va_copyi hx hbb (hml.trans (by rw [hl.2.1.1])) hown (hts _ hw) (hts _ ay_1) (hts _ ay_2) (hts _ inJ10) hK.1 h.1 h.2.1 h.2.2 q0 q1 0 0 he0 he1 (ty := .int) rfl rfl rfl (nI_pos e1) (nI_pos e2) (nI_pos e3) (by rw [nI_clamp e1, nI_clamp e3]; exact h0) (by rw [nI_clamp e2, nI_clamp e3]; exact h1) (fun _ _ => rfl) e6 e5 dd (fun H1 locs1 hP hD hS => kk H1 locs1 ?_)
  rw [nI_clamp (show sp < 2 ^ 31 by omega), nI_clamp (show dp < 2 ^ 31 by omega), nI_clamp (show n < 2 ^ 31 by omega)] at hP hD
  rw [← hws]
  have hh : Hp g A s H1 locs1 (ws.set q1 (a1, .inl (g.2 0, n1, .inl (va_cpy f0 f1 sp dp n)))) := ⟨hP, hD, hS⟩
  have hlt : q1 < ws.length := (List.getElem?_eq_some_iff.mp he1).1
  have := hh.arr q1 f' (by rw [List.getElem?_set_self hlt]) hf
  rwa [List.set_set] at this
theorem r_min (K : Cx p l R s m args meth c g A cc nL own rt d) (hl : Lq ls nL lv) {idx : Nat} {x y : Int32} (hw : Cond.methodLink own idx Lib.Math.min.name ∈ BIG) (hd : 1 ≤ d) (hrest : (rest.map fun v => v.category).sum ≤ 8) (hc : cells ≤ R.cells) (hs : slots ≤ R.slots) (dd : decode cc pc = .ok (.invokestatic idx, 3)) (kk : W p l e R s m args below meth c H locs cells slots Q (F0 m (pc + 3) ls (.int (if y < x then y else x) :: rest))) : W p l e R s m args below meth c H locs cells slots Q (F0 m pc ls (.int y :: .int x :: rest)) := by
  obtain ⟨⟨hx, hbb, hml, hown, hts⟩, -, -, hK, hA, hR1, hR2⟩ := K
  exact va_mmin hx hbb (hml.trans (by rw [hl.2.1.1])) hown (hts _ hw) (hts _ mmin_1) (hts _ inJ9) (hts _ mmin_2) (by omega) (by omega) hc hs dd kk
theorem r_max (K : Cx p l R s m args meth c g A cc nL own rt d) (hl : Lq ls nL lv) {idx : Nat} {x y : Int32} (hw : Cond.methodLink own idx Lib.Math.max.name ∈ BIG) (hd : 1 ≤ d) (hrest : (rest.map fun v => v.category).sum ≤ 8) (hc : cells ≤ R.cells) (hs : slots ≤ R.slots) (dd : decode cc pc = .ok (.invokestatic idx, 3)) (kk : W p l e R s m args below meth c H locs cells slots Q (F0 m (pc + 3) ls (.int (if x < y then y else x) :: rest))) : W p l e R s m args below meth c H locs cells slots Q (F0 m pc ls (.int y :: .int x :: rest)) := by
  obtain ⟨⟨hx, hbb, hml, hown, hts⟩, -, -, hK, hA, hR1, hR2⟩ := K
  exact va_mmax hx hbb (hml.trans (by rw [hl.2.1.1])) hown (hts _ hw) (hts _ mmax_1) (hts _ inJ9) (hts _ mmax_2) (by omega) (by omega) hc hs dd kk
end ROWS
end
section
/-! calls of methods that make nothing -/
theorem mw_good {y : MethodName} {cc : ByteArray} {n : Nat} {r : Option FieldType} (h : Cond.code y cc n r ∈ BIG) : GoodIn BIG (MW y cc n r) := fun w hw => (List.mem_cons.mp hw).elim (fun e => by rw [e]; exact ⟨h, big_good h⟩) (fun h2 => ⟨h2, big_good h2⟩)
section CALLS
variable {p : Program} {l : Launch} {e : Env} {R : Room} {s : State} {m : MethodId} {args : Array Value} {below : List Frame} {meth : Method} {c : Code} {H : Heap} {locs : List Loc} {cells slots : Nat} {Q : State → Prop}
variable {g : GG} {A : Nat → Prop} {cc : ByteArray} {nL : Nat} {own : String} {rt : Option FieldType} {d : Nat} {pc : Nat} {ls : Array Slot} {rest st0 : List Value} {ws w0 w1 : va_W} {lv : List (Option Value)}
variable {y : MethodName} {bytes : ByteArray} {maxL d' np idx : Nat} {rt' : Option FieldType} {As av : List Value} {ans : Option Value} {b : Nat}
theorem r_back {a : Array Value} (hr : va_Run p l e R s m args below meth c H locs cells slots 0 0 (F0 m pc ls st0) rest (cQ g ans w1 (va_A w0 H.size) a) (va_A w0 H.size)) (h : Hp g A s H locs ws) (hA : ∀ q, s.heap.size ≤ q → A q) (isC : List Nat) (hC : isC.map (fun i => ws[i]?) = w0.map some) (hs : w1.map Prod.fst = w0.map Prod.fst) {ws' : va_W} (hws : putAt ws isC w1 = ws')
    (kk : ∀ (H : Heap) (locs : List Loc), Hp g A s H locs ws' → W p l e R s m args below meth c H locs cells slots Q (F0 m (pc + 3) ls (ans.toList ++ rest))) : W p l e R s m args below meth c H locs cells slots Q (F0 m pc ls st0) := by
  have hf : ∀ q, va_A w0 H.size q → A q := fun q hq => by
    rcases hq with ⟨k, e, hk⟩ | hq
    · obtain ⟨i, -, h2⟩ := map_at hC hk
      exact h.2.1.2 i (q, e) h2
    · exact hA q (Nat.le_trans h.2.2.1 hq)
  intro T hT X
  obtain ⟨v, st₀, t, T', L, h0, X', hL, e1, e2, ⟨⟨hv, hP1⟩, hz, hk⟩, st⟩ := hr T hT X
  cases hv
  rw [h0] at hz hk
  have hS : va_S A s.heap T'.heap (locs ++ L) := ⟨Nat.le_trans h.2.2.1 (by rw [e1]; exact hz), fun q h1 h2 => by rw [e1, hk q (Nat.lt_of_lt_of_le h1 h.2.2.1) (fun z => h2 (hf q z))]; exact h.2.2.2.1 q h1 h2, fun q hq => by
      rcases List.mem_append.mp hq with h1 | h1
      · exact h.2.2.2.2 q h1
      · exact hf _ (hL q h1)⟩
  have hb := h.back (H1 := T'.heap) isC hC hs (by rw [e1]; exact hP1) (fun q h1 h2 => by rw [e1]; exact hk q h1 h2) hS
  rw [hws] at hb
  obtain ⟨t2, a1, b1⟩ := kk T'.heap (locs ++ L) hb T' rfl X'
  exact ⟨t2, st t2 a1, b1⟩
theorem sub_P {isC : List Nat} (h : Hp g A s H locs ws) (hC : isC.map (fun i => ws[i]?) = w0.map some) : va_P g.1 vwCl w0 H := fun k q hk => by
  obtain ⟨i, -, h2⟩ := map_at hC hk
  exact h.1 i q h2
theorem r_callV (K : Cx p l R s m args meth c g A cc nL own rt d) (h : Hp g A s H locs ws) (hl : Lq ls nL lv) (ct : Ct l g y bytes maxL rt' d' (.ref b :: As) w0 ans w1) (mc : MCd y bytes maxL rt' np) (vm : VMd y) (ml : Cond.methodLink own idx y ∈ BIG) (q0 : Nat) {ci : Nat} {fs : List Value} {r : vw_C} (hq : ws[q0]? = some (b, .inr (ci, fs))) (hc : vwCl[ci]? = some r) (hy : r.1 = y.cls) (isC : List Nat) (hn : va_nd isC = true) (hC : isC.map (fun i => ws[i]?) = w0.map some) (hs : w1.map Prod.fst = w0.map Prod.fst) (ws' : va_W) (hws : putAt ws isC w1 = ws') (hd : d' + 1 ≤ d) (hm : maxL ≤ 19) (hnp : As.length = np) (hst : st0 = As.reverse ++ .ref b :: rest) (hrest : (rest.map fun v => v.category).sum ≤ 8) (hcs : cells ≤ R.cells ∧ slots ≤ R.slots) (dd : decode cc pc = .ok (.invokevirtual idx, 3))
    (kk : ∀ (H : Heap) (locs : List Loc), Hp g A s H locs ws' → W p l e R s m args below meth c H locs cells slots Q (F0 m (pc + 3) ls (ans.toList ++ rest))) : W p l e R s m args below meth c H locs cells slots Q (F0 m pc ls st0) := by
  obtain ⟨hcf, -, -, hK, hA, hR1, hR2⟩ := K
  have hcw : CallW R s args own y.cls idx y bytes maxL rt' (MW y bytes maxL rt') (RM d') 0 0 np := ⟨callB_of np hcf.2.2.2.2 (mw_good mc.1) rfl rfl rfl (hcf.2.2.2.2 _ mc.2.1) (hcf.2.2.2.2 _ ml) mc.2.2 ⟨show d' + 1 ≤ R.frames by omega, show 8 + (maxL + 11) + 38 * d' ≤ R.locals by omega⟩, hcf.2.2.2.2 _ vm.1, hcf.2.2.2.2 _ vm.2⟩
  have hrv := va_recv hK.1 h.1 hc hq
  rw [hy] at hrv
  exact r_back (va_runV (As := As) (rest := rest) hcf (ct H.size) hcw ⟨cPre.blind, hrv, fun U hU hW => ⟨rfl, by rw [hU], by rw [hU]; exact sub_P h hC, hK.warm hW, (h.2.1.sub isC hn hC).weaken (fun _ _ _ _ => trivial)⟩⟩ rfl hnp hl.2.1.1 hst (lv_room hrest) dd hcs) h hA isC hC hs hws kk
theorem r_callS (K : Cx p l R s m args meth c g A cc nL own rt d) (h : Hp g A s H locs ws) (hl : Lq ls nL lv) (ct : Ct l g y bytes maxL rt' d' As w0 ans w1) (mc : MCd y bytes maxL rt' np) (sm : Cond.static y ∈ BIG) (ml : Cond.methodLink own idx y ∈ BIG) (isC : List Nat) (hn : va_nd isC = true) (hC : isC.map (fun i => ws[i]?) = w0.map some) (hs : w1.map Prod.fst = w0.map Prod.fst) (ws' : va_W) (hws : putAt ws isC w1 = ws') (hd : d' + 1 ≤ d) (hm : maxL ≤ 19) (hnp : As.length = np) (hst : st0 = As.reverse ++ rest) (hrest : (rest.map fun v => v.category).sum ≤ 8) (hcs : cells ≤ R.cells ∧ slots ≤ R.slots) (dd : decode cc pc = .ok (.invokestatic idx, 3))
    (kk : ∀ (H : Heap) (locs : List Loc), Hp g A s H locs ws' → W p l e R s m args below meth c H locs cells slots Q (F0 m (pc + 3) ls (ans.toList ++ rest))) : W p l e R s m args below meth c H locs cells slots Q (F0 m pc ls st0) := by
  obtain ⟨hcf, -, -, hK, hA, hR1, hR2⟩ := K
  have hcw : CallB R s args own idx y bytes maxL rt' (MW y bytes maxL rt') (RM d') 0 0 np := callB_of np hcf.2.2.2.2 (mw_good mc.1) rfl rfl rfl (hcf.2.2.2.2 _ mc.2.1) (hcf.2.2.2.2 _ ml) mc.2.2 ⟨show d' + 1 ≤ R.frames by omega, show 8 + (maxL + 11) + 38 * d' ≤ R.locals by omega⟩
  exact r_back (va_runS (As := As) (rest := rest) hcf (ct H.size) ⟨hcw, hcf.2.2.2.2 _ sm⟩ ⟨cPre.blind, fun U hU hW => ⟨rfl, by rw [hU], by rw [hU]; exact sub_P h hC, hK.warm hW, (h.2.1.sub isC hn hC).weaken (fun _ _ _ _ => trivial)⟩⟩ rfl hnp hl.2.1.1 hst (lv_room hrest) dd hcs) h hA isC hC hs hws kk
theorem r_callSN (K : Cx p l R s m args meth c g A cc nL own rt d) (h : Hp g A s H locs ws) (hl : Lq ls nL lv) (ct : Ct l g y bytes maxL rt' d' As w0 ans w1) (mc : MCd y bytes maxL rt' np) (sm : Cond.static y ∈ BIG) (ml : ∀ U, NS U → va_Nw (.methodLinkNest own idx y RX5) U) (isC : List Nat) (hn : va_nd isC = true) (hC : isC.map (fun i => ws[i]?) = w0.map some) (hs : w1.map Prod.fst = w0.map Prod.fst) (ws' : va_W) (hws : putAt ws isC w1 = ws') (hd : d' + 1 ≤ d) (hm : maxL ≤ 19) (hnp : As.length = np) (hst : st0 = As.reverse ++ rest) (hrest : (rest.map fun v => v.category).sum ≤ 8) (hcs : cells ≤ R.cells ∧ slots ≤ R.slots) (dd : decode cc pc = .ok (.invokestatic idx, 3))
    (kk : ∀ (H : Heap) (locs : List Loc), Hp g A s H locs ws' → W p l e R s m args below meth c H locs cells slots Q (F0 m (pc + 3) ls (ans.toList ++ rest))) : W p l e R s m args below meth c H locs cells slots Q (F0 m pc ls st0) := by
  obtain ⟨hcf, -, -, hK, hA, hR1, hR2⟩ := K
  have hcw : va_CN R s args own idx y RX5 bytes maxL rt' (MW y bytes maxL rt') (RM d') 0 0 np := va_cnB np hcf.2.2.2.2 (mw_good mc.1) rfl rfl rfl (ml s hK.2.1) (hcf.2.2.2.2 _ mc.2.1) mc.2.2 ⟨show d' + 1 ≤ R.frames by omega, show 8 + (maxL + 11) + 38 * d' ≤ R.locals by omega⟩
  exact r_back (va_runSN (As := As) (rest := rest) hcf (ct H.size) ⟨hcw, hcf.2.2.2.2 _ sm, trivial⟩ ⟨cPre.blind, fun U hU hW => ⟨rfl, by rw [hU], by rw [hU]; exact sub_P h hC, hK.warm hW, (h.2.1.sub isC hn hC).weaken (fun _ _ _ _ => trivial)⟩⟩ rfl hnp hl.2.1.1 hst (lv_room hrest) dd hcs) h hA isC hC hs hws kk
end CALLS
end
section
theorem kb_m9 : (Int8.ofInt (-9)).toInt32 = -9 := by decide
theorem kb_m3 : (Int8.ofInt (-3)).toInt32 = -3 := by decide
theorem kb_m2 : (Int8.ofInt (-2)).toInt32 = -2 := by decide
theorem kb_6 : (Int8.ofInt (6)).toInt32 = nI 6 := by decide
theorem kb_8 : (Int8.ofInt (8)).toInt32 = nI 8 := by decide
theorem kb_10 : (Int8.ofInt (10)).toInt32 = nI 10 := by decide
theorem kb_11 : (Int8.ofInt (11)).toInt32 = nI 11 := by decide
theorem kb_14 : (Int8.ofInt (14)).toInt32 = nI 14 := by decide
theorem kb_16 : (Int8.ofInt (16)).toInt32 = nI 16 := by decide
theorem kb_18 : (Int8.ofInt (18)).toInt32 = nI 18 := by decide
theorem kb_20 : (Int8.ofInt (20)).toInt32 = nI 20 := by decide
theorem kb_24 : (Int8.ofInt (24)).toInt32 = nI 24 := by decide
theorem kb_31 : (Int8.ofInt (31)).toInt32 = nI 31 := by decide
theorem kb_32 : (Int8.ofInt (32)).toInt32 = nI 32 := by decide
theorem kb_38 : (Int8.ofInt (38)).toInt32 = nI 38 := by decide
theorem kb_42 : (Int8.ofInt (42)).toInt32 = nI 42 := by decide
theorem kb_63 : (Int8.ofInt (63)).toInt32 = nI 63 := by decide
theorem kb_99 : (Int8.ofInt (99)).toInt32 = nI 99 := by decide
theorem k_m1 : Int32.ofInt (-1) = -1 := by decide
theorem k_0 : Int32.ofInt (0) = nI 0 := by decide
theorem k_1 : Int32.ofInt (1) = nI 1 := by decide
theorem k_2 : Int32.ofInt (2) = nI 2 := by decide
theorem k_3 : Int32.ofInt (3) = nI 3 := by decide
theorem k_4 : Int32.ofInt (4) = nI 4 := by decide
theorem k_5 : Int32.ofInt (5) = nI 5 := by decide
theorem ks_200 : (Int16.ofInt (200)).toInt32 = nI 200 := by decide
theorem ks_264 : (Int16.ofInt (264)).toInt32 = nI 264 := by decide
theorem ks_440 : (Int16.ofInt (440)).toInt32 = nI 440 := by decide
theorem ks_512 : (Int16.ofInt (512)).toInt32 = nI 512 := by decide
theorem ks_1000 : (Int16.ofInt (1000)).toInt32 = nI 1000 := by decide
theorem ks_1024 : (Int16.ofInt (1024)).toInt32 = nI 1024 := by decide
theorem ks_2048 : (Int16.ofInt (2048)).toInt32 = nI 2048 := by decide
theorem ks_2560 : (Int16.ofInt (2560)).toInt32 = nI 2560 := by decide
end
section
/-! truth values, and small pure words -/
def bI (b : Bool) : Int32 := nI (if b then 1 else 0)
theorem bI_0 {b : Bool} : bI b = 0 ↔ b = false := by cases b <;> decide
theorem bI_n0 {b : Bool} : ¬ bI b = 0 ↔ b = true := by cases b <;> decide
theorem narB (b : Bool) : narrow .boolean (.int (bI b)) = .int (bI b) := by cases b <;> rfl
def inB (v lo hi : Int32) : Bool := decide (lo ≤ v ∧ v ≤ hi)
section BROWS
variable {p : Program} {l : Launch} {e : Env} {R : Room} {s : State} {m : MethodId} {args : Array Value} {below : List Frame} {meth : Method} {c : Code} {H : Heap} {locs : List Loc} {cells slots : Nat} {Q : State → Prop}
variable {g : GG} {A : Nat → Prop} {cc : ByteArray} {nL : Nat} {own : String} {rt : Option FieldType} {d : Nat} {pc : Nat} {ls : Array Slot} {rest : List Value}
theorem r_zeqB (K : Cx p l R s m args meth c g A cc nL own rt d) {b : Bool} {off : Int} (tgt : Nat) (dd : decode cc pc = .ok (.ifCond .eq off, 3)) (ht : (pc : Int) + off = (tgt : Int)) (kt : b = false → W p l e R s m args below meth c H locs cells slots Q (F0 m tgt ls rest)) (kf : b = true → W p l e R s m args below meth c H locs cells slots Q (F0 m (pc + 3) ls rest)) : W p l e R s m args below meth c H locs cells slots Q (F0 m pc ls (.int (bI b) :: rest)) := r_zeq K tgt dd ht (fun h => kt (bI_0.mp h)) (fun h => kf (bI_n0.mp h))
theorem r_zneB (K : Cx p l R s m args meth c g A cc nL own rt d) {b : Bool} {off : Int} (tgt : Nat) (dd : decode cc pc = .ok (.ifCond .ne off, 3)) (ht : (pc : Int) + off = (tgt : Int)) (kt : b = true → W p l e R s m args below meth c H locs cells slots Q (F0 m tgt ls rest)) (kf : b = false → W p l e R s m args below meth c H locs cells slots Q (F0 m (pc + 3) ls rest)) : W p l e R s m args below meth c H locs cells slots Q (F0 m pc ls (.int (bI b) :: rest)) := r_zne K tgt dd ht (fun h => kt (bI_n0.mp h)) (fun h => kf (bI_0.mp h))
end BROWS
/-- a nest mate's link -/
theorem nnX2_27 : ∀ U, NS U → va_Nw (.methodLinkNest RX2 27 yX5_copyAll RX5) U := fun _ h => h.2.2.2.2.2.1
theorem nnX0_63 : ∀ U, NS U → va_Nw (.methodLinkNest RX0 63 yX5_copyAll RX5) U := fun _ h => h.2.2.2.2.2.2
/-! the reference's row, a function of its places -/
abbrev Row : Type := Nat → Int32
abbrev aI (g : GG) (a n : Nat) (f : Row) : Nat × va_E := (a, .inl (g.2 0, n, .inl f))
def mBares (n mv wr : Int32) : Row := upd (upd (upd (fun _ => 0) 0 n) 1 mv) 2 wr
def wAt (p : Nat) : Nat := 32 + 42 * p
def mIdles (f : Row) (p : Nat) : Row := fun j => if 32 + 42 * p ≤ j ∧ j < 32 + 42 * p + 42 then 0 else f j
theorem upd_ne {f : Row} {a b : Nat} {x : Int32} (h : b ≠ a) : upd f a x b = f b := pk_un h
theorem upd_self {f : Row} {a : Nat} {x : Int32} : upd f a x a = x := pk_us
theorem cpy_0 {f g : Row} {sp dp : Nat} : va_cpy f g sp dp 0 = g := by
  funext j; unfold va_cpy; rw [if_neg (by omega)]
theorem cpy_s {f g : Row} {sp dp k : Nat} : upd (va_cpy f g sp dp k) (dp + k) (f (sp + k)) = va_cpy f g sp dp (k + 1) := by
  funext j
  unfold upd va_cpy
  by_cases h : j = dp + k
  · subst h; rw [if_pos rfl, if_pos (by omega)]; congr 1; omega
  · rw [if_neg h]
    by_cases h2 : dp ≤ j ∧ j < dp + k
    · rw [if_pos h2, if_pos (by omega)]
    · rw [if_neg h2, if_neg (by omega)]
theorem cpy_o {f g : Row} {sp dp k j : Nat} (h : j < dp ∨ dp + k ≤ j) : va_cpy f g sp dp k j = g j := pk_cpy_out h
theorem cpy_i {f g : Row} {sp dp k j : Nat} (h : dp ≤ j) (h2 : j < dp + k) : va_cpy f g sp dp k j = f (sp + (j - dp)) := pk_cpy_in h h2
theorem idl_o {f : Row} {p j : Nat} (h : j < 32 + 42 * p ∨ 32 + 42 * p + 42 ≤ j) : mIdles f p j = f j := if_neg (by omega)
theorem idl_i {f : Row} {p j : Nat} (h : 32 + 42 * p ≤ j) (h2 : j < 32 + 42 * p + 42) : mIdles f p j = 0 := if_pos ⟨h, h2⟩
def mActs (f : Row) (p : Nat) (act v : Int32) : Row :=
  let g0 := mIdles f p
  let g1 := upd g0 (32 + 42 * p + 0) act
  let g2 := upd g1 (32 + 42 * p + 1) v
  let g3 := upd g2 (32 + 42 * p + 3) (g2 3)
  upd g3 4 (g3 4 + nI 1)
def rN (f : Row) : Nat := (f 0).toNatClampNeg
def rPh (f : Row) : Nat := (f 5).toNatClampNeg
def rWr (f : Row) : Nat := (f 6).toNatClampNeg
def rSt (f : Row) (p : Nat) : Nat := (f (32 + 42 * p + 2)).toNatClampNeg
def mWr1 (f : Row) (p : Nat) : Row :=
  let f1 := upd f (8 + 6 * p) (f (32 + 42 * p + 1))
  let f2 := upd f1 (8 + 6 * p + 1) (f1 (8 + 6 * p + 1) + nI 1)
  upd f2 (8 + 6 * p + 1) (if f2 2 = 0 then f2 (8 + 6 * p + 1) else f2 (8 + 6 * p + 1) - f2 (8 + 6 * p + 1) / f2 2 * f2 2)
def mEv (f : Row) (p : Nat) : Row :=
  let b := 440 + 3 * rWr f
  let f1 := upd f b (f 3)
  let f2 := upd f1 (b + 1) (nI p)
  let f3 := upd f2 (b + 2) (f2 (32 + 42 * p + 1))
  upd f3 6 (f3 6 + nI 1)
def mWrite (f : Row) (p : Nat) : Row :=
  let f3 := mWr1 f p
  let f4 := va_cpy f3 f3 (32 + 42 * p + 38) (8 + 6 * p + 2) 4
  mIdles (if rWr f < 24 then mEv f4 p else f4) p
def lentI : Option Nat → Int32
  | none => -9
  | some q => nI q
def mSrc (f : Row) (p : Nat) (q : Option Nat) (k : Nat) : Int32 := match q with
  | none => f (32 + 42 * p + 14 + 6 * k)
  | some q => f (32 + 42 * p + 14 + 6 * q + 2 + k)
def mTk (f : Row) (p : Nat) (q : Option Nat) (n : Nat) : Row := fun j => if 32 + 42 * p + 38 ≤ j ∧ j < 32 + 42 * p + 38 + n then mSrc f p q (j - (32 + 42 * p + 38)) else f j
def mPho (f : Row) (p : Nat) (q : Option Nat) : Row :=
  let b := 200 + 10 * rPh f
  let f1 := upd f b (nI p)
  let f2 := upd f1 (b + 1) (f1 (32 + 42 * p + 3))
  let f3 := upd f2 (b + 2) (f2 3)
  let f4 := upd f3 (b + 3) (f3 (32 + 42 * p + 2))
  let f5 := upd f4 (b + 4) (lentI q)
  let f6 := upd f5 (b + 5) (if f5 (32 + 42 * p + 0) = nI 2 then nI 1 else nI 0)
  let f7 := va_cpy f6 f6 (32 + 42 * p + 38) (b + 6) 4
  upd f7 5 (f7 5 + nI 1)
def mTakes (f : Row) (p : Nat) (q : Option Nat) : Row :=
  let f1 := mTk f p q (rN f)
  upd (if rPh f < 24 then mPho f1 p q else f1) (32 + 42 * p + 5) (nI 1)
/-- whether cell c has moved in the whole collect -/
def mMv (f : Row) (p c : Nat) : Bool := decide (nI 1 < f (32 + 42 * p + 4)) && decide (f (32 + 42 * p + 14 + 6 * c + 1) ≠ f (32 + 42 * p + 10 + c))
def anyMv (f : Row) (p : Nat) : Nat → Bool
  | 0 => false
  | k + 1 => anyMv f p k || mMv f p k
def mCnt (f : Row) (p k : Nat) : Row := fun j => if 32 + 42 * p + 10 ≤ j ∧ j < 32 + 42 * p + 10 + k then f (32 + 42 * p + 14 + 6 * (j - (32 + 42 * p + 10)) + 1) else if 32 + 42 * p + 6 ≤ j ∧ j < 32 + 42 * p + 6 + k ∧ mMv f p (j - (32 + 42 * p + 6)) = true then f j + nI 1 else f j
def lendG (f : Row) (p : Nat) : Nat → Nat → Option Nat
  | _, 0 => none
  | j, i + 1 => if f 1 ≤ f (32 + 42 * p + 6 + j) then some j else lendG f p (j + 1) i
def mLend (f : Row) (p : Nat) : Option Nat := lendG f p 0 (rN f)
theorem lendG_lt {f : Row} {p : Nat} : ∀ (i j q : Nat), lendG f p j i = some q → j ≤ q ∧ q < j + i
  | 0, _, _, h => by simp [lendG] at h
  | i + 1, j, q, h => by
    rw [lendG] at h
    split at h
    · cases h; omega
    · have := lendG_lt i (j + 1) q h; omega
def mRead (f : Row) (p c : Nat) : Row := va_cpy f f (8 + 6 * c) (32 + 42 * p + 14 + 6 * c) 6
def mS2 (f : Row) (p : Nat) : Row :=
  let f1 := upd f 3 (f 3 + nI 1)
  upd f1 (32 + 42 * p + 2) (f1 (32 + 42 * p + 2) + nI 1)
/-- behind a whole collect -/
def mWhole (f : Row) (p : Nat) : Row :=
  let f4 := upd f (32 + 42 * p + 4) (f (32 + 42 * p + 4) + nI 1)
  let f5 := mCnt f4 p (rN f)
  let is := anyMv f4 p (rN f)
  let q := if is then mLend f5 p else none
  if f5 (32 + 42 * p + 4) = nI 1 ∨ (is = true ∧ q = none) then f5 else
  let f6 := mTakes f5 p q
  if f6 (32 + 42 * p + 0) = nI 1 then mIdles f6 p else f6
def mStep (f : Row) (p : Nat) : Row :=
  let f2 := mS2 f p
  if f2 (32 + 42 * p + 5) = nI 1 then mWrite f2 p else
  let c := rSt f p % rN f
  let f3 := mRead f2 p c
  if c < rN f - 1 then f3 else mWhole f3 p
end
section
-- in: v lies from lo to hi
set_option maxHeartbeats 4000000 in
set_option maxRecDepth 100000 in
theorem c_X6_in (l : Launch) (g : GG) (v lo hi : Int32) : Ct l g yX6_in cX6_in 3 (some .boolean) 0 [.int v, .int lo, .int hi] [] (some (.int (bI (inB v lo hi)))) [] := by
  refine Ct.start (by decide +kernel) (Nat.le_of_ble_eq_true rfl) (by simp [Value.category]) (Or.inr ⟨.boolean, _, rfl, rfl, narB _⟩) ?_
  intro p0 e R s m args below meth c A Q K hr h ls hl
  have hl : Lq ls 3 [some (.int v), some (.int lo), some (.int hi)] := hl
  refine r_iln K hl 0 dX6_in_0 rfl rfl ?_
  refine r_iln K hl 1 dX6_in_1 rfl rfl ?_
  refine r_clt K 14 dX6_in_2 (by decide) (fun c2 => ?_) (fun c2 => ?_)
  · refine r_ic K (nI 0) dX6_in_14 k_0 ?_
    exact hr.1 _ _ _ _ _ dX6_in_15 h (by simp only [inB]; rw [decide_eq_false (fun q => absurd q.1 (Int32.not_le.mpr c2))]; rfl)
  · refine r_iln K hl 0 dX6_in_5 rfl rfl ?_
    refine r_iln K hl 2 dX6_in_6 rfl rfl ?_
    refine r_cgt K 14 dX6_in_7 (by decide) (fun c7 => ?_) (fun c7 => ?_)
    · refine r_ic K (nI 0) dX6_in_14 k_0 ?_
      exact hr.1 _ _ _ _ _ dX6_in_15 h (by simp only [inB]; rw [decide_eq_false (fun q => absurd q.2 (Int32.not_le.mpr c7))]; rfl)
    · refine r_ic K (nI 1) dX6_in_10 k_1 ?_
      refine r_go K 15 dX6_in_11 (by decide) ?_
      exact hr.1 _ _ _ _ _ dX6_in_15 h (by simp only [inB]; rw [decide_eq_true ⟨Int32.not_lt.mp c2, Int32.not_lt.mp c7⟩]; rfl)

set_option maxHeartbeats 4000000 in
set_option maxRecDepth 100000 in
theorem c_X6_writerAt (l : Launch) (g : GG) (p : Nat) : Ct l g yX6_writerAt cX6_writerAt 1 (some .int) 0 [.int (nI p)] [] (some (.int (nI (32 + 42 * p)))) [] := by
  refine Ct.start (by decide +kernel) (Nat.le_of_ble_eq_true rfl) (by simp [Value.category]) (Or.inr ⟨.int, _, rfl, rfl, rfl⟩) ?_
  intro p0 e R s m args below meth c A Q K hr h ls hl
  have hl : Lq ls 1 [some (.int (nI p))] := hl
  refine r_bp K (nI 32) dX6_writerAt_0 kb_32 ?_
  refine r_bp K (nI 42) dX6_writerAt_2 kb_42 ?_
  refine r_iln K hl 0 dX6_writerAt_4 rfl rfl ?_
  refine r_mulN K dX6_writerAt_5 ?_
  refine r_addN K dX6_writerAt_6 ?_
  exact hr.1 _ _ _ _ _ dX6_writerAt_7 h rfl

set_option maxHeartbeats 4000000 in
set_option maxRecDepth 100000 in
theorem c_X6_cellAt (l : Launch) (g : GG) (p : Nat) : Ct l g yX6_cellAt cX6_cellAt 1 (some .int) 0 [.int (nI p)] [] (some (.int (nI (8 + 6 * p)))) [] := by
  refine Ct.start (by decide +kernel) (Nat.le_of_ble_eq_true rfl) (by simp [Value.category]) (Or.inr ⟨.int, _, rfl, rfl, rfl⟩) ?_
  intro p0 e R s m args below meth c A Q K hr h ls hl
  have hl : Lq ls 1 [some (.int (nI p))] := hl
  refine r_bp K (nI 8) dX6_cellAt_0 kb_8 ?_
  refine r_bp K (nI 6) dX6_cellAt_2 kb_6 ?_
  refine r_iln K hl 0 dX6_cellAt_4 rfl rfl ?_
  refine r_mulN K dX6_cellAt_5 ?_
  refine r_addN K dX6_cellAt_6 ?_
  exact hr.1 _ _ _ _ _ dX6_cellAt_7 h rfl

set_option maxHeartbeats 4000000 in
set_option maxRecDepth 100000 in
theorem c_X6_bares (l : Launch) (g : GG) (a : Nat) (f : Row) (n mv wr : Int32) : Ct l g yX6_bares cX6_bares 5 none 0 [.ref a, .int n, .int mv, .int wr] [aI g a 512 f] none [aI g a 512 (mBares n mv wr)] := by
  refine Ct.start (by decide +kernel) (Nat.le_of_ble_eq_true rfl) (by simp [Value.category]) (Or.inl ⟨rfl, rfl⟩) ?_
  intro p0 e R s m args below meth c A Q K hr h ls hl
  have hl : Lq ls 5 [some (.ref a), some (.int n), some (.int mv), some (.int wr), none] := hl
  refine r_ic K (nI 0) dX6_bares_0 k_0 ?_
  refine r_is K hl 4 [_, _, _, _, _] dX6_bares_1 (by decide) rfl (fun ls hl => ?_)
  have loop : ∀ (j k : Nat) (fc : Row), k + j = 512 → (∀ t, t < k → fc t = 0) → ∀ (H : Heap) (locs : List Loc), Hp g A s H locs [aI g a 512 fc] → ∀ ls, Lq ls 5 [some (.ref a), some (.int n), some (.int mv), some (.int wr), some (.int (nI k))] → W p0 l e R s m args below meth c H locs 0 0 Q (F0 m 3 ls []) := by
    intro j
    induction j with
    | zero =>
      intro k fc hk hfc H locs h ls hl
      refine r_il K hl 4 dX6_bares_3 rfl ?_
      refine r_sp K (nI 512) dX6_bares_5 ks_512 ?_
      refine r_cgeN K 22 dX6_bares_8 (by decide) (by omega) (by omega) (fun c8 => ?_) (fun c => absurd c (by omega))
      refine r_aln K hl 0 dX6_bares_22 rfl rfl ?_
      refine r_ic K (nI 0) dX6_bares_23 k_0 ?_
      refine r_iln K hl 1 dX6_bares_24 rfl rfl ?_
      refine r_ias K h 0 [_] rfl (by omega) (by decide) rfl dX6_bares_25 (fun H locs h => ?_)
      refine r_aln K hl 0 dX6_bares_26 rfl rfl ?_
      refine r_ic K (nI 1) dX6_bares_27 k_1 ?_
      refine r_iln K hl 2 dX6_bares_28 rfl rfl ?_
      refine r_ias K h 0 [_] rfl (by omega) (by decide) rfl dX6_bares_29 (fun H locs h => ?_)
      refine r_aln K hl 0 dX6_bares_30 rfl rfl ?_
      refine r_ic K (nI 2) dX6_bares_31 k_2 ?_
      refine r_iln K hl 3 dX6_bares_32 rfl rfl ?_
      refine r_ias K h 0 [_] rfl (by omega) (by decide) rfl dX6_bares_33 (fun H locs h => ?_)
      refine hr.2 _ _ _ _ dX6_bares_34 ((h.arr 0 (mBares n mv wr) rfl (fun j hj => ?_)).to rfl) rfl
      simp only [mBares, upd]
      split <;> try rfl
      split <;> try rfl
      split <;> try rfl
      exact hfc j (by omega)
    | succ j ih =>
      intro k fc hk hfc H locs h ls hl
      refine r_il K hl 4 dX6_bares_3 rfl ?_
      refine r_sp K (nI 512) dX6_bares_5 ks_512 ?_
      refine r_cgeN K 22 dX6_bares_8 (by decide) (by omega) (by omega) (fun c => absurd c (by omega)) (fun c8 => ?_)
      refine r_aln K hl 0 dX6_bares_11 rfl rfl ?_
      refine r_il K hl 4 dX6_bares_12 rfl ?_
      refine r_ic K (nI 0) dX6_bares_14 k_0 ?_
      refine r_ias K h 0 [_] rfl (by omega) (by decide) rfl dX6_bares_15 (fun H locs h => ?_)
      refine r_incN K hl (k := 1) [_, _, _, _, _] dX6_bares_16 rfl (by decide) rfl (fun ls hl => ?_)
      refine r_go K 3 dX6_bares_19 (by decide) ?_
      refine ih (k + 1) _ (by omega) (fun t ht => ?_) _ _ h _ hl
      simp only [upd]
      split
      · rfl
      · exact hfc t (by omega)
  exact loop 512 0 f rfl (fun t ht => absurd ht (Nat.not_lt_zero t)) _ _ h _ hl

set_option maxHeartbeats 4000000 in
set_option maxRecDepth 100000 in
theorem c_X6_idles (l : Launch) (g : GG) (a : Nat) (f : Row) (p : Nat) (hp : p < 4) : Ct l g yX6_idles cX6_idles 3 none 1 [.ref a, .int (nI p)] [aI g a 512 f] none [aI g a 512 (mIdles f p)] := by
  refine Ct.start (by decide +kernel) (Nat.le_of_ble_eq_true rfl) (by simp [Value.category]) (Or.inl ⟨rfl, rfl⟩) ?_
  intro p0 e R s m args below meth c A Q K hr h ls hl
  have hl : Lq ls 3 [some (.ref a), some (.int (nI p)), none] := hl
  refine r_ic K (nI 0) dX6_idles_0 k_0 ?_
  refine r_isn K hl 2 [_, _, _] dX6_idles_1 rfl (by decide) rfl (fun ls hl => ?_)
  have loop : ∀ (j k : Nat) (fc : Row), k + j = 42 → (∀ t, t < 512 → fc t = if 32 + 42 * p ≤ t ∧ t < 32 + 42 * p + k then 0 else f t) → ∀ (H : Heap) (locs : List Loc), Hp g A s H locs [aI g a 512 fc] → ∀ ls, Lq ls 3 [some (.ref a), some (.int (nI p)), some (.int (nI k))] → W p0 l e R s m args below meth c H locs 0 0 Q (F0 m 2 ls []) := by
    intro j
    induction j with
    | zero =>
      intro k fc hk hfc H locs h ls hl
      refine r_iln K hl 2 dX6_idles_2 rfl rfl ?_
      refine r_bp K (nI 42) dX6_idles_3 kb_42 ?_
      refine r_cgeN K 23 dX6_idles_5 (by decide) (by omega) (by omega) (fun c5 => ?_) (fun c => absurd c (by omega))
      refine hr.2 _ _ _ _ dX6_idles_23 ((h.arr 0 (mIdles f p) rfl (fun j hj => ?_)).to rfl) rfl
      rw [hfc j hj, show k = 42 by omega]; rfl
    | succ j ih =>
      intro k fc hk hfc H locs h ls hl
      refine r_iln K hl 2 dX6_idles_2 rfl rfl ?_
      refine r_bp K (nI 42) dX6_idles_3 kb_42 ?_
      refine r_cgeN K 23 dX6_idles_5 (by decide) (by omega) (by omega) (fun c => absurd c (by omega)) (fun c5 => ?_)
      refine r_aln K hl 0 dX6_idles_8 rfl rfl ?_
      refine r_iln K hl 1 dX6_idles_9 rfl rfl ?_
      refine r_callS K h hl (c_X6_writerAt l g p) mc_X6_writerAt st_X6_writerAt mlX6_40 [] rfl rfl rfl [_] rfl (by decide) (by decide) rfl rfl (Nat.le_of_ble_eq_true rfl) ⟨Nat.zero_le _, Nat.zero_le _⟩ dX6_idles_10 (fun H locs h => ?_)
      refine W.eq (g2 := F0 m 13 ls [_, _]) rfl ?_
      refine r_iln K hl 2 dX6_idles_13 rfl rfl ?_
      refine r_addN K dX6_idles_14 ?_
      refine r_ic K (nI 0) dX6_idles_15 k_0 ?_
      refine r_ias K h 0 [_] rfl (by omega) (by decide) rfl dX6_idles_16 (fun H locs h => ?_)
      refine r_incN K hl (k := 1) [_, _, _] dX6_idles_17 rfl (by decide) rfl (fun ls hl => ?_)
      refine r_go K 2 dX6_idles_20 (by decide) ?_
      refine ih (k + 1) _ (by omega) (fun t ht => ?_) _ _ h _ hl
      simp only [upd]
      rw [hfc t ht]
      split
      · rw [if_pos (by omega)]; rfl
      · split
        · rw [if_pos (by omega)]
        · rw [if_neg (by omega)]
  exact loop 42 0 f rfl (fun t ht => by rw [if_neg (by omega)]) _ _ h _ hl
end
section
set_option maxHeartbeats 4000000 in
set_option maxRecDepth 100000 in
theorem c_X6_acts (l : Launch) (g : GG) (a : Nat) (f : Row) (p : Nat) (act v : Int32) (hp : p < 4) : Ct l g yX6_acts cX6_acts 5 none 2 [.ref a, .int (nI p), .int act, .int v] [aI g a 512 f] none [aI g a 512 (mActs f p act v)] := by
  refine Ct.start (by decide +kernel) (Nat.le_of_ble_eq_true rfl) (by simp [Value.category]) (Or.inl ⟨rfl, rfl⟩) ?_
  intro p0 e R s m args below meth c A Q K hr h ls hl
  have hl : Lq ls 5 [some (.ref a), some (.int (nI p)), some (.int act), some (.int v), none] := hl
  refine r_iln K hl 1 dX6_acts_0 rfl rfl ?_
  refine r_callS K h hl (c_X6_writerAt l g p) mc_X6_writerAt st_X6_writerAt mlX6_40 [] rfl rfl rfl [_] rfl (by decide) (by decide) rfl rfl (Nat.le_of_ble_eq_true rfl) ⟨Nat.zero_le _, Nat.zero_le _⟩ dX6_acts_1 (fun H locs h => ?_)
  refine W.eq (g2 := F0 m 4 ls [_]) rfl ?_
  refine r_is K hl 4 [_, _, _, _, _] dX6_acts_4 (by decide) rfl (fun ls hl => ?_)
  refine r_aln K hl 0 dX6_acts_6 rfl rfl ?_
  refine r_iln K hl 1 dX6_acts_7 rfl rfl ?_
  refine r_callS K h hl (c_X6_idles l g a f p hp) mc_X6_idles st_X6_idles mlX6_44 [0] rfl rfl rfl [_] rfl (by decide) (by decide) rfl rfl (Nat.le_of_ble_eq_true rfl) ⟨Nat.zero_le _, Nat.zero_le _⟩ dX6_acts_8 (fun H locs h => ?_)
  refine W.eq (g2 := F0 m 11 ls []) rfl ?_
  refine r_aln K hl 0 dX6_acts_11 rfl rfl ?_
  refine r_il K hl 4 dX6_acts_12 rfl ?_
  refine r_ic K (nI 0) dX6_acts_14 k_0 ?_
  refine r_addN K dX6_acts_15 ?_
  refine r_iln K hl 2 dX6_acts_16 rfl rfl ?_
  refine r_ias K h 0 [_] rfl (by omega) (by decide) rfl dX6_acts_17 (fun H locs h => ?_)
  refine r_aln K hl 0 dX6_acts_18 rfl rfl ?_
  refine r_il K hl 4 dX6_acts_19 rfl ?_
  refine r_ic K (nI 1) dX6_acts_21 k_1 ?_
  refine r_addN K dX6_acts_22 ?_
  refine r_iln K hl 3 dX6_acts_23 rfl rfl ?_
  refine r_ias K h 0 [_] rfl (by omega) (by decide) rfl dX6_acts_24 (fun H locs h => ?_)
  refine r_aln K hl 0 dX6_acts_25 rfl rfl ?_
  refine r_il K hl 4 dX6_acts_26 rfl ?_
  refine r_ic K (nI 3) dX6_acts_28 k_3 ?_
  refine r_addN K dX6_acts_29 ?_
  refine r_aln K hl 0 dX6_acts_30 rfl rfl ?_
  refine r_ic K (nI 3) dX6_acts_31 k_3 ?_
  refine r_ial K h 0 rfl (by omega) (by decide) dX6_acts_32 ?_
  refine r_ias K h 0 [_] rfl (by omega) (by decide) rfl dX6_acts_33 (fun H locs h => ?_)
  refine r_aln K hl 0 dX6_acts_34 rfl rfl ?_
  refine r_ic K (nI 4) dX6_acts_35 k_4 ?_
  refine r_dup2 K dX6_acts_36 rfl rfl ?_
  refine r_ial K h 0 rfl (by omega) (by decide) dX6_acts_37 ?_
  refine r_ic K (nI 1) dX6_acts_38 k_1 ?_
  refine r_add K dX6_acts_39 ?_
  refine r_ias K h 0 [_] rfl (by omega) (by decide) rfl dX6_acts_40 (fun H locs h => ?_)
  exact hr.2 _ _ _ _ dX6_acts_41 h rfl

set_option maxHeartbeats 4000000 in
set_option maxRecDepth 100000 in
theorem c_X6_writesNow (l : Launch) (g : GG) (a : Nat) (f : Row) (p wr : Nat) (hp : p < 4) (h6 : f 6 = nI wr) (hwr : wr ≤ 24) : Ct l g yX6_writesNow cX6_writesNow 5 none 2 [.ref a, .int (nI p)] [aI g a 512 f] none [aI g a 512 (mWrite f p)] := by
  refine Ct.start (by decide +kernel) (Nat.le_of_ble_eq_true rfl) (by simp [Value.category]) (Or.inl ⟨rfl, rfl⟩) ?_
  intro p0 e R s m args below meth c A Q K hr h ls hl
  have hl : Lq ls 5 [some (.ref a), some (.int (nI p)), none, none, none] := hl
  refine r_iln K hl 1 dX6_writesNow_0 rfl rfl ?_
  refine r_callS K h hl (c_X6_writerAt l g p) mc_X6_writerAt st_X6_writerAt mlX6_40 [] rfl rfl rfl [_] rfl (by decide) (by decide) rfl rfl (Nat.le_of_ble_eq_true rfl) ⟨Nat.zero_le _, Nat.zero_le _⟩ dX6_writesNow_1 (fun H locs h => ?_)
  refine W.eq (g2 := F0 m 4 ls [_]) rfl ?_
  refine r_isn K hl 2 [_, _, _, _, _] dX6_writesNow_4 rfl (by decide) rfl (fun ls hl => ?_)
  refine r_iln K hl 1 dX6_writesNow_5 rfl rfl ?_
  refine r_callS K h hl (c_X6_cellAt l g p) mc_X6_cellAt st_X6_cellAt mlX6_48 [] rfl rfl rfl [_] rfl (by decide) (by decide) rfl rfl (Nat.le_of_ble_eq_true rfl) ⟨Nat.zero_le _, Nat.zero_le _⟩ dX6_writesNow_6 (fun H locs h => ?_)
  refine W.eq (g2 := F0 m 9 ls [_]) rfl ?_
  refine r_isn K hl 3 [_, _, _, _, _] dX6_writesNow_9 rfl (by decide) rfl (fun ls hl => ?_)
  refine r_aln K hl 0 dX6_writesNow_10 rfl rfl ?_
  refine r_iln K hl 3 dX6_writesNow_11 rfl rfl ?_
  refine r_aln K hl 0 dX6_writesNow_12 rfl rfl ?_
  refine r_iln K hl 2 dX6_writesNow_13 rfl rfl ?_
  refine r_ic K (nI 1) dX6_writesNow_14 k_1 ?_
  refine r_addN K dX6_writesNow_15 ?_
  refine r_ial K h 0 rfl (by omega) (by decide) dX6_writesNow_16 ?_
  refine r_ias K h 0 [_] rfl (by omega) (by decide) rfl dX6_writesNow_17 (fun H locs h => ?_)
  refine r_aln K hl 0 dX6_writesNow_18 rfl rfl ?_
  refine r_iln K hl 3 dX6_writesNow_19 rfl rfl ?_
  refine r_ic K (nI 1) dX6_writesNow_20 k_1 ?_
  refine r_addN K dX6_writesNow_21 ?_
  refine r_dup2 K dX6_writesNow_22 rfl rfl ?_
  refine r_ial K h 0 rfl (by omega) (by decide) dX6_writesNow_23 ?_
  refine r_ic K (nI 1) dX6_writesNow_24 k_1 ?_
  refine r_add K dX6_writesNow_25 ?_
  refine r_ias K h 0 [_] rfl (by omega) (by decide) rfl dX6_writesNow_26 (fun H locs h => ?_)
  refine r_aln K hl 0 dX6_writesNow_27 rfl rfl ?_
  refine r_iln K hl 3 dX6_writesNow_28 rfl rfl ?_
  refine r_ic K (nI 1) dX6_writesNow_29 k_1 ?_
  refine r_addN K dX6_writesNow_30 ?_
  refine r_aln K hl 0 dX6_writesNow_31 rfl rfl ?_
  refine r_ic K (nI 2) dX6_writesNow_32 k_2 ?_
  refine r_ial K h 0 rfl (by omega) (by decide) dX6_writesNow_33 ?_
  generalize hf1 : upd f (8 + 6 * p) (f (32 + 42 * p + 1)) = f1 at h ⊢
  generalize hf2 : upd f1 (8 + 6 * p + 1) (f1 (8 + 6 * p + 1) + nI 1) = f2 at h ⊢
  have J : ∀ v : Int32, v = (if f2 2 = 0 then f2 (8 + 6 * p + 1) else f2 (8 + 6 * p + 1) - f2 (8 + 6 * p + 1) / f2 2 * f2 2) → W p0 l e R s m args below meth c H locs 0 0 Q (F0 m 54 ls [.int v, .int (nI (8 + 6 * p + 1)), .ref a]) := by
    intro v hv
    refine r_ias K h 0 [_] rfl (by omega) (by decide) rfl dX6_writesNow_54 (fun H locs h => ?_)
    refine r_ic K (nI 0) dX6_writesNow_55 k_0 ?_
    refine r_is K hl 4 [_, _, _, _, _] dX6_writesNow_56 (by decide) rfl (fun ls hl => ?_)
    have h3 : upd f2 (8 + 6 * p + 1) v = mWr1 f p := by rw [hv, ← hf2, ← hf1]; rfl
    rw [h3] at h
    have h36 : mWr1 f p 6 = nI wr := by unfold mWr1; simp (disch := omega) only [upd_ne]; exact h6
    have hwr : rWr f = wr := by unfold rWr; rw [h6]; exact nI_clamp (by omega)
    generalize hf3 : mWr1 f p = f3 at h h36
    have loop : ∀ (j k : Nat), k + j = 4 → ∀ (H : Heap) (locs : List Loc), Hp g A s H locs [aI g a 512 (va_cpy f3 f3 (32 + 42 * p + 38) (8 + 6 * p + 2) k)] → ∀ ls, Lq ls 5 [some (.ref a), some (.int (nI p)), some (.int (nI (32 + 42 * p))), some (.int (nI (8 + 6 * p))), some (.int (nI k))] → W p0 l e R s m args below meth c H locs 0 0 Q (F0 m 58 ls []) := by
      intro j
      induction j with
      | zero =>
        intro k hk H locs h ls hl
        refine r_il K hl 4 dX6_writesNow_58 rfl ?_
        refine r_ic K (nI 4) dX6_writesNow_60 k_4 ?_
        refine r_cgeN K 87 dX6_writesNow_61 (by decide) (by omega) (by omega) (fun c61 => ?_) (fun c => absurd c (by omega))
        obtain rfl : k = 4 := by omega
        have h46 : va_cpy f3 f3 (32 + 42 * p + 38) (8 + 6 * p + 2) 4 6 = nI wr := by rw [cpy_o (by omega)]; exact h36
        refine r_aln K hl 0 dX6_writesNow_87 rfl rfl ?_
        refine r_bp K (nI 6) dX6_writesNow_88 kb_6 ?_
        refine r_ialE K h 0 rfl (by omega) (by decide) h46 dX6_writesNow_90 ?_
        refine r_bp K (nI 24) dX6_writesNow_91 kb_24 ?_
        refine r_cgeN K 141 dX6_writesNow_93 (by decide) (by omega) (by omega) (fun c93 => ?_) (fun c93 => ?_)
        · refine r_aln K hl 0 dX6_writesNow_141 rfl rfl ?_
          refine r_iln K hl 1 dX6_writesNow_142 rfl rfl ?_
          refine r_callS K h hl (c_X6_idles l g a _ p hp) mc_X6_idles st_X6_idles mlX6_44 [0] rfl rfl rfl [_] rfl (by decide) (by decide) rfl rfl (Nat.le_of_ble_eq_true rfl) ⟨Nat.zero_le _, Nat.zero_le _⟩ dX6_writesNow_143 (fun H locs h => ?_)
          refine W.eq (g2 := F0 m 146 ls []) rfl ?_
          exact hr.2 _ _ _ _ dX6_writesNow_146 (h.to (by dsimp only [mWrite]; rw [if_neg (by omega), hf3])) rfl
        · refine r_sp K (nI 440) dX6_writesNow_96 ks_440 ?_
          refine r_ic K (nI 3) dX6_writesNow_99 k_3 ?_
          refine r_aln K hl 0 dX6_writesNow_100 rfl rfl ?_
          refine r_bp K (nI 6) dX6_writesNow_101 kb_6 ?_
          refine r_ialE K h 0 rfl (by omega) (by decide) h46 dX6_writesNow_103 ?_
          refine r_mulN K dX6_writesNow_104 ?_
          refine r_addN K dX6_writesNow_105 ?_
          refine r_is K hl 4 [_, _, _, _, _] dX6_writesNow_106 (by decide) rfl (fun ls hl => ?_)
          refine r_aln K hl 0 dX6_writesNow_108 rfl rfl ?_
          refine r_il K hl 4 dX6_writesNow_109 rfl ?_
          refine r_aln K hl 0 dX6_writesNow_111 rfl rfl ?_
          refine r_ic K (nI 3) dX6_writesNow_112 k_3 ?_
          refine r_ial K h 0 rfl (by omega) (by decide) dX6_writesNow_113 ?_
          refine r_ias K h 0 [_] rfl (by omega) (by decide) rfl dX6_writesNow_114 (fun H locs h => ?_)
          refine r_aln K hl 0 dX6_writesNow_115 rfl rfl ?_
          refine r_il K hl 4 dX6_writesNow_116 rfl ?_
          refine r_ic K (nI 1) dX6_writesNow_118 k_1 ?_
          refine r_addN K dX6_writesNow_119 ?_
          refine r_iln K hl 1 dX6_writesNow_120 rfl rfl ?_
          refine r_ias K h 0 [_] rfl (by omega) (by decide) rfl dX6_writesNow_121 (fun H locs h => ?_)
          refine r_aln K hl 0 dX6_writesNow_122 rfl rfl ?_
          refine r_il K hl 4 dX6_writesNow_123 rfl ?_
          refine r_ic K (nI 2) dX6_writesNow_125 k_2 ?_
          refine r_addN K dX6_writesNow_126 ?_
          refine r_aln K hl 0 dX6_writesNow_127 rfl rfl ?_
          refine r_iln K hl 2 dX6_writesNow_128 rfl rfl ?_
          refine r_ic K (nI 1) dX6_writesNow_129 k_1 ?_
          refine r_addN K dX6_writesNow_130 ?_
          refine r_ial K h 0 rfl (by omega) (by decide) dX6_writesNow_131 ?_
          refine r_ias K h 0 [_] rfl (by omega) (by decide) rfl dX6_writesNow_132 (fun H locs h => ?_)
          refine r_aln K hl 0 dX6_writesNow_133 rfl rfl ?_
          refine r_bp K (nI 6) dX6_writesNow_134 kb_6 ?_
          refine r_dup2 K dX6_writesNow_136 rfl rfl ?_
          refine r_ial K h 0 rfl (by omega) (by decide) dX6_writesNow_137 ?_
          refine r_ic K (nI 1) dX6_writesNow_138 k_1 ?_
          refine r_add K dX6_writesNow_139 ?_
          refine r_ias K h 0 [_] rfl (by omega) (by decide) rfl dX6_writesNow_140 (fun H locs h => ?_)
          refine r_aln K hl 0 dX6_writesNow_141 rfl rfl ?_
          refine r_iln K hl 1 dX6_writesNow_142 rfl rfl ?_
          refine r_callS K h hl (c_X6_idles l g a _ p hp) mc_X6_idles st_X6_idles mlX6_44 [0] rfl rfl rfl [_] rfl (by decide) (by decide) rfl rfl (Nat.le_of_ble_eq_true rfl) ⟨Nat.zero_le _, Nat.zero_le _⟩ dX6_writesNow_143 (fun H locs h => ?_)
          refine W.eq (g2 := F0 m 146 ls []) rfl ?_
          exact hr.2 _ _ _ _ dX6_writesNow_146 (h.to (by dsimp only [mWrite]; rw [if_pos (by omega), hf3]; dsimp only [mEv, rWr]; rw [h46, nI_clamp (by omega)])) rfl
      | succ j ih =>
        intro k hk H locs h ls hl
        refine r_il K hl 4 dX6_writesNow_58 rfl ?_
        refine r_ic K (nI 4) dX6_writesNow_60 k_4 ?_
        refine r_cgeN K 87 dX6_writesNow_61 (by decide) (by omega) (by omega) (fun c => absurd c (by omega)) (fun c61 => ?_)
        refine r_aln K hl 0 dX6_writesNow_64 rfl rfl ?_
        refine r_iln K hl 3 dX6_writesNow_65 rfl rfl ?_
        refine r_ic K (nI 2) dX6_writesNow_66 k_2 ?_
        refine r_addN K dX6_writesNow_67 ?_
        refine r_il K hl 4 dX6_writesNow_68 rfl ?_
        refine r_addN K dX6_writesNow_70 ?_
        refine r_aln K hl 0 dX6_writesNow_71 rfl rfl ?_
        refine r_iln K hl 2 dX6_writesNow_72 rfl rfl ?_
        refine r_bp K (nI 38) dX6_writesNow_73 kb_38 ?_
        refine r_addN K dX6_writesNow_75 ?_
        refine r_il K hl 4 dX6_writesNow_76 rfl ?_
        refine r_addN K dX6_writesNow_78 ?_
        refine r_ial K h 0 rfl (by omega) (by decide) dX6_writesNow_79 ?_
        refine r_ias K h 0 [_] rfl (by omega) (by decide) rfl dX6_writesNow_80 (fun H locs h => ?_)
        refine r_incN K hl (k := 1) [_, _, _, _, _] dX6_writesNow_81 rfl (by decide) rfl (fun ls hl => ?_)
        refine r_go K 58 dX6_writesNow_84 (by decide) ?_
        refine ih (k + 1) (by omega) _ _ (h.to ?_) _ hl
        rw [← cpy_s, cpy_o (f := f3) (g := f3) (by omega)]
    exact loop 4 0 rfl _ _ (h.to (by rw [cpy_0])) _ hl
  refine r_zne K 45 dX6_writesNow_34 (by decide) (fun c34 => ?_) (fun c34 => ?_)
  · refine r_aln K hl 0 dX6_writesNow_45 rfl rfl ?_
    refine r_iln K hl 3 dX6_writesNow_46 rfl rfl ?_
    refine r_ic K (nI 1) dX6_writesNow_47 k_1 ?_
    refine r_addN K dX6_writesNow_48 ?_
    refine r_ial K h 0 rfl (by omega) (by decide) dX6_writesNow_49 ?_
    refine r_aln K hl 0 dX6_writesNow_50 rfl rfl ?_
    refine r_ic K (nI 2) dX6_writesNow_51 k_2 ?_
    refine r_ial K h 0 rfl (by omega) (by decide) dX6_writesNow_52 ?_
    refine r_rem K c34 dX6_writesNow_53 ?_
    exact J _ (by rw [if_neg c34])
  · refine r_aln K hl 0 dX6_writesNow_37 rfl rfl ?_
    refine r_iln K hl 3 dX6_writesNow_38 rfl rfl ?_
    refine r_ic K (nI 1) dX6_writesNow_39 k_1 ?_
    refine r_addN K dX6_writesNow_40 ?_
    refine r_ial K h 0 rfl (by omega) (by decide) dX6_writesNow_41 ?_
    refine r_go K 54 dX6_writesNow_42 (by decide) ?_
    exact J _ (by rw [if_pos c34])

theorem lent_ne {q : Nat} (h : q < 1000) : ¬ nI q = -9 := fun e => by
  have := congrArg Int32.toInt e
  rw [nI_toInt (by omega)] at this
  have h2 : (-9 : Int32).toInt = -9 := by decide
  omega

set_option maxHeartbeats 4000000 in
set_option maxRecDepth 100000 in
theorem c_X6_takes (l : Launch) (g : GG) (a : Nat) (f : Row) (p n ph : Nat) (q : Option Nat) (hp : p < 4) (hn : n ≤ 4) (hq : ∀ x, q = some x → x < n) (h0 : f 0 = nI n) (h5 : f 5 = nI ph) (hph : ph ≤ 24) : Ct l g yX6_takes cX6_takes 6 none 1 [.ref a, .int (nI p), .int (lentI q)] [aI g a 512 f] none [aI g a 512 (mTakes f p q)] := by
  refine Ct.start (by decide +kernel) (Nat.le_of_ble_eq_true rfl) (by simp [Value.category]) (Or.inl ⟨rfl, rfl⟩) ?_
  intro p0 e R s m args below meth c A Q K hr h ls hl
  have hl : Lq ls 6 [some (.ref a), some (.int (nI p)), some (.int (lentI q)), none, none, none] := hl
  refine r_iln K hl 1 dX6_takes_0 rfl rfl ?_
  refine r_callS K h hl (c_X6_writerAt l g p) mc_X6_writerAt st_X6_writerAt mlX6_40 [] rfl rfl rfl [_] rfl (by decide) (by decide) rfl rfl (Nat.le_of_ble_eq_true rfl) ⟨Nat.zero_le _, Nat.zero_le _⟩ dX6_takes_1 (fun H locs h => ?_)
  refine W.eq (g2 := F0 m 4 ls [_]) rfl ?_
  refine r_isn K hl 3 [_, _, _, _, _, _] dX6_takes_4 rfl (by decide) rfl (fun ls hl => ?_)
  refine r_ic K (nI 0) dX6_takes_5 k_0 ?_
  refine r_is K hl 4 [_, _, _, _, _, _] dX6_takes_6 (by decide) rfl (fun ls hl => ?_)
  have hrn : rN f = n := by unfold rN; rw [h0]; exact nI_clamp (by omega)
  have hrp : rPh f = ph := by unfold rPh; rw [h5]; exact nI_clamp (by omega)
  have tk_o : ∀ k j, (j < 32 + 42 * p + 38 ∨ 32 + 42 * p + 38 + k ≤ j) → mTk f p q k j = f j := fun k j h => if_neg (by omega)
  have tk_s : ∀ k, upd (mTk f p q k) (32 + 42 * p + 38 + k) (mSrc f p q k) = mTk f p q (k + 1) := fun k => by
    funext j
    unfold upd mTk
    by_cases h : j = 32 + 42 * p + 38 + k
    · subst h; rw [if_pos rfl, if_pos (by omega), show 32 + 42 * p + 38 + k - (32 + 42 * p + 38) = k by omega]
    · rw [if_neg h]
      by_cases h2 : 32 + 42 * p + 38 ≤ j ∧ j < 32 + 42 * p + 38 + k
      · rw [if_pos h2, if_pos (by omega)]
      · rw [if_neg h2, if_neg (by omega)]
  have loop : ∀ (j k : Nat), k + j = n → ∀ (H : Heap) (locs : List Loc), Hp g A s H locs [aI g a 512 (mTk f p q k)] → ∀ ls, Lq ls 6 [some (.ref a), some (.int (nI p)), some (.int (lentI q)), some (.int (nI (32 + 42 * p))), some (.int (nI k)), none] → W p0 l e R s m args below meth c H locs 0 0 Q (F0 m 8 ls []) := by
    intro j
    induction j with
    | zero =>
      intro k hk H locs h ls hl
      obtain rfl : k = n := by omega
      refine r_il K hl 4 dX6_takes_8 rfl ?_
      refine r_aln K hl 0 dX6_takes_10 rfl rfl ?_
      refine r_ic K (nI 0) dX6_takes_11 k_0 ?_
      refine r_ialE K h 0 rfl (by omega) (by decide) ((tk_o _ _ (by omega)).trans h0) dX6_takes_12 ?_
      refine r_cgeN K 68 dX6_takes_13 (by decide) (by omega) (by omega) (fun c13 => ?_) (fun c => absurd c (by omega))
      generalize hf1 : mTk f p q k = f1 at h
      have h15 : f1 5 = nI ph := by rw [← hf1, tk_o _ _ (by omega)]; exact h5
      have hp1 : rPh f1 = ph := by unfold rPh; rw [h15]; exact nI_clamp (by omega)
      refine r_aln K hl 0 dX6_takes_68 rfl rfl ?_
      refine r_ic K (nI 5) dX6_takes_69 k_5 ?_
      refine r_ialE K h 0 rfl (by omega) (by decide) h15 dX6_takes_70 ?_
      refine r_bp K (nI 24) dX6_takes_71 kb_24 ?_
      refine r_cgeN K 192 dX6_takes_73 (by decide) (by omega) (by omega) (fun c73 => ?_) (fun c73 => ?_)
      · refine r_aln K hl 0 dX6_takes_192 rfl rfl ?_
        refine r_iln K hl 3 dX6_takes_193 rfl rfl ?_
        refine r_ic K (nI 5) dX6_takes_194 k_5 ?_
        refine r_addN K dX6_takes_195 ?_
        refine r_ic K (nI 1) dX6_takes_196 k_1 ?_
        refine r_ias K h 0 [_] rfl (by omega) (by decide) rfl dX6_takes_197 (fun H locs h => ?_)
        exact hr.2 _ _ _ _ dX6_takes_198 (h.to (by dsimp only [mTakes]; rw [if_neg (by omega), hrn, hf1])) rfl
      · refine r_sp K (nI 200) dX6_takes_76 ks_200 ?_
        refine r_bp K (nI 10) dX6_takes_79 kb_10 ?_
        refine r_aln K hl 0 dX6_takes_81 rfl rfl ?_
        refine r_ic K (nI 5) dX6_takes_82 k_5 ?_
        refine r_ialE K h 0 rfl (by omega) (by decide) h15 dX6_takes_83 ?_
        refine r_mulN K dX6_takes_84 ?_
        refine r_addN K dX6_takes_85 ?_
        refine r_is K hl 4 [_, _, _, _, _, _] dX6_takes_86 (by decide) rfl (fun ls hl => ?_)
        refine r_aln K hl 0 dX6_takes_88 rfl rfl ?_
        refine r_il K hl 4 dX6_takes_89 rfl ?_
        refine r_iln K hl 1 dX6_takes_91 rfl rfl ?_
        refine r_ias K h 0 [_] rfl (by omega) (by decide) rfl dX6_takes_92 (fun H locs h => ?_)
        refine r_aln K hl 0 dX6_takes_93 rfl rfl ?_
        refine r_il K hl 4 dX6_takes_94 rfl ?_
        refine r_ic K (nI 1) dX6_takes_96 k_1 ?_
        refine r_addN K dX6_takes_97 ?_
        refine r_aln K hl 0 dX6_takes_98 rfl rfl ?_
        refine r_iln K hl 3 dX6_takes_99 rfl rfl ?_
        refine r_ic K (nI 3) dX6_takes_100 k_3 ?_
        refine r_addN K dX6_takes_101 ?_
        refine r_ial K h 0 rfl (by omega) (by decide) dX6_takes_102 ?_
        refine r_ias K h 0 [_] rfl (by omega) (by decide) rfl dX6_takes_103 (fun H locs h => ?_)
        refine r_aln K hl 0 dX6_takes_104 rfl rfl ?_
        refine r_il K hl 4 dX6_takes_105 rfl ?_
        refine r_ic K (nI 2) dX6_takes_107 k_2 ?_
        refine r_addN K dX6_takes_108 ?_
        refine r_aln K hl 0 dX6_takes_109 rfl rfl ?_
        refine r_ic K (nI 3) dX6_takes_110 k_3 ?_
        refine r_ial K h 0 rfl (by omega) (by decide) dX6_takes_111 ?_
        refine r_ias K h 0 [_] rfl (by omega) (by decide) rfl dX6_takes_112 (fun H locs h => ?_)
        refine r_aln K hl 0 dX6_takes_113 rfl rfl ?_
        refine r_il K hl 4 dX6_takes_114 rfl ?_
        refine r_ic K (nI 3) dX6_takes_116 k_3 ?_
        refine r_addN K dX6_takes_117 ?_
        refine r_aln K hl 0 dX6_takes_118 rfl rfl ?_
        refine r_iln K hl 3 dX6_takes_119 rfl rfl ?_
        refine r_ic K (nI 2) dX6_takes_120 k_2 ?_
        refine r_addN K dX6_takes_121 ?_
        refine r_ial K h 0 rfl (by omega) (by decide) dX6_takes_122 ?_
        refine r_ias K h 0 [_] rfl (by omega) (by decide) rfl dX6_takes_123 (fun H locs h => ?_)
        refine r_aln K hl 0 dX6_takes_124 rfl rfl ?_
        refine r_il K hl 4 dX6_takes_125 rfl ?_
        refine r_ic K (nI 4) dX6_takes_127 k_4 ?_
        refine r_addN K dX6_takes_128 ?_
        refine r_iln K hl 2 dX6_takes_129 rfl rfl ?_
        refine r_ias K h 0 [_] rfl (by omega) (by decide) rfl dX6_takes_130 (fun H locs h => ?_)
        refine r_aln K hl 0 dX6_takes_131 rfl rfl ?_
        refine r_il K hl 4 dX6_takes_132 rfl ?_
        refine r_ic K (nI 5) dX6_takes_134 k_5 ?_
        refine r_addN K dX6_takes_135 ?_
        refine r_aln K hl 0 dX6_takes_136 rfl rfl ?_
        refine r_iln K hl 3 dX6_takes_137 rfl rfl ?_
        refine r_ic K (nI 0) dX6_takes_138 k_0 ?_
        refine r_addN K dX6_takes_139 ?_
        refine r_ial K h 0 rfl (by omega) (by decide) dX6_takes_140 ?_
        refine r_ic K (nI 2) dX6_takes_141 k_2 ?_
        generalize hf5 : upd (upd (upd (upd (upd f1 (200 + 10 * ph) (nI p)) (200 + 10 * ph + 1) (upd f1 (200 + 10 * ph) (nI p) (32 + 42 * p + 3))) (200 + 10 * ph + 2) _) (200 + 10 * ph + 3) _) (200 + 10 * ph + 4) (lentI q) = f5 at h ⊢
        have J : ∀ v : Int32, v = (if f5 (32 + 42 * p + 0) = nI 2 then nI 1 else nI 0) → W p0 l e R s m args below meth c H locs 0 0 Q (F0 m 150 ls [.int v, .int (nI (200 + 10 * ph + 5)), .ref a]) := by
          intro v hv
          refine r_ias K h 0 [_] rfl (by omega) (by decide) rfl dX6_takes_150 (fun H locs h => ?_)
          refine r_ic K (nI 0) dX6_takes_151 k_0 ?_
          refine r_is K hl 5 [_, _, _, _, _, _] dX6_takes_152 (by decide) rfl (fun ls hl => ?_)
          generalize hf6 : upd f5 (200 + 10 * ph + 5) v = f6 at h
          have loop2 : ∀ (j i : Nat), i + j = 4 → ∀ (H : Heap) (locs : List Loc), Hp g A s H locs [aI g a 512 (va_cpy f6 f6 (32 + 42 * p + 38) (200 + 10 * ph + 6) i)] → ∀ ls, Lq ls 6 [some (.ref a), some (.int (nI p)), some (.int (lentI q)), some (.int (nI (32 + 42 * p))), some (.int (nI (200 + 10 * ph))), some (.int (nI i))] → W p0 l e R s m args below meth c H locs 0 0 Q (F0 m 154 ls []) := by
            intro j
            induction j with
            | zero =>
              intro i hi H locs h ls hl
              refine r_il K hl 5 dX6_takes_154 rfl ?_
              refine r_ic K (nI 4) dX6_takes_156 k_4 ?_
              refine r_cgeN K 185 dX6_takes_157 (by decide) (by omega) (by omega) (fun c157 => ?_) (fun c => absurd c (by omega))
              obtain rfl : i = 4 := by omega
              refine r_aln K hl 0 dX6_takes_185 rfl rfl ?_
              refine r_ic K (nI 5) dX6_takes_186 k_5 ?_
              refine r_dup2 K dX6_takes_187 rfl rfl ?_
              refine r_ial K h 0 rfl (by omega) (by decide) dX6_takes_188 ?_
              refine r_ic K (nI 1) dX6_takes_189 k_1 ?_
              refine r_add K dX6_takes_190 ?_
              refine r_ias K h 0 [_] rfl (by omega) (by decide) rfl dX6_takes_191 (fun H locs h => ?_)
              refine r_aln K hl 0 dX6_takes_192 rfl rfl ?_
              refine r_iln K hl 3 dX6_takes_193 rfl rfl ?_
              refine r_ic K (nI 5) dX6_takes_194 k_5 ?_
              refine r_addN K dX6_takes_195 ?_
              refine r_ic K (nI 1) dX6_takes_196 k_1 ?_
              refine r_ias K h 0 [_] rfl (by omega) (by decide) rfl dX6_takes_197 (fun H locs h => ?_)
              exact hr.2 _ _ _ _ dX6_takes_198 (h.to (by dsimp only [mTakes]; rw [if_pos (by omega), hrn, hf1]; dsimp only [mPho]; rw [hp1, hf5, ← hv, hf6])) rfl
            | succ j ih =>
              intro i hi H locs h ls hl
              refine r_il K hl 5 dX6_takes_154 rfl ?_
              refine r_ic K (nI 4) dX6_takes_156 k_4 ?_
              refine r_cgeN K 185 dX6_takes_157 (by decide) (by omega) (by omega) (fun c => absurd c (by omega)) (fun c157 => ?_)
              refine r_aln K hl 0 dX6_takes_160 rfl rfl ?_
              refine r_il K hl 4 dX6_takes_161 rfl ?_
              refine r_bp K (nI 6) dX6_takes_163 kb_6 ?_
              refine r_addN K dX6_takes_165 ?_
              refine r_il K hl 5 dX6_takes_166 rfl ?_
              refine r_addN K dX6_takes_168 ?_
              refine r_aln K hl 0 dX6_takes_169 rfl rfl ?_
              refine r_iln K hl 3 dX6_takes_170 rfl rfl ?_
              refine r_bp K (nI 38) dX6_takes_171 kb_38 ?_
              refine r_addN K dX6_takes_173 ?_
              refine r_il K hl 5 dX6_takes_174 rfl ?_
              refine r_addN K dX6_takes_176 ?_
              refine r_ial K h 0 rfl (by omega) (by decide) dX6_takes_177 ?_
              refine r_ias K h 0 [_] rfl (by omega) (by decide) rfl dX6_takes_178 (fun H locs h => ?_)
              refine r_incN K hl (k := 1) [_, _, _, _, _, _] dX6_takes_179 rfl (by decide) rfl (fun ls hl => ?_)
              refine r_go K 154 dX6_takes_182 (by decide) ?_
              refine ih (i + 1) (by omega) _ _ (h.to ?_) _ hl
              rw [← cpy_s, cpy_o (f := f6) (g := f6) (by omega)]
          exact loop2 4 0 rfl _ _ (h.to (by rw [cpy_0])) _ hl
        refine r_cne K 149 dX6_takes_142 (by decide) (fun c142 => ?_) (fun c142 => ?_)
        · refine r_ic K (nI 0) dX6_takes_149 k_0 ?_
          exact J _ (by rw [if_neg c142])
        · refine r_ic K (nI 1) dX6_takes_145 k_1 ?_
          refine r_go K 150 dX6_takes_146 (by decide) ?_
          exact J _ (by rw [if_pos c142])
    | succ j ih =>
      intro k hk H locs h ls hl
      refine r_il K hl 4 dX6_takes_8 rfl ?_
      refine r_aln K hl 0 dX6_takes_10 rfl rfl ?_
      refine r_ic K (nI 0) dX6_takes_11 k_0 ?_
      refine r_ialE K h 0 rfl (by omega) (by decide) ((tk_o _ _ (by omega)).trans h0) dX6_takes_12 ?_
      refine r_cgeN K 68 dX6_takes_13 (by decide) (by omega) (by omega) (fun c => absurd c (by omega)) (fun c13 => ?_)
      refine r_aln K hl 0 dX6_takes_16 rfl rfl ?_
      refine r_iln K hl 3 dX6_takes_17 rfl rfl ?_
      refine r_bp K (nI 38) dX6_takes_18 kb_38 ?_
      refine r_addN K dX6_takes_20 ?_
      refine r_il K hl 4 dX6_takes_21 rfl ?_
      refine r_addN K dX6_takes_23 ?_
      refine r_iln K hl 2 dX6_takes_24 rfl rfl ?_
      refine r_bp K (-9) dX6_takes_25 kb_m9 ?_
      have J : ∀ v : Int32, v = mSrc f p q k → W p0 l e R s m args below meth c H locs 0 0 Q (F0 m 61 ls [.int v, .int (nI (32 + 42 * p + 38 + k)), .ref a]) := by
        intro v hv
        refine r_ias K h 0 [_] rfl (by omega) (by decide) rfl dX6_takes_61 (fun H locs h => ?_)
        refine r_incN K hl (k := 1) [_, _, _, _, _, _] dX6_takes_62 rfl (by decide) rfl (fun ls hl => ?_)
        refine r_go K 8 dX6_takes_65 (by decide) ?_
        exact ih (k + 1) (by omega) _ _ (h.to (by rw [hv, tk_s])) _ hl
      cases q with
      | none =>
        refine r_cne K 45 dX6_takes_27 (by decide) (fun c => absurd rfl c) (fun c27 => ?_)
        refine r_aln K hl 0 dX6_takes_30 rfl rfl ?_
        refine r_iln K hl 3 dX6_takes_31 rfl rfl ?_
        refine r_bp K (nI 14) dX6_takes_32 kb_14 ?_
        refine r_addN K dX6_takes_34 ?_
        refine r_bp K (nI 6) dX6_takes_35 kb_6 ?_
        refine r_il K hl 4 dX6_takes_37 rfl ?_
        refine r_mulN K dX6_takes_39 ?_
        refine r_addN K dX6_takes_40 ?_
        refine r_ial K h 0 rfl (by omega) (by decide) dX6_takes_41 ?_
        refine r_go K 61 dX6_takes_42 (by decide) ?_
        exact J _ (tk_o _ _ (by omega))
      | some q =>
        have hq2 : q < n := hq q rfl
        refine r_cne K 45 dX6_takes_27 (by decide) (fun c27 => ?_) (fun c => absurd c (lent_ne (by omega)))
        have hl : Lq ls 6 [some (.ref a), some (.int (nI p)), some (.int (nI q)), some (.int (nI (32 + 42 * p))), some (.int (nI k)), none] := hl
        refine r_aln K hl 0 dX6_takes_45 rfl rfl ?_
        refine r_iln K hl 3 dX6_takes_46 rfl rfl ?_
        refine r_bp K (nI 14) dX6_takes_47 kb_14 ?_
        refine r_addN K dX6_takes_49 ?_
        refine r_bp K (nI 6) dX6_takes_50 kb_6 ?_
        refine r_iln K hl 2 dX6_takes_52 rfl rfl ?_
        refine r_mulN K dX6_takes_53 ?_
        refine r_addN K dX6_takes_54 ?_
        refine r_ic K (nI 2) dX6_takes_55 k_2 ?_
        refine r_addN K dX6_takes_56 ?_
        refine r_il K hl 4 dX6_takes_57 rfl ?_
        refine r_addN K dX6_takes_59 ?_
        refine r_ial K h 0 rfl (by omega) (by decide) dX6_takes_60 ?_
        exact J _ (tk_o _ _ (by omega))
  exact loop n 0 (by omega) _ _ (h.to (by rw [show mTk f p q 0 = f from funext (fun j => tk_o 0 j (by omega))])) _ hl
end
section
theorem cnt_o {f : Row} {p k j : Nat} (h : j < 32 + 42 * p + 6 ∨ 32 + 42 * p + 10 + k ≤ j) (hk : k ≤ 4) : mCnt f p k j = f j := by
  unfold mCnt; rw [if_neg (by omega), if_neg (fun h => by omega)]
theorem cnt_a {f : Row} {p k c : Nat} (h : k ≤ c) (hk : c < 4) : mCnt f p k (32 + 42 * p + 10 + c) = f (32 + 42 * p + 10 + c) := by
  unfold mCnt; rw [if_neg (by omega), if_neg (fun h => by omega)]
theorem cnt_m {f : Row} {p k c : Nat} (h : k ≤ c) (hk : c < 4) : mCnt f p k (32 + 42 * p + 6 + c) = f (32 + 42 * p + 6 + c) := by
  unfold mCnt; rw [if_neg (by omega), if_neg (fun h => by omega)]
theorem cnt_0 {f : Row} {p : Nat} : mCnt f p 0 = f := by
  funext j; unfold mCnt; rw [if_neg (by omega), if_neg (fun h => by omega)]
theorem cnt_st {f : Row} {p k : Nat} (hk : k < 4) (h : mMv f p k = true) : upd (upd (mCnt f p k) (32 + 42 * p + 6 + k) (f (32 + 42 * p + 6 + k) + nI 1)) (32 + 42 * p + 10 + k) (f (32 + 42 * p + 14 + 6 * k + 1)) = mCnt f p (k + 1) := by
  funext j
  unfold upd mCnt
  by_cases h1 : j = 32 + 42 * p + 10 + k
  · subst h1; rw [if_pos rfl, if_pos (by omega)]; congr 1; omega
  · rw [if_neg h1]
    by_cases h2 : j = 32 + 42 * p + 6 + k
    · subst h2; rw [if_pos rfl, if_neg (by omega), if_pos ⟨by omega, by omega, by rw [show 32 + 42 * p + 6 + k - (32 + 42 * p + 6) = k by omega]; exact h⟩]
    · rw [if_neg h2]
      by_cases h3 : 32 + 42 * p + 10 ≤ j ∧ j < 32 + 42 * p + 10 + k
      · rw [if_pos h3, if_pos (by omega)]
      · rw [if_neg h3, if_neg (show ¬ (32 + 42 * p + 10 ≤ j ∧ j < 32 + 42 * p + 10 + (k + 1)) by omega)]
        by_cases h4 : 32 + 42 * p + 6 ≤ j ∧ j < 32 + 42 * p + 6 + k ∧ mMv f p (j - (32 + 42 * p + 6)) = true
        · rw [if_pos h4, if_pos ⟨h4.1, by omega, h4.2.2⟩]
        · rw [if_neg h4, if_neg (fun h5 => h4 ⟨h5.1, by omega, h5.2.2⟩)]
theorem cnt_sf {f : Row} {p k : Nat} (hk : k < 4) (h : mMv f p k = false) : upd (mCnt f p k) (32 + 42 * p + 10 + k) (f (32 + 42 * p + 14 + 6 * k + 1)) = mCnt f p (k + 1) := by
  funext j
  unfold upd mCnt
  by_cases h1 : j = 32 + 42 * p + 10 + k
  · subst h1; rw [if_pos rfl, if_pos (by omega)]; congr 1; omega
  · rw [if_neg h1]
    by_cases h3 : 32 + 42 * p + 10 ≤ j ∧ j < 32 + 42 * p + 10 + k
    · rw [if_pos h3, if_pos (by omega)]
    · rw [if_neg h3, if_neg (show ¬ (32 + 42 * p + 10 ≤ j ∧ j < 32 + 42 * p + 10 + (k + 1)) by omega)]
      by_cases h4 : 32 + 42 * p + 6 ≤ j ∧ j < 32 + 42 * p + 6 + k ∧ mMv f p (j - (32 + 42 * p + 6)) = true
      · rw [if_pos h4, if_pos ⟨h4.1, by omega, h4.2.2⟩]
      · rw [if_neg h4, if_neg]
        intro h5
        refine h4 ⟨h5.1, ?_, h5.2.2⟩
        by_cases h6 : j = 32 + 42 * p + 6 + k
        · subst h6
          have h7 := h5.2.2
          rw [show 32 + 42 * p + 6 + k - (32 + 42 * p + 6) = k by omega, h] at h7
          exact absurd h7 (by decide)
        · omega

set_option maxHeartbeats 4000000 in
set_option maxRecDepth 100000 in
theorem c_X6_counts (l : Launch) (g : GG) (a : Nat) (f : Row) (p n : Nat) (hp : p < 4) (hn : n ≤ 4) (h0 : f 0 = nI n) : Ct l g yX6_counts cX6_counts 6 (some .boolean) 1 [.ref a, .int (nI p)] [aI g a 512 f] (some (.int (bI (anyMv f p n)))) [aI g a 512 (mCnt f p n)] := by
  refine Ct.start (by decide +kernel) (Nat.le_of_ble_eq_true rfl) (by simp [Value.category]) (Or.inr ⟨.boolean, _, rfl, rfl, narB _⟩) ?_
  intro p0 e R s m args below meth c A Q K hr h ls hl
  have hl : Lq ls 6 [some (.ref a), some (.int (nI p)), none, none, none, none] := hl
  refine r_iln K hl 1 dX6_counts_0 rfl rfl ?_
  refine r_callS K h hl (c_X6_writerAt l g p) mc_X6_writerAt st_X6_writerAt mlX6_40 [] rfl rfl rfl [_] rfl (by decide) (by decide) rfl rfl (Nat.le_of_ble_eq_true rfl) ⟨Nat.zero_le _, Nat.zero_le _⟩ dX6_counts_1 (fun H locs h => ?_)
  refine W.eq (g2 := F0 m 4 ls [_]) rfl ?_
  refine r_isn K hl 2 [_, _, _, _, _, _] dX6_counts_4 rfl (by decide) rfl (fun ls hl => ?_)
  refine r_ic K (nI 0) dX6_counts_5 k_0 ?_
  refine r_isn K hl 3 [_, _, _, _, _, _] dX6_counts_6 rfl (by decide) rfl (fun ls hl => ?_)
  refine r_ic K (nI 0) dX6_counts_7 k_0 ?_
  refine r_is K hl 4 [_, _, _, _, _, _] dX6_counts_8 (by decide) rfl (fun ls hl => ?_)
  have loop : ∀ (j k : Nat) (x : Option Value), k + j = n → ∀ (H : Heap) (locs : List Loc), Hp g A s H locs [aI g a 512 (mCnt f p k)] → ∀ ls, Lq ls 6 [some (.ref a), some (.int (nI p)), some (.int (nI (32 + 42 * p))), some (.int (bI (anyMv f p k))), some (.int (nI k)), x] → W p0 l e R s m args below meth c H locs 0 0 Q (F0 m 10 ls []) := by
    intro j
    induction j with
    | zero =>
      intro k x hk H locs h ls hl
      obtain rfl : k = n := by omega
      refine r_il K hl 4 dX6_counts_10 rfl ?_
      refine r_aln K hl 0 dX6_counts_12 rfl rfl ?_
      refine r_ic K (nI 0) dX6_counts_13 k_0 ?_
      refine r_ialE K h 0 rfl (by omega) (by decide) ((cnt_o (by omega) (by omega)).trans h0) dX6_counts_14 ?_
      refine r_cgeN K 89 dX6_counts_15 (by decide) (by omega) (by omega) (fun c15 => ?_) (fun c => absurd c (by omega))
      refine r_iln K hl 3 dX6_counts_89 rfl rfl ?_
      exact hr.1 _ _ _ _ _ dX6_counts_90 h rfl
    | succ j ih =>
      intro k x hk H locs h ls hl
      refine r_il K hl 4 dX6_counts_10 rfl ?_
      refine r_aln K hl 0 dX6_counts_12 rfl rfl ?_
      refine r_ic K (nI 0) dX6_counts_13 k_0 ?_
      refine r_ialE K h 0 rfl (by omega) (by decide) ((cnt_o (by omega) (by omega)).trans h0) dX6_counts_14 ?_
      refine r_cgeN K 89 dX6_counts_15 (by decide) (by omega) (by omega) (fun c => absurd c (by omega)) (fun c15 => ?_)
      refine r_aln K hl 0 dX6_counts_18 rfl rfl ?_
      refine r_iln K hl 2 dX6_counts_19 rfl rfl ?_
      refine r_bp K (nI 14) dX6_counts_20 kb_14 ?_
      refine r_addN K dX6_counts_22 ?_
      refine r_bp K (nI 6) dX6_counts_23 kb_6 ?_
      refine r_il K hl 4 dX6_counts_25 rfl ?_
      refine r_mulN K dX6_counts_27 ?_
      refine r_addN K dX6_counts_28 ?_
      refine r_ic K (nI 1) dX6_counts_29 k_1 ?_
      refine r_addN K dX6_counts_30 ?_
      refine r_ialE K h 0 rfl (by omega) (by decide) (cnt_o (k := k) (j := 32 + 42 * p + 14 + 6 * k + 1) (by omega) (by omega)) dX6_counts_31 ?_
      refine r_is K hl 5 [_, _, _, _, _, _] dX6_counts_32 (by decide) rfl (fun ls hl => ?_)
      refine r_aln K hl 0 dX6_counts_34 rfl rfl ?_
      refine r_iln K hl 2 dX6_counts_35 rfl rfl ?_
      refine r_ic K (nI 4) dX6_counts_36 k_4 ?_
      refine r_addN K dX6_counts_37 ?_
      refine r_ialE K h 0 rfl (by omega) (by decide) (cnt_o (k := k) (j := 32 + 42 * p + 4) (by omega) (by omega)) dX6_counts_38 ?_
      refine r_ic K (nI 1) dX6_counts_39 k_1 ?_
      refine r_cle K 72 dX6_counts_40 (by decide) (fun c40 => ?_) (fun c40 => ?_)
      · refine r_aln K hl 0 dX6_counts_72 rfl rfl ?_
        refine r_iln K hl 2 dX6_counts_73 rfl rfl ?_
        refine r_bp K (nI 10) dX6_counts_74 kb_10 ?_
        refine r_addN K dX6_counts_76 ?_
        refine r_il K hl 4 dX6_counts_77 rfl ?_
        refine r_addN K dX6_counts_79 ?_
        refine r_il K hl 5 dX6_counts_80 rfl ?_
        refine r_ias K h 0 [_] rfl (by omega) (by decide) rfl dX6_counts_82 (fun H locs h => ?_)
        refine r_incN K hl (k := 1) [_, _, _, _, _, _] dX6_counts_83 rfl (by decide) rfl (fun ls hl => ?_)
        refine r_go K 10 dX6_counts_86 (by decide) ?_
        have hm : mMv f p k = false := by unfold mMv; rw [decide_eq_false (p := nI 1 < f (32 + 42 * p + 4)) (Int32.not_lt.mpr c40), Bool.false_and]
        rw [show anyMv f p k = anyMv f p (k + 1) by rw [anyMv, hm, Bool.or_false]] at hl
        exact ih (k + 1) _ (by omega) _ _ (h.to (by rw [cnt_sf (by omega) hm])) _ hl
      · refine r_il K hl 5 dX6_counts_43 rfl ?_
        refine r_aln K hl 0 dX6_counts_45 rfl rfl ?_
        refine r_iln K hl 2 dX6_counts_46 rfl rfl ?_
        refine r_bp K (nI 10) dX6_counts_47 kb_10 ?_
        refine r_addN K dX6_counts_49 ?_
        refine r_il K hl 4 dX6_counts_50 rfl ?_
        refine r_addN K dX6_counts_52 ?_
        refine r_ialE K h 0 rfl (by omega) (by decide) (cnt_a (Nat.le_refl k) (by omega)) dX6_counts_53 ?_
        refine r_ceq K 72 dX6_counts_54 (by decide) (fun c54 => ?_) (fun c54 => ?_)
        · refine r_aln K hl 0 dX6_counts_72 rfl rfl ?_
          refine r_iln K hl 2 dX6_counts_73 rfl rfl ?_
          refine r_bp K (nI 10) dX6_counts_74 kb_10 ?_
          refine r_addN K dX6_counts_76 ?_
          refine r_il K hl 4 dX6_counts_77 rfl ?_
          refine r_addN K dX6_counts_79 ?_
          refine r_il K hl 5 dX6_counts_80 rfl ?_
          refine r_ias K h 0 [_] rfl (by omega) (by decide) rfl dX6_counts_82 (fun H locs h => ?_)
          refine r_incN K hl (k := 1) [_, _, _, _, _, _] dX6_counts_83 rfl (by decide) rfl (fun ls hl => ?_)
          refine r_go K 10 dX6_counts_86 (by decide) ?_
          have hm : mMv f p k = false := by unfold mMv; rw [decide_eq_false (p := f (32 + 42 * p + 14 + 6 * k + 1) ≠ f (32 + 42 * p + 10 + k)) (fun q => q c54), Bool.and_false]
          rw [show anyMv f p k = anyMv f p (k + 1) by rw [anyMv, hm, Bool.or_false]] at hl
          exact ih (k + 1) _ (by omega) _ _ (h.to (by rw [cnt_sf (by omega) hm])) _ hl
        · refine r_aln K hl 0 dX6_counts_57 rfl rfl ?_
          refine r_iln K hl 2 dX6_counts_58 rfl rfl ?_
          refine r_bp K (nI 6) dX6_counts_59 kb_6 ?_
          refine r_addN K dX6_counts_61 ?_
          refine r_il K hl 4 dX6_counts_62 rfl ?_
          refine r_addN K dX6_counts_64 ?_
          refine r_dup2 K dX6_counts_65 rfl rfl ?_
          refine r_ialE K h 0 rfl (by omega) (by decide) (cnt_m (Nat.le_refl k) (by omega)) dX6_counts_66 ?_
          refine r_ic K (nI 1) dX6_counts_67 k_1 ?_
          refine r_add K dX6_counts_68 ?_
          refine r_ias K h 0 [_] rfl (by omega) (by decide) rfl dX6_counts_69 (fun H locs h => ?_)
          refine r_ic K (nI 1) dX6_counts_70 k_1 ?_
          refine r_isn K hl 3 [_, _, _, _, _, _] dX6_counts_71 rfl (by decide) rfl (fun ls hl => ?_)
          refine r_aln K hl 0 dX6_counts_72 rfl rfl ?_
          refine r_iln K hl 2 dX6_counts_73 rfl rfl ?_
          refine r_bp K (nI 10) dX6_counts_74 kb_10 ?_
          refine r_addN K dX6_counts_76 ?_
          refine r_il K hl 4 dX6_counts_77 rfl ?_
          refine r_addN K dX6_counts_79 ?_
          refine r_il K hl 5 dX6_counts_80 rfl ?_
          refine r_ias K h 0 [_] rfl (by omega) (by decide) rfl dX6_counts_82 (fun H locs h => ?_)
          refine r_incN K hl (k := 1) [_, _, _, _, _, _] dX6_counts_83 rfl (by decide) rfl (fun ls hl => ?_)
          refine r_go K 10 dX6_counts_86 (by decide) ?_
          have hm : mMv f p k = true := by unfold mMv; rw [decide_eq_true (Int32.not_le.mp c40), decide_eq_true c54]; rfl
          rw [show nI 1 = bI (anyMv f p (k + 1)) by rw [anyMv, hm, Bool.or_true]; rfl] at hl
          exact ih (k + 1) _ (by omega) _ _ (h.to (by rw [cnt_st (by omega) hm])) _ hl
  exact loop n 0 none (by omega) _ _ (h.to (by rw [cnt_0])) _ hl

theorem pk_sub_one {n : Nat} (h : 1 ≤ n) : nI (n - 1) = nI n - 1 := (pk_sub h).symm

set_option maxHeartbeats 4000000 in
set_option maxRecDepth 100000 in
theorem c_X6_lender (l : Launch) (g : GG) (a : Nat) (f : Row) (p n : Nat) (hp : p < 4) (hn1 : 1 ≤ n) (hn : n ≤ 4) (h0 : f 0 = nI n) : Ct l g yX6_lender cX6_lender 4 (some .int) 1 [.ref a, .int (nI p)] [aI g a 512 f] (some (.int (lentI (lendG f p 0 n)))) [aI g a 512 f] := by
  refine Ct.start (by decide +kernel) (Nat.le_of_ble_eq_true rfl) (by simp [Value.category]) (Or.inr ⟨.int, _, rfl, rfl, rfl⟩) ?_
  intro p0 e R s m args below meth c A Q K hr h ls hl
  have hl : Lq ls 4 [some (.ref a), some (.int (nI p)), none, none] := hl
  refine r_bp K (-9) dX6_lender_0 kb_m9 ?_
  refine r_isn K hl 2 [_, _, _, _] dX6_lender_2 rfl (by decide) rfl (fun ls hl => ?_)
  refine r_aln K hl 0 dX6_lender_3 rfl rfl ?_
  refine r_ic K (nI 0) dX6_lender_4 k_0 ?_
  refine r_ialE K h 0 rfl (by omega) (by decide) h0 dX6_lender_5 ?_
  refine r_ic K (nI 1) dX6_lender_6 k_1 ?_
  refine r_subN K (by omega) dX6_lender_7 ?_
  refine r_isn K hl 3 [_, _, _, _] dX6_lender_8 rfl (by decide) rfl (fun ls hl => ?_)
  have loop : ∀ (j : Nat) (v : Int32), v = nI j - 1 → j ≤ n → ∀ (H : Heap) (locs : List Loc), Hp g A s H locs [aI g a 512 f] → ∀ ls, Lq ls 4 [some (.ref a), some (.int (nI p)), some (.int (lentI (lendG f p j (n - j)))), some (.int v)] → W p0 l e R s m args below meth c H locs 0 0 Q (F0 m 9 ls []) := by
    intro j
    induction j with
    | zero =>
      intro v hv hj H locs h ls hl
      refine r_iln K hl 3 dX6_lender_9 rfl rfl ?_
      refine r_zlt K 42 dX6_lender_10 (by decide) (fun c10 => ?_) (fun c => absurd c (fun q => q (by rw [hv]; decide)))
      refine r_iln K hl 2 dX6_lender_42 rfl rfl ?_
      exact hr.1 _ _ _ _ _ dX6_lender_43 h rfl
    | succ j ih =>
      intro v hv hj H locs h ls hl
      obtain rfl : v = nI j := by rw [hv]; exact nI_pred j
      refine r_iln K hl 3 dX6_lender_9 rfl rfl ?_
      refine r_zlt K 42 dX6_lender_10 (by decide) (fun c => absurd c (nI_pos (by omega))) (fun c10 => ?_)
      refine r_aln K hl 0 dX6_lender_13 rfl rfl ?_
      refine r_iln K hl 1 dX6_lender_14 rfl rfl ?_
      refine r_callS K h hl (c_X6_writerAt l g p) mc_X6_writerAt st_X6_writerAt mlX6_40 [] rfl rfl rfl [_] rfl (by decide) (by decide) rfl rfl (Nat.le_of_ble_eq_true rfl) ⟨Nat.zero_le _, Nat.zero_le _⟩ dX6_lender_15 (fun H locs h => ?_)
      refine W.eq (g2 := F0 m 18 ls [_, _]) rfl ?_
      refine r_bp K (nI 6) dX6_lender_18 kb_6 ?_
      refine r_addN K dX6_lender_20 ?_
      refine r_iln K hl 3 dX6_lender_21 rfl rfl ?_
      refine r_addN K dX6_lender_22 ?_
      refine r_ial K h 0 rfl (by omega) (by decide) dX6_lender_23 ?_
      refine r_aln K hl 0 dX6_lender_24 rfl rfl ?_
      refine r_ic K (nI 1) dX6_lender_25 k_1 ?_
      refine r_ial K h 0 rfl (by omega) (by decide) dX6_lender_26 ?_
      refine r_clt K 34 dX6_lender_27 (by decide) (fun c27 => ?_) (fun c27 => ?_)
      · refine r_iln K hl 2 dX6_lender_34 rfl rfl ?_
        refine r_isn K hl 2 [_, _, _, _] dX6_lender_35 rfl (by decide) rfl (fun ls hl => ?_)
        refine r_inc K hl _ [_, _, _, _] dX6_lender_36 rfl rfl (by decide) rfl (fun ls hl => ?_)
        refine r_go K 9 dX6_lender_39 (by decide) ?_
        refine ih (nI j + Int32.ofInt (-1)) (by rw [Int32.sub_eq_add_neg]; rfl) (by omega) _ _ h _ ?_
        rw [show n - j = (n - (j + 1)) + 1 by omega, lendG, if_neg (Int32.not_le.mpr c27)]; exact hl
      · refine r_iln K hl 3 dX6_lender_30 rfl rfl ?_
        refine r_go K 35 dX6_lender_31 (by decide) ?_
        refine r_isn K hl 2 [_, _, _, _] dX6_lender_35 rfl (by decide) rfl (fun ls hl => ?_)
        refine r_inc K hl _ [_, _, _, _] dX6_lender_36 rfl rfl (by decide) rfl (fun ls hl => ?_)
        refine r_go K 9 dX6_lender_39 (by decide) ?_
        refine ih (nI j + Int32.ofInt (-1)) (by rw [Int32.sub_eq_add_neg]; rfl) (by omega) _ _ h _ ?_
        rw [show n - j = (n - (j + 1)) + 1 by omega, lendG, if_pos (Int32.not_lt.mp c27)]; exact hl
  refine loop n (nI (n - 1)) (pk_sub_one hn1) (Nat.le_refl n) _ _ h _ ?_
  rw [Nat.sub_self]; exact hl

theorem s2_0 {f : Row} {p j : Nat} (h : j ≠ 3) (h2 : j ≠ 32 + 42 * p + 2) : mS2 f p j = f j := by
  dsimp only [mS2]; rw [upd_ne h2, upd_ne h]
theorem s2_st {f : Row} {p st : Nat} (h : f (32 + 42 * p + 2) = nI st) : mS2 f p (32 + 42 * p + 2) = nI (st + 1) := by
  dsimp only [mS2]; rw [upd_self, upd_ne (by omega), h, nI_add]

set_option maxHeartbeats 4000000 in
set_option maxRecDepth 100000 in
theorem c_X6_step (l : Launch) (g : GG) (a : Nat) (f : Row) (p n ph wr st : Nat) (hp : p < 4) (hn2 : 2 ≤ n) (hn : n ≤ 4) (h0 : f 0 = nI n) (h5 : f 5 = nI ph) (hph : ph ≤ 24) (h6 : f 6 = nI wr) (hwr : wr ≤ 24) (hs : f (32 + 42 * p + 2) = nI st) (hst : st < 1000) : Ct l g yX6_step cX6_step 6 none 3 [.ref a, .int (nI p)] [aI g a 512 f] none [aI g a 512 (mStep f p)] := by
  refine Ct.start (by decide +kernel) (Nat.le_of_ble_eq_true rfl) (by simp [Value.category]) (Or.inl ⟨rfl, rfl⟩) ?_
  intro p0 e R s m args below meth c A Q K hr h ls hl
  have hl : Lq ls 6 [some (.ref a), some (.int (nI p)), none, none, none, none] := hl
  refine r_iln K hl 1 dX6_step_0 rfl rfl ?_
  refine r_callS K h hl (c_X6_writerAt l g p) mc_X6_writerAt st_X6_writerAt mlX6_40 [] rfl rfl rfl [_] rfl (by decide) (by decide) rfl rfl (Nat.le_of_ble_eq_true rfl) ⟨Nat.zero_le _, Nat.zero_le _⟩ dX6_step_1 (fun H locs h => ?_)
  refine W.eq (g2 := F0 m 4 ls [_]) rfl ?_
  refine r_isn K hl 2 [_, _, _, _, _, _] dX6_step_4 rfl (by decide) rfl (fun ls hl => ?_)
  refine r_aln K hl 0 dX6_step_5 rfl rfl ?_
  refine r_ic K (nI 3) dX6_step_6 k_3 ?_
  refine r_dup2 K dX6_step_7 rfl rfl ?_
  refine r_ial K h 0 rfl (by omega) (by decide) dX6_step_8 ?_
  refine r_ic K (nI 1) dX6_step_9 k_1 ?_
  refine r_add K dX6_step_10 ?_
  refine r_ias K h 0 [_] rfl (by omega) (by decide) rfl dX6_step_11 (fun H locs h => ?_)
  refine r_aln K hl 0 dX6_step_12 rfl rfl ?_
  refine r_iln K hl 2 dX6_step_13 rfl rfl ?_
  refine r_ic K (nI 2) dX6_step_14 k_2 ?_
  refine r_addN K dX6_step_15 ?_
  refine r_dup2 K dX6_step_16 rfl rfl ?_
  refine r_ial K h 0 rfl (by omega) (by decide) dX6_step_17 ?_
  refine r_ic K (nI 1) dX6_step_18 k_1 ?_
  refine r_add K dX6_step_19 ?_
  refine r_ias K h 0 [_] rfl (by omega) (by decide) rfl dX6_step_20 (fun H locs h => ?_)
  have hrn : rN f = n := by unfold rN; rw [h0]; exact nI_clamp (by omega)
  have hrs : rSt f p = st := by unfold rSt; rw [hs]; exact nI_clamp (by omega)
  have h := h.to (show _ = [aI g a 512 (mS2 f p)] from rfl)
  have s2_6 : mS2 f p 6 = nI wr := by rw [s2_0 (by omega) (by omega)]; exact h6
  have s2_5 : mS2 f p 5 = nI ph := by rw [s2_0 (by omega) (by omega)]; exact h5
  have s2_n : mS2 f p 0 = nI n := by rw [s2_0 (by omega) (by omega)]; exact h0
  have s2_t := s2_st hs
  have hmod : st % n < n := Nat.mod_lt _ (by omega)
  generalize hf2 : mS2 f p = f2 at h s2_6 s2_5 s2_n s2_t
  refine r_aln K hl 0 dX6_step_21 rfl rfl ?_
  refine r_iln K hl 2 dX6_step_22 rfl rfl ?_
  refine r_ic K (nI 5) dX6_step_23 k_5 ?_
  refine r_addN K dX6_step_24 ?_
  refine r_ial K h 0 rfl (by omega) (by decide) dX6_step_25 ?_
  refine r_ic K (nI 1) dX6_step_26 k_1 ?_
  refine r_cne K 36 dX6_step_27 (by decide) (fun c27 => ?_) (fun c27 => ?_)
  · refine r_aln K hl 0 dX6_step_36 rfl rfl ?_
    refine r_iln K hl 2 dX6_step_37 rfl rfl ?_
    refine r_ic K (nI 2) dX6_step_38 k_2 ?_
    refine r_addN K dX6_step_39 ?_
    refine r_ialE K h 0 rfl (by omega) (by decide) s2_t dX6_step_40 ?_
    refine r_ic K (nI 1) dX6_step_41 k_1 ?_
    refine r_subN K (by omega) dX6_step_42 ?_
    refine r_aln K hl 0 dX6_step_43 rfl rfl ?_
    refine r_ic K (nI 0) dX6_step_44 k_0 ?_
    refine r_ialE K h 0 rfl (by omega) (by decide) s2_n dX6_step_45 ?_
    refine r_remN K (by omega) (by omega) (by omega) dX6_step_46 ?_
    refine r_isn K hl 3 [_, _, _, _, _, _] dX6_step_47 rfl (by decide) rfl (fun ls hl => ?_)
    refine r_ic K (nI 0) dX6_step_48 k_0 ?_
    refine r_is K hl 4 [_, _, _, _, _, _] dX6_step_49 (by decide) rfl (fun ls hl => ?_)
    rw [show st + 1 - 1 = st by omega] at hl
    have loop : ∀ (j k : Nat), k + j = 6 → ∀ (H : Heap) (locs : List Loc), Hp g A s H locs [aI g a 512 (va_cpy f2 f2 (8 + 6 * (st % n)) (32 + 42 * p + 14 + 6 * (st % n)) k)] → ∀ ls, Lq ls 6 [some (.ref a), some (.int (nI p)), some (.int (nI (32 + 42 * p))), some (.int (nI (st % n))), some (.int (nI k)), none] → W p0 l e R s m args below meth c H locs 0 0 Q (F0 m 51 ls []) := by
      intro j
      induction j with
      | zero =>
        intro k hk H locs h ls hl
        refine r_il K hl 4 dX6_step_51 rfl ?_
        refine r_bp K (nI 6) dX6_step_53 kb_6 ?_
        refine r_cgeN K 87 dX6_step_55 (by decide) (by omega) (by omega) (fun c55 => ?_) (fun c => absurd c (by omega))
        obtain rfl : k = 6 := by omega
        have h := h.to (show _ = [aI g a 512 (mRead f2 p (st % n))] from rfl)
        have rd : ∀ j, (j < 32 + 42 * p + 14 + 6 * (st % n) ∨ 32 + 42 * p + 14 + 6 * (st % n) + 6 ≤ j) → mRead f2 p (st % n) j = f2 j := fun j h => cpy_o h
        have h30 := (rd 0 (by omega)).trans s2_n
        have h35 := (rd 5 (by omega)).trans s2_5
        generalize hf3 : mRead f2 p (st % n) = f3 at h h30 h35
        refine r_iln K hl 3 dX6_step_87 rfl rfl ?_
        refine r_aln K hl 0 dX6_step_88 rfl rfl ?_
        refine r_ic K (nI 0) dX6_step_89 k_0 ?_
        refine r_ialE K h 0 rfl (by omega) (by decide) h30 dX6_step_90 ?_
        refine r_ic K (nI 1) dX6_step_91 k_1 ?_
        refine r_subN K (by omega) dX6_step_92 ?_
        refine r_cgeN K 97 dX6_step_93 (by decide) (by omega) (by omega) (fun c93 => ?_) (fun c93 => ?_)
        · refine r_aln K hl 0 dX6_step_97 rfl rfl ?_
          refine r_iln K hl 2 dX6_step_98 rfl rfl ?_
          refine r_ic K (nI 4) dX6_step_99 k_4 ?_
          refine r_addN K dX6_step_100 ?_
          refine r_dup2 K dX6_step_101 rfl rfl ?_
          refine r_ial K h 0 rfl (by omega) (by decide) dX6_step_102 ?_
          refine r_ic K (nI 1) dX6_step_103 k_1 ?_
          refine r_add K dX6_step_104 ?_
          refine r_ias K h 0 [_] rfl (by omega) (by decide) rfl dX6_step_105 (fun H locs h => ?_)
          have hS : mStep f p = mWhole f3 p := by dsimp only [mStep]; rw [hf2, if_neg c27, hrn, hrs, if_neg (by omega), hf3]
          have hr3 : rN f3 = n := by unfold rN; rw [h30]; exact nI_clamp (by omega)
          generalize hf4 : upd f3 (32 + 42 * p + 4) (f3 (32 + 42 * p + 4) + nI 1) = f4 at h
          have h40 : f4 0 = nI n := by rw [← hf4, upd_ne (by omega)]; exact h30
          have h45 : f4 5 = nI ph := by rw [← hf4, upd_ne (by omega)]; exact h35
          refine r_aln K hl 0 dX6_step_106 rfl rfl ?_
          refine r_iln K hl 1 dX6_step_107 rfl rfl ?_
          refine r_callS K h hl (c_X6_counts l g a _ p n hp (by omega) h40) mc_X6_counts st_X6_counts mlX6_54 [0] rfl rfl rfl [_] rfl (by decide) (by decide) rfl rfl (Nat.le_of_ble_eq_true rfl) ⟨Nat.zero_le _, Nat.zero_le _⟩ dX6_step_108 (fun H locs h => ?_)
          refine W.eq (g2 := F0 m 111 ls [_]) rfl ?_
          refine r_is K hl 4 [_, _, _, _, _, _] dX6_step_111 (by decide) rfl (fun ls hl => ?_)
          have h50 := (cnt_o (f := f4) (p := p) (k := n) (j := 0) (by omega) (by omega)).trans h40
          have h55 := (cnt_o (f := f4) (p := p) (k := n) (j := 5) (by omega) (by omega)).trans h45
          generalize hf5 : mCnt f4 p n = f5 at h h50 h55
          have hr5 : rN f5 = n := by unfold rN; rw [h50]; exact nI_clamp (by omega)
          generalize his : anyMv f4 p n = is at hl
          have J : ∀ (H : Heap) (locs : List Loc), Hp g A s H locs [aI g a 512 f5] → ∀ q : Option Nat, q = (if is then mLend f5 p else none) → W p0 l e R s m args below meth c H locs 0 0 Q (F0 m 128 ls [.int (lentI q)]) := by
            intro H locs h q hq
            have hqn : ∀ x, q = some x → x < n := fun x hx => by
              rw [hx] at hq
              cases is with
              | false => exact absurd hq (by simp)
              | true => have := lendG_lt (rN f5) 0 x (by rw [if_pos rfl] at hq; exact hq.symm); omega
            have hW : mWhole f3 p = if f5 (32 + 42 * p + 4) = nI 1 ∨ (is = true ∧ q = none) then f5 else (if mTakes f5 p q (32 + 42 * p + 0) = nI 1 then mIdles (mTakes f5 p q) p else mTakes f5 p q) := by dsimp only [mWhole]; rw [hr3, hf4, hf5, his, ← hq]
            refine r_is K hl 5 [_, _, _, _, _, _] dX6_step_128 (by decide) rfl (fun ls hl => ?_)
            refine r_aln K hl 0 dX6_step_130 rfl rfl ?_
            refine r_iln K hl 2 dX6_step_131 rfl rfl ?_
            refine r_ic K (nI 4) dX6_step_132 k_4 ?_
            refine r_addN K dX6_step_133 ?_
            refine r_ial K h 0 rfl (by omega) (by decide) dX6_step_134 ?_
            refine r_ic K (nI 1) dX6_step_135 k_1 ?_
            refine r_ceq K 151 dX6_step_136 (by decide) (fun c136 => ?_) (fun c136 => ?_)
            · exact hr.2 _ _ _ _ dX6_step_151 (h.to (by rw [hS, hW, if_pos (Or.inl c136)])) rfl
            · refine r_il K hl 4 dX6_step_139 rfl ?_
              refine r_zeqB K 152 dX6_step_141 (by decide) (fun c141 => ?_) (fun c141 => ?_)
              · refine r_aln K hl 0 dX6_step_152 rfl rfl ?_
                refine r_iln K hl 1 dX6_step_153 rfl rfl ?_
                refine r_il K hl 5 dX6_step_154 rfl ?_
                refine r_callS K h hl (c_X6_takes l g a _ p n ph q hp (by omega) hqn h50 h55 hph) mc_X6_takes st_X6_takes mlX6_62 [0] rfl rfl rfl [_] rfl (by decide) (by decide) rfl rfl (Nat.le_of_ble_eq_true rfl) ⟨Nat.zero_le _, Nat.zero_le _⟩ dX6_step_156 (fun H locs h => ?_)
                refine W.eq (g2 := F0 m 159 ls []) rfl ?_
                refine r_aln K hl 0 dX6_step_159 rfl rfl ?_
                refine r_iln K hl 2 dX6_step_160 rfl rfl ?_
                refine r_ic K (nI 0) dX6_step_161 k_0 ?_
                refine r_addN K dX6_step_162 ?_
                refine r_ial K h 0 rfl (by omega) (by decide) dX6_step_163 ?_
                refine r_ic K (nI 1) dX6_step_164 k_1 ?_
                refine r_cne K 173 dX6_step_165 (by decide) (fun c165 => ?_) (fun c165 => ?_)
                · exact hr.2 _ _ _ _ dX6_step_173 (h.to (by rw [hS, hW, if_neg (fun h => h.elim c136 (fun h => by rw [c141] at h; cases h.1)), if_neg c165])) rfl
                · refine r_aln K hl 0 dX6_step_168 rfl rfl ?_
                  refine r_iln K hl 1 dX6_step_169 rfl rfl ?_
                  refine r_callS K h hl (c_X6_idles l g a _ p hp) mc_X6_idles st_X6_idles mlX6_44 [0] rfl rfl rfl [_] rfl (by decide) (by decide) rfl rfl (Nat.le_of_ble_eq_true rfl) ⟨Nat.zero_le _, Nat.zero_le _⟩ dX6_step_170 (fun H locs h => ?_)
                  refine W.eq (g2 := F0 m 173 ls []) rfl ?_
                  exact hr.2 _ _ _ _ dX6_step_173 (h.to (by rw [hS, hW, if_neg (fun h => h.elim c136 (fun h => by rw [c141] at h; cases h.1)), if_pos c165])) rfl
              · refine r_il K hl 5 dX6_step_144 rfl ?_
                refine r_bp K (-9) dX6_step_146 kb_m9 ?_
                cases q with
                | none =>
                  refine r_cne K 152 dX6_step_148 (by decide) (fun c => absurd rfl c) (fun c148 => ?_)
                  exact hr.2 _ _ _ _ dX6_step_151 (h.to (by rw [hS, hW, if_pos (Or.inr ⟨c141, rfl⟩)])) rfl
                | some q =>
                  have hq2 : q < n := hqn q rfl
                  refine r_cne K 152 dX6_step_148 (by decide) (fun c148 => ?_) (fun c => absurd c (lent_ne (by omega)))
                  refine r_aln K hl 0 dX6_step_152 rfl rfl ?_
                  refine r_iln K hl 1 dX6_step_153 rfl rfl ?_
                  refine r_il K hl 5 dX6_step_154 rfl ?_
                  refine r_callS K h hl (c_X6_takes l g a _ p n ph q hp (by omega) hqn h50 h55 hph) mc_X6_takes st_X6_takes mlX6_62 [0] rfl rfl rfl [_] rfl (by decide) (by decide) rfl rfl (Nat.le_of_ble_eq_true rfl) ⟨Nat.zero_le _, Nat.zero_le _⟩ dX6_step_156 (fun H locs h => ?_)
                  refine W.eq (g2 := F0 m 159 ls []) rfl ?_
                  refine r_aln K hl 0 dX6_step_159 rfl rfl ?_
                  refine r_iln K hl 2 dX6_step_160 rfl rfl ?_
                  refine r_ic K (nI 0) dX6_step_161 k_0 ?_
                  refine r_addN K dX6_step_162 ?_
                  refine r_ial K h 0 rfl (by omega) (by decide) dX6_step_163 ?_
                  refine r_ic K (nI 1) dX6_step_164 k_1 ?_
                  refine r_cne K 173 dX6_step_165 (by decide) (fun c165 => ?_) (fun c165 => ?_)
                  · exact hr.2 _ _ _ _ dX6_step_173 (h.to (by rw [hS, hW, if_neg (fun h => h.elim c136 (fun h => by cases h.2)), if_neg c165])) rfl
                  · refine r_aln K hl 0 dX6_step_168 rfl rfl ?_
                    refine r_iln K hl 1 dX6_step_169 rfl rfl ?_
                    refine r_callS K h hl (c_X6_idles l g a _ p hp) mc_X6_idles st_X6_idles mlX6_44 [0] rfl rfl rfl [_] rfl (by decide) (by decide) rfl rfl (Nat.le_of_ble_eq_true rfl) ⟨Nat.zero_le _, Nat.zero_le _⟩ dX6_step_170 (fun H locs h => ?_)
                    refine W.eq (g2 := F0 m 173 ls []) rfl ?_
                    exact hr.2 _ _ _ _ dX6_step_173 (h.to (by rw [hS, hW, if_neg (fun h => h.elim c136 (fun h => by cases h.2)), if_pos c165])) rfl
          refine r_il K hl 4 dX6_step_113 rfl ?_
          refine r_zeqB K 126 dX6_step_115 (by decide) (fun c115 => ?_) (fun c115 => ?_)
          · refine r_bp K (-9) dX6_step_126 kb_m9 ?_
            exact J _ _ h none (by rw [c115]; rfl)
          · refine r_aln K hl 0 dX6_step_118 rfl rfl ?_
            refine r_iln K hl 1 dX6_step_119 rfl rfl ?_
            refine r_callS K h hl (c_X6_lender l g a _ p n hp (by omega) (by omega) h50) mc_X6_lender st_X6_lender mlX6_58 [0] rfl rfl rfl [_] rfl (by decide) (by decide) rfl rfl (Nat.le_of_ble_eq_true rfl) ⟨Nat.zero_le _, Nat.zero_le _⟩ dX6_step_120 (fun H locs h => ?_)
            refine W.eq (g2 := F0 m 123 ls [_]) rfl ?_
            refine r_go K 128 dX6_step_123 (by decide) ?_
            refine W.eq (g2 := F0 m 128 ls [.int (lentI (mLend f5 p))]) (by rw [mLend, hr5]) ?_
            exact J _ _ h (mLend f5 p) (by rw [c115, if_pos rfl])
        · exact hr.2 _ _ _ _ dX6_step_96 (h.to (by dsimp only [mStep]; rw [hf2, if_neg c27, hrn, hrs, if_pos c93, hf3])) rfl
      | succ j ih =>
        intro k hk H locs h ls hl
        refine r_il K hl 4 dX6_step_51 rfl ?_
        refine r_bp K (nI 6) dX6_step_53 kb_6 ?_
        refine r_cgeN K 87 dX6_step_55 (by decide) (by omega) (by omega) (fun c => absurd c (by omega)) (fun c55 => ?_)
        refine r_aln K hl 0 dX6_step_58 rfl rfl ?_
        refine r_iln K hl 2 dX6_step_59 rfl rfl ?_
        refine r_bp K (nI 14) dX6_step_60 kb_14 ?_
        refine r_addN K dX6_step_62 ?_
        refine r_bp K (nI 6) dX6_step_63 kb_6 ?_
        refine r_iln K hl 3 dX6_step_65 rfl rfl ?_
        refine r_mulN K dX6_step_66 ?_
        refine r_addN K dX6_step_67 ?_
        refine r_il K hl 4 dX6_step_68 rfl ?_
        refine r_addN K dX6_step_70 ?_
        refine r_aln K hl 0 dX6_step_71 rfl rfl ?_
        refine r_iln K hl 3 dX6_step_72 rfl rfl ?_
        refine r_callS K h hl (c_X6_cellAt l g (st % n)) mc_X6_cellAt st_X6_cellAt mlX6_48 [] rfl rfl rfl [_] rfl (by decide) (by decide) rfl rfl (Nat.le_of_ble_eq_true rfl) ⟨Nat.zero_le _, Nat.zero_le _⟩ dX6_step_73 (fun H locs h => ?_)
        refine W.eq (g2 := F0 m 76 ls [_, _, _, _]) rfl ?_
        refine r_il K hl 4 dX6_step_76 rfl ?_
        refine r_addN K dX6_step_78 ?_
        refine r_ial K h 0 rfl (by omega) (by decide) dX6_step_79 ?_
        refine r_ias K h 0 [_] rfl (by omega) (by decide) rfl dX6_step_80 (fun H locs h => ?_)
        refine r_incN K hl (k := 1) [_, _, _, _, _, _] dX6_step_81 rfl (by decide) rfl (fun ls hl => ?_)
        refine r_go K 51 dX6_step_84 (by decide) ?_
        refine ih (k + 1) (by omega) _ _ (h.to ?_) _ hl
        rw [← cpy_s, cpy_o (f := f2) (g := f2) (by omega)]
    exact loop 6 0 rfl _ _ (h.to (by rw [cpy_0])) _ hl
  · refine r_aln K hl 0 dX6_step_30 rfl rfl ?_
    refine r_iln K hl 1 dX6_step_31 rfl rfl ?_
    refine r_callS K h hl (c_X6_writesNow l g a _ p wr hp (s2_6) hwr) mc_X6_writesNow st_X6_writesNow mlX6_51 [0] rfl rfl rfl [_] rfl (by decide) (by decide) rfl rfl (Nat.le_of_ble_eq_true rfl) ⟨Nat.zero_le _, Nat.zero_le _⟩ dX6_step_32 (fun H locs h => ?_)
    refine W.eq (g2 := F0 m 35 ls []) rfl ?_
    exact hr.2 _ _ _ _ dX6_step_35 (h.to (by dsimp only [mStep]; rw [hf2, if_pos c27])) rfl
end
section
/-! a row that is well: what every step keeps -/
def WPi (f : Row) (p : Nat) : Prop := ∀ i, i < 42 → f (32 + 42 * p + i) = 0
def WPb (f : Row) (n mv p kd st wh hs : Nat) (mm : Nat → Nat) : Prop :=
  f (32 + 42 * p + 0) = nI kd ∧ f (32 + 42 * p + 2) = nI st ∧ f (32 + 42 * p + 4) = nI wh ∧ f (32 + 42 * p + 5) = nI hs ∧ (∀ c, c < 4 → f (32 + 42 * p + 6 + c) = nI (mm c)) ∧ (kd = 1 ∨ kd = 2) ∧
  (hs = 0 ∧ st / n = wh ∧ (∀ c, c < 4 → mm c < mv) ∧ (∀ c, n ≤ c → mm c = 0) ∧ wh ≤ 1 + (mm 0 + mm 1 + mm 2 + mm 3) ∨ hs = 1 ∧ kd = 2 ∧ st ≤ 60 ∧ wh ≤ 60)
def WP (f : Row) (n mv p : Nat) : Prop := WPi f p ∨ ∃ (kd st wh hs : Nat) (mm : Nat → Nat), WPb f n mv p kd st wh hs mm
def WFr (f : Row) (n mv ph wr : Nat) : Prop := (2 ≤ n ∧ n ≤ 4 ∧ 1 ≤ mv ∧ mv ≤ 4 ∧ ph ≤ 24 ∧ wr ≤ 24) ∧ f 0 = nI n ∧ f 1 = nI mv ∧ f 5 = nI ph ∧ f 6 = nI wr ∧ ∀ p, p < 4 → WP f n mv p
theorem WPb.st60 {f : Row} {n mv p kd st wh hs : Nat} {mm : Nat → Nat} (h : WPb f n mv p kd st wh hs mm) (hn2 : 2 ≤ n) (hn : n ≤ 4) (hm : mv ≤ 4) : st ≤ 60 := by
  obtain ⟨-, -, -, -, -, -, h | h⟩ := h
  · obtain ⟨-, h1, h2, h3, h4⟩ := h
    have a0 := h2 0 (by omega)
    have a1 := h2 1 (by omega)
    have a2 := h2 2 (by omega)
    have a3 := h2 3 (by omega)
    rcases (by omega : n = 2 ∨ n = 3 ∨ n = 4) with rfl | rfl | rfl
    · have := h3 2 (by omega); have := h3 3 (by omega); omega
    · have := h3 3 (by omega); omega
    · omega
  · exact h.2.2.1
theorem WPb.st55 {f : Row} {n mv p kd st wh : Nat} {mm : Nat → Nat} (h : WPb f n mv p kd st wh 0 mm) (hn2 : 2 ≤ n) (hn : n ≤ 4) (hm : mv ≤ 4) : st ≤ 55 ∧ wh ≤ 13 := by
  obtain ⟨-, -, -, -, -, -, h | h⟩ := h
  · obtain ⟨-, h1, h2, h3, h4⟩ := h
    have a0 := h2 0 (by omega)
    have a1 := h2 1 (by omega)
    have a2 := h2 2 (by omega)
    have a3 := h2 3 (by omega)
    rcases (by omega : n = 2 ∨ n = 3 ∨ n = 4) with rfl | rfl | rfl
    · have := h3 2 (by omega); have := h3 3 (by omega); omega
    · have := h3 3 (by omega); omega
    · omega
  · exact absurd h.1 (by omega)
theorem nI0 : nI 0 = 0 := rfl
theorem nIne {a b : Nat} (ha : a < 2 ^ 31) (hb : b < 2 ^ 31) (h : a ≠ b) : ¬ nI a = nI b := fun e => h ((nI_eq ha hb).mp e)
theorem WP.act {f : Row} {n mv p : Nat} (h : WP f n mv p) (ha : ¬ f (32 + 42 * p + 0) = 0) : ∃ (kd st wh hs : Nat) (mm : Nat → Nat), WPb f n mv p kd st wh hs mm := by
  rcases h with h | h
  · exact absurd (h 0 (by omega)) ha
  · exact h
theorem WPb.ne0 {f : Row} {n mv p kd st wh hs : Nat} {mm : Nat → Nat} (h : WPb f n mv p kd st wh hs mm) : ¬ f (32 + 42 * p + 0) = 0 := by
  rw [h.1]; rcases h.2.2.2.2.2.1 with e | e <;> rw [e] <;> decide
/-- what a writer's part rests on -/
theorem WP.to {f f' : Row} {n mv p : Nat} (h : WP f n mv p) (e : ∀ i, i < 42 → f' (32 + 42 * p + i) = f (32 + 42 * p + i)) : WP f' n mv p := by
  rcases h with h | ⟨kd, st, wh, hs, mm, h1, h2, h3, h4, h5, h6⟩
  · exact Or.inl (fun i hi => (e i hi).trans (h i hi))
  · exact Or.inr ⟨kd, st, wh, hs, mm, (e 0 (by omega)).trans h1, (e 2 (by omega)).trans h2, (e 4 (by omega)).trans h3, (e 5 (by omega)).trans h4, fun c hc => by
      have := e (6 + c) (by omega)
      rw [← Nat.add_assoc] at this
      exact this.trans (h5 c hc), h6⟩
/-! values of the parts of a step -/
theorem tk_o {f : Row} {p : Nat} {q : Option Nat} {k j : Nat} (h : j < 32 + 42 * p + 38 ∨ 32 + 42 * p + 38 + k ≤ j) : mTk f p q k j = f j := if_neg (by omega)
theorem tk_i {f : Row} {p : Nat} {q : Option Nat} {k c : Nat} (h : c < k) : mTk f p q k (32 + 42 * p + 38 + c) = mSrc f p q c := by
  unfold mTk; rw [if_pos (by omega), show 32 + 42 * p + 38 + c - (32 + 42 * p + 38) = c by omega]
theorem pho_o {f : Row} {p : Nat} {q : Option Nat} {j ph : Nat} (h5 : rPh f = ph) (h : j < 200 + 10 * ph ∨ 200 + 10 * ph + 10 ≤ j) (hj : j ≠ 5) : mPho f p q j = f j := by
  dsimp only [mPho]; rw [h5]
  rw [upd_ne hj, cpy_o (by omega), upd_ne (by omega), upd_ne (by omega), upd_ne (by omega), upd_ne (by omega), upd_ne (by omega), upd_ne (by omega)]
theorem pho_5 {f : Row} {p : Nat} {q : Option Nat} {ph : Nat} (h5 : f 5 = nI ph) (hph : ph < 2 ^ 31) : mPho f p q 5 = nI (ph + 1) := by
  dsimp only [mPho]
  rw [upd_self, cpy_o (by omega), upd_ne (by omega), upd_ne (by omega), upd_ne (by omega), upd_ne (by omega), upd_ne (by omega), upd_ne (by omega), h5, nI_add]
theorem ev_o {f : Row} {p j wr : Nat} (h6 : rWr f = wr) (h : j < 440 + 3 * wr ∨ 440 + 3 * wr + 3 ≤ j) (hj : j ≠ 6) : mEv f p j = f j := by
  dsimp only [mEv]; rw [h6]
  rw [upd_ne hj, upd_ne (by omega), upd_ne (by omega), upd_ne (by omega)]
theorem ev_6 {f : Row} {p wr : Nat} (h6 : f 6 = nI wr) : mEv f p 6 = nI (wr + 1) := by
  dsimp only [mEv]
  rw [upd_self, upd_ne (by omega), upd_ne (by omega), upd_ne (by omega), h6, nI_add]
theorem wr1_o {f : Row} {p j : Nat} (h : j < 8 + 6 * p ∨ 8 + 6 * p + 2 ≤ j) : mWr1 f p j = f j := by
  dsimp only [mWr1]; rw [upd_ne (by omega), upd_ne (by omega), upd_ne (by omega)]
theorem rWr_of {f : Row} {wr : Nat} (h6 : f 6 = nI wr) (h : wr ≤ 24) : rWr f = wr := by unfold rWr; rw [h6]; exact nI_clamp (by omega)
theorem rPh_of {f : Row} {ph : Nat} (h5 : f 5 = nI ph) (h : ph ≤ 24) : rPh f = ph := by unfold rPh; rw [h5]; exact nI_clamp (by omega)
theorem rN_of {f : Row} {n : Nat} (h0 : f 0 = nI n) (h : n ≤ 4) : rN f = n := by unfold rN; rw [h0]; exact nI_clamp (by omega)
theorem rSt_of {f : Row} {p st : Nat} (h0 : f (32 + 42 * p + 2) = nI st) (h : st < 1000) : rSt f p = st := by unfold rSt; rw [h0]; exact nI_clamp (by omega)
/-- a write: outside the writer's part, its cell, the events, nothing changes -/
theorem wr_o {f : Row} {p j wr : Nat} (h6 : f 6 = nI wr) (hwr : wr ≤ 24) (hp : p < 4) (h1 : j < 8 + 6 * p ∨ 8 + 6 * p + 6 ≤ j) (h2 : j < 32 + 42 * p ∨ 32 + 42 * p + 42 ≤ j) (h3 : j < 440 + 3 * wr ∨ 440 + 3 * wr + 3 ≤ j) (hj : j ≠ 6) : mWrite f p j = f j := by
  dsimp only [mWrite]
  rw [idl_o h2]
  have e4 : va_cpy (mWr1 f p) (mWr1 f p) (32 + 42 * p + 38) (8 + 6 * p + 2) 4 6 = nI wr := by rw [cpy_o (by omega), wr1_o (by omega)]; exact h6
  split
  · rw [ev_o (rWr_of e4 hwr) h3 hj, cpy_o (by omega), wr1_o (by omega)]
  · rw [cpy_o (by omega), wr1_o (by omega)]
theorem wr_6 {f : Row} {p wr : Nat} (h6 : f 6 = nI wr) (hwr : wr ≤ 24) (hp : p < 4) : mWrite f p 6 = nI (if wr < 24 then wr + 1 else wr) := by
  dsimp only [mWrite]
  rw [idl_o (by omega), rWr_of h6 hwr]
  have e4 : va_cpy (mWr1 f p) (mWr1 f p) (32 + 42 * p + 38) (8 + 6 * p + 2) 4 6 = nI wr := by rw [cpy_o (by omega), wr1_o (by omega)]; exact h6
  split
  · rw [ev_6 e4]
  · exact e4
theorem takes_o {f : Row} {p : Nat} {q : Option Nat} {j n ph : Nat} (h0 : f 0 = nI n) (hn : n ≤ 4) (h5 : f 5 = nI ph) (hph : ph ≤ 24) (h1 : j < 32 + 42 * p + 38 ∨ 32 + 42 * p + 42 ≤ j) (h2 : j < 200 + 10 * ph ∨ 200 + 10 * ph + 10 ≤ j) (h3 : j ≠ 5) (h4 : j ≠ 32 + 42 * p + 5) : mTakes f p q j = f j := by
  dsimp only [mTakes]
  rw [upd_ne h4]
  have e5 : mTk f p q (rN f) 5 = nI ph := by rw [tk_o (by omega)]; exact h5
  have en := rN_of h0 hn
  split
  · rw [pho_o (rPh_of e5 hph) h2 h3, tk_o (by omega)]
  · rw [tk_o (by omega)]
theorem takes_5 {f : Row} {p : Nat} {q : Option Nat} {n ph : Nat} (h0 : f 0 = nI n) (hn : n ≤ 4) (h5 : f 5 = nI ph) (hph : ph ≤ 24) : mTakes f p q 5 = nI (if ph < 24 then ph + 1 else ph) := by
  dsimp only [mTakes]
  rw [upd_ne (by omega), rPh_of h5 hph]
  have e5 : mTk f p q (rN f) 5 = nI ph := by rw [tk_o (by omega)]; exact h5
  split
  · rw [pho_5 e5 (by omega)]
  · exact e5
theorem takes_h {f : Row} {p : Nat} {q : Option Nat} : mTakes f p q (32 + 42 * p + 5) = nI 1 := upd_self
theorem anyMv_f {f : Row} {p : Nat} (h : ¬ nI 1 < f (32 + 42 * p + 4)) : ∀ k, anyMv f p k = false
  | 0 => rfl
  | k + 1 => by
    rw [anyMv, anyMv_f h k]; unfold mMv; rw [decide_eq_false (p := nI 1 < f (32 + 42 * p + 4)) h]; rfl
theorem anyMv_ex {f : Row} {p : Nat} : ∀ k, anyMv f p k = true → ∃ c, c < k ∧ mMv f p c = true
  | 0, h => by cases h
  | k + 1, h => by
    rw [anyMv, Bool.or_eq_true] at h
    rcases h with h | h
    · obtain ⟨c, h1, h2⟩ := anyMv_ex k h; exact ⟨c, by omega, h2⟩
    · exact ⟨k, by omega, h⟩
theorem anyMv_no {f : Row} {p : Nat} : ∀ k, anyMv f p k = false → ∀ c, c < k → mMv f p c = false
  | 0, _, c, hc => by omega
  | k + 1, h, c, hc => by
    rw [anyMv, Bool.or_eq_false_iff] at h
    by_cases e : c = k
    · subst e; exact h.2
    · exact anyMv_no k h.1 c (by omega)
theorem lendG_none {f : Row} {p : Nat} : ∀ (i j : Nat), lendG f p j i = none → ∀ c, j ≤ c → c < j + i → ¬ f 1 ≤ f (32 + 42 * p + 6 + c)
  | 0, _, _, c, h1, h2 => by omega
  | i + 1, j, h, c, h1, h2 => by
    rw [lendG] at h
    split at h
    · cases h
    · rename_i hh
      by_cases e : c = j
      · subst e; exact hh
      · exact lendG_none i (j + 1) h c (by omega) (by omega)
theorem cnt_mv {f : Row} {p k c : Nat} (hk : k ≤ 4) (hc : c < 4) : mCnt f p k (32 + 42 * p + 6 + c) = if c < k ∧ mMv f p c = true then f (32 + 42 * p + 6 + c) + nI 1 else f (32 + 42 * p + 6 + c) := by
  unfold mCnt
  rw [if_neg (show ¬ (32 + 42 * p + 10 ≤ 32 + 42 * p + 6 + c ∧ 32 + 42 * p + 6 + c < 32 + 42 * p + 10 + k) by omega), show 32 + 42 * p + 6 + c - (32 + 42 * p + 6) = c by omega]
  by_cases h : c < k ∧ mMv f p c = true
  · rw [if_pos h, if_pos ⟨by omega, by omega, h.2⟩]
  · rw [if_neg h, if_neg (fun h2 => h ⟨by omega, h2.2.2⟩)]
theorem cnt_ah {f : Row} {p k c : Nat} (hc : c < k) : mCnt f p k (32 + 42 * p + 10 + c) = f (32 + 42 * p + 14 + 6 * c + 1) := by
  unfold mCnt; rw [if_pos (by omega), show 32 + 42 * p + 10 + c - (32 + 42 * p + 10) = c by omega]
theorem cnt_out {f : Row} {p k j : Nat} (h : j < 32 + 42 * p + 6 ∨ 32 + 42 * p + 14 ≤ j) (hk : k ≤ 4) : mCnt f p k j = f j := cnt_o (by omega) hk
end
section
/-! a step, case by case -/
def mF4 (f : Row) (p c : Nat) : Row := upd (mRead (mS2 f p) p c) (32 + 42 * p + 4) (mRead (mS2 f p) p c (32 + 42 * p + 4) + nI 1)
theorem rd_o {f : Row} {p c j : Nat} (h : j < 32 + 42 * p + 14 + 6 * c ∨ 32 + 42 * p + 14 + 6 * c + 6 ≤ j) : mRead f p c j = f j := cpy_o h
theorem rd_i {f : Row} {p c i : Nat} (h : i < 6) : mRead f p c (32 + 42 * p + 14 + 6 * c + i) = f (8 + 6 * c + i) := by
  unfold mRead; rw [cpy_i (by omega) (by omega)]; congr 1; omega
theorem f4_o {f : Row} {p c j : Nat} (h1 : j ≠ 3) (h2 : j ≠ 32 + 42 * p + 2) (h3 : j ≠ 32 + 42 * p + 4) (h : j < 32 + 42 * p + 14 + 6 * c ∨ 32 + 42 * p + 14 + 6 * c + 6 ≤ j) : mF4 f p c j = f j := by
  unfold mF4; rw [upd_ne h3, rd_o h, s2_0 h1 h2]
theorem f4_2 {f : Row} {p c st : Nat} (h : f (32 + 42 * p + 2) = nI st) : mF4 f p c (32 + 42 * p + 2) = nI (st + 1) := by
  unfold mF4; rw [upd_ne (by omega), rd_o (by omega), s2_st h]
theorem f4_3 {f : Row} {p c : Nat} : mF4 f p c 3 = f 3 + nI 1 := by
  unfold mF4; rw [upd_ne (by omega), rd_o (by omega)]; dsimp only [mS2]; rw [upd_ne (by omega), upd_self]
theorem f4_4 {f : Row} {p c wh : Nat} (h : f (32 + 42 * p + 4) = nI wh) : mF4 f p c (32 + 42 * p + 4) = nI (wh + 1) := by
  unfold mF4; rw [upd_self, rd_o (by omega), s2_0 (by omega) (by omega), h, nI_add]
theorem f4_r {f : Row} {p c i : Nat} (hp : p < 4) (hc : c < 4) (h : i < 6) : mF4 f p c (32 + 42 * p + 14 + 6 * c + i) = f (8 + 6 * c + i) := by
  unfold mF4; rw [upd_ne (by omega), rd_i h, s2_0 (by omega) (by omega)]
def mF5 (f : Row) (p n : Nat) : Row := mCnt (mF4 f p (n - 1)) p n
theorem f5_o {f : Row} {p n j : Nat} (hn1 : 1 ≤ n) (hn : n ≤ 4) (h1 : j ≠ 3) (h : j < 32 + 42 * p ∨ 32 + 42 * p + 42 ≤ j) : mF5 f p n j = f j := by
  unfold mF5; rw [cnt_out (by omega) hn, f4_o h1 (by omega) (by omega) (by omega)]
/-- the three ways of a step -/
theorem step_A {f : Row} {n mv p kd st wh : Nat} {mm : Nat → Nat} (hb : WPb f n mv p kd st wh 1 mm) (hp : p < 4) : mStep f p = mWrite (mS2 f p) p := by
  dsimp only [mStep]
  rw [if_pos]
  rw [s2_0 (by omega) (by omega)]; exact hb.2.2.2.1
theorem step_nA {f : Row} {n mv p kd st wh : Nat} {mm : Nat → Nat} (hb : WPb f n mv p kd st wh 0 mm) (hp : p < 4) : ¬ mS2 f p (32 + 42 * p + 5) = nI 1 := by
  rw [s2_0 (by omega) (by omega), hb.2.2.2.1]; decide
theorem step_B {f : Row} {n mv ph wr p kd st wh : Nat} {mm : Nat → Nat} (hf : WFr f n mv ph wr) (hb : WPb f n mv p kd st wh 0 mm) (hp : p < 4) (hc : st % n < n - 1) : mStep f p = mRead (mS2 f p) p (st % n) := by
  have h60 := hb.st60 hf.1.1 hf.1.2.1 hf.1.2.2.2.1
  dsimp only [mStep]
  rw [if_neg (step_nA hb hp), rSt_of hb.2.1 (by omega), rN_of hf.2.1 hf.1.2.1, if_pos hc]
theorem step_C {f : Row} {n mv ph wr p kd st wh : Nat} {mm : Nat → Nat} (hf : WFr f n mv ph wr) (hb : WPb f n mv p kd st wh 0 mm) (hp : p < 4) (hc : st % n = n - 1) :
    mStep f p = if wh = 0 ∨ (anyMv (mF4 f p (n - 1)) p n = true ∧ (if anyMv (mF4 f p (n - 1)) p n then lendG (mF5 f p n) p 0 n else none) = none) then mF5 f p n else
      if kd = 1 then mIdles (mTakes (mF5 f p n) p (if anyMv (mF4 f p (n - 1)) p n then lendG (mF5 f p n) p 0 n else none)) p else mTakes (mF5 f p n) p (if anyMv (mF4 f p (n - 1)) p n then lendG (mF5 f p n) p 0 n else none) := by
  obtain ⟨⟨hn2, hn, -, hm, hph, -⟩, h0, -, h5, -⟩ := hf
  have h60 := hb.st60 hn2 hn hm
  have h55 := hb.st55 hn2 hn hm
  have hrd0 : mRead (mS2 f p) p (n - 1) 0 = nI n := by rw [rd_o (by omega), s2_0 (by omega) (by omega)]; exact h0
  have h50 : mF5 f p n 0 = nI n := by rw [f5_o (by omega) hn (by omega) (by omega)]; exact h0
  have h55' : mF5 f p n 5 = nI ph := by rw [f5_o (by omega) hn (by omega) (by omega)]; exact h5
  have e54 : mF5 f p n (32 + 42 * p + 4) = nI (wh + 1) := by unfold mF5; rw [cnt_out (by omega) hn]; exact f4_4 hb.2.2.1
  have e50 : mF5 f p n (32 + 42 * p + 0) = nI kd := by unfold mF5; rw [cnt_out (by omega) hn, f4_o (by omega) (by omega) (by omega) (by omega)]; exact hb.1
  have e1 : (mF5 f p n (32 + 42 * p + 4) = nI 1) = (wh = 0) := by
    rw [e54]; exact propext ⟨fun h => by have := (nI_eq (by omega) (by omega)).mp h; omega, fun h => by rw [h]⟩
  have e2 : ∀ q, (mTakes (mF5 f p n) p q (32 + 42 * p + 0) = nI 1) = (kd = 1) := fun q => by
    rw [takes_o h50 hn h55' hph (by omega) (by omega) (by omega) (by omega), e50]
    have : kd = 1 ∨ kd = 2 := hb.2.2.2.2.2.1
    exact propext ⟨fun h => (nI_eq (by omega) (by omega)).mp h, fun h => by rw [h]⟩
  dsimp only [mStep]
  rw [if_neg (step_nA hb hp), rSt_of hb.2.1 (by omega), rN_of h0 hn, if_neg (by omega), hc]
  dsimp only [mWhole]
  rw [rN_of hrd0 hn]
  show (if mF5 f p n (32 + 42 * p + 4) = nI 1 ∨ (anyMv (mF4 f p (n - 1)) p n = true ∧ (if anyMv (mF4 f p (n - 1)) p n = true then mLend (mF5 f p n) p else none) = none) then mF5 f p n else if mTakes (mF5 f p n) p (if anyMv (mF4 f p (n - 1)) p n = true then mLend (mF5 f p n) p else none) (32 + 42 * p + 0) = nI 1 then mIdles (mTakes (mF5 f p n) p (if anyMv (mF4 f p (n - 1)) p n = true then mLend (mF5 f p n) p else none)) p else mTakes (mF5 f p n) p (if anyMv (mF4 f p (n - 1)) p n = true then mLend (mF5 f p n) p else none)) = _
  unfold mLend
  rw [rN_of h50 hn]
  simp only [e1, e2]
/-- what every step keeps -/
theorem wf_step {f : Row} {n mv ph wr p kd st wh hs : Nat} {mm : Nat → Nat} (hf : WFr f n mv ph wr) (hp : p < n) (hb : WPb f n mv p kd st wh hs mm) :
    ∃ ph' wr', WFr (mStep f p) n mv ph' wr' ∧ (WPi (mStep f p) p ∨ ∃ kd' wh' hs' mm', WPb (mStep f p) n mv p kd' (st + 1) wh' hs' mm') ∧ ∀ j, j ≠ 3 → j ≠ 5 → j ≠ 6 → (j < 8 + 6 * p ∨ 8 + 6 * p + 6 ≤ j) → (j < 32 + 42 * p ∨ 32 + 42 * p + 42 ≤ j) → (j < 200 + 10 * ph ∨ 200 + 10 * ph + 10 ≤ j) → (j < 440 + 3 * wr ∨ 440 + 3 * wr + 3 ≤ j) → mStep f p j = f j := by
  have hf0 := hf
  obtain ⟨⟨hn2, hn, hm1, hm, hph, hwr⟩, h0, h1, h5, h6, hW⟩ := hf
  have hp4 : p < 4 := by omega
  have h60 := hb.st60 hn2 hn hm
  -- all but writer p from the frame
  have fin : ∀ (f' : Row) (ph' wr' : Nat), ph' ≤ 24 → wr' ≤ 24 → f' 5 = nI ph' → f' 6 = nI wr' → (WPi f' p ∨ ∃ kd' wh' hs' mm', WPb f' n mv p kd' (st + 1) wh' hs' mm') → (∀ j, j ≠ 3 → j ≠ 5 → j ≠ 6 → (j < 8 + 6 * p ∨ 8 + 6 * p + 6 ≤ j) → (j < 32 + 42 * p ∨ 32 + 42 * p + 42 ≤ j) → (j < 200 + 10 * ph ∨ 200 + 10 * ph + 10 ≤ j) → (j < 440 + 3 * wr ∨ 440 + 3 * wr + 3 ≤ j) → f' j = f j) → WFr f' n mv ph' wr' := by
    intro f' ph' wr' a1 a2 a3 a4 a5 a6
    refine ⟨⟨hn2, hn, hm1, hm, a1, a2⟩, ?_, ?_, a3, a4, fun p' hp' => ?_⟩
    · rw [a6 0 (by omega) (by omega) (by omega) (by omega) (by omega) (by omega) (by omega)]; exact h0
    · rw [a6 1 (by omega) (by omega) (by omega) (by omega) (by omega) (by omega) (by omega)]; exact h1
    · by_cases e : p' = p
      · subst e
        rcases a5 with a5 | ⟨kd', wh', hs', mm', a5⟩
        · exact Or.inl a5
        · exact Or.inr ⟨_, _, _, _, _, a5⟩
      · exact (hW p' hp').to (fun i hi => a6 _ (by omega) (by omega) (by omega) (by omega) (by omega) (by omega) (by omega))
  have hhs : hs = 0 ∨ hs = 1 := by
    rcases hb.2.2.2.2.2.2 with h | h
    · exact Or.inl h.1
    · exact Or.inr h.1
  rcases hhs with rfl | rfl
  · have h55 := hb.st55 hn2 hn hm
    have hmod : st % n < n := Nat.mod_lt _ (by omega)
    obtain ⟨b1, b2, b3, b4, b5, b6, b7 | b7⟩ := id hb
    · obtain ⟨-, b8, b9, b10, b11⟩ := b7
      by_cases hc : st % n < n - 1
      · -- a cell is read, not the last one
        have e := step_B hf0 hb hp4 hc
        have fr : ∀ j, j ≠ 3 → (j < 32 + 42 * p + 14 ∨ 32 + 42 * p + 42 ≤ j) → j ≠ 32 + 42 * p + 2 → mStep f p j = f j := fun j a1 a2 a3 => by
          rw [e, rd_o (by omega), s2_0 a1 a3]
        have wq : WPb (mStep f p) n mv p kd (st + 1) wh 0 mm := by
          refine ⟨?_, ?_, ?_, ?_, fun c hc => ?_, b6, Or.inl ⟨rfl, ?_, b9, b10, b11⟩⟩
          · rw [fr _ (by omega) (by omega) (by omega)]; exact b1
          · rw [e, rd_o (by omega), s2_st b2]
          · rw [fr _ (by omega) (by omega) (by omega)]; exact b3
          · rw [fr _ (by omega) (by omega) (by omega)]; exact b4
          · rw [fr _ (by omega) (by omega) (by omega)]; exact b5 c hc
          · rcases (by omega : n = 2 ∨ n = 3 ∨ n = 4) with rfl | rfl | rfl <;> omega
        have fr2 : ∀ j, j ≠ 3 → j ≠ 5 → j ≠ 6 → (j < 8 + 6 * p ∨ 8 + 6 * p + 6 ≤ j) → (j < 32 + 42 * p ∨ 32 + 42 * p + 42 ≤ j) → (j < 200 + 10 * ph ∨ 200 + 10 * ph + 10 ≤ j) → (j < 440 + 3 * wr ∨ 440 + 3 * wr + 3 ≤ j) → mStep f p j = f j := fun j a1 _ _ _ a5 _ _ => fr j a1 (by omega) (by omega)
        exact ⟨ph, wr, fin _ ph wr hph hwr (by rw [fr _ (by omega) (by omega) (by omega)]; exact h5) (by rw [fr _ (by omega) (by omega) (by omega)]; exact h6) (Or.inr ⟨_, _, _, _, wq⟩) fr2, Or.inr ⟨_, _, _, _, wq⟩, fr2⟩
      · have hc : st % n = n - 1 := by omega
        have e := step_C hf0 hb hp4 hc
        have hdiv : (st + 1) / n = wh + 1 := by rcases (by omega : n = 2 ∨ n = 3 ∨ n = 4) with rfl | rfl | rfl <;> omega
        generalize hq : (if anyMv (mF4 f p (n - 1)) p n = true then lendG (mF5 f p n) p 0 n else none) = q at e
        have v0 : mF5 f p n (32 + 42 * p + 0) = nI kd := by unfold mF5; rw [cnt_out (by omega) hn, f4_o (by omega) (by omega) (by omega) (by omega)]; exact b1
        have v2 : mF5 f p n (32 + 42 * p + 2) = nI (st + 1) := by unfold mF5; rw [cnt_out (by omega) hn]; exact f4_2 b2
        have v4 : mF5 f p n (32 + 42 * p + 4) = nI (wh + 1) := by unfold mF5; rw [cnt_out (by omega) hn]; exact f4_4 b3
        have v5 : mF5 f p n (32 + 42 * p + 5) = nI 0 := by unfold mF5; rw [cnt_out (by omega) hn, f4_o (by omega) (by omega) (by omega) (by omega)]; exact b4
        have v6 : ∀ c, c < 4 → mF5 f p n (32 + 42 * p + 6 + c) = nI (if c < n ∧ mMv (mF4 f p (n - 1)) p c = true then mm c + 1 else mm c) := fun c hc => by
          unfold mF5
          rw [cnt_mv hn hc, f4_o (by omega) (by omega) (by omega) (by omega), b5 c hc]
          split
          · exact nI_add _ _
          · rfl
        have g0 : mF5 f p n 0 = nI n := by rw [f5_o (by omega) hn (by omega) (by omega)]; exact h0
        have g1 : mF5 f p n 1 = nI mv := by rw [f5_o (by omega) hn (by omega) (by omega)]; exact h1
        have g5 : mF5 f p n 5 = nI ph := by rw [f5_o (by omega) hn (by omega) (by omega)]; exact h5
        have g6 : mF5 f p n 6 = nI wr := by rw [f5_o (by omega) hn (by omega) (by omega)]; exact h6
        have fr2 : ∀ j, j ≠ 3 → j ≠ 5 → j ≠ 6 → (j < 8 + 6 * p ∨ 8 + 6 * p + 6 ≤ j) → (j < 32 + 42 * p ∨ 32 + 42 * p + 42 ≤ j) → (j < 200 + 10 * ph ∨ 200 + 10 * ph + 10 ≤ j) → (j < 440 + 3 * wr ∨ 440 + 3 * wr + 3 ≤ j) → mF5 f p n j = f j := fun j a1 _ _ _ a5 _ _ => f5_o (by omega) hn a1 a5
        by_cases hw : wh = 0 ∨ (anyMv (mF4 f p (n - 1)) p n = true ∧ q = none)
        · rw [if_pos hw] at e
          rw [e]
          have wq : WPb (mF5 f p n) n mv p kd (st + 1) (wh + 1) 0 (fun c => if c < n ∧ mMv (mF4 f p (n - 1)) p c = true then mm c + 1 else mm c) := by
            refine ⟨v0, v2, v4, v5, v6, b6, Or.inl ⟨rfl, hdiv, fun c hc => ?_, fun c hc => ?_, ?_⟩⟩
            · by_cases hcn : c < n ∧ mMv (mF4 f p (n - 1)) p c = true
              · dsimp only
                rw [if_pos hcn]
                rcases hw with hw | ⟨ha, hw⟩
                · have := anyMv_no n (anyMv_f (f := mF4 f p (n - 1)) (p := p) (by rw [f4_4 b3, hw]; decide) n) c hcn.1
                  rw [this] at hcn
                  exact absurd hcn.2 (by decide)
                · rw [← hq, if_pos ha] at hw
                  have h7 := lendG_none n 0 hw c (by omega) (by omega)
                  rw [g1, v6 c hc, if_pos hcn] at h7
                  have := b9 c hc
                  exact Nat.not_le.mp (fun h => h7 (nI_le h (by omega)))
              · dsimp only
                rw [if_neg hcn]; exact b9 c hc
            · dsimp only
              rw [if_neg (by omega)]; exact b10 c hc
            · rcases hw with hw | ⟨ha, hw⟩
              · omega
              · obtain ⟨c, hc1, hc2⟩ := anyMv_ex n ha
                have key : ∀ x, mm x ≤ (if x < n ∧ mMv (mF4 f p (n - 1)) p x = true then mm x + 1 else mm x) := fun x => by split <;> omega
                have kc : mm c + 1 ≤ (if c < n ∧ mMv (mF4 f p (n - 1)) p c = true then mm c + 1 else mm c) := by rw [if_pos ⟨hc1, hc2⟩]; exact Nat.le_refl _
                dsimp only
                have k0 := key 0; have k1 := key 1; have k2 := key 2; have k3 := key 3
                rcases (by omega : c = 0 ∨ c = 1 ∨ c = 2 ∨ c = 3) with rfl | rfl | rfl | rfl <;> omega
          exact ⟨ph, wr, fin _ ph wr hph hwr g5 g6 (Or.inr ⟨_, _, _, _, wq⟩) fr2, Or.inr ⟨_, _, _, _, wq⟩, fr2⟩
        · rw [if_neg hw] at e
          have t5 := takes_5 (p := p) (q := q) g0 hn g5 hph
          have fr3 : ∀ j, j ≠ 3 → j ≠ 5 → j ≠ 6 → (j < 8 + 6 * p ∨ 8 + 6 * p + 6 ≤ j) → (j < 32 + 42 * p ∨ 32 + 42 * p + 42 ≤ j) → (j < 200 + 10 * ph ∨ 200 + 10 * ph + 10 ≤ j) → (j < 440 + 3 * wr ∨ 440 + 3 * wr + 3 ≤ j) → mTakes (mF5 f p n) p q j = f j := fun j a1 a2 a3 a4 a5 a6 a7 => by
            rw [takes_o g0 hn g5 hph (by omega) a6 a2 (by omega)]; exact fr2 j a1 a2 a3 a4 a5 a6 a7
          have t6 : mTakes (mF5 f p n) p q 6 = nI wr := by rw [takes_o g0 hn g5 hph (by omega) (by omega) (by omega) (by omega)]; exact g6
          by_cases hk : kd = 1
          · rw [if_pos hk] at e
            rw [e]
            have wi : WPi (mIdles (mTakes (mF5 f p n) p q) p) p := fun i hi => idl_i (by omega) (by omega)
            have fr4 : ∀ j, j ≠ 3 → j ≠ 5 → j ≠ 6 → (j < 8 + 6 * p ∨ 8 + 6 * p + 6 ≤ j) → (j < 32 + 42 * p ∨ 32 + 42 * p + 42 ≤ j) → (j < 200 + 10 * ph ∨ 200 + 10 * ph + 10 ≤ j) → (j < 440 + 3 * wr ∨ 440 + 3 * wr + 3 ≤ j) → mIdles (mTakes (mF5 f p n) p q) p j = f j := fun j a1 a2 a3 a4 a5 a6 a7 => by
              rw [idl_o a5]; exact fr3 j a1 a2 a3 a4 a5 a6 a7
            exact ⟨_, wr, fin _ (if ph < 24 then ph + 1 else ph) wr (by split <;> omega) hwr (by rw [idl_o (by omega)]; exact t5) (by rw [idl_o (by omega)]; exact t6) (Or.inl wi) fr4, Or.inl wi, fr4⟩
          · rw [if_neg hk] at e
            rw [e]
            have wq : WPb (mTakes (mF5 f p n) p q) n mv p kd (st + 1) (wh + 1) 1 (fun c => if c < n ∧ mMv (mF4 f p (n - 1)) p c = true then mm c + 1 else mm c) := by
              refine ⟨?_, ?_, ?_, takes_h, fun c hc => ?_, b6, Or.inr ⟨rfl, by omega, by omega, by omega⟩⟩
              · rw [takes_o g0 hn g5 hph (by omega) (by omega) (by omega) (by omega)]; exact v0
              · rw [takes_o g0 hn g5 hph (by omega) (by omega) (by omega) (by omega)]; exact v2
              · rw [takes_o g0 hn g5 hph (by omega) (by omega) (by omega) (by omega)]; exact v4
              · rw [takes_o g0 hn g5 hph (by omega) (by omega) (by omega) (by omega)]; exact v6 c hc
            exact ⟨_, wr, fin _ (if ph < 24 then ph + 1 else ph) wr (by split <;> omega) hwr t5 t6 (Or.inr ⟨_, _, _, _, wq⟩) fr3, Or.inr ⟨_, _, _, _, wq⟩, fr3⟩
    · exact absurd b7.1 (by omega)
  · have e := step_A hb hp4
    rw [e]
    have g6 : mS2 f p 6 = nI wr := by rw [s2_0 (by omega) (by omega)]; exact h6
    have wi : WPi (mWrite (mS2 f p) p) p := fun i hi => by dsimp only [mWrite]; exact idl_i (by omega) (by omega)
    have fr4 : ∀ j, j ≠ 3 → j ≠ 5 → j ≠ 6 → (j < 8 + 6 * p ∨ 8 + 6 * p + 6 ≤ j) → (j < 32 + 42 * p ∨ 32 + 42 * p + 42 ≤ j) → (j < 200 + 10 * ph ∨ 200 + 10 * ph + 10 ≤ j) → (j < 440 + 3 * wr ∨ 440 + 3 * wr + 3 ≤ j) → mWrite (mS2 f p) p j = f j := fun j a1 a2 a3 a4 a5 a6 a7 => by
      rw [wr_o g6 hwr hp4 a4 a5 a7 a3, s2_0 a1 (by omega)]
    exact ⟨ph, _, fin _ ph (if wr < 24 then wr + 1 else wr) hph (by split <;> omega) (by rw [wr_o g6 hwr hp4 (by omega) (by omega) (by omega) (by omega), s2_0 (by omega) (by omega)]; exact h5) (wr_6 g6 hwr hp4) (Or.inl wi) fr4, Or.inl wi, fr4⟩
end
section
/-! the reference's object and its rows -/
abbrev aZ (g : GG) (a n : Nat) (f : Row) : Nat × va_E := (a, .inl (g.2 1, n, .inl f))
abbrev mOb (a : Nat → Nat) (th um sm : Int32) : Nat × va_E := (a 0, .inr (6, [.int th, .ref (a 1), .ref (a 2), .ref (a 3), .int um, .ref (a 4), .ref (a 5), .ref (a 6), .int sm, .ref (a 7)]))
abbrev mW (g : GG) (a : Nat → Nat) (th um sm : Int32) (f fw fp fi fk fs ft : Row) : va_W := [mOb a th um sm, aI g (a 1) 512 f, aI g (a 2) 512 fw, aI g (a 3) 2560 fp, aI g (a 4) 1024 fi, aZ g (a 5) 2 fk, aI g (a 6) 18 fs, aI g (a 7) 4 ft]
def nU (u : Nat) : Nat := if u = 5 then 5 else u + 1
def nP (u : Nat) (f fp : Row) : Row := va_cpy f (if u = 5 then va_cpy fp fp 512 0 2048 else fp) 0 (512 * (if u = 5 then 4 else u)) 512
theorem inB_nat {x : Int32} {n : Nat} (hn : 1 ≤ n) (hn2 : n < 1000) (h : inB x (nI 0) (nI (n - 1)) = true) : ∃ p, p < n ∧ x = nI p := by
  unfold inB at h
  have h := of_decide_eq_true h
  obtain ⟨j, h1, h2⟩ := nI_of2 (x := x) (M := nI (n - 1)) (n := n - 1) (nI_toInt (by omega)) (Int32.not_lt.mpr h.1) h.2
  exact ⟨j, by omega, h2⟩
theorem inB_of {x lo hi : Nat} (h1 : lo ≤ x) (h2 : x ≤ hi) (h3 : hi < 2 ^ 31) : inB (nI x) (nI lo) (nI hi) = true := decide_eq_true ⟨nI_le h1 (by omega), nI_le h2 h3⟩
theorem inB_lit {x : Int32} {lo hi : Nat} (h3 : hi < 2 ^ 31) (hl : lo < 2 ^ 31) (h : inB x (nI lo) (nI hi) = true) : ∃ k, lo ≤ k ∧ k ≤ hi ∧ x = nI k := by
  unfold inB at h
  have h := of_decide_eq_true h
  obtain ⟨j, h1, h2⟩ := nI_of2 (x := x) (M := nI hi) (n := hi) (nI_toInt (by omega)) (Int32.not_lt.mpr (Int32.le_trans (nI_pos' hl) h.1)) h.2
  refine ⟨j, ?_, h1, h2⟩
  have h4 := h.1
  rw [h2] at h4
  exact (nI_leI hl (by omega)).mp h4
/-- k steps of a writer, or as many as there are -/
def stF (f : Row) (p : Nat) : Nat → Row
  | 0 => f
  | k + 1 => if f (32 + 42 * p + 0) = 0 then f else stF (mStep f p) p k
def stC (f : Row) (p : Nat) : Nat → Nat
  | 0 => 0
  | k + 1 => if f (32 + 42 * p + 0) = 0 then 0 else stC (mStep f p) p k + 1
theorem stF_idle {f : Row} {p : Nat} (h : f (32 + 42 * p + 0) = 0) : ∀ k, stF f p k = f
  | 0 => rfl
  | k + 1 => by rw [stF, if_pos h]
theorem stC_idle {f : Row} {p : Nat} (h : f (32 + 42 * p + 0) = 0) : ∀ k, stC f p k = 0
  | 0 => rfl
  | k + 1 => by rw [stC, if_pos h]
/-- well, of some counts -/
def WFx (f : Row) (n mv : Nat) : Prop := ∃ ph wr, WFr f n mv ph wr
theorem wfx_step {f : Row} {n mv p : Nat} (h : WFx f n mv) (hp : p < n) (ha : ¬ f (32 + 42 * p + 0) = 0) : WFx (mStep f p) n mv := by
  obtain ⟨ph, wr, h⟩ := h
  have hp4 : p < 4 := by have := h.1.2.1; omega
  obtain ⟨kd, st, wh, hs, mm, hb⟩ := (h.2.2.2.2.2 p hp4).act ha
  obtain ⟨ph', wr', h1, -⟩ := wf_step h hp hb
  exact ⟨ph', wr', h1⟩
def begB (x y z : Int32) : Bool := inB x (nI 2) (nI 4) && (inB y (nI 1) (nI 4) && (decide (z = 0) || inB z (nI 2) (nI 8)))
end
section
set_option maxHeartbeats 4000000 in
set_option maxRecDepth 100000 in
theorem c_X6_isWriter (l : Launch) (g : GG) (a : Nat → Nat) (th um sm : Int32) (f : Row) (n : Nat) (x : Int32) (hn : 1 ≤ n) (h0 : f 0 = nI n) : Ct l g yX6_isWriter cX6_isWriter 2 (some .boolean) 1 [.ref (a 0), .int x] [mOb a th um sm, aI g (a 1) 512 f] (some (.int (bI (inB x (nI 0) (nI (n - 1)))))) [mOb a th um sm, aI g (a 1) 512 f] := by
  refine Ct.start (by decide +kernel) (Nat.le_of_ble_eq_true rfl) (by simp [Value.category]) (Or.inr ⟨.boolean, _, rfl, rfl, narB _⟩) ?_
  intro p0 e R s m args below meth c A Q K hr h ls hl
  have hl : Lq ls 2 [some (.ref (a 0)), some (.int x)] := hl
  refine r_iln K hl 1 dX6_isWriter_0 rfl rfl ?_
  refine r_ic K (nI 0) dX6_isWriter_1 k_0 ?_
  refine r_aln K hl 0 dX6_isWriter_2 rfl rfl ?_
  refine r_get K h ffX6_7 0 rfl rfl dX6_isWriter_3 ?_
  refine r_ic K (nI 0) dX6_isWriter_6 k_0 ?_
  refine r_ialE K h 1 rfl (by omega) (by decide) h0 dX6_isWriter_7 ?_
  refine r_ic K (nI 1) dX6_isWriter_8 k_1 ?_
  refine r_subN K (by omega) dX6_isWriter_9 ?_
  refine r_callS K h hl (c_X6_in l g x (nI 0) (nI (n - 1))) mc_X6_in st_X6_in mlX6_69 [] rfl rfl rfl [_, _] rfl (by decide) (by decide) rfl rfl (Nat.le_of_ble_eq_true rfl) ⟨Nat.zero_le _, Nat.zero_le _⟩ dX6_isWriter_10 (fun H locs h => ?_)
  refine W.eq (g2 := F0 m 13 ls [_]) rfl ?_
  exact hr.1 _ _ _ _ _ dX6_isWriter_13 h rfl

set_option maxHeartbeats 4000000 in
set_option maxRecDepth 100000 in
theorem c_X6_isCell (l : Launch) (g : GG) (a : Nat → Nat) (th um sm : Int32) (f : Row) (n : Nat) (x : Int32) (hn : 1 ≤ n) (h0 : f 0 = nI n) : Ct l g yX6_isCell cX6_isCell 2 (some .boolean) 1 [.ref (a 0), .int x] [mOb a th um sm, aI g (a 1) 512 f] (some (.int (bI (inB x (nI 0) (nI (n - 1)))))) [mOb a th um sm, aI g (a 1) 512 f] := by
  refine Ct.start (by decide +kernel) (Nat.le_of_ble_eq_true rfl) (by simp [Value.category]) (Or.inr ⟨.boolean, _, rfl, rfl, narB _⟩) ?_
  intro p0 e R s m args below meth c A Q K hr h ls hl
  have hl : Lq ls 2 [some (.ref (a 0)), some (.int x)] := hl
  refine r_iln K hl 1 dX6_isCell_0 rfl rfl ?_
  refine r_ic K (nI 0) dX6_isCell_1 k_0 ?_
  refine r_aln K hl 0 dX6_isCell_2 rfl rfl ?_
  refine r_get K h ffX6_7 0 rfl rfl dX6_isCell_3 ?_
  refine r_ic K (nI 0) dX6_isCell_6 k_0 ?_
  refine r_ialE K h 1 rfl (by omega) (by decide) h0 dX6_isCell_7 ?_
  refine r_ic K (nI 1) dX6_isCell_8 k_1 ?_
  refine r_subN K (by omega) dX6_isCell_9 ?_
  refine r_callS K h hl (c_X6_in l g x (nI 0) (nI (n - 1))) mc_X6_in st_X6_in mlX6_69 [] rfl rfl rfl [_, _] rfl (by decide) (by decide) rfl rfl (Nat.le_of_ble_eq_true rfl) ⟨Nat.zero_le _, Nat.zero_le _⟩ dX6_isCell_10 (fun H locs h => ?_)
  refine W.eq (g2 := F0 m 13 ls [_]) rfl ?_
  exact hr.1 _ _ _ _ _ dX6_isCell_13 h rfl

set_option maxHeartbeats 4000000 in
set_option maxRecDepth 100000 in
theorem c_X6_isIdle (l : Launch) (g : GG) (a : Nat → Nat) (th um sm : Int32) (f : Row) (p : Nat) (hp : p < 4) : Ct l g yX6_isIdle cX6_isIdle 2 (some .boolean) 1 [.ref (a 0), .int (nI p)] [mOb a th um sm, aI g (a 1) 512 f] (some (.int (bI (decide (f (32 + 42 * p + 0) = 0))))) [mOb a th um sm, aI g (a 1) 512 f] := by
  refine Ct.start (by decide +kernel) (Nat.le_of_ble_eq_true rfl) (by simp [Value.category]) (Or.inr ⟨.boolean, _, rfl, rfl, narB _⟩) ?_
  intro p0 e R s m args below meth c A Q K hr h ls hl
  have hl : Lq ls 2 [some (.ref (a 0)), some (.int (nI p))] := hl
  refine r_aln K hl 0 dX6_isIdle_0 rfl rfl ?_
  refine r_get K h ffX6_7 0 rfl rfl dX6_isIdle_1 ?_
  refine r_iln K hl 1 dX6_isIdle_4 rfl rfl ?_
  refine r_callS K h hl (c_X6_writerAt l g p) mc_X6_writerAt st_X6_writerAt mlX6_40 [] rfl rfl rfl [_, _] rfl (by decide) (by decide) rfl rfl (Nat.le_of_ble_eq_true rfl) ⟨Nat.zero_le _, Nat.zero_le _⟩ dX6_isIdle_5 (fun H locs h => ?_)
  refine W.eq (g2 := F0 m 8 ls [_, _]) rfl ?_
  refine r_ic K (nI 0) dX6_isIdle_8 k_0 ?_
  refine r_addN K dX6_isIdle_9 ?_
  refine r_ial K h 1 rfl (by omega) (by decide) dX6_isIdle_10 ?_
  refine r_zne K 18 dX6_isIdle_11 (by decide) (fun c11 => ?_) (fun c11 => ?_)
  · refine r_ic K (nI 0) dX6_isIdle_18 k_0 ?_
    exact hr.1 _ _ _ _ _ dX6_isIdle_19 h (by rw [decide_eq_false c11]; rfl)
  · refine r_ic K (nI 1) dX6_isIdle_14 k_1 ?_
    refine r_go K 19 dX6_isIdle_15 (by decide) ?_
    exact hr.1 _ _ _ _ _ dX6_isIdle_19 h (by rw [decide_eq_true c11]; rfl)

set_option maxHeartbeats 4000000 in
set_option maxRecDepth 100000 in
theorem c_X6_notes (l : Launch) (g : GG) (a : Nat → Nat) (th sm : Int32) (f fp : Row) (u : Nat) (hu : u ≤ 5) : Ct l g yX6_notes cX6_notes 2 none 0 [.ref (a 0)] [mOb a th (nI u) sm, aI g (a 1) 512 f, aI g (a 3) 2560 (fp)] none [mOb a th (nI (nU u)) sm, aI g (a 1) 512 f, aI g (a 3) 2560 (nP u f fp)] := by
  refine Ct.start (by decide +kernel) (Nat.le_of_ble_eq_true rfl) (by simp [Value.category]) (Or.inl ⟨rfl, rfl⟩) ?_
  intro p0 e R s m args below meth c A Q K hr h ls hl
  have hl : Lq ls 2 [some (.ref (a 0)), none] := hl
  have L2 : ∀ (u' : Nat) (fp' : Row), u' ≤ 4 → nI (u' + 1) = nI (nU u) → va_cpy f fp' 0 (512 * u') 512 = nP u f fp → ∀ (H : Heap) (locs : List Loc), Hp g A s H locs [mOb a th (nI u') sm, aI g (a 1) 512 f, aI g (a 3) 2560 (fp')] → ∀ ls x, Lq ls 2 [some (.ref (a 0)), x] → W p0 l e R s m args below meth c H locs 0 0 Q (F0 m 49 ls []) := by
    intro u' fp' hu' e1 e2 H locs h ls x hl
    refine r_ic K (nI 0) dX6_notes_49 k_0 ?_
    refine r_isn K hl 1 [_, _] dX6_notes_50 rfl (by decide) rfl (fun ls hl => ?_)
    have loop : ∀ (j k : Nat), k + j = 512 → ∀ (H : Heap) (locs : List Loc), Hp g A s H locs [mOb a th (nI u') sm, aI g (a 1) 512 f, aI g (a 3) 2560 (va_cpy f fp' 0 (512 * u') k)] → ∀ ls, Lq ls 2 [some (.ref (a 0)), some (.int (nI k))] → W p0 l e R s m args below meth c H locs 0 0 Q (F0 m 51 ls []) := by
      intro j
      induction j with
      | zero =>
        intro k hk H locs h ls hl
        obtain rfl : k = 512 := by omega
        refine r_iln K hl 1 dX6_notes_51 rfl rfl ?_
        refine r_sp K (nI 512) dX6_notes_52 ks_512 ?_
        refine r_cgeN K 85 dX6_notes_55 (by decide) (by omega) (by omega) (fun c55 => ?_) (fun c => absurd c (by omega))
        refine r_aln K hl 0 dX6_notes_85 rfl rfl ?_
        refine r_dup K dX6_notes_86 rfl ?_
        refine r_get K h ffX6_66 0 rfl rfl dX6_notes_87 ?_
        refine r_ic K (nI 1) dX6_notes_90 k_1 ?_
        refine r_addN K dX6_notes_91 ?_
        refine r_put K h ffX6_66 pfX6_4 0 [_, _, _, _, _, _, _, _, _, _] [_, _, _] rfl rfl rfl (Nat.le_of_ble_eq_true rfl) rfl rfl dX6_notes_92 (fun H locs h => ?_)
        exact hr.2 _ _ _ _ dX6_notes_95 (h.to (by rw [e1, e2])) rfl
      | succ j ih =>
        intro k hk H locs h ls hl
        refine r_iln K hl 1 dX6_notes_51 rfl rfl ?_
        refine r_sp K (nI 512) dX6_notes_52 ks_512 ?_
        refine r_cgeN K 85 dX6_notes_55 (by decide) (by omega) (by omega) (fun c => absurd c (by omega)) (fun c55 => ?_)
        refine r_aln K hl 0 dX6_notes_58 rfl rfl ?_
        refine r_get K h ffX6_16 0 rfl rfl dX6_notes_59 ?_
        refine r_sp K (nI 512) dX6_notes_62 ks_512 ?_
        refine r_aln K hl 0 dX6_notes_65 rfl rfl ?_
        refine r_get K h ffX6_66 0 rfl rfl dX6_notes_66 ?_
        refine r_mulN K dX6_notes_69 ?_
        refine r_iln K hl 1 dX6_notes_70 rfl rfl ?_
        refine r_addN K dX6_notes_71 ?_
        refine r_aln K hl 0 dX6_notes_72 rfl rfl ?_
        refine r_get K h ffX6_7 0 rfl rfl dX6_notes_73 ?_
        refine r_iln K hl 1 dX6_notes_76 rfl rfl ?_
        refine r_ial K h 1 rfl (by omega) (by decide) dX6_notes_77 ?_
        refine r_ias K h 2 [_, _, _] rfl (by omega) (by decide) rfl dX6_notes_78 (fun H locs h => ?_)
        refine r_incN K hl (k := 1) [_, _] dX6_notes_79 rfl (by decide) rfl (fun ls hl => ?_)
        refine r_go K 51 dX6_notes_82 (by decide) ?_
        refine ih (k + 1) (by omega) _ _ (h.to ?_) _ hl
        rw [← cpy_s, Nat.zero_add]
    exact loop 512 0 rfl _ _ (h.to (by rw [cpy_0])) _ hl
  by_cases hu5 : u = 5
  · subst hu5
    refine r_aln K hl 0 dX6_notes_0 rfl rfl ?_
    refine r_get K h ffX6_66 0 rfl rfl dX6_notes_1 ?_
    refine r_ic K (nI 5) dX6_notes_4 k_5 ?_
    refine r_cneN K 49 dX6_notes_5 (by decide) (by omega) (by omega) (fun c => absurd rfl c) (fun c5 => ?_)
    refine r_ic K (nI 0) dX6_notes_8 k_0 ?_
    refine r_isn K hl 1 [_, _] dX6_notes_9 rfl (by decide) rfl (fun ls hl => ?_)
    have loop : ∀ (j k : Nat), k + j = 2048 → ∀ (H : Heap) (locs : List Loc), Hp g A s H locs [mOb a th (nI 5) sm, aI g (a 1) 512 f, aI g (a 3) 2560 (va_cpy fp fp 512 0 k)] → ∀ ls, Lq ls 2 [some (.ref (a 0)), some (.int (nI k))] → W p0 l e R s m args below meth c H locs 0 0 Q (F0 m 10 ls []) := by
      intro j
      induction j with
      | zero =>
        intro k hk H locs h ls hl
        obtain rfl : k = 2048 := by omega
        refine r_iln K hl 1 dX6_notes_10 rfl rfl ?_
        refine r_sp K (nI 2048) dX6_notes_11 ks_2048 ?_
        refine r_cgeN K 39 dX6_notes_14 (by decide) (by omega) (by omega) (fun c14 => ?_) (fun c => absurd c (by omega))
        refine r_aln K hl 0 dX6_notes_39 rfl rfl ?_
        refine r_dup K dX6_notes_40 rfl ?_
        refine r_get K h ffX6_66 0 rfl rfl dX6_notes_41 ?_
        refine r_ic K (nI 1) dX6_notes_44 k_1 ?_
        refine r_subN K (by omega) dX6_notes_45 ?_
        refine r_put K h ffX6_66 pfX6_4 0 [_, _, _, _, _, _, _, _, _, _] [_, _, _] rfl rfl rfl (Nat.le_of_ble_eq_true rfl) rfl rfl dX6_notes_46 (fun H locs h => ?_)
        exact L2 4 _ (by omega) rfl rfl _ _ h _ _ hl
      | succ j ih =>
        intro k hk H locs h ls hl
        refine r_iln K hl 1 dX6_notes_10 rfl rfl ?_
        refine r_sp K (nI 2048) dX6_notes_11 ks_2048 ?_
        refine r_cgeN K 39 dX6_notes_14 (by decide) (by omega) (by omega) (fun c => absurd c (by omega)) (fun c14 => ?_)
        refine r_aln K hl 0 dX6_notes_17 rfl rfl ?_
        refine r_get K h ffX6_16 0 rfl rfl dX6_notes_18 ?_
        refine r_iln K hl 1 dX6_notes_21 rfl rfl ?_
        refine r_aln K hl 0 dX6_notes_22 rfl rfl ?_
        refine r_get K h ffX6_16 0 rfl rfl dX6_notes_23 ?_
        refine r_sp K (nI 512) dX6_notes_26 ks_512 ?_
        refine r_iln K hl 1 dX6_notes_29 rfl rfl ?_
        refine r_addN K dX6_notes_30 ?_
        refine r_ial K h 2 rfl (by omega) (by decide) dX6_notes_31 ?_
        refine r_ias K h 2 [_, _, _] rfl (by omega) (by decide) rfl dX6_notes_32 (fun H locs h => ?_)
        refine r_incN K hl (k := 1) [_, _] dX6_notes_33 rfl (by decide) rfl (fun ls hl => ?_)
        refine r_go K 10 dX6_notes_36 (by decide) ?_
        refine ih (k + 1) (by omega) _ _ (h.to ?_) _ hl
        rw [← cpy_s, cpy_o (f := fp) (g := fp) (by omega), Nat.zero_add]
    exact loop 2048 0 rfl _ _ (h.to (by rw [cpy_0])) _ hl
  · refine r_aln K hl 0 dX6_notes_0 rfl rfl ?_
    refine r_get K h ffX6_66 0 rfl rfl dX6_notes_1 ?_
    refine r_ic K (nI 5) dX6_notes_4 k_5 ?_
    refine r_cneN K 49 dX6_notes_5 (by decide) (by omega) (by omega) (fun c5 => ?_) (fun c => absurd c hu5)
    exact L2 u fp (by omega) (by rw [nU, if_neg hu5]) (by rw [nP, if_neg hu5, if_neg hu5]) _ _ h _ _ hl
end
section
set_option maxHeartbeats 4000000 in
set_option maxRecDepth 100000 in
theorem c_X6_begins_bad (l : Launch) (g : GG) (a : Nat → Nat) (th um sm : Int32) (f fw fp fi fk fs ft : Row) (x y z : Int32) (hb : begB x y z = false) : Ct l g yX6_begins cX6_begins 4 (some .int) 1 [.ref (a 0), .int x, .int y, .int z] (mW g a (th) (um) (sm) (f) (fw) (fp) (fi) (fk) (fs) (ft)) (some (.int (-1))) (mW g a (nI 0) (um) (sm) (f) (fw) (fp) (fi) (fk) (fs) (ft)) := by
  refine Ct.start (by decide +kernel) (Nat.le_of_ble_eq_true rfl) (by simp [Value.category]) (Or.inr ⟨.int, _, rfl, rfl, rfl⟩) ?_
  intro p0 e R s m args below meth c A Q K hr h ls hl
  have hl : Lq ls 4 [some (.ref (a 0)), some (.int x), some (.int y), some (.int z)] := hl
  refine r_aln K hl 0 dX6_begins_0 rfl rfl ?_
  refine r_ic K (nI 0) dX6_begins_1 k_0 ?_
  refine r_put K h ffX6_36 pfX6_0 0 [_, _, _, _, _, _, _, _, _, _] [_, _, _, _, _, _, _, _] rfl rfl rfl (Nat.le_of_ble_eq_true rfl) rfl rfl dX6_begins_2 (fun H locs h => ?_)
  refine r_iln K hl 1 dX6_begins_5 rfl rfl ?_
  refine r_ic K (nI 2) dX6_begins_6 k_2 ?_
  refine r_ic K (nI 4) dX6_begins_7 k_4 ?_
  refine r_callS K h hl (c_X6_in l g x (nI 2) (nI 4)) mc_X6_in st_X6_in mlX6_69 [] rfl rfl rfl [_, _, _, _, _, _, _, _] rfl (by decide) (by decide) rfl rfl (Nat.le_of_ble_eq_true rfl) ⟨Nat.zero_le _, Nat.zero_le _⟩ dX6_begins_8 (fun H locs h => ?_)
  refine W.eq (g2 := F0 m 11 ls [_]) rfl ?_
  refine r_zeqB K 37 dX6_begins_11 (by decide) (fun c11 => ?_) (fun c11 => ?_)
  · refine r_ic K (-1) dX6_begins_37 k_m1 ?_
    exact hr.1 _ _ _ _ _ dX6_begins_38 h rfl
  · refine r_iln K hl 2 dX6_begins_14 rfl rfl ?_
    refine r_ic K (nI 1) dX6_begins_15 k_1 ?_
    refine r_ic K (nI 4) dX6_begins_16 k_4 ?_
    refine r_callS K h hl (c_X6_in l g y (nI 1) (nI 4)) mc_X6_in st_X6_in mlX6_69 [] rfl rfl rfl [_, _, _, _, _, _, _, _] rfl (by decide) (by decide) rfl rfl (Nat.le_of_ble_eq_true rfl) ⟨Nat.zero_le _, Nat.zero_le _⟩ dX6_begins_17 (fun H locs h => ?_)
    refine W.eq (g2 := F0 m 20 ls [_]) rfl ?_
    refine r_zeqB K 37 dX6_begins_20 (by decide) (fun c20 => ?_) (fun c20 => ?_)
    · refine r_ic K (-1) dX6_begins_37 k_m1 ?_
      exact hr.1 _ _ _ _ _ dX6_begins_38 h rfl
    · refine r_iln K hl 3 dX6_begins_23 rfl rfl ?_
      refine r_zeq K 39 dX6_begins_24 (by decide) (fun c24 => ?_) (fun c24 => ?_)
      · exact absurd hb (by unfold begB; rw [c11, c20, decide_eq_true c24, Bool.true_or]; decide)
      · refine r_iln K hl 3 dX6_begins_27 rfl rfl ?_
        refine r_ic K (nI 2) dX6_begins_28 k_2 ?_
        refine r_bp K (nI 8) dX6_begins_29 kb_8 ?_
        refine r_callS K h hl (c_X6_in l g z (nI 2) (nI 8)) mc_X6_in st_X6_in mlX6_69 [] rfl rfl rfl [_, _, _, _, _, _, _, _] rfl (by decide) (by decide) rfl rfl (Nat.le_of_ble_eq_true rfl) ⟨Nat.zero_le _, Nat.zero_le _⟩ dX6_begins_31 (fun H locs h => ?_)
        refine W.eq (g2 := F0 m 34 ls [_]) rfl ?_
        refine r_zneB K 39 dX6_begins_34 (by decide) (fun c34 => ?_) (fun c34 => ?_)
        · exact absurd hb (by unfold begB; rw [c11, c20, c34, Bool.or_true]; decide)
        · refine r_ic K (-1) dX6_begins_37 k_m1 ?_
          exact hr.1 _ _ _ _ _ dX6_begins_38 h rfl

set_option maxHeartbeats 4000000 in
set_option maxRecDepth 100000 in
theorem c_X6_begins_ok (l : Launch) (g : GG) (a : Nat → Nat) (th sm : Int32) (u : Nat) (f fw fp fi fk fs ft : Row) (x y z : Int32) (hu : u ≤ 5) (hb : begB x y z = true) : Ct l g yX6_begins cX6_begins 4 (some .int) 1 [.ref (a 0), .int x, .int y, .int z] (mW g a (th) (nI u) (sm) (f) (fw) (fp) (fi) (fk) (fs) (ft)) (some (.int x)) (mW g a (nI 0) (nI (nU u)) (nI 0) (mBares x y z) (fw) (nP u f fp) (fi) (upd (upd fk 0 (nI 0)) 1 (nI 0)) (fs) (ft)) := by
  refine Ct.start (by decide +kernel) (Nat.le_of_ble_eq_true rfl) (by simp [Value.category]) (Or.inr ⟨.int, _, rfl, rfl, rfl⟩) ?_
  intro p0 e R s m args below meth c A Q K hr h ls hl
  have hl : Lq ls 4 [some (.ref (a 0)), some (.int x), some (.int y), some (.int z)] := hl
  have hb1 := hb
  unfold begB at hb1
  rw [Bool.and_eq_true, Bool.and_eq_true, Bool.or_eq_true] at hb1
  obtain ⟨b1, b2, b3⟩ := hb1
  refine r_aln K hl 0 dX6_begins_0 rfl rfl ?_
  refine r_ic K (nI 0) dX6_begins_1 k_0 ?_
  refine r_put K h ffX6_36 pfX6_0 0 [_, _, _, _, _, _, _, _, _, _] [_, _, _, _, _, _, _, _] rfl rfl rfl (Nat.le_of_ble_eq_true rfl) rfl rfl dX6_begins_2 (fun H locs h => ?_)
  refine r_iln K hl 1 dX6_begins_5 rfl rfl ?_
  refine r_ic K (nI 2) dX6_begins_6 k_2 ?_
  refine r_ic K (nI 4) dX6_begins_7 k_4 ?_
  refine r_callS K h hl (c_X6_in l g x (nI 2) (nI 4)) mc_X6_in st_X6_in mlX6_69 [] rfl rfl rfl [_, _, _, _, _, _, _, _] rfl (by decide) (by decide) rfl rfl (Nat.le_of_ble_eq_true rfl) ⟨Nat.zero_le _, Nat.zero_le _⟩ dX6_begins_8 (fun H locs h => ?_)
  refine W.eq (g2 := F0 m 11 ls [_]) rfl ?_
  refine r_zeqB K 37 dX6_begins_11 (by decide) (fun c => absurd ((b1).symm.trans c) (by decide)) (fun _ => ?_)
  refine r_iln K hl 2 dX6_begins_14 rfl rfl ?_
  refine r_ic K (nI 1) dX6_begins_15 k_1 ?_
  refine r_ic K (nI 4) dX6_begins_16 k_4 ?_
  refine r_callS K h hl (c_X6_in l g y (nI 1) (nI 4)) mc_X6_in st_X6_in mlX6_69 [] rfl rfl rfl [_, _, _, _, _, _, _, _] rfl (by decide) (by decide) rfl rfl (Nat.le_of_ble_eq_true rfl) ⟨Nat.zero_le _, Nat.zero_le _⟩ dX6_begins_17 (fun H locs h => ?_)
  refine W.eq (g2 := F0 m 20 ls [_]) rfl ?_
  refine r_zeqB K 37 dX6_begins_20 (by decide) (fun c => absurd ((b2).symm.trans c) (by decide)) (fun _ => ?_)
  refine r_iln K hl 3 dX6_begins_23 rfl rfl ?_
  refine r_zeq K 39 dX6_begins_24 (by decide) (fun c24 => ?_) (fun c24 => ?_)
  · refine r_aln K hl 0 dX6_begins_39 rfl rfl ?_
    refine r_callV K h hl (c_X6_notes l g a _ sm f fp u hu) mc_X6_notes vm_X6_notes mlX6_73 0 rfl rfl rfl [0, 1, 3] rfl rfl rfl [_, _, _, _, _, _, _, _] rfl (by decide) (by decide) rfl rfl (Nat.le_of_ble_eq_true rfl) ⟨Nat.zero_le _, Nat.zero_le _⟩ dX6_begins_40 (fun H locs h => ?_)
    refine W.eq (g2 := F0 m 43 ls []) rfl ?_
    refine r_aln K hl 0 dX6_begins_43 rfl rfl ?_
    refine r_get K h ffX6_7 0 rfl rfl dX6_begins_44 ?_
    refine r_iln K hl 1 dX6_begins_47 rfl rfl ?_
    refine r_iln K hl 2 dX6_begins_48 rfl rfl ?_
    refine r_iln K hl 3 dX6_begins_49 rfl rfl ?_
    refine r_callS K h hl (c_X6_bares l g (a 1) f x y z) mc_X6_bares st_X6_bares mlX6_32 [1] rfl rfl rfl [_, _, _, _, _, _, _, _] rfl (by decide) (by decide) rfl rfl (Nat.le_of_ble_eq_true rfl) ⟨Nat.zero_le _, Nat.zero_le _⟩ dX6_begins_50 (fun H locs h => ?_)
    refine W.eq (g2 := F0 m 53 ls []) rfl ?_
    refine r_aln K hl 0 dX6_begins_53 rfl rfl ?_
    refine r_ic K (nI 0) dX6_begins_54 k_0 ?_
    refine r_put K h ffX6_76 pfX6_8 0 [_, _, _, _, _, _, _, _, _, _] [_, _, _, _, _, _, _, _] rfl rfl rfl (Nat.le_of_ble_eq_true rfl) rfl rfl dX6_begins_55 (fun H locs h => ?_)
    refine r_aln K hl 0 dX6_begins_58 rfl rfl ?_
    refine r_get K h ffX6_22 0 rfl rfl dX6_begins_59 ?_
    refine r_ic K (nI 0) dX6_begins_62 k_0 ?_
    refine r_ic K (nI 0) dX6_begins_63 k_0 ?_
    refine r_zas K h 5 [_, _, _, _, _, _, _, _] rfl (by omega) (by decide) (by decide) rfl dX6_begins_64 (fun H locs h => ?_)
    refine r_aln K hl 0 dX6_begins_65 rfl rfl ?_
    refine r_get K h ffX6_22 0 rfl rfl dX6_begins_66 ?_
    refine r_ic K (nI 1) dX6_begins_69 k_1 ?_
    refine r_ic K (nI 0) dX6_begins_70 k_0 ?_
    refine r_zas K h 5 [_, _, _, _, _, _, _, _] rfl (by omega) (by decide) (by decide) rfl dX6_begins_71 (fun H locs h => ?_)
    refine r_iln K hl 1 dX6_begins_72 rfl rfl ?_
    exact hr.1 _ _ _ _ _ dX6_begins_73 h rfl
  · refine r_iln K hl 3 dX6_begins_27 rfl rfl ?_
    refine r_ic K (nI 2) dX6_begins_28 k_2 ?_
    refine r_bp K (nI 8) dX6_begins_29 kb_8 ?_
    refine r_callS K h hl (c_X6_in l g z (nI 2) (nI 8)) mc_X6_in st_X6_in mlX6_69 [] rfl rfl rfl [_, _, _, _, _, _, _, _] rfl (by decide) (by decide) rfl rfl (Nat.le_of_ble_eq_true rfl) ⟨Nat.zero_le _, Nat.zero_le _⟩ dX6_begins_31 (fun H locs h => ?_)
    refine W.eq (g2 := F0 m 34 ls [_]) rfl ?_
    refine r_zneB K 39 dX6_begins_34 (by decide) (fun _ => ?_) (fun c => absurd ((b3.resolve_left (fun q => c24 (of_decide_eq_true q))).symm.trans c) (by decide))
    refine r_aln K hl 0 dX6_begins_39 rfl rfl ?_
    refine r_callV K h hl (c_X6_notes l g a _ sm f fp u hu) mc_X6_notes vm_X6_notes mlX6_73 0 rfl rfl rfl [0, 1, 3] rfl rfl rfl [_, _, _, _, _, _, _, _] rfl (by decide) (by decide) rfl rfl (Nat.le_of_ble_eq_true rfl) ⟨Nat.zero_le _, Nat.zero_le _⟩ dX6_begins_40 (fun H locs h => ?_)
    refine W.eq (g2 := F0 m 43 ls []) rfl ?_
    refine r_aln K hl 0 dX6_begins_43 rfl rfl ?_
    refine r_get K h ffX6_7 0 rfl rfl dX6_begins_44 ?_
    refine r_iln K hl 1 dX6_begins_47 rfl rfl ?_
    refine r_iln K hl 2 dX6_begins_48 rfl rfl ?_
    refine r_iln K hl 3 dX6_begins_49 rfl rfl ?_
    refine r_callS K h hl (c_X6_bares l g (a 1) f x y z) mc_X6_bares st_X6_bares mlX6_32 [1] rfl rfl rfl [_, _, _, _, _, _, _, _] rfl (by decide) (by decide) rfl rfl (Nat.le_of_ble_eq_true rfl) ⟨Nat.zero_le _, Nat.zero_le _⟩ dX6_begins_50 (fun H locs h => ?_)
    refine W.eq (g2 := F0 m 53 ls []) rfl ?_
    refine r_aln K hl 0 dX6_begins_53 rfl rfl ?_
    refine r_ic K (nI 0) dX6_begins_54 k_0 ?_
    refine r_put K h ffX6_76 pfX6_8 0 [_, _, _, _, _, _, _, _, _, _] [_, _, _, _, _, _, _, _] rfl rfl rfl (Nat.le_of_ble_eq_true rfl) rfl rfl dX6_begins_55 (fun H locs h => ?_)
    refine r_aln K hl 0 dX6_begins_58 rfl rfl ?_
    refine r_get K h ffX6_22 0 rfl rfl dX6_begins_59 ?_
    refine r_ic K (nI 0) dX6_begins_62 k_0 ?_
    refine r_ic K (nI 0) dX6_begins_63 k_0 ?_
    refine r_zas K h 5 [_, _, _, _, _, _, _, _] rfl (by omega) (by decide) (by decide) rfl dX6_begins_64 (fun H locs h => ?_)
    refine r_aln K hl 0 dX6_begins_65 rfl rfl ?_
    refine r_get K h ffX6_22 0 rfl rfl dX6_begins_66 ?_
    refine r_ic K (nI 1) dX6_begins_69 k_1 ?_
    refine r_ic K (nI 0) dX6_begins_70 k_0 ?_
    refine r_zas K h 5 [_, _, _, _, _, _, _, _] rfl (by omega) (by decide) (by decide) rfl dX6_begins_71 (fun H locs h => ?_)
    refine r_iln K hl 1 dX6_begins_72 rfl rfl ?_
    exact hr.1 _ _ _ _ _ dX6_begins_73 h rfl

set_option maxHeartbeats 4000000 in
set_option maxRecDepth 100000 in
theorem c_X6_begun_state (l : Launch) (g : GG) (a : Nat → Nat) (th um sm : Int32) (f fw fp fi fk fs ft : Row) (p : Nat) (act v : Int32) (hp : p < 4) (ha : ¬ f (32 + 42 * p + 0) = 0) : Ct l g yX6_begun cX6_begun 4 (some .int) 2 [.ref (a 0), .int (nI p), .int act, .int v] (mW g a (th) (um) (sm) (f) (fw) (fp) (fi) (fk) (fs) (ft)) (some (.int (-2))) (mW g a (th) (um) (sm) (f) (fw) (fp) (fi) (fk) (fs) (ft)) := by
  refine Ct.start (by decide +kernel) (Nat.le_of_ble_eq_true rfl) (by simp [Value.category]) (Or.inr ⟨.int, _, rfl, rfl, rfl⟩) ?_
  intro p0 e R s m args below meth c A Q K hr h ls hl
  have hl : Lq ls 4 [some (.ref (a 0)), some (.int (nI p)), some (.int act), some (.int v)] := hl
  refine r_aln K hl 0 dX6_begun_0 rfl rfl ?_
  refine r_iln K hl 1 dX6_begun_1 rfl rfl ?_
  refine r_callV K h hl (c_X6_isIdle l g a _ _ _ f p (by omega)) mc_X6_isIdle vm_X6_isIdle mlX6_79 0 rfl rfl rfl [0, 1] rfl rfl rfl [_, _, _, _, _, _, _, _] rfl (by decide) (by decide) rfl rfl (Nat.le_of_ble_eq_true rfl) ⟨Nat.zero_le _, Nat.zero_le _⟩ dX6_begun_2 (fun H locs h => ?_)
  refine W.eq (g2 := F0 m 5 ls [_]) rfl ?_
  refine r_zneB K 11 dX6_begun_5 (by decide) (fun c => absurd ((decide_eq_false ha).symm.trans c) (by decide)) (fun _ => ?_)
  refine r_bp K (-2) dX6_begun_8 kb_m2 ?_
  exact hr.1 _ _ _ _ _ dX6_begun_10 h rfl

set_option maxHeartbeats 4000000 in
set_option maxRecDepth 100000 in
theorem c_X6_begun_full (l : Launch) (g : GG) (a : Nat → Nat) (th um sm : Int32) (f fw fp fi fk fs ft : Row) (p : Nat) (act v : Int32) (hp : p < 4) (ha : f (32 + 42 * p + 0) = 0) (h4 : f 4 = nI 24) : Ct l g yX6_begun cX6_begun 4 (some .int) 2 [.ref (a 0), .int (nI p), .int act, .int v] (mW g a (th) (um) (sm) (f) (fw) (fp) (fi) (fk) (fs) (ft)) (some (.int (-3))) (mW g a (th) (um) (sm) (f) (fw) (fp) (fi) (fk) (fs) (ft)) := by
  refine Ct.start (by decide +kernel) (Nat.le_of_ble_eq_true rfl) (by simp [Value.category]) (Or.inr ⟨.int, _, rfl, rfl, rfl⟩) ?_
  intro p0 e R s m args below meth c A Q K hr h ls hl
  have hl : Lq ls 4 [some (.ref (a 0)), some (.int (nI p)), some (.int act), some (.int v)] := hl
  refine r_aln K hl 0 dX6_begun_0 rfl rfl ?_
  refine r_iln K hl 1 dX6_begun_1 rfl rfl ?_
  refine r_callV K h hl (c_X6_isIdle l g a _ _ _ f p (by omega)) mc_X6_isIdle vm_X6_isIdle mlX6_79 0 rfl rfl rfl [0, 1] rfl rfl rfl [_, _, _, _, _, _, _, _] rfl (by decide) (by decide) rfl rfl (Nat.le_of_ble_eq_true rfl) ⟨Nat.zero_le _, Nat.zero_le _⟩ dX6_begun_2 (fun H locs h => ?_)
  refine W.eq (g2 := F0 m 5 ls [_]) rfl ?_
  refine r_zneB K 11 dX6_begun_5 (by decide) (fun _ => ?_) (fun c => absurd ((decide_eq_true ha).symm.trans c) (by decide))
  refine r_aln K hl 0 dX6_begun_11 rfl rfl ?_
  refine r_get K h ffX6_7 0 rfl rfl dX6_begun_12 ?_
  refine r_ic K (nI 4) dX6_begun_15 k_4 ?_
  refine r_ialE K h 1 rfl (by omega) (by decide) h4 dX6_begun_16 ?_
  refine r_bp K (nI 24) dX6_begun_17 kb_24 ?_
  refine r_cneN K 25 dX6_begun_19 (by decide) (by omega) (by omega) (fun c => absurd rfl c) (fun c19 => ?_)
  refine r_bp K (-3) dX6_begun_22 kb_m3 ?_
  exact hr.1 _ _ _ _ _ dX6_begun_24 h rfl

set_option maxHeartbeats 4000000 in
set_option maxRecDepth 100000 in
theorem c_X6_begun_ok (l : Launch) (g : GG) (a : Nat → Nat) (th sm : Int32) (u : Nat) (f fw fp fi fk fs ft : Row) (p : Nat) (act v : Int32) (hu : u ≤ 5) (hp : p < 4) (ha : f (32 + 42 * p + 0) = 0) (h4 : ¬ f 4 = nI 24) : Ct l g yX6_begun cX6_begun 4 (some .int) 3 [.ref (a 0), .int (nI p), .int act, .int v] (mW g a (th) (nI u) (sm) (f) (fw) (fp) (fi) (fk) (fs) (ft)) (some (.int (f 3))) (mW g a (th) (nI (nU u)) (sm) (mActs f p act v) (fw) (nP u f fp) (fi) (fk) (fs) (ft)) := by
  refine Ct.start (by decide +kernel) (Nat.le_of_ble_eq_true rfl) (by simp [Value.category]) (Or.inr ⟨.int, _, rfl, rfl, rfl⟩) ?_
  intro p0 e R s m args below meth c A Q K hr h ls hl
  have hl : Lq ls 4 [some (.ref (a 0)), some (.int (nI p)), some (.int act), some (.int v)] := hl
  refine r_aln K hl 0 dX6_begun_0 rfl rfl ?_
  refine r_iln K hl 1 dX6_begun_1 rfl rfl ?_
  refine r_callV K h hl (c_X6_isIdle l g a _ _ _ f p (by omega)) mc_X6_isIdle vm_X6_isIdle mlX6_79 0 rfl rfl rfl [0, 1] rfl rfl rfl [_, _, _, _, _, _, _, _] rfl (by decide) (by decide) rfl rfl (Nat.le_of_ble_eq_true rfl) ⟨Nat.zero_le _, Nat.zero_le _⟩ dX6_begun_2 (fun H locs h => ?_)
  refine W.eq (g2 := F0 m 5 ls [_]) rfl ?_
  refine r_zneB K 11 dX6_begun_5 (by decide) (fun _ => ?_) (fun c => absurd ((decide_eq_true ha).symm.trans c) (by decide))
  refine r_aln K hl 0 dX6_begun_11 rfl rfl ?_
  refine r_get K h ffX6_7 0 rfl rfl dX6_begun_12 ?_
  refine r_ic K (nI 4) dX6_begun_15 k_4 ?_
  refine r_ial K h 1 rfl (by omega) (by decide) dX6_begun_16 ?_
  refine r_bp K (nI 24) dX6_begun_17 kb_24 ?_
  refine r_cne K 25 dX6_begun_19 (by decide) (fun c19 => ?_) (fun c => absurd c h4)
  refine r_aln K hl 0 dX6_begun_25 rfl rfl ?_
  refine r_callV K h hl (c_X6_notes l g a _ sm f fp u hu) mc_X6_notes vm_X6_notes mlX6_73 0 rfl rfl rfl [0, 1, 3] rfl rfl rfl [_, _, _, _, _, _, _, _] rfl (by decide) (by decide) rfl rfl (Nat.le_of_ble_eq_true rfl) ⟨Nat.zero_le _, Nat.zero_le _⟩ dX6_begun_26 (fun H locs h => ?_)
  refine W.eq (g2 := F0 m 29 ls []) rfl ?_
  refine r_aln K hl 0 dX6_begun_29 rfl rfl ?_
  refine r_get K h ffX6_7 0 rfl rfl dX6_begun_30 ?_
  refine r_iln K hl 1 dX6_begun_33 rfl rfl ?_
  refine r_iln K hl 2 dX6_begun_34 rfl rfl ?_
  refine r_iln K hl 3 dX6_begun_35 rfl rfl ?_
  refine r_callS K h hl (c_X6_acts l g (a 1) f p act v hp) mc_X6_acts st_X6_acts mlX6_83 [1] rfl rfl rfl [_, _, _, _, _, _, _, _] rfl (by decide) (by decide) rfl rfl (Nat.le_of_ble_eq_true rfl) ⟨Nat.zero_le _, Nat.zero_le _⟩ dX6_begun_36 (fun H locs h => ?_)
  refine W.eq (g2 := F0 m 39 ls []) rfl ?_
  refine r_aln K hl 0 dX6_begun_39 rfl rfl ?_
  refine r_get K h ffX6_7 0 rfl rfl dX6_begun_40 ?_
  refine r_ic K (nI 3) dX6_begun_43 k_3 ?_
  refine r_ialE K h 1 rfl (by omega) (by decide) (show mActs f p act v 3 = f 3 by dsimp only [mActs]; rw [upd_ne (by omega), upd_ne (by omega), upd_ne (by omega), upd_ne (by omega), idl_o (by omega)]) dX6_begun_44 ?_
  exact hr.1 _ _ _ _ _ dX6_begun_45 h rfl

set_option maxHeartbeats 4000000 in
set_option maxRecDepth 100000 in
theorem c_X6_scans_state (l : Launch) (g : GG) (a : Nat → Nat) (th um sm : Int32) (f fw fp fi fk fs ft : Row) (n : Nat) (hn1 : 1 ≤ n) (hn : n ≤ 4) (h0 : f 0 = nI n) (p : Nat) (hp : p < n) (ha : ¬ f (32 + 42 * p + 0) = 0) : Ct l g yX6_scans cX6_scans 2 (some .int) 3 [.ref (a 0), .int (nI p)] (mW g a (th) (um) (sm) (f) (fw) (fp) (fi) (fk) (fs) (ft)) (some (.int (-2))) (mW g a (nI 0) (um) (sm) (f) (fw) (fp) (fi) (fk) (fs) (ft)) := by
  refine Ct.start (by decide +kernel) (Nat.le_of_ble_eq_true rfl) (by simp [Value.category]) (Or.inr ⟨.int, _, rfl, rfl, rfl⟩) ?_
  intro p0 e R s m args below meth c A Q K hr h ls hl
  have hl : Lq ls 2 [some (.ref (a 0)), some (.int (nI p))] := hl
  refine r_aln K hl 0 dX6_scans_0 rfl rfl ?_
  refine r_ic K (nI 0) dX6_scans_1 k_0 ?_
  refine r_put K h ffX6_36 pfX6_0 0 [_, _, _, _, _, _, _, _, _, _] [_, _, _, _, _, _, _, _] rfl rfl rfl (Nat.le_of_ble_eq_true rfl) rfl rfl dX6_scans_2 (fun H locs h => ?_)
  refine r_aln K hl 0 dX6_scans_5 rfl rfl ?_
  refine r_iln K hl 1 dX6_scans_6 rfl rfl ?_
  refine r_callV K h hl (c_X6_isWriter l g a _ _ _ f n (nI p) hn1 h0) mc_X6_isWriter vm_X6_isWriter mlX6_86 0 rfl rfl rfl [0, 1] rfl rfl rfl [_, _, _, _, _, _, _, _] rfl (by decide) (by decide) rfl rfl (Nat.le_of_ble_eq_true rfl) ⟨Nat.zero_le _, Nat.zero_le _⟩ dX6_scans_7 (fun H locs h => ?_)
  refine W.eq (g2 := F0 m 10 ls [_]) rfl ?_
  refine r_zeqB K 23 dX6_scans_10 (by decide) (fun c => absurd (((inB_of (Nat.zero_le p) (by omega) (by omega))).symm.trans c) (by decide)) (fun _ => ?_)
  refine r_aln K hl 0 dX6_scans_13 rfl rfl ?_
  refine r_iln K hl 1 dX6_scans_14 rfl rfl ?_
  refine r_ic K (nI 1) dX6_scans_15 k_1 ?_
  refine r_ic K (nI 0) dX6_scans_16 k_0 ?_
  refine r_callV K h hl (c_X6_begun_state l g a _ um sm f fw fp fi fk fs ft p (nI 1) (nI 0) (by omega) ha) mc_X6_begun vm_X6_begun mlX6_89 0 rfl rfl rfl [0, 1, 2, 3, 4, 5, 6, 7] rfl rfl rfl [_, _, _, _, _, _, _, _] rfl (by decide) (by decide) rfl rfl (Nat.le_of_ble_eq_true rfl) ⟨Nat.zero_le _, Nat.zero_le _⟩ dX6_scans_17 (fun H locs h => ?_)
  refine W.eq (g2 := F0 m 20 ls [_]) rfl ?_
  refine r_go K 24 dX6_scans_20 (by decide) ?_
  exact hr.1 _ _ _ _ _ dX6_scans_24 h rfl

set_option maxHeartbeats 4000000 in
set_option maxRecDepth 100000 in
theorem c_X6_scans_full (l : Launch) (g : GG) (a : Nat → Nat) (th um sm : Int32) (f fw fp fi fk fs ft : Row) (n : Nat) (hn1 : 1 ≤ n) (hn : n ≤ 4) (h0 : f 0 = nI n) (p : Nat) (hp : p < n) (ha : f (32 + 42 * p + 0) = 0) (h4 : f 4 = nI 24) : Ct l g yX6_scans cX6_scans 2 (some .int) 3 [.ref (a 0), .int (nI p)] (mW g a (th) (um) (sm) (f) (fw) (fp) (fi) (fk) (fs) (ft)) (some (.int (-3))) (mW g a (nI 0) (um) (sm) (f) (fw) (fp) (fi) (fk) (fs) (ft)) := by
  refine Ct.start (by decide +kernel) (Nat.le_of_ble_eq_true rfl) (by simp [Value.category]) (Or.inr ⟨.int, _, rfl, rfl, rfl⟩) ?_
  intro p0 e R s m args below meth c A Q K hr h ls hl
  have hl : Lq ls 2 [some (.ref (a 0)), some (.int (nI p))] := hl
  refine r_aln K hl 0 dX6_scans_0 rfl rfl ?_
  refine r_ic K (nI 0) dX6_scans_1 k_0 ?_
  refine r_put K h ffX6_36 pfX6_0 0 [_, _, _, _, _, _, _, _, _, _] [_, _, _, _, _, _, _, _] rfl rfl rfl (Nat.le_of_ble_eq_true rfl) rfl rfl dX6_scans_2 (fun H locs h => ?_)
  refine r_aln K hl 0 dX6_scans_5 rfl rfl ?_
  refine r_iln K hl 1 dX6_scans_6 rfl rfl ?_
  refine r_callV K h hl (c_X6_isWriter l g a _ _ _ f n (nI p) hn1 h0) mc_X6_isWriter vm_X6_isWriter mlX6_86 0 rfl rfl rfl [0, 1] rfl rfl rfl [_, _, _, _, _, _, _, _] rfl (by decide) (by decide) rfl rfl (Nat.le_of_ble_eq_true rfl) ⟨Nat.zero_le _, Nat.zero_le _⟩ dX6_scans_7 (fun H locs h => ?_)
  refine W.eq (g2 := F0 m 10 ls [_]) rfl ?_
  refine r_zeqB K 23 dX6_scans_10 (by decide) (fun c => absurd (((inB_of (Nat.zero_le p) (by omega) (by omega))).symm.trans c) (by decide)) (fun _ => ?_)
  refine r_aln K hl 0 dX6_scans_13 rfl rfl ?_
  refine r_iln K hl 1 dX6_scans_14 rfl rfl ?_
  refine r_ic K (nI 1) dX6_scans_15 k_1 ?_
  refine r_ic K (nI 0) dX6_scans_16 k_0 ?_
  refine r_callV K h hl (c_X6_begun_full l g a _ um sm f fw fp fi fk fs ft p (nI 1) (nI 0) (by omega) ha h4) mc_X6_begun vm_X6_begun mlX6_89 0 rfl rfl rfl [0, 1, 2, 3, 4, 5, 6, 7] rfl rfl rfl [_, _, _, _, _, _, _, _] rfl (by decide) (by decide) rfl rfl (Nat.le_of_ble_eq_true rfl) ⟨Nat.zero_le _, Nat.zero_le _⟩ dX6_scans_17 (fun H locs h => ?_)
  refine W.eq (g2 := F0 m 20 ls [_]) rfl ?_
  refine r_go K 24 dX6_scans_20 (by decide) ?_
  exact hr.1 _ _ _ _ _ dX6_scans_24 h rfl

set_option maxHeartbeats 4000000 in
set_option maxRecDepth 100000 in
theorem c_X6_scans_ok (l : Launch) (g : GG) (a : Nat → Nat) (th sm : Int32) (u : Nat) (f fw fp fi fk fs ft : Row) (n : Nat) (hn1 : 1 ≤ n) (hn : n ≤ 4) (h0 : f 0 = nI n) (p : Nat) (hp : p < n) (hu : u ≤ 5) (ha : f (32 + 42 * p + 0) = 0) (h4 : ¬ f 4 = nI 24) : Ct l g yX6_scans cX6_scans 2 (some .int) 4 [.ref (a 0), .int (nI p)] (mW g a (th) (nI u) (sm) (f) (fw) (fp) (fi) (fk) (fs) (ft)) (some (.int (f 3))) (mW g a (nI 0) (nI (nU u)) (sm) (mActs f p (nI 1) (nI 0)) (fw) (nP u f fp) (fi) (fk) (fs) (ft)) := by
  refine Ct.start (by decide +kernel) (Nat.le_of_ble_eq_true rfl) (by simp [Value.category]) (Or.inr ⟨.int, _, rfl, rfl, rfl⟩) ?_
  intro p0 e R s m args below meth c A Q K hr h ls hl
  have hl : Lq ls 2 [some (.ref (a 0)), some (.int (nI p))] := hl
  refine r_aln K hl 0 dX6_scans_0 rfl rfl ?_
  refine r_ic K (nI 0) dX6_scans_1 k_0 ?_
  refine r_put K h ffX6_36 pfX6_0 0 [_, _, _, _, _, _, _, _, _, _] [_, _, _, _, _, _, _, _] rfl rfl rfl (Nat.le_of_ble_eq_true rfl) rfl rfl dX6_scans_2 (fun H locs h => ?_)
  refine r_aln K hl 0 dX6_scans_5 rfl rfl ?_
  refine r_iln K hl 1 dX6_scans_6 rfl rfl ?_
  refine r_callV K h hl (c_X6_isWriter l g a _ _ _ f n (nI p) hn1 h0) mc_X6_isWriter vm_X6_isWriter mlX6_86 0 rfl rfl rfl [0, 1] rfl rfl rfl [_, _, _, _, _, _, _, _] rfl (by decide) (by decide) rfl rfl (Nat.le_of_ble_eq_true rfl) ⟨Nat.zero_le _, Nat.zero_le _⟩ dX6_scans_7 (fun H locs h => ?_)
  refine W.eq (g2 := F0 m 10 ls [_]) rfl ?_
  refine r_zeqB K 23 dX6_scans_10 (by decide) (fun c => absurd (((inB_of (Nat.zero_le p) (by omega) (by omega))).symm.trans c) (by decide)) (fun _ => ?_)
  refine r_aln K hl 0 dX6_scans_13 rfl rfl ?_
  refine r_iln K hl 1 dX6_scans_14 rfl rfl ?_
  refine r_ic K (nI 1) dX6_scans_15 k_1 ?_
  refine r_ic K (nI 0) dX6_scans_16 k_0 ?_
  refine r_callV K h hl (c_X6_begun_ok l g a _ sm u f fw fp fi fk fs ft p (nI 1) (nI 0) hu (by omega) ha h4) mc_X6_begun vm_X6_begun mlX6_89 0 rfl rfl rfl [0, 1, 2, 3, 4, 5, 6, 7] rfl rfl rfl [_, _, _, _, _, _, _, _] rfl (by decide) (by decide) rfl rfl (Nat.le_of_ble_eq_true rfl) ⟨Nat.zero_le _, Nat.zero_le _⟩ dX6_scans_17 (fun H locs h => ?_)
  refine W.eq (g2 := F0 m 20 ls [_]) rfl ?_
  refine r_go K 24 dX6_scans_20 (by decide) ?_
  exact hr.1 _ _ _ _ _ dX6_scans_24 h rfl

set_option maxHeartbeats 4000000 in
set_option maxRecDepth 100000 in
theorem c_X6_writes_state (l : Launch) (g : GG) (a : Nat → Nat) (th um sm : Int32) (f fw fp fi fk fs ft : Row) (n : Nat) (hn1 : 1 ≤ n) (hn : n ≤ 4) (h0 : f 0 = nI n) (p : Nat) (v : Int32) (hp : p < n) (hv : inB v (nI 0) (nI 99) = true) (ha : ¬ f (32 + 42 * p + 0) = 0) : Ct l g yX6_writes cX6_writes 3 (some .int) 3 [.ref (a 0), .int (nI p), .int v] (mW g a (th) (um) (sm) (f) (fw) (fp) (fi) (fk) (fs) (ft)) (some (.int (-2))) (mW g a (nI 0) (um) (sm) (f) (fw) (fp) (fi) (fk) (fs) (ft)) := by
  refine Ct.start (by decide +kernel) (Nat.le_of_ble_eq_true rfl) (by simp [Value.category]) (Or.inr ⟨.int, _, rfl, rfl, rfl⟩) ?_
  intro p0 e R s m args below meth c A Q K hr h ls hl
  have hl : Lq ls 3 [some (.ref (a 0)), some (.int (nI p)), some (.int v)] := hl
  refine r_aln K hl 0 dX6_writes_0 rfl rfl ?_
  refine r_ic K (nI 0) dX6_writes_1 k_0 ?_
  refine r_put K h ffX6_36 pfX6_0 0 [_, _, _, _, _, _, _, _, _, _] [_, _, _, _, _, _, _, _] rfl rfl rfl (Nat.le_of_ble_eq_true rfl) rfl rfl dX6_writes_2 (fun H locs h => ?_)
  refine r_aln K hl 0 dX6_writes_5 rfl rfl ?_
  refine r_iln K hl 1 dX6_writes_6 rfl rfl ?_
  refine r_callV K h hl (c_X6_isWriter l g a _ _ _ f n (nI p) hn1 h0) mc_X6_isWriter vm_X6_isWriter mlX6_86 0 rfl rfl rfl [0, 1] rfl rfl rfl [_, _, _, _, _, _, _, _] rfl (by decide) (by decide) rfl rfl (Nat.le_of_ble_eq_true rfl) ⟨Nat.zero_le _, Nat.zero_le _⟩ dX6_writes_7 (fun H locs h => ?_)
  refine W.eq (g2 := F0 m 10 ls [_]) rfl ?_
  refine r_zeqB K 33 dX6_writes_10 (by decide) (fun c => absurd (((inB_of (Nat.zero_le p) (by omega) (by omega))).symm.trans c) (by decide)) (fun _ => ?_)
  refine r_iln K hl 2 dX6_writes_13 rfl rfl ?_
  refine r_ic K (nI 0) dX6_writes_14 k_0 ?_
  refine r_bp K (nI 99) dX6_writes_15 kb_99 ?_
  refine r_callS K h hl (c_X6_in l g v (nI 0) (nI 99)) mc_X6_in st_X6_in mlX6_69 [] rfl rfl rfl [_, _, _, _, _, _, _, _] rfl (by decide) (by decide) rfl rfl (Nat.le_of_ble_eq_true rfl) ⟨Nat.zero_le _, Nat.zero_le _⟩ dX6_writes_17 (fun H locs h => ?_)
  refine W.eq (g2 := F0 m 20 ls [_]) rfl ?_
  refine r_zeqB K 33 dX6_writes_20 (by decide) (fun c => absurd ((hv).symm.trans c) (by decide)) (fun _ => ?_)
  refine r_aln K hl 0 dX6_writes_23 rfl rfl ?_
  refine r_iln K hl 1 dX6_writes_24 rfl rfl ?_
  refine r_ic K (nI 2) dX6_writes_25 k_2 ?_
  refine r_iln K hl 2 dX6_writes_26 rfl rfl ?_
  refine r_callV K h hl (c_X6_begun_state l g a _ um sm f fw fp fi fk fs ft p (nI 2) v (by omega) ha) mc_X6_begun vm_X6_begun mlX6_89 0 rfl rfl rfl [0, 1, 2, 3, 4, 5, 6, 7] rfl rfl rfl [_, _, _, _, _, _, _, _] rfl (by decide) (by decide) rfl rfl (Nat.le_of_ble_eq_true rfl) ⟨Nat.zero_le _, Nat.zero_le _⟩ dX6_writes_27 (fun H locs h => ?_)
  refine W.eq (g2 := F0 m 30 ls [_]) rfl ?_
  refine r_go K 34 dX6_writes_30 (by decide) ?_
  exact hr.1 _ _ _ _ _ dX6_writes_34 h rfl

set_option maxHeartbeats 4000000 in
set_option maxRecDepth 100000 in
theorem c_X6_writes_full (l : Launch) (g : GG) (a : Nat → Nat) (th um sm : Int32) (f fw fp fi fk fs ft : Row) (n : Nat) (hn1 : 1 ≤ n) (hn : n ≤ 4) (h0 : f 0 = nI n) (p : Nat) (v : Int32) (hp : p < n) (hv : inB v (nI 0) (nI 99) = true) (ha : f (32 + 42 * p + 0) = 0) (h4 : f 4 = nI 24) : Ct l g yX6_writes cX6_writes 3 (some .int) 3 [.ref (a 0), .int (nI p), .int v] (mW g a (th) (um) (sm) (f) (fw) (fp) (fi) (fk) (fs) (ft)) (some (.int (-3))) (mW g a (nI 0) (um) (sm) (f) (fw) (fp) (fi) (fk) (fs) (ft)) := by
  refine Ct.start (by decide +kernel) (Nat.le_of_ble_eq_true rfl) (by simp [Value.category]) (Or.inr ⟨.int, _, rfl, rfl, rfl⟩) ?_
  intro p0 e R s m args below meth c A Q K hr h ls hl
  have hl : Lq ls 3 [some (.ref (a 0)), some (.int (nI p)), some (.int v)] := hl
  refine r_aln K hl 0 dX6_writes_0 rfl rfl ?_
  refine r_ic K (nI 0) dX6_writes_1 k_0 ?_
  refine r_put K h ffX6_36 pfX6_0 0 [_, _, _, _, _, _, _, _, _, _] [_, _, _, _, _, _, _, _] rfl rfl rfl (Nat.le_of_ble_eq_true rfl) rfl rfl dX6_writes_2 (fun H locs h => ?_)
  refine r_aln K hl 0 dX6_writes_5 rfl rfl ?_
  refine r_iln K hl 1 dX6_writes_6 rfl rfl ?_
  refine r_callV K h hl (c_X6_isWriter l g a _ _ _ f n (nI p) hn1 h0) mc_X6_isWriter vm_X6_isWriter mlX6_86 0 rfl rfl rfl [0, 1] rfl rfl rfl [_, _, _, _, _, _, _, _] rfl (by decide) (by decide) rfl rfl (Nat.le_of_ble_eq_true rfl) ⟨Nat.zero_le _, Nat.zero_le _⟩ dX6_writes_7 (fun H locs h => ?_)
  refine W.eq (g2 := F0 m 10 ls [_]) rfl ?_
  refine r_zeqB K 33 dX6_writes_10 (by decide) (fun c => absurd (((inB_of (Nat.zero_le p) (by omega) (by omega))).symm.trans c) (by decide)) (fun _ => ?_)
  refine r_iln K hl 2 dX6_writes_13 rfl rfl ?_
  refine r_ic K (nI 0) dX6_writes_14 k_0 ?_
  refine r_bp K (nI 99) dX6_writes_15 kb_99 ?_
  refine r_callS K h hl (c_X6_in l g v (nI 0) (nI 99)) mc_X6_in st_X6_in mlX6_69 [] rfl rfl rfl [_, _, _, _, _, _, _, _] rfl (by decide) (by decide) rfl rfl (Nat.le_of_ble_eq_true rfl) ⟨Nat.zero_le _, Nat.zero_le _⟩ dX6_writes_17 (fun H locs h => ?_)
  refine W.eq (g2 := F0 m 20 ls [_]) rfl ?_
  refine r_zeqB K 33 dX6_writes_20 (by decide) (fun c => absurd ((hv).symm.trans c) (by decide)) (fun _ => ?_)
  refine r_aln K hl 0 dX6_writes_23 rfl rfl ?_
  refine r_iln K hl 1 dX6_writes_24 rfl rfl ?_
  refine r_ic K (nI 2) dX6_writes_25 k_2 ?_
  refine r_iln K hl 2 dX6_writes_26 rfl rfl ?_
  refine r_callV K h hl (c_X6_begun_full l g a _ um sm f fw fp fi fk fs ft p (nI 2) v (by omega) ha h4) mc_X6_begun vm_X6_begun mlX6_89 0 rfl rfl rfl [0, 1, 2, 3, 4, 5, 6, 7] rfl rfl rfl [_, _, _, _, _, _, _, _] rfl (by decide) (by decide) rfl rfl (Nat.le_of_ble_eq_true rfl) ⟨Nat.zero_le _, Nat.zero_le _⟩ dX6_writes_27 (fun H locs h => ?_)
  refine W.eq (g2 := F0 m 30 ls [_]) rfl ?_
  refine r_go K 34 dX6_writes_30 (by decide) ?_
  exact hr.1 _ _ _ _ _ dX6_writes_34 h rfl

set_option maxHeartbeats 4000000 in
set_option maxRecDepth 100000 in
theorem c_X6_writes_ok (l : Launch) (g : GG) (a : Nat → Nat) (th sm : Int32) (u : Nat) (f fw fp fi fk fs ft : Row) (n : Nat) (hn1 : 1 ≤ n) (hn : n ≤ 4) (h0 : f 0 = nI n) (p : Nat) (v : Int32) (hp : p < n) (hv : inB v (nI 0) (nI 99) = true) (hu : u ≤ 5) (ha : f (32 + 42 * p + 0) = 0) (h4 : ¬ f 4 = nI 24) : Ct l g yX6_writes cX6_writes 3 (some .int) 4 [.ref (a 0), .int (nI p), .int v] (mW g a (th) (nI u) (sm) (f) (fw) (fp) (fi) (fk) (fs) (ft)) (some (.int (f 3))) (mW g a (nI 0) (nI (nU u)) (sm) (mActs f p (nI 2) v) (fw) (nP u f fp) (fi) (fk) (fs) (ft)) := by
  refine Ct.start (by decide +kernel) (Nat.le_of_ble_eq_true rfl) (by simp [Value.category]) (Or.inr ⟨.int, _, rfl, rfl, rfl⟩) ?_
  intro p0 e R s m args below meth c A Q K hr h ls hl
  have hl : Lq ls 3 [some (.ref (a 0)), some (.int (nI p)), some (.int v)] := hl
  refine r_aln K hl 0 dX6_writes_0 rfl rfl ?_
  refine r_ic K (nI 0) dX6_writes_1 k_0 ?_
  refine r_put K h ffX6_36 pfX6_0 0 [_, _, _, _, _, _, _, _, _, _] [_, _, _, _, _, _, _, _] rfl rfl rfl (Nat.le_of_ble_eq_true rfl) rfl rfl dX6_writes_2 (fun H locs h => ?_)
  refine r_aln K hl 0 dX6_writes_5 rfl rfl ?_
  refine r_iln K hl 1 dX6_writes_6 rfl rfl ?_
  refine r_callV K h hl (c_X6_isWriter l g a _ _ _ f n (nI p) hn1 h0) mc_X6_isWriter vm_X6_isWriter mlX6_86 0 rfl rfl rfl [0, 1] rfl rfl rfl [_, _, _, _, _, _, _, _] rfl (by decide) (by decide) rfl rfl (Nat.le_of_ble_eq_true rfl) ⟨Nat.zero_le _, Nat.zero_le _⟩ dX6_writes_7 (fun H locs h => ?_)
  refine W.eq (g2 := F0 m 10 ls [_]) rfl ?_
  refine r_zeqB K 33 dX6_writes_10 (by decide) (fun c => absurd (((inB_of (Nat.zero_le p) (by omega) (by omega))).symm.trans c) (by decide)) (fun _ => ?_)
  refine r_iln K hl 2 dX6_writes_13 rfl rfl ?_
  refine r_ic K (nI 0) dX6_writes_14 k_0 ?_
  refine r_bp K (nI 99) dX6_writes_15 kb_99 ?_
  refine r_callS K h hl (c_X6_in l g v (nI 0) (nI 99)) mc_X6_in st_X6_in mlX6_69 [] rfl rfl rfl [_, _, _, _, _, _, _, _] rfl (by decide) (by decide) rfl rfl (Nat.le_of_ble_eq_true rfl) ⟨Nat.zero_le _, Nat.zero_le _⟩ dX6_writes_17 (fun H locs h => ?_)
  refine W.eq (g2 := F0 m 20 ls [_]) rfl ?_
  refine r_zeqB K 33 dX6_writes_20 (by decide) (fun c => absurd ((hv).symm.trans c) (by decide)) (fun _ => ?_)
  refine r_aln K hl 0 dX6_writes_23 rfl rfl ?_
  refine r_iln K hl 1 dX6_writes_24 rfl rfl ?_
  refine r_ic K (nI 2) dX6_writes_25 k_2 ?_
  refine r_iln K hl 2 dX6_writes_26 rfl rfl ?_
  refine r_callV K h hl (c_X6_begun_ok l g a _ sm u f fw fp fi fk fs ft p (nI 2) v hu (by omega) ha h4) mc_X6_begun vm_X6_begun mlX6_89 0 rfl rfl rfl [0, 1, 2, 3, 4, 5, 6, 7] rfl rfl rfl [_, _, _, _, _, _, _, _] rfl (by decide) (by decide) rfl rfl (Nat.le_of_ble_eq_true rfl) ⟨Nat.zero_le _, Nat.zero_le _⟩ dX6_writes_27 (fun H locs h => ?_)
  refine W.eq (g2 := F0 m 30 ls [_]) rfl ?_
  refine r_go K 34 dX6_writes_30 (by decide) ?_
  exact hr.1 _ _ _ _ _ dX6_writes_34 h rfl

set_option maxHeartbeats 4000000 in
set_option maxRecDepth 100000 in
theorem c_X6_scans_bad (l : Launch) (g : GG) (a : Nat → Nat) (th um sm : Int32) (f fw fp fi fk fs ft : Row) (n : Nat) (hn1 : 1 ≤ n) (hn : n ≤ 4) (h0 : f 0 = nI n) (x : Int32) (hb : inB x (nI 0) (nI (n - 1)) = false) : Ct l g yX6_scans cX6_scans 2 (some .int) 2 [.ref (a 0), .int x] (mW g a (th) (um) (sm) (f) (fw) (fp) (fi) (fk) (fs) (ft)) (some (.int (-1))) (mW g a (nI 0) (um) (sm) (f) (fw) (fp) (fi) (fk) (fs) (ft)) := by
  refine Ct.start (by decide +kernel) (Nat.le_of_ble_eq_true rfl) (by simp [Value.category]) (Or.inr ⟨.int, _, rfl, rfl, rfl⟩) ?_
  intro p0 e R s m args below meth c A Q K hr h ls hl
  have hl : Lq ls 2 [some (.ref (a 0)), some (.int x)] := hl
  refine r_aln K hl 0 dX6_scans_0 rfl rfl ?_
  refine r_ic K (nI 0) dX6_scans_1 k_0 ?_
  refine r_put K h ffX6_36 pfX6_0 0 [_, _, _, _, _, _, _, _, _, _] [_, _, _, _, _, _, _, _] rfl rfl rfl (Nat.le_of_ble_eq_true rfl) rfl rfl dX6_scans_2 (fun H locs h => ?_)
  refine r_aln K hl 0 dX6_scans_5 rfl rfl ?_
  refine r_iln K hl 1 dX6_scans_6 rfl rfl ?_
  refine r_callV K h hl (c_X6_isWriter l g a _ _ _ f n x hn1 h0) mc_X6_isWriter vm_X6_isWriter mlX6_86 0 rfl rfl rfl [0, 1] rfl rfl rfl [_, _, _, _, _, _, _, _] rfl (by decide) (by decide) rfl rfl (Nat.le_of_ble_eq_true rfl) ⟨Nat.zero_le _, Nat.zero_le _⟩ dX6_scans_7 (fun H locs h => ?_)
  refine W.eq (g2 := F0 m 10 ls [_]) rfl ?_
  refine r_zeqB K 23 dX6_scans_10 (by decide) (fun _ => ?_) (fun c => absurd ((hb).symm.trans c) (by decide))
  refine r_ic K (-1) dX6_scans_23 k_m1 ?_
  exact hr.1 _ _ _ _ _ dX6_scans_24 h rfl

set_option maxHeartbeats 4000000 in
set_option maxRecDepth 100000 in
theorem c_X6_writes_bad (l : Launch) (g : GG) (a : Nat → Nat) (th um sm : Int32) (f fw fp fi fk fs ft : Row) (n : Nat) (hn1 : 1 ≤ n) (hn : n ≤ 4) (h0 : f 0 = nI n) (x v : Int32) (hb : (inB x (nI 0) (nI (n - 1)) && inB v (nI 0) (nI 99)) = false) : Ct l g yX6_writes cX6_writes 3 (some .int) 2 [.ref (a 0), .int x, .int v] (mW g a (th) (um) (sm) (f) (fw) (fp) (fi) (fk) (fs) (ft)) (some (.int (-1))) (mW g a (nI 0) (um) (sm) (f) (fw) (fp) (fi) (fk) (fs) (ft)) := by
  refine Ct.start (by decide +kernel) (Nat.le_of_ble_eq_true rfl) (by simp [Value.category]) (Or.inr ⟨.int, _, rfl, rfl, rfl⟩) ?_
  intro p0 e R s m args below meth c A Q K hr h ls hl
  have hl : Lq ls 3 [some (.ref (a 0)), some (.int x), some (.int v)] := hl
  refine r_aln K hl 0 dX6_writes_0 rfl rfl ?_
  refine r_ic K (nI 0) dX6_writes_1 k_0 ?_
  refine r_put K h ffX6_36 pfX6_0 0 [_, _, _, _, _, _, _, _, _, _] [_, _, _, _, _, _, _, _] rfl rfl rfl (Nat.le_of_ble_eq_true rfl) rfl rfl dX6_writes_2 (fun H locs h => ?_)
  refine r_aln K hl 0 dX6_writes_5 rfl rfl ?_
  refine r_iln K hl 1 dX6_writes_6 rfl rfl ?_
  refine r_callV K h hl (c_X6_isWriter l g a _ _ _ f n x hn1 h0) mc_X6_isWriter vm_X6_isWriter mlX6_86 0 rfl rfl rfl [0, 1] rfl rfl rfl [_, _, _, _, _, _, _, _] rfl (by decide) (by decide) rfl rfl (Nat.le_of_ble_eq_true rfl) ⟨Nat.zero_le _, Nat.zero_le _⟩ dX6_writes_7 (fun H locs h => ?_)
  refine W.eq (g2 := F0 m 10 ls [_]) rfl ?_
  refine r_zeqB K 33 dX6_writes_10 (by decide) (fun c10 => ?_) (fun c10 => ?_)
  · refine r_ic K (-1) dX6_writes_33 k_m1 ?_
    exact hr.1 _ _ _ _ _ dX6_writes_34 h rfl
  · refine r_iln K hl 2 dX6_writes_13 rfl rfl ?_
    refine r_ic K (nI 0) dX6_writes_14 k_0 ?_
    refine r_bp K (nI 99) dX6_writes_15 kb_99 ?_
    refine r_callS K h hl (c_X6_in l g v (nI 0) (nI 99)) mc_X6_in st_X6_in mlX6_69 [] rfl rfl rfl [_, _, _, _, _, _, _, _] rfl (by decide) (by decide) rfl rfl (Nat.le_of_ble_eq_true rfl) ⟨Nat.zero_le _, Nat.zero_le _⟩ dX6_writes_17 (fun H locs h => ?_)
    refine W.eq (g2 := F0 m 20 ls [_]) rfl ?_
    refine r_zeqB K 33 dX6_writes_20 (by decide) (fun c20 => ?_) (fun c20 => ?_)
    · refine r_ic K (-1) dX6_writes_33 k_m1 ?_
      exact hr.1 _ _ _ _ _ dX6_writes_34 h rfl
    · exact absurd hb (by rw [c10, c20]; decide)

set_option maxHeartbeats 4000000 in
set_option maxRecDepth 100000 in
theorem c_X6_steps_bad (l : Launch) (g : GG) (a : Nat → Nat) (th um sm : Int32) (f fw fp fi fk fs ft : Row) (n : Nat) (hn1 : 1 ≤ n) (hn : n ≤ 4) (h0 : f 0 = nI n) (x v : Int32) (hb : (inB x (nI 0) (nI (n - 1)) && inB v (nI 1) (nI 20)) = false) : Ct l g yX6_steps cX6_steps 4 (some .int) 2 [.ref (a 0), .int x, .int v] (mW g a (th) (um) (sm) (f) (fw) (fp) (fi) (fk) (fs) (ft)) (some (.int (-1))) (mW g a (nI 0) (um) (sm) (f) (fw) (fp) (fi) (fk) (fs) (ft)) := by
  refine Ct.start (by decide +kernel) (Nat.le_of_ble_eq_true rfl) (by simp [Value.category]) (Or.inr ⟨.int, _, rfl, rfl, rfl⟩) ?_
  intro p0 e R s m args below meth c A Q K hr h ls hl
  have hl : Lq ls 4 [some (.ref (a 0)), some (.int x), some (.int v), none] := hl
  refine r_aln K hl 0 dX6_steps_0 rfl rfl ?_
  refine r_ic K (nI 0) dX6_steps_1 k_0 ?_
  refine r_put K h ffX6_36 pfX6_0 0 [_, _, _, _, _, _, _, _, _, _] [_, _, _, _, _, _, _, _] rfl rfl rfl (Nat.le_of_ble_eq_true rfl) rfl rfl dX6_steps_2 (fun H locs h => ?_)
  refine r_aln K hl 0 dX6_steps_5 rfl rfl ?_
  refine r_iln K hl 1 dX6_steps_6 rfl rfl ?_
  refine r_callV K h hl (c_X6_isWriter l g a _ _ _ f n x hn1 h0) mc_X6_isWriter vm_X6_isWriter mlX6_86 0 rfl rfl rfl [0, 1] rfl rfl rfl [_, _, _, _, _, _, _, _] rfl (by decide) (by decide) rfl rfl (Nat.le_of_ble_eq_true rfl) ⟨Nat.zero_le _, Nat.zero_le _⟩ dX6_steps_7 (fun H locs h => ?_)
  refine W.eq (g2 := F0 m 10 ls [_]) rfl ?_
  refine r_zeqB K 23 dX6_steps_10 (by decide) (fun c10 => ?_) (fun c10 => ?_)
  · refine r_ic K (-1) dX6_steps_23 k_m1 ?_
    exact hr.1 _ _ _ _ _ dX6_steps_24 h rfl
  · refine r_iln K hl 2 dX6_steps_13 rfl rfl ?_
    refine r_ic K (nI 1) dX6_steps_14 k_1 ?_
    refine r_bp K (nI 20) dX6_steps_15 kb_20 ?_
    refine r_callS K h hl (c_X6_in l g v (nI 1) (nI 20)) mc_X6_in st_X6_in mlX6_69 [] rfl rfl rfl [_, _, _, _, _, _, _, _] rfl (by decide) (by decide) rfl rfl (Nat.le_of_ble_eq_true rfl) ⟨Nat.zero_le _, Nat.zero_le _⟩ dX6_steps_17 (fun H locs h => ?_)
    refine W.eq (g2 := F0 m 20 ls [_]) rfl ?_
    refine r_zneB K 25 dX6_steps_20 (by decide) (fun c20 => ?_) (fun c20 => ?_)
    · exact absurd hb (by rw [c10, c20]; decide)
    · refine r_ic K (-1) dX6_steps_23 k_m1 ?_
      exact hr.1 _ _ _ _ _ dX6_steps_24 h rfl

set_option maxHeartbeats 4000000 in
set_option maxRecDepth 100000 in
theorem c_X6_steps_state (l : Launch) (g : GG) (a : Nat → Nat) (th um sm : Int32) (f fw fp fi fk fs ft : Row) (n : Nat) (hn1 : 1 ≤ n) (hn : n ≤ 4) (h0 : f 0 = nI n) (p : Nat) (v : Int32) (hp : p < n) (hv : inB v (nI 1) (nI 20) = true) (ha : f (32 + 42 * p + 0) = 0) : Ct l g yX6_steps cX6_steps 4 (some .int) 2 [.ref (a 0), .int (nI p), .int v] (mW g a (th) (um) (sm) (f) (fw) (fp) (fi) (fk) (fs) (ft)) (some (.int (-2))) (mW g a (nI 0) (um) (sm) (f) (fw) (fp) (fi) (fk) (fs) (ft)) := by
  refine Ct.start (by decide +kernel) (Nat.le_of_ble_eq_true rfl) (by simp [Value.category]) (Or.inr ⟨.int, _, rfl, rfl, rfl⟩) ?_
  intro p0 e R s m args below meth c A Q K hr h ls hl
  have hl : Lq ls 4 [some (.ref (a 0)), some (.int (nI p)), some (.int v), none] := hl
  refine r_aln K hl 0 dX6_steps_0 rfl rfl ?_
  refine r_ic K (nI 0) dX6_steps_1 k_0 ?_
  refine r_put K h ffX6_36 pfX6_0 0 [_, _, _, _, _, _, _, _, _, _] [_, _, _, _, _, _, _, _] rfl rfl rfl (Nat.le_of_ble_eq_true rfl) rfl rfl dX6_steps_2 (fun H locs h => ?_)
  refine r_aln K hl 0 dX6_steps_5 rfl rfl ?_
  refine r_iln K hl 1 dX6_steps_6 rfl rfl ?_
  refine r_callV K h hl (c_X6_isWriter l g a _ _ _ f n (nI p) hn1 h0) mc_X6_isWriter vm_X6_isWriter mlX6_86 0 rfl rfl rfl [0, 1] rfl rfl rfl [_, _, _, _, _, _, _, _] rfl (by decide) (by decide) rfl rfl (Nat.le_of_ble_eq_true rfl) ⟨Nat.zero_le _, Nat.zero_le _⟩ dX6_steps_7 (fun H locs h => ?_)
  refine W.eq (g2 := F0 m 10 ls [_]) rfl ?_
  refine r_zeqB K 23 dX6_steps_10 (by decide) (fun c => absurd (((inB_of (Nat.zero_le p) (by omega) (by omega))).symm.trans c) (by decide)) (fun _ => ?_)
  refine r_iln K hl 2 dX6_steps_13 rfl rfl ?_
  refine r_ic K (nI 1) dX6_steps_14 k_1 ?_
  refine r_bp K (nI 20) dX6_steps_15 kb_20 ?_
  refine r_callS K h hl (c_X6_in l g v (nI 1) (nI 20)) mc_X6_in st_X6_in mlX6_69 [] rfl rfl rfl [_, _, _, _, _, _, _, _] rfl (by decide) (by decide) rfl rfl (Nat.le_of_ble_eq_true rfl) ⟨Nat.zero_le _, Nat.zero_le _⟩ dX6_steps_17 (fun H locs h => ?_)
  refine W.eq (g2 := F0 m 20 ls [_]) rfl ?_
  refine r_zneB K 25 dX6_steps_20 (by decide) (fun _ => ?_) (fun c => absurd ((hv).symm.trans c) (by decide))
  refine r_aln K hl 0 dX6_steps_25 rfl rfl ?_
  refine r_iln K hl 1 dX6_steps_26 rfl rfl ?_
  refine r_callV K h hl (c_X6_isIdle l g a _ _ _ f p (by omega)) mc_X6_isIdle vm_X6_isIdle mlX6_79 0 rfl rfl rfl [0, 1] rfl rfl rfl [_, _, _, _, _, _, _, _] rfl (by decide) (by decide) rfl rfl (Nat.le_of_ble_eq_true rfl) ⟨Nat.zero_le _, Nat.zero_le _⟩ dX6_steps_27 (fun H locs h => ?_)
  refine W.eq (g2 := F0 m 30 ls [_]) rfl ?_
  refine r_zeqB K 36 dX6_steps_30 (by decide) (fun c => absurd ((decide_eq_true ha).symm.trans c) (by decide)) (fun _ => ?_)
  refine r_bp K (-2) dX6_steps_33 kb_m2 ?_
  exact hr.1 _ _ _ _ _ dX6_steps_35 h rfl

set_option maxHeartbeats 4000000 in
set_option maxRecDepth 100000 in
theorem c_X6_steps_ok (l : Launch) (g : GG) (a : Nat → Nat) (th sm : Int32) (u : Nat) (f fw fp fi fk fs ft : Row) (n mv p k : Nat) (hu : u ≤ 5) (hx : WFx f n mv) (hp : p < n) (hk1 : 1 ≤ k) (hk : k ≤ 20) (ha : ¬ f (32 + 42 * p + 0) = 0) : Ct l g yX6_steps cX6_steps 4 (some .int) 4 [.ref (a 0), .int (nI p), .int (nI k)] (mW g a (th) (nI u) (sm) (f) (fw) (fp) (fi) (fk) (fs) (ft)) (some (.int (nI (stC f p k)))) (mW g a (nI 0) (nI (nU u)) (sm) (stF f p k) (fw) (nP u f fp) (fi) (fk) (fs) (ft)) := by
  refine Ct.start (by decide +kernel) (Nat.le_of_ble_eq_true rfl) (by simp [Value.category]) (Or.inr ⟨.int, _, rfl, rfl, rfl⟩) ?_
  intro p0 e R s m args below meth c A Q K hr h ls hl
  have hl : Lq ls 4 [some (.ref (a 0)), some (.int (nI p)), some (.int (nI k)), none] := hl
  have hx1 := hx
  obtain ⟨ph0, wr0, ⟨⟨hn2, hn, -⟩, h0, -⟩⟩ := hx1
  have hn1 : 1 ≤ n := by omega
  refine r_aln K hl 0 dX6_steps_0 rfl rfl ?_
  refine r_ic K (nI 0) dX6_steps_1 k_0 ?_
  refine r_put K h ffX6_36 pfX6_0 0 [_, _, _, _, _, _, _, _, _, _] [_, _, _, _, _, _, _, _] rfl rfl rfl (Nat.le_of_ble_eq_true rfl) rfl rfl dX6_steps_2 (fun H locs h => ?_)
  refine r_aln K hl 0 dX6_steps_5 rfl rfl ?_
  refine r_iln K hl 1 dX6_steps_6 rfl rfl ?_
  refine r_callV K h hl (c_X6_isWriter l g a _ _ _ f n (nI p) hn1 h0) mc_X6_isWriter vm_X6_isWriter mlX6_86 0 rfl rfl rfl [0, 1] rfl rfl rfl [_, _, _, _, _, _, _, _] rfl (by decide) (by decide) rfl rfl (Nat.le_of_ble_eq_true rfl) ⟨Nat.zero_le _, Nat.zero_le _⟩ dX6_steps_7 (fun H locs h => ?_)
  refine W.eq (g2 := F0 m 10 ls [_]) rfl ?_
  refine r_zeqB K 23 dX6_steps_10 (by decide) (fun c => absurd (((inB_of (Nat.zero_le p) (by omega) (by omega))).symm.trans c) (by decide)) (fun _ => ?_)
  refine r_iln K hl 2 dX6_steps_13 rfl rfl ?_
  refine r_ic K (nI 1) dX6_steps_14 k_1 ?_
  refine r_bp K (nI 20) dX6_steps_15 kb_20 ?_
  refine r_callS K h hl (c_X6_in l g (nI k) (nI 1) (nI 20)) mc_X6_in st_X6_in mlX6_69 [] rfl rfl rfl [_, _, _, _, _, _, _, _] rfl (by decide) (by decide) rfl rfl (Nat.le_of_ble_eq_true rfl) ⟨Nat.zero_le _, Nat.zero_le _⟩ dX6_steps_17 (fun H locs h => ?_)
  refine W.eq (g2 := F0 m 20 ls [_]) rfl ?_
  refine r_zneB K 25 dX6_steps_20 (by decide) (fun _ => ?_) (fun c => absurd (((inB_of hk1 hk (by omega))).symm.trans c) (by decide))
  refine r_aln K hl 0 dX6_steps_25 rfl rfl ?_
  refine r_iln K hl 1 dX6_steps_26 rfl rfl ?_
  refine r_callV K h hl (c_X6_isIdle l g a _ _ _ f p (by omega)) mc_X6_isIdle vm_X6_isIdle mlX6_79 0 rfl rfl rfl [0, 1] rfl rfl rfl [_, _, _, _, _, _, _, _] rfl (by decide) (by decide) rfl rfl (Nat.le_of_ble_eq_true rfl) ⟨Nat.zero_le _, Nat.zero_le _⟩ dX6_steps_27 (fun H locs h => ?_)
  refine W.eq (g2 := F0 m 30 ls [_]) rfl ?_
  refine r_zeqB K 36 dX6_steps_30 (by decide) (fun _ => ?_) (fun c => absurd ((decide_eq_false ha).symm.trans c) (by decide))
  refine r_aln K hl 0 dX6_steps_36 rfl rfl ?_
  refine r_callV K h hl (c_X6_notes l g a _ sm f fp u hu) mc_X6_notes vm_X6_notes mlX6_73 0 rfl rfl rfl [0, 1, 3] rfl rfl rfl [_, _, _, _, _, _, _, _] rfl (by decide) (by decide) rfl rfl (Nat.le_of_ble_eq_true rfl) ⟨Nat.zero_le _, Nat.zero_le _⟩ dX6_steps_37 (fun H locs h => ?_)
  refine W.eq (g2 := F0 m 40 ls []) rfl ?_
  refine r_ic K (nI 0) dX6_steps_40 k_0 ?_
  refine r_isn K hl 3 [_, _, _, _] dX6_steps_41 rfl (by decide) rfl (fun ls hl => ?_)
  have loop : ∀ (j i : Nat) (f' : Row), i + j = k → WFx f' n mv → stF f' p j = stF f p k → i + stC f' p j = stC f p k → ∀ (H : Heap) (locs : List Loc), Hp g A s H locs (mW g a (nI 0) (nI (nU u)) (sm) (f') (fw) (nP u f fp) (fi) (fk) (fs) (ft)) → ∀ ls, Lq ls 4 [some (.ref (a 0)), some (.int (nI p)), some (.int (nI k)), some (.int (nI i))] → W p0 l e R s m args below meth c H locs 0 0 Q (F0 m 42 ls []) := by
    intro j
    induction j with
    | zero =>
      intro i f' hk hx e1 e2 H locs h ls hl
      obtain rfl : i = k := by omega
      refine r_iln K hl 3 dX6_steps_42 rfl rfl ?_
      refine r_iln K hl 2 dX6_steps_43 rfl rfl ?_
      refine r_cgeN K 69 dX6_steps_44 (by decide) (by omega) (by omega) (fun c44 => ?_) (fun c => absurd c (by omega))
      refine r_iln K hl 3 dX6_steps_69 rfl rfl ?_
      exact hr.1 _ _ _ _ _ dX6_steps_70 (h.to (by rw [← e1]; rfl)) (by rw [← e2]; rfl)
    | succ j ih =>
      intro i f' hk hx e1 e2 H locs h ls hl
      refine r_iln K hl 3 dX6_steps_42 rfl rfl ?_
      refine r_iln K hl 2 dX6_steps_43 rfl rfl ?_
      refine r_cgeN K 69 dX6_steps_44 (by decide) (by omega) (by omega) (fun c => absurd c (by omega)) (fun c44 => ?_)
      refine r_aln K hl 0 dX6_steps_47 rfl rfl ?_
      refine r_iln K hl 1 dX6_steps_48 rfl rfl ?_
      refine r_callV K h hl (c_X6_isIdle l g a _ _ _ f' p (by omega)) mc_X6_isIdle vm_X6_isIdle mlX6_79 0 rfl rfl rfl [0, 1] rfl rfl rfl [_, _, _, _, _, _, _, _] rfl (by decide) (by decide) rfl rfl (Nat.le_of_ble_eq_true rfl) ⟨Nat.zero_le _, Nat.zero_le _⟩ dX6_steps_49 (fun H locs h => ?_)
      refine W.eq (g2 := F0 m 52 ls [_]) rfl ?_
      refine r_zneB K 69 dX6_steps_52 (by decide) (fun c52 => ?_) (fun c52 => ?_)
      · refine r_iln K hl 3 dX6_steps_69 rfl rfl ?_
        exact hr.1 _ _ _ _ _ dX6_steps_70 (h.to (by rw [← e1, stF_idle (of_decide_eq_true c52)])) (by rw [← e2, stC_idle (of_decide_eq_true c52)]; rfl)
      · have ha' := of_decide_eq_false c52
        have hx2 := hx
        obtain ⟨ph, wr, hw⟩ := hx2
        obtain ⟨kd, st, wh, hs, mm, hb⟩ := (hw.2.2.2.2.2 p (by omega)).act ha'
        have h60 := hb.st60 hn2 hn hw.1.2.2.2.1
        have hst := hb.2.1
        have g0 := hw.2.1
        have g5 := hw.2.2.2.1
        have g6 := hw.2.2.2.2.1
        have g7 := hw.1.2.2.2.2.1
        have g8 := hw.1.2.2.2.2.2
        refine r_aln K hl 0 dX6_steps_55 rfl rfl ?_
        refine r_get K h ffX6_7 0 rfl rfl dX6_steps_56 ?_
        refine r_iln K hl 1 dX6_steps_59 rfl rfl ?_
        refine r_callS K h hl (c_X6_step l g (a 1) f' p n ph wr st (by omega) hn2 hn g0 g5 g7 g6 g8 hst (by omega)) mc_X6_step st_X6_step mlX6_93 [1] rfl rfl rfl [_, _, _, _, _, _, _, _] rfl (by decide) (by decide) rfl rfl (Nat.le_of_ble_eq_true rfl) ⟨Nat.zero_le _, Nat.zero_le _⟩ dX6_steps_60 (fun H locs h => ?_)
        refine W.eq (g2 := F0 m 63 ls []) rfl ?_
        refine r_incN K hl (k := 1) [_, _, _, _] dX6_steps_63 rfl (by decide) rfl (fun ls hl => ?_)
        refine r_go K 42 dX6_steps_66 (by decide) ?_
        exact ih (i + 1) _ (by omega) (wfx_step hx hp ha') (by rw [← e1, stF, if_neg ha']) (by rw [← e2, stC, if_neg ha']; omega) _ _ h _ hl
  exact loop k 0 f (by omega) hx rfl (by omega) _ _ h _ hl

set_option maxHeartbeats 4000000 in
set_option maxRecDepth 100000 in
theorem c_X6_undo_state (l : Launch) (g : GG) (a : Nat → Nat) (th sm : Int32) (f fw fp fi fk fs ft : Row) : Ct l g yX6_undo cX6_undo 2 (some .int) 0 [.ref (a 0)] (mW g a (th) (nI 0) (sm) (f) (fw) (fp) (fi) (fk) (fs) (ft)) (some (.int (-2))) (mW g a (nI 0) (nI 0) (sm) (f) (fw) (fp) (fi) (fk) (fs) (ft)) := by
  refine Ct.start (by decide +kernel) (Nat.le_of_ble_eq_true rfl) (by simp [Value.category]) (Or.inr ⟨.int, _, rfl, rfl, rfl⟩) ?_
  intro p0 e R s m args below meth c A Q K hr h ls hl
  have hl : Lq ls 2 [some (.ref (a 0)), none] := hl
  refine r_aln K hl 0 dX6_undo_0 rfl rfl ?_
  refine r_ic K (nI 0) dX6_undo_1 k_0 ?_
  refine r_put K h ffX6_36 pfX6_0 0 [_, _, _, _, _, _, _, _, _, _] [_, _, _, _, _, _, _, _] rfl rfl rfl (Nat.le_of_ble_eq_true rfl) rfl rfl dX6_undo_2 (fun H locs h => ?_)
  refine r_aln K hl 0 dX6_undo_5 rfl rfl ?_
  refine r_get K h ffX6_66 0 rfl rfl dX6_undo_6 ?_
  refine r_zne K 15 dX6_undo_9 (by decide) (fun c => absurd rfl c) (fun c9 => ?_)
  refine r_bp K (-2) dX6_undo_12 kb_m2 ?_
  exact hr.1 _ _ _ _ _ dX6_undo_14 h rfl

set_option maxHeartbeats 4000000 in
set_option maxRecDepth 100000 in
theorem c_X6_undo_ok (l : Launch) (g : GG) (a : Nat → Nat) (th sm : Int32) (u : Nat) (f fw fp fi fk fs ft : Row) (hu : u < 5) : Ct l g yX6_undo cX6_undo 2 (some .int) 0 [.ref (a 0)] (mW g a (th) (nI (u + 1)) (sm) (f) (fw) (fp) (fi) (fk) (fs) (ft)) (some (.int (nI u))) (mW g a (nI 0) (nI u) (sm) (fun j => fp (512 * u + j)) (fw) (fp) (fi) (fk) (fs) (ft)) := by
  refine Ct.start (by decide +kernel) (Nat.le_of_ble_eq_true rfl) (by simp [Value.category]) (Or.inr ⟨.int, _, rfl, rfl, rfl⟩) ?_
  intro p0 e R s m args below meth c A Q K hr h ls hl
  have hl : Lq ls 2 [some (.ref (a 0)), none] := hl
  refine r_aln K hl 0 dX6_undo_0 rfl rfl ?_
  refine r_ic K (nI 0) dX6_undo_1 k_0 ?_
  refine r_put K h ffX6_36 pfX6_0 0 [_, _, _, _, _, _, _, _, _, _] [_, _, _, _, _, _, _, _] rfl rfl rfl (Nat.le_of_ble_eq_true rfl) rfl rfl dX6_undo_2 (fun H locs h => ?_)
  refine r_aln K hl 0 dX6_undo_5 rfl rfl ?_
  refine r_get K h ffX6_66 0 rfl rfl dX6_undo_6 ?_
  refine r_zne K 15 dX6_undo_9 (by decide) (fun c9 => ?_) (fun c => absurd c (nI_ne0 (n := u + 1) (by omega) (by omega)))
  refine r_aln K hl 0 dX6_undo_15 rfl rfl ?_
  refine r_dup K dX6_undo_16 rfl ?_
  refine r_get K h ffX6_66 0 rfl rfl dX6_undo_17 ?_
  refine r_ic K (nI 1) dX6_undo_20 k_1 ?_
  refine r_subN K (by omega) dX6_undo_21 ?_
  refine r_put K h ffX6_66 pfX6_4 0 [_, _, _, _, _, _, _, _, _, _] [_, _, _, _, _, _, _, _] rfl rfl rfl (Nat.le_of_ble_eq_true rfl) rfl rfl dX6_undo_22 (fun H locs h => ?_)
  refine r_ic K (nI 0) dX6_undo_25 k_0 ?_
  refine r_isn K hl 1 [_, _] dX6_undo_26 rfl (by decide) rfl (fun ls hl => ?_)
  rw [show u + 1 - 1 = u by omega] at h
  have loop : ∀ (j k : Nat), k + j = 512 → ∀ (H : Heap) (locs : List Loc), Hp g A s H locs (mW g a (nI 0) (nI u) (sm) (va_cpy fp f (512 * u) 0 k) (fw) (fp) (fi) (fk) (fs) (ft)) → ∀ ls, Lq ls 2 [some (.ref (a 0)), some (.int (nI k))] → W p0 l e R s m args below meth c H locs 0 0 Q (F0 m 27 ls []) := by
    intro j
    induction j with
    | zero =>
      intro k hk H locs h ls hl
      obtain rfl : k = 512 := by omega
      refine r_iln K hl 1 dX6_undo_27 rfl rfl ?_
      refine r_sp K (nI 512) dX6_undo_28 ks_512 ?_
      refine r_cgeN K 61 dX6_undo_31 (by decide) (by omega) (by omega) (fun c31 => ?_) (fun c => absurd c (by omega))
      refine r_aln K hl 0 dX6_undo_61 rfl rfl ?_
      refine r_get K h ffX6_66 0 rfl rfl dX6_undo_62 ?_
      have h := h.arr 1 (fun j => fp (512 * u + j)) rfl (fun j hj => by rw [cpy_i (by omega) (by omega)]; rfl)
      exact hr.1 _ _ _ _ _ dX6_undo_65 (h.to rfl) rfl
    | succ j ih =>
      intro k hk H locs h ls hl
      refine r_iln K hl 1 dX6_undo_27 rfl rfl ?_
      refine r_sp K (nI 512) dX6_undo_28 ks_512 ?_
      refine r_cgeN K 61 dX6_undo_31 (by decide) (by omega) (by omega) (fun c => absurd c (by omega)) (fun c31 => ?_)
      refine r_aln K hl 0 dX6_undo_34 rfl rfl ?_
      refine r_get K h ffX6_7 0 rfl rfl dX6_undo_35 ?_
      refine r_iln K hl 1 dX6_undo_38 rfl rfl ?_
      refine r_aln K hl 0 dX6_undo_39 rfl rfl ?_
      refine r_get K h ffX6_16 0 rfl rfl dX6_undo_40 ?_
      refine r_sp K (nI 512) dX6_undo_43 ks_512 ?_
      refine r_aln K hl 0 dX6_undo_46 rfl rfl ?_
      refine r_get K h ffX6_66 0 rfl rfl dX6_undo_47 ?_
      refine r_mulN K dX6_undo_50 ?_
      refine r_iln K hl 1 dX6_undo_51 rfl rfl ?_
      refine r_addN K dX6_undo_52 ?_
      refine r_ial K h 3 rfl (by omega) (by decide) dX6_undo_53 ?_
      refine r_ias K h 1 [_, _, _, _, _, _, _, _] rfl (by omega) (by decide) rfl dX6_undo_54 (fun H locs h => ?_)
      refine r_incN K hl (k := 1) [_, _] dX6_undo_55 rfl (by decide) rfl (fun ls hl => ?_)
      refine r_go K 27 dX6_undo_58 (by decide) ?_
      refine ih (k + 1) (by omega) _ _ (h.to ?_) _ hl
      rw [← cpy_s, Nat.zero_add]
  exact loop 512 0 rfl _ _ (h.to (by rw [cpy_0])) _ hl

set_option maxHeartbeats 4000000 in
set_option maxRecDepth 100000 in
theorem c_X6_cell_bad (l : Launch) (g : GG) (a : Nat → Nat) (th um sm : Int32) (f fw fp fi fk fs ft : Row) (n : Nat) (hn1 : 1 ≤ n) (hn : n ≤ 4) (h0 : f 0 = nI n) (x v : Int32) (hb : (inB x (nI 0) (nI (n - 1)) && inB v (nI 0) (nI 5)) = false) : Ct l g yX6_cell cX6_cell 3 (some .int) 2 [.ref (a 0), .int x, .int v] (mW g a (th) (um) (sm) (f) (fw) (fp) (fi) (fk) (fs) (ft)) (some (.int (-1))) (mW g a (nI 0) (um) (sm) (f) (fw) (fp) (fi) (fk) (fs) (ft)) := by
  refine Ct.start (by decide +kernel) (Nat.le_of_ble_eq_true rfl) (by simp [Value.category]) (Or.inr ⟨.int, _, rfl, rfl, rfl⟩) ?_
  intro p0 e R s m args below meth c A Q K hr h ls hl
  have hl : Lq ls 3 [some (.ref (a 0)), some (.int x), some (.int v)] := hl
  refine r_aln K hl 0 dX6_cell_0 rfl rfl ?_
  refine r_ic K (nI 0) dX6_cell_1 k_0 ?_
  refine r_put K h ffX6_36 pfX6_0 0 [_, _, _, _, _, _, _, _, _, _] [_, _, _, _, _, _, _, _] rfl rfl rfl (Nat.le_of_ble_eq_true rfl) rfl rfl dX6_cell_2 (fun H locs h => ?_)
  refine r_aln K hl 0 dX6_cell_5 rfl rfl ?_
  refine r_iln K hl 1 dX6_cell_6 rfl rfl ?_
  refine r_callV K h hl (c_X6_isCell l g a _ _ _ f n x hn1 h0) mc_X6_isCell vm_X6_isCell mlX6_96 0 rfl rfl rfl [0, 1] rfl rfl rfl [_, _, _, _, _, _, _, _] rfl (by decide) (by decide) rfl rfl (Nat.le_of_ble_eq_true rfl) ⟨Nat.zero_le _, Nat.zero_le _⟩ dX6_cell_7 (fun H locs h => ?_)
  refine W.eq (g2 := F0 m 10 ls [_]) rfl ?_
  refine r_zeqB K 36 dX6_cell_10 (by decide) (fun c10 => ?_) (fun c10 => ?_)
  · refine r_ic K (-1) dX6_cell_36 k_m1 ?_
    exact hr.1 _ _ _ _ _ dX6_cell_37 h rfl
  · refine r_iln K hl 2 dX6_cell_13 rfl rfl ?_
    refine r_ic K (nI 0) dX6_cell_14 k_0 ?_
    refine r_ic K (nI 5) dX6_cell_15 k_5 ?_
    refine r_callS K h hl (c_X6_in l g v (nI 0) (nI 5)) mc_X6_in st_X6_in mlX6_69 [] rfl rfl rfl [_, _, _, _, _, _, _, _] rfl (by decide) (by decide) rfl rfl (Nat.le_of_ble_eq_true rfl) ⟨Nat.zero_le _, Nat.zero_le _⟩ dX6_cell_16 (fun H locs h => ?_)
    refine W.eq (g2 := F0 m 19 ls [_]) rfl ?_
    refine r_zeqB K 36 dX6_cell_19 (by decide) (fun c19 => ?_) (fun c19 => ?_)
    · refine r_ic K (-1) dX6_cell_36 k_m1 ?_
      exact hr.1 _ _ _ _ _ dX6_cell_37 h rfl
    · exact absurd hb (by rw [c10, c19]; decide)

set_option maxHeartbeats 4000000 in
set_option maxRecDepth 100000 in
theorem c_X6_cell_ok (l : Launch) (g : GG) (a : Nat → Nat) (th um sm : Int32) (f fw fp fi fk fs ft : Row) (n : Nat) (hn1 : 1 ≤ n) (hn : n ≤ 4) (h0 : f 0 = nI n) (p k : Nat) (hp : p < n) (hk : k ≤ 5) : Ct l g yX6_cell cX6_cell 3 (some .int) 2 [.ref (a 0), .int (nI p), .int (nI k)] (mW g a (th) (um) (sm) (f) (fw) (fp) (fi) (fk) (fs) (ft)) (some (.int (f (8 + 6 * p + k)))) (mW g a (nI 0) (um) (sm) (f) (fw) (fp) (fi) (fk) (fs) (ft)) := by
  refine Ct.start (by decide +kernel) (Nat.le_of_ble_eq_true rfl) (by simp [Value.category]) (Or.inr ⟨.int, _, rfl, rfl, rfl⟩) ?_
  intro p0 e R s m args below meth c A Q K hr h ls hl
  have hl : Lq ls 3 [some (.ref (a 0)), some (.int (nI p)), some (.int (nI k))] := hl
  refine r_aln K hl 0 dX6_cell_0 rfl rfl ?_
  refine r_ic K (nI 0) dX6_cell_1 k_0 ?_
  refine r_put K h ffX6_36 pfX6_0 0 [_, _, _, _, _, _, _, _, _, _] [_, _, _, _, _, _, _, _] rfl rfl rfl (Nat.le_of_ble_eq_true rfl) rfl rfl dX6_cell_2 (fun H locs h => ?_)
  refine r_aln K hl 0 dX6_cell_5 rfl rfl ?_
  refine r_iln K hl 1 dX6_cell_6 rfl rfl ?_
  refine r_callV K h hl (c_X6_isCell l g a _ _ _ f n (nI p) hn1 h0) mc_X6_isCell vm_X6_isCell mlX6_96 0 rfl rfl rfl [0, 1] rfl rfl rfl [_, _, _, _, _, _, _, _] rfl (by decide) (by decide) rfl rfl (Nat.le_of_ble_eq_true rfl) ⟨Nat.zero_le _, Nat.zero_le _⟩ dX6_cell_7 (fun H locs h => ?_)
  refine W.eq (g2 := F0 m 10 ls [_]) rfl ?_
  refine r_zeqB K 36 dX6_cell_10 (by decide) (fun c => absurd (((inB_of (Nat.zero_le p) (by omega) (by omega))).symm.trans c) (by decide)) (fun _ => ?_)
  refine r_iln K hl 2 dX6_cell_13 rfl rfl ?_
  refine r_ic K (nI 0) dX6_cell_14 k_0 ?_
  refine r_ic K (nI 5) dX6_cell_15 k_5 ?_
  refine r_callS K h hl (c_X6_in l g (nI k) (nI 0) (nI 5)) mc_X6_in st_X6_in mlX6_69 [] rfl rfl rfl [_, _, _, _, _, _, _, _] rfl (by decide) (by decide) rfl rfl (Nat.le_of_ble_eq_true rfl) ⟨Nat.zero_le _, Nat.zero_le _⟩ dX6_cell_16 (fun H locs h => ?_)
  refine W.eq (g2 := F0 m 19 ls [_]) rfl ?_
  refine r_zeqB K 36 dX6_cell_19 (by decide) (fun c => absurd (((inB_of (Nat.zero_le k) hk (by omega))).symm.trans c) (by decide)) (fun _ => ?_)
  refine r_aln K hl 0 dX6_cell_22 rfl rfl ?_
  refine r_get K h ffX6_7 0 rfl rfl dX6_cell_23 ?_
  refine r_iln K hl 1 dX6_cell_26 rfl rfl ?_
  refine r_callS K h hl (c_X6_cellAt l g p) mc_X6_cellAt st_X6_cellAt mlX6_48 [] rfl rfl rfl [_, _, _, _, _, _, _, _] rfl (by decide) (by decide) rfl rfl (Nat.le_of_ble_eq_true rfl) ⟨Nat.zero_le _, Nat.zero_le _⟩ dX6_cell_27 (fun H locs h => ?_)
  refine W.eq (g2 := F0 m 30 ls [_, _]) rfl ?_
  refine r_iln K hl 2 dX6_cell_30 rfl rfl ?_
  refine r_addN K dX6_cell_31 ?_
  refine r_ial K h 1 rfl (by omega) (by decide) dX6_cell_32 ?_
  refine r_go K 37 dX6_cell_33 (by decide) ?_
  exact hr.1 _ _ _ _ _ dX6_cell_37 h rfl
end
section
/-! what the reading calls answer, on the reference's row -/
section TSW
variable {p : Program} {l : Launch} {e : Env} {R : Room} {s : State} {m : MethodId} {args : Array Value} {below : List Frame} {meth : Method} {c : Code} {H : Heap} {locs : List Loc} {cells slots : Nat} {Q : State → Prop}
variable {g : GG} {A : Nat → Prop} {cc : ByteArray} {nL : Nat} {own : String} {rt : Option FieldType} {d : Nat} {pc : Nat} {ls : Array Slot} {rest : List Value}
theorem r_tsI (K : Cx p l R s m args meth c g A cc nL own rt d) {dflt lo hi : Int} {offs : Array Int} {len : Nat} {x : Int32} (off : Int) (tgt : Nat) (dd : decode cc pc = .ok (.tableswitch dflt lo hi offs, len)) (h1 : ¬ x.toInt < lo) (h2 : ¬ hi < x.toInt) (ho : offs[(x.toInt - lo).toNat]? = some off) (ht : (pc : Int) + off = (tgt : Int)) (kk : W p l e R s m args below meth c H locs cells slots Q (F0 m tgt ls rest)) : W p l e R s m args below meth c H locs cells slots Q (F0 m pc ls (.int x :: rest)) := lv_tableIn K.1.1 K.1.2.1 dd h1 h2 ho ht kk
theorem r_tsO (K : Cx p l R s m args meth c g A cc nL own rt d) {dflt lo hi : Int} {offs : Array Int} {len : Nat} {x : Int32} (tgt : Nat) (dd : decode cc pc = .ok (.tableswitch dflt lo hi offs, len)) (h : x.toInt < lo ∨ hi < x.toInt) (ht : (pc : Int) + dflt = (tgt : Int)) (kk : W p l e R s m args below meth c H locs cells slots Q (F0 m tgt ls rest)) : W p l e R s m args below meth c H locs cells slots Q (F0 m pc ls (.int x :: rest)) := lv_tableOut K.1.1 K.1.2.1 dd h ht kk
theorem r_lsw (K : Cx p l R s m args meth c g A cc nL own rt d) {dflt : Int} {ps : Array (Int × Int)} {len : Nat} {x : Int32} (off : Int) (tgt : Nat) (dd : decode cc pc = .ok (.lookupswitch dflt ps, len)) (hp : (ps.toList.zip (ps.toList.drop 1)).all (fun (a, next) => a.1 < next.1) = true) (ho : Op.lookupswitch.offset ps.toList dflt x.toInt = off) (ht : (pc : Int) + off = (tgt : Int)) (kk : W p l e R s m args below meth c H locs cells slots Q (F0 m tgt ls rest)) : W p l e R s m args below meth c H locs cells slots Q (F0 m pc ls (.int x :: rest)) := lv_lookup K.1.1 K.1.2.1 dd hp ho ht kk
end TSW
/-- it reads yet -/
def rdB (f : Row) (p : Nat) : Bool := decide (¬ f (32 + 42 * p + 0) = 0) && decide (f (32 + 42 * p + 5) = 0)
def mWA (f : Row) (n p : Nat) : Nat → Int32
  | 0 => f (32 + 42 * p + 0)
  | 1 => f (32 + 42 * p + 2)
  | 2 => if rdB f p then nI (rSt f p % n) else -9
  | 3 => f (32 + 42 * p + 4)
  | 8 => if f (32 + 42 * p + 0) = nI 2 then f (32 + 42 * p + 1) else -9
  | k => f (32 + 42 * p + 6 + k - 4)
def mRA (f : Row) (n p c k : Nat) : Int32 := if rdB f p = true ∧ c < rSt f p % n then f (32 + 42 * p + 14 + 6 * c + k) else -9
theorem WFx.st {f : Row} {n mv p : Nat} (h : WFx f n mv) (hp : p < n) (ha : ¬ f (32 + 42 * p + 0) = 0) : ∃ st, st ≤ 60 ∧ f (32 + 42 * p + 2) = nI st ∧ rSt f p = st := by
  obtain ⟨ph, wr, h⟩ := h
  have hp4 : p < 4 := by have := h.1.2.1; omega
  obtain ⟨kd, st, wh, hs, mm, hb⟩ := (h.2.2.2.2.2 p hp4).act ha
  have h60 := hb.st60 h.1.1 h.1.2.1 h.1.2.2.2.1
  exact ⟨st, h60, hb.2.1, rSt_of hb.2.1 (by omega)⟩
/-- what a cell had behind so many steps -/
def vAt (f : Row) (c : Nat) (t : Int32) : Nat → Int32
  | 0 => 0
  | i + 1 => if f (440 + 3 * i) ≤ t ∧ f (440 + 3 * i + 1) = nI c then f (440 + 3 * i + 2) else vAt f c t i
def okK (f : Row) (wr i t : Nat) : Nat → Bool
  | 0 => true
  | k + 1 => okK f wr i t k && decide (vAt f k (nI t) wr = f (200 + 10 * i + 6 + k))
theorem okK_no {f : Row} {wr i t : Nat} : ∀ (d k : Nat), okK f wr i t k = false → okK f wr i t (k + d) = false
  | 0, k, h => h
  | d + 1, k, h => by rw [← Nat.add_assoc, okK, okK_no d k h]; rfl
def momG (f : Row) (wr n i : Nat) : Nat → Nat → Int32
  | _, 0 => -9
  | t, j + 1 => if okK f wr i t n then nI t else momG f wr n i (t + 1) j
/-- the moment of photo i -/
def mMom (f : Row) (i : Nat) : Int32 := momG f (rWr f) (rN f) i (f (200 + 10 * i + 1)).toNatClampNeg ((f (200 + 10 * i + 2)).toNatClampNeg + 1 - (f (200 + 10 * i + 1)).toNatClampNeg)
def rdT (f : Row) (x : Int32) : Nat → Nat
  | 0 => 0
  | i + 1 => rdT f x i + (if f (200 + 10 * i + 3) = x then 1 else 0)
def rdA (f : Row) (x : Int32) : Nat → Int32
  | 0 => -9
  | i + 1 => if x < f (200 + 10 * i + 3) ∧ (rdA f x i = -9 ∨ f (200 + 10 * i + 3) < rdA f x i) then f (200 + 10 * i + 3) else rdA f x i
def rdZ (f : Row) (x : Int32) : Nat → Int32
  | 0 => -9
  | i + 1 => if f (200 + 10 * i + 3) < x ∧ rdZ f x i < f (200 + 10 * i + 3) then f (200 + 10 * i + 3) else rdZ f x i
def mRds (f : Row) (x : Int32) (ph : Nat) : Nat → Int32
  | 0 => nI (rdT f x ph)
  | 1 => rdA f x ph
  | _ => rdZ f x ph
/-- steps enough are left till writer p is idle -/
def MB (f : Row) (p j : Nat) : Prop := f (32 + 42 * p + 0) = 0 ∨ 61 ≤ rSt f p + j
theorem MB.of {f : Row} {p j : Nat} (h : 61 ≤ j) : MB f p j := Or.inr (by omega)
theorem MB.pos {f : Row} {n mv p : Nat} (hx : WFx f n mv) (hp : p < n) (h : MB f p 0) : f (32 + 42 * p + 0) = 0 := by
  rcases h with h | h
  · exact h
  · by_cases ha : f (32 + 42 * p + 0) = 0
    · exact ha
    · obtain ⟨st, h1, h2, h3⟩ := hx.st hp ha; omega
theorem wfx_more {f : Row} {n mv p : Nat} (hx : WFx f n mv) (hp : p < n) (ha : ¬ f (32 + 42 * p + 0) = 0) : mStep f p (32 + 42 * p + 0) = 0 ∨ rSt (mStep f p) p = rSt f p + 1 := by
  obtain ⟨ph, wr, h⟩ := hx
  have hp4 : p < 4 := by have := h.1.2.1; omega
  obtain ⟨kd, st, wh, hs, mm, hb⟩ := (h.2.2.2.2.2 p hp4).act ha
  have h60 := hb.st60 h.1.1 h.1.2.1 h.1.2.2.2.1
  obtain ⟨ph', wr', h1, h2 | ⟨kd', wh', hs', mm', h2⟩, -⟩ := wf_step h hp hb
  · exact Or.inl (h2 0 (by omega))
  · right; rw [rSt_of hb.2.1 (by omega), rSt_of h2.2.1 (by omega)]
theorem MB.step {f : Row} {n mv p j : Nat} (hx : WFx f n mv) (hp : p < n) (ha : ¬ f (32 + 42 * p + 0) = 0) (h : MB f p (j + 1)) : MB (mStep f p) p j := by
  rcases wfx_more hx hp ha with h1 | h1
  · exact Or.inl h1
  · rcases h with h | h
    · exact absurd h ha
    · right; omega
/-- another writer's step leaves a writer's part -/
theorem wfx_other {f : Row} {n mv p p' : Nat} (hx : WFx f n mv) (hp : p < n) (ha : ¬ f (32 + 42 * p + 0) = 0) (hp' : p' < 4) (hne : p' ≠ p) (i : Nat) (hi : i < 42) : mStep f p (32 + 42 * p' + i) = f (32 + 42 * p' + i) := by
  obtain ⟨ph, wr, h⟩ := hx
  have hp4 : p < 4 := by have := h.1.2.1; omega
  obtain ⟨kd, st, wh, hs, mm, hb⟩ := (h.2.2.2.2.2 p hp4).act ha
  obtain ⟨ph', wr', h1, -, h3⟩ := wf_step h hp hb
  exact h3 _ (by omega) (by omega) (by omega) (by omega) (by omega) (by omega) (by omega)
theorem MB.other {f : Row} {n mv p p' j : Nat} (hx : WFx f n mv) (hp : p < n) (ha : ¬ f (32 + 42 * p + 0) = 0) (hp' : p' < 4) (hne : p' ≠ p) (h : MB f p' j) : MB (mStep f p) p' j := by
  rcases h with h | h
  · exact Or.inl ((wfx_other hx hp ha hp' hne 0 (by omega)).trans h)
  · right; unfold rSt; rw [wfx_other hx hp ha hp' hne 2 (by omega)]; exact h
theorem MB.more {f : Row} {p j k : Nat} (h : MB f p j) (hk : j ≤ k) : MB f p k := h.elim Or.inl (fun h => Or.inr (by omega))
/-- one round: each writer that has an act does a step, by numbers -/
def rnF (f : Row) : Nat → Row
  | 0 => f
  | k + 1 => if rnF f k (32 + 42 * k + 0) = 0 then rnF f k else mStep (rnF f k) k
def rnC (f : Row) : Nat → Nat
  | 0 => 0
  | k + 1 => if rnF f k (32 + 42 * k + 0) = 0 then rnC f k else rnC f k + 1
/-- whether one of the first k writers has an act -/
def anyA (f : Row) : Nat → Bool
  | 0 => false
  | k + 1 => anyA f k || decide (¬ f (32 + 42 * k + 0) = 0)
/-- by turns, so many rounds at most -/
def btF (f : Row) (n : Nat) : Nat → Row
  | 0 => f
  | j + 1 => if anyA f n then btF (rnF f n) n j else f
def btC (f : Row) (n : Nat) : Nat → Nat
  | 0 => 0
  | j + 1 => if anyA f n then rnC f n + btC (rnF f n) n j else 0
theorem anyA_no {f : Row} : ∀ k, anyA f k = false → ∀ p, p < k → f (32 + 42 * p + 0) = 0
  | 0, _, p, h => by omega
  | k + 1, h, p, hp => by
    rw [anyA, Bool.or_eq_false_iff] at h
    by_cases e : p = k
    · subst e; exact Decidable.not_not.mp (of_decide_eq_false h.2)
    · exact anyA_no k h.1 p (by omega)
theorem anyA_none {f : Row} : ∀ k, (∀ p, p < k → f (32 + 42 * p + 0) = 0) → anyA f k = false
  | 0, _ => rfl
  | k + 1, h => by rw [anyA, anyA_none k (fun p hp => h p (by omega)), decide_eq_false (fun q => q (h k (by omega)))]; rfl
theorem rn_wf {f : Row} {n mv : Nat} (hx : WFx f n mv) : ∀ k, k ≤ n → WFx (rnF f k) n mv
  | 0, _ => hx
  | k + 1, hk => by
    rw [rnF]
    split
    · exact rn_wf hx k (by omega)
    · rename_i ha; exact wfx_step (rn_wf hx k (by omega)) (by omega) ha
/-- a writer whose turn hasn't come is as it was; the others have one step less -/
theorem rn_MB {f : Row} {n mv j : Nat} (hx : WFx f n mv) (hn : n ≤ 4) (h : ∀ p, p < n → MB f p (j + 1)) : ∀ k, k ≤ n → (∀ p, p < k → MB (rnF f k) p j) ∧ (∀ p, k ≤ p → p < n → MB (rnF f k) p (j + 1))
  | 0, _ => ⟨fun p hp => by omega, fun p _ hp => h p hp⟩
  | k + 1, hk => by
    obtain ⟨h1, h2⟩ := rn_MB hx hn h k (by omega)
    rw [rnF]
    split
    · rename_i ha
      refine ⟨fun p hp => ?_, fun p h3 h4 => h2 p (by omega) h4⟩
      by_cases e : p = k
      · subst e; exact Or.inl ha
      · exact h1 p (by omega)
    · rename_i ha
      have hw := rn_wf hx k (by omega)
      refine ⟨fun p hp => ?_, fun p h3 h4 => (h2 p (by omega) h4).other hw (by omega) ha (by omega) (by omega)⟩
      by_cases e : p = k
      · subst e; exact (h2 p (by omega) (by omega)).step hw (by omega) ha
      · exact (h1 p (by omega)).other hw (by omega) ha (by omega) (by omega)
theorem rn_idle {f : Row} : ∀ k, (∀ p, p < k → f (32 + 42 * p + 0) = 0) → rnF f k = f ∧ rnC f k = 0
  | 0, _ => ⟨rfl, rfl⟩
  | k + 1, h => by
    obtain ⟨h1, h2⟩ := rn_idle k (fun p hp => h p (by omega))
    rw [rnF, rnC, h1, h2, if_pos (h k (by omega)), if_pos (h k (by omega))]
    exact ⟨rfl, rfl⟩
theorem rn_bound (f : Row) : ∀ k, rnC f k ≤ k
  | 0 => Nat.le_refl 0
  | k + 1 => by rw [rnC]; have := rn_bound f k; split <;> omega
theorem rn_late {f : Row} {n mv : Nat} (hx : WFx f n mv) (hn : n ≤ 4) : ∀ k, k ≤ n → ∀ p, k ≤ p → p < 4 → ∀ i, i < 42 → rnF f k (32 + 42 * p + i) = f (32 + 42 * p + i)
  | 0, _, _, _, _, _, _ => rfl
  | k + 1, hk, p, h1, h2, i, hi => by
    rw [rnF]
    split
    · exact rn_late hx hn k (by omega) p (by omega) h2 i hi
    · rename_i ha
      rw [wfx_other (rn_wf hx k (by omega)) (by omega) ha h2 (by omega) i hi]
      exact rn_late hx hn k (by omega) p (by omega) h2 i hi
end
section
set_option maxHeartbeats 4000000 in
set_option maxRecDepth 100000 in
theorem c_X6_writer_bad (l : Launch) (g : GG) (a : Nat → Nat) (th um sm : Int32) (f fw fp fi fk fs ft : Row) (n : Nat) (hn1 : 1 ≤ n) (hn : n ≤ 4) (h0 : f 0 = nI n) (x v : Int32) (hb : (inB x (nI 0) (nI (n - 1)) && inB v (nI 0) (nI 8)) = false) : Ct l g yX6_writer cX6_writer 5 (some .int) 2 [.ref (a 0), .int x, .int v] (mW g a (th) (um) (sm) (f) (fw) (fp) (fi) (fk) (fs) (ft)) (some (.int (-1))) (mW g a (nI 0) (um) (sm) (f) (fw) (fp) (fi) (fk) (fs) (ft)) := by
  refine Ct.start (by decide +kernel) (Nat.le_of_ble_eq_true rfl) (by simp [Value.category]) (Or.inr ⟨.int, _, rfl, rfl, rfl⟩) ?_
  intro p0 e R s m args below meth c A Q K hr h ls hl
  have hl : Lq ls 5 [some (.ref (a 0)), some (.int x), some (.int v), none, none] := hl
  refine r_aln K hl 0 dX6_writer_0 rfl rfl ?_
  refine r_ic K (nI 0) dX6_writer_1 k_0 ?_
  refine r_put K h ffX6_36 pfX6_0 0 [_, _, _, _, _, _, _, _, _, _] [_, _, _, _, _, _, _, _] rfl rfl rfl (Nat.le_of_ble_eq_true rfl) rfl rfl dX6_writer_2 (fun H locs h => ?_)
  refine r_aln K hl 0 dX6_writer_5 rfl rfl ?_
  refine r_iln K hl 1 dX6_writer_6 rfl rfl ?_
  refine r_callV K h hl (c_X6_isWriter l g a _ _ _ f n x hn1 h0) mc_X6_isWriter vm_X6_isWriter mlX6_86 0 rfl rfl rfl [0, 1] rfl rfl rfl [_, _, _, _, _, _, _, _] rfl (by decide) (by decide) rfl rfl (Nat.le_of_ble_eq_true rfl) ⟨Nat.zero_le _, Nat.zero_le _⟩ dX6_writer_7 (fun H locs h => ?_)
  refine W.eq (g2 := F0 m 10 ls [_]) rfl ?_
  refine r_zeqB K 23 dX6_writer_10 (by decide) (fun c10 => ?_) (fun c10 => ?_)
  · refine r_ic K (-1) dX6_writer_23 k_m1 ?_
    exact hr.1 _ _ _ _ _ dX6_writer_24 h rfl
  · refine r_iln K hl 2 dX6_writer_13 rfl rfl ?_
    refine r_ic K (nI 0) dX6_writer_14 k_0 ?_
    refine r_bp K (nI 8) dX6_writer_15 kb_8 ?_
    refine r_callS K h hl (c_X6_in l g v (nI 0) (nI 8)) mc_X6_in st_X6_in mlX6_69 [] rfl rfl rfl [_, _, _, _, _, _, _, _] rfl (by decide) (by decide) rfl rfl (Nat.le_of_ble_eq_true rfl) ⟨Nat.zero_le _, Nat.zero_le _⟩ dX6_writer_17 (fun H locs h => ?_)
    refine W.eq (g2 := F0 m 20 ls [_]) rfl ?_
    refine r_zneB K 25 dX6_writer_20 (by decide) (fun c20 => ?_) (fun c20 => ?_)
    · exact absurd hb (by rw [c10, c20]; decide)
    · refine r_ic K (-1) dX6_writer_23 k_m1 ?_
      exact hr.1 _ _ _ _ _ dX6_writer_24 h rfl

set_option maxHeartbeats 4000000 in
set_option maxRecDepth 100000 in
theorem c_X6_writer_ok (l : Launch) (g : GG) (a : Nat → Nat) (th um sm : Int32) (f fw fp fi fk fs ft : Row) (n mv p k : Nat) (hx : WFx f n mv) (hp : p < n) (hk : k ≤ 8) : Ct l g yX6_writer cX6_writer 5 (some .int) 2 [.ref (a 0), .int (nI p), .int (nI k)] (mW g a (th) (um) (sm) (f) (fw) (fp) (fi) (fk) (fs) (ft)) (some (.int (mWA f n p k))) (mW g a (nI 0) (um) (sm) (f) (fw) (fp) (fi) (fk) (fs) (ft)) := by
  refine Ct.start (by decide +kernel) (Nat.le_of_ble_eq_true rfl) (by simp [Value.category]) (Or.inr ⟨.int, _, rfl, rfl, rfl⟩) ?_
  intro p0 e R s m args below meth c A Q K hr h ls hl
  have hl : Lq ls 5 [some (.ref (a 0)), some (.int (nI p)), some (.int (nI k)), none, none] := hl
  have hx1 := hx
  obtain ⟨ph0, wr0, ⟨⟨hn2, hn, -⟩, h0, -⟩⟩ := hx1
  have hn1 : 1 ≤ n := by omega
  refine r_aln K hl 0 dX6_writer_0 rfl rfl ?_
  refine r_ic K (nI 0) dX6_writer_1 k_0 ?_
  refine r_put K h ffX6_36 pfX6_0 0 [_, _, _, _, _, _, _, _, _, _] [_, _, _, _, _, _, _, _] rfl rfl rfl (Nat.le_of_ble_eq_true rfl) rfl rfl dX6_writer_2 (fun H locs h => ?_)
  refine r_aln K hl 0 dX6_writer_5 rfl rfl ?_
  refine r_iln K hl 1 dX6_writer_6 rfl rfl ?_
  refine r_callV K h hl (c_X6_isWriter l g a _ _ _ f n (nI p) hn1 h0) mc_X6_isWriter vm_X6_isWriter mlX6_86 0 rfl rfl rfl [0, 1] rfl rfl rfl [_, _, _, _, _, _, _, _] rfl (by decide) (by decide) rfl rfl (Nat.le_of_ble_eq_true rfl) ⟨Nat.zero_le _, Nat.zero_le _⟩ dX6_writer_7 (fun H locs h => ?_)
  refine W.eq (g2 := F0 m 10 ls [_]) rfl ?_
  refine r_zeqB K 23 dX6_writer_10 (by decide) (fun c => absurd (((inB_of (Nat.zero_le p) (by omega) (by omega))).symm.trans c) (by decide)) (fun _ => ?_)
  refine r_iln K hl 2 dX6_writer_13 rfl rfl ?_
  refine r_ic K (nI 0) dX6_writer_14 k_0 ?_
  refine r_bp K (nI 8) dX6_writer_15 kb_8 ?_
  refine r_callS K h hl (c_X6_in l g (nI k) (nI 0) (nI 8)) mc_X6_in st_X6_in mlX6_69 [] rfl rfl rfl [_, _, _, _, _, _, _, _] rfl (by decide) (by decide) rfl rfl (Nat.le_of_ble_eq_true rfl) ⟨Nat.zero_le _, Nat.zero_le _⟩ dX6_writer_17 (fun H locs h => ?_)
  refine W.eq (g2 := F0 m 20 ls [_]) rfl ?_
  refine r_zneB K 25 dX6_writer_20 (by decide) (fun _ => ?_) (fun c => absurd (((inB_of (Nat.zero_le k) hk (by omega))).symm.trans c) (by decide))
  refine r_iln K hl 1 dX6_writer_25 rfl rfl ?_
  refine r_callS K h hl (c_X6_writerAt l g p) mc_X6_writerAt st_X6_writerAt mlX6_40 [] rfl rfl rfl [_, _, _, _, _, _, _, _] rfl (by decide) (by decide) rfl rfl (Nat.le_of_ble_eq_true rfl) ⟨Nat.zero_le _, Nat.zero_le _⟩ dX6_writer_26 (fun H locs h => ?_)
  refine W.eq (g2 := F0 m 29 ls [_]) rfl ?_
  refine r_isn K hl 3 [_, _, _, _, _] dX6_writer_29 rfl (by decide) rfl (fun ls hl => ?_)
  refine r_aln K hl 0 dX6_writer_30 rfl rfl ?_
  refine r_iln K hl 1 dX6_writer_31 rfl rfl ?_
  refine r_callV K h hl (c_X6_isIdle l g a _ _ _ f p (by omega)) mc_X6_isIdle vm_X6_isIdle mlX6_79 0 rfl rfl rfl [0, 1] rfl rfl rfl [_, _, _, _, _, _, _, _] rfl (by decide) (by decide) rfl rfl (Nat.le_of_ble_eq_true rfl) ⟨Nat.zero_le _, Nat.zero_le _⟩ dX6_writer_32 (fun H locs h => ?_)
  refine W.eq (g2 := F0 m 35 ls [_]) rfl ?_
  have J : ∀ rb : Bool, rb = rdB f p → W p0 l e R s m args below meth c H locs 0 0 Q (F0 m 54 ls [.int (bI rb)]) := by
    intro rb hrb
    refine r_is K hl 4 [_, _, _, _, _] dX6_writer_54 (by decide) rfl (fun ls hl => ?_)
    refine r_iln K hl 2 dX6_writer_56 rfl rfl ?_
    rcases (by omega : k = 0 ∨ k = 1 ∨ k = 2 ∨ k = 3 ∨ k = 4 ∨ k = 5 ∨ k = 6 ∨ k = 7 ∨ k = 8) with rfl | rfl | rfl | rfl | rfl | rfl | rfl | rfl | rfl
    · refine r_tsI K 51 108 dX6_writer_57 (by decide) (by decide) (by decide) (by decide) ?_
      refine r_aln K hl 0 dX6_writer_108 rfl rfl ?_
      refine r_get K h ffX6_7 0 rfl rfl dX6_writer_109 ?_
      refine r_iln K hl 3 dX6_writer_112 rfl rfl ?_
      refine r_ic K (nI 0) dX6_writer_113 k_0 ?_
      refine r_addN K dX6_writer_114 ?_
      refine r_ial K h 1 rfl (by omega) (by decide) dX6_writer_115 ?_
      exact hr.1 _ _ _ _ _ dX6_writer_116 h rfl
    · refine r_tsI K 60 117 dX6_writer_57 (by decide) (by decide) (by decide) (by decide) ?_
      refine r_aln K hl 0 dX6_writer_117 rfl rfl ?_
      refine r_get K h ffX6_7 0 rfl rfl dX6_writer_118 ?_
      refine r_iln K hl 3 dX6_writer_121 rfl rfl ?_
      refine r_ic K (nI 2) dX6_writer_122 k_2 ?_
      refine r_addN K dX6_writer_123 ?_
      refine r_ial K h 1 rfl (by omega) (by decide) dX6_writer_124 ?_
      exact hr.1 _ _ _ _ _ dX6_writer_125 h rfl
    · refine r_tsI K 69 126 dX6_writer_57 (by decide) (by decide) (by decide) (by decide) ?_
      refine r_il K hl 4 dX6_writer_126 rfl ?_
      refine r_zeqB K 149 dX6_writer_128 (by decide) (fun c128 => ?_) (fun c128 => ?_)
      · refine r_bp K (-9) dX6_writer_149 kb_m9 ?_
        exact hr.1 _ _ _ _ _ dX6_writer_151 h (by rw [mWA, ← hrb, c128]; rfl)
      · have hr1 := hrb
        rw [c128, rdB, eq_comm, Bool.and_eq_true] at hr1
        obtain ⟨st, hs1, hs2, hs3⟩ := hx.st hp (of_decide_eq_true hr1.1)
        refine r_aln K hl 0 dX6_writer_131 rfl rfl ?_
        refine r_get K h ffX6_7 0 rfl rfl dX6_writer_132 ?_
        refine r_iln K hl 3 dX6_writer_135 rfl rfl ?_
        refine r_ic K (nI 2) dX6_writer_136 k_2 ?_
        refine r_addN K dX6_writer_137 ?_
        refine r_ialE K h 1 rfl (by omega) (by decide) hs2 dX6_writer_138 ?_
        refine r_aln K hl 0 dX6_writer_139 rfl rfl ?_
        refine r_get K h ffX6_7 0 rfl rfl dX6_writer_140 ?_
        refine r_ic K (nI 0) dX6_writer_143 k_0 ?_
        refine r_ialE K h 1 rfl (by omega) (by decide) h0 dX6_writer_144 ?_
        refine r_remN K (by omega) (by omega) (by omega) dX6_writer_145 ?_
        refine r_go K 151 dX6_writer_146 (by decide) ?_
        exact hr.1 _ _ _ _ _ dX6_writer_151 h (by rw [mWA, ← hrb, c128, if_pos rfl, hs3])
    · refine r_tsI K 95 152 dX6_writer_57 (by decide) (by decide) (by decide) (by decide) ?_
      refine r_aln K hl 0 dX6_writer_152 rfl rfl ?_
      refine r_get K h ffX6_7 0 rfl rfl dX6_writer_153 ?_
      refine r_iln K hl 3 dX6_writer_156 rfl rfl ?_
      refine r_ic K (nI 4) dX6_writer_157 k_4 ?_
      refine r_addN K dX6_writer_158 ?_
      refine r_ial K h 1 rfl (by omega) (by decide) dX6_writer_159 ?_
      exact hr.1 _ _ _ _ _ dX6_writer_160 h rfl
    · refine r_tsI K 130 187 dX6_writer_57 (by decide) (by decide) (by decide) (by decide) ?_
      refine r_aln K hl 0 dX6_writer_187 rfl rfl ?_
      refine r_get K h ffX6_7 0 rfl rfl dX6_writer_188 ?_
      refine r_iln K hl 3 dX6_writer_191 rfl rfl ?_
      refine r_bp K (nI 6) dX6_writer_192 kb_6 ?_
      refine r_addN K dX6_writer_194 ?_
      refine r_iln K hl 2 dX6_writer_195 rfl rfl ?_
      refine r_addN K dX6_writer_196 ?_
      refine r_ic K (nI 4) dX6_writer_197 k_4 ?_
      refine r_subN K (by omega) dX6_writer_198 ?_
      refine r_ial K h 1 rfl (by omega) (by decide) dX6_writer_199 ?_
      exact hr.1 _ _ _ _ _ dX6_writer_200 h rfl
    · refine r_tsI K 130 187 dX6_writer_57 (by decide) (by decide) (by decide) (by decide) ?_
      refine r_aln K hl 0 dX6_writer_187 rfl rfl ?_
      refine r_get K h ffX6_7 0 rfl rfl dX6_writer_188 ?_
      refine r_iln K hl 3 dX6_writer_191 rfl rfl ?_
      refine r_bp K (nI 6) dX6_writer_192 kb_6 ?_
      refine r_addN K dX6_writer_194 ?_
      refine r_iln K hl 2 dX6_writer_195 rfl rfl ?_
      refine r_addN K dX6_writer_196 ?_
      refine r_ic K (nI 4) dX6_writer_197 k_4 ?_
      refine r_subN K (by omega) dX6_writer_198 ?_
      refine r_ial K h 1 rfl (by omega) (by decide) dX6_writer_199 ?_
      exact hr.1 _ _ _ _ _ dX6_writer_200 h rfl
    · refine r_tsI K 130 187 dX6_writer_57 (by decide) (by decide) (by decide) (by decide) ?_
      refine r_aln K hl 0 dX6_writer_187 rfl rfl ?_
      refine r_get K h ffX6_7 0 rfl rfl dX6_writer_188 ?_
      refine r_iln K hl 3 dX6_writer_191 rfl rfl ?_
      refine r_bp K (nI 6) dX6_writer_192 kb_6 ?_
      refine r_addN K dX6_writer_194 ?_
      refine r_iln K hl 2 dX6_writer_195 rfl rfl ?_
      refine r_addN K dX6_writer_196 ?_
      refine r_ic K (nI 4) dX6_writer_197 k_4 ?_
      refine r_subN K (by omega) dX6_writer_198 ?_
      refine r_ial K h 1 rfl (by omega) (by decide) dX6_writer_199 ?_
      exact hr.1 _ _ _ _ _ dX6_writer_200 h rfl
    · refine r_tsI K 130 187 dX6_writer_57 (by decide) (by decide) (by decide) (by decide) ?_
      refine r_aln K hl 0 dX6_writer_187 rfl rfl ?_
      refine r_get K h ffX6_7 0 rfl rfl dX6_writer_188 ?_
      refine r_iln K hl 3 dX6_writer_191 rfl rfl ?_
      refine r_bp K (nI 6) dX6_writer_192 kb_6 ?_
      refine r_addN K dX6_writer_194 ?_
      refine r_iln K hl 2 dX6_writer_195 rfl rfl ?_
      refine r_addN K dX6_writer_196 ?_
      refine r_ic K (nI 4) dX6_writer_197 k_4 ?_
      refine r_subN K (by omega) dX6_writer_198 ?_
      refine r_ial K h 1 rfl (by omega) (by decide) dX6_writer_199 ?_
      exact hr.1 _ _ _ _ _ dX6_writer_200 h rfl
    · refine r_tsI K 104 161 dX6_writer_57 (by decide) (by decide) (by decide) (by decide) ?_
      refine r_aln K hl 0 dX6_writer_161 rfl rfl ?_
      refine r_get K h ffX6_7 0 rfl rfl dX6_writer_162 ?_
      refine r_iln K hl 3 dX6_writer_165 rfl rfl ?_
      refine r_ic K (nI 0) dX6_writer_166 k_0 ?_
      refine r_addN K dX6_writer_167 ?_
      refine r_ial K h 1 rfl (by omega) (by decide) dX6_writer_168 ?_
      refine r_ic K (nI 2) dX6_writer_169 k_2 ?_
      refine r_cne K 184 dX6_writer_170 (by decide) (fun c170 => ?_) (fun c170 => ?_)
      · refine r_bp K (-9) dX6_writer_184 kb_m9 ?_
        exact hr.1 _ _ _ _ _ dX6_writer_186 h (by rw [mWA, if_neg c170])
      · refine r_aln K hl 0 dX6_writer_173 rfl rfl ?_
        refine r_get K h ffX6_7 0 rfl rfl dX6_writer_174 ?_
        refine r_iln K hl 3 dX6_writer_177 rfl rfl ?_
        refine r_ic K (nI 1) dX6_writer_178 k_1 ?_
        refine r_addN K dX6_writer_179 ?_
        refine r_ial K h 1 rfl (by omega) (by decide) dX6_writer_180 ?_
        refine r_go K 186 dX6_writer_181 (by decide) ?_
        exact hr.1 _ _ _ _ _ dX6_writer_186 h (by rw [mWA, if_pos c170])
  refine r_zneB K 53 dX6_writer_35 (by decide) (fun c35 => ?_) (fun c35 => ?_)
  · refine r_ic K (nI 0) dX6_writer_53 k_0 ?_
    exact J false (by rw [rdB, decide_eq_false (fun q => q (of_decide_eq_true c35))]; rfl)
  · refine r_aln K hl 0 dX6_writer_38 rfl rfl ?_
    refine r_get K h ffX6_7 0 rfl rfl dX6_writer_39 ?_
    refine r_iln K hl 3 dX6_writer_42 rfl rfl ?_
    refine r_ic K (nI 5) dX6_writer_43 k_5 ?_
    refine r_addN K dX6_writer_44 ?_
    refine r_ial K h 1 rfl (by omega) (by decide) dX6_writer_45 ?_
    refine r_zne K 53 dX6_writer_46 (by decide) (fun c46 => ?_) (fun c46 => ?_)
    · refine r_ic K (nI 0) dX6_writer_53 k_0 ?_
      exact J false (by rw [rdB, decide_eq_false c46, Bool.and_false])
    · refine r_ic K (nI 1) dX6_writer_49 k_1 ?_
      refine r_go K 54 dX6_writer_50 (by decide) ?_
      exact J true (by rw [rdB, decide_eq_true c46, decide_eq_true (of_decide_eq_false c35)]; rfl)

set_option maxHeartbeats 4000000 in
set_option maxRecDepth 100000 in
theorem c_X6_read_bad (l : Launch) (g : GG) (a : Nat → Nat) (th um sm : Int32) (f fw fp fi fk fs ft : Row) (n : Nat) (hn1 : 1 ≤ n) (hn : n ≤ 4) (h0 : f 0 = nI n) (x y v : Int32) (hb : (inB x (nI 0) (nI (n - 1)) && (inB y (nI 0) (nI (n - 1)) && inB v (nI 0) (nI 1))) = false) : Ct l g yX6_read cX6_read 6 (some .int) 2 [.ref (a 0), .int x, .int y, .int v] (mW g a (th) (um) (sm) (f) (fw) (fp) (fi) (fk) (fs) (ft)) (some (.int (-1))) (mW g a (nI 0) (um) (sm) (f) (fw) (fp) (fi) (fk) (fs) (ft)) := by
  refine Ct.start (by decide +kernel) (Nat.le_of_ble_eq_true rfl) (by simp [Value.category]) (Or.inr ⟨.int, _, rfl, rfl, rfl⟩) ?_
  intro p0 e R s m args below meth c A Q K hr h ls hl
  have hl : Lq ls 6 [some (.ref (a 0)), some (.int x), some (.int y), some (.int v), none, none] := hl
  refine r_aln K hl 0 dX6_read_0 rfl rfl ?_
  refine r_ic K (nI 0) dX6_read_1 k_0 ?_
  refine r_put K h ffX6_36 pfX6_0 0 [_, _, _, _, _, _, _, _, _, _] [_, _, _, _, _, _, _, _] rfl rfl rfl (Nat.le_of_ble_eq_true rfl) rfl rfl dX6_read_2 (fun H locs h => ?_)
  refine r_aln K hl 0 dX6_read_5 rfl rfl ?_
  refine r_iln K hl 1 dX6_read_6 rfl rfl ?_
  refine r_callV K h hl (c_X6_isWriter l g a _ _ _ f n x hn1 h0) mc_X6_isWriter vm_X6_isWriter mlX6_86 0 rfl rfl rfl [0, 1] rfl rfl rfl [_, _, _, _, _, _, _, _] rfl (by decide) (by decide) rfl rfl (Nat.le_of_ble_eq_true rfl) ⟨Nat.zero_le _, Nat.zero_le _⟩ dX6_read_7 (fun H locs h => ?_)
  refine W.eq (g2 := F0 m 10 ls [_]) rfl ?_
  refine r_zeqB K 30 dX6_read_10 (by decide) (fun c10 => ?_) (fun c10 => ?_)
  · refine r_ic K (-1) dX6_read_30 k_m1 ?_
    exact hr.1 _ _ _ _ _ dX6_read_31 h rfl
  · refine r_aln K hl 0 dX6_read_13 rfl rfl ?_
    refine r_iln K hl 2 dX6_read_14 rfl rfl ?_
    refine r_callV K h hl (c_X6_isCell l g a _ _ _ f n y hn1 h0) mc_X6_isCell vm_X6_isCell mlX6_96 0 rfl rfl rfl [0, 1] rfl rfl rfl [_, _, _, _, _, _, _, _] rfl (by decide) (by decide) rfl rfl (Nat.le_of_ble_eq_true rfl) ⟨Nat.zero_le _, Nat.zero_le _⟩ dX6_read_15 (fun H locs h => ?_)
    refine W.eq (g2 := F0 m 18 ls [_]) rfl ?_
    refine r_zeqB K 30 dX6_read_18 (by decide) (fun c18 => ?_) (fun c18 => ?_)
    · refine r_ic K (-1) dX6_read_30 k_m1 ?_
      exact hr.1 _ _ _ _ _ dX6_read_31 h rfl
    · refine r_iln K hl 3 dX6_read_21 rfl rfl ?_
      refine r_ic K (nI 0) dX6_read_22 k_0 ?_
      refine r_ic K (nI 1) dX6_read_23 k_1 ?_
      refine r_callS K h hl (c_X6_in l g v (nI 0) (nI 1)) mc_X6_in st_X6_in mlX6_69 [] rfl rfl rfl [_, _, _, _, _, _, _, _] rfl (by decide) (by decide) rfl rfl (Nat.le_of_ble_eq_true rfl) ⟨Nat.zero_le _, Nat.zero_le _⟩ dX6_read_24 (fun H locs h => ?_)
      refine W.eq (g2 := F0 m 27 ls [_]) rfl ?_
      refine r_zneB K 32 dX6_read_27 (by decide) (fun c27 => ?_) (fun c27 => ?_)
      · exact absurd hb (by rw [c10, c18, c27]; decide)
      · refine r_ic K (-1) dX6_read_30 k_m1 ?_
        exact hr.1 _ _ _ _ _ dX6_read_31 h rfl

set_option maxHeartbeats 4000000 in
set_option maxRecDepth 100000 in
theorem c_X6_read_ok (l : Launch) (g : GG) (a : Nat → Nat) (th um sm : Int32) (f fw fp fi fk fs ft : Row) (n mv p q k : Nat) (hx : WFx f n mv) (hp : p < n) (hq : q < n) (hk : k ≤ 1) : Ct l g yX6_read cX6_read 6 (some .int) 2 [.ref (a 0), .int (nI p), .int (nI q), .int (nI k)] (mW g a (th) (um) (sm) (f) (fw) (fp) (fi) (fk) (fs) (ft)) (some (.int (mRA f n p q k))) (mW g a (nI 0) (um) (sm) (f) (fw) (fp) (fi) (fk) (fs) (ft)) := by
  refine Ct.start (by decide +kernel) (Nat.le_of_ble_eq_true rfl) (by simp [Value.category]) (Or.inr ⟨.int, _, rfl, rfl, rfl⟩) ?_
  intro p0 e R s m args below meth c A Q K hr h ls hl
  have hl : Lq ls 6 [some (.ref (a 0)), some (.int (nI p)), some (.int (nI q)), some (.int (nI k)), none, none] := hl
  have hx1 := hx
  obtain ⟨ph0, wr0, ⟨⟨hn2, hn, -⟩, h0, -⟩⟩ := hx1
  have hn1 : 1 ≤ n := by omega
  refine r_aln K hl 0 dX6_read_0 rfl rfl ?_
  refine r_ic K (nI 0) dX6_read_1 k_0 ?_
  refine r_put K h ffX6_36 pfX6_0 0 [_, _, _, _, _, _, _, _, _, _] [_, _, _, _, _, _, _, _] rfl rfl rfl (Nat.le_of_ble_eq_true rfl) rfl rfl dX6_read_2 (fun H locs h => ?_)
  refine r_aln K hl 0 dX6_read_5 rfl rfl ?_
  refine r_iln K hl 1 dX6_read_6 rfl rfl ?_
  refine r_callV K h hl (c_X6_isWriter l g a _ _ _ f n (nI p) hn1 h0) mc_X6_isWriter vm_X6_isWriter mlX6_86 0 rfl rfl rfl [0, 1] rfl rfl rfl [_, _, _, _, _, _, _, _] rfl (by decide) (by decide) rfl rfl (Nat.le_of_ble_eq_true rfl) ⟨Nat.zero_le _, Nat.zero_le _⟩ dX6_read_7 (fun H locs h => ?_)
  refine W.eq (g2 := F0 m 10 ls [_]) rfl ?_
  refine r_zeqB K 30 dX6_read_10 (by decide) (fun c => absurd (((inB_of (Nat.zero_le p) (by omega) (by omega))).symm.trans c) (by decide)) (fun _ => ?_)
  refine r_aln K hl 0 dX6_read_13 rfl rfl ?_
  refine r_iln K hl 2 dX6_read_14 rfl rfl ?_
  refine r_callV K h hl (c_X6_isCell l g a _ _ _ f n (nI q) hn1 h0) mc_X6_isCell vm_X6_isCell mlX6_96 0 rfl rfl rfl [0, 1] rfl rfl rfl [_, _, _, _, _, _, _, _] rfl (by decide) (by decide) rfl rfl (Nat.le_of_ble_eq_true rfl) ⟨Nat.zero_le _, Nat.zero_le _⟩ dX6_read_15 (fun H locs h => ?_)
  refine W.eq (g2 := F0 m 18 ls [_]) rfl ?_
  refine r_zeqB K 30 dX6_read_18 (by decide) (fun c => absurd (((inB_of (Nat.zero_le q) (by omega) (by omega))).symm.trans c) (by decide)) (fun _ => ?_)
  refine r_iln K hl 3 dX6_read_21 rfl rfl ?_
  refine r_ic K (nI 0) dX6_read_22 k_0 ?_
  refine r_ic K (nI 1) dX6_read_23 k_1 ?_
  refine r_callS K h hl (c_X6_in l g (nI k) (nI 0) (nI 1)) mc_X6_in st_X6_in mlX6_69 [] rfl rfl rfl [_, _, _, _, _, _, _, _] rfl (by decide) (by decide) rfl rfl (Nat.le_of_ble_eq_true rfl) ⟨Nat.zero_le _, Nat.zero_le _⟩ dX6_read_24 (fun H locs h => ?_)
  refine W.eq (g2 := F0 m 27 ls [_]) rfl ?_
  refine r_zneB K 32 dX6_read_27 (by decide) (fun _ => ?_) (fun c => absurd (((inB_of (Nat.zero_le k) hk (by omega))).symm.trans c) (by decide))
  refine r_iln K hl 1 dX6_read_32 rfl rfl ?_
  refine r_callS K h hl (c_X6_writerAt l g p) mc_X6_writerAt st_X6_writerAt mlX6_40 [] rfl rfl rfl [_, _, _, _, _, _, _, _] rfl (by decide) (by decide) rfl rfl (Nat.le_of_ble_eq_true rfl) ⟨Nat.zero_le _, Nat.zero_le _⟩ dX6_read_33 (fun H locs h => ?_)
  refine W.eq (g2 := F0 m 36 ls [_]) rfl ?_
  refine r_is K hl 4 [_, _, _, _, _, _] dX6_read_36 (by decide) rfl (fun ls hl => ?_)
  refine r_aln K hl 0 dX6_read_38 rfl rfl ?_
  refine r_iln K hl 1 dX6_read_39 rfl rfl ?_
  refine r_callV K h hl (c_X6_isIdle l g a _ _ _ f p (by omega)) mc_X6_isIdle vm_X6_isIdle mlX6_79 0 rfl rfl rfl [0, 1] rfl rfl rfl [_, _, _, _, _, _, _, _] rfl (by decide) (by decide) rfl rfl (Nat.le_of_ble_eq_true rfl) ⟨Nat.zero_le _, Nat.zero_le _⟩ dX6_read_40 (fun H locs h => ?_)
  refine W.eq (g2 := F0 m 43 ls [_]) rfl ?_
  have J : ∀ rb : Bool, (rb = true ↔ rdB f p = true ∧ q < rSt f p % n) → W p0 l e R s m args below meth c H locs 0 0 Q (F0 m 83 ls [.int (bI rb)]) := by
    intro rb hrb
    refine r_is K hl 5 [_, _, _, _, _, _] dX6_read_83 (by decide) rfl (fun ls hl => ?_)
    refine r_il K hl 5 dX6_read_85 rfl ?_
    refine r_zeqB K 110 dX6_read_87 (by decide) (fun c87 => ?_) (fun c87 => ?_)
    · refine r_bp K (-9) dX6_read_110 kb_m9 ?_
      exact hr.1 _ _ _ _ _ dX6_read_112 h (by rw [mRA, if_neg (fun q => absurd (c87.symm.trans (hrb.mpr q)) (by decide))])
    · refine r_aln K hl 0 dX6_read_90 rfl rfl ?_
      refine r_get K h ffX6_7 0 rfl rfl dX6_read_91 ?_
      refine r_il K hl 4 dX6_read_94 rfl ?_
      refine r_bp K (nI 14) dX6_read_96 kb_14 ?_
      refine r_addN K dX6_read_98 ?_
      refine r_bp K (nI 6) dX6_read_99 kb_6 ?_
      refine r_iln K hl 2 dX6_read_101 rfl rfl ?_
      refine r_mulN K dX6_read_102 ?_
      refine r_addN K dX6_read_103 ?_
      refine r_iln K hl 3 dX6_read_104 rfl rfl ?_
      refine r_addN K dX6_read_105 ?_
      refine r_ial K h 1 rfl (by omega) (by decide) dX6_read_106 ?_
      refine r_go K 112 dX6_read_107 (by decide) ?_
      exact hr.1 _ _ _ _ _ dX6_read_112 h (by rw [mRA, if_pos (hrb.mp c87)])
  refine r_zneB K 82 dX6_read_43 (by decide) (fun c43 => ?_) (fun c43 => ?_)
  · refine r_ic K (nI 0) dX6_read_82 k_0 ?_
    exact J false ⟨(fun h => by cases h), fun h => absurd h.1 (by rw [rdB, decide_eq_false (fun q => q (of_decide_eq_true c43)), Bool.false_and]; decide)⟩
  · refine r_aln K hl 0 dX6_read_46 rfl rfl ?_
    refine r_get K h ffX6_7 0 rfl rfl dX6_read_47 ?_
    refine r_il K hl 4 dX6_read_50 rfl ?_
    refine r_ic K (nI 5) dX6_read_52 k_5 ?_
    refine r_addN K dX6_read_53 ?_
    refine r_ial K h 1 rfl (by omega) (by decide) dX6_read_54 ?_
    refine r_zne K 82 dX6_read_55 (by decide) (fun c55 => ?_) (fun c55 => ?_)
    · refine r_ic K (nI 0) dX6_read_82 k_0 ?_
      exact J false ⟨(fun h => by cases h), fun h => absurd h.1 (by rw [rdB, decide_eq_false c55, Bool.and_false]; decide)⟩
    · obtain ⟨st, hs1, hs2, hs3⟩ := hx.st hp (of_decide_eq_false c43)
      have hmod : st % n < n := Nat.mod_lt _ (by omega)
      refine r_aln K hl 0 dX6_read_58 rfl rfl ?_
      refine r_get K h ffX6_7 0 rfl rfl dX6_read_59 ?_
      refine r_il K hl 4 dX6_read_62 rfl ?_
      refine r_ic K (nI 2) dX6_read_64 k_2 ?_
      refine r_addN K dX6_read_65 ?_
      refine r_ialE K h 1 rfl (by omega) (by decide) hs2 dX6_read_66 ?_
      refine r_aln K hl 0 dX6_read_67 rfl rfl ?_
      refine r_get K h ffX6_7 0 rfl rfl dX6_read_68 ?_
      refine r_ic K (nI 0) dX6_read_71 k_0 ?_
      refine r_ialE K h 1 rfl (by omega) (by decide) h0 dX6_read_72 ?_
      refine r_remN K (by omega) (by omega) (by omega) dX6_read_73 ?_
      refine r_iln K hl 2 dX6_read_74 rfl rfl ?_
      refine r_cleN K 82 dX6_read_75 (by decide) (by omega) (by omega) (fun c75 => ?_) (fun c75 => ?_)
      · refine r_ic K (nI 0) dX6_read_82 k_0 ?_
        exact J false ⟨(fun h => by cases h), fun h => absurd h.2 (by rw [hs3]; omega)⟩
      · refine r_ic K (nI 1) dX6_read_78 k_1 ?_
        refine r_go K 83 dX6_read_79 (by decide) ?_
        exact J true ⟨fun _ => ⟨by rw [rdB, decide_eq_true c55, decide_eq_true (of_decide_eq_false c43)]; rfl, by rw [hs3]; omega⟩, fun _ => rfl⟩

set_option maxHeartbeats 4000000 in
set_option maxRecDepth 100000 in
theorem c_X6_valueAt (l : Launch) (g : GG) (a : Nat → Nat) (th um sm : Int32) (f : Row) (q wr : Nat) (t : Int32) (h6 : f 6 = nI wr) (hwr : wr ≤ 24) : Ct l g yX6_valueAt cX6_valueAt 6 (some .int) 0 [.ref (a 0), .int (nI q), .int t] [mOb a th um sm, aI g (a 1) 512 f] (some (.int (vAt f q t wr))) [mOb a th um sm, aI g (a 1) 512 f] := by
  refine Ct.start (by decide +kernel) (Nat.le_of_ble_eq_true rfl) (by simp [Value.category]) (Or.inr ⟨.int, _, rfl, rfl, rfl⟩) ?_
  intro p0 e R s m args below meth c A Q K hr h ls hl
  have hl : Lq ls 6 [some (.ref (a 0)), some (.int (nI q)), some (.int t), none, none, none] := hl
  refine r_ic K (nI 0) dX6_valueAt_0 k_0 ?_
  refine r_isn K hl 3 [_, _, _, _, _, _] dX6_valueAt_1 rfl (by decide) rfl (fun ls hl => ?_)
  refine r_ic K (nI 0) dX6_valueAt_2 k_0 ?_
  refine r_is K hl 4 [_, _, _, _, _, _] dX6_valueAt_3 (by decide) rfl (fun ls hl => ?_)
  have loop : ∀ (j k : Nat) (x : Option Value), k + j = wr → ∀ (H : Heap) (locs : List Loc), Hp g A s H locs [mOb a th um sm, aI g (a 1) 512 f] → ∀ ls, Lq ls 6 [some (.ref (a 0)), some (.int (nI q)), some (.int t), some (.int (vAt f q t k)), some (.int (nI k)), x] → W p0 l e R s m args below meth c H locs 0 0 Q (F0 m 5 ls []) := by
    intro j
    induction j with
    | zero =>
      intro k x hk H locs h ls hl
      obtain rfl : k = wr := by omega
      refine r_il K hl 4 dX6_valueAt_5 rfl ?_
      refine r_aln K hl 0 dX6_valueAt_7 rfl rfl ?_
      refine r_get K h ffX6_7 0 rfl rfl dX6_valueAt_8 ?_
      refine r_bp K (nI 6) dX6_valueAt_11 kb_6 ?_
      refine r_ialE K h 1 rfl (by omega) (by decide) h6 dX6_valueAt_13 ?_
      refine r_cgeN K 71 dX6_valueAt_14 (by decide) (by omega) (by omega) (fun c14 => ?_) (fun c => absurd c (by omega))
      refine r_iln K hl 3 dX6_valueAt_71 rfl rfl ?_
      exact hr.1 _ _ _ _ _ dX6_valueAt_72 h rfl
    | succ j ih =>
      intro k x hk H locs h ls hl
      refine r_il K hl 4 dX6_valueAt_5 rfl ?_
      refine r_aln K hl 0 dX6_valueAt_7 rfl rfl ?_
      refine r_get K h ffX6_7 0 rfl rfl dX6_valueAt_8 ?_
      refine r_bp K (nI 6) dX6_valueAt_11 kb_6 ?_
      refine r_ialE K h 1 rfl (by omega) (by decide) h6 dX6_valueAt_13 ?_
      refine r_cgeN K 71 dX6_valueAt_14 (by decide) (by omega) (by omega) (fun c => absurd c (by omega)) (fun c14 => ?_)
      refine r_sp K (nI 440) dX6_valueAt_17 ks_440 ?_
      refine r_ic K (nI 3) dX6_valueAt_20 k_3 ?_
      refine r_il K hl 4 dX6_valueAt_21 rfl ?_
      refine r_mulN K dX6_valueAt_23 ?_
      refine r_addN K dX6_valueAt_24 ?_
      refine r_is K hl 5 [_, _, _, _, _, _] dX6_valueAt_25 (by decide) rfl (fun ls hl => ?_)
      refine r_aln K hl 0 dX6_valueAt_27 rfl rfl ?_
      refine r_get K h ffX6_7 0 rfl rfl dX6_valueAt_28 ?_
      refine r_il K hl 5 dX6_valueAt_31 rfl ?_
      refine r_ial K h 1 rfl (by omega) (by decide) dX6_valueAt_33 ?_
      refine r_iln K hl 2 dX6_valueAt_34 rfl rfl ?_
      refine r_cgt K 63 dX6_valueAt_35 (by decide) (fun c35 => ?_) (fun c35 => ?_)
      · refine r_iln K hl 3 dX6_valueAt_63 rfl rfl ?_
        refine r_isn K hl 3 [_, _, _, _, _, _] dX6_valueAt_64 rfl (by decide) rfl (fun ls hl => ?_)
        refine r_incN K hl (k := 1) [_, _, _, _, _, _] dX6_valueAt_65 rfl (by decide) rfl (fun ls hl => ?_)
        refine r_go K 5 dX6_valueAt_68 (by decide) ?_
        rw [show vAt f q t k = vAt f q t (k + 1) by rw [vAt, if_neg (fun q => absurd q.1 (Int32.not_le.mpr c35))]] at hl
        exact ih (k + 1) _ (by omega) _ _ h _ hl
      · refine r_aln K hl 0 dX6_valueAt_38 rfl rfl ?_
        refine r_get K h ffX6_7 0 rfl rfl dX6_valueAt_39 ?_
        refine r_il K hl 5 dX6_valueAt_42 rfl ?_
        refine r_ic K (nI 1) dX6_valueAt_44 k_1 ?_
        refine r_addN K dX6_valueAt_45 ?_
        refine r_ial K h 1 rfl (by omega) (by decide) dX6_valueAt_46 ?_
        refine r_iln K hl 1 dX6_valueAt_47 rfl rfl ?_
        refine r_cne K 63 dX6_valueAt_48 (by decide) (fun c48 => ?_) (fun c48 => ?_)
        · refine r_iln K hl 3 dX6_valueAt_63 rfl rfl ?_
          refine r_isn K hl 3 [_, _, _, _, _, _] dX6_valueAt_64 rfl (by decide) rfl (fun ls hl => ?_)
          refine r_incN K hl (k := 1) [_, _, _, _, _, _] dX6_valueAt_65 rfl (by decide) rfl (fun ls hl => ?_)
          refine r_go K 5 dX6_valueAt_68 (by decide) ?_
          rw [show vAt f q t k = vAt f q t (k + 1) by rw [vAt, if_neg (fun q => c48 q.2)]] at hl
          exact ih (k + 1) _ (by omega) _ _ h _ hl
        · refine r_aln K hl 0 dX6_valueAt_51 rfl rfl ?_
          refine r_get K h ffX6_7 0 rfl rfl dX6_valueAt_52 ?_
          refine r_il K hl 5 dX6_valueAt_55 rfl ?_
          refine r_ic K (nI 2) dX6_valueAt_57 k_2 ?_
          refine r_addN K dX6_valueAt_58 ?_
          refine r_ial K h 1 rfl (by omega) (by decide) dX6_valueAt_59 ?_
          refine r_go K 64 dX6_valueAt_60 (by decide) ?_
          refine r_isn K hl 3 [_, _, _, _, _, _] dX6_valueAt_64 rfl (by decide) rfl (fun ls hl => ?_)
          refine r_incN K hl (k := 1) [_, _, _, _, _, _] dX6_valueAt_65 rfl (by decide) rfl (fun ls hl => ?_)
          refine r_go K 5 dX6_valueAt_68 (by decide) ?_
          rw [show f (440 + 3 * k + 2) = vAt f q t (k + 1) by rw [vAt, if_pos ⟨Int32.not_lt.mp c35, c48⟩]] at hl
          exact ih (k + 1) _ (by omega) _ _ h _ hl
  exact loop wr 0 none (by omega) _ _ h _ hl

set_option maxHeartbeats 4000000 in
set_option maxRecDepth 100000 in
theorem c_X6_momentOf (l : Launch) (g : GG) (a : Nat → Nat) (th um sm : Int32) (f : Row) (n i wr bg en : Nat) (hi : i < 24) (hn : n ≤ 4) (h0 : f 0 = nI n) (h6 : f 6 = nI wr) (hwr : wr ≤ 24) (hbg : f (200 + 10 * i + 1) = nI bg) (hen : f (200 + 10 * i + 2) = nI en) (hle : bg ≤ en) (hbd : en < 1000000) : Ct l g yX6_momentOf cX6_momentOf 6 (some .int) 1 [.ref (a 0), .int (nI i)] [mOb a th um sm, aI g (a 1) 512 f] (some (.int (momG f wr n i bg (en + 1 - bg)))) [mOb a th um sm, aI g (a 1) 512 f] := by
  refine Ct.start (by decide +kernel) (Nat.le_of_ble_eq_true rfl) (by simp [Value.category]) (Or.inr ⟨.int, _, rfl, rfl, rfl⟩) ?_
  intro p0 e R s m args below meth c A Q K hr h ls hl
  have hl : Lq ls 6 [some (.ref (a 0)), some (.int (nI i)), none, none, none, none] := hl
  refine r_sp K (nI 200) dX6_momentOf_0 ks_200 ?_
  refine r_bp K (nI 10) dX6_momentOf_3 kb_10 ?_
  refine r_iln K hl 1 dX6_momentOf_5 rfl rfl ?_
  refine r_mulN K dX6_momentOf_6 ?_
  refine r_addN K dX6_momentOf_7 ?_
  refine r_isn K hl 2 [_, _, _, _, _, _] dX6_momentOf_8 rfl (by decide) rfl (fun ls hl => ?_)
  refine r_aln K hl 0 dX6_momentOf_9 rfl rfl ?_
  refine r_get K h ffX6_7 0 rfl rfl dX6_momentOf_10 ?_
  refine r_iln K hl 2 dX6_momentOf_13 rfl rfl ?_
  refine r_ic K (nI 1) dX6_momentOf_14 k_1 ?_
  refine r_addN K dX6_momentOf_15 ?_
  refine r_ialE K h 1 rfl (by omega) (by decide) hbg dX6_momentOf_16 ?_
  refine r_isn K hl 3 [_, _, _, _, _, _] dX6_momentOf_17 rfl (by decide) rfl (fun ls hl => ?_)
  have loop : ∀ (j t : Nat) (x y : Option Value), t + j = en + 1 → momG f wr n i t j = momG f wr n i bg (en + 1 - bg) → ∀ (H : Heap) (locs : List Loc), Hp g A s H locs [mOb a th um sm, aI g (a 1) 512 f] → ∀ ls, Lq ls 6 [some (.ref (a 0)), some (.int (nI i)), some (.int (nI (200 + 10 * i))), some (.int (nI t)), x, y] → W p0 l e R s m args below meth c H locs 0 0 Q (F0 m 18 ls []) := by
    intro j
    induction j with
    | zero =>
      intro t x y hk e1 H locs h ls hl
      refine r_iln K hl 3 dX6_momentOf_18 rfl rfl ?_
      refine r_aln K hl 0 dX6_momentOf_19 rfl rfl ?_
      refine r_get K h ffX6_7 0 rfl rfl dX6_momentOf_20 ?_
      refine r_iln K hl 2 dX6_momentOf_23 rfl rfl ?_
      refine r_ic K (nI 2) dX6_momentOf_24 k_2 ?_
      refine r_addN K dX6_momentOf_25 ?_
      refine r_ialE K h 1 rfl (by omega) (by decide) hen dX6_momentOf_26 ?_
      refine r_cgtN K 100 dX6_momentOf_27 (by decide) (by omega) (by omega) (fun c27 => ?_) (fun c => absurd c (by omega))
      refine r_bp K (-9) dX6_momentOf_100 kb_m9 ?_
      exact hr.1 _ _ _ _ _ dX6_momentOf_102 h (by rw [← e1]; rfl)
    | succ j ih =>
      intro t x y hk e1 H locs h ls hl
      refine r_iln K hl 3 dX6_momentOf_18 rfl rfl ?_
      refine r_aln K hl 0 dX6_momentOf_19 rfl rfl ?_
      refine r_get K h ffX6_7 0 rfl rfl dX6_momentOf_20 ?_
      refine r_iln K hl 2 dX6_momentOf_23 rfl rfl ?_
      refine r_ic K (nI 2) dX6_momentOf_24 k_2 ?_
      refine r_addN K dX6_momentOf_25 ?_
      refine r_ialE K h 1 rfl (by omega) (by decide) hen dX6_momentOf_26 ?_
      refine r_cgtN K 100 dX6_momentOf_27 (by decide) (by omega) (by omega) (fun c => absurd c (by omega)) (fun c27 => ?_)
      refine r_ic K (nI 1) dX6_momentOf_30 k_1 ?_
      refine r_is K hl 4 [_, _, _, _, _, _] dX6_momentOf_31 (by decide) rfl (fun ls hl => ?_)
      refine r_ic K (nI 0) dX6_momentOf_33 k_0 ?_
      refine r_is K hl 5 [_, _, _, _, _, _] dX6_momentOf_34 (by decide) rfl (fun ls hl => ?_)
      have J : ∀ (ls : Array Slot) (y' : Option Value) (H : Heap) (locs : List Loc), Hp g A s H locs [mOb a th um sm, aI g (a 1) 512 f] → Lq ls 6 [some (.ref (a 0)), some (.int (nI i)), some (.int (nI (200 + 10 * i))), some (.int (nI t)), some (.int (bI (okK f wr i t n))), y'] → W p0 l e R s m args below meth c H locs 0 0 Q (F0 m 87 ls []) := by
        intro ls y' H locs h hl
        refine r_il K hl 4 dX6_momentOf_87 rfl ?_
        refine r_zeqB K 94 dX6_momentOf_89 (by decide) (fun c89 => ?_) (fun c89 => ?_)
        · refine r_incN K hl (k := 1) [_, _, _, _, _, _] dX6_momentOf_94 rfl (by decide) rfl (fun ls hl => ?_)
          refine r_go K 18 dX6_momentOf_97 (by decide) ?_
          exact ih (t + 1) _ _ (by omega) (by rw [← e1, momG, if_neg (by rw [c89]; decide)]) _ _ h _ hl
        · refine r_iln K hl 3 dX6_momentOf_92 rfl rfl ?_
          exact hr.1 _ _ _ _ _ dX6_momentOf_93 h (by rw [← e1, momG, if_pos c89])
      have loop2 : ∀ (j2 k2 : Nat), k2 + j2 = n → ∀ (H : Heap) (locs : List Loc), Hp g A s H locs [mOb a th um sm, aI g (a 1) 512 f] → ∀ ls, Lq ls 6 [some (.ref (a 0)), some (.int (nI i)), some (.int (nI (200 + 10 * i))), some (.int (nI t)), some (.int (bI (okK f wr i t k2))), some (.int (nI k2))] → W p0 l e R s m args below meth c H locs 0 0 Q (F0 m 36 ls []) := by
        intro j2
        induction j2 with
        | zero =>
          intro k2 hk2 H locs h ls hl
          obtain rfl : k2 = n := by omega
          refine r_il K hl 5 dX6_momentOf_36 rfl ?_
          refine r_aln K hl 0 dX6_momentOf_38 rfl rfl ?_
          refine r_get K h ffX6_7 0 rfl rfl dX6_momentOf_39 ?_
          refine r_ic K (nI 0) dX6_momentOf_42 k_0 ?_
          refine r_ialE K h 1 rfl (by omega) (by decide) h0 dX6_momentOf_43 ?_
          refine r_cgeN K 87 dX6_momentOf_44 (by decide) (by omega) (by omega) (fun c44 => ?_) (fun c => absurd c (by omega))
          exact J _ _ _ _ h hl
        | succ j2 ih2 =>
          intro k2 hk2 H locs h ls hl
          refine r_il K hl 5 dX6_momentOf_36 rfl ?_
          refine r_aln K hl 0 dX6_momentOf_38 rfl rfl ?_
          refine r_get K h ffX6_7 0 rfl rfl dX6_momentOf_39 ?_
          refine r_ic K (nI 0) dX6_momentOf_42 k_0 ?_
          refine r_ialE K h 1 rfl (by omega) (by decide) h0 dX6_momentOf_43 ?_
          refine r_cgeN K 87 dX6_momentOf_44 (by decide) (by omega) (by omega) (fun c => absurd c (by omega)) (fun c44 => ?_)
          refine r_il K hl 4 dX6_momentOf_47 rfl ?_
          refine r_zeqB K 87 dX6_momentOf_49 (by decide) (fun c49 => ?_) (fun c49 => ?_)
          · rw [show okK f wr i t k2 = okK f wr i t n by rw [c49, ← okK_no (n - k2) k2 c49, show k2 + (n - k2) = n by omega]] at hl
            exact J _ _ _ _ h hl
          · refine r_aln K hl 0 dX6_momentOf_52 rfl rfl ?_
            refine r_il K hl 5 dX6_momentOf_53 rfl ?_
            refine r_iln K hl 3 dX6_momentOf_55 rfl rfl ?_
            refine r_callV K h hl (c_X6_valueAt l g a _ _ _ f k2 wr (nI t) h6 hwr) mc_X6_valueAt vm_X6_valueAt mlX6_99 0 rfl rfl rfl [0, 1] rfl rfl rfl [_, _] rfl (by decide) (by decide) rfl rfl (Nat.le_of_ble_eq_true rfl) ⟨Nat.zero_le _, Nat.zero_le _⟩ dX6_momentOf_56 (fun H locs h => ?_)
            refine W.eq (g2 := F0 m 59 ls [_]) rfl ?_
            refine r_aln K hl 0 dX6_momentOf_59 rfl rfl ?_
            refine r_get K h ffX6_7 0 rfl rfl dX6_momentOf_60 ?_
            refine r_iln K hl 2 dX6_momentOf_63 rfl rfl ?_
            refine r_bp K (nI 6) dX6_momentOf_64 kb_6 ?_
            refine r_addN K dX6_momentOf_66 ?_
            refine r_il K hl 5 dX6_momentOf_67 rfl ?_
            refine r_addN K dX6_momentOf_69 ?_
            refine r_ial K h 1 rfl (by omega) (by decide) dX6_momentOf_70 ?_
            refine r_cne K 78 dX6_momentOf_71 (by decide) (fun c71 => ?_) (fun c71 => ?_)
            · refine r_ic K (nI 0) dX6_momentOf_78 k_0 ?_
              refine r_is K hl 4 [_, _, _, _, _, _] dX6_momentOf_79 (by decide) rfl (fun ls hl => ?_)
              refine r_incN K hl (k := 1) [_, _, _, _, _, _] dX6_momentOf_81 rfl (by decide) rfl (fun ls hl => ?_)
              refine r_go K 36 dX6_momentOf_84 (by decide) ?_
              exact ih2 (k2 + 1) (by omega) _ _ h _ (by rw [okK, decide_eq_false c71, Bool.and_false]; exact hl)
            · refine r_ic K (nI 1) dX6_momentOf_74 k_1 ?_
              refine r_go K 79 dX6_momentOf_75 (by decide) ?_
              refine r_is K hl 4 [_, _, _, _, _, _] dX6_momentOf_79 (by decide) rfl (fun ls hl => ?_)
              refine r_incN K hl (k := 1) [_, _, _, _, _, _] dX6_momentOf_81 rfl (by decide) rfl (fun ls hl => ?_)
              refine r_go K 36 dX6_momentOf_84 (by decide) ?_
              exact ih2 (k2 + 1) (by omega) _ _ h _ (by rw [okK, decide_eq_true c71, c49]; exact hl)
      exact loop2 n 0 (by omega) _ _ h _ hl
  exact loop (en + 1 - bg) bg none none (by omega) rfl _ _ h _ hl
end
section
set_option maxHeartbeats 4000000 in
set_option maxRecDepth 100000 in
theorem c_X6_photo_bad (l : Launch) (g : GG) (a : Nat → Nat) (th um sm : Int32) (f fw fp fi fk fs ft : Row) (ph : Nat) (h5 : f 5 = nI ph) (x v : Int32) (hb : (inB x (nI 0) (nI ph - nI 1) && inB v (nI 0) (nI 10)) = false) : Ct l g yX6_photo cX6_photo 3 (some .int) 1 [.ref (a 0), .int x, .int v] (mW g a (th) (um) (sm) (f) (fw) (fp) (fi) (fk) (fs) (ft)) (some (.int (-1))) (mW g a (nI 0) (um) (sm) (f) (fw) (fp) (fi) (fk) (fs) (ft)) := by
  refine Ct.start (by decide +kernel) (Nat.le_of_ble_eq_true rfl) (by simp [Value.category]) (Or.inr ⟨.int, _, rfl, rfl, rfl⟩) ?_
  intro p0 e R s m args below meth c A Q K hr h ls hl
  have hl : Lq ls 3 [some (.ref (a 0)), some (.int x), some (.int v)] := hl
  refine r_aln K hl 0 dX6_photo_0 rfl rfl ?_
  refine r_ic K (nI 0) dX6_photo_1 k_0 ?_
  refine r_put K h ffX6_36 pfX6_0 0 [_, _, _, _, _, _, _, _, _, _] [_, _, _, _, _, _, _, _] rfl rfl rfl (Nat.le_of_ble_eq_true rfl) rfl rfl dX6_photo_2 (fun H locs h => ?_)
  refine r_iln K hl 1 dX6_photo_5 rfl rfl ?_
  refine r_ic K (nI 0) dX6_photo_6 k_0 ?_
  refine r_aln K hl 0 dX6_photo_7 rfl rfl ?_
  refine r_get K h ffX6_7 0 rfl rfl dX6_photo_8 ?_
  refine r_ic K (nI 5) dX6_photo_11 k_5 ?_
  refine r_ialE K h 1 rfl (by omega) (by decide) h5 dX6_photo_12 ?_
  refine r_ic K (nI 1) dX6_photo_13 k_1 ?_
  refine r_sub K dX6_photo_14 ?_
  refine r_callS K h hl (c_X6_in l g x (nI 0) (nI ph - nI 1)) mc_X6_in st_X6_in mlX6_69 [] rfl rfl rfl [_, _, _, _, _, _, _, _] rfl (by decide) (by decide) rfl rfl (Nat.le_of_ble_eq_true rfl) ⟨Nat.zero_le _, Nat.zero_le _⟩ dX6_photo_15 (fun H locs h => ?_)
  refine W.eq (g2 := F0 m 18 ls [_]) rfl ?_
  refine r_zeqB K 31 dX6_photo_18 (by decide) (fun c18 => ?_) (fun c18 => ?_)
  · refine r_ic K (-1) dX6_photo_31 k_m1 ?_
    exact hr.1 _ _ _ _ _ dX6_photo_32 h rfl
  · refine r_iln K hl 2 dX6_photo_21 rfl rfl ?_
    refine r_ic K (nI 0) dX6_photo_22 k_0 ?_
    refine r_bp K (nI 10) dX6_photo_23 kb_10 ?_
    refine r_callS K h hl (c_X6_in l g v (nI 0) (nI 10)) mc_X6_in st_X6_in mlX6_69 [] rfl rfl rfl [_, _, _, _, _, _, _, _] rfl (by decide) (by decide) rfl rfl (Nat.le_of_ble_eq_true rfl) ⟨Nat.zero_le _, Nat.zero_le _⟩ dX6_photo_25 (fun H locs h => ?_)
    refine W.eq (g2 := F0 m 28 ls [_]) rfl ?_
    refine r_zneB K 33 dX6_photo_28 (by decide) (fun c28 => ?_) (fun c28 => ?_)
    · exact absurd hb (by rw [c18, c28]; decide)
    · refine r_ic K (-1) dX6_photo_31 k_m1 ?_
      exact hr.1 _ _ _ _ _ dX6_photo_32 h rfl

set_option maxHeartbeats 4000000 in
set_option maxRecDepth 100000 in
theorem c_X6_photo_ok (l : Launch) (g : GG) (a : Nat → Nat) (th um sm : Int32) (f fw fp fi fk fs ft : Row) (ph i k : Nat) (h5 : f 5 = nI ph) (hph : ph ≤ 24) (hi : i < ph) (hk : k < 10) : Ct l g yX6_photo cX6_photo 3 (some .int) 1 [.ref (a 0), .int (nI i), .int (nI k)] (mW g a (th) (um) (sm) (f) (fw) (fp) (fi) (fk) (fs) (ft)) (some (.int (f (200 + 10 * i + k)))) (mW g a (nI 0) (um) (sm) (f) (fw) (fp) (fi) (fk) (fs) (ft)) := by
  refine Ct.start (by decide +kernel) (Nat.le_of_ble_eq_true rfl) (by simp [Value.category]) (Or.inr ⟨.int, _, rfl, rfl, rfl⟩) ?_
  intro p0 e R s m args below meth c A Q K hr h ls hl
  have hl : Lq ls 3 [some (.ref (a 0)), some (.int (nI i)), some (.int (nI k))] := hl
  refine r_aln K hl 0 dX6_photo_0 rfl rfl ?_
  refine r_ic K (nI 0) dX6_photo_1 k_0 ?_
  refine r_put K h ffX6_36 pfX6_0 0 [_, _, _, _, _, _, _, _, _, _] [_, _, _, _, _, _, _, _] rfl rfl rfl (Nat.le_of_ble_eq_true rfl) rfl rfl dX6_photo_2 (fun H locs h => ?_)
  refine r_iln K hl 1 dX6_photo_5 rfl rfl ?_
  refine r_ic K (nI 0) dX6_photo_6 k_0 ?_
  refine r_aln K hl 0 dX6_photo_7 rfl rfl ?_
  refine r_get K h ffX6_7 0 rfl rfl dX6_photo_8 ?_
  refine r_ic K (nI 5) dX6_photo_11 k_5 ?_
  refine r_ialE K h 1 rfl (by omega) (by decide) h5 dX6_photo_12 ?_
  refine r_ic K (nI 1) dX6_photo_13 k_1 ?_
  refine r_sub K dX6_photo_14 ?_
  refine r_callS K h hl (c_X6_in l g (nI i) (nI 0) (nI ph - nI 1)) mc_X6_in st_X6_in mlX6_69 [] rfl rfl rfl [_, _, _, _, _, _, _, _] rfl (by decide) (by decide) rfl rfl (Nat.le_of_ble_eq_true rfl) ⟨Nat.zero_le _, Nat.zero_le _⟩ dX6_photo_15 (fun H locs h => ?_)
  refine W.eq (g2 := F0 m 18 ls [_]) rfl ?_
  refine r_zeqB K 31 dX6_photo_18 (by decide) (fun c => absurd (((show inB (nI i) (nI 0) (nI ph - nI 1) = true by rw [pk_sub (by omega)]; exact inB_of (Nat.zero_le i) (by omega) (by omega))).symm.trans c) (by decide)) (fun _ => ?_)
  refine r_iln K hl 2 dX6_photo_21 rfl rfl ?_
  refine r_ic K (nI 0) dX6_photo_22 k_0 ?_
  refine r_bp K (nI 10) dX6_photo_23 kb_10 ?_
  refine r_callS K h hl (c_X6_in l g (nI k) (nI 0) (nI 10)) mc_X6_in st_X6_in mlX6_69 [] rfl rfl rfl [_, _, _, _, _, _, _, _] rfl (by decide) (by decide) rfl rfl (Nat.le_of_ble_eq_true rfl) ⟨Nat.zero_le _, Nat.zero_le _⟩ dX6_photo_25 (fun H locs h => ?_)
  refine W.eq (g2 := F0 m 28 ls [_]) rfl ?_
  refine r_zneB K 33 dX6_photo_28 (by decide) (fun _ => ?_) (fun c => absurd (((inB_of (Nat.zero_le k) (by omega) (by omega))).symm.trans c) (by decide))
  refine r_iln K hl 2 dX6_photo_33 rfl rfl ?_
  refine r_bp K (nI 10) dX6_photo_34 kb_10 ?_
  refine r_cneN K 47 dX6_photo_36 (by decide) (by omega) (by omega) (fun c36 => ?_) (fun c => absurd c (by omega))
  refine r_aln K hl 0 dX6_photo_47 rfl rfl ?_
  refine r_get K h ffX6_7 0 rfl rfl dX6_photo_48 ?_
  refine r_sp K (nI 200) dX6_photo_51 ks_200 ?_
  refine r_bp K (nI 10) dX6_photo_54 kb_10 ?_
  refine r_iln K hl 1 dX6_photo_56 rfl rfl ?_
  refine r_mulN K dX6_photo_57 ?_
  refine r_addN K dX6_photo_58 ?_
  refine r_iln K hl 2 dX6_photo_59 rfl rfl ?_
  refine r_addN K dX6_photo_60 ?_
  refine r_ial K h 1 rfl (by omega) (by decide) dX6_photo_61 ?_
  exact hr.1 _ _ _ _ _ dX6_photo_62 h rfl

set_option maxHeartbeats 4000000 in
set_option maxRecDepth 100000 in
theorem c_X6_photo_mom (l : Launch) (g : GG) (a : Nat → Nat) (th um sm : Int32) (f fw fp fi fk fs ft : Row) (n ph i wr bg en : Nat) (h5 : f 5 = nI ph) (hph : ph ≤ 24) (hi : i < ph) (hn : n ≤ 4) (h0 : f 0 = nI n) (h6 : f 6 = nI wr) (hwr : wr ≤ 24) (hbg : f (200 + 10 * i + 1) = nI bg) (hen : f (200 + 10 * i + 2) = nI en) (hle : bg ≤ en) (hbd : en < 1000000) : Ct l g yX6_photo cX6_photo 3 (some .int) 2 [.ref (a 0), .int (nI i), .int (nI 10)] (mW g a (th) (um) (sm) (f) (fw) (fp) (fi) (fk) (fs) (ft)) (some (.int (mMom f i))) (mW g a (nI 0) (um) (sm) (f) (fw) (fp) (fi) (fk) (fs) (ft)) := by
  refine Ct.start (by decide +kernel) (Nat.le_of_ble_eq_true rfl) (by simp [Value.category]) (Or.inr ⟨.int, _, rfl, rfl, rfl⟩) ?_
  intro p0 e R s m args below meth c A Q K hr h ls hl
  have hl : Lq ls 3 [some (.ref (a 0)), some (.int (nI i)), some (.int (nI 10))] := hl
  refine r_aln K hl 0 dX6_photo_0 rfl rfl ?_
  refine r_ic K (nI 0) dX6_photo_1 k_0 ?_
  refine r_put K h ffX6_36 pfX6_0 0 [_, _, _, _, _, _, _, _, _, _] [_, _, _, _, _, _, _, _] rfl rfl rfl (Nat.le_of_ble_eq_true rfl) rfl rfl dX6_photo_2 (fun H locs h => ?_)
  refine r_iln K hl 1 dX6_photo_5 rfl rfl ?_
  refine r_ic K (nI 0) dX6_photo_6 k_0 ?_
  refine r_aln K hl 0 dX6_photo_7 rfl rfl ?_
  refine r_get K h ffX6_7 0 rfl rfl dX6_photo_8 ?_
  refine r_ic K (nI 5) dX6_photo_11 k_5 ?_
  refine r_ialE K h 1 rfl (by omega) (by decide) h5 dX6_photo_12 ?_
  refine r_ic K (nI 1) dX6_photo_13 k_1 ?_
  refine r_sub K dX6_photo_14 ?_
  refine r_callS K h hl (c_X6_in l g (nI i) (nI 0) (nI ph - nI 1)) mc_X6_in st_X6_in mlX6_69 [] rfl rfl rfl [_, _, _, _, _, _, _, _] rfl (by decide) (by decide) rfl rfl (Nat.le_of_ble_eq_true rfl) ⟨Nat.zero_le _, Nat.zero_le _⟩ dX6_photo_15 (fun H locs h => ?_)
  refine W.eq (g2 := F0 m 18 ls [_]) rfl ?_
  refine r_zeqB K 31 dX6_photo_18 (by decide) (fun c => absurd (((show inB (nI i) (nI 0) (nI ph - nI 1) = true by rw [pk_sub (by omega)]; exact inB_of (Nat.zero_le i) (by omega) (by omega))).symm.trans c) (by decide)) (fun _ => ?_)
  refine r_iln K hl 2 dX6_photo_21 rfl rfl ?_
  refine r_ic K (nI 0) dX6_photo_22 k_0 ?_
  refine r_bp K (nI 10) dX6_photo_23 kb_10 ?_
  refine r_callS K h hl (c_X6_in l g (nI 10) (nI 0) (nI 10)) mc_X6_in st_X6_in mlX6_69 [] rfl rfl rfl [_, _, _, _, _, _, _, _] rfl (by decide) (by decide) rfl rfl (Nat.le_of_ble_eq_true rfl) ⟨Nat.zero_le _, Nat.zero_le _⟩ dX6_photo_25 (fun H locs h => ?_)
  refine W.eq (g2 := F0 m 28 ls [_]) rfl ?_
  refine r_zneB K 33 dX6_photo_28 (by decide) (fun _ => ?_) (fun c => absurd (((inB_of (Nat.zero_le 10) (by omega) (by omega))).symm.trans c) (by decide))
  refine r_iln K hl 2 dX6_photo_33 rfl rfl ?_
  refine r_bp K (nI 10) dX6_photo_34 kb_10 ?_
  refine r_cneN K 47 dX6_photo_36 (by decide) (by omega) (by omega) (fun c => absurd rfl c) (fun c36 => ?_)
  refine r_aln K hl 0 dX6_photo_39 rfl rfl ?_
  refine r_iln K hl 1 dX6_photo_40 rfl rfl ?_
  refine r_callV K h hl (c_X6_momentOf l g a _ _ _ f n i wr bg en (by omega) hn h0 h6 hwr hbg hen hle hbd) mc_X6_momentOf vm_X6_momentOf mlX6_103 0 rfl rfl rfl [0, 1] rfl rfl rfl [_, _, _, _, _, _, _, _] rfl (by decide) (by decide) rfl rfl (Nat.le_of_ble_eq_true rfl) ⟨Nat.zero_le _, Nat.zero_le _⟩ dX6_photo_41 (fun H locs h => ?_)
  refine W.eq (g2 := F0 m 44 ls [_]) rfl ?_
  refine r_go K 62 dX6_photo_44 (by decide) ?_
  exact hr.1 _ _ _ _ _ dX6_photo_62 h (by rw [mMom, rWr_of h6 hwr, rN_of h0 hn, hbg, hen, nI_clamp (by omega), nI_clamp (by omega)])

set_option maxHeartbeats 4000000 in
set_option maxRecDepth 100000 in
theorem c_X6_asNow (l : Launch) (g : GG) (a : Nat → Nat) (th um sm : Int32) (f fw : Row) : Ct l g yX6_asNow cX6_asNow 2 none 0 [.ref (a 0)] [mOb a th um sm, aI g (a 1) 512 f, aI g (a 2) 512 (fw)] none [mOb a th um sm, aI g (a 1) 512 f, aI g (a 2) 512 (f)] := by
  refine Ct.start (by decide +kernel) (Nat.le_of_ble_eq_true rfl) (by simp [Value.category]) (Or.inl ⟨rfl, rfl⟩) ?_
  intro p0 e R s m args below meth c A Q K hr h ls hl
  have hl : Lq ls 2 [some (.ref (a 0)), none] := hl
  refine r_ic K (nI 0) dX6_asNow_0 k_0 ?_
  refine r_isn K hl 1 [_, _] dX6_asNow_1 rfl (by decide) rfl (fun ls hl => ?_)
  have loop : ∀ (j k : Nat), k + j = 512 → ∀ (H : Heap) (locs : List Loc), Hp g A s H locs [mOb a th um sm, aI g (a 1) 512 f, aI g (a 2) 512 (va_cpy f fw 0 0 k)] → ∀ ls, Lq ls 2 [some (.ref (a 0)), some (.int (nI k))] → W p0 l e R s m args below meth c H locs 0 0 Q (F0 m 2 ls []) := by
    intro j
    induction j with
    | zero =>
      intro k hk H locs h ls hl
      obtain rfl : k = 512 := by omega
      refine r_iln K hl 1 dX6_asNow_2 rfl rfl ?_
      refine r_sp K (nI 512) dX6_asNow_3 ks_512 ?_
      refine r_cgeN K 27 dX6_asNow_6 (by decide) (by omega) (by omega) (fun c6 => ?_) (fun c => absurd c (by omega))
      have h := h.arr 2 f rfl (fun j hj => by rw [cpy_i (by omega) (by omega), Nat.zero_add]; rfl)
      exact hr.2 _ _ _ _ dX6_asNow_27 (h.to rfl) rfl
    | succ j ih =>
      intro k hk H locs h ls hl
      refine r_iln K hl 1 dX6_asNow_2 rfl rfl ?_
      refine r_sp K (nI 512) dX6_asNow_3 ks_512 ?_
      refine r_cgeN K 27 dX6_asNow_6 (by decide) (by omega) (by omega) (fun c => absurd c (by omega)) (fun c6 => ?_)
      refine r_aln K hl 0 dX6_asNow_9 rfl rfl ?_
      refine r_get K h ffX6_13 0 rfl rfl dX6_asNow_10 ?_
      refine r_iln K hl 1 dX6_asNow_13 rfl rfl ?_
      refine r_aln K hl 0 dX6_asNow_14 rfl rfl ?_
      refine r_get K h ffX6_7 0 rfl rfl dX6_asNow_15 ?_
      refine r_iln K hl 1 dX6_asNow_18 rfl rfl ?_
      refine r_ial K h 1 rfl (by omega) (by decide) dX6_asNow_19 ?_
      refine r_ias K h 2 [_, _, _] rfl (by omega) (by decide) rfl dX6_asNow_20 (fun H locs h => ?_)
      refine r_incN K hl (k := 1) [_, _] dX6_asNow_21 rfl (by decide) rfl (fun ls hl => ?_)
      refine r_go K 2 dX6_asNow_24 (by decide) ?_
      refine ih (k + 1) (by omega) _ _ (h.to ?_) _ hl
      rw [← cpy_s, Nat.zero_add]
  exact loop 512 0 rfl _ _ (h.to (by rw [cpy_0])) _ hl

set_option maxHeartbeats 4000000 in
set_option maxRecDepth 100000 in
theorem c_X6_lone_bad (l : Launch) (g : GG) (a : Nat → Nat) (th um sm : Int32) (f fw fp fi fk fs ft : Row) (n : Nat) (hn1 : 1 ≤ n) (hn : n ≤ 4) (h0 : f 0 = nI n) (x : Int32) (hb : inB x (nI 0) (nI (n - 1)) = false) : Ct l g yX6_lone cX6_lone 3 (some .int) 2 [.ref (a 0), .int x] (mW g a (th) (um) (sm) (f) (fw) (fp) (fi) (fk) (fs) (ft)) (some (.int (-1))) (mW g a (nI 0) (um) (sm) (f) (fw) (fp) (fi) (fk) (fs) (ft)) := by
  refine Ct.start (by decide +kernel) (Nat.le_of_ble_eq_true rfl) (by simp [Value.category]) (Or.inr ⟨.int, _, rfl, rfl, rfl⟩) ?_
  intro p0 e R s m args below meth c A Q K hr h ls hl
  have hl : Lq ls 3 [some (.ref (a 0)), some (.int x), none] := hl
  refine r_aln K hl 0 dX6_lone_0 rfl rfl ?_
  refine r_ic K (nI 0) dX6_lone_1 k_0 ?_
  refine r_put K h ffX6_36 pfX6_0 0 [_, _, _, _, _, _, _, _, _, _] [_, _, _, _, _, _, _, _] rfl rfl rfl (Nat.le_of_ble_eq_true rfl) rfl rfl dX6_lone_2 (fun H locs h => ?_)
  refine r_aln K hl 0 dX6_lone_5 rfl rfl ?_
  refine r_iln K hl 1 dX6_lone_6 rfl rfl ?_
  refine r_callV K h hl (c_X6_isWriter l g a _ _ _ f n x hn1 h0) mc_X6_isWriter vm_X6_isWriter mlX6_86 0 rfl rfl rfl [0, 1] rfl rfl rfl [_, _, _, _, _, _, _, _] rfl (by decide) (by decide) rfl rfl (Nat.le_of_ble_eq_true rfl) ⟨Nat.zero_le _, Nat.zero_le _⟩ dX6_lone_7 (fun H locs h => ?_)
  refine W.eq (g2 := F0 m 10 ls [_]) rfl ?_
  refine r_zneB K 15 dX6_lone_10 (by decide) (fun c => absurd ((hb).symm.trans c) (by decide)) (fun _ => ?_)
  refine r_ic K (-1) dX6_lone_13 k_m1 ?_
  exact hr.1 _ _ _ _ _ dX6_lone_14 h rfl

set_option maxHeartbeats 4000000 in
set_option maxRecDepth 100000 in
theorem c_X6_lone_ok (l : Launch) (g : GG) (a : Nat → Nat) (th um sm : Int32) (f fw fp fi fk fs ft : Row) (n mv p : Nat) (hx : WFx f n mv) (hp : p < n) : Ct l g yX6_lone cX6_lone 3 (some .int) 4 [.ref (a 0), .int (nI p)] (mW g a (th) (um) (sm) (f) (fw) (fp) (fi) (fk) (fs) (ft)) (some (.int (nI (stC f p 1000)))) (mW g a (nI 0) (um) (sm) (f) (stF f p 1000) (fp) (fi) (fk) (fs) (ft)) := by
  refine Ct.start (by decide +kernel) (Nat.le_of_ble_eq_true rfl) (by simp [Value.category]) (Or.inr ⟨.int, _, rfl, rfl, rfl⟩) ?_
  intro p0 e R s m args below meth c A Q K hr h ls hl
  have hl : Lq ls 3 [some (.ref (a 0)), some (.int (nI p)), none] := hl
  have hx1 := hx
  obtain ⟨ph0, wr0, ⟨⟨hn2, hn, -⟩, h0, -⟩⟩ := hx1
  have hn1 : 1 ≤ n := by omega
  refine r_aln K hl 0 dX6_lone_0 rfl rfl ?_
  refine r_ic K (nI 0) dX6_lone_1 k_0 ?_
  refine r_put K h ffX6_36 pfX6_0 0 [_, _, _, _, _, _, _, _, _, _] [_, _, _, _, _, _, _, _] rfl rfl rfl (Nat.le_of_ble_eq_true rfl) rfl rfl dX6_lone_2 (fun H locs h => ?_)
  refine r_aln K hl 0 dX6_lone_5 rfl rfl ?_
  refine r_iln K hl 1 dX6_lone_6 rfl rfl ?_
  refine r_callV K h hl (c_X6_isWriter l g a _ _ _ f n (nI p) hn1 h0) mc_X6_isWriter vm_X6_isWriter mlX6_86 0 rfl rfl rfl [0, 1] rfl rfl rfl [_, _, _, _, _, _, _, _] rfl (by decide) (by decide) rfl rfl (Nat.le_of_ble_eq_true rfl) ⟨Nat.zero_le _, Nat.zero_le _⟩ dX6_lone_7 (fun H locs h => ?_)
  refine W.eq (g2 := F0 m 10 ls [_]) rfl ?_
  refine r_zneB K 15 dX6_lone_10 (by decide) (fun _ => ?_) (fun c => absurd (((inB_of (Nat.zero_le p) (by omega) (by omega))).symm.trans c) (by decide))
  refine r_aln K hl 0 dX6_lone_15 rfl rfl ?_
  refine r_callV K h hl (c_X6_asNow l g a _ um sm f fw) mc_X6_asNow vm_X6_asNow mlX6_106 0 rfl rfl rfl [0, 1, 2] rfl rfl rfl [_, _, _, _, _, _, _, _] rfl (by decide) (by decide) rfl rfl (Nat.le_of_ble_eq_true rfl) ⟨Nat.zero_le _, Nat.zero_le _⟩ dX6_lone_16 (fun H locs h => ?_)
  refine W.eq (g2 := F0 m 19 ls []) rfl ?_
  refine r_ic K (nI 0) dX6_lone_19 k_0 ?_
  refine r_isn K hl 2 [_, _, _] dX6_lone_20 rfl (by decide) rfl (fun ls hl => ?_)
  have loop : ∀ (j i : Nat) (f' : Row), i + j = 1000 → WFx f' n mv → MB f' p j → stF f' p j = stF f p 1000 → i + stC f' p j = stC f p 1000 → ∀ (H : Heap) (locs : List Loc), Hp g A s H locs (mW g a (nI 0) (um) (sm) (f) (f') (fp) (fi) (fk) (fs) (ft)) → ∀ ls, Lq ls 3 [some (.ref (a 0)), some (.int (nI p)), some (.int (nI i))] → W p0 l e R s m args below meth c H locs 0 0 Q (F0 m 21 ls []) := by
    intro j
    induction j with
    | zero =>
      intro i f' hk hx2 hmb e1 e2 H locs h ls hl
      have hid := hmb.pos hx2 hp
      refine r_aln K hl 0 dX6_lone_21 rfl rfl ?_
      refine r_get K h ffX6_13 0 rfl rfl dX6_lone_22 ?_
      refine r_iln K hl 1 dX6_lone_25 rfl rfl ?_
      refine r_callS K h hl (c_X6_writerAt l g p) mc_X6_writerAt st_X6_writerAt mlX6_40 [] rfl rfl rfl [_, _, _, _, _, _, _, _] rfl (by decide) (by decide) rfl rfl (Nat.le_of_ble_eq_true rfl) ⟨Nat.zero_le _, Nat.zero_le _⟩ dX6_lone_26 (fun H locs h => ?_)
      refine W.eq (g2 := F0 m 29 ls [_, _]) rfl ?_
      refine r_ic K (nI 0) dX6_lone_29 k_0 ?_
      refine r_addN K dX6_lone_30 ?_
      refine r_ial K h 2 rfl (by omega) (by decide) dX6_lone_31 ?_
      refine r_zeq K 49 dX6_lone_32 (by decide) (fun c32 => ?_) (fun c => absurd c (fun q => q hid))
      refine r_iln K hl 2 dX6_lone_49 rfl rfl ?_
      exact hr.1 _ _ _ _ _ dX6_lone_50 (h.to (by rw [← e1, stF_idle hid])) (by rw [← e2, stC_idle hid]; rfl)
    | succ j ih =>
      intro i f' hk hx2 hmb e1 e2 H locs h ls hl
      refine r_aln K hl 0 dX6_lone_21 rfl rfl ?_
      refine r_get K h ffX6_13 0 rfl rfl dX6_lone_22 ?_
      refine r_iln K hl 1 dX6_lone_25 rfl rfl ?_
      refine r_callS K h hl (c_X6_writerAt l g p) mc_X6_writerAt st_X6_writerAt mlX6_40 [] rfl rfl rfl [_, _, _, _, _, _, _, _] rfl (by decide) (by decide) rfl rfl (Nat.le_of_ble_eq_true rfl) ⟨Nat.zero_le _, Nat.zero_le _⟩ dX6_lone_26 (fun H locs h => ?_)
      refine W.eq (g2 := F0 m 29 ls [_, _]) rfl ?_
      refine r_ic K (nI 0) dX6_lone_29 k_0 ?_
      refine r_addN K dX6_lone_30 ?_
      refine r_ial K h 2 rfl (by omega) (by decide) dX6_lone_31 ?_
      refine r_zeq K 49 dX6_lone_32 (by decide) (fun c32 => ?_) (fun c32 => ?_)
      · refine r_iln K hl 2 dX6_lone_49 rfl rfl ?_
        exact hr.1 _ _ _ _ _ dX6_lone_50 (h.to (by rw [← e1, stF_idle c32])) (by rw [← e2, stC_idle c32]; rfl)
      · have ha' := c32
        obtain ⟨ph, wr, hw⟩ := id hx2
        obtain ⟨kd, st, wh, hs, mm, hb⟩ := (hw.2.2.2.2.2 p (by omega)).act ha'
        have h60 := hb.st60 hn2 hn hw.1.2.2.2.1
        have hst := hb.2.1
        have g0 := hw.2.1
        have g5 := hw.2.2.2.1
        have g6 := hw.2.2.2.2.1
        have g7 := hw.1.2.2.2.2.1
        have g8 := hw.1.2.2.2.2.2
        refine r_aln K hl 0 dX6_lone_35 rfl rfl ?_
        refine r_get K h ffX6_13 0 rfl rfl dX6_lone_36 ?_
        refine r_iln K hl 1 dX6_lone_39 rfl rfl ?_
        refine r_callS K h hl (c_X6_step l g (a 2) f' p n ph wr st (by omega) hn2 hn g0 g5 g7 g6 g8 hst (by omega)) mc_X6_step st_X6_step mlX6_93 [2] rfl rfl rfl [_, _, _, _, _, _, _, _] rfl (by decide) (by decide) rfl rfl (Nat.le_of_ble_eq_true rfl) ⟨Nat.zero_le _, Nat.zero_le _⟩ dX6_lone_40 (fun H locs h => ?_)
        refine W.eq (g2 := F0 m 43 ls []) rfl ?_
        refine r_incN K hl (k := 1) [_, _, _] dX6_lone_43 rfl (by decide) rfl (fun ls hl => ?_)
        refine r_go K 21 dX6_lone_46 (by decide) ?_
        exact ih (i + 1) _ (by omega) (wfx_step hx2 hp ha') (hmb.step hx2 hp ha') (by rw [← e1, stF, if_neg ha']) (by rw [← e2, stC, if_neg ha']; omega) _ _ h _ hl
  exact loop 1000 0 f rfl hx (MB.of (by omega)) rfl (by omega) _ _ h _ hl

set_option maxHeartbeats 4000000 in
set_option maxRecDepth 100000 in
theorem c_X6_byTurns_ok (l : Launch) (g : GG) (a : Nat → Nat) (th um sm : Int32) (f fw fp fi fk fs ft : Row) (n mv : Nat) (hx : WFx f n mv) : Ct l g yX6_byTurns cX6_byTurns 4 (some .int) 4 [.ref (a 0)] (mW g a (th) (um) (sm) (f) (fw) (fp) (fi) (fk) (fs) (ft)) (some (.int (nI (btC f n 1000)))) (mW g a (nI 0) (um) (sm) (f) (btF f n 1000) (fp) (fi) (fk) (fs) (ft)) := by
  refine Ct.start (by decide +kernel) (Nat.le_of_ble_eq_true rfl) (by simp [Value.category]) (Or.inr ⟨.int, _, rfl, rfl, rfl⟩) ?_
  intro p0 e R s m args below meth c A Q K hr h ls hl
  have hl : Lq ls 4 [some (.ref (a 0)), none, none, none] := hl
  have hx1 := hx
  obtain ⟨ph0, wr0, ⟨⟨hn2, hn, -⟩, h0, -⟩⟩ := hx1
  have hn1 : 1 ≤ n := by omega
  refine r_aln K hl 0 dX6_byTurns_0 rfl rfl ?_
  refine r_ic K (nI 0) dX6_byTurns_1 k_0 ?_
  refine r_put K h ffX6_36 pfX6_0 0 [_, _, _, _, _, _, _, _, _, _] [_, _, _, _, _, _, _, _] rfl rfl rfl (Nat.le_of_ble_eq_true rfl) rfl rfl dX6_byTurns_2 (fun H locs h => ?_)
  refine r_aln K hl 0 dX6_byTurns_5 rfl rfl ?_
  refine r_callV K h hl (c_X6_asNow l g a _ um sm f fw) mc_X6_asNow vm_X6_asNow mlX6_106 0 rfl rfl rfl [0, 1, 2] rfl rfl rfl [_, _, _, _, _, _, _, _] rfl (by decide) (by decide) rfl rfl (Nat.le_of_ble_eq_true rfl) ⟨Nat.zero_le _, Nat.zero_le _⟩ dX6_byTurns_6 (fun H locs h => ?_)
  refine W.eq (g2 := F0 m 9 ls []) rfl ?_
  refine r_ic K (nI 0) dX6_byTurns_9 k_0 ?_
  refine r_isn K hl 1 [_, _, _, _] dX6_byTurns_10 rfl (by decide) rfl (fun ls hl => ?_)
  refine r_ic K (nI 1) dX6_byTurns_11 k_1 ?_
  refine r_isn K hl 2 [_, _, _, _] dX6_byTurns_12 rfl (by decide) rfl (fun ls hl => ?_)
  have EX : ∀ (f' : Row) (i : Nat) (x : Option Value), f' = btF f n 1000 → i = btC f n 1000 → ∀ (H : Heap) (locs : List Loc), Hp g A s H locs (mW g a (nI 0) (um) (sm) (f) (f') (fp) (fi) (fk) (fs) (ft)) → ∀ ls, Lq ls 4 [some (.ref (a 0)), some (.int (nI i)), some (.int (bI false)), x] → W p0 l e R s m args below meth c H locs 0 0 Q (F0 m 13 ls []) := by
    intro f' i x e1 e2 H locs h ls hl
    refine r_iln K hl 2 dX6_byTurns_13 rfl rfl ?_
    refine r_zeqB K 67 dX6_byTurns_14 (by decide) (fun _ => ?_) (fun c => absurd (((rfl : false = false)).symm.trans c) (by decide))
    refine r_iln K hl 1 dX6_byTurns_67 rfl rfl ?_
    exact hr.1 _ _ _ _ _ dX6_byTurns_68 (h.to (by rw [e1])) (by rw [e2])
  have loop : ∀ (j i : Nat) (x : Option Value) (f' : Row), WFx f' n mv → (∀ p, p < n → MB f' p j) → btF f' n (j + 1) = btF f n 1000 → i + btC f' n (j + 1) = btC f n 1000 → ∀ (H : Heap) (locs : List Loc), Hp g A s H locs (mW g a (nI 0) (um) (sm) (f) (f') (fp) (fi) (fk) (fs) (ft)) → ∀ ls, Lq ls 4 [some (.ref (a 0)), some (.int (nI i)), some (.int (bI true)), x] → W p0 l e R s m args below meth c H locs 0 0 Q (F0 m 13 ls []) := by
    intro j
    induction j with
    | zero =>
      intro i x f' hx2 hmb e1 e2 H locs h ls hl
      refine r_iln K hl 2 dX6_byTurns_13 rfl rfl ?_
      refine r_zeqB K 67 dX6_byTurns_14 (by decide) (fun c => absurd (((rfl : true = true)).symm.trans c) (by decide)) (fun _ => ?_)
      refine r_ic K (nI 0) dX6_byTurns_17 k_0 ?_
      refine r_isn K hl 2 [_, _, _, _] dX6_byTurns_18 rfl (by decide) rfl (fun ls hl => ?_)
      refine r_ic K (nI 0) dX6_byTurns_19 k_0 ?_
      refine r_isn K hl 3 [_, _, _, _] dX6_byTurns_20 rfl (by decide) rfl (fun ls hl => ?_)
      have loop2 : ∀ (j2 k2 : Nat), k2 + j2 = n → ∀ (H : Heap) (locs : List Loc), Hp g A s H locs (mW g a (nI 0) (um) (sm) (f) (rnF f' k2) (fp) (fi) (fk) (fs) (ft)) → ∀ ls, Lq ls 4 [some (.ref (a 0)), some (.int (nI (i + rnC f' k2))), some (.int (bI (anyA f' k2))), some (.int (nI k2))] → W p0 l e R s m args below meth c H locs 0 0 Q (F0 m 21 ls []) := by
        intro j2
        induction j2 with
        | zero =>
          intro k2 hk2 H locs h ls hl
          obtain rfl : k2 = n := by omega
          refine r_iln K hl 3 dX6_byTurns_21 rfl rfl ?_
          refine r_aln K hl 0 dX6_byTurns_22 rfl rfl ?_
          refine r_get K h ffX6_7 0 rfl rfl dX6_byTurns_23 ?_
          refine r_ic K (nI 0) dX6_byTurns_26 k_0 ?_
          refine r_ialE K h 1 rfl (by omega) (by decide) h0 dX6_byTurns_27 ?_
          refine r_cgeN K 64 dX6_byTurns_28 (by decide) (by omega) (by omega) (fun c28 => ?_) (fun c => absurd c (by omega))
          refine r_go K 13 dX6_byTurns_64 (by decide) ?_
          cases hany : anyA f' k2 with
          | false =>
            obtain ⟨r1, r2⟩ := rn_idle k2 (anyA_no k2 hany)
            rw [hany, r2] at hl
            rw [r1] at h
            exact EX f' (i + 0) _ (by rw [← e1, btF, if_neg (by rw [hany]; decide)]) (by rw [← e2, btC, if_neg (by rw [hany]; decide)]) _ _ h _ hl
          | true => exact absurd hany (by rw [anyA_none k2 (fun p hp => (hmb p hp).pos hx2 hp)]; decide)
        | succ j2 ih2 =>
          intro k2 hk2 H locs h ls hl
          refine r_iln K hl 3 dX6_byTurns_21 rfl rfl ?_
          refine r_aln K hl 0 dX6_byTurns_22 rfl rfl ?_
          refine r_get K h ffX6_7 0 rfl rfl dX6_byTurns_23 ?_
          refine r_ic K (nI 0) dX6_byTurns_26 k_0 ?_
          refine r_ialE K h 1 rfl (by omega) (by decide) h0 dX6_byTurns_27 ?_
          refine r_cgeN K 64 dX6_byTurns_28 (by decide) (by omega) (by omega) (fun c => absurd c (by omega)) (fun c28 => ?_)
          refine r_aln K hl 0 dX6_byTurns_31 rfl rfl ?_
          refine r_get K h ffX6_13 0 rfl rfl dX6_byTurns_32 ?_
          refine r_iln K hl 3 dX6_byTurns_35 rfl rfl ?_
          refine r_callS K h hl (c_X6_writerAt l g k2) mc_X6_writerAt st_X6_writerAt mlX6_40 [] rfl rfl rfl [_, _, _, _, _, _, _, _] rfl (by decide) (by decide) rfl rfl (Nat.le_of_ble_eq_true rfl) ⟨Nat.zero_le _, Nat.zero_le _⟩ dX6_byTurns_36 (fun H locs h => ?_)
          refine W.eq (g2 := F0 m 39 ls [_, _]) rfl ?_
          refine r_ic K (nI 0) dX6_byTurns_39 k_0 ?_
          refine r_addN K dX6_byTurns_40 ?_
          refine r_ial K h 2 rfl (by omega) (by decide) dX6_byTurns_41 ?_
          have hlate := rn_late hx2 hn k2 (by omega) k2 (Nat.le_refl _) (by omega) 0 (by omega)
          refine r_zeq K 58 dX6_byTurns_42 (by decide) (fun c42 => ?_) (fun c42 => ?_)
          · refine r_incN K hl (k := 1) [_, _, _, _] dX6_byTurns_58 rfl (by decide) rfl (fun ls hl => ?_)
            refine r_go K 21 dX6_byTurns_61 (by decide) ?_
            exact ih2 (k2 + 1) (by omega) _ _ (h.to (by rw [rnF, if_pos c42])) _ (by rw [rnC, if_pos c42, anyA, decide_eq_false (fun q => q (hlate.symm.trans c42)), Bool.or_false]; exact hl)
          · have ha' := c42
            have hx3 := rn_wf hx2 k2 (by omega)
            obtain ⟨ph, wr, hw⟩ := id hx3
            obtain ⟨kd, st, wh, hs, mm, hb⟩ := (hw.2.2.2.2.2 k2 (by omega)).act ha'
            have h60 := hb.st60 hn2 hn hw.1.2.2.2.1
            have hst := hb.2.1
            have g0 := hw.2.1
            have g5 := hw.2.2.2.1
            have g6 := hw.2.2.2.2.1
            have g7 := hw.1.2.2.2.2.1
            have g8 := hw.1.2.2.2.2.2
            refine r_aln K hl 0 dX6_byTurns_45 rfl rfl ?_
            refine r_get K h ffX6_13 0 rfl rfl dX6_byTurns_46 ?_
            refine r_iln K hl 3 dX6_byTurns_49 rfl rfl ?_
            refine r_callS K h hl (c_X6_step l g (a 2) (rnF f' k2) k2 n ph wr st (by omega) hn2 hn g0 g5 g7 g6 g8 hst (by omega)) mc_X6_step st_X6_step mlX6_93 [2] rfl rfl rfl [_, _, _, _, _, _, _, _] rfl (by decide) (by decide) rfl rfl (Nat.le_of_ble_eq_true rfl) ⟨Nat.zero_le _, Nat.zero_le _⟩ dX6_byTurns_50 (fun H locs h => ?_)
            refine W.eq (g2 := F0 m 53 ls []) rfl ?_
            refine r_incN K hl (k := 1) [_, _, _, _] dX6_byTurns_53 rfl (by decide) rfl (fun ls hl => ?_)
            refine r_ic K (nI 1) dX6_byTurns_56 k_1 ?_
            refine r_isn K hl 2 [_, _, _, _] dX6_byTurns_57 rfl (by decide) rfl (fun ls hl => ?_)
            refine r_incN K hl (k := 1) [_, _, _, _] dX6_byTurns_58 rfl (by decide) rfl (fun ls hl => ?_)
            refine r_go K 21 dX6_byTurns_61 (by decide) ?_
            exact ih2 (k2 + 1) (by omega) _ _ (h.to (by rw [rnF, if_neg c42])) _ (by rw [rnC, if_neg c42, anyA, decide_eq_true (show ¬ f' (32 + 42 * k2 + 0) = 0 from fun q => c42 (hlate.trans q)), Bool.or_true]; exact hl)
      exact loop2 n 0 (by omega) _ _ h _ hl
    | succ j ih =>
      intro i x f' hx2 hmb e1 e2 H locs h ls hl
      refine r_iln K hl 2 dX6_byTurns_13 rfl rfl ?_
      refine r_zeqB K 67 dX6_byTurns_14 (by decide) (fun c => absurd (((rfl : true = true)).symm.trans c) (by decide)) (fun _ => ?_)
      refine r_ic K (nI 0) dX6_byTurns_17 k_0 ?_
      refine r_isn K hl 2 [_, _, _, _] dX6_byTurns_18 rfl (by decide) rfl (fun ls hl => ?_)
      refine r_ic K (nI 0) dX6_byTurns_19 k_0 ?_
      refine r_isn K hl 3 [_, _, _, _] dX6_byTurns_20 rfl (by decide) rfl (fun ls hl => ?_)
      have loop2 : ∀ (j2 k2 : Nat), k2 + j2 = n → ∀ (H : Heap) (locs : List Loc), Hp g A s H locs (mW g a (nI 0) (um) (sm) (f) (rnF f' k2) (fp) (fi) (fk) (fs) (ft)) → ∀ ls, Lq ls 4 [some (.ref (a 0)), some (.int (nI (i + rnC f' k2))), some (.int (bI (anyA f' k2))), some (.int (nI k2))] → W p0 l e R s m args below meth c H locs 0 0 Q (F0 m 21 ls []) := by
        intro j2
        induction j2 with
        | zero =>
          intro k2 hk2 H locs h ls hl
          obtain rfl : k2 = n := by omega
          refine r_iln K hl 3 dX6_byTurns_21 rfl rfl ?_
          refine r_aln K hl 0 dX6_byTurns_22 rfl rfl ?_
          refine r_get K h ffX6_7 0 rfl rfl dX6_byTurns_23 ?_
          refine r_ic K (nI 0) dX6_byTurns_26 k_0 ?_
          refine r_ialE K h 1 rfl (by omega) (by decide) h0 dX6_byTurns_27 ?_
          refine r_cgeN K 64 dX6_byTurns_28 (by decide) (by omega) (by omega) (fun c28 => ?_) (fun c => absurd c (by omega))
          refine r_go K 13 dX6_byTurns_64 (by decide) ?_
          cases hany : anyA f' k2 with
          | false =>
            obtain ⟨r1, r2⟩ := rn_idle k2 (anyA_no k2 hany)
            rw [hany, r2] at hl
            rw [r1] at h
            exact EX f' (i + 0) _ (by rw [← e1, btF, if_neg (by rw [hany]; decide)]) (by rw [← e2, btC, if_neg (by rw [hany]; decide)]) _ _ h _ hl
          | true =>
            rw [hany] at hl
            exact ih _ _ (rnF f' k2) (rn_wf hx2 k2 (Nat.le_refl _)) (fun p hp => (rn_MB hx2 hn hmb k2 (Nat.le_refl _)).1 p hp) (by rw [← e1, btF.eq_2 f', if_pos hany]) (by rw [← e2, btC.eq_2 f', if_pos hany]; omega) _ _ h _ hl
        | succ j2 ih2 =>
          intro k2 hk2 H locs h ls hl
          refine r_iln K hl 3 dX6_byTurns_21 rfl rfl ?_
          refine r_aln K hl 0 dX6_byTurns_22 rfl rfl ?_
          refine r_get K h ffX6_7 0 rfl rfl dX6_byTurns_23 ?_
          refine r_ic K (nI 0) dX6_byTurns_26 k_0 ?_
          refine r_ialE K h 1 rfl (by omega) (by decide) h0 dX6_byTurns_27 ?_
          refine r_cgeN K 64 dX6_byTurns_28 (by decide) (by omega) (by omega) (fun c => absurd c (by omega)) (fun c28 => ?_)
          refine r_aln K hl 0 dX6_byTurns_31 rfl rfl ?_
          refine r_get K h ffX6_13 0 rfl rfl dX6_byTurns_32 ?_
          refine r_iln K hl 3 dX6_byTurns_35 rfl rfl ?_
          refine r_callS K h hl (c_X6_writerAt l g k2) mc_X6_writerAt st_X6_writerAt mlX6_40 [] rfl rfl rfl [_, _, _, _, _, _, _, _] rfl (by decide) (by decide) rfl rfl (Nat.le_of_ble_eq_true rfl) ⟨Nat.zero_le _, Nat.zero_le _⟩ dX6_byTurns_36 (fun H locs h => ?_)
          refine W.eq (g2 := F0 m 39 ls [_, _]) rfl ?_
          refine r_ic K (nI 0) dX6_byTurns_39 k_0 ?_
          refine r_addN K dX6_byTurns_40 ?_
          refine r_ial K h 2 rfl (by omega) (by decide) dX6_byTurns_41 ?_
          have hlate := rn_late hx2 hn k2 (by omega) k2 (Nat.le_refl _) (by omega) 0 (by omega)
          refine r_zeq K 58 dX6_byTurns_42 (by decide) (fun c42 => ?_) (fun c42 => ?_)
          · refine r_incN K hl (k := 1) [_, _, _, _] dX6_byTurns_58 rfl (by decide) rfl (fun ls hl => ?_)
            refine r_go K 21 dX6_byTurns_61 (by decide) ?_
            exact ih2 (k2 + 1) (by omega) _ _ (h.to (by rw [rnF, if_pos c42])) _ (by rw [rnC, if_pos c42, anyA, decide_eq_false (fun q => q (hlate.symm.trans c42)), Bool.or_false]; exact hl)
          · have ha' := c42
            have hx3 := rn_wf hx2 k2 (by omega)
            obtain ⟨ph, wr, hw⟩ := id hx3
            obtain ⟨kd, st, wh, hs, mm, hb⟩ := (hw.2.2.2.2.2 k2 (by omega)).act ha'
            have h60 := hb.st60 hn2 hn hw.1.2.2.2.1
            have hst := hb.2.1
            have g0 := hw.2.1
            have g5 := hw.2.2.2.1
            have g6 := hw.2.2.2.2.1
            have g7 := hw.1.2.2.2.2.1
            have g8 := hw.1.2.2.2.2.2
            refine r_aln K hl 0 dX6_byTurns_45 rfl rfl ?_
            refine r_get K h ffX6_13 0 rfl rfl dX6_byTurns_46 ?_
            refine r_iln K hl 3 dX6_byTurns_49 rfl rfl ?_
            refine r_callS K h hl (c_X6_step l g (a 2) (rnF f' k2) k2 n ph wr st (by omega) hn2 hn g0 g5 g7 g6 g8 hst (by omega)) mc_X6_step st_X6_step mlX6_93 [2] rfl rfl rfl [_, _, _, _, _, _, _, _] rfl (by decide) (by decide) rfl rfl (Nat.le_of_ble_eq_true rfl) ⟨Nat.zero_le _, Nat.zero_le _⟩ dX6_byTurns_50 (fun H locs h => ?_)
            refine W.eq (g2 := F0 m 53 ls []) rfl ?_
            refine r_incN K hl (k := 1) [_, _, _, _] dX6_byTurns_53 rfl (by decide) rfl (fun ls hl => ?_)
            refine r_ic K (nI 1) dX6_byTurns_56 k_1 ?_
            refine r_isn K hl 2 [_, _, _, _] dX6_byTurns_57 rfl (by decide) rfl (fun ls hl => ?_)
            refine r_incN K hl (k := 1) [_, _, _, _] dX6_byTurns_58 rfl (by decide) rfl (fun ls hl => ?_)
            refine r_go K 21 dX6_byTurns_61 (by decide) ?_
            exact ih2 (k2 + 1) (by omega) _ _ (h.to (by rw [rnF, if_neg c42])) _ (by rw [rnC, if_neg c42, anyA, decide_eq_true (show ¬ f' (32 + 42 * k2 + 0) = 0 from fun q => c42 (hlate.trans q)), Bool.or_true]; exact hl)
      exact loop2 n 0 (by omega) _ _ h _ hl
  exact loop 999 0 none f hx (fun p _ => MB.of (by omega)) rfl (Nat.zero_add _) _ _ h _ hl

set_option maxHeartbeats 4000000 in
set_option maxRecDepth 100000 in
theorem c_X6_reads_bad (l : Launch) (g : GG) (a : Nat → Nat) (th um sm : Int32) (f fw fp fi fk fs ft : Row) (x v : Int32) (hb : (inB x (nI 0) (nI 99) && inB v (nI 0) (nI 2)) = false) : Ct l g yX6_reads cX6_reads 8 (some .int) 1 [.ref (a 0), .int x, .int v] (mW g a (th) (um) (sm) (f) (fw) (fp) (fi) (fk) (fs) (ft)) (some (.int (-1))) (mW g a (nI 0) (um) (sm) (f) (fw) (fp) (fi) (fk) (fs) (ft)) := by
  refine Ct.start (by decide +kernel) (Nat.le_of_ble_eq_true rfl) (by simp [Value.category]) (Or.inr ⟨.int, _, rfl, rfl, rfl⟩) ?_
  intro p0 e R s m args below meth c A Q K hr h ls hl
  have hl : Lq ls 8 [some (.ref (a 0)), some (.int x), some (.int v), none, none, none, none, none] := hl
  refine r_aln K hl 0 dX6_reads_0 rfl rfl ?_
  refine r_ic K (nI 0) dX6_reads_1 k_0 ?_
  refine r_put K h ffX6_36 pfX6_0 0 [_, _, _, _, _, _, _, _, _, _] [_, _, _, _, _, _, _, _] rfl rfl rfl (Nat.le_of_ble_eq_true rfl) rfl rfl dX6_reads_2 (fun H locs h => ?_)
  refine r_iln K hl 1 dX6_reads_5 rfl rfl ?_
  refine r_ic K (nI 0) dX6_reads_6 k_0 ?_
  refine r_bp K (nI 99) dX6_reads_7 kb_99 ?_
  refine r_callS K h hl (c_X6_in l g x (nI 0) (nI 99)) mc_X6_in st_X6_in mlX6_69 [] rfl rfl rfl [_, _, _, _, _, _, _, _] rfl (by decide) (by decide) rfl rfl (Nat.le_of_ble_eq_true rfl) ⟨Nat.zero_le _, Nat.zero_le _⟩ dX6_reads_9 (fun H locs h => ?_)
  refine W.eq (g2 := F0 m 12 ls [_]) rfl ?_
  refine r_zeqB K 24 dX6_reads_12 (by decide) (fun c12 => ?_) (fun c12 => ?_)
  · refine r_ic K (-1) dX6_reads_24 k_m1 ?_
    exact hr.1 _ _ _ _ _ dX6_reads_25 h rfl
  · refine r_iln K hl 2 dX6_reads_15 rfl rfl ?_
    refine r_ic K (nI 0) dX6_reads_16 k_0 ?_
    refine r_ic K (nI 2) dX6_reads_17 k_2 ?_
    refine r_callS K h hl (c_X6_in l g v (nI 0) (nI 2)) mc_X6_in st_X6_in mlX6_69 [] rfl rfl rfl [_, _, _, _, _, _, _, _] rfl (by decide) (by decide) rfl rfl (Nat.le_of_ble_eq_true rfl) ⟨Nat.zero_le _, Nat.zero_le _⟩ dX6_reads_18 (fun H locs h => ?_)
    refine W.eq (g2 := F0 m 21 ls [_]) rfl ?_
    refine r_zneB K 26 dX6_reads_21 (by decide) (fun c21 => ?_) (fun c21 => ?_)
    · exact absurd hb (by rw [c12, c21]; decide)
    · refine r_ic K (-1) dX6_reads_24 k_m1 ?_
      exact hr.1 _ _ _ _ _ dX6_reads_25 h rfl

set_option maxHeartbeats 4000000 in
set_option maxRecDepth 100000 in
theorem c_X6_reads_ok (l : Launch) (g : GG) (a : Nat → Nat) (th um sm : Int32) (f fw fp fi fk fs ft : Row) (ph k : Nat) (x : Int32) (h5 : f 5 = nI ph) (hph : ph ≤ 24) (hx0 : inB x (nI 0) (nI 99) = true) (hk : k ≤ 2) : Ct l g yX6_reads cX6_reads 8 (some .int) 1 [.ref (a 0), .int x, .int (nI k)] (mW g a (th) (um) (sm) (f) (fw) (fp) (fi) (fk) (fs) (ft)) (some (.int (mRds f x ph k))) (mW g a (nI 0) (um) (sm) (f) (fw) (fp) (fi) (fk) (fs) (ft)) := by
  refine Ct.start (by decide +kernel) (Nat.le_of_ble_eq_true rfl) (by simp [Value.category]) (Or.inr ⟨.int, _, rfl, rfl, rfl⟩) ?_
  intro p0 e R s m args below meth c A Q K hr h ls hl
  have hl : Lq ls 8 [some (.ref (a 0)), some (.int x), some (.int (nI k)), none, none, none, none, none] := hl
  refine r_aln K hl 0 dX6_reads_0 rfl rfl ?_
  refine r_ic K (nI 0) dX6_reads_1 k_0 ?_
  refine r_put K h ffX6_36 pfX6_0 0 [_, _, _, _, _, _, _, _, _, _] [_, _, _, _, _, _, _, _] rfl rfl rfl (Nat.le_of_ble_eq_true rfl) rfl rfl dX6_reads_2 (fun H locs h => ?_)
  refine r_iln K hl 1 dX6_reads_5 rfl rfl ?_
  refine r_ic K (nI 0) dX6_reads_6 k_0 ?_
  refine r_bp K (nI 99) dX6_reads_7 kb_99 ?_
  refine r_callS K h hl (c_X6_in l g x (nI 0) (nI 99)) mc_X6_in st_X6_in mlX6_69 [] rfl rfl rfl [_, _, _, _, _, _, _, _] rfl (by decide) (by decide) rfl rfl (Nat.le_of_ble_eq_true rfl) ⟨Nat.zero_le _, Nat.zero_le _⟩ dX6_reads_9 (fun H locs h => ?_)
  refine W.eq (g2 := F0 m 12 ls [_]) rfl ?_
  refine r_zeqB K 24 dX6_reads_12 (by decide) (fun c => absurd ((hx0).symm.trans c) (by decide)) (fun _ => ?_)
  refine r_iln K hl 2 dX6_reads_15 rfl rfl ?_
  refine r_ic K (nI 0) dX6_reads_16 k_0 ?_
  refine r_ic K (nI 2) dX6_reads_17 k_2 ?_
  refine r_callS K h hl (c_X6_in l g (nI k) (nI 0) (nI 2)) mc_X6_in st_X6_in mlX6_69 [] rfl rfl rfl [_, _, _, _, _, _, _, _] rfl (by decide) (by decide) rfl rfl (Nat.le_of_ble_eq_true rfl) ⟨Nat.zero_le _, Nat.zero_le _⟩ dX6_reads_18 (fun H locs h => ?_)
  refine W.eq (g2 := F0 m 21 ls [_]) rfl ?_
  refine r_zneB K 26 dX6_reads_21 (by decide) (fun _ => ?_) (fun c => absurd (((inB_of (Nat.zero_le k) hk (by omega))).symm.trans c) (by decide))
  refine r_ic K (nI 0) dX6_reads_26 k_0 ?_
  refine r_isn K hl 3 [_, _, _, _, _, _, _, _] dX6_reads_27 rfl (by decide) rfl (fun ls hl => ?_)
  refine r_bp K (-9) dX6_reads_28 kb_m9 ?_
  refine r_is K hl 4 [_, _, _, _, _, _, _, _] dX6_reads_30 (by decide) rfl (fun ls hl => ?_)
  refine r_bp K (-9) dX6_reads_32 kb_m9 ?_
  refine r_is K hl 5 [_, _, _, _, _, _, _, _] dX6_reads_34 (by decide) rfl (fun ls hl => ?_)
  refine r_ic K (nI 0) dX6_reads_36 k_0 ?_
  refine r_is K hl 6 [_, _, _, _, _, _, _, _] dX6_reads_37 (by decide) rfl (fun ls hl => ?_)
  have loop : ∀ (j i : Nat) (z : Option Value), i + j = ph → ∀ (H : Heap) (locs : List Loc), Hp g A s H locs (mW g a (nI 0) (um) (sm) (f) (fw) (fp) (fi) (fk) (fs) (ft)) → ∀ ls, Lq ls 8 [some (.ref (a 0)), some (.int x), some (.int (nI k)), some (.int (nI (rdT f x i))), some (.int (rdA f x i)), some (.int (rdZ f x i)), some (.int (nI i)), z] → W p0 l e R s m args below meth c H locs 0 0 Q (F0 m 39 ls []) := by
    intro j
    induction j with
    | zero =>
      intro i z hk H locs h ls hl
      obtain rfl : i = ph := by omega
      refine r_il K hl 6 dX6_reads_39 rfl ?_
      refine r_aln K hl 0 dX6_reads_41 rfl rfl ?_
      refine r_get K h ffX6_7 0 rfl rfl dX6_reads_42 ?_
      refine r_ic K (nI 5) dX6_reads_45 k_5 ?_
      refine r_ialE K h 1 rfl (by omega) (by decide) h5 dX6_reads_46 ?_
      refine r_cgeN K 139 dX6_reads_47 (by decide) (by omega) (by omega) (fun c47 => ?_) (fun c => absurd c (by omega))
      refine r_iln K hl 2 dX6_reads_139 rfl rfl ?_
      rcases (by omega : k = 0 ∨ k = 1 ∨ k = 2) with rfl | rfl | rfl
      · refine r_zne K 147 dX6_reads_140 (by decide) (fun c => absurd rfl c) (fun c140 => ?_)
        refine r_iln K hl 3 dX6_reads_143 rfl rfl ?_
        refine r_go K 159 dX6_reads_144 (by decide) ?_
        exact hr.1 _ _ _ _ _ dX6_reads_159 h rfl
      · refine r_zne K 147 dX6_reads_140 (by decide) (fun c140 => ?_) (fun c => absurd c (by decide))
        refine r_iln K hl 2 dX6_reads_147 rfl rfl ?_
        refine r_ic K (nI 1) dX6_reads_148 k_1 ?_
        refine r_cneN K 157 dX6_reads_149 (by decide) (by omega) (by omega) (fun c => absurd rfl c) (fun c149 => ?_)
        refine r_il K hl 4 dX6_reads_152 rfl ?_
        refine r_go K 159 dX6_reads_154 (by decide) ?_
        exact hr.1 _ _ _ _ _ dX6_reads_159 h rfl
      · refine r_zne K 147 dX6_reads_140 (by decide) (fun c140 => ?_) (fun c => absurd c (by decide))
        refine r_iln K hl 2 dX6_reads_147 rfl rfl ?_
        refine r_ic K (nI 1) dX6_reads_148 k_1 ?_
        refine r_cneN K 157 dX6_reads_149 (by decide) (by omega) (by omega) (fun c149 => ?_) (fun c => absurd c (by decide))
        refine r_il K hl 5 dX6_reads_157 rfl ?_
        exact hr.1 _ _ _ _ _ dX6_reads_159 h rfl
    | succ j ih =>
      intro i z hk H locs h ls hl
      refine r_il K hl 6 dX6_reads_39 rfl ?_
      refine r_aln K hl 0 dX6_reads_41 rfl rfl ?_
      refine r_get K h ffX6_7 0 rfl rfl dX6_reads_42 ?_
      refine r_ic K (nI 5) dX6_reads_45 k_5 ?_
      refine r_ialE K h 1 rfl (by omega) (by decide) h5 dX6_reads_46 ?_
      refine r_cgeN K 139 dX6_reads_47 (by decide) (by omega) (by omega) (fun c => absurd c (by omega)) (fun c47 => ?_)
      refine r_aln K hl 0 dX6_reads_50 rfl rfl ?_
      refine r_get K h ffX6_7 0 rfl rfl dX6_reads_51 ?_
      refine r_sp K (nI 200) dX6_reads_54 ks_200 ?_
      refine r_bp K (nI 10) dX6_reads_57 kb_10 ?_
      refine r_il K hl 6 dX6_reads_59 rfl ?_
      refine r_mulN K dX6_reads_61 ?_
      refine r_addN K dX6_reads_62 ?_
      refine r_ic K (nI 3) dX6_reads_63 k_3 ?_
      refine r_addN K dX6_reads_64 ?_
      refine r_ial K h 1 rfl (by omega) (by decide) dX6_reads_65 ?_
      refine r_is K hl 7 [_, _, _, _, _, _, _, _] dX6_reads_66 (by decide) rfl (fun ls hl => ?_)
      refine r_iln K hl 3 dX6_reads_68 rfl rfl ?_
      refine r_il K hl 7 dX6_reads_69 rfl ?_
      refine r_iln K hl 1 dX6_reads_71 rfl rfl ?_
      generalize hr0 : f (200 + 10 * i + 3) = r at hl ⊢
      have J3 : ∀ ls, Lq ls 8 [some (.ref (a 0)), some (.int x), some (.int (nI k)), some (.int (nI (rdT f x (i + 1)))), some (.int (rdA f x (i + 1))), some (.int (rdZ f x i)), some (.int (nI i)), some (.int r)] → ∀ v : Int32, v = rdZ f x (i + 1) → W p0 l e R s m args below meth c H locs 0 0 Q (F0 m 131 ls [.int v]) := by
        intro ls hl v hv
        refine r_is K hl 5 [_, _, _, _, _, _, _, _] dX6_reads_131 (by decide) rfl (fun ls hl => ?_)
        refine r_incN K hl (k := 1) [_, _, _, _, _, _, _, _] dX6_reads_133 rfl (by decide) rfl (fun ls hl => ?_)
        refine r_go K 39 dX6_reads_136 (by decide) ?_
        exact ih (i + 1) _ (by omega) _ _ h _ (by rw [← hv]; exact hl)
      have J2 : ∀ ls, Lq ls 8 [some (.ref (a 0)), some (.int x), some (.int (nI k)), some (.int (nI (rdT f x (i + 1)))), some (.int (rdA f x i)), some (.int (rdZ f x i)), some (.int (nI i)), some (.int r)] → ∀ v : Int32, v = rdA f x (i + 1) → W p0 l e R s m args below meth c H locs 0 0 Q (F0 m 109 ls [.int v]) := by
        intro ls hl v hv
        refine r_is K hl 4 [_, _, _, _, _, _, _, _] dX6_reads_109 (by decide) rfl (fun ls hl => ?_)
        rw [hv] at hl
        refine r_il K hl 7 dX6_reads_111 rfl ?_
        refine r_iln K hl 1 dX6_reads_113 rfl rfl ?_
        refine r_cge K 129 dX6_reads_114 (by decide) (fun c114 => ?_) (fun c114 => ?_)
        · refine r_il K hl 5 dX6_reads_129 rfl ?_
          exact J3 _ hl _ (by rw [rdZ, hr0, if_neg (fun q => absurd q.1 (Int32.not_lt.mpr c114))])
        · refine r_il K hl 7 dX6_reads_117 rfl ?_
          refine r_il K hl 5 dX6_reads_119 rfl ?_
          refine r_cle K 129 dX6_reads_121 (by decide) (fun c121 => ?_) (fun c121 => ?_)
          · refine r_il K hl 5 dX6_reads_129 rfl ?_
            exact J3 _ hl _ (by rw [rdZ, hr0, if_neg (fun q => absurd q.2 (Int32.not_lt.mpr c121))])
          · refine r_il K hl 7 dX6_reads_124 rfl ?_
            refine r_go K 131 dX6_reads_126 (by decide) ?_
            exact J3 _ hl _ (by rw [rdZ, hr0, if_pos ⟨Int32.not_le.mp c114, Int32.not_le.mp c121⟩])
      have J1 : ∀ v : Nat, v = (if r = x then 1 else 0) → W p0 l e R s m args below meth c H locs 0 0 Q (F0 m 80 ls [.int (nI v), .int (nI (rdT f x i))]) := by
        intro v hv
        refine r_addN K dX6_reads_80 ?_
        refine r_isn K hl 3 [_, _, _, _, _, _, _, _] dX6_reads_81 rfl (by decide) rfl (fun ls hl => ?_)
        rw [hv, show rdT f x i + (if r = x then 1 else 0) = rdT f x (i + 1) by rw [rdT, hr0]] at hl
        refine r_il K hl 7 dX6_reads_82 rfl ?_
        refine r_iln K hl 1 dX6_reads_84 rfl rfl ?_
        refine r_cle K 107 dX6_reads_85 (by decide) (fun c85 => ?_) (fun c85 => ?_)
        · refine r_il K hl 4 dX6_reads_107 rfl ?_
          exact J2 _ hl _ (by rw [rdA, hr0, if_neg (fun q => absurd q.1 (Int32.not_lt.mpr c85))])
        · refine r_il K hl 4 dX6_reads_88 rfl ?_
          refine r_bp K (-9) dX6_reads_90 kb_m9 ?_
          refine r_ceq K 102 dX6_reads_92 (by decide) (fun c92 => ?_) (fun c92 => ?_)
          · refine r_il K hl 7 dX6_reads_102 rfl ?_
            refine r_go K 109 dX6_reads_104 (by decide) ?_
            exact J2 _ hl _ (by rw [rdA, hr0, if_pos ⟨Int32.not_le.mp c85, Or.inl c92⟩])
          · refine r_il K hl 7 dX6_reads_95 rfl ?_
            refine r_il K hl 4 dX6_reads_97 rfl ?_
            refine r_cge K 107 dX6_reads_99 (by decide) (fun c99 => ?_) (fun c99 => ?_)
            · refine r_il K hl 4 dX6_reads_107 rfl ?_
              exact J2 _ hl _ (by rw [rdA, hr0, if_neg (fun q => q.2.elim c92 (fun q => absurd q (Int32.not_lt.mpr c99)))])
            · refine r_il K hl 7 dX6_reads_102 rfl ?_
              refine r_go K 109 dX6_reads_104 (by decide) ?_
              exact J2 _ hl _ (by rw [rdA, hr0, if_pos ⟨Int32.not_le.mp c85, Or.inr (Int32.not_le.mp c99)⟩])
      refine r_cne K 79 dX6_reads_72 (by decide) (fun c72 => ?_) (fun c72 => ?_)
      · refine r_ic K (nI 0) dX6_reads_79 k_0 ?_
        exact J1 0 (by rw [if_neg c72])
      · refine r_ic K (nI 1) dX6_reads_75 k_1 ?_
        refine r_go K 80 dX6_reads_76 (by decide) ?_
        exact J1 1 (by rw [if_pos c72])
  exact loop ph 0 none (by omega) _ _ h _ hl
end
