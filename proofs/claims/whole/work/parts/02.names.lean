/-! ===== BEGIN words of one list among another's, by their places ===== -/
theorem goodIn_r {big : List Cond} (ws : List Cond) (ps : List Nat) (hp : ws = ps.filterMap (fun i => big[i]?)) (h : ws.all goodWord = true) : GoodIn big ws := by
  intro w hw
  have h1 := List.all_eq_true.mp h w hw
  rw [hp] at hw
  obtain ⟨i, -, hi⟩ := List.mem_filterMap.mp hw
  have hm : w ∈ big := by first | exact List.mem_of_getElem? hi | exact List.getElem?_mem hi
  exact ⟨hm, good_of_word h1⟩
theorem goodIn_app {big a b : List Cond} (ha : GoodIn big a) (hb : GoodIn big b) : GoodIn big (a ++ b) := fun w h => (List.mem_append.mp h).elim (ha w) (hb w)
theorem goodIn_ca {big a b : List Cond} {c : Cond} (ha : GoodIn big (c :: a)) (hb : GoodIn big b) : GoodIn big (c :: (a ++ b)) := fun w h => (List.mem_cons.mp h).elim (fun e => ha w (List.mem_cons.mpr (Or.inl e))) (fun h => (List.mem_append.mp h).elim (fun h => ha w (List.mem_cons.mpr (Or.inr h))) (hb w))
theorem goodIn_sub {big ws : List Cond} (hm : ∀ w ∈ ws, w ∈ big) (h : ws.all goodWord = true) : GoodIn big ws := fun w hw => ⟨hm w hw, good_of_word (List.all_eq_true.mp h w hw)⟩
/-! ===== END ===== -/

/-! ===== BEGIN printed: names, fields, word lists, decode rows ===== -/
def RX0 : String := "LentViews$Act"
def TX0 : u_T := fun k => match k with
  | 0 => ("LentViews$Act", "kind", "I", false)
  | 1 => ("LentViews$Act", "toWrite", "I", false)
  | 2 => ("LentViews$Act", "began", "I", false)
  | 3 => ("LentViews$Act", "stepsDone", "I", false)
  | 4 => ("LentViews$Act", "nextCell", "I", false)
  | 5 => ("LentViews$Act", "collects", "I", false)
  | 6 => ("LentViews$Act", "hasPhoto", "Z", false)
  | 7 => ("LentViews$Act", "lentBy", "I", false)
  | 8 => ("LentViews$Act", "photoValues", "[I", true)
  | 9 => ("LentViews$Act", "moved", "[I", true)
  | 10 => ("LentViews$Act", "versionsAhead", "[I", true)
  | _ => ("LentViews$Act", "reading", "LLentViews$Cells;", true)
def tyX0 : Nat → FieldType := fun k => match k with
  | 0 => .int
  | 1 => .int
  | 2 => .int
  | 3 => .int
  | 4 => .int
  | 5 => .int
  | 6 => .boolean
  | 7 => .int
  | 8 => .array .int
  | 9 => .array .int
  | 10 => .array .int
  | _ => .object "LentViews$Cells"
abbrev wsX00 : List Cond := u_ws RX0 TX0 12
theorem nmX0 : ∀ a, a < 12 → ∀ b, b < 12 → a ≠ b → (TX0 a).2.1 ≠ (TX0 b).2.1 := by decide +kernel
theorem tyX0_ok : ∀ k, k < 12 → parseFieldDescriptor (TX0 k).2.2.1 = some (tyX0 k) := by decide +kernel
abbrev cX0_init : ByteArray := prog_2_method_1_code
def yX0_init : MethodName := ⟨RX0, "<init>", "()V"⟩
abbrev cX0_become : ByteArray := prog_2_method_2_code
def yX0_become : MethodName := ⟨RX0, "become", "(III)V"⟩
abbrev cX0_isReading : ByteArray := prog_2_method_3_code
def yX0_isReading : MethodName := ⟨RX0, "isReading", "()Z"⟩
abbrev cX0_copyFrom : ByteArray := prog_2_method_4_code
def yX0_copyFrom : MethodName := ⟨RX0, "copyFrom", "(LLentViews$Act;)V"⟩
abbrev cX0_readOne : ByteArray := prog_2_method_5_code
def yX0_readOne : MethodName := ⟨RX0, "readOne", "(LLentViews$Cells;)V"⟩
abbrev cX0_endCollect : ByteArray := prog_2_method_6_code
def yX0_endCollect : MethodName := ⟨RX0, "endCollect", "(II)V"⟩
abbrev cX0_countMoves : ByteArray := prog_2_method_7_code
def yX0_countMoves : MethodName := ⟨RX0, "countMoves", "(I)Z"⟩
abbrev cX0_lowestMoved : ByteArray := prog_2_method_8_code
def yX0_lowestMoved : MethodName := ⟨RX0, "lowestMoved", "(II)I"⟩
abbrev cX0_takePhoto : ByteArray := prog_2_method_9_code
def yX0_takePhoto : MethodName := ⟨RX0, "takePhoto", "([III)V"⟩
def RX1 : String := "LentViews$Album"
def TX1 : u_T := fun k => match k with
  | 0 => ("LentViews$Album", "size", "I", false)
  | _ => ("LentViews$Album", "facts", "[I", true)
def tyX1 : Nat → FieldType := fun k => match k with
  | 0 => .int
  | _ => .array .int
abbrev wsX10 : List Cond := u_ws RX1 TX1 2
theorem nmX1 : ∀ a, a < 2 → ∀ b, b < 2 → a ≠ b → (TX1 a).2.1 ≠ (TX1 b).2.1 := by decide +kernel
theorem tyX1_ok : ∀ k, k < 2 → parseFieldDescriptor (TX1 k).2.2.1 = some (tyX1 k) := by decide +kernel
abbrev cX1_init : ByteArray := prog_3_method_1_code
def yX1_init : MethodName := ⟨RX1, "<init>", "()V"⟩
abbrev cX1_copyFrom : ByteArray := prog_3_method_2_code
def yX1_copyFrom : MethodName := ⟨RX1, "copyFrom", "(LLentViews$Album;)V"⟩
abbrev cX1_fact : ByteArray := prog_3_method_3_code
def yX1_fact : MethodName := ⟨RX1, "fact", "(II)I"⟩
abbrev cX1_add : ByteArray := prog_3_method_4_code
def yX1_add : MethodName := ⟨RX1, "add", "(ILLentViews$Act;II)V"⟩
abbrev cX1_countWith : ByteArray := prog_3_method_5_code
def yX1_countWith : MethodName := ⟨RX1, "countWith", "(II)I"⟩
abbrev cX1_leastReadsAbove : ByteArray := prog_3_method_6_code
def yX1_leastReadsAbove : MethodName := ⟨RX1, "leastReadsAbove", "(I)I"⟩
abbrev cX1_greatestReadsBelow : ByteArray := prog_3_method_7_code
def yX1_greatestReadsBelow : MethodName := ⟨RX1, "greatestReadsBelow", "(I)I"⟩
def RX2 : String := "LentViews$Cells"
def TX2 : u_T := fun k => match k with
  | 0 => ("LentViews$Cells", "values", "[I", true)
  | 1 => ("LentViews$Cells", "versions", "[I", true)
  | _ => ("LentViews$Cells", "views", "[I", true)
def tyX2 : Nat → FieldType := fun k => match k with
  | 0 => .array .int
  | 1 => .array .int
  | _ => .array .int
abbrev wsX20 : List Cond := u_ws RX2 TX2 3
theorem nmX2 : ∀ a, a < 3 → ∀ b, b < 3 → a ≠ b → (TX2 a).2.1 ≠ (TX2 b).2.1 := by decide +kernel
theorem tyX2_ok : ∀ k, k < 3 → parseFieldDescriptor (TX2 k).2.2.1 = some (tyX2 k) := by decide +kernel
abbrev cX2_init : ByteArray := prog_4_method_1_code
def yX2_init : MethodName := ⟨RX2, "<init>", "()V"⟩
abbrev cX2_clear : ByteArray := prog_4_method_2_code
def yX2_clear : MethodName := ⟨RX2, "clear", "()V"⟩
abbrev cX2_copyFrom : ByteArray := prog_4_method_3_code
def yX2_copyFrom : MethodName := ⟨RX2, "copyFrom", "(LLentViews$Cells;)V"⟩
abbrev cX2_copyOne : ByteArray := prog_4_method_4_code
def yX2_copyOne : MethodName := ⟨RX2, "copyOne", "(LLentViews$Cells;I)V"⟩
def RX3 : String := "LentViews$History"
def TX3 : u_T := fun k => match k with
  | 0 => ("LentViews$History", "size", "I", false)
  | 1 => ("LentViews$History", "times", "[I", true)
  | 2 => ("LentViews$History", "places", "[I", true)
  | 3 => ("LentViews$History", "written", "[I", true)
  | _ => ("LentViews$History", "valuesThen", "[I", true)
def tyX3 : Nat → FieldType := fun k => match k with
  | 0 => .int
  | 1 => .array .int
  | 2 => .array .int
  | 3 => .array .int
  | _ => .array .int
abbrev wsX30 : List Cond := u_ws RX3 TX3 5
theorem nmX3 : ∀ a, a < 5 → ∀ b, b < 5 → a ≠ b → (TX3 a).2.1 ≠ (TX3 b).2.1 := by decide +kernel
theorem tyX3_ok : ∀ k, k < 5 → parseFieldDescriptor (TX3 k).2.2.1 = some (tyX3 k) := by decide +kernel
abbrev cX3_init : ByteArray := prog_5_method_1_code
def yX3_init : MethodName := ⟨RX3, "<init>", "()V"⟩
abbrev cX3_copyFrom : ByteArray := prog_5_method_2_code
def yX3_copyFrom : MethodName := ⟨RX3, "copyFrom", "(LLentViews$History;)V"⟩
abbrev cX3_add : ByteArray := prog_5_method_3_code
def yX3_add : MethodName := ⟨RX3, "add", "(III)V"⟩
abbrev cX3_momentOf : ByteArray := prog_5_method_4_code
def yX3_momentOf : MethodName := ⟨RX3, "momentOf", "([II)I"⟩
abbrev cX3_wereAs : ByteArray := prog_5_method_5_code
def yX3_wereAs : MethodName := ⟨RX3, "wereAs", "([I)Z"⟩
def RX4 : String := "LentViews$World"
def TX4 : u_T := fun k => match k with
  | 0 => ("LentViews$World", "n", "I", false)
  | 1 => ("LentViews$World", "moves", "I", false)
  | 2 => ("LentViews$World", "wrap", "I", false)
  | 3 => ("LentViews$World", "time", "I", false)
  | 4 => ("LentViews$World", "actsBegun", "I", false)
  | 5 => ("LentViews$World", "cells", "LLentViews$Cells;", true)
  | 6 => ("LentViews$World", "acts", "[LLentViews$Act;", true)
  | 7 => ("LentViews$World", "album", "LLentViews$Album;", true)
  | _ => ("LentViews$World", "history", "LLentViews$History;", true)
def tyX4 : Nat → FieldType := fun k => match k with
  | 0 => .int
  | 1 => .int
  | 2 => .int
  | 3 => .int
  | 4 => .int
  | 5 => .object "LentViews$Cells"
  | 6 => .array (.object "LentViews$Act")
  | 7 => .object "LentViews$Album"
  | _ => .object "LentViews$History"
abbrev wsX40 : List Cond := u_ws RX4 TX4 9
theorem nmX4 : ∀ a, a < 9 → ∀ b, b < 9 → a ≠ b → (TX4 a).2.1 ≠ (TX4 b).2.1 := by decide +kernel
theorem tyX4_ok : ∀ k, k < 9 → parseFieldDescriptor (TX4 k).2.2.1 = some (tyX4 k) := by decide +kernel
abbrev cX4_init : ByteArray := prog_6_method_1_code
def yX4_init : MethodName := ⟨RX4, "<init>", "()V"⟩
abbrev cX4_restart : ByteArray := prog_6_method_2_code
def yX4_restart : MethodName := ⟨RX4, "restart", "(III)V"⟩
abbrev cX4_copyFrom : ByteArray := prog_6_method_3_code
def yX4_copyFrom : MethodName := ⟨RX4, "copyFrom", "(LLentViews$World;)V"⟩
abbrev cX4_has : ByteArray := prog_6_method_4_code
def yX4_has : MethodName := ⟨RX4, "has", "(I)Z"⟩
abbrev cX4_isIdle : ByteArray := prog_6_method_5_code
def yX4_isIdle : MethodName := ⟨RX4, "isIdle", "(I)Z"⟩
abbrev cX4_allIdle : ByteArray := prog_6_method_6_code
def yX4_allIdle : MethodName := ⟨RX4, "allIdle", "()Z"⟩
abbrev cX4_idleBits : ByteArray := prog_6_method_7_code
def yX4_idleBits : MethodName := ⟨RX4, "idleBits", "()I"⟩
abbrev cX4_beginAct : ByteArray := prog_6_method_8_code
def yX4_beginAct : MethodName := ⟨RX4, "beginAct", "(III)V"⟩
abbrev cX4_stepUpTo : ByteArray := prog_6_method_9_code
def yX4_stepUpTo : MethodName := ⟨RX4, "stepUpTo", "(II)I"⟩
abbrev cX4_stepOnce : ByteArray := prog_6_method_10_code
def yX4_stepOnce : MethodName := ⟨RX4, "stepOnce", "(I)V"⟩
abbrev cX4_writeOut : ByteArray := prog_6_method_11_code
def yX4_writeOut : MethodName := ⟨RX4, "writeOut", "(ILLentViews$Act;)V"⟩
abbrev cX4_versionBehind : ByteArray := prog_6_method_12_code
def yX4_versionBehind : MethodName := ⟨RX4, "versionBehind", "(I)I"⟩
def RX5 : String := "LentViews"
def TX5 : u_T := fun k => match k with
  | 0 => ("LentViews", "now", "LLentViews$World;", true)
  | 1 => ("LentViews", "stage", "LLentViews$World;", true)
  | 2 => ("LentViews", "past", "[LLentViews$World;", true)
  | 3 => ("LentViews", "pastNext", "I", false)
  | 4 => ("LentViews", "pastKnown", "I", false)
  | 5 => ("LentViews", "images", "[LLentViews$World;", true)
  | 6 => ("LentViews", "kept", "[Z", true)
  | 7 => ("LentViews", "seenA", "[I", true)
  | 8 => ("LentViews", "seenB", "[I", true)
  | 9 => ("LentViews", "seenReads", "[I", true)
  | 10 => ("LentViews", "seenCount", "I", false)
  | _ => ("LentViews", "readsByMoves", "[I", true)
def tyX5 : Nat → FieldType := fun k => match k with
  | 0 => .object "LentViews$World"
  | 1 => .object "LentViews$World"
  | 2 => .array (.object "LentViews$World")
  | 3 => .int
  | 4 => .int
  | 5 => .array (.object "LentViews$World")
  | 6 => .array .boolean
  | 7 => .array .int
  | 8 => .array .int
  | 9 => .array .int
  | 10 => .int
  | _ => .array .int
abbrev wsX50 : List Cond := u_ws RX5 TX5 12
theorem nmX5 : ∀ a, a < 12 → ∀ b, b < 12 → a ≠ b → (TX5 a).2.1 ≠ (TX5 b).2.1 := by decide +kernel
theorem tyX5_ok : ∀ k, k < 12 → parseFieldDescriptor (TX5 k).2.2.1 = some (tyX5 k) := by decide +kernel
abbrev cX5_init : ByteArray := prog_1_method_1_code
def yX5_init : MethodName := ⟨RX5, "<init>", "()V"⟩
abbrev cX5_begins : ByteArray := prog_1_method_2_code
def yX5_begins : MethodName := ⟨RX5, "begins", "(III)I"⟩
abbrev cX5_scans : ByteArray := prog_1_method_3_code
def yX5_scans : MethodName := ⟨RX5, "scans", "(I)I"⟩
abbrev cX5_writes : ByteArray := prog_1_method_4_code
def yX5_writes : MethodName := ⟨RX5, "writes", "(II)I"⟩
abbrev cX5_steps : ByteArray := prog_1_method_5_code
def yX5_steps : MethodName := ⟨RX5, "steps", "(II)I"⟩
abbrev cX5_undo : ByteArray := prog_1_method_6_code
def yX5_undo : MethodName := ⟨RX5, "undo", "()I"⟩
abbrev cX5_cell : ByteArray := prog_1_method_7_code
def yX5_cell : MethodName := ⟨RX5, "cell", "(II)I"⟩
abbrev cX5_writer : ByteArray := prog_1_method_8_code
def yX5_writer : MethodName := ⟨RX5, "writer", "(II)I"⟩
abbrev cX5_read : ByteArray := prog_1_method_9_code
def yX5_read : MethodName := ⟨RX5, "read", "(III)I"⟩
abbrev cX5_photo : ByteArray := prog_1_method_10_code
def yX5_photo : MethodName := ⟨RX5, "photo", "(II)I"⟩
abbrev cX5_lone : ByteArray := prog_1_method_11_code
def yX5_lone : MethodName := ⟨RX5, "lone", "(I)I"⟩
abbrev cX5_byTurns : ByteArray := prog_1_method_12_code
def yX5_byTurns : MethodName := ⟨RX5, "byTurns", "()I"⟩
abbrev cX5_reads : ByteArray := prog_1_method_13_code
def yX5_reads : MethodName := ⟨RX5, "reads", "(II)I"⟩
abbrev cX5_trial : ByteArray := prog_1_method_14_code
def yX5_trial : MethodName := ⟨RX5, "trial", "(III)I"⟩
abbrev cX5_sees : ByteArray := prog_1_method_15_code
def yX5_sees : MethodName := ⟨RX5, "sees", "(III)I"⟩
abbrev cX5_forget : ByteArray := prog_1_method_16_code
def yX5_forget : MethodName := ⟨RX5, "forget", "()I"⟩
abbrev cX5_which : ByteArray := prog_1_method_17_code
def yX5_which : MethodName := ⟨RX5, "which", "()I"⟩
abbrev cX5_ask : ByteArray := prog_1_method_18_code
def yX5_ask : MethodName := ⟨RX5, "ask", "()I"⟩
abbrev cX5_keep : ByteArray := prog_1_method_19_code
def yX5_keep : MethodName := ⟨RX5, "keep", "(I)I"⟩
abbrev cX5_back : ByteArray := prog_1_method_20_code
def yX5_back : MethodName := ⟨RX5, "back", "(I)I"⟩
abbrev cX5_count : ByteArray := prog_1_method_21_code
def yX5_count : MethodName := ⟨RX5, "count", "(I)I"⟩
abbrev cX5_isWithin : ByteArray := prog_1_method_22_code
def yX5_isWithin : MethodName := ⟨RX5, "isWithin", "(III)Z"⟩
abbrev cX5_isWrap : ByteArray := prog_1_method_23_code
def yX5_isWrap : MethodName := ⟨RX5, "isWrap", "(I)Z"⟩
abbrev cX5_isPace : ByteArray := prog_1_method_24_code
def yX5_isPace : MethodName := ⟨RX5, "isPace", "(I)Z"⟩
abbrev cX5_remember : ByteArray := prog_1_method_25_code
def yX5_remember : MethodName := ⟨RX5, "remember", "()V"⟩
abbrev cX5_beginAct : ByteArray := prog_1_method_26_code
def yX5_beginAct : MethodName := ⟨RX5, "beginAct", "(III)I"⟩
abbrev cX5_readsOfTrial : ByteArray := prog_1_method_27_code
def yX5_readsOfTrial : MethodName := ⟨RX5, "readsOfTrial", "(III)I"⟩
abbrev cX5_movesThatFit : ByteArray := prog_1_method_28_code
def yX5_movesThatFit : MethodName := ⟨RX5, "movesThatFit", "()I"⟩
abbrev cX5_fitsAllSeen : ByteArray := prog_1_method_29_code
def yX5_fitsAllSeen : MethodName := ⟨RX5, "fitsAllSeen", "(I)Z"⟩
abbrev cX5_mostAlike : ByteArray := prog_1_method_30_code
def yX5_mostAlike : MethodName := ⟨RX5, "mostAlike", "(III)I"⟩
abbrev cX5_countAlike : ByteArray := prog_1_method_31_code
def yX5_countAlike : MethodName := ⟨RX5, "countAlike", "(I)I"⟩
abbrev cX5_isIn : ByteArray := prog_1_method_32_code
def yX5_isIn : MethodName := ⟨RX5, "isIn", "(II)Z"⟩
abbrev cX5_copyAll : ByteArray := prog_1_method_33_code
def yX5_copyAll : MethodName := ⟨RX5, "copyAll", "([I[I)V"⟩
def RX6 : String := "LentViewsModel"
def TX6 : u_T := fun k => match k with
  | 0 => ("LentViewsModel", "thrown", "I", false)
  | 1 => ("LentViewsModel", "s", "[I", true)
  | 2 => ("LentViewsModel", "w", "[I", true)
  | 3 => ("LentViewsModel", "past", "[I", true)
  | 4 => ("LentViewsModel", "undoMany", "I", false)
  | 5 => ("LentViewsModel", "images", "[I", true)
  | 6 => ("LentViewsModel", "isKept", "[Z", true)
  | 7 => ("LentViewsModel", "seen", "[I", true)
  | 8 => ("LentViewsModel", "seenMany", "I", false)
  | _ => ("LentViewsModel", "took", "[I", true)
def tyX6 : Nat → FieldType := fun k => match k with
  | 0 => .int
  | 1 => .array .int
  | 2 => .array .int
  | 3 => .array .int
  | 4 => .int
  | 5 => .array .int
  | 6 => .array .boolean
  | 7 => .array .int
  | 8 => .int
  | _ => .array .int
abbrev wsX60 : List Cond := u_ws RX6 TX6 10
theorem nmX6 : ∀ a, a < 10 → ∀ b, b < 10 → a ≠ b → (TX6 a).2.1 ≠ (TX6 b).2.1 := by decide +kernel
theorem tyX6_ok : ∀ k, k < 10 → parseFieldDescriptor (TX6 k).2.2.1 = some (tyX6 k) := by decide +kernel
abbrev cX6_init : ByteArray := prog_8_method_1_code
def yX6_init : MethodName := ⟨RX6, "<init>", "()V"⟩
abbrev cX6_bares : ByteArray := prog_8_method_2_code
def yX6_bares : MethodName := ⟨RX6, "bares", "([IIII)V"⟩
abbrev cX6_in : ByteArray := prog_8_method_4_code
def yX6_in : MethodName := ⟨RX6, "in", "(III)Z"⟩
abbrev cX6_writerAt : ByteArray := prog_8_method_5_code
def yX6_writerAt : MethodName := ⟨RX6, "writerAt", "(I)I"⟩
abbrev cX6_cellAt : ByteArray := prog_8_method_6_code
def yX6_cellAt : MethodName := ⟨RX6, "cellAt", "(I)I"⟩
abbrev cX6_idles : ByteArray := prog_8_method_7_code
def yX6_idles : MethodName := ⟨RX6, "idles", "([II)V"⟩
abbrev cX6_acts : ByteArray := prog_8_method_8_code
def yX6_acts : MethodName := ⟨RX6, "acts", "([IIII)V"⟩
abbrev cX6_writesNow : ByteArray := prog_8_method_9_code
def yX6_writesNow : MethodName := ⟨RX6, "writesNow", "([II)V"⟩
abbrev cX6_takes : ByteArray := prog_8_method_10_code
def yX6_takes : MethodName := ⟨RX6, "takes", "([III)V"⟩
abbrev cX6_counts : ByteArray := prog_8_method_11_code
def yX6_counts : MethodName := ⟨RX6, "counts", "([II)Z"⟩
abbrev cX6_lender : ByteArray := prog_8_method_12_code
def yX6_lender : MethodName := ⟨RX6, "lender", "([II)I"⟩
abbrev cX6_step : ByteArray := prog_8_method_13_code
def yX6_step : MethodName := ⟨RX6, "step", "([II)V"⟩
abbrev cX6_notes : ByteArray := prog_8_method_14_code
def yX6_notes : MethodName := ⟨RX6, "notes", "()V"⟩
abbrev cX6_isWriter : ByteArray := prog_8_method_15_code
def yX6_isWriter : MethodName := ⟨RX6, "isWriter", "(I)Z"⟩
abbrev cX6_isIdle : ByteArray := prog_8_method_16_code
def yX6_isIdle : MethodName := ⟨RX6, "isIdle", "(I)Z"⟩
abbrev cX6_begins : ByteArray := prog_8_method_17_code
def yX6_begins : MethodName := ⟨RX6, "begins", "(III)I"⟩
abbrev cX6_begun : ByteArray := prog_8_method_18_code
def yX6_begun : MethodName := ⟨RX6, "begun", "(III)I"⟩
abbrev cX6_scans : ByteArray := prog_8_method_19_code
def yX6_scans : MethodName := ⟨RX6, "scans", "(I)I"⟩
abbrev cX6_writes : ByteArray := prog_8_method_20_code
def yX6_writes : MethodName := ⟨RX6, "writes", "(II)I"⟩
abbrev cX6_steps : ByteArray := prog_8_method_21_code
def yX6_steps : MethodName := ⟨RX6, "steps", "(II)I"⟩
abbrev cX6_undo : ByteArray := prog_8_method_22_code
def yX6_undo : MethodName := ⟨RX6, "undo", "()I"⟩
abbrev cX6_isCell : ByteArray := prog_8_method_23_code
def yX6_isCell : MethodName := ⟨RX6, "isCell", "(I)Z"⟩
abbrev cX6_cell : ByteArray := prog_8_method_24_code
def yX6_cell : MethodName := ⟨RX6, "cell", "(II)I"⟩
abbrev cX6_writer : ByteArray := prog_8_method_25_code
def yX6_writer : MethodName := ⟨RX6, "writer", "(II)I"⟩
abbrev cX6_read : ByteArray := prog_8_method_26_code
def yX6_read : MethodName := ⟨RX6, "read", "(III)I"⟩
abbrev cX6_valueAt : ByteArray := prog_8_method_27_code
def yX6_valueAt : MethodName := ⟨RX6, "valueAt", "(II)I"⟩
abbrev cX6_momentOf : ByteArray := prog_8_method_28_code
def yX6_momentOf : MethodName := ⟨RX6, "momentOf", "(I)I"⟩
abbrev cX6_photo : ByteArray := prog_8_method_29_code
def yX6_photo : MethodName := ⟨RX6, "photo", "(II)I"⟩
abbrev cX6_asNow : ByteArray := prog_8_method_30_code
def yX6_asNow : MethodName := ⟨RX6, "asNow", "()V"⟩
abbrev cX6_lone : ByteArray := prog_8_method_31_code
def yX6_lone : MethodName := ⟨RX6, "lone", "(I)I"⟩
abbrev cX6_byTurns : ByteArray := prog_8_method_32_code
def yX6_byTurns : MethodName := ⟨RX6, "byTurns", "()I"⟩
abbrev cX6_reads : ByteArray := prog_8_method_33_code
def yX6_reads : MethodName := ⟨RX6, "reads", "(II)I"⟩
abbrev cX6_trialOf : ByteArray := prog_8_method_34_code
def yX6_trialOf : MethodName := ⟨RX6, "trialOf", "(III)I"⟩
abbrev cX6_isTrial : ByteArray := prog_8_method_35_code
def yX6_isTrial : MethodName := ⟨RX6, "isTrial", "(II)Z"⟩
abbrev cX6_trial : ByteArray := prog_8_method_36_code
def yX6_trial : MethodName := ⟨RX6, "trial", "(III)I"⟩
abbrev cX6_sees : ByteArray := prog_8_method_37_code
def yX6_sees : MethodName := ⟨RX6, "sees", "(III)I"⟩
abbrev cX6_forget : ByteArray := prog_8_method_38_code
def yX6_forget : MethodName := ⟨RX6, "forget", "()I"⟩
abbrev cX6_movesSet : ByteArray := prog_8_method_39_code
def yX6_movesSet : MethodName := ⟨RX6, "movesSet", "()I"⟩
abbrev cX6_which : ByteArray := prog_8_method_40_code
def yX6_which : MethodName := ⟨RX6, "which", "()I"⟩
abbrev cX6_mostAlike : ByteArray := prog_8_method_41_code
def yX6_mostAlike : MethodName := ⟨RX6, "mostAlike", "(III)I"⟩
abbrev cX6_ask : ByteArray := prog_8_method_42_code
def yX6_ask : MethodName := ⟨RX6, "ask", "()I"⟩
abbrev cX6_keep : ByteArray := prog_8_method_43_code
def yX6_keep : MethodName := ⟨RX6, "keep", "(I)I"⟩
abbrev cX6_back : ByteArray := prog_8_method_44_code
def yX6_back : MethodName := ⟨RX6, "back", "(I)I"⟩
abbrev cX6_photosBy : ByteArray := prog_8_method_45_code
def yX6_photosBy : MethodName := ⟨RX6, "photosBy", "(Z)I"⟩
abbrev cX6_idleOnes : ByteArray := prog_8_method_46_code
def yX6_idleOnes : MethodName := ⟨RX6, "idleOnes", "()I"⟩
abbrev cX6_count : ByteArray := prog_8_method_47_code
def yX6_count : MethodName := ⟨RX6, "count", "(I)I"⟩
def RJ6 : String := "java/lang/Integer"
def TJ6 : u_T := fun k => match k with
  | _ => ("", "", "", false)
def tyJ6 : Nat → FieldType := fun k => match k with
  | _ => .int
abbrev wsJ60 : List Cond := u_ws RJ6 TJ6 0
theorem nmJ6 : ∀ a, a < 0 → ∀ b, b < 0 → a ≠ b → (TJ6 a).2.1 ≠ (TJ6 b).2.1 := by decide +kernel
theorem tyJ6_ok : ∀ k, k < 0 → parseFieldDescriptor (TJ6 k).2.2.1 = some (tyJ6 k) := by decide +kernel
abbrev cJ6_bitCount_0f7a4 : ByteArray := prog_9_method_49_code
def yJ6_bitCount_0f7a4 : MethodName := ⟨RJ6, "bitCount", "(I)I"⟩
def RJ9 : String := "java/lang/Math"
def TJ9 : u_T := fun k => match k with
  | _ => ("", "", "", false)
def tyJ9 : Nat → FieldType := fun k => match k with
  | _ => .int
abbrev wsJ90 : List Cond := u_ws RJ9 TJ9 0
theorem nmJ9 : ∀ a, a < 0 → ∀ b, b < 0 → a ≠ b → (TJ9 a).2.1 ≠ (TJ9 b).2.1 := by decide +kernel
theorem tyJ9_ok : ∀ k, k < 0 → parseFieldDescriptor (TJ9 k).2.2.1 = some (tyJ9 k) := by decide +kernel
abbrev cJ9_max_7cf53 : ByteArray := prog_10_method_65_code
def yJ9_max_7cf53 : MethodName := ⟨RJ9, "max", "(II)I"⟩
abbrev cJ9_min_7cf53 : ByteArray := prog_10_method_69_code
def yJ9_min_7cf53 : MethodName := ⟨RJ9, "min", "(II)I"⟩
def RJ10 : String := "java/lang/System"
def TJ10 : u_T := fun k => match k with
  | _ => ("", "", "", false)
def tyJ10 : Nat → FieldType := fun k => match k with
  | _ => .int
abbrev wsJ100 : List Cond := u_ws RJ10 TJ10 0
theorem nmJ10 : ∀ a, a < 0 → ∀ b, b < 0 → a ≠ b → (TJ10 a).2.1 ≠ (TJ10 b).2.1 := by decide +kernel
theorem tyJ10_ok : ∀ k, k < 0 → parseFieldDescriptor (TJ10 k).2.2.1 = some (tyJ10 k) := by decide +kernel
def RJ7 : String := "java/util/Arrays"
def TJ7 : u_T := fun k => match k with
  | _ => ("", "", "", false)
def tyJ7 : Nat → FieldType := fun k => match k with
  | _ => .int
abbrev wsJ70 : List Cond := u_ws RJ7 TJ7 0
theorem nmJ7 : ∀ a, a < 0 → ∀ b, b < 0 → a ≠ b → (TJ7 a).2.1 ≠ (TJ7 b).2.1 := by decide +kernel
theorem tyJ7_ok : ∀ k, k < 0 → parseFieldDescriptor (TJ7 k).2.2.1 = some (tyJ7 k) := by decide +kernel
abbrev cJ7_fill_53178 : ByteArray := prog_12_method_103_code
def yJ7_fill_53178 : MethodName := ⟨RJ7, "fill", "([II)V"⟩
def RL : String := "LentViewsLaw"
abbrev cL_law : ByteArray := code
def yL_law : MethodName := ⟨RL, "law", "([I)Z"⟩
abbrev vwCl : List vw_C := [(RX0, TX0, 12), (RX1, TX1, 2), (RX2, TX2, 3), (RX3, TX3, 5), (RX4, TX4, 9), (RX5, TX5, 12), (RX6, TX6, 10)]
