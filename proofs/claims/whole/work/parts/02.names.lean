-- ===== PART A: goes FIRST, ahead of the names: the tables' words, and 'selects' of the private methods out of them =====
/-- a private method of a class that the tables say can be made, by its rows of tables_1 -/
def lw_okq (q : MethodName × Nat) : Prop := (q.1.cls ≠ "java/lang/invoke/MethodHandle" ∧ q.1.cls ≠ "java/lang/invoke/VarHandle") ∧ Cond.instantiable q.1.cls q.2 ∈ tables_1 ∧ Cond.privateMethod q.1 ∈ tables_1 ∧ Cond.instanceMethod q.1 ∈ tables_1
theorem lw_p0 : lw_okq (⟨"SegmentLogs", "segmentOf", "(I)I"⟩, 7) := ⟨⟨by decide +kernel, by decide +kernel⟩, List.mem_of_getElem? (i := 10) (by decide +kernel), List.mem_of_getElem? (i := 49) (by decide +kernel), List.mem_of_getElem? (i := 50) (by decide +kernel)⟩
theorem lw_p1 : lw_okq (⟨"SegmentLogs", "markTaken", "(I)V"⟩, 7) := ⟨⟨by decide +kernel, by decide +kernel⟩, List.mem_of_getElem? (i := 10) (by decide +kernel), List.mem_of_getElem? (i := 53) (by decide +kernel), List.mem_of_getElem? (i := 54) (by decide +kernel)⟩
theorem lw_p2 : lw_okq (⟨"SegmentLogs", "isSegment", "(I)Z"⟩, 7) := ⟨⟨by decide +kernel, by decide +kernel⟩, List.mem_of_getElem? (i := 10) (by decide +kernel), List.mem_of_getElem? (i := 57) (by decide +kernel), List.mem_of_getElem? (i := 58) (by decide +kernel)⟩
theorem lw_p3 : lw_okq (⟨"SegmentLogs", "isFree", "(I)Z"⟩, 7) := ⟨⟨by decide +kernel, by decide +kernel⟩, List.mem_of_getElem? (i := 10) (by decide +kernel), List.mem_of_getElem? (i := 65) (by decide +kernel), List.mem_of_getElem? (i := 66) (by decide +kernel)⟩
theorem lw_p4 : lw_okq (⟨"SegmentLogs", "gentleWorth", "(II)I"⟩, 7) := ⟨⟨by decide +kernel, by decide +kernel⟩, List.mem_of_getElem? (i := 10) (by decide +kernel), List.mem_of_getElem? (i := 84) (by decide +kernel), List.mem_of_getElem? (i := 85) (by decide +kernel)⟩
theorem lw_p5 : lw_okq (⟨"java/lang/Throwable", "fillInStackTrace", "(I)Ljava/lang/Throwable;"⟩, 6) := ⟨⟨by decide +kernel, by decide +kernel⟩, List.mem_of_getElem? (i := 140) (by decide +kernel), List.mem_of_getElem? (i := 138) (by decide +kernel), List.mem_of_getElem? (i := 139) (by decide +kernel)⟩
theorem lw_p6 : lw_okq (⟨"SegmentLogs", "blockAfter", "(I)I"⟩, 7) := ⟨⟨by decide +kernel, by decide +kernel⟩, List.mem_of_getElem? (i := 10) (by decide +kernel), List.mem_of_getElem? (i := 170) (by decide +kernel), List.mem_of_getElem? (i := 171) (by decide +kernel)⟩
theorem lw_p7 : lw_okq (⟨"SegmentLogs", "lowestFree", "()I"⟩, 7) := ⟨⟨by decide +kernel, by decide +kernel⟩, List.mem_of_getElem? (i := 10) (by decide +kernel), List.mem_of_getElem? (i := 177) (by decide +kernel), List.mem_of_getElem? (i := 178) (by decide +kernel)⟩
theorem lw_p8 : lw_okq (⟨"SegmentLogs", "putInUse", "(I)V"⟩, 7) := ⟨⟨by decide +kernel, by decide +kernel⟩, List.mem_of_getElem? (i := 10) (by decide +kernel), List.mem_of_getElem? (i := 197) (by decide +kernel), List.mem_of_getElem? (i := 198) (by decide +kernel)⟩
theorem lw_p9 : lw_okq (⟨"SegmentLogs", "moveLog", "(II)V"⟩, 7) := ⟨⟨by decide +kernel, by decide +kernel⟩, List.mem_of_getElem? (i := 10) (by decide +kernel), List.mem_of_getElem? (i := 204) (by decide +kernel), List.mem_of_getElem? (i := 205) (by decide +kernel)⟩
theorem lw_p10 : lw_okq (⟨"SegmentLogsModel", "lowest", "()I"⟩, 9) := ⟨⟨by decide +kernel, by decide +kernel⟩, List.mem_of_getElem? (i := 240) (by decide +kernel), List.mem_of_getElem? (i := 282) (by decide +kernel), List.mem_of_getElem? (i := 283) (by decide +kernel)⟩
theorem lw_p11 : lw_okq (⟨"SegmentLogsModel", "isFree", "(I)Z"⟩, 9) := ⟨⟨by decide +kernel, by decide +kernel⟩, List.mem_of_getElem? (i := 240) (by decide +kernel), List.mem_of_getElem? (i := 286) (by decide +kernel), List.mem_of_getElem? (i := 287) (by decide +kernel)⟩
theorem lw_p12 : lw_okq (⟨"SegmentLogsModel", "isTaken", "(I)Z"⟩, 9) := ⟨⟨by decide +kernel, by decide +kernel⟩, List.mem_of_getElem? (i := 240) (by decide +kernel), List.mem_of_getElem? (i := 290) (by decide +kernel), List.mem_of_getElem? (i := 291) (by decide +kernel)⟩
theorem lw_p13 : lw_okq (⟨"SegmentLogsModel", "throwing", "(ZZ)Z"⟩, 9) := ⟨⟨by decide +kernel, by decide +kernel⟩, List.mem_of_getElem? (i := 240) (by decide +kernel), List.mem_of_getElem? (i := 294) (by decide +kernel), List.mem_of_getElem? (i := 295) (by decide +kernel)⟩
theorem lw_p14 : lw_okq (⟨"SegmentLogsModel", "isNo", "(I)Z"⟩, 9) := ⟨⟨by decide +kernel, by decide +kernel⟩, List.mem_of_getElem? (i := 240) (by decide +kernel), List.mem_of_getElem? (i := 306) (by decide +kernel), List.mem_of_getElem? (i := 307) (by decide +kernel)⟩
theorem lw_p15 : lw_okq (⟨"SegmentLogsModel", "inUse", "(I)I"⟩, 9) := ⟨⟨by decide +kernel, by decide +kernel⟩, List.mem_of_getElem? (i := 240) (by decide +kernel), List.mem_of_getElem? (i := 327) (by decide +kernel), List.mem_of_getElem? (i := 328) (by decide +kernel)⟩
def lw_privs_1 : List (MethodName × Nat) := [(⟨"SegmentLogs", "segmentOf", "(I)I"⟩, 7), (⟨"SegmentLogs", "markTaken", "(I)V"⟩, 7), (⟨"SegmentLogs", "isSegment", "(I)Z"⟩, 7), (⟨"SegmentLogs", "isFree", "(I)Z"⟩, 7), (⟨"SegmentLogs", "gentleWorth", "(II)I"⟩, 7), (⟨"java/lang/Throwable", "fillInStackTrace", "(I)Ljava/lang/Throwable;"⟩, 6), (⟨"SegmentLogs", "blockAfter", "(I)I"⟩, 7), (⟨"SegmentLogs", "lowestFree", "()I"⟩, 7), (⟨"SegmentLogs", "putInUse", "(I)V"⟩, 7), (⟨"SegmentLogs", "moveLog", "(II)V"⟩, 7), (⟨"SegmentLogsModel", "lowest", "()I"⟩, 9), (⟨"SegmentLogsModel", "isFree", "(I)Z"⟩, 9), (⟨"SegmentLogsModel", "isTaken", "(I)Z"⟩, 9), (⟨"SegmentLogsModel", "throwing", "(ZZ)Z"⟩, 9), (⟨"SegmentLogsModel", "isNo", "(I)Z"⟩, 9), (⟨"SegmentLogsModel", "inUse", "(I)I"⟩, 9)]
theorem lw_r1 : ∀ q ∈ lw_privs_1, lw_okq q := List.forall_mem_cons.mpr ⟨lw_p0, List.forall_mem_cons.mpr ⟨lw_p1, List.forall_mem_cons.mpr ⟨lw_p2, List.forall_mem_cons.mpr ⟨lw_p3, List.forall_mem_cons.mpr ⟨lw_p4, List.forall_mem_cons.mpr ⟨lw_p5, List.forall_mem_cons.mpr ⟨lw_p6, List.forall_mem_cons.mpr ⟨lw_p7, List.forall_mem_cons.mpr ⟨lw_p8, List.forall_mem_cons.mpr ⟨lw_p9, List.forall_mem_cons.mpr ⟨lw_p10, List.forall_mem_cons.mpr ⟨lw_p11, List.forall_mem_cons.mpr ⟨lw_p12, List.forall_mem_cons.mpr ⟨lw_p13, List.forall_mem_cons.mpr ⟨lw_p14, List.forall_mem_cons.mpr ⟨lw_p15, fun _ h => absurd h List.not_mem_nil⟩⟩⟩⟩⟩⟩⟩⟩⟩⟩⟩⟩⟩⟩⟩⟩
def lw_privs : List (MethodName × Nat) := lw_privs_1
def lw_tbl : List Cond := k2_sels lw_privs ++ tables_1
theorem lw_privs_ok : ∀ q ∈ lw_privs, lw_okq q := lw_r1
def RX0 : String := "SegmentLogs"
def TX0 : u_T := fun k => match k with
  | 0 => ("SegmentLogs", "segments", "I", true)
  | 1 => ("SegmentLogs", "usedNow", "[I", true)
  | 2 => ("SegmentLogs", "usedThen", "[I", true)
  | 3 => ("SegmentLogs", "ages", "[I", true)
  | 4 => ("SegmentLogs", "taken", "[Z", true)
  | 5 => ("SegmentLogs", "nextBlocks", "[I", true)
  | _ => ("SegmentLogs", "takings", "I", false)
def tyX0 : Nat → FieldType := fun k => match k with
  | 0 => .int
  | 1 => .array .int
  | 2 => .array .int
  | 3 => .array .int
  | 4 => .array .boolean
  | 5 => .array .int
  | _ => .int
abbrev wsX00 : List Cond := u_ws RX0 TX0 7
theorem nmX0 : ∀ a, a < 7 → ∀ b, b < 7 → a ≠ b → (TX0 a).2.1 ≠ (TX0 b).2.1 := by decide +kernel
theorem tyX0_ok : ∀ k, k < 7 → parseFieldDescriptor (TX0 k).2.2.1 = some (tyX0 k) := by decide +kernel
abbrev cX0_init : ByteArray := prog_1_method_1_code
def yX0_init : MethodName := ⟨RX0, "<init>", "(I)V"⟩
abbrev cX0_take : ByteArray := prog_1_method_2_code
def yX0_take : MethodName := ⟨RX0, "take", "(I)I"⟩
abbrev cX0_next : ByteArray := prog_1_method_3_code
def yX0_next : MethodName := ⟨RX0, "next", "(I)I"⟩
abbrev cX0_drop : ByteArray := prog_1_method_4_code
def yX0_drop : MethodName := ⟨RX0, "drop", "(I)V"⟩
abbrev cX0_isUsed : ByteArray := prog_1_method_5_code
def yX0_isUsed : MethodName := ⟨RX0, "isUsed", "(I)Z"⟩
abbrev cX0_checkpoint : ByteArray := prog_1_method_6_code
def yX0_checkpoint : MethodName := ⟨RX0, "checkpoint", "()I"⟩
abbrev cX0_free : ByteArray := prog_1_method_7_code
def yX0_free : MethodName := ⟨RX0, "free", "()I"⟩
abbrev cX0_used : ByteArray := prog_1_method_8_code
def yX0_used : MethodName := ⟨RX0, "used", "()I"⟩
abbrev cX0_victim : ByteArray := prog_1_method_9_code
def yX0_victim : MethodName := ⟨RX0, "victim", "(Z)I"⟩
abbrev cX0_look : ByteArray := prog_1_method_10_code
def yX0_look : MethodName := ⟨RX0, "look", "(II)I"⟩
abbrev cX0_isLog : ByteArray := prog_1_method_11_code
def yX0_isLog : MethodName := ⟨RX0, "isLog", "(I)Z"⟩
abbrev cX0_isSegment : ByteArray := prog_1_method_12_code
def yX0_isSegment : MethodName := ⟨RX0, "isSegment", "(I)Z"⟩
abbrev cX0_firstBlockOf : ByteArray := prog_1_method_13_code
def yX0_firstBlockOf : MethodName := ⟨RX0, "firstBlockOf", "(I)I"⟩
abbrev cX0_segmentOf : ByteArray := prog_1_method_14_code
def yX0_segmentOf : MethodName := ⟨RX0, "segmentOf", "(I)I"⟩
abbrev cX0_placeOf : ByteArray := prog_1_method_15_code
def yX0_placeOf : MethodName := ⟨RX0, "placeOf", "(I)I"⟩
abbrev cX0_bitOf : ByteArray := prog_1_method_16_code
def yX0_bitOf : MethodName := ⟨RX0, "bitOf", "(I)I"⟩
abbrev cX0_isFree : ByteArray := prog_1_method_17_code
def yX0_isFree : MethodName := ⟨RX0, "isFree", "(I)Z"⟩
abbrev cX0_lowestFree : ByteArray := prog_1_method_18_code
def yX0_lowestFree : MethodName := ⟨RX0, "lowestFree", "()I"⟩
abbrev cX0_blockAfter : ByteArray := prog_1_method_19_code
def yX0_blockAfter : MethodName := ⟨RX0, "blockAfter", "(I)I"⟩
abbrev cX0_putInUse : ByteArray := prog_1_method_20_code
def yX0_putInUse : MethodName := ⟨RX0, "putInUse", "(I)V"⟩
abbrev cX0_moveLog : ByteArray := prog_1_method_21_code
def yX0_moveLog : MethodName := ⟨RX0, "moveLog", "(II)V"⟩
abbrev cX0_markTaken : ByteArray := prog_1_method_22_code
def yX0_markTaken : MethodName := ⟨RX0, "markTaken", "(I)V"⟩
abbrev cX0_gentleWorth : ByteArray := prog_1_method_23_code
def yX0_gentleWorth : MethodName := ⟨RX0, "gentleWorth", "(II)I"⟩

def RX1 : String := "SegmentLogsModel"
def TX1 : u_T := fun k => match k with
  | 0 => ("SegmentLogsModel", "thrown", "I", false)
  | 1 => ("SegmentLogsModel", "segments", "I", true)
  | 2 => ("SegmentLogsModel", "used", "[Z", true)
  | 3 => ("SegmentLogsModel", "then", "[Z", true)
  | 4 => ("SegmentLogsModel", "touched", "[Z", true)
  | 5 => ("SegmentLogsModel", "latest", "[I", true)
  | 6 => ("SegmentLogsModel", "open", "[I", true)
  | 7 => ("SegmentLogsModel", "next", "[I", true)
  | _ => ("SegmentLogsModel", "takings", "I", false)
def tyX1 : Nat → FieldType := fun k => match k with
  | 0 => .int
  | 1 => .int
  | 2 => .array .boolean
  | 3 => .array .boolean
  | 4 => .array .boolean
  | 5 => .array .int
  | 6 => .array .int
  | 7 => .array .int
  | _ => .int
abbrev wsX10 : List Cond := u_ws RX1 TX1 9
theorem nmX1 : ∀ a, a < 9 → ∀ b, b < 9 → a ≠ b → (TX1 a).2.1 ≠ (TX1 b).2.1 := by decide +kernel
theorem tyX1_ok : ∀ k, k < 9 → parseFieldDescriptor (TX1 k).2.2.1 = some (tyX1 k) := by decide +kernel
abbrev cX1_init : ByteArray := prog_3_method_1_code
def yX1_init : MethodName := ⟨RX1, "<init>", "(I)V"⟩
abbrev cX1_thrown : ByteArray := prog_3_method_2_code
def yX1_thrown : MethodName := ⟨RX1, "thrown", "()I"⟩
abbrev cX1_throwing : ByteArray := prog_3_method_3_code
def yX1_throwing : MethodName := ⟨RX1, "throwing", "(ZZ)Z"⟩
abbrev cX1_isTaken : ByteArray := prog_3_method_4_code
def yX1_isTaken : MethodName := ⟨RX1, "isTaken", "(I)Z"⟩
abbrev cX1_inUse : ByteArray := prog_3_method_5_code
def yX1_inUse : MethodName := ⟨RX1, "inUse", "(I)I"⟩
abbrev cX1_isFree : ByteArray := prog_3_method_6_code
def yX1_isFree : MethodName := ⟨RX1, "isFree", "(I)Z"⟩
abbrev cX1_lowest : ByteArray := prog_3_method_7_code
def yX1_lowest : MethodName := ⟨RX1, "lowest", "()I"⟩
abbrev cX1_take : ByteArray := prog_3_method_8_code
def yX1_take : MethodName := ⟨RX1, "take", "(I)I"⟩
abbrev cX1_next : ByteArray := prog_3_method_9_code
def yX1_next : MethodName := ⟨RX1, "next", "(I)I"⟩
abbrev cX1_isNo : ByteArray := prog_3_method_10_code
def yX1_isNo : MethodName := ⟨RX1, "isNo", "(I)Z"⟩
abbrev cX1_drop : ByteArray := prog_3_method_11_code
def yX1_drop : MethodName := ⟨RX1, "drop", "(I)V"⟩
abbrev cX1_isUsed : ByteArray := prog_3_method_12_code
def yX1_isUsed : MethodName := ⟨RX1, "isUsed", "(I)Z"⟩
abbrev cX1_checkpoint : ByteArray := prog_3_method_13_code
def yX1_checkpoint : MethodName := ⟨RX1, "checkpoint", "()I"⟩
abbrev cX1_free : ByteArray := prog_3_method_14_code
def yX1_free : MethodName := ⟨RX1, "free", "()I"⟩
abbrev cX1_used : ByteArray := prog_3_method_15_code
def yX1_used : MethodName := ⟨RX1, "used", "()I"⟩
abbrev cX1_victim : ByteArray := prog_3_method_16_code
def yX1_victim : MethodName := ⟨RX1, "victim", "(Z)I"⟩
abbrev cX1_look : ByteArray := prog_3_method_17_code
def yX1_look : MethodName := ⟨RX1, "look", "(II)I"⟩

def RJ6 : String := "java/lang/Integer"
def TJ6 : u_T := fun k => match k with
  | _ => ("", "", "", false)
def tyJ6 : Nat → FieldType := fun k => match k with
  | _ => .int
abbrev wsJ60 : List Cond := u_ws RJ6 TJ6 0
theorem nmJ6 : ∀ a, a < 0 → ∀ b, b < 0 → a ≠ b → (TJ6 a).2.1 ≠ (TJ6 b).2.1 := by decide +kernel
theorem tyJ6_ok : ∀ k, k < 0 → parseFieldDescriptor (TJ6 k).2.2.1 = some (tyJ6 k) := by decide +kernel
abbrev cJ6_bitCount_0f7a4 : ByteArray := prog_7_method_49_code
def yJ6_bitCount_0f7a4 : MethodName := ⟨RJ6, "bitCount", "(I)I"⟩

def RL : String := "SegmentLogsLaw"
abbrev cL_cell : ByteArray := method_2_code
def yL_cell : MethodName := ⟨RL, "cell", "([II)I"⟩
abbrev cL_take : ByteArray := method_3_code
def yL_take : MethodName := ⟨RL, "take", "(LSegmentLogs;I[J)I"⟩
abbrev cL_next : ByteArray := method_4_code
def yL_next : MethodName := ⟨RL, "next", "(LSegmentLogs;I[J)I"⟩
abbrev cL_drop : ByteArray := method_5_code
def yL_drop : MethodName := ⟨RL, "drop", "(LSegmentLogs;I)I"⟩
abbrev cL_isUsed : ByteArray := method_6_code
def yL_isUsed : MethodName := ⟨RL, "isUsed", "(LSegmentLogs;I[J)I"⟩
abbrev cL_look : ByteArray := method_7_code
def yL_look : MethodName := ⟨RL, "look", "(LSegmentLogs;II[J)I"⟩
abbrev cL_law : ByteArray := code
def yL_law : MethodName := ⟨RL, "law", "([I)Z"⟩
/-- the good words of the tables: every method's own list is its code and these -/
def xT : List Cond := lw_tbl.filter goodWord
theorem xT_in {w : Cond} (h : w ∈ xT) : w ∈ lw_tbl := (List.mem_filter.mp h).1
theorem xT_good : GoodIn xT xT := fun w h => ⟨h, good_of_word (List.mem_filter.mp h).2⟩
def xw (y : MethodName) (b : ByteArray) (n : Nat) (r : Option FieldType) : List Cond := .code y b n r :: xT
theorem xw_good {y : MethodName} {b : ByteArray} {n : Nat} {r : Option FieldType} (h : .code y b n r ∈ xT) : GoodIn xT (xw y b n r) := fun w hw => (List.mem_cons.mp hw).elim (fun e => by rw [e]; exact xT_good _ h) (fun h => xT_good w h)
theorem xg_V {own C : String} {i : Nat} {y : MethodName} {b : ByteArray} {n : Nat} {r : Option FieldType} (h1 : .methodLink own i y ∈ xT) (h2 : .instanceMethod y ∈ xT) (h3 : .selects C y y ∈ xT) (h4 : .initialized C ∈ xT) (h5 : .code y b n r ∈ xT) : GoodIn xT (wsV own i C y (xw y b n r)) := fun w hw =>
  (List.mem_append.mp hw).elim (fun h => by
    rcases List.mem_cons.mp h with rfl | h
    · exact xT_good _ h1
    rcases List.mem_cons.mp h with rfl | h
    · exact xT_good _ h2
    rcases List.mem_cons.mp h with rfl | h
    · exact xT_good _ h3
    rcases List.mem_cons.mp h with rfl | h
    · exact xT_good _ h4
    cases h) (fun h => xw_good h5 w h)
theorem xg_S {own : String} {i : Nat} {y : MethodName} {b : ByteArray} {n : Nat} {r : Option FieldType} (h1 : .methodLink own i y ∈ xT) (h2 : .static y ∈ xT) (h4 : .initialized y.cls ∈ xT) (h5 : .code y b n r ∈ xT) : GoodIn xT (va_wsS own i y (xw y b n r)) := fun w hw =>
  (List.mem_append.mp hw).elim (fun h => by
    rcases List.mem_cons.mp h with rfl | h
    · exact xT_good _ h1
    rcases List.mem_cons.mp h with rfl | h
    · exact xT_good _ h2
    rcases List.mem_cons.mp h with rfl | h
    · exact xT_good _ h4
    cases h) (fun h => xw_good h5 w h)
theorem kin_RL : (.initialized RL : Cond) ∈ xT := List.mem_filter.mpr ⟨List.mem_of_getElem? (i := 16) (by decide +kernel), by decide +kernel⟩
theorem kin_RX0 : (.initialized RX0 : Cond) ∈ xT := List.mem_filter.mpr ⟨List.mem_of_getElem? (i := 17) (by decide +kernel), by decide +kernel⟩
theorem kin_RX1 : (.initialized RX1 : Cond) ∈ xT := List.mem_filter.mpr ⟨List.mem_of_getElem? (i := 18) (by decide +kernel), by decide +kernel⟩
theorem kin_java_lang_Throwable : (.initialized "java/lang/Throwable" : Cond) ∈ xT := List.mem_filter.mpr ⟨List.mem_of_getElem? (i := 19) (by decide +kernel), by decide +kernel⟩
theorem kin_java_lang_Exception : (.initialized "java/lang/Exception" : Cond) ∈ xT := List.mem_filter.mpr ⟨List.mem_of_getElem? (i := 20) (by decide +kernel), by decide +kernel⟩
theorem kin_java_lang_RuntimeException : (.initialized "java/lang/RuntimeException" : Cond) ∈ xT := List.mem_filter.mpr ⟨List.mem_of_getElem? (i := 21) (by decide +kernel), by decide +kernel⟩
theorem kin_java_lang_IllegalArgumentException : (.initialized "java/lang/IllegalArgumentException" : Cond) ∈ xT := List.mem_filter.mpr ⟨List.mem_of_getElem? (i := 22) (by decide +kernel), by decide +kernel⟩
theorem kin_java_lang_IllegalStateException : (.initialized "java/lang/IllegalStateException" : Cond) ∈ xT := List.mem_filter.mpr ⟨List.mem_of_getElem? (i := 23) (by decide +kernel), by decide +kernel⟩
theorem kin_RJ6 : (.initialized RJ6 : Cond) ∈ xT := List.mem_filter.mpr ⟨List.mem_of_getElem? (i := 24) (by decide +kernel), by decide +kernel⟩
theorem kcl_RL_8 : (.classLink RL 8 RX0 : Cond) ∈ xT := List.mem_filter.mpr ⟨List.mem_of_getElem? (i := 25) (by decide +kernel), by decide +kernel⟩
theorem kia_RX0 : (.instantiable RX0 7 : Cond) ∈ xT := List.mem_filter.mpr ⟨List.mem_of_getElem? (i := 26) (by decide +kernel), by decide +kernel⟩
theorem kml_RL_38 : (.methodLink RL 38 yX0_init : Cond) ∈ xT := List.mem_filter.mpr ⟨List.mem_of_getElem? (i := 27) (by decide +kernel), by decide +kernel⟩
theorem kim_yX0_init : (.instanceMethod yX0_init : Cond) ∈ xT := List.mem_filter.mpr ⟨List.mem_of_getElem? (i := 28) (by decide +kernel), by decide +kernel⟩
theorem kco_yX0_init : (.code yX0_init cX0_init 3 none : Cond) ∈ xT := List.mem_filter.mpr ⟨List.mem_of_getElem? (i := 29) (by decide +kernel), by decide +kernel⟩
theorem kml_RX0_1 : (.methodLink RX0 1 objectInit : Cond) ∈ xT := List.mem_filter.mpr ⟨List.mem_of_getElem? (i := 30) (by decide +kernel), by decide +kernel⟩
theorem kim_objectInit : (.instanceMethod objectInit : Cond) ∈ xT := List.mem_filter.mpr ⟨List.mem_of_getElem? (i := 31) (by decide +kernel), by decide +kernel⟩
theorem kco_objectInit : (.code objectInit ⟨#[0xb1]⟩ 1 none : Cond) ∈ xT := List.mem_filter.mpr ⟨List.mem_of_getElem? (i := 32) (by decide +kernel), by decide +kernel⟩
theorem kml_RX0_33 : (.methodLink RX0 33 yX0_firstBlockOf : Cond) ∈ xT := List.mem_filter.mpr ⟨List.mem_of_getElem? (i := 33) (by decide +kernel), by decide +kernel⟩
theorem kst_yX0_firstBlockOf : (.static yX0_firstBlockOf : Cond) ∈ xT := List.mem_filter.mpr ⟨List.mem_of_getElem? (i := 34) (by decide +kernel), by decide +kernel⟩
theorem kco_yX0_firstBlockOf : (.code yX0_firstBlockOf cX0_firstBlockOf 1 (some .int) : Cond) ∈ xT := List.mem_filter.mpr ⟨List.mem_of_getElem? (i := 35) (by decide +kernel), by decide +kernel⟩
theorem kfl_RX0_9 : (.fieldLink RX0 9 "SegmentLogs" "segments" "I" : Cond) ∈ xT := List.mem_filter.mpr ⟨List.mem_of_getElem? (i := 36) (by decide +kernel), by decide +kernel⟩
theorem kfl_RX0_13 : (.fieldLink RX0 13 "SegmentLogs" "usedNow" "[I" : Cond) ∈ xT := List.mem_filter.mpr ⟨List.mem_of_getElem? (i := 37) (by decide +kernel), by decide +kernel⟩
theorem kfl_RX0_17 : (.fieldLink RX0 17 "SegmentLogs" "usedThen" "[I" : Cond) ∈ xT := List.mem_filter.mpr ⟨List.mem_of_getElem? (i := 38) (by decide +kernel), by decide +kernel⟩
theorem kfl_RX0_20 : (.fieldLink RX0 20 "SegmentLogs" "ages" "[I" : Cond) ∈ xT := List.mem_filter.mpr ⟨List.mem_of_getElem? (i := 39) (by decide +kernel), by decide +kernel⟩
theorem kfl_RX0_23 : (.fieldLink RX0 23 "SegmentLogs" "taken" "[Z" : Cond) ∈ xT := List.mem_filter.mpr ⟨List.mem_of_getElem? (i := 40) (by decide +kernel), by decide +kernel⟩
theorem kfl_RX0_27 : (.fieldLink RX0 27 "SegmentLogs" "nextBlocks" "[I" : Cond) ∈ xT := List.mem_filter.mpr ⟨List.mem_of_getElem? (i := 41) (by decide +kernel), by decide +kernel⟩
theorem kfl_RX0_30 : (.fieldLink RX0 30 "SegmentLogs" "takings" "I" : Cond) ∈ xT := List.mem_filter.mpr ⟨List.mem_of_getElem? (i := 42) (by decide +kernel), by decide +kernel⟩
theorem kar_int : (.arrayClass .int : Cond) ∈ xT := List.mem_filter.mpr ⟨List.mem_of_getElem? (i := 58) (by decide +kernel), by decide +kernel⟩
theorem kar_boolean : (.arrayClass .boolean : Cond) ∈ xT := List.mem_filter.mpr ⟨List.mem_of_getElem? (i := 59) (by decide +kernel), by decide +kernel⟩
theorem kml_RL_61 : (.methodLink RL 61 yX0_checkpoint : Cond) ∈ xT := List.mem_filter.mpr ⟨List.mem_of_getElem? (i := 60) (by decide +kernel), by decide +kernel⟩
theorem kim_yX0_checkpoint : (.instanceMethod yX0_checkpoint : Cond) ∈ xT := List.mem_filter.mpr ⟨List.mem_of_getElem? (i := 61) (by decide +kernel), by decide +kernel⟩
theorem ksl_yX0_checkpoint : (.selects RX0 yX0_checkpoint yX0_checkpoint : Cond) ∈ xT := List.mem_filter.mpr ⟨List.mem_of_getElem? (i := 62) (by decide +kernel), by decide +kernel⟩
theorem kco_yX0_checkpoint : (.code yX0_checkpoint cX0_checkpoint 2 (some .int) : Cond) ∈ xT := List.mem_filter.mpr ⟨List.mem_of_getElem? (i := 63) (by decide +kernel), by decide +kernel⟩
theorem kml_RX0_64 : (.methodLink RX0 64 yX0_segmentOf : Cond) ∈ xT := List.mem_filter.mpr ⟨List.mem_of_getElem? (i := 64) (by decide +kernel), by decide +kernel⟩
theorem kim_yX0_segmentOf : (.instanceMethod yX0_segmentOf : Cond) ∈ xT := List.mem_filter.mpr ⟨List.mem_of_getElem? (i := 66) (by decide +kernel), by decide +kernel⟩
theorem kco_yX0_segmentOf : (.code yX0_segmentOf cX0_segmentOf 2 (some .int) : Cond) ∈ xT := List.mem_filter.mpr ⟨List.mem_of_getElem? (i := 67) (by decide +kernel), by decide +kernel⟩
theorem kml_RX0_74 : (.methodLink RX0 74 yX0_markTaken : Cond) ∈ xT := List.mem_filter.mpr ⟨List.mem_of_getElem? (i := 68) (by decide +kernel), by decide +kernel⟩
theorem kim_yX0_markTaken : (.instanceMethod yX0_markTaken : Cond) ∈ xT := List.mem_filter.mpr ⟨List.mem_of_getElem? (i := 70) (by decide +kernel), by decide +kernel⟩
theorem kco_yX0_markTaken : (.code yX0_markTaken cX0_markTaken 2 none : Cond) ∈ xT := List.mem_filter.mpr ⟨List.mem_of_getElem? (i := 71) (by decide +kernel), by decide +kernel⟩
theorem kml_RX0_93 : (.methodLink RX0 93 yX0_isSegment : Cond) ∈ xT := List.mem_filter.mpr ⟨List.mem_of_getElem? (i := 72) (by decide +kernel), by decide +kernel⟩
theorem kim_yX0_isSegment : (.instanceMethod yX0_isSegment : Cond) ∈ xT := List.mem_filter.mpr ⟨List.mem_of_getElem? (i := 74) (by decide +kernel), by decide +kernel⟩
theorem kco_yX0_isSegment : (.code yX0_isSegment cX0_isSegment 2 (some .boolean) : Cond) ∈ xT := List.mem_filter.mpr ⟨List.mem_of_getElem? (i := 75) (by decide +kernel), by decide +kernel⟩
theorem kml_RX0_77 : (.methodLink RX0 77 yX0_free : Cond) ∈ xT := List.mem_filter.mpr ⟨List.mem_of_getElem? (i := 76) (by decide +kernel), by decide +kernel⟩
theorem kim_yX0_free : (.instanceMethod yX0_free : Cond) ∈ xT := List.mem_filter.mpr ⟨List.mem_of_getElem? (i := 77) (by decide +kernel), by decide +kernel⟩
theorem ksl_yX0_free : (.selects RX0 yX0_free yX0_free : Cond) ∈ xT := List.mem_filter.mpr ⟨List.mem_of_getElem? (i := 78) (by decide +kernel), by decide +kernel⟩
theorem kco_yX0_free : (.code yX0_free cX0_free 3 (some .int) : Cond) ∈ xT := List.mem_filter.mpr ⟨List.mem_of_getElem? (i := 79) (by decide +kernel), by decide +kernel⟩
theorem kml_RX0_81 : (.methodLink RX0 81 yX0_isFree : Cond) ∈ xT := List.mem_filter.mpr ⟨List.mem_of_getElem? (i := 80) (by decide +kernel), by decide +kernel⟩
theorem kim_yX0_isFree : (.instanceMethod yX0_isFree : Cond) ∈ xT := List.mem_filter.mpr ⟨List.mem_of_getElem? (i := 82) (by decide +kernel), by decide +kernel⟩
theorem kco_yX0_isFree : (.code yX0_isFree cX0_isFree 2 (some .boolean) : Cond) ∈ xT := List.mem_filter.mpr ⟨List.mem_of_getElem? (i := 83) (by decide +kernel), by decide +kernel⟩
theorem kml_RL_65 : (.methodLink RL 65 yX0_free : Cond) ∈ xT := List.mem_filter.mpr ⟨List.mem_of_getElem? (i := 84) (by decide +kernel), by decide +kernel⟩
theorem kml_RL_69 : (.methodLink RL 69 yX0_used : Cond) ∈ xT := List.mem_filter.mpr ⟨List.mem_of_getElem? (i := 85) (by decide +kernel), by decide +kernel⟩
theorem kim_yX0_used : (.instanceMethod yX0_used : Cond) ∈ xT := List.mem_filter.mpr ⟨List.mem_of_getElem? (i := 86) (by decide +kernel), by decide +kernel⟩
theorem ksl_yX0_used : (.selects RX0 yX0_used yX0_used : Cond) ∈ xT := List.mem_filter.mpr ⟨List.mem_of_getElem? (i := 87) (by decide +kernel), by decide +kernel⟩
theorem kco_yX0_used : (.code yX0_used cX0_used 3 (some .int) : Cond) ∈ xT := List.mem_filter.mpr ⟨List.mem_of_getElem? (i := 88) (by decide +kernel), by decide +kernel⟩
theorem kml_RX0_84 : (.methodLink RX0 84 yJ6_bitCount_0f7a4 : Cond) ∈ xT := List.mem_filter.mpr ⟨List.mem_of_getElem? (i := 89) (by decide +kernel), by decide +kernel⟩
theorem kst_yJ6_bitCount_0f7a4 : (.static yJ6_bitCount_0f7a4 : Cond) ∈ xT := List.mem_filter.mpr ⟨List.mem_of_getElem? (i := 90) (by decide +kernel), by decide +kernel⟩
theorem kco_yJ6_bitCount_0f7a4 : (.code yJ6_bitCount_0f7a4 cJ6_bitCount_0f7a4 1 (some .int) : Cond) ∈ xT := List.mem_filter.mpr ⟨List.mem_of_getElem? (i := 91) (by decide +kernel), by decide +kernel⟩
theorem kct_RJ6_265 : (.constant RJ6 265 1431655765 : Cond) ∈ xT := List.mem_filter.mpr ⟨List.mem_of_getElem? (i := 92) (by decide +kernel), by decide +kernel⟩
theorem kct_RJ6_266 : (.constant RJ6 266 858993459 : Cond) ∈ xT := List.mem_filter.mpr ⟨List.mem_of_getElem? (i := 93) (by decide +kernel), by decide +kernel⟩
theorem kct_RJ6_267 : (.constant RJ6 267 252645135 : Cond) ∈ xT := List.mem_filter.mpr ⟨List.mem_of_getElem? (i := 94) (by decide +kernel), by decide +kernel⟩
theorem kml_RL_73 : (.methodLink RL 73 yX0_victim : Cond) ∈ xT := List.mem_filter.mpr ⟨List.mem_of_getElem? (i := 95) (by decide +kernel), by decide +kernel⟩
theorem kim_yX0_victim : (.instanceMethod yX0_victim : Cond) ∈ xT := List.mem_filter.mpr ⟨List.mem_of_getElem? (i := 96) (by decide +kernel), by decide +kernel⟩
theorem ksl_yX0_victim : (.selects RX0 yX0_victim yX0_victim : Cond) ∈ xT := List.mem_filter.mpr ⟨List.mem_of_getElem? (i := 97) (by decide +kernel), by decide +kernel⟩
theorem kco_yX0_victim : (.code yX0_victim cX0_victim 7 (some .int) : Cond) ∈ xT := List.mem_filter.mpr ⟨List.mem_of_getElem? (i := 98) (by decide +kernel), by decide +kernel⟩
theorem kml_RX0_89 : (.methodLink RX0 89 yX0_gentleWorth : Cond) ∈ xT := List.mem_filter.mpr ⟨List.mem_of_getElem? (i := 99) (by decide +kernel), by decide +kernel⟩
theorem kim_yX0_gentleWorth : (.instanceMethod yX0_gentleWorth : Cond) ∈ xT := List.mem_filter.mpr ⟨List.mem_of_getElem? (i := 101) (by decide +kernel), by decide +kernel⟩
theorem kco_yX0_gentleWorth : (.code yX0_gentleWorth cX0_gentleWorth 3 (some .int) : Cond) ∈ xT := List.mem_filter.mpr ⟨List.mem_of_getElem? (i := 102) (by decide +kernel), by decide +kernel⟩
theorem kml_RL_32 : (.methodLink RL 32 yL_cell : Cond) ∈ xT := List.mem_filter.mpr ⟨List.mem_of_getElem? (i := 103) (by decide +kernel), by decide +kernel⟩
theorem kst_yL_cell : (.static yL_cell : Cond) ∈ xT := List.mem_filter.mpr ⟨List.mem_of_getElem? (i := 104) (by decide +kernel), by decide +kernel⟩
theorem kco_yL_cell : (.code yL_cell cL_cell 2 (some .int) : Cond) ∈ xT := List.mem_filter.mpr ⟨List.mem_of_getElem? (i := 105) (by decide +kernel), by decide +kernel⟩
theorem kml_RL_43 : (.methodLink RL 43 yL_take : Cond) ∈ xT := List.mem_filter.mpr ⟨List.mem_of_getElem? (i := 106) (by decide +kernel), by decide +kernel⟩
theorem kst_yL_take : (.static yL_take : Cond) ∈ xT := List.mem_filter.mpr ⟨List.mem_of_getElem? (i := 107) (by decide +kernel), by decide +kernel⟩
theorem kco_yL_take : (.codeWith yL_take cL_take 4 (some .int) [((0 : Nat), (9 : Nat), (12 : Nat), (13 : Nat)), ((0 : Nat), (9 : Nat), (15 : Nat), (15 : Nat))] : Cond) ∈ xT := List.mem_filter.mpr ⟨List.mem_of_getElem? (i := 108) (by decide +kernel), by decide +kernel⟩
theorem kcl_RL_13 : (.classLink RL 13 "java/lang/IllegalArgumentException" : Cond) ∈ xT := List.mem_filter.mpr ⟨List.mem_of_getElem? (i := 109) (by decide +kernel), by decide +kernel⟩
theorem kcl_RL_15 : (.classLink RL 15 "java/lang/IllegalStateException" : Cond) ∈ xT := List.mem_filter.mpr ⟨List.mem_of_getElem? (i := 110) (by decide +kernel), by decide +kernel⟩
theorem kml_RL_7 : (.methodLink RL 7 yX0_take : Cond) ∈ xT := List.mem_filter.mpr ⟨List.mem_of_getElem? (i := 111) (by decide +kernel), by decide +kernel⟩
theorem kim_yX0_take : (.instanceMethod yX0_take : Cond) ∈ xT := List.mem_filter.mpr ⟨List.mem_of_getElem? (i := 112) (by decide +kernel), by decide +kernel⟩
theorem ksl_yX0_take : (.selects RX0 yX0_take yX0_take : Cond) ∈ xT := List.mem_filter.mpr ⟨List.mem_of_getElem? (i := 113) (by decide +kernel), by decide +kernel⟩
theorem kco_yX0_take : (.code yX0_take cX0_take 4 (some .int) : Cond) ∈ xT := List.mem_filter.mpr ⟨List.mem_of_getElem? (i := 114) (by decide +kernel), by decide +kernel⟩
theorem kml_RX0_37 : (.methodLink RX0 37 yX0_isLog : Cond) ∈ xT := List.mem_filter.mpr ⟨List.mem_of_getElem? (i := 115) (by decide +kernel), by decide +kernel⟩
theorem kst_yX0_isLog : (.static yX0_isLog : Cond) ∈ xT := List.mem_filter.mpr ⟨List.mem_of_getElem? (i := 116) (by decide +kernel), by decide +kernel⟩
theorem kco_yX0_isLog : (.code yX0_isLog cX0_isLog 1 (some .boolean) : Cond) ∈ xT := List.mem_filter.mpr ⟨List.mem_of_getElem? (i := 117) (by decide +kernel), by decide +kernel⟩
theorem kcl_RX0_41 : (.classLink RX0 41 "java/lang/IllegalArgumentException" : Cond) ∈ xT := List.mem_filter.mpr ⟨List.mem_of_getElem? (i := 118) (by decide +kernel), by decide +kernel⟩
theorem kia_java_lang_IllegalArgumentException : (.instantiable "java/lang/IllegalArgumentException" 6 : Cond) ∈ xT := List.mem_filter.mpr ⟨List.mem_of_getElem? (i := 119) (by decide +kernel), by decide +kernel⟩
theorem kia_java_lang_Throwable : (.instantiable "java/lang/Throwable" 6 : Cond) ∈ xT := List.mem_filter.mpr ⟨List.mem_of_getElem? (i := 156) (by decide +kernel), by decide +kernel⟩
theorem kar_byte : (.arrayClass .byte : Cond) ∈ xT := List.mem_filter.mpr ⟨List.mem_of_getElem? (i := 184) (by decide +kernel), by decide +kernel⟩
theorem kml_RX0_48 : (.methodLink RX0 48 yX0_blockAfter : Cond) ∈ xT := List.mem_filter.mpr ⟨List.mem_of_getElem? (i := 185) (by decide +kernel), by decide +kernel⟩
theorem kim_yX0_blockAfter : (.instanceMethod yX0_blockAfter : Cond) ∈ xT := List.mem_filter.mpr ⟨List.mem_of_getElem? (i := 187) (by decide +kernel), by decide +kernel⟩
theorem kco_yX0_blockAfter : (.code yX0_blockAfter cX0_blockAfter 3 (some .int) : Cond) ∈ xT := List.mem_filter.mpr ⟨List.mem_of_getElem? (i := 188) (by decide +kernel), by decide +kernel⟩
theorem kml_RX0_100 : (.methodLink RX0 100 yX0_placeOf : Cond) ∈ xT := List.mem_filter.mpr ⟨List.mem_of_getElem? (i := 189) (by decide +kernel), by decide +kernel⟩
theorem kst_yX0_placeOf : (.static yX0_placeOf : Cond) ∈ xT := List.mem_filter.mpr ⟨List.mem_of_getElem? (i := 190) (by decide +kernel), by decide +kernel⟩
theorem kco_yX0_placeOf : (.code yX0_placeOf cX0_placeOf 1 (some .int) : Cond) ∈ xT := List.mem_filter.mpr ⟨List.mem_of_getElem? (i := 191) (by decide +kernel), by decide +kernel⟩
theorem kml_RX0_103 : (.methodLink RX0 103 yX0_lowestFree : Cond) ∈ xT := List.mem_filter.mpr ⟨List.mem_of_getElem? (i := 192) (by decide +kernel), by decide +kernel⟩
theorem kim_yX0_lowestFree : (.instanceMethod yX0_lowestFree : Cond) ∈ xT := List.mem_filter.mpr ⟨List.mem_of_getElem? (i := 194) (by decide +kernel), by decide +kernel⟩
theorem kco_yX0_lowestFree : (.code yX0_lowestFree cX0_lowestFree 2 (some .int) : Cond) ∈ xT := List.mem_filter.mpr ⟨List.mem_of_getElem? (i := 195) (by decide +kernel), by decide +kernel⟩
theorem kcl_RX0_51 : (.classLink RX0 51 "java/lang/IllegalStateException" : Cond) ∈ xT := List.mem_filter.mpr ⟨List.mem_of_getElem? (i := 196) (by decide +kernel), by decide +kernel⟩
theorem kia_java_lang_IllegalStateException : (.instantiable "java/lang/IllegalStateException" 6 : Cond) ∈ xT := List.mem_filter.mpr ⟨List.mem_of_getElem? (i := 197) (by decide +kernel), by decide +kernel⟩
theorem kml_RX0_56 : (.methodLink RX0 56 yX0_putInUse : Cond) ∈ xT := List.mem_filter.mpr ⟨List.mem_of_getElem? (i := 212) (by decide +kernel), by decide +kernel⟩
theorem kim_yX0_putInUse : (.instanceMethod yX0_putInUse : Cond) ∈ xT := List.mem_filter.mpr ⟨List.mem_of_getElem? (i := 214) (by decide +kernel), by decide +kernel⟩
theorem kco_yX0_putInUse : (.code yX0_putInUse cX0_putInUse 3 none : Cond) ∈ xT := List.mem_filter.mpr ⟨List.mem_of_getElem? (i := 215) (by decide +kernel), by decide +kernel⟩
theorem kml_RX0_69 : (.methodLink RX0 69 yX0_bitOf : Cond) ∈ xT := List.mem_filter.mpr ⟨List.mem_of_getElem? (i := 216) (by decide +kernel), by decide +kernel⟩
theorem kst_yX0_bitOf : (.static yX0_bitOf : Cond) ∈ xT := List.mem_filter.mpr ⟨List.mem_of_getElem? (i := 217) (by decide +kernel), by decide +kernel⟩
theorem kco_yX0_bitOf : (.code yX0_bitOf cX0_bitOf 1 (some .int) : Cond) ∈ xT := List.mem_filter.mpr ⟨List.mem_of_getElem? (i := 218) (by decide +kernel), by decide +kernel⟩
theorem kml_RX0_60 : (.methodLink RX0 60 yX0_moveLog : Cond) ∈ xT := List.mem_filter.mpr ⟨List.mem_of_getElem? (i := 219) (by decide +kernel), by decide +kernel⟩
theorem kim_yX0_moveLog : (.instanceMethod yX0_moveLog : Cond) ∈ xT := List.mem_filter.mpr ⟨List.mem_of_getElem? (i := 221) (by decide +kernel), by decide +kernel⟩
theorem kco_yX0_moveLog : (.code yX0_moveLog cX0_moveLog 3 none : Cond) ∈ xT := List.mem_filter.mpr ⟨List.mem_of_getElem? (i := 222) (by decide +kernel), by decide +kernel⟩
theorem kml_RL_51 : (.methodLink RL 51 yL_next : Cond) ∈ xT := List.mem_filter.mpr ⟨List.mem_of_getElem? (i := 223) (by decide +kernel), by decide +kernel⟩
theorem kst_yL_next : (.static yL_next : Cond) ∈ xT := List.mem_filter.mpr ⟨List.mem_of_getElem? (i := 224) (by decide +kernel), by decide +kernel⟩
theorem kco_yL_next : (.codeWith yL_next cL_next 4 (some .int) [((0 : Nat), (9 : Nat), (12 : Nat), (13 : Nat))] : Cond) ∈ xT := List.mem_filter.mpr ⟨List.mem_of_getElem? (i := 225) (by decide +kernel), by decide +kernel⟩
theorem kml_RL_17 : (.methodLink RL 17 yX0_next : Cond) ∈ xT := List.mem_filter.mpr ⟨List.mem_of_getElem? (i := 226) (by decide +kernel), by decide +kernel⟩
theorem kim_yX0_next : (.instanceMethod yX0_next : Cond) ∈ xT := List.mem_filter.mpr ⟨List.mem_of_getElem? (i := 227) (by decide +kernel), by decide +kernel⟩
theorem ksl_yX0_next : (.selects RX0 yX0_next yX0_next : Cond) ∈ xT := List.mem_filter.mpr ⟨List.mem_of_getElem? (i := 228) (by decide +kernel), by decide +kernel⟩
theorem kco_yX0_next : (.code yX0_next cX0_next 2 (some .int) : Cond) ∈ xT := List.mem_filter.mpr ⟨List.mem_of_getElem? (i := 229) (by decide +kernel), by decide +kernel⟩
theorem kml_RL_54 : (.methodLink RL 54 yL_drop : Cond) ∈ xT := List.mem_filter.mpr ⟨List.mem_of_getElem? (i := 230) (by decide +kernel), by decide +kernel⟩
theorem kst_yL_drop : (.static yL_drop : Cond) ∈ xT := List.mem_filter.mpr ⟨List.mem_of_getElem? (i := 231) (by decide +kernel), by decide +kernel⟩
theorem kco_yL_drop : (.codeWith yL_drop cL_drop 3 (some .int) [((0 : Nat), (5 : Nat), (8 : Nat), (13 : Nat)), ((0 : Nat), (5 : Nat), (11 : Nat), (15 : Nat))] : Cond) ∈ xT := List.mem_filter.mpr ⟨List.mem_of_getElem? (i := 232) (by decide +kernel), by decide +kernel⟩
theorem kml_RL_20 : (.methodLink RL 20 yX0_drop : Cond) ∈ xT := List.mem_filter.mpr ⟨List.mem_of_getElem? (i := 233) (by decide +kernel), by decide +kernel⟩
theorem kim_yX0_drop : (.instanceMethod yX0_drop : Cond) ∈ xT := List.mem_filter.mpr ⟨List.mem_of_getElem? (i := 234) (by decide +kernel), by decide +kernel⟩
theorem ksl_yX0_drop : (.selects RX0 yX0_drop yX0_drop : Cond) ∈ xT := List.mem_filter.mpr ⟨List.mem_of_getElem? (i := 235) (by decide +kernel), by decide +kernel⟩
theorem kco_yX0_drop : (.code yX0_drop cX0_drop 3 none : Cond) ∈ xT := List.mem_filter.mpr ⟨List.mem_of_getElem? (i := 236) (by decide +kernel), by decide +kernel⟩
theorem kml_RL_58 : (.methodLink RL 58 yL_isUsed : Cond) ∈ xT := List.mem_filter.mpr ⟨List.mem_of_getElem? (i := 239) (by decide +kernel), by decide +kernel⟩
theorem kst_yL_isUsed : (.static yL_isUsed : Cond) ∈ xT := List.mem_filter.mpr ⟨List.mem_of_getElem? (i := 240) (by decide +kernel), by decide +kernel⟩
theorem kco_yL_isUsed : (.codeWith yL_isUsed cL_isUsed 4 (some .int) [((0 : Nat), (16 : Nat), (19 : Nat), (13 : Nat))] : Cond) ∈ xT := List.mem_filter.mpr ⟨List.mem_of_getElem? (i := 241) (by decide +kernel), by decide +kernel⟩
theorem kml_RL_24 : (.methodLink RL 24 yX0_isUsed : Cond) ∈ xT := List.mem_filter.mpr ⟨List.mem_of_getElem? (i := 242) (by decide +kernel), by decide +kernel⟩
theorem kim_yX0_isUsed : (.instanceMethod yX0_isUsed : Cond) ∈ xT := List.mem_filter.mpr ⟨List.mem_of_getElem? (i := 243) (by decide +kernel), by decide +kernel⟩
theorem ksl_yX0_isUsed : (.selects RX0 yX0_isUsed yX0_isUsed : Cond) ∈ xT := List.mem_filter.mpr ⟨List.mem_of_getElem? (i := 244) (by decide +kernel), by decide +kernel⟩
theorem kco_yX0_isUsed : (.code yX0_isUsed cX0_isUsed 3 (some .boolean) : Cond) ∈ xT := List.mem_filter.mpr ⟨List.mem_of_getElem? (i := 245) (by decide +kernel), by decide +kernel⟩
theorem kml_RL_78 : (.methodLink RL 78 yL_look : Cond) ∈ xT := List.mem_filter.mpr ⟨List.mem_of_getElem? (i := 246) (by decide +kernel), by decide +kernel⟩
theorem kst_yL_look : (.static yL_look : Cond) ∈ xT := List.mem_filter.mpr ⟨List.mem_of_getElem? (i := 247) (by decide +kernel), by decide +kernel⟩
theorem kco_yL_look : (.codeWith yL_look cL_look 5 (some .int) [((0 : Nat), (10 : Nat), (13 : Nat), (13 : Nat))] : Cond) ∈ xT := List.mem_filter.mpr ⟨List.mem_of_getElem? (i := 248) (by decide +kernel), by decide +kernel⟩
theorem kml_RL_28 : (.methodLink RL 28 yX0_look : Cond) ∈ xT := List.mem_filter.mpr ⟨List.mem_of_getElem? (i := 249) (by decide +kernel), by decide +kernel⟩
theorem kim_yX0_look : (.instanceMethod yX0_look : Cond) ∈ xT := List.mem_filter.mpr ⟨List.mem_of_getElem? (i := 250) (by decide +kernel), by decide +kernel⟩
theorem ksl_yX0_look : (.selects RX0 yX0_look yX0_look : Cond) ∈ xT := List.mem_filter.mpr ⟨List.mem_of_getElem? (i := 251) (by decide +kernel), by decide +kernel⟩
theorem kco_yX0_look : (.code yX0_look cX0_look 3 (some .int) : Cond) ∈ xT := List.mem_filter.mpr ⟨List.mem_of_getElem? (i := 252) (by decide +kernel), by decide +kernel⟩
theorem kcl_RL_40 : (.classLink RL 40 RX1 : Cond) ∈ xT := List.mem_filter.mpr ⟨List.mem_of_getElem? (i := 255) (by decide +kernel), by decide +kernel⟩
theorem kia_RX1 : (.instantiable RX1 9 : Cond) ∈ xT := List.mem_filter.mpr ⟨List.mem_of_getElem? (i := 256) (by decide +kernel), by decide +kernel⟩
theorem kml_RL_42 : (.methodLink RL 42 yX1_init : Cond) ∈ xT := List.mem_filter.mpr ⟨List.mem_of_getElem? (i := 257) (by decide +kernel), by decide +kernel⟩
theorem kim_yX1_init : (.instanceMethod yX1_init : Cond) ∈ xT := List.mem_filter.mpr ⟨List.mem_of_getElem? (i := 258) (by decide +kernel), by decide +kernel⟩
theorem kco_yX1_init : (.code yX1_init cX1_init 3 none : Cond) ∈ xT := List.mem_filter.mpr ⟨List.mem_of_getElem? (i := 259) (by decide +kernel), by decide +kernel⟩
theorem kml_RX1_1 : (.methodLink RX1 1 objectInit : Cond) ∈ xT := List.mem_filter.mpr ⟨List.mem_of_getElem? (i := 260) (by decide +kernel), by decide +kernel⟩
theorem kfl_RX1_33 : (.fieldLink RX1 33 "SegmentLogsModel" "thrown" "I" : Cond) ∈ xT := List.mem_filter.mpr ⟨List.mem_of_getElem? (i := 261) (by decide +kernel), by decide +kernel⟩
theorem kfl_RX1_29 : (.fieldLink RX1 29 "SegmentLogsModel" "segments" "I" : Cond) ∈ xT := List.mem_filter.mpr ⟨List.mem_of_getElem? (i := 262) (by decide +kernel), by decide +kernel⟩
theorem kfl_RX1_7 : (.fieldLink RX1 7 "SegmentLogsModel" "used" "[Z" : Cond) ∈ xT := List.mem_filter.mpr ⟨List.mem_of_getElem? (i := 263) (by decide +kernel), by decide +kernel⟩
theorem kfl_RX1_13 : (.fieldLink RX1 13 "SegmentLogsModel" "then" "[Z" : Cond) ∈ xT := List.mem_filter.mpr ⟨List.mem_of_getElem? (i := 264) (by decide +kernel), by decide +kernel⟩
theorem kfl_RX1_16 : (.fieldLink RX1 16 "SegmentLogsModel" "touched" "[Z" : Cond) ∈ xT := List.mem_filter.mpr ⟨List.mem_of_getElem? (i := 265) (by decide +kernel), by decide +kernel⟩
theorem kfl_RX1_19 : (.fieldLink RX1 19 "SegmentLogsModel" "latest" "[I" : Cond) ∈ xT := List.mem_filter.mpr ⟨List.mem_of_getElem? (i := 266) (by decide +kernel), by decide +kernel⟩
theorem kfl_RX1_23 : (.fieldLink RX1 23 "SegmentLogsModel" "open" "[I" : Cond) ∈ xT := List.mem_filter.mpr ⟨List.mem_of_getElem? (i := 267) (by decide +kernel), by decide +kernel⟩
theorem kfl_RX1_26 : (.fieldLink RX1 26 "SegmentLogsModel" "next" "[I" : Cond) ∈ xT := List.mem_filter.mpr ⟨List.mem_of_getElem? (i := 268) (by decide +kernel), by decide +kernel⟩
theorem kfl_RX1_51 : (.fieldLink RX1 51 "SegmentLogsModel" "takings" "I" : Cond) ∈ xT := List.mem_filter.mpr ⟨List.mem_of_getElem? (i := 269) (by decide +kernel), by decide +kernel⟩
theorem kml_RL_47 : (.methodLink RL 47 yX1_thrown : Cond) ∈ xT := List.mem_filter.mpr ⟨List.mem_of_getElem? (i := 289) (by decide +kernel), by decide +kernel⟩
theorem kim_yX1_thrown : (.instanceMethod yX1_thrown : Cond) ∈ xT := List.mem_filter.mpr ⟨List.mem_of_getElem? (i := 290) (by decide +kernel), by decide +kernel⟩
theorem ksl_yX1_thrown : (.selects RX1 yX1_thrown yX1_thrown : Cond) ∈ xT := List.mem_filter.mpr ⟨List.mem_of_getElem? (i := 291) (by decide +kernel), by decide +kernel⟩
theorem kco_yX1_thrown : (.code yX1_thrown cX1_thrown 1 (some .int) : Cond) ∈ xT := List.mem_filter.mpr ⟨List.mem_of_getElem? (i := 292) (by decide +kernel), by decide +kernel⟩
theorem kml_RL_46 : (.methodLink RL 46 yX1_take : Cond) ∈ xT := List.mem_filter.mpr ⟨List.mem_of_getElem? (i := 293) (by decide +kernel), by decide +kernel⟩
theorem kim_yX1_take : (.instanceMethod yX1_take : Cond) ∈ xT := List.mem_filter.mpr ⟨List.mem_of_getElem? (i := 294) (by decide +kernel), by decide +kernel⟩
theorem ksl_yX1_take : (.selects RX1 yX1_take yX1_take : Cond) ∈ xT := List.mem_filter.mpr ⟨List.mem_of_getElem? (i := 295) (by decide +kernel), by decide +kernel⟩
theorem kco_yX1_take : (.code yX1_take cX1_take 7 (some .int) : Cond) ∈ xT := List.mem_filter.mpr ⟨List.mem_of_getElem? (i := 296) (by decide +kernel), by decide +kernel⟩
theorem kml_RX1_43 : (.methodLink RX1 43 yX1_lowest : Cond) ∈ xT := List.mem_filter.mpr ⟨List.mem_of_getElem? (i := 297) (by decide +kernel), by decide +kernel⟩
theorem kim_yX1_lowest : (.instanceMethod yX1_lowest : Cond) ∈ xT := List.mem_filter.mpr ⟨List.mem_of_getElem? (i := 299) (by decide +kernel), by decide +kernel⟩
theorem kco_yX1_lowest : (.code yX1_lowest cX1_lowest 2 (some .int) : Cond) ∈ xT := List.mem_filter.mpr ⟨List.mem_of_getElem? (i := 300) (by decide +kernel), by decide +kernel⟩
theorem kml_RX1_40 : (.methodLink RX1 40 yX1_isFree : Cond) ∈ xT := List.mem_filter.mpr ⟨List.mem_of_getElem? (i := 301) (by decide +kernel), by decide +kernel⟩
theorem kim_yX1_isFree : (.instanceMethod yX1_isFree : Cond) ∈ xT := List.mem_filter.mpr ⟨List.mem_of_getElem? (i := 303) (by decide +kernel), by decide +kernel⟩
theorem kco_yX1_isFree : (.code yX1_isFree cX1_isFree 4 (some .boolean) : Cond) ∈ xT := List.mem_filter.mpr ⟨List.mem_of_getElem? (i := 304) (by decide +kernel), by decide +kernel⟩
theorem kml_RX1_36 : (.methodLink RX1 36 yX1_isTaken : Cond) ∈ xT := List.mem_filter.mpr ⟨List.mem_of_getElem? (i := 305) (by decide +kernel), by decide +kernel⟩
theorem kim_yX1_isTaken : (.instanceMethod yX1_isTaken : Cond) ∈ xT := List.mem_filter.mpr ⟨List.mem_of_getElem? (i := 307) (by decide +kernel), by decide +kernel⟩
theorem kco_yX1_isTaken : (.code yX1_isTaken cX1_isTaken 4 (some .boolean) : Cond) ∈ xT := List.mem_filter.mpr ⟨List.mem_of_getElem? (i := 308) (by decide +kernel), by decide +kernel⟩
theorem kml_RX1_47 : (.methodLink RX1 47 yX1_throwing : Cond) ∈ xT := List.mem_filter.mpr ⟨List.mem_of_getElem? (i := 309) (by decide +kernel), by decide +kernel⟩
theorem kim_yX1_throwing : (.instanceMethod yX1_throwing : Cond) ∈ xT := List.mem_filter.mpr ⟨List.mem_of_getElem? (i := 311) (by decide +kernel), by decide +kernel⟩
theorem kco_yX1_throwing : (.code yX1_throwing cX1_throwing 3 (some .boolean) : Cond) ∈ xT := List.mem_filter.mpr ⟨List.mem_of_getElem? (i := 312) (by decide +kernel), by decide +kernel⟩
theorem kml_RL_53 : (.methodLink RL 53 yX1_next : Cond) ∈ xT := List.mem_filter.mpr ⟨List.mem_of_getElem? (i := 313) (by decide +kernel), by decide +kernel⟩
theorem kim_yX1_next : (.instanceMethod yX1_next : Cond) ∈ xT := List.mem_filter.mpr ⟨List.mem_of_getElem? (i := 314) (by decide +kernel), by decide +kernel⟩
theorem ksl_yX1_next : (.selects RX1 yX1_next yX1_next : Cond) ∈ xT := List.mem_filter.mpr ⟨List.mem_of_getElem? (i := 315) (by decide +kernel), by decide +kernel⟩
theorem kco_yX1_next : (.code yX1_next cX1_next 3 (some .int) : Cond) ∈ xT := List.mem_filter.mpr ⟨List.mem_of_getElem? (i := 316) (by decide +kernel), by decide +kernel⟩
theorem kml_RL_57 : (.methodLink RL 57 yX1_drop : Cond) ∈ xT := List.mem_filter.mpr ⟨List.mem_of_getElem? (i := 317) (by decide +kernel), by decide +kernel⟩
theorem kim_yX1_drop : (.instanceMethod yX1_drop : Cond) ∈ xT := List.mem_filter.mpr ⟨List.mem_of_getElem? (i := 318) (by decide +kernel), by decide +kernel⟩
theorem ksl_yX1_drop : (.selects RX1 yX1_drop yX1_drop : Cond) ∈ xT := List.mem_filter.mpr ⟨List.mem_of_getElem? (i := 319) (by decide +kernel), by decide +kernel⟩
theorem kco_yX1_drop : (.code yX1_drop cX1_drop 3 none : Cond) ∈ xT := List.mem_filter.mpr ⟨List.mem_of_getElem? (i := 320) (by decide +kernel), by decide +kernel⟩
theorem kml_RX1_54 : (.methodLink RX1 54 yX1_isNo : Cond) ∈ xT := List.mem_filter.mpr ⟨List.mem_of_getElem? (i := 321) (by decide +kernel), by decide +kernel⟩
theorem kim_yX1_isNo : (.instanceMethod yX1_isNo : Cond) ∈ xT := List.mem_filter.mpr ⟨List.mem_of_getElem? (i := 323) (by decide +kernel), by decide +kernel⟩
theorem kco_yX1_isNo : (.code yX1_isNo cX1_isNo 2 (some .boolean) : Cond) ∈ xT := List.mem_filter.mpr ⟨List.mem_of_getElem? (i := 324) (by decide +kernel), by decide +kernel⟩
theorem kml_RL_60 : (.methodLink RL 60 yX1_isUsed : Cond) ∈ xT := List.mem_filter.mpr ⟨List.mem_of_getElem? (i := 325) (by decide +kernel), by decide +kernel⟩
theorem kim_yX1_isUsed : (.instanceMethod yX1_isUsed : Cond) ∈ xT := List.mem_filter.mpr ⟨List.mem_of_getElem? (i := 326) (by decide +kernel), by decide +kernel⟩
theorem ksl_yX1_isUsed : (.selects RX1 yX1_isUsed yX1_isUsed : Cond) ∈ xT := List.mem_filter.mpr ⟨List.mem_of_getElem? (i := 327) (by decide +kernel), by decide +kernel⟩
theorem kco_yX1_isUsed : (.code yX1_isUsed cX1_isUsed 2 (some .boolean) : Cond) ∈ xT := List.mem_filter.mpr ⟨List.mem_of_getElem? (i := 328) (by decide +kernel), by decide +kernel⟩
theorem kml_RL_64 : (.methodLink RL 64 yX1_checkpoint : Cond) ∈ xT := List.mem_filter.mpr ⟨List.mem_of_getElem? (i := 329) (by decide +kernel), by decide +kernel⟩
theorem kim_yX1_checkpoint : (.instanceMethod yX1_checkpoint : Cond) ∈ xT := List.mem_filter.mpr ⟨List.mem_of_getElem? (i := 330) (by decide +kernel), by decide +kernel⟩
theorem ksl_yX1_checkpoint : (.selects RX1 yX1_checkpoint yX1_checkpoint : Cond) ∈ xT := List.mem_filter.mpr ⟨List.mem_of_getElem? (i := 331) (by decide +kernel), by decide +kernel⟩
theorem kco_yX1_checkpoint : (.code yX1_checkpoint cX1_checkpoint 2 (some .int) : Cond) ∈ xT := List.mem_filter.mpr ⟨List.mem_of_getElem? (i := 332) (by decide +kernel), by decide +kernel⟩
theorem kml_RX1_57 : (.methodLink RX1 57 yX1_free : Cond) ∈ xT := List.mem_filter.mpr ⟨List.mem_of_getElem? (i := 333) (by decide +kernel), by decide +kernel⟩
theorem kim_yX1_free : (.instanceMethod yX1_free : Cond) ∈ xT := List.mem_filter.mpr ⟨List.mem_of_getElem? (i := 334) (by decide +kernel), by decide +kernel⟩
theorem ksl_yX1_free : (.selects RX1 yX1_free yX1_free : Cond) ∈ xT := List.mem_filter.mpr ⟨List.mem_of_getElem? (i := 335) (by decide +kernel), by decide +kernel⟩
theorem kco_yX1_free : (.code yX1_free cX1_free 3 (some .int) : Cond) ∈ xT := List.mem_filter.mpr ⟨List.mem_of_getElem? (i := 336) (by decide +kernel), by decide +kernel⟩
theorem kml_RL_68 : (.methodLink RL 68 yX1_free : Cond) ∈ xT := List.mem_filter.mpr ⟨List.mem_of_getElem? (i := 337) (by decide +kernel), by decide +kernel⟩
theorem kml_RL_72 : (.methodLink RL 72 yX1_used : Cond) ∈ xT := List.mem_filter.mpr ⟨List.mem_of_getElem? (i := 338) (by decide +kernel), by decide +kernel⟩
theorem kim_yX1_used : (.instanceMethod yX1_used : Cond) ∈ xT := List.mem_filter.mpr ⟨List.mem_of_getElem? (i := 339) (by decide +kernel), by decide +kernel⟩
theorem ksl_yX1_used : (.selects RX1 yX1_used yX1_used : Cond) ∈ xT := List.mem_filter.mpr ⟨List.mem_of_getElem? (i := 340) (by decide +kernel), by decide +kernel⟩
theorem kco_yX1_used : (.code yX1_used cX1_used 3 (some .int) : Cond) ∈ xT := List.mem_filter.mpr ⟨List.mem_of_getElem? (i := 341) (by decide +kernel), by decide +kernel⟩
theorem kml_RX1_60 : (.methodLink RX1 60 yX1_inUse : Cond) ∈ xT := List.mem_filter.mpr ⟨List.mem_of_getElem? (i := 342) (by decide +kernel), by decide +kernel⟩
theorem kim_yX1_inUse : (.instanceMethod yX1_inUse : Cond) ∈ xT := List.mem_filter.mpr ⟨List.mem_of_getElem? (i := 344) (by decide +kernel), by decide +kernel⟩
theorem kco_yX1_inUse : (.code yX1_inUse cX1_inUse 4 (some .int) : Cond) ∈ xT := List.mem_filter.mpr ⟨List.mem_of_getElem? (i := 345) (by decide +kernel), by decide +kernel⟩
theorem kml_RL_77 : (.methodLink RL 77 yX1_victim : Cond) ∈ xT := List.mem_filter.mpr ⟨List.mem_of_getElem? (i := 346) (by decide +kernel), by decide +kernel⟩
theorem kim_yX1_victim : (.instanceMethod yX1_victim : Cond) ∈ xT := List.mem_filter.mpr ⟨List.mem_of_getElem? (i := 347) (by decide +kernel), by decide +kernel⟩
theorem ksl_yX1_victim : (.selects RX1 yX1_victim yX1_victim : Cond) ∈ xT := List.mem_filter.mpr ⟨List.mem_of_getElem? (i := 348) (by decide +kernel), by decide +kernel⟩
theorem kco_yX1_victim : (.code yX1_victim cX1_victim 7 (some .int) : Cond) ∈ xT := List.mem_filter.mpr ⟨List.mem_of_getElem? (i := 349) (by decide +kernel), by decide +kernel⟩
theorem kml_RL_81 : (.methodLink RL 81 yX1_look : Cond) ∈ xT := List.mem_filter.mpr ⟨List.mem_of_getElem? (i := 350) (by decide +kernel), by decide +kernel⟩
theorem kim_yX1_look : (.instanceMethod yX1_look : Cond) ∈ xT := List.mem_filter.mpr ⟨List.mem_of_getElem? (i := 351) (by decide +kernel), by decide +kernel⟩
theorem ksl_yX1_look : (.selects RX1 yX1_look yX1_look : Cond) ∈ xT := List.mem_filter.mpr ⟨List.mem_of_getElem? (i := 352) (by decide +kernel), by decide +kernel⟩
theorem kco_yX1_look : (.code yX1_look cX1_look 5 (some .int) : Cond) ∈ xT := List.mem_filter.mpr ⟨List.mem_of_getElem? (i := 353) (by decide +kernel), by decide +kernel⟩
theorem kar_long : (.arrayClass .long : Cond) ∈ xT := List.mem_filter.mpr ⟨List.mem_of_getElem? (i := 354) (by decide +kernel), by decide +kernel⟩
theorem ksl_yX0_segmentOf : (.selects RX0 yX0_segmentOf yX0_segmentOf : Cond) ∈ xT := List.mem_filter.mpr ⟨List.mem_of_getElem? (i := 0) (by decide +kernel), by decide +kernel⟩
theorem ksl_yX0_markTaken : (.selects RX0 yX0_markTaken yX0_markTaken : Cond) ∈ xT := List.mem_filter.mpr ⟨List.mem_of_getElem? (i := 1) (by decide +kernel), by decide +kernel⟩
theorem ksl_yX0_isSegment : (.selects RX0 yX0_isSegment yX0_isSegment : Cond) ∈ xT := List.mem_filter.mpr ⟨List.mem_of_getElem? (i := 2) (by decide +kernel), by decide +kernel⟩
theorem ksl_yX0_isFree : (.selects RX0 yX0_isFree yX0_isFree : Cond) ∈ xT := List.mem_filter.mpr ⟨List.mem_of_getElem? (i := 3) (by decide +kernel), by decide +kernel⟩
theorem ksl_yX0_gentleWorth : (.selects RX0 yX0_gentleWorth yX0_gentleWorth : Cond) ∈ xT := List.mem_filter.mpr ⟨List.mem_of_getElem? (i := 4) (by decide +kernel), by decide +kernel⟩
theorem ksl_yX0_blockAfter : (.selects RX0 yX0_blockAfter yX0_blockAfter : Cond) ∈ xT := List.mem_filter.mpr ⟨List.mem_of_getElem? (i := 6) (by decide +kernel), by decide +kernel⟩
theorem ksl_yX0_lowestFree : (.selects RX0 yX0_lowestFree yX0_lowestFree : Cond) ∈ xT := List.mem_filter.mpr ⟨List.mem_of_getElem? (i := 7) (by decide +kernel), by decide +kernel⟩
theorem ksl_yX0_putInUse : (.selects RX0 yX0_putInUse yX0_putInUse : Cond) ∈ xT := List.mem_filter.mpr ⟨List.mem_of_getElem? (i := 8) (by decide +kernel), by decide +kernel⟩
theorem ksl_yX0_moveLog : (.selects RX0 yX0_moveLog yX0_moveLog : Cond) ∈ xT := List.mem_filter.mpr ⟨List.mem_of_getElem? (i := 9) (by decide +kernel), by decide +kernel⟩
theorem ksl_yX1_lowest : (.selects RX1 yX1_lowest yX1_lowest : Cond) ∈ xT := List.mem_filter.mpr ⟨List.mem_of_getElem? (i := 10) (by decide +kernel), by decide +kernel⟩
theorem ksl_yX1_isFree : (.selects RX1 yX1_isFree yX1_isFree : Cond) ∈ xT := List.mem_filter.mpr ⟨List.mem_of_getElem? (i := 11) (by decide +kernel), by decide +kernel⟩
theorem ksl_yX1_isTaken : (.selects RX1 yX1_isTaken yX1_isTaken : Cond) ∈ xT := List.mem_filter.mpr ⟨List.mem_of_getElem? (i := 12) (by decide +kernel), by decide +kernel⟩
theorem ksl_yX1_throwing : (.selects RX1 yX1_throwing yX1_throwing : Cond) ∈ xT := List.mem_filter.mpr ⟨List.mem_of_getElem? (i := 13) (by decide +kernel), by decide +kernel⟩
theorem ksl_yX1_isNo : (.selects RX1 yX1_isNo yX1_isNo : Cond) ∈ xT := List.mem_filter.mpr ⟨List.mem_of_getElem? (i := 14) (by decide +kernel), by decide +kernel⟩
theorem ksl_yX1_inUse : (.selects RX1 yX1_inUse yX1_inUse : Cond) ∈ xT := List.mem_filter.mpr ⟨List.mem_of_getElem? (i := 15) (by decide +kernel), by decide +kernel⟩
theorem xin_X0 : ∀ w ∈ wsX00, w ∈ xT := by decide +kernel
theorem xin_X1 : ∀ w ∈ wsX10, w ∈ xT := by decide +kernel
abbrev xcl : List vw_C := [(RX0, TX0, 7), (RX1, TX1, 9)]
