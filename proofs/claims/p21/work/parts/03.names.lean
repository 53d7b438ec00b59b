/-! ===== BEGIN printed: names, fields, word lists, decode rows ===== -/
def RX0 : String := "ServiceTree$Door"
def TX0 : u_T := fun k => match k with
  | 0 => ("ServiceTree$Door", "letters", "[I", true)
  | 1 => ("ServiceTree$Door", "first", "I", false)
  | 2 => ("ServiceTree$Door", "size", "I", false)
  | 3 => ("ServiceTree$Door", "read", "I", false)
  | _ => ("ServiceTree$Door", "lastRead", "I", false)
def tyX0 : Nat → FieldType := fun k => match k with
  | 0 => .array .int
  | 1 => .int
  | 2 => .int
  | 3 => .int
  | _ => .int
abbrev wsX00 : List Cond := u_ws RX0 TX0 5
theorem nmX0 : ∀ a, a < 5 → ∀ b, b < 5 → a ≠ b → (TX0 a).2.1 ≠ (TX0 b).2.1 := by decide +kernel
theorem tyX0_ok : ∀ k, k < 5 → parseFieldDescriptor (TX0 k).2.2.1 = some (tyX0 k) := by decide +kernel
abbrev cX0_init : ByteArray := prog_2_method_1_code
def yX0_init : MethodName := ⟨RX0, "<init>", "(I)V"⟩
abbrev cX0_isFull : ByteArray := prog_2_method_2_code
def yX0_isFull : MethodName := ⟨RX0, "isFull", "()Z"⟩
abbrev cX0_put : ByteArray := prog_2_method_3_code
def yX0_put : MethodName := ⟨RX0, "put", "(I)V"⟩
abbrev cX0_readFirst : ByteArray := prog_2_method_4_code
def yX0_readFirst : MethodName := ⟨RX0, "readFirst", "()V"⟩
def RX1 : String := "ServiceTree$Draft"
def TX1 : u_T := fun k => match k with
  | 0 => ("ServiceTree$Draft", "relations", "LServiceTree$Relations;", true)
  | 1 => ("ServiceTree$Draft", "members", "J", false)
  | 2 => ("ServiceTree$Draft", "starts", "J", false)
  | 3 => ("ServiceTree$Draft", "stops", "J", false)
  | _ => ("ServiceTree$Draft", "ringSize", "I", false)
def tyX1 : Nat → FieldType := fun k => match k with
  | 0 => .object "ServiceTree$Relations"
  | 1 => .long
  | 2 => .long
  | 3 => .long
  | _ => .int
abbrev wsX10 : List Cond := u_ws RX1 TX1 5
theorem nmX1 : ∀ a, a < 5 → ∀ b, b < 5 → a ≠ b → (TX1 a).2.1 ≠ (TX1 b).2.1 := by decide +kernel
theorem tyX1_ok : ∀ k, k < 5 → parseFieldDescriptor (TX1 k).2.2.1 = some (tyX1 k) := by decide +kernel
abbrev cX1_init : ByteArray := prog_3_method_1_code
def yX1_init : MethodName := ⟨RX1, "<init>", "(LServiceTree$Relations;)V"⟩
abbrev cX1_weigh : ByteArray := prog_3_method_2_code
def yX1_weigh : MethodName := ⟨RX1, "weigh", "(IIJJ)I"⟩
abbrev cX1_gatherNeeded : ByteArray := prog_3_method_3_code
def yX1_gatherNeeded : MethodName := ⟨RX1, "gatherNeeded", "(IJ)I"⟩
abbrev cX1_gatherWanted : ByteArray := prog_3_method_4_code
def yX1_gatherWanted : MethodName := ⟨RX1, "gatherWanted", "(J)V"⟩
abbrev cX1_least : ByteArray := prog_3_method_5_code
def yX1_least : MethodName := ⟨RX1, "least", "(J)I"⟩
def RX2 : String := "ServiceTree$History"
def TX2 : u_T := fun k => match k with
  | 0 => ("ServiceTree$History", "kept", "[J", true)
  | _ => ("ServiceTree$History", "size", "I", false)
def tyX2 : Nat → FieldType := fun k => match k with
  | 0 => .array .long
  | _ => .int
abbrev wsX20 : List Cond := u_ws RX2 TX2 2
theorem nmX2 : ∀ a, a < 2 → ∀ b, b < 2 → a ≠ b → (TX2 a).2.1 ≠ (TX2 b).2.1 := by decide +kernel
theorem tyX2_ok : ∀ k, k < 2 → parseFieldDescriptor (TX2 k).2.2.1 = some (tyX2 k) := by decide +kernel
abbrev cX2_init : ByteArray := prog_4_method_1_code
def yX2_init : MethodName := ⟨RX2, "<init>", "()V"⟩
abbrev cX2_add : ByteArray := prog_4_method_2_code
def yX2_add : MethodName := ⟨RX2, "add", "(III)V"⟩
abbrev cX2_tell : ByteArray := prog_4_method_3_code
def yX2_tell : MethodName := ⟨RX2, "tell", "(II)I"⟩
def RX3 : String := "ServiceTree$Jobs"
def TX3 : u_T := fun k => match k with
  | 0 => ("ServiceTree$Jobs", "relations", "LServiceTree$Relations;", true)
  | 1 => ("ServiceTree$Jobs", "starts", "J", false)
  | 2 => ("ServiceTree$Jobs", "stops", "J", false)
  | _ => ("ServiceTree$Jobs", "begun", "J", false)
def tyX3 : Nat → FieldType := fun k => match k with
  | 0 => .object "ServiceTree$Relations"
  | 1 => .long
  | 2 => .long
  | _ => .long
abbrev wsX30 : List Cond := u_ws RX3 TX3 4
theorem nmX3 : ∀ a, a < 4 → ∀ b, b < 4 → a ≠ b → (TX3 a).2.1 ≠ (TX3 b).2.1 := by decide +kernel
theorem tyX3_ok : ∀ k, k < 4 → parseFieldDescriptor (TX3 k).2.2.1 = some (tyX3 k) := by decide +kernel
abbrev cX3_init : ByteArray := prog_5_method_1_code
def yX3_init : MethodName := ⟨RX3, "<init>", "(LServiceTree$Relations;)V"⟩
abbrev cX3_left : ByteArray := prog_5_method_2_code
def yX3_left : MethodName := ⟨RX3, "left", "()J"⟩
abbrev cX3_take : ByteArray := prog_5_method_3_code
def yX3_take : MethodName := ⟨RX3, "take", "(JJ)V"⟩
abbrev cX3_kindOf : ByteArray := prog_5_method_4_code
def yX3_kindOf : MethodName := ⟨RX3, "kindOf", "(I)I"⟩
abbrev cX3_awaitedBy : ByteArray := prog_5_method_5_code
def yX3_awaitedBy : MethodName := ⟨RX3, "awaitedBy", "(I)J"⟩
abbrev cX3_awaiting : ByteArray := prog_5_method_6_code
def yX3_awaiting : MethodName := ⟨RX3, "awaiting", "(I)J"⟩
abbrev cX3_leastReady : ByteArray := prog_5_method_7_code
def yX3_leastReady : MethodName := ⟨RX3, "leastReady", "()I"⟩
abbrev cX3_begin : ByteArray := prog_5_method_8_code
def yX3_begin : MethodName := ⟨RX3, "begin", "(I)V"⟩
abbrev cX3_end : ByteArray := prog_5_method_9_code
def yX3_end : MethodName := ⟨RX3, "end", "(I)V"⟩
abbrev cX3_noteState : ByteArray := prog_5_method_10_code
def yX3_noteState : MethodName := ⟨RX3, "noteState", "(II)V"⟩
def RX4 : String := "ServiceTree$Plan"
def TX4 : u_T := fun k => match k with
  | 0 => ("ServiceTree$Plan", "sorted", "[I", true)
  | 1 => ("ServiceTree$Plan", "begins", "[I", true)
  | 2 => ("ServiceTree$Plan", "ends", "[I", true)
  | 3 => ("ServiceTree$Plan", "starts", "J", false)
  | 4 => ("ServiceTree$Plan", "size", "I", false)
  | 5 => ("ServiceTree$Plan", "lastEnd", "I", false)
  | _ => ("ServiceTree$Plan", "laidOut", "Z", false)
def tyX4 : Nat → FieldType := fun k => match k with
  | 0 => .array .int
  | 1 => .array .int
  | 2 => .array .int
  | 3 => .long
  | 4 => .int
  | 5 => .int
  | _ => .boolean
abbrev wsX40 : List Cond := u_ws RX4 TX4 7
theorem nmX4 : ∀ a, a < 7 → ∀ b, b < 7 → a ≠ b → (TX4 a).2.1 ≠ (TX4 b).2.1 := by decide +kernel
theorem tyX4_ok : ∀ k, k < 7 → parseFieldDescriptor (TX4 k).2.2.1 = some (tyX4 k) := by decide +kernel
abbrev cX4_init : ByteArray := prog_6_method_1_code
def yX4_init : MethodName := ⟨RX4, "<init>", "()V"⟩
abbrev cX4_clear : ByteArray := prog_6_method_2_code
def yX4_clear : MethodName := ⟨RX4, "clear", "(J)V"⟩
abbrev cX4_add : ByteArray := prog_6_method_3_code
def yX4_add : MethodName := ⟨RX4, "add", "(III)V"⟩
abbrev cX4_isBefore : ByteArray := prog_6_method_4_code
def yX4_isBefore : MethodName := ⟨RX4, "isBefore", "(II)Z"⟩
abbrev cX4_endOf : ByteArray := prog_6_method_5_code
def yX4_endOf : MethodName := ⟨RX4, "endOf", "(J)I"⟩
abbrev cX4_tell : ByteArray := prog_6_method_6_code
def yX4_tell : MethodName := ⟨RX4, "tell", "(II)I"⟩
def RX5 : String := "ServiceTree$Relations"
def TX5 : u_T := fun k => match k with
  | 0 => ("ServiceTree$Relations", "froms", "[[J", true)
  | 1 => ("ServiceTree$Relations", "tos", "[[J", true)
  | _ => ("ServiceTree$Relations", "size", "I", false)
def tyX5 : Nat → FieldType := fun k => match k with
  | 0 => .array (.array .long)
  | 1 => .array (.array .long)
  | _ => .int
abbrev wsX50 : List Cond := u_ws RX5 TX5 3
theorem nmX5 : ∀ a, a < 3 → ∀ b, b < 3 → a ≠ b → (TX5 a).2.1 ≠ (TX5 b).2.1 := by decide +kernel
theorem tyX5_ok : ∀ k, k < 3 → parseFieldDescriptor (TX5 k).2.2.1 = some (tyX5 k) := by decide +kernel
abbrev cX5_init : ByteArray := prog_7_method_1_code
def yX5_init : MethodName := ⟨RX5, "<init>", "()V"⟩
abbrev cX5_from : ByteArray := prog_7_method_2_code
def yX5_from : MethodName := ⟨RX5, "from", "(II)J"⟩
abbrev cX5_told : ByteArray := prog_7_method_3_code
def yX5_told : MethodName := ⟨RX5, "told", "(III)Z"⟩
abbrev cX5_add : ByteArray := prog_7_method_4_code
def yX5_add : MethodName := ⟨RX5, "add", "(III)V"⟩
abbrev cX5_remove : ByteArray := prog_7_method_5_code
def yX5_remove : MethodName := ⟨RX5, "remove", "(III)V"⟩
abbrev cX5_write : ByteArray := prog_7_method_6_code
def yX5_write : MethodName := ⟨RX5, "write", "(IIIZ)V"⟩
abbrev cX5_writeOneWay : ByteArray := prog_7_method_7_code
def yX5_writeOneWay : MethodName := ⟨RX5, "writeOneWay", "(IIIZ)V"⟩
abbrev cX5_union : ByteArray := prog_7_method_8_code
def yX5_union : MethodName := ⟨RX5, "union", "([JJ)J"⟩
abbrev cX5_fromAny : ByteArray := prog_7_method_9_code
def yX5_fromAny : MethodName := ⟨RX5, "fromAny", "(IJ)J"⟩
abbrev cX5_withNeeded : ByteArray := prog_7_method_10_code
def yX5_withNeeded : MethodName := ⟨RX5, "withNeeded", "(J)J"⟩
abbrev cX5_withNeeders : ByteArray := prog_7_method_11_code
def yX5_withNeeders : MethodName := ⟨RX5, "withNeeders", "(JJ)J"⟩
abbrev cX5_clash : ByteArray := prog_7_method_12_code
def yX5_clash : MethodName := ⟨RX5, "clash", "(J)Z"⟩
abbrev cX5_awaitedBy : ByteArray := prog_7_method_13_code
def yX5_awaitedBy : MethodName := ⟨RX5, "awaitedBy", "(IJJ)J"⟩
abbrev cX5_after : ByteArray := prog_7_method_14_code
def yX5_after : MethodName := ⟨RX5, "after", "(I)J"⟩
abbrev cX5_tangled : ByteArray := prog_7_method_15_code
def yX5_tangled : MethodName := ⟨RX5, "tangled", "(J)J"⟩
abbrev cX5_shortestRing : ByteArray := prog_7_method_16_code
def yX5_shortestRing : MethodName := ⟨RX5, "shortestRing", "(J)I"⟩
abbrev cX5_ringThrough : ByteArray := prog_7_method_17_code
def yX5_ringThrough : MethodName := ⟨RX5, "ringThrough", "(IJ)I"⟩
def RX6 : String := "ServiceTree$Restarts"
def TX6 : u_T := fun k => match k with
  | 0 => ("ServiceTree$Restarts", "times", "[I", true)
  | 1 => ("ServiceTree$Restarts", "next", "I", false)
  | 2 => ("ServiceTree$Restarts", "filled", "I", false)
  | 3 => ("ServiceTree$Restarts", "delay", "I", false)
  | 4 => ("ServiceTree$Restarts", "budget", "I", false)
  | _ => ("ServiceTree$Restarts", "window", "I", false)
def tyX6 : Nat → FieldType := fun k => match k with
  | 0 => .array .int
  | 1 => .int
  | 2 => .int
  | 3 => .int
  | 4 => .int
  | _ => .int
abbrev wsX60 : List Cond := u_ws RX6 TX6 6
theorem nmX6 : ∀ a, a < 6 → ∀ b, b < 6 → a ≠ b → (TX6 a).2.1 ≠ (TX6 b).2.1 := by decide +kernel
theorem tyX6_ok : ∀ k, k < 6 → parseFieldDescriptor (TX6 k).2.2.1 = some (tyX6 k) := by decide +kernel
abbrev cX6_init : ByteArray := prog_8_method_1_code
def yX6_init : MethodName := ⟨RX6, "<init>", "()V"⟩
abbrev cX6_allow : ByteArray := prog_8_method_2_code
def yX6_allow : MethodName := ⟨RX6, "allow", "(III)V"⟩
abbrev cX6_note : ByteArray := prog_8_method_3_code
def yX6_note : MethodName := ⟨RX6, "note", "(I)V"⟩
abbrev cX6_allowed : ByteArray := prog_8_method_4_code
def yX6_allowed : MethodName := ⟨RX6, "allowed", "(I)Z"⟩
def RX7 : String := "ServiceTree$Service"
def TX7 : u_T := fun k => match k with
  | 0 => ("ServiceTree$Service", "kind", "I", true)
  | 1 => ("ServiceTree$Service", "startTicks", "I", true)
  | 2 => ("ServiceTree$Service", "stopTicks", "I", true)
  | 3 => ("ServiceTree$Service", "lives", "[I", true)
  | 4 => ("ServiceTree$Service", "restarts", "LServiceTree$Restarts;", true)
  | 5 => ("ServiceTree$Service", "door", "LServiceTree$Door;", true)
  | 6 => ("ServiceTree$Service", "state", "I", false)
  | 7 => ("ServiceTree$Service", "since", "I", false)
  | 8 => ("ServiceTree$Service", "starts", "I", false)
  | 9 => ("ServiceTree$Service", "failures", "I", false)
  | 10 => ("ServiceTree$Service", "life", "I", false)
  | _ => ("ServiceTree$Service", "ended", "Z", false)
def tyX7 : Nat → FieldType := fun k => match k with
  | 0 => .int
  | 1 => .int
  | 2 => .int
  | 3 => .array .int
  | 4 => .object "ServiceTree$Restarts"
  | 5 => .object "ServiceTree$Door"
  | 6 => .int
  | 7 => .int
  | 8 => .int
  | 9 => .int
  | 10 => .int
  | _ => .boolean
abbrev wsX70 : List Cond := u_ws RX7 TX7 12
theorem nmX7 : ∀ a, a < 12 → ∀ b, b < 12 → a ≠ b → (TX7 a).2.1 ≠ (TX7 b).2.1 := by decide +kernel
theorem tyX7_ok : ∀ k, k < 12 → parseFieldDescriptor (TX7 k).2.2.1 = some (tyX7 k) := by decide +kernel
abbrev cX7_init : ByteArray := prog_9_method_1_code
def yX7_init : MethodName := ⟨RX7, "<init>", "(IIII)V"⟩
abbrev cX7_firstStateOfStart : ByteArray := prog_9_method_2_code
def yX7_firstStateOfStart : MethodName := ⟨RX7, "firstStateOfStart", "()I"⟩
abbrev cX7_firstStateOfStop : ByteArray := prog_9_method_3_code
def yX7_firstStateOfStop : MethodName := ⟨RX7, "firstStateOfStop", "()I"⟩
abbrev cX7_enter : ByteArray := prog_9_method_4_code
def yX7_enter : MethodName := ⟨RX7, "enter", "(II)V"⟩
abbrev cX7_endByItself : ByteArray := prog_9_method_5_code
def yX7_endByItself : MethodName := ⟨RX7, "endByItself", "()V"⟩
abbrev cX7_isDue : ByteArray := prog_9_method_6_code
def yX7_isDue : MethodName := ⟨RX7, "isDue", "(I)Z"⟩
abbrev cX7_span : ByteArray := prog_9_method_7_code
def yX7_span : MethodName := ⟨RX7, "span", "()I"⟩
def RX8 : String := "ServiceTree"
def TX8 : u_T := fun k => match k with
  | 0 => ("ServiceTree", "services", "Ljava/util/ArrayList;", true)
  | 1 => ("ServiceTree", "relations", "LServiceTree$Relations;", true)
  | 2 => ("ServiceTree", "draft", "LServiceTree$Draft;", true)
  | 3 => ("ServiceTree", "jobs", "LServiceTree$Jobs;", true)
  | 4 => ("ServiceTree", "latestPlan", "LServiceTree$Plan;", true)
  | 5 => ("ServiceTree", "history", "LServiceTree$History;", true)
  | 6 => ("ServiceTree", "inState", "[J", true)
  | 7 => ("ServiceTree", "living", "J", false)
  | 8 => ("ServiceTree", "withLetters", "J", false)
  | 9 => ("ServiceTree", "now", "I", false)
  | 10 => ("ServiceTree", "lettersCome", "I", false)
  | 11 => ("ServiceTree", "lettersRead", "I", false)
  | 12 => ("ServiceTree", "latestRing", "I", false)
  | _ => ("ServiceTree", "settledChanges", "I", false)
def tyX8 : Nat → FieldType := fun k => match k with
  | 0 => .object "java/util/ArrayList"
  | 1 => .object "ServiceTree$Relations"
  | 2 => .object "ServiceTree$Draft"
  | 3 => .object "ServiceTree$Jobs"
  | 4 => .object "ServiceTree$Plan"
  | 5 => .object "ServiceTree$History"
  | 6 => .array .long
  | 7 => .long
  | 8 => .long
  | 9 => .int
  | 10 => .int
  | 11 => .int
  | 12 => .int
  | _ => .int
abbrev wsX80 : List Cond := u_ws RX8 TX8 14
theorem nmX8 : ∀ a, a < 14 → ∀ b, b < 14 → a ≠ b → (TX8 a).2.1 ≠ (TX8 b).2.1 := by decide +kernel
theorem tyX8_ok : ∀ k, k < 14 → parseFieldDescriptor (TX8 k).2.2.1 = some (tyX8 k) := by decide +kernel
abbrev cX8_init : ByteArray := prog_1_method_1_code
def yX8_init : MethodName := ⟨RX8, "<init>", "()V"⟩
abbrev cX8_make : ByteArray := prog_1_method_2_code
def yX8_make : MethodName := ⟨RX8, "make", "(III)I"⟩
abbrev cX8_life : ByteArray := prog_1_method_3_code
def yX8_life : MethodName := ⟨RX8, "life", "(III)I"⟩
abbrev cX8_again : ByteArray := prog_1_method_4_code
def yX8_again : MethodName := ⟨RX8, "again", "(IIII)I"⟩
abbrev cX8_relation : ByteArray := prog_1_method_5_code
def yX8_relation : MethodName := ⟨RX8, "relation", "(III)I"⟩
abbrev cX8_undo : ByteArray := prog_1_method_6_code
def yX8_undo : MethodName := ⟨RX8, "undo", "(III)I"⟩
abbrev cX8_order : ByteArray := prog_1_method_7_code
def yX8_order : MethodName := ⟨RX8, "order", "(II)I"⟩
abbrev cX8_tick : ByteArray := prog_1_method_8_code
def yX8_tick : MethodName := ⟨RX8, "tick", "(I)I"⟩
abbrev cX8_letter : ByteArray := prog_1_method_9_code
def yX8_letter : MethodName := ⟨RX8, "letter", "(I)I"⟩
abbrev cX8_about : ByteArray := prog_1_method_10_code
def yX8_about : MethodName := ⟨RX8, "about", "(II)I"⟩
abbrev cX8_in : ByteArray := prog_1_method_11_code
def yX8_in : MethodName := ⟨RX8, "in", "(I)I"⟩
abbrev cX8_count : ByteArray := prog_1_method_12_code
def yX8_count : MethodName := ⟨RX8, "count", "(I)I"⟩
abbrev cX8_related : ByteArray := prog_1_method_13_code
def yX8_related : MethodName := ⟨RX8, "related", "(III)I"⟩
abbrev cX8_waits : ByteArray := prog_1_method_14_code
def yX8_waits : MethodName := ⟨RX8, "waits", "(II)I"⟩
abbrev cX8_plan : ByteArray := prog_1_method_15_code
def yX8_plan : MethodName := ⟨RX8, "plan", "(II)I"⟩
abbrev cX8_planned : ByteArray := prog_1_method_16_code
def yX8_planned : MethodName := ⟨RX8, "planned", "(II)I"⟩
abbrev cX8_quick : ByteArray := prog_1_method_17_code
def yX8_quick : MethodName := ⟨RX8, "quick", "()I"⟩
abbrev cX8_ring : ByteArray := prog_1_method_18_code
def yX8_ring : MethodName := ⟨RX8, "ring", "()I"⟩
abbrev cX8_changes : ByteArray := prog_1_method_19_code
def yX8_changes : MethodName := ⟨RX8, "changes", "()I"⟩
abbrev cX8_change : ByteArray := prog_1_method_20_code
def yX8_change : MethodName := ⟨RX8, "change", "(II)I"⟩
abbrev cX8_check : ByteArray := prog_1_method_21_code
def yX8_check : MethodName := ⟨RX8, "check", "()I"⟩
abbrev cX8_within : ByteArray := prog_1_method_22_code
def yX8_within : MethodName := ⟨RX8, "within", "(III)Z"⟩
abbrev cX8_only : ByteArray := prog_1_method_23_code
def yX8_only : MethodName := ⟨RX8, "only", "(I)J"⟩
abbrev cX8_holds : ByteArray := prog_1_method_24_code
def yX8_holds : MethodName := ⟨RX8, "holds", "(JI)Z"⟩
abbrev cX8_exists : ByteArray := prog_1_method_25_code
def yX8_exists : MethodName := ⟨RX8, "exists", "(I)Z"⟩
abbrev cX8_canRelate : ByteArray := prog_1_method_26_code
def yX8_canRelate : MethodName := ⟨RX8, "canRelate", "(III)Z"⟩
abbrev cX8_startingUpOrStopping : ByteArray := prog_1_method_27_code
def yX8_startingUpOrStopping : MethodName := ⟨RX8, "startingUpOrStopping", "()J"⟩
abbrev cX8_leastLacking : ByteArray := prog_1_method_28_code
def yX8_leastLacking : MethodName := ⟨RX8, "leastLacking", "()I"⟩
abbrev cX8_hasItsNeeds : ByteArray := prog_1_method_29_code
def yX8_hasItsNeeds : MethodName := ⟨RX8, "hasItsNeeds", "(I)Z"⟩
abbrev cX8_draftOrder : ByteArray := prog_1_method_30_code
def yX8_draftOrder : MethodName := ⟨RX8, "draftOrder", "(II)I"⟩
abbrev cX8_keepRing : ByteArray := prog_1_method_31_code
def yX8_keepRing : MethodName := ⟨RX8, "keepRing", "(I)V"⟩
abbrev cX8_carryOutDraft : ByteArray := prog_1_method_32_code
def yX8_carryOutDraft : MethodName := ⟨RX8, "carryOutDraft", "()V"⟩
abbrev cX8_layOutDraft : ByteArray := prog_1_method_33_code
def yX8_layOutDraft : MethodName := ⟨RX8, "layOutDraft", "()V"⟩
abbrev cX8_ticksToStart : ByteArray := prog_1_method_34_code
def yX8_ticksToStart : MethodName := ⟨RX8, "ticksToStart", "(I)I"⟩
abbrev cX8_ticksToStop : ByteArray := prog_1_method_35_code
def yX8_ticksToStop : MethodName := ⟨RX8, "ticksToStop", "(II)I"⟩
abbrev cX8_beginJobs : ByteArray := prog_1_method_36_code
def yX8_beginJobs : MethodName := ⟨RX8, "beginJobs", "()V"⟩
abbrev cX8_beginStart : ByteArray := prog_1_method_37_code
def yX8_beginStart : MethodName := ⟨RX8, "beginStart", "(I)V"⟩
abbrev cX8_beginStop : ByteArray := prog_1_method_38_code
def yX8_beginStop : MethodName := ⟨RX8, "beginStop", "(I)V"⟩
abbrev cX8_passTick : ByteArray := prog_1_method_39_code
def yX8_passTick : MethodName := ⟨RX8, "passTick", "()V"⟩
abbrev cX8_passDueTime : ByteArray := prog_1_method_40_code
def yX8_passDueTime : MethodName := ⟨RX8, "passDueTime", "(I)V"⟩
abbrev cX8_endLife : ByteArray := prog_1_method_41_code
def yX8_endLife : MethodName := ⟨RX8, "endLife", "(I)V"⟩
abbrev cX8_canWake : ByteArray := prog_1_method_42_code
def yX8_canWake : MethodName := ⟨RX8, "canWake", "(I)Z"⟩
abbrev cX8_stopTheLacking : ByteArray := prog_1_method_43_code
def yX8_stopTheLacking : MethodName := ⟨RX8, "stopTheLacking", "()V"⟩
abbrev cX8_readLetters : ByteArray := prog_1_method_44_code
def yX8_readLetters : MethodName := ⟨RX8, "readLetters", "()V"⟩
abbrev cX8_enter : ByteArray := prog_1_method_45_code
def yX8_enter : MethodName := ⟨RX8, "enter", "(II)V"⟩
def RX9 : String := "ServiceTreeModel"
def TX9 : u_T := fun k => match k with
  | 0 => ("ServiceTreeModel", "kind", "[I", true)
  | 1 => ("ServiceTreeModel", "start", "[I", true)
  | 2 => ("ServiceTreeModel", "stop", "[I", true)
  | 3 => ("ServiceTreeModel", "life", "[I", true)
  | 4 => ("ServiceTreeModel", "delay", "[I", true)
  | 5 => ("ServiceTreeModel", "budget", "[I", true)
  | 6 => ("ServiceTreeModel", "window", "[I", true)
  | 7 => ("ServiceTreeModel", "state", "[I", true)
  | 8 => ("ServiceTreeModel", "since", "[I", true)
  | 9 => ("ServiceTreeModel", "starts", "[I", true)
  | 10 => ("ServiceTreeModel", "fails", "[I", true)
  | 11 => ("ServiceTreeModel", "hasEnded", "[Z", true)
  | 12 => ("ServiceTreeModel", "lives", "[I", true)
  | 13 => ("ServiceTreeModel", "waitedAt", "[I", true)
  | 14 => ("ServiceTreeModel", "waitedMany", "[I", true)
  | 15 => ("ServiceTreeModel", "read", "[I", true)
  | 16 => ("ServiceTreeModel", "readLast", "[I", true)
  | 17 => ("ServiceTreeModel", "letters", "[I", true)
  | 18 => ("ServiceTreeModel", "letterMany", "[I", true)
  | 19 => ("ServiceTreeModel", "relation", "[Z", true)
  | 20 => ("ServiceTreeModel", "relations", "I", false)
  | 21 => ("ServiceTreeModel", "services", "I", false)
  | 22 => ("ServiceTreeModel", "tick", "I", false)
  | 23 => ("ServiceTreeModel", "lettersAll", "I", false)
  | 24 => ("ServiceTreeModel", "readAll", "I", false)
  | 25 => ("ServiceTreeModel", "job", "[I", true)
  | 26 => ("ServiceTreeModel", "hasBegun", "[Z", true)
  | 27 => ("ServiceTreeModel", "member", "[Z", true)
  | 28 => ("ServiceTreeModel", "more", "[Z", true)
  | 29 => ("ServiceTreeModel", "looked", "[Z", true)
  | 30 => ("ServiceTreeModel", "newJob", "[I", true)
  | 31 => ("ServiceTreeModel", "edge", "[Z", true)
  | 32 => ("ServiceTreeModel", "far", "[I", true)
  | 33 => ("ServiceTreeModel", "ring", "I", false)
  | 34 => ("ServiceTreeModel", "planService", "[I", true)
  | 35 => ("ServiceTreeModel", "planHow", "[I", true)
  | 36 => ("ServiceTreeModel", "planBegin", "[I", true)
  | 37 => ("ServiceTreeModel", "planEnd", "[I", true)
  | 38 => ("ServiceTreeModel", "planned", "I", false)
  | 39 => ("ServiceTreeModel", "quick", "I", false)
  | 40 => ("ServiceTreeModel", "ends", "[I", true)
  | 41 => ("ServiceTreeModel", "begins", "[I", true)
  | 42 => ("ServiceTreeModel", "changeTick", "[I", true)
  | 43 => ("ServiceTreeModel", "changeService", "[I", true)
  | 44 => ("ServiceTreeModel", "changeState", "[I", true)
  | _ => ("ServiceTreeModel", "changes", "I", false)
def tyX9 : Nat → FieldType := fun k => match k with
  | 0 => .array .int
  | 1 => .array .int
  | 2 => .array .int
  | 3 => .array .int
  | 4 => .array .int
  | 5 => .array .int
  | 6 => .array .int
  | 7 => .array .int
  | 8 => .array .int
  | 9 => .array .int
  | 10 => .array .int
  | 11 => .array .boolean
  | 12 => .array .int
  | 13 => .array .int
  | 14 => .array .int
  | 15 => .array .int
  | 16 => .array .int
  | 17 => .array .int
  | 18 => .array .int
  | 19 => .array .boolean
  | 20 => .int
  | 21 => .int
  | 22 => .int
  | 23 => .int
  | 24 => .int
  | 25 => .array .int
  | 26 => .array .boolean
  | 27 => .array .boolean
  | 28 => .array .boolean
  | 29 => .array .boolean
  | 30 => .array .int
  | 31 => .array .boolean
  | 32 => .array .int
  | 33 => .int
  | 34 => .array .int
  | 35 => .array .int
  | 36 => .array .int
  | 37 => .array .int
  | 38 => .int
  | 39 => .int
  | 40 => .array .int
  | 41 => .array .int
  | 42 => .array .int
  | 43 => .array .int
  | 44 => .array .int
  | _ => .int
abbrev wsX90 : List Cond := u_ws RX9 TX9 46
theorem nmX9 : ∀ a, a < 46 → ∀ b, b < 46 → a ≠ b → (TX9 a).2.1 ≠ (TX9 b).2.1 := by decide +kernel
theorem tyX9_ok : ∀ k, k < 46 → parseFieldDescriptor (TX9 k).2.2.1 = some (tyX9 k) := by decide +kernel
abbrev cX9_init : ByteArray := prog_11_method_1_code
def yX9_init : MethodName := ⟨RX9, "<init>", "()V"⟩
abbrev cX9_is : ByteArray := prog_11_method_2_code
def yX9_is : MethodName := ⟨RX9, "is", "(I)Z"⟩
abbrev cX9_has : ByteArray := prog_11_method_3_code
def yX9_has : MethodName := ⟨RX9, "has", "(III)Z"⟩
abbrev cX9_to : ByteArray := prog_11_method_4_code
def yX9_to : MethodName := ⟨RX9, "to", "(II)V"⟩
abbrev cX9_make : ByteArray := prog_11_method_5_code
def yX9_make : MethodName := ⟨RX9, "make", "(III)I"⟩
abbrev cX9_life : ByteArray := prog_11_method_6_code
def yX9_life : MethodName := ⟨RX9, "life", "(III)I"⟩
abbrev cX9_again : ByteArray := prog_11_method_7_code
def yX9_again : MethodName := ⟨RX9, "again", "(IIII)I"⟩
abbrev cX9_jobs : ByteArray := prog_11_method_8_code
def yX9_jobs : MethodName := ⟨RX9, "jobs", "()I"⟩
abbrev cX9_rests : ByteArray := prog_11_method_9_code
def yX9_rests : MethodName := ⟨RX9, "rests", "(I)Z"⟩
abbrev cX9_isPair : ByteArray := prog_11_method_10_code
def yX9_isPair : MethodName := ⟨RX9, "isPair", "(III)Z"⟩
abbrev cX9_set : ByteArray := prog_11_method_11_code
def yX9_set : MethodName := ⟨RX9, "set", "(IIIZ)V"⟩
abbrev cX9_relation : ByteArray := prog_11_method_12_code
def yX9_relation : MethodName := ⟨RX9, "relation", "(III)I"⟩
abbrev cX9_undo : ByteArray := prog_11_method_13_code
def yX9_undo : MethodName := ⟨RX9, "undo", "(III)I"⟩
abbrev cX9_addNeeds : ByteArray := prog_11_method_14_code
def yX9_addNeeds : MethodName := ⟨RX9, "addNeeds", "([Z)V"⟩
abbrev cX9_clash : ByteArray := prog_11_method_15_code
def yX9_clash : MethodName := ⟨RX9, "clash", "([Z)Z"⟩
abbrev cX9_shortest : ByteArray := prog_11_method_16_code
def yX9_shortest : MethodName := ⟨RX9, "shortest", "()I"⟩
abbrev cX9_memberRing : ByteArray := prog_11_method_17_code
def yX9_memberRing : MethodName := ⟨RX9, "memberRing", "([Z)I"⟩
abbrev cX9_waitsFor : ByteArray := prog_11_method_18_code
def yX9_waitsFor : MethodName := ⟨RX9, "waitsFor", "(II)Z"⟩
abbrev cX9_waitsAmong : ByteArray := prog_11_method_19_code
def yX9_waitsAmong : MethodName := ⟨RX9, "waitsAmong", "([III)Z"⟩
abbrev cX9_jobRing : ByteArray := prog_11_method_20_code
def yX9_jobRing : MethodName := ⟨RX9, "jobRing", "([I)I"⟩
abbrev cX9_isUpOrWaiting : ByteArray := prog_11_method_21_code
def yX9_isUpOrWaiting : MethodName := ⟨RX9, "isUpOrWaiting", "(I)Z"⟩
abbrev cX9_addNeeding : ByteArray := prog_11_method_22_code
def yX9_addNeeding : MethodName := ⟨RX9, "addNeeding", "(I)V"⟩
abbrev cX9_members : ByteArray := prog_11_method_23_code
def yX9_members : MethodName := ⟨RX9, "members", "(I)V"⟩
abbrev cX9_addWanted : ByteArray := prog_11_method_24_code
def yX9_addWanted : MethodName := ⟨RX9, "addWanted", "()V"⟩
abbrev cX9_look : ByteArray := prog_11_method_25_code
def yX9_look : MethodName := ⟨RX9, "look", "(II)I"⟩
abbrev cX9_many : ByteArray := prog_11_method_26_code
def yX9_many : MethodName := ⟨RX9, "many", "([II)I"⟩
abbrev cX9_order : ByteArray := prog_11_method_27_code
def yX9_order : MethodName := ⟨RX9, "order", "(II)I"⟩
abbrev cX9_waitsForAny : ByteArray := prog_11_method_28_code
def yX9_waitsForAny : MethodName := ⟨RX9, "waitsForAny", "(I)Z"⟩
abbrev cX9_hasNeeds : ByteArray := prog_11_method_29_code
def yX9_hasNeeds : MethodName := ⟨RX9, "hasNeeds", "(I)Z"⟩
abbrev cX9_endJobs : ByteArray := prog_11_method_30_code
def yX9_endJobs : MethodName := ⟨RX9, "endJobs", "()V"⟩
abbrev cX9_begin : ByteArray := prog_11_method_31_code
def yX9_begin : MethodName := ⟨RX9, "begin", "()V"⟩
abbrev cX9_beginOne : ByteArray := prog_11_method_32_code
def yX9_beginOne : MethodName := ⟨RX9, "beginOne", "(I)V"⟩
abbrev cX9_failsNow : ByteArray := prog_11_method_33_code
def yX9_failsNow : MethodName := ⟨RX9, "failsNow", "(I)V"⟩
abbrev cX9_isFree : ByteArray := prog_11_method_34_code
def yX9_isFree : MethodName := ⟨RX9, "isFree", "(I)Z"⟩
abbrev cX9_step : ByteArray := prog_11_method_35_code
def yX9_step : MethodName := ⟨RX9, "step", "(I)V"⟩
abbrev cX9_oneTick : ByteArray := prog_11_method_36_code
def yX9_oneTick : MethodName := ⟨RX9, "oneTick", "()V"⟩
abbrev cX9_tick : ByteArray := prog_11_method_37_code
def yX9_tick : MethodName := ⟨RX9, "tick", "(I)I"⟩
abbrev cX9_letter : ByteArray := prog_11_method_38_code
def yX9_letter : MethodName := ⟨RX9, "letter", "(I)I"⟩
abbrev cX9_about : ByteArray := prog_11_method_39_code
def yX9_about : MethodName := ⟨RX9, "about", "(II)I"⟩
abbrev cX9_in : ByteArray := prog_11_method_40_code
def yX9_in : MethodName := ⟨RX9, "in", "(I)I"⟩
abbrev cX9_count : ByteArray := prog_11_method_41_code
def yX9_count : MethodName := ⟨RX9, "count", "(I)I"⟩
abbrev cX9_related : ByteArray := prog_11_method_42_code
def yX9_related : MethodName := ⟨RX9, "related", "(III)I"⟩
abbrev cX9_waits : ByteArray := prog_11_method_43_code
def yX9_waits : MethodName := ⟨RX9, "waits", "(II)I"⟩
abbrev cX9_plan : ByteArray := prog_11_method_44_code
def yX9_plan : MethodName := ⟨RX9, "plan", "(II)I"⟩
abbrev cX9_reckon : ByteArray := prog_11_method_45_code
def yX9_reckon : MethodName := ⟨RX9, "reckon", "(I)V"⟩
abbrev cX9_planned : ByteArray := prog_11_method_46_code
def yX9_planned : MethodName := ⟨RX9, "planned", "(II)I"⟩
abbrev cX9_quick : ByteArray := prog_11_method_47_code
def yX9_quick : MethodName := ⟨RX9, "quick", "()I"⟩
abbrev cX9_ring : ByteArray := prog_11_method_48_code
def yX9_ring : MethodName := ⟨RX9, "ring", "()I"⟩
abbrev cX9_changes : ByteArray := prog_11_method_49_code
def yX9_changes : MethodName := ⟨RX9, "changes", "()I"⟩
abbrev cX9_change : ByteArray := prog_11_method_50_code
def yX9_change : MethodName := ⟨RX9, "change", "(II)I"⟩
abbrev cX9_check : ByteArray := prog_11_method_51_code
def yX9_check : MethodName := ⟨RX9, "check", "()I"⟩
def RJx145de : String := "java/io/Serializable"
def TJx145de : u_T := fun k => match k with
  | _ => ("", "", "", false)
def tyJx145de : Nat → FieldType := fun k => match k with
  | _ => .int
abbrev wsJx145de0 : List Cond := u_ws RJx145de TJx145de 0
theorem nmJx145de : ∀ a, a < 0 → ∀ b, b < 0 → a ≠ b → (TJx145de a).2.1 ≠ (TJx145de b).2.1 := by decide +kernel
theorem tyJx145de_ok : ∀ k, k < 0 → parseFieldDescriptor (TJx145de k).2.2.1 = some (tyJx145de k) := by decide +kernel
def RJx8e188 : String := "java/lang/Cloneable"
def TJx8e188 : u_T := fun k => match k with
  | _ => ("", "", "", false)
def tyJx8e188 : Nat → FieldType := fun k => match k with
  | _ => .int
abbrev wsJx8e1880 : List Cond := u_ws RJx8e188 TJx8e188 0
theorem nmJx8e188 : ∀ a, a < 0 → ∀ b, b < 0 → a ≠ b → (TJx8e188 a).2.1 ≠ (TJx8e188 b).2.1 := by decide +kernel
theorem tyJx8e188_ok : ∀ k, k < 0 → parseFieldDescriptor (TJx8e188 k).2.2.1 = some (tyJx8e188 k) := by decide +kernel
def RJxab1ab : String := "java/lang/Iterable"
def TJxab1ab : u_T := fun k => match k with
  | _ => ("", "", "", false)
def tyJxab1ab : Nat → FieldType := fun k => match k with
  | _ => .int
abbrev wsJxab1ab0 : List Cond := u_ws RJxab1ab TJxab1ab 0
theorem nmJxab1ab : ∀ a, a < 0 → ∀ b, b < 0 → a ≠ b → (TJxab1ab a).2.1 ≠ (TJxab1ab b).2.1 := by decide +kernel
theorem tyJxab1ab_ok : ∀ k, k < 0 → parseFieldDescriptor (TJxab1ab k).2.2.1 = some (tyJxab1ab k) := by decide +kernel
def RJ13 : String := "java/lang/Long"
def TJ13 : u_T := fun k => match k with
  | _ => ("", "", "", false)
def tyJ13 : Nat → FieldType := fun k => match k with
  | _ => .int
abbrev wsJ130 : List Cond := u_ws RJ13 TJ13 0
theorem nmJ13 : ∀ a, a < 0 → ∀ b, b < 0 → a ≠ b → (TJ13 a).2.1 ≠ (TJ13 b).2.1 := by decide +kernel
theorem tyJ13_ok : ∀ k, k < 0 → parseFieldDescriptor (TJ13 k).2.2.1 = some (tyJ13 k) := by decide +kernel
abbrev cJ13_bitCount_95d88 : ByteArray := prog_15_method_50_code
def yJ13_bitCount_95d88 : MethodName := ⟨RJ13, "bitCount", "(J)I"⟩
def RJ9 : String := "java/lang/Math"
def TJ9 : u_T := fun k => match k with
  | _ => ("", "", "", false)
def tyJ9 : Nat → FieldType := fun k => match k with
  | _ => .int
abbrev wsJ90 : List Cond := u_ws RJ9 TJ9 0
theorem nmJ9 : ∀ a, a < 0 → ∀ b, b < 0 → a ≠ b → (TJ9 a).2.1 ≠ (TJ9 b).2.1 := by decide +kernel
theorem tyJ9_ok : ∀ k, k < 0 → parseFieldDescriptor (TJ9 k).2.2.1 = some (tyJ9 k) := by decide +kernel
abbrev cJ9_floorMod_7cf53 : ByteArray := prog_16_method_50_code
def yJ9_floorMod_7cf53 : MethodName := ⟨RJ9, "floorMod", "(II)I"⟩
abbrev cJ9_max_7cf53 : ByteArray := prog_16_method_65_code
def yJ9_max_7cf53 : MethodName := ⟨RJ9, "max", "(II)I"⟩
abbrev cJ9_min_7cf53 : ByteArray := prog_16_method_69_code
def yJ9_min_7cf53 : MethodName := ⟨RJ9, "min", "(II)I"⟩
def RJ10 : String := "java/lang/System"
def TJ10 : u_T := fun k => match k with
  | _ => ("", "", "", false)
def tyJ10 : Nat → FieldType := fun k => match k with
  | _ => .int
abbrev wsJ100 : List Cond := u_ws RJ10 TJ10 0
theorem nmJ10 : ∀ a, a < 0 → ∀ b, b < 0 → a ≠ b → (TJ10 a).2.1 ≠ (TJ10 b).2.1 := by decide +kernel
theorem tyJ10_ok : ∀ k, k < 0 → parseFieldDescriptor (TJ10 k).2.2.1 = some (tyJ10 k) := by decide +kernel
def RJxa1e45 : String := "java/util/AbstractCollection"
def TJxa1e45 : u_T := fun k => match k with
  | _ => ("", "", "", false)
def tyJxa1e45 : Nat → FieldType := fun k => match k with
  | _ => .int
abbrev wsJxa1e450 : List Cond := u_ws RJxa1e45 TJxa1e45 0
theorem nmJxa1e45 : ∀ a, a < 0 → ∀ b, b < 0 → a ≠ b → (TJxa1e45 a).2.1 ≠ (TJxa1e45 b).2.1 := by decide +kernel
theorem tyJxa1e45_ok : ∀ k, k < 0 → parseFieldDescriptor (TJxa1e45 k).2.2.1 = some (tyJxa1e45 k) := by decide +kernel
abbrev cJxa1e45_init_da8c8 : ByteArray := prog_18_method_1_code
def yJxa1e45_init_da8c8 : MethodName := ⟨RJxa1e45, "<init>", "()V"⟩
def RJxc12de : String := "java/util/AbstractList"
def TJxc12de : u_T := fun k => match k with
  | _ => ("", "", "", false)
def tyJxc12de : Nat → FieldType := fun k => match k with
  | _ => .int
abbrev wsJxc12de0 : List Cond := u_ws RJxc12de TJxc12de 0
theorem nmJxc12de : ∀ a, a < 0 → ∀ b, b < 0 → a ≠ b → (TJxc12de a).2.1 ≠ (TJxc12de b).2.1 := by decide +kernel
theorem tyJxc12de_ok : ∀ k, k < 0 → parseFieldDescriptor (TJxc12de k).2.2.1 = some (tyJxc12de k) := by decide +kernel
abbrev cJxc12de_init_da8c8 : ByteArray := prog_19_method_1_code
def yJxc12de_init_da8c8 : MethodName := ⟨RJxc12de, "<init>", "()V"⟩
def RJx4a65c : String := "java/util/ArrayList"
def TJx4a65c : u_T := fun k => match k with
  | 0 => ("java/util/AbstractList", "modCount", "I", false)
  | 1 => ("java/util/ArrayList", "elementData", "[Ljava/lang/Object;", false)
  | _ => ("java/util/ArrayList", "size", "I", false)
def tyJx4a65c : Nat → FieldType := fun k => match k with
  | 0 => .int
  | 1 => .array (.object "java/lang/Object")
  | _ => .int
abbrev wsJx4a65c0 : List Cond := u_ws RJx4a65c TJx4a65c 3
theorem nmJx4a65c : ∀ a, a < 3 → ∀ b, b < 3 → a ≠ b → (TJx4a65c a).2.1 ≠ (TJx4a65c b).2.1 := by decide +kernel
theorem tyJx4a65c_ok : ∀ k, k < 3 → parseFieldDescriptor (TJx4a65c k).2.2.1 = some (tyJx4a65c k) := by decide +kernel
abbrev cJx4a65c_init_da8c8 : ByteArray := prog_20_method_2_code
def yJx4a65c_init_da8c8 : MethodName := ⟨RJx4a65c, "<init>", "()V"⟩
abbrev cJx4a65c_grow_92f84 : ByteArray := prog_20_method_6_code
def yJx4a65c_grow_92f84 : MethodName := ⟨RJx4a65c, "grow", "(I)[Ljava/lang/Object;"⟩
abbrev cJx4a65c_grow_d5877 : ByteArray := prog_20_method_7_code
def yJx4a65c_grow_d5877 : MethodName := ⟨RJx4a65c, "grow", "()[Ljava/lang/Object;"⟩
abbrev cJx4a65c_size_8abf5 : ByteArray := prog_20_method_8_code
def yJx4a65c_size_8abf5 : MethodName := ⟨RJx4a65c, "size", "()I"⟩
abbrev cJx4a65c_elementData_915e3 : ByteArray := prog_20_method_18_code
def yJx4a65c_elementData_915e3 : MethodName := ⟨RJx4a65c, "elementData", "(I)Ljava/lang/Object;"⟩
abbrev cJx4a65c_get_915e3 : ByteArray := prog_20_method_20_code
def yJx4a65c_get_915e3 : MethodName := ⟨RJx4a65c, "get", "(I)Ljava/lang/Object;"⟩
abbrev cJx4a65c_add_72be8 : ByteArray := prog_20_method_24_code
def yJx4a65c_add_72be8 : MethodName := ⟨RJx4a65c, "add", "(Ljava/lang/Object;[Ljava/lang/Object;I)V"⟩
abbrev cJx4a65c_add_9ea2d : ByteArray := prog_20_method_25_code
def yJx4a65c_add_9ea2d : MethodName := ⟨RJx4a65c, "add", "(Ljava/lang/Object;)Z"⟩
def RJ7 : String := "java/util/Arrays"
def TJ7 : u_T := fun k => match k with
  | _ => ("", "", "", false)
def tyJ7 : Nat → FieldType := fun k => match k with
  | _ => .int
abbrev wsJ70 : List Cond := u_ws RJ7 TJ7 0
theorem nmJ7 : ∀ a, a < 0 → ∀ b, b < 0 → a ≠ b → (TJ7 a).2.1 ≠ (TJ7 b).2.1 := by decide +kernel
theorem tyJ7_ok : ∀ k, k < 0 → parseFieldDescriptor (TJ7 k).2.2.1 = some (tyJ7 k) := by decide +kernel
abbrev cJ7_copyOf_1904c : ByteArray := prog_21_method_119_code
def yJ7_copyOf_1904c : MethodName := ⟨RJ7, "copyOf", "([Ljava/lang/Object;I)[Ljava/lang/Object;"⟩
abbrev cJ7_copyOf_6403c : ByteArray := prog_21_method_120_code
def yJ7_copyOf_6403c : MethodName := ⟨RJ7, "copyOf", "([Ljava/lang/Object;ILjava/lang/Class;)[Ljava/lang/Object;"⟩
def RJx5ef63 : String := "java/util/Collection"
def TJx5ef63 : u_T := fun k => match k with
  | _ => ("", "", "", false)
def tyJx5ef63 : Nat → FieldType := fun k => match k with
  | _ => .int
abbrev wsJx5ef630 : List Cond := u_ws RJx5ef63 TJx5ef63 0
theorem nmJx5ef63 : ∀ a, a < 0 → ∀ b, b < 0 → a ≠ b → (TJx5ef63 a).2.1 ≠ (TJx5ef63 b).2.1 := by decide +kernel
theorem tyJx5ef63_ok : ∀ k, k < 0 → parseFieldDescriptor (TJx5ef63 k).2.2.1 = some (tyJx5ef63 k) := by decide +kernel
def RJxbd725 : String := "java/util/List"
def TJxbd725 : u_T := fun k => match k with
  | _ => ("", "", "", false)
def tyJxbd725 : Nat → FieldType := fun k => match k with
  | _ => .int
abbrev wsJxbd7250 : List Cond := u_ws RJxbd725 TJxbd725 0
theorem nmJxbd725 : ∀ a, a < 0 → ∀ b, b < 0 → a ≠ b → (TJxbd725 a).2.1 ≠ (TJxbd725 b).2.1 := by decide +kernel
theorem tyJxbd725_ok : ∀ k, k < 0 → parseFieldDescriptor (TJxbd725 k).2.2.1 = some (tyJxbd725 k) := by decide +kernel
def RJ15 : String := "java/util/Objects"
def TJ15 : u_T := fun k => match k with
  | _ => ("", "", "", false)
def tyJ15 : Nat → FieldType := fun k => match k with
  | _ => .int
abbrev wsJ150 : List Cond := u_ws RJ15 TJ15 0
theorem nmJ15 : ∀ a, a < 0 → ∀ b, b < 0 → a ≠ b → (TJ15 a).2.1 ≠ (TJ15 b).2.1 := by decide +kernel
theorem tyJ15_ok : ∀ k, k < 0 → parseFieldDescriptor (TJ15 k).2.2.1 = some (tyJ15 k) := by decide +kernel
abbrev cJ15_checkIndex_7cf53 : ByteArray := prog_24_method_17_code
def yJ15_checkIndex_7cf53 : MethodName := ⟨RJ15, "checkIndex", "(II)I"⟩
def RJxf0a74 : String := "java/util/RandomAccess"
def TJxf0a74 : u_T := fun k => match k with
  | _ => ("", "", "", false)
def tyJxf0a74 : Nat → FieldType := fun k => match k with
  | _ => .int
abbrev wsJxf0a740 : List Cond := u_ws RJxf0a74 TJxf0a74 0
theorem nmJxf0a74 : ∀ a, a < 0 → ∀ b, b < 0 → a ≠ b → (TJxf0a74 a).2.1 ≠ (TJxf0a74 b).2.1 := by decide +kernel
theorem tyJxf0a74_ok : ∀ k, k < 0 → parseFieldDescriptor (TJxf0a74 k).2.2.1 = some (tyJxf0a74 k) := by decide +kernel
def RJxa66e6 : String := "java/util/SequencedCollection"
def TJxa66e6 : u_T := fun k => match k with
  | _ => ("", "", "", false)
def tyJxa66e6 : Nat → FieldType := fun k => match k with
  | _ => .int
abbrev wsJxa66e60 : List Cond := u_ws RJxa66e6 TJxa66e6 0
theorem nmJxa66e6 : ∀ a, a < 0 → ∀ b, b < 0 → a ≠ b → (TJxa66e6 a).2.1 ≠ (TJxa66e6 b).2.1 := by decide +kernel
theorem tyJxa66e6_ok : ∀ k, k < 0 → parseFieldDescriptor (TJxa66e6 k).2.2.1 = some (tyJxa66e6 k) := by decide +kernel
def RJ8 : String := "jdk/internal/util/ArraysSupport"
def TJ8 : u_T := fun k => match k with
  | _ => ("", "", "", false)
def tyJ8 : Nat → FieldType := fun k => match k with
  | _ => .int
abbrev wsJ80 : List Cond := u_ws RJ8 TJ8 0
theorem nmJ8 : ∀ a, a < 0 → ∀ b, b < 0 → a ≠ b → (TJ8 a).2.1 ≠ (TJ8 b).2.1 := by decide +kernel
theorem tyJ8_ok : ∀ k, k < 0 → parseFieldDescriptor (TJ8 k).2.2.1 = some (tyJ8 k) := by decide +kernel
abbrev cJ8_newLength_cabcc : ByteArray := prog_27_method_27_code
def yJ8_newLength_cabcc : MethodName := ⟨RJ8, "newLength", "(III)I"⟩
abbrev cJ8_hugeLength_7cf53 : ByteArray := prog_27_method_28_code
def yJ8_hugeLength_7cf53 : MethodName := ⟨RJ8, "hugeLength", "(II)I"⟩
def RJ3 : String := "jdk/internal/util/Preconditions"
def TJ3 : u_T := fun k => match k with
  | _ => ("", "", "", false)
def tyJ3 : Nat → FieldType := fun k => match k with
  | _ => .int
abbrev wsJ30 : List Cond := u_ws RJ3 TJ3 0
theorem nmJ3 : ∀ a, a < 0 → ∀ b, b < 0 → a ≠ b → (TJ3 a).2.1 ≠ (TJ3 b).2.1 := by decide +kernel
theorem tyJ3_ok : ∀ k, k < 0 → parseFieldDescriptor (TJ3 k).2.2.1 = some (tyJ3 k) := by decide +kernel
abbrev cJ3_checkIndex_8e157 : ByteArray := prog_28_method_11_code
def yJ3_checkIndex_8e157 : MethodName := ⟨RJ3, "checkIndex", "(IILjava/util/function/BiFunction;)I"⟩
def RL : String := "ServiceTreeLaw"
abbrev cL_law : ByteArray := code
def yL_law : MethodName := ⟨RL, "law", "([I)Z"⟩
abbrev vwCl : List vw_C := [(RJx4a65c, TJx4a65c, 3), (RX0, TX0, 5), (RX1, TX1, 5), (RX2, TX2, 2), (RX3, TX3, 4), (RX4, TX4, 7), (RX5, TX5, 3), (RX6, TX6, 6), (RX7, TX7, 12), (RX8, TX8, 14), (RX9, TX9, 46)]
set_option maxRecDepth 20000 in
theorem inKJx4a65c : ∀ w ∈ wsJx4a65c0, w ∈ lw_tbl := by decide +kernel
set_option maxRecDepth 20000 in
theorem inKX0 : ∀ w ∈ wsX00, w ∈ lw_tbl := by decide +kernel
set_option maxRecDepth 20000 in
theorem inKX1 : ∀ w ∈ wsX10, w ∈ lw_tbl := by decide +kernel
set_option maxRecDepth 20000 in
theorem inKX2 : ∀ w ∈ wsX20, w ∈ lw_tbl := by decide +kernel
set_option maxRecDepth 20000 in
theorem inKX3 : ∀ w ∈ wsX30, w ∈ lw_tbl := by decide +kernel
set_option maxRecDepth 20000 in
theorem inKX4 : ∀ w ∈ wsX40, w ∈ lw_tbl := by decide +kernel
set_option maxRecDepth 20000 in
theorem inKX5 : ∀ w ∈ wsX50, w ∈ lw_tbl := by decide +kernel
set_option maxRecDepth 20000 in
theorem inKX6 : ∀ w ∈ wsX60, w ∈ lw_tbl := by decide +kernel
set_option maxRecDepth 20000 in
theorem inKX7 : ∀ w ∈ wsX70, w ∈ lw_tbl := by decide +kernel
set_option maxRecDepth 20000 in
theorem inKX8 : ∀ w ∈ wsX80, w ∈ lw_tbl := by decide +kernel
set_option maxRecDepth 20000 in
theorem inKX9 : ∀ w ∈ wsX90, w ∈ lw_tbl := by decide +kernel
