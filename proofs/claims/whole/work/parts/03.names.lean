def RX0 : String := "ScanRows$Access"
def TX0 : u_T := fun k => match k with
  | 0 => ("ScanRows$Access", "state", "I", false)
  | 1 => ("ScanRows$Access", "code", "I", false)
  | 2 => ("ScanRows$Access", "number", "I", true)
  | 3 => ("ScanRows$Access", "rows", "LScanRows$Rows;", true)
  | 4 => ("ScanRows$Access", "cells", "LScanRows$Cells;", true)
  | 5 => ("ScanRows$Access", "codeInRegister", "I", false)
  | 6 => ("ScanRows$Access", "numberInRegister", "I", false)
  | 7 => ("ScanRows$Access", "bypassBit", "I", false)
  | _ => ("ScanRows$Access", "ticksFrom", "[I", true)
def tyX0 : Nat → FieldType := fun k => match k with
  | 0 => .int
  | 1 => .int
  | 2 => .int
  | 3 => .object "ScanRows$Rows"
  | 4 => .object "ScanRows$Cells"
  | 5 => .int
  | 6 => .int
  | 7 => .int
  | _ => .array .int
theorem nmX0 : ∀ a, a < 9 → ∀ b, b < 9 → a ≠ b → (TX0 a).2.1 ≠ (TX0 b).2.1 := by decide +kernel
theorem tyX0_ok : ∀ k, k < 9 → parseFieldDescriptor (TX0 k).2.2.1 = some (tyX0 k) := by decide +kernel
def RX1 : String := "ScanRows$Cells"
def TX1 : u_T := fun k => match k with
  | 0 => ("ScanRows$Cells", "count", "I", false)
  | 1 => ("ScanRows$Cells", "atPin", "[I", true)
  | 2 => ("ScanRows$Cells", "kindOf", "[I", true)
  | 3 => ("ScanRows$Cells", "held", "[I", true)
  | _ => ("ScanRows$Cells", "inRegister", "[I", true)
def tyX1 : Nat → FieldType := fun k => match k with
  | 0 => .int
  | 1 => .array .int
  | 2 => .array .int
  | 3 => .array .int
  | _ => .array .int
theorem nmX1 : ∀ a, a < 5 → ∀ b, b < 5 → a ≠ b → (TX1 a).2.1 ≠ (TX1 b).2.1 := by decide +kernel
theorem tyX1_ok : ∀ k, k < 5 → parseFieldDescriptor (TX1 k).2.2.1 = some (tyX1 k) := by decide +kernel
def RX2 : String := "ScanRows$Rows"
def TX2 : u_T := fun k => match k with
  | 0 => ("ScanRows$Rows", "latches", "I", false)
  | 1 => ("ScanRows$Rows", "chains", "I", false)
  | 2 => ("ScanRows$Rows", "placed", "I", false)
  | 3 => ("ScanRows$Rows", "value", "[I", true)
  | 4 => ("ScanRows$Rows", "clock", "[I", true)
  | 5 => ("ScanRows$Rows", "x", "[I", true)
  | 6 => ("ScanRows$Rows", "y", "[I", true)
  | 7 => ("ScanRows$Rows", "fromLogic", "[Z", true)
  | 8 => ("ScanRows$Rows", "placeOf", "[I", true)
  | 9 => ("ScanRows$Rows", "row", "[I", true)
  | 10 => ("ScanRows$Rows", "chainOf", "[I", true)
  | _ => ("ScanRows$Rows", "start", "[I", true)
def tyX2 : Nat → FieldType := fun k => match k with
  | 0 => .int
  | 1 => .int
  | 2 => .int
  | 3 => .array .int
  | 4 => .array .int
  | 5 => .array .int
  | 6 => .array .int
  | 7 => .array .boolean
  | 8 => .array .int
  | 9 => .array .int
  | 10 => .array .int
  | _ => .array .int
theorem nmX2 : ∀ a, a < 12 → ∀ b, b < 12 → a ≠ b → (TX2 a).2.1 ≠ (TX2 b).2.1 := by decide +kernel
theorem tyX2_ok : ∀ k, k < 12 → parseFieldDescriptor (TX2 k).2.2.1 = some (tyX2 k) := by decide +kernel
def RX3 : String := "ScanRows"
def TX3 : u_T := fun k => match k with
  | 0 => ("ScanRows", "rows", "LScanRows$Rows;", true)
  | 1 => ("ScanRows", "cells", "LScanRows$Cells;", true)
  | _ => ("ScanRows", "access", "LScanRows$Access;", true)
def tyX3 : Nat → FieldType := fun k => match k with
  | 0 => .object "ScanRows$Rows"
  | 1 => .object "ScanRows$Cells"
  | _ => .object "ScanRows$Access"
theorem nmX3 : ∀ a, a < 3 → ∀ b, b < 3 → a ≠ b → (TX3 a).2.1 ≠ (TX3 b).2.1 := by decide +kernel
theorem tyX3_ok : ∀ k, k < 3 → parseFieldDescriptor (TX3 k).2.2.1 = some (tyX3 k) := by decide +kernel
def RX4 : String := "ScanRowsModel"
def TX4 : u_T := fun k => match k with
  | 0 => ("ScanRowsModel", "thrown", "I", false)
  | 1 => ("ScanRowsModel", "number", "I", true)
  | 2 => ("ScanRowsModel", "clocks", "[I", true)
  | 3 => ("ScanRowsModel", "xs", "[I", true)
  | 4 => ("ScanRowsModel", "ys", "[I", true)
  | 5 => ("ScanRowsModel", "values", "[I", true)
  | 6 => ("ScanRowsModel", "sets", "[Z", true)
  | 7 => ("ScanRowsModel", "latches", "I", false)
  | 8 => ("ScanRowsModel", "row", "[I", true)
  | 9 => ("ScanRowsModel", "chained", "I", false)
  | 10 => ("ScanRowsModel", "begins", "[I", true)
  | 11 => ("ScanRowsModel", "chains", "I", false)
  | 12 => ("ScanRowsModel", "kinds", "[I", true)
  | 13 => ("ScanRowsModel", "pins", "[I", true)
  | 14 => ("ScanRowsModel", "holds", "[I", true)
  | 15 => ("ScanRowsModel", "cellBits", "[I", true)
  | 16 => ("ScanRowsModel", "cells", "I", false)
  | 17 => ("ScanRowsModel", "numberBits", "[I", true)
  | 18 => ("ScanRowsModel", "bypass", "I", false)
  | 19 => ("ScanRowsModel", "codeBits", "I", false)
  | 20 => ("ScanRowsModel", "code", "I", false)
  | 21 => ("ScanRowsModel", "state", "I", false)
  | _ => ("ScanRowsModel", "far", "[I", true)
def tyX4 : Nat → FieldType := fun k => match k with
  | 0 => .int
  | 1 => .int
  | 2 => .array .int
  | 3 => .array .int
  | 4 => .array .int
  | 5 => .array .int
  | 6 => .array .boolean
  | 7 => .int
  | 8 => .array .int
  | 9 => .int
  | 10 => .array .int
  | 11 => .int
  | 12 => .array .int
  | 13 => .array .int
  | 14 => .array .int
  | 15 => .array .int
  | 16 => .int
  | 17 => .array .int
  | 18 => .int
  | 19 => .int
  | 20 => .int
  | 21 => .int
  | _ => .array .int
theorem nmX4 : ∀ a, a < 23 → ∀ b, b < 23 → a ≠ b → (TX4 a).2.1 ≠ (TX4 b).2.1 := by decide +kernel
theorem tyX4_ok : ∀ k, k < 23 → parseFieldDescriptor (TX4 k).2.2.1 = some (tyX4 k) := by decide +kernel
abbrev vwCl : List vw_C := [(RX0, TX0, 9), (RX1, TX1, 5), (RX2, TX2, 12), (RX3, TX3, 3), (RX4, TX4, 23)]
def RL : String := "ScanRowsLaw"
abbrev cX3_init : ByteArray := prog_1_method_1_code
def yX3_init : MethodName := ⟨RX3, "<init>", "(I)V"⟩
abbrev cX2_init : ByteArray := prog_4_method_1_code
def yX2_init : MethodName := ⟨RX2, "<init>", "()V"⟩
abbrev cX1_init : ByteArray := prog_3_method_1_code
def yX1_init : MethodName := ⟨RX1, "<init>", "()V"⟩
abbrev cX0_init : ByteArray := prog_2_method_1_code
def yX0_init : MethodName := ⟨RX0, "<init>", "(ILScanRows$Rows;LScanRows$Cells;)V"⟩
abbrev cX3_travel : ByteArray := prog_1_method_6_code
def yX3_travel : MethodName := ⟨RX3, "travel", "()J"⟩
abbrev cX2_wholeWay : ByteArray := prog_4_method_12_code
def yX2_wholeWay : MethodName := ⟨RX2, "wholeWay", "()J"⟩
abbrev cX2_wayBehind : ByteArray := prog_4_method_13_code
def yX2_wayBehind : MethodName := ⟨RX2, "wayBehind", "(I)I"⟩
abbrev cX2_hasNeighbourBehind : ByteArray := prog_4_method_11_code
def yX2_hasNeighbourBehind : MethodName := ⟨RX2, "hasNeighbourBehind", "(I)Z"⟩
abbrev cX3_shift : ByteArray := prog_1_method_12_code
def yX3_shift : MethodName := ⟨RX3, "shift", "(I)I"⟩
abbrev cX2_shiftChains : ByteArray := prog_4_method_23_code
def yX2_shiftChains : MethodName := ⟨RX2, "shiftChains", "(I)I"⟩
abbrev cX2_shiftPlaces : ByteArray := prog_4_method_25_code
def yX2_shiftPlaces : MethodName := ⟨RX2, "shiftPlaces", "(III)I"⟩
abbrev cX3_state : ByteArray := prog_1_method_16_code
def yX3_state : MethodName := ⟨RX3, "state", "()I"⟩
abbrev cL_cell : ByteArray := method_2_code
def yL_cell : MethodName := ⟨RL, "cell", "([II)I"⟩
abbrev cL_latch : ByteArray := method_3_code
def yL_latch : MethodName := ⟨RL, "latch", "(LScanRows;IJJ[J)I"⟩
abbrev cX3_latch : ByteArray := prog_1_method_2_code
def yX3_latch : MethodName := ⟨RX3, "latch", "(IJJ)I"⟩
abbrev cX2_addLatch : ByteArray := prog_4_method_2_code
def yX2_addLatch : MethodName := ⟨RX2, "addLatch", "(III)I"⟩
abbrev cL_make : ByteArray := method_4_code
def yL_make : MethodName := ⟨RL, "make", "(LScanRows;I[J)I"⟩
abbrev cX3_make : ByteArray := prog_1_method_3_code
def yX3_make : MethodName := ⟨RX3, "make", "(I)I"⟩
abbrev cX2_arrange : ByteArray := prog_4_method_3_code
def yX2_arrange : MethodName := ⟨RX2, "arrange", "(I)I"⟩
abbrev cX2_sortRow : ByteArray := prog_4_method_4_code
def yX2_sortRow : MethodName := ⟨RX2, "sortRow", "()V"⟩
abbrev cX2_standsBefore : ByteArray := prog_4_method_5_code
def yX2_standsBefore : MethodName := ⟨RX2, "standsBefore", "(II)Z"⟩
abbrev cX2_cutRow : ByteArray := prog_4_method_6_code
def yX2_cutRow : MethodName := ⟨RX2, "cutRow", "(I)V"⟩
abbrev cX2_lengthOf : ByteArray := prog_4_method_8_code
def yX2_lengthOf : MethodName := ⟨RX2, "lengthOf", "(I)I"⟩
abbrev cL_at : ByteArray := method_5_code
def yL_at : MethodName := ⟨RL, "at", "(LScanRows;II[J)I"⟩
abbrev cX3_at : ByteArray := prog_1_method_4_code
def yX3_at : MethodName := ⟨RX3, "at", "(II)I"⟩
abbrev cX2_hasChain : ByteArray := prog_4_method_7_code
def yX2_hasChain : MethodName := ⟨RX2, "hasChain", "(I)Z"⟩
abbrev cX2_latchAt : ByteArray := prog_4_method_9_code
def yX2_latchAt : MethodName := ⟨RX2, "latchAt", "(II)I"⟩
abbrev cL_lockUp : ByteArray := method_6_code
def yL_lockUp : MethodName := ⟨RL, "lockUp", "(LScanRows;II[J)I"⟩
abbrev cX3_lockUp : ByteArray := prog_1_method_5_code
def yX3_lockUp : MethodName := ⟨RX3, "lockUp", "(II)Z"⟩
abbrev cX2_clockChangesBehind : ByteArray := prog_4_method_10_code
def yX2_clockChangesBehind : MethodName := ⟨RX2, "clockChangesBehind", "(II)Z"⟩
abbrev cL_improve : ByteArray := method_7_code
def yL_improve : MethodName := ⟨RL, "improve", "(LScanRows;I[J)I"⟩
abbrev cX3_improve : ByteArray := prog_1_method_7_code
def yX3_improve : MethodName := ⟨RX3, "improve", "(I)I"⟩
abbrev cX2_exchangeUpTo : ByteArray := prog_4_method_15_code
def yX2_exchangeUpTo : MethodName := ⟨RX2, "exchangeUpTo", "(I)I"⟩
abbrev cX2_exchangeOnce : ByteArray := prog_4_method_16_code
def yX2_exchangeOnce : MethodName := ⟨RX2, "exchangeOnce", "()Z"⟩
abbrev cX2_mayExchange : ByteArray := prog_4_method_17_code
def yX2_mayExchange : MethodName := ⟨RX2, "mayExchange", "(II)Z"⟩
abbrev cX2_exchangeIfShorter : ByteArray := prog_4_method_18_code
def yX2_exchangeIfShorter : MethodName := ⟨RX2, "exchangeIfShorter", "(II)Z"⟩
abbrev cX2_wayAround : ByteArray := prog_4_method_14_code
def yX2_wayAround : MethodName := ⟨RX2, "wayAround", "(I)I"⟩
abbrev cX2_exchange : ByteArray := prog_4_method_19_code
def yX2_exchange : MethodName := ⟨RX2, "exchange", "(II)V"⟩
abbrev cL_rule : ByteArray := method_8_code
def yL_rule : MethodName := ⟨RL, "rule", "(LScanRows;II[J)I"⟩
abbrev cX3_rule : ByteArray := prog_1_method_8_code
def yX3_rule : MethodName := ⟨RX3, "rule", "(II)I"⟩
abbrev cX2_brokenRule : ByteArray := prog_4_method_20_code
def yX2_brokenRule : MethodName := ⟨RX2, "brokenRule", "(II)I"⟩
abbrev cX2_breaks : ByteArray := prog_4_method_21_code
def yX2_breaks : MethodName := ⟨RX2, "breaks", "(II)Z"⟩
abbrev cL_set : ByteArray := method_9_code
def yL_set : MethodName := ⟨RL, "set", "(LScanRows;IZ[J)I"⟩
abbrev cX3_set : ByteArray := prog_1_method_9_code
def yX3_set : MethodName := ⟨RX3, "set", "(IZ)Z"⟩
abbrev cX3_requireLatch : ByteArray := prog_1_method_20_code
def yX3_requireLatch : MethodName := ⟨RX3, "requireLatch", "(I)V"⟩
abbrev cX2_changeSet : ByteArray := prog_4_method_22_code
def yX2_changeSet : MethodName := ⟨RX2, "changeSet", "(IZ)Z"⟩
abbrev cL_load : ByteArray := method_10_code
def yL_load : MethodName := ⟨RL, "load", "(LScanRows;II)I"⟩
abbrev cX3_load : ByteArray := prog_1_method_10_code
def yX3_load : MethodName := ⟨RX3, "load", "(II)V"⟩
abbrev cX3_asBit : ByteArray := prog_1_method_22_code
def yX3_asBit : MethodName := ⟨RX3, "asBit", "(I)I"⟩
abbrev cL_value : ByteArray := method_11_code
def yL_value : MethodName := ⟨RL, "value", "(LScanRows;I[J)I"⟩
abbrev cX3_value : ByteArray := prog_1_method_11_code
def yX3_value : MethodName := ⟨RX3, "value", "(I)I"⟩
abbrev cL_port : ByteArray := method_12_code
def yL_port : MethodName := ⟨RL, "port", "(LScanRows;I[J)I"⟩
abbrev cX3_port : ByteArray := prog_1_method_13_code
def yX3_port : MethodName := ⟨RX3, "port", "(I)I"⟩
abbrev cX1_addCell : ByteArray := prog_3_method_2_code
def yX1_addCell : MethodName := ⟨RX1, "addCell", "(I)I"⟩
abbrev cL_pin : ByteArray := method_13_code
def yL_pin : MethodName := ⟨RL, "pin", "(LScanRows;II)I"⟩
abbrev cX3_pin : ByteArray := prog_1_method_14_code
def yX3_pin : MethodName := ⟨RX3, "pin", "(II)V"⟩
abbrev cX3_requireCell : ByteArray := prog_1_method_21_code
def yX3_requireCell : MethodName := ⟨RX3, "requireCell", "(I)V"⟩
abbrev cL_tick : ByteArray := method_14_code
def yL_tick : MethodName := ⟨RL, "tick", "(LScanRows;II[J)I"⟩
abbrev cX3_tick : ByteArray := prog_1_method_15_code
def yX3_tick : MethodName := ⟨RX3, "tick", "(II)I"⟩
abbrev cX0_step : ByteArray := prog_2_method_2_code
def yX0_step : MethodName := ⟨RX0, "step", "(II)I"⟩
abbrev cX0_act : ByteArray := prog_2_method_3_code
def yX0_act : MethodName := ⟨RX0, "act", "(I)I"⟩
abbrev cX0_captureData : ByteArray := prog_2_method_6_code
def yX0_captureData : MethodName := ⟨RX0, "captureData", "()V"⟩
abbrev cX0_register : ByteArray := prog_2_method_4_code
def yX0_register : MethodName := ⟨RX0, "register", "()I"⟩
abbrev cX1_capture : ByteArray := prog_3_method_3_code
def yX1_capture : MethodName := ⟨RX1, "capture", "()V"⟩
abbrev cX0_shiftData : ByteArray := prog_2_method_7_code
def yX0_shiftData : MethodName := ⟨RX0, "shiftData", "(I)I"⟩
abbrev cX1_shiftRegister : ByteArray := prog_3_method_4_code
def yX1_shiftRegister : MethodName := ⟨RX1, "shiftRegister", "(I)I"⟩
abbrev cX0_shiftNumber : ByteArray := prog_2_method_8_code
def yX0_shiftNumber : MethodName := ⟨RX0, "shiftNumber", "(I)I"⟩
abbrev cX2_shiftWholeRow : ByteArray := prog_4_method_24_code
def yX2_shiftWholeRow : MethodName := ⟨RX2, "shiftWholeRow", "(I)I"⟩
abbrev cX0_shiftBypass : ByteArray := prog_2_method_9_code
def yX0_shiftBypass : MethodName := ⟨RX0, "shiftBypass", "(I)I"⟩
abbrev cX0_updateData : ByteArray := prog_2_method_11_code
def yX0_updateData : MethodName := ⟨RX0, "updateData", "()V"⟩
abbrev cX1_update : ByteArray := prog_3_method_5_code
def yX1_update : MethodName := ⟨RX1, "update", "()V"⟩
abbrev cX0_shiftCode : ByteArray := prog_2_method_10_code
def yX0_shiftCode : MethodName := ⟨RX0, "shiftCode", "(I)I"⟩
abbrev cL_go : ByteArray := method_15_code
def yL_go : MethodName := ⟨RL, "go", "(LScanRows;I[J)I"⟩
abbrev cX3_go : ByteArray := prog_1_method_17_code
def yX3_go : MethodName := ⟨RX3, "go", "(I)I"⟩
abbrev cX0_stepUntil : ByteArray := prog_2_method_12_code
def yX0_stepUntil : MethodName := ⟨RX0, "stepUntil", "(I)I"⟩
abbrev cX0_measureTicks : ByteArray := prog_2_method_14_code
def yX0_measureTicks : MethodName := ⟨RX0, "measureTicks", "(I)V"⟩
abbrev cX0_shortestMode : ByteArray := prog_2_method_13_code
def yX0_shortestMode : MethodName := ⟨RX0, "shortestMode", "()I"⟩
abbrev cL_boundary : ByteArray := method_16_code
def yL_boundary : MethodName := ⟨RL, "boundary", "(LScanRows;I[J)I"⟩
abbrev cX3_boundary : ByteArray := prog_1_method_18_code
def yX3_boundary : MethodName := ⟨RX3, "boundary", "(I)I"⟩
abbrev cX1_drivenAt : ByteArray := prog_3_method_6_code
def yX1_drivenAt : MethodName := ⟨RX1, "drivenAt", "(IZ)I"⟩
abbrev cL_count : ByteArray := method_17_code
def yL_count : MethodName := ⟨RL, "count", "(LScanRows;I[J)I"⟩
abbrev cX3_count : ByteArray := prog_1_method_19_code
def yX3_count : MethodName := ⟨RX3, "count", "(I)I"⟩
abbrev cX0_registerLength : ByteArray := prog_2_method_5_code
def yX0_registerLength : MethodName := ⟨RX0, "registerLength", "()I"⟩
abbrev cX4_init : ByteArray := prog_6_method_1_code
def yX4_init : MethodName := ⟨RX4, "<init>", "(I)V"⟩
abbrev cX4_thrown : ByteArray := prog_6_method_2_code
def yX4_thrown : MethodName := ⟨RX4, "thrown", "()I"⟩
abbrev cX4_latch : ByteArray := prog_6_method_6_code
def yX4_latch : MethodName := ⟨RX4, "latch", "(IJJ)I"⟩
abbrev cX4_make : ByteArray := prog_6_method_8_code
def yX4_make : MethodName := ⟨RX4, "make", "(I)I"⟩
abbrev cX4_isBefore : ByteArray := prog_6_method_7_code
def yX4_isBefore : MethodName := ⟨RX4, "isBefore", "(II)Z"⟩
abbrev cX4_at : ByteArray := prog_6_method_9_code
def yX4_at : MethodName := ⟨RX4, "at", "(II)I"⟩
abbrev cX4_isChain : ByteArray := prog_6_method_4_code
def yX4_isChain : MethodName := ⟨RX4, "isChain", "(I)Z"⟩
abbrev cX4_lockUp : ByteArray := prog_6_method_10_code
def yX4_lockUp : MethodName := ⟨RX4, "lockUp", "(II)Z"⟩
abbrev cX4_travel : ByteArray := prog_6_method_13_code
def yX4_travel : MethodName := ⟨RX4, "travel", "()J"⟩
abbrev cX4_allTravel : ByteArray := prog_6_method_12_code
def yX4_allTravel : MethodName := ⟨RX4, "allTravel", "()I"⟩
abbrev cX4_size : ByteArray := prog_6_method_11_code
def yX4_size : MethodName := ⟨RX4, "size", "(I)I"⟩
abbrev cX4_improve : ByteArray := prog_6_method_17_code
def yX4_improve : MethodName := ⟨RX4, "improve", "(I)I"⟩
abbrev cX4_step : ByteArray := prog_6_method_16_code
def yX4_step : MethodName := ⟨RX4, "step", "()Z"⟩
abbrev cX4_placeOf : ByteArray := prog_6_method_14_code
def yX4_placeOf : MethodName := ⟨RX4, "placeOf", "(I)I"⟩
abbrev cX4_exchange : ByteArray := prog_6_method_15_code
def yX4_exchange : MethodName := ⟨RX4, "exchange", "(II)V"⟩
abbrev cX4_rule : ByteArray := prog_6_method_18_code
def yX4_rule : MethodName := ⟨RX4, "rule", "(II)I"⟩
abbrev cX4_set : ByteArray := prog_6_method_19_code
def yX4_set : MethodName := ⟨RX4, "set", "(IZ)Z"⟩
abbrev cX4_isLatch : ByteArray := prog_6_method_3_code
def yX4_isLatch : MethodName := ⟨RX4, "isLatch", "(I)Z"⟩
abbrev cX4_load : ByteArray := prog_6_method_20_code
def yX4_load : MethodName := ⟨RX4, "load", "(II)V"⟩
abbrev cX4_value : ByteArray := prog_6_method_21_code
def yX4_value : MethodName := ⟨RX4, "value", "(I)I"⟩
abbrev cX4_shift : ByteArray := prog_6_method_23_code
def yX4_shift : MethodName := ⟨RX4, "shift", "(I)I"⟩
abbrev cX4_move : ByteArray := prog_6_method_22_code
def yX4_move : MethodName := ⟨RX4, "move", "(III)I"⟩
abbrev cX4_port : ByteArray := prog_6_method_24_code
def yX4_port : MethodName := ⟨RX4, "port", "(I)I"⟩
abbrev cX4_pin : ByteArray := prog_6_method_25_code
def yX4_pin : MethodName := ⟨RX4, "pin", "(II)V"⟩
abbrev cX4_isCell : ByteArray := prog_6_method_5_code
def yX4_isCell : MethodName := ⟨RX4, "isCell", "(I)Z"⟩
abbrev cX4_boundary : ByteArray := prog_6_method_26_code
def yX4_boundary : MethodName := ⟨RX4, "boundary", "(I)I"⟩
abbrev cX4_tick : ByteArray := prog_6_method_32_code
def yX4_tick : MethodName := ⟨RX4, "tick", "(II)I"⟩
abbrev cX4_doTick : ByteArray := prog_6_method_31_code
def yX4_doTick : MethodName := ⟨RX4, "doTick", "(II)I"⟩
abbrev cX4_capture : ByteArray := prog_6_method_29_code
def yX4_capture : MethodName := ⟨RX4, "capture", "()V"⟩
abbrev cX4_register : ByteArray := prog_6_method_27_code
def yX4_register : MethodName := ⟨RX4, "register", "()I"⟩
abbrev cX4_shiftData : ByteArray := prog_6_method_30_code
def yX4_shiftData : MethodName := ⟨RX4, "shiftData", "(I)I"⟩
abbrev cX4_next : ByteArray := prog_6_method_28_code
def yX4_next : MethodName := ⟨RX4, "next", "(II)I"⟩
abbrev cX4_state : ByteArray := prog_6_method_33_code
def yX4_state : MethodName := ⟨RX4, "state", "()I"⟩
abbrev cX4_go : ByteArray := prog_6_method_34_code
def yX4_go : MethodName := ⟨RX4, "go", "(I)I"⟩
abbrev cX4_count : ByteArray := prog_6_method_35_code
def yX4_count : MethodName := ⟨RX4, "count", "(I)I"⟩
theorem tw_43 : (Cond.lays "ScanRows$Rows" "ScanRows$Rows" "latches" "I") ∈ ALLG := al_t (i := 43) (by decide +kernel) (by decide +kernel)
theorem tw_45 : (Cond.lays "ScanRows$Rows" "ScanRows$Rows" "chains" "I") ∈ ALLG := al_t (i := 45) (by decide +kernel) (by decide +kernel)
theorem tw_47 : (Cond.lays "ScanRows$Rows" "ScanRows$Rows" "placed" "I") ∈ ALLG := al_t (i := 47) (by decide +kernel) (by decide +kernel)
theorem tw_49 : (Cond.laysFinal "ScanRows$Rows" "ScanRows$Rows" "value" "[I") ∈ ALLG := al_t (i := 49) (by decide +kernel) (by decide +kernel)
theorem tw_51 : (Cond.laysFinal "ScanRows$Rows" "ScanRows$Rows" "clock" "[I") ∈ ALLG := al_t (i := 51) (by decide +kernel) (by decide +kernel)
theorem tw_53 : (Cond.laysFinal "ScanRows$Rows" "ScanRows$Rows" "x" "[I") ∈ ALLG := al_t (i := 53) (by decide +kernel) (by decide +kernel)
theorem tw_55 : (Cond.laysFinal "ScanRows$Rows" "ScanRows$Rows" "y" "[I") ∈ ALLG := al_t (i := 55) (by decide +kernel) (by decide +kernel)
theorem tw_57 : (Cond.laysFinal "ScanRows$Rows" "ScanRows$Rows" "fromLogic" "[Z") ∈ ALLG := al_t (i := 57) (by decide +kernel) (by decide +kernel)
theorem tw_59 : (Cond.laysFinal "ScanRows$Rows" "ScanRows$Rows" "placeOf" "[I") ∈ ALLG := al_t (i := 59) (by decide +kernel) (by decide +kernel)
theorem tw_61 : (Cond.laysFinal "ScanRows$Rows" "ScanRows$Rows" "row" "[I") ∈ ALLG := al_t (i := 61) (by decide +kernel) (by decide +kernel)
theorem tw_63 : (Cond.laysFinal "ScanRows$Rows" "ScanRows$Rows" "chainOf" "[I") ∈ ALLG := al_t (i := 63) (by decide +kernel) (by decide +kernel)
theorem tw_65 : (Cond.laysFinal "ScanRows$Rows" "ScanRows$Rows" "start" "[I") ∈ ALLG := al_t (i := 65) (by decide +kernel) (by decide +kernel)
theorem tw_84 : (Cond.lays "ScanRows$Cells" "ScanRows$Cells" "count" "I") ∈ ALLG := al_t (i := 84) (by decide +kernel) (by decide +kernel)
theorem tw_86 : (Cond.laysFinal "ScanRows$Cells" "ScanRows$Cells" "atPin" "[I") ∈ ALLG := al_t (i := 86) (by decide +kernel) (by decide +kernel)
theorem tw_88 : (Cond.laysFinal "ScanRows$Cells" "ScanRows$Cells" "kindOf" "[I") ∈ ALLG := al_t (i := 88) (by decide +kernel) (by decide +kernel)
theorem tw_90 : (Cond.laysFinal "ScanRows$Cells" "ScanRows$Cells" "held" "[I") ∈ ALLG := al_t (i := 90) (by decide +kernel) (by decide +kernel)
theorem tw_92 : (Cond.laysFinal "ScanRows$Cells" "ScanRows$Cells" "inRegister" "[I") ∈ ALLG := al_t (i := 92) (by decide +kernel) (by decide +kernel)
theorem tw_112 : (Cond.lays "ScanRows$Access" "ScanRows$Access" "state" "I") ∈ ALLG := al_t (i := 112) (by decide +kernel) (by decide +kernel)
theorem tw_114 : (Cond.lays "ScanRows$Access" "ScanRows$Access" "code" "I") ∈ ALLG := al_t (i := 114) (by decide +kernel) (by decide +kernel)
theorem tw_116 : (Cond.laysFinal "ScanRows$Access" "ScanRows$Access" "number" "I") ∈ ALLG := al_t (i := 116) (by decide +kernel) (by decide +kernel)
theorem tw_118 : (Cond.laysFinal "ScanRows$Access" "ScanRows$Access" "rows" "LScanRows$Rows;") ∈ ALLG := al_t (i := 118) (by decide +kernel) (by decide +kernel)
theorem tw_120 : (Cond.laysFinal "ScanRows$Access" "ScanRows$Access" "cells" "LScanRows$Cells;") ∈ ALLG := al_t (i := 120) (by decide +kernel) (by decide +kernel)
theorem tw_122 : (Cond.lays "ScanRows$Access" "ScanRows$Access" "codeInRegister" "I") ∈ ALLG := al_t (i := 122) (by decide +kernel) (by decide +kernel)
theorem tw_124 : (Cond.lays "ScanRows$Access" "ScanRows$Access" "numberInRegister" "I") ∈ ALLG := al_t (i := 124) (by decide +kernel) (by decide +kernel)
theorem tw_126 : (Cond.lays "ScanRows$Access" "ScanRows$Access" "bypassBit" "I") ∈ ALLG := al_t (i := 126) (by decide +kernel) (by decide +kernel)
theorem tw_128 : (Cond.laysFinal "ScanRows$Access" "ScanRows$Access" "ticksFrom" "[I") ∈ ALLG := al_t (i := 128) (by decide +kernel) (by decide +kernel)
theorem tw_134 : (Cond.laysFinal "ScanRows" "ScanRows" "rows" "LScanRows$Rows;") ∈ ALLG := al_t (i := 134) (by decide +kernel) (by decide +kernel)
theorem tw_136 : (Cond.laysFinal "ScanRows" "ScanRows" "cells" "LScanRows$Cells;") ∈ ALLG := al_t (i := 136) (by decide +kernel) (by decide +kernel)
theorem tw_138 : (Cond.laysFinal "ScanRows" "ScanRows" "access" "LScanRows$Access;") ∈ ALLG := al_t (i := 138) (by decide +kernel) (by decide +kernel)
theorem tw_595 : (Cond.lays "ScanRowsModel" "ScanRowsModel" "thrown" "I") ∈ ALLG := al_t (i := 595) (by decide +kernel) (by decide +kernel)
theorem tw_597 : (Cond.laysFinal "ScanRowsModel" "ScanRowsModel" "number" "I") ∈ ALLG := al_t (i := 597) (by decide +kernel) (by decide +kernel)
theorem tw_599 : (Cond.laysFinal "ScanRowsModel" "ScanRowsModel" "clocks" "[I") ∈ ALLG := al_t (i := 599) (by decide +kernel) (by decide +kernel)
theorem tw_601 : (Cond.laysFinal "ScanRowsModel" "ScanRowsModel" "xs" "[I") ∈ ALLG := al_t (i := 601) (by decide +kernel) (by decide +kernel)
theorem tw_603 : (Cond.laysFinal "ScanRowsModel" "ScanRowsModel" "ys" "[I") ∈ ALLG := al_t (i := 603) (by decide +kernel) (by decide +kernel)
theorem tw_605 : (Cond.laysFinal "ScanRowsModel" "ScanRowsModel" "values" "[I") ∈ ALLG := al_t (i := 605) (by decide +kernel) (by decide +kernel)
theorem tw_607 : (Cond.laysFinal "ScanRowsModel" "ScanRowsModel" "sets" "[Z") ∈ ALLG := al_t (i := 607) (by decide +kernel) (by decide +kernel)
theorem tw_609 : (Cond.lays "ScanRowsModel" "ScanRowsModel" "latches" "I") ∈ ALLG := al_t (i := 609) (by decide +kernel) (by decide +kernel)
theorem tw_611 : (Cond.laysFinal "ScanRowsModel" "ScanRowsModel" "row" "[I") ∈ ALLG := al_t (i := 611) (by decide +kernel) (by decide +kernel)
theorem tw_613 : (Cond.lays "ScanRowsModel" "ScanRowsModel" "chained" "I") ∈ ALLG := al_t (i := 613) (by decide +kernel) (by decide +kernel)
theorem tw_615 : (Cond.laysFinal "ScanRowsModel" "ScanRowsModel" "begins" "[I") ∈ ALLG := al_t (i := 615) (by decide +kernel) (by decide +kernel)
theorem tw_617 : (Cond.lays "ScanRowsModel" "ScanRowsModel" "chains" "I") ∈ ALLG := al_t (i := 617) (by decide +kernel) (by decide +kernel)
theorem tw_619 : (Cond.laysFinal "ScanRowsModel" "ScanRowsModel" "kinds" "[I") ∈ ALLG := al_t (i := 619) (by decide +kernel) (by decide +kernel)
theorem tw_621 : (Cond.laysFinal "ScanRowsModel" "ScanRowsModel" "pins" "[I") ∈ ALLG := al_t (i := 621) (by decide +kernel) (by decide +kernel)
theorem tw_623 : (Cond.laysFinal "ScanRowsModel" "ScanRowsModel" "holds" "[I") ∈ ALLG := al_t (i := 623) (by decide +kernel) (by decide +kernel)
theorem tw_625 : (Cond.laysFinal "ScanRowsModel" "ScanRowsModel" "cellBits" "[I") ∈ ALLG := al_t (i := 625) (by decide +kernel) (by decide +kernel)
theorem tw_627 : (Cond.lays "ScanRowsModel" "ScanRowsModel" "cells" "I") ∈ ALLG := al_t (i := 627) (by decide +kernel) (by decide +kernel)
theorem tw_629 : (Cond.laysFinal "ScanRowsModel" "ScanRowsModel" "numberBits" "[I") ∈ ALLG := al_t (i := 629) (by decide +kernel) (by decide +kernel)
theorem tw_631 : (Cond.lays "ScanRowsModel" "ScanRowsModel" "bypass" "I") ∈ ALLG := al_t (i := 631) (by decide +kernel) (by decide +kernel)
theorem tw_633 : (Cond.lays "ScanRowsModel" "ScanRowsModel" "codeBits" "I") ∈ ALLG := al_t (i := 633) (by decide +kernel) (by decide +kernel)
theorem tw_635 : (Cond.lays "ScanRowsModel" "ScanRowsModel" "code" "I") ∈ ALLG := al_t (i := 635) (by decide +kernel) (by decide +kernel)
theorem tw_637 : (Cond.lays "ScanRowsModel" "ScanRowsModel" "state" "I") ∈ ALLG := al_t (i := 637) (by decide +kernel) (by decide +kernel)
theorem tw_639 : (Cond.laysFinal "ScanRowsModel" "ScanRowsModel" "far" "[I") ∈ ALLG := al_t (i := 639) (by decide +kernel) (by decide +kernel)
theorem inX0 : ∀ w ∈ u_ws RX0 TX0 9, w ∈ ALLG := by
  intro w hw
  obtain ⟨k, hk, rfl⟩ := List.mem_map.mp hw
  have hk := List.mem_range.mp hk
  match k, hk with
  | 0, _ => exact tw_112
  | 1, _ => exact tw_114
  | 2, _ => exact tw_116
  | 3, _ => exact tw_118
  | 4, _ => exact tw_120
  | 5, _ => exact tw_122
  | 6, _ => exact tw_124
  | 7, _ => exact tw_126
  | 8, _ => exact tw_128
  | k + 9, h => exact absurd h (by omega)
theorem inX1 : ∀ w ∈ u_ws RX1 TX1 5, w ∈ ALLG := by
  intro w hw
  obtain ⟨k, hk, rfl⟩ := List.mem_map.mp hw
  have hk := List.mem_range.mp hk
  match k, hk with
  | 0, _ => exact tw_84
  | 1, _ => exact tw_86
  | 2, _ => exact tw_88
  | 3, _ => exact tw_90
  | 4, _ => exact tw_92
  | k + 5, h => exact absurd h (by omega)
theorem inX2 : ∀ w ∈ u_ws RX2 TX2 12, w ∈ ALLG := by
  intro w hw
  obtain ⟨k, hk, rfl⟩ := List.mem_map.mp hw
  have hk := List.mem_range.mp hk
  match k, hk with
  | 0, _ => exact tw_43
  | 1, _ => exact tw_45
  | 2, _ => exact tw_47
  | 3, _ => exact tw_49
  | 4, _ => exact tw_51
  | 5, _ => exact tw_53
  | 6, _ => exact tw_55
  | 7, _ => exact tw_57
  | 8, _ => exact tw_59
  | 9, _ => exact tw_61
  | 10, _ => exact tw_63
  | 11, _ => exact tw_65
  | k + 12, h => exact absurd h (by omega)
theorem inX3 : ∀ w ∈ u_ws RX3 TX3 3, w ∈ ALLG := by
  intro w hw
  obtain ⟨k, hk, rfl⟩ := List.mem_map.mp hw
  have hk := List.mem_range.mp hk
  match k, hk with
  | 0, _ => exact tw_134
  | 1, _ => exact tw_136
  | 2, _ => exact tw_138
  | k + 3, h => exact absurd h (by omega)
theorem inX4 : ∀ w ∈ u_ws RX4 TX4 23, w ∈ ALLG := by
  intro w hw
  obtain ⟨k, hk, rfl⟩ := List.mem_map.mp hw
  have hk := List.mem_range.mp hk
  match k, hk with
  | 0, _ => exact tw_595
  | 1, _ => exact tw_597
  | 2, _ => exact tw_599
  | 3, _ => exact tw_601
  | 4, _ => exact tw_603
  | 5, _ => exact tw_605
  | 6, _ => exact tw_607
  | 7, _ => exact tw_609
  | 8, _ => exact tw_611
  | 9, _ => exact tw_613
  | 10, _ => exact tw_615
  | 11, _ => exact tw_617
  | 12, _ => exact tw_619
  | 13, _ => exact tw_621
  | 14, _ => exact tw_623
  | 15, _ => exact tw_625
  | 16, _ => exact tw_627
  | 17, _ => exact tw_629
  | 18, _ => exact tw_631
  | 19, _ => exact tw_633
  | 20, _ => exact tw_635
  | 21, _ => exact tw_637
  | 22, _ => exact tw_639
  | k + 23, h => exact absurd h (by omega)
