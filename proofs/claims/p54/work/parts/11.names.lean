/-! names, fields, code names: the head of the printed names -/
def RX0 : String := "EstimateContest$1"
def TX0 : u_T := fun k => match k with
  | _ => ("", "", "", false)
def tyX0 : Nat → FieldType := fun k => match k with
  | _ => .int
abbrev wsX00 : List Cond := u_ws RX0 TX0 0
theorem nmX0 : ∀ a, a < 0 → ∀ b, b < 0 → a ≠ b → (TX0 a).2.1 ≠ (TX0 b).2.1 := by decide +kernel
theorem tyX0_ok : ∀ k, k < 0 → parseFieldDescriptor (TX0 k).2.2.1 = some (tyX0 k) := by decide +kernel
def RX1 : String := "EstimateContest$Bins"
def TX1 : u_T := fun k => match k with
  | 0 => ("EstimateContest$Bins", "sizes", "[I", true)
  | _ => ("EstimateContest$Bins", "hitCounts", "[I", true)
def tyX1 : Nat → FieldType := fun k => match k with
  | 0 => .array .int
  | _ => .array .int
abbrev wsX10 : List Cond := u_ws RX1 TX1 2
theorem nmX1 : ∀ a, a < 2 → ∀ b, b < 2 → a ≠ b → (TX1 a).2.1 ≠ (TX1 b).2.1 := by decide +kernel
theorem tyX1_ok : ∀ k, k < 2 → parseFieldDescriptor (TX1 k).2.2.1 = some (tyX1 k) := by decide +kernel
abbrev cX1_init : ByteArray := prog_3_method_1_code
def yX1_init : MethodName := ⟨RX1, "<init>", "()V"⟩
abbrev cX1_clear : ByteArray := prog_3_method_2_code
def yX1_clear : MethodName := ⟨RX1, "clear", "()V"⟩
abbrev cX1_takeFrom : ByteArray := prog_3_method_3_code
def yX1_takeFrom : MethodName := ⟨RX1, "takeFrom", "(LEstimateContest$Bins;)V"⟩
abbrev cX1_add : ByteArray := prog_3_method_4_code
def yX1_add : MethodName := ⟨RX1, "add", "(IZ)V"⟩
abbrev cX1_sizeOf : ByteArray := prog_3_method_5_code
def yX1_sizeOf : MethodName := ⟨RX1, "sizeOf", "(I)I"⟩
abbrev cX1_hitsOf : ByteArray := prog_3_method_6_code
def yX1_hitsOf : MethodName := ⟨RX1, "hitsOf", "(I)I"⟩
abbrev cX1_totalSize : ByteArray := prog_3_method_7_code
def yX1_totalSize : MethodName := ⟨RX1, "totalSize", "()I"⟩
abbrev cX1_totalHits : ByteArray := prog_3_method_8_code
def yX1_totalHits : MethodName := ⟨RX1, "totalHits", "()I"⟩
abbrev cX1_totalError : ByteArray := prog_3_method_9_code
def yX1_totalError : MethodName := ⟨RX1, "totalError", "()I"⟩
abbrev cX1_sumOf : ByteArray := prog_3_method_10_code
def yX1_sumOf : MethodName := ⟨RX1, "sumOf", "([I)I"⟩
def RX2 : String := "EstimateContest$Board"
def TX2 : u_T := fun k => match k with
  | 0 => ("EstimateContest$Board", "players", "[LEstimateContest$Player;", true)
  | 1 => ("EstimateContest$Board", "queue", "[LEstimateContest$Question;", true)
  | 2 => ("EstimateContest$Board", "bins", "LEstimateContest$Bins;", true)
  | 3 => ("EstimateContest$Board", "truths", "[I", true)
  | 4 => ("EstimateContest$Board", "playerCount", "I", false)
  | 5 => ("EstimateContest$Board", "openCount", "I", false)
  | 6 => ("EstimateContest$Board", "nextNumber", "I", false)
  | 7 => ("EstimateContest$Board", "settledCount", "I", false)
  | _ => ("EstimateContest$Board", "house", "I", false)
def tyX2 : Nat → FieldType := fun k => match k with
  | 0 => .array (.object "EstimateContest$Player")
  | 1 => .array (.object "EstimateContest$Question")
  | 2 => .object "EstimateContest$Bins"
  | 3 => .array .int
  | 4 => .int
  | 5 => .int
  | 6 => .int
  | 7 => .int
  | _ => .int
abbrev wsX20 : List Cond := u_ws RX2 TX2 9
theorem nmX2 : ∀ a, a < 9 → ∀ b, b < 9 → a ≠ b → (TX2 a).2.1 ≠ (TX2 b).2.1 := by decide +kernel
theorem tyX2_ok : ∀ k, k < 9 → parseFieldDescriptor (TX2 k).2.2.1 = some (tyX2 k) := by decide +kernel
abbrev cX2_init : ByteArray := prog_4_method_1_code
def yX2_init : MethodName := ⟨RX2, "<init>", "()V"⟩
abbrev cX2_takeFrom : ByteArray := prog_4_method_2_code
def yX2_takeFrom : MethodName := ⟨RX2, "takeFrom", "(LEstimateContest$Board;)V"⟩
abbrev cX2_hasPlayer : ByteArray := prog_4_method_3_code
def yX2_hasPlayer : MethodName := ⟨RX2, "hasPlayer", "(I)Z"⟩
abbrev cX2_placeOf : ByteArray := prog_4_method_4_code
def yX2_placeOf : MethodName := ⟨RX2, "placeOf", "(I)I"⟩
abbrev cX2_joinFault : ByteArray := prog_4_method_5_code
def yX2_joinFault : MethodName := ⟨RX2, "joinFault", "()LEstimateContest$Fault;"⟩
abbrev cX2_join : ByteArray := prog_4_method_6_code
def yX2_join : MethodName := ⟨RX2, "join", "()I"⟩
abbrev cX2_askFault : ByteArray := prog_4_method_7_code
def yX2_askFault : MethodName := ⟨RX2, "askFault", "(I)LEstimateContest$Fault;"⟩
abbrev cX2_ask : ByteArray := prog_4_method_8_code
def yX2_ask : MethodName := ⟨RX2, "ask", "(I)I"⟩
abbrev cX2_betFault : ByteArray := prog_4_method_9_code
def yX2_betFault : MethodName := ⟨RX2, "betFault", "(IIIIII)LEstimateContest$Fault;"⟩
abbrev cX2_bet : ByteArray := prog_4_method_10_code
def yX2_bet : MethodName := ⟨RX2, "bet", "(IIIIII)I"⟩
abbrev cX2_settleFault : ByteArray := prog_4_method_11_code
def yX2_settleFault : MethodName := ⟨RX2, "settleFault", "(I)LEstimateContest$Fault;"⟩
abbrev cX2_settleFirst : ByteArray := prog_4_method_12_code
def yX2_settleFirst : MethodName := ⟨RX2, "settleFirst", "(I)I"⟩
abbrev cX2_payOut : ByteArray := prog_4_method_13_code
def yX2_payOut : MethodName := ⟨RX2, "payOut", "(LEstimateContest$Estimate;II)Z"⟩
abbrev cX2_keepTruth : ByteArray := prog_4_method_14_code
def yX2_keepTruth : MethodName := ⟨RX2, "keepTruth", "(I)V"⟩
abbrev cX2_moveFirstToEnd : ByteArray := prog_4_method_15_code
def yX2_moveFirstToEnd : MethodName := ⟨RX2, "moveFirstToEnd", "()V"⟩
abbrev cX2_postponeFault : ByteArray := prog_4_method_16_code
def yX2_postponeFault : MethodName := ⟨RX2, "postponeFault", "()LEstimateContest$Fault;"⟩
abbrev cX2_postponeFirst : ByteArray := prog_4_method_17_code
def yX2_postponeFirst : MethodName := ⟨RX2, "postponeFirst", "()I"⟩
abbrev cX2_leaveFault : ByteArray := prog_4_method_18_code
def yX2_leaveFault : MethodName := ⟨RX2, "leaveFault", "(I)LEstimateContest$Fault;"⟩
abbrev cX2_leave : ByteArray := prog_4_method_19_code
def yX2_leave : MethodName := ⟨RX2, "leave", "(I)I"⟩
abbrev cX2_sumOfStakes : ByteArray := prog_4_method_20_code
def yX2_sumOfStakes : MethodName := ⟨RX2, "sumOfStakes", "()I"⟩
abbrev cX2_sumOfPlayersBins : ByteArray := prog_4_method_21_code
def yX2_sumOfPlayersBins : MethodName := ⟨RX2, "sumOfPlayersBins", "(I)I"⟩
abbrev cX2_leastError : ByteArray := prog_4_method_22_code
def yX2_leastError : MethodName := ⟨RX2, "leastError", "()I"⟩
abbrev cX2_rankByScore : ByteArray := prog_4_method_23_code
def yX2_rankByScore : MethodName := ⟨RX2, "rankByScore", "(I)I"⟩
abbrev cX2_keepsCoins : ByteArray := prog_4_method_24_code
def yX2_keepsCoins : MethodName := ⟨RX2, "keepsCoins", "()Z"⟩
abbrev cX2_binsAgree : ByteArray := prog_4_method_25_code
def yX2_binsAgree : MethodName := ⟨RX2, "binsAgree", "()Z"⟩
def RX3 : String := "EstimateContest$Command"
def TX3 : u_T := fun k => match k with
  | _ => ("", "", "", false)
def tyX3 : Nat → FieldType := fun k => match k with
  | _ => .int
abbrev wsX30 : List Cond := u_ws RX3 TX3 0
theorem nmX3 : ∀ a, a < 0 → ∀ b, b < 0 → a ≠ b → (TX3 a).2.1 ≠ (TX3 b).2.1 := by decide +kernel
theorem tyX3_ok : ∀ k, k < 0 → parseFieldDescriptor (TX3 k).2.2.1 = some (tyX3 k) := by decide +kernel
def RX4 : String := "EstimateContest$CommandText"
def TX4 : u_T := fun k => match k with
  | 0 => ("EstimateContest$CommandText", "signs", "[C", true)
  | 1 => ("EstimateContest$CommandText", "numbers", "[I", true)
  | 2 => ("EstimateContest$CommandText", "length", "I", false)
  | 3 => ("EstimateContest$CommandText", "place", "I", false)
  | _ => ("EstimateContest$CommandText", "numberCount", "I", false)
def tyX4 : Nat → FieldType := fun k => match k with
  | 0 => .array .char
  | 1 => .array .int
  | 2 => .int
  | 3 => .int
  | _ => .int
abbrev wsX40 : List Cond := u_ws RX4 TX4 5
theorem nmX4 : ∀ a, a < 5 → ∀ b, b < 5 → a ≠ b → (TX4 a).2.1 ≠ (TX4 b).2.1 := by decide +kernel
theorem tyX4_ok : ∀ k, k < 5 → parseFieldDescriptor (TX4 k).2.2.1 = some (tyX4 k) := by decide +kernel
abbrev cX4_init : ByteArray := prog_6_method_1_code
def yX4_init : MethodName := ⟨RX4, "<init>", "()V"⟩
abbrev cX4_isFull : ByteArray := prog_6_method_2_code
def yX4_isFull : MethodName := ⟨RX4, "isFull", "()Z"⟩
abbrev cX4_append : ByteArray := prog_6_method_3_code
def yX4_append : MethodName := ⟨RX4, "append", "(C)I"⟩
abbrev cX4_clear : ByteArray := prog_6_method_4_code
def yX4_clear : MethodName := ⟨RX4, "clear", "()V"⟩
abbrev cX4_rewind : ByteArray := prog_6_method_5_code
def yX4_rewind : MethodName := ⟨RX4, "rewind", "()V"⟩
abbrev cX4_position : ByteArray := prog_6_method_6_code
def yX4_position : MethodName := ⟨RX4, "position", "()I"⟩
abbrev cX4_number : ByteArray := prog_6_method_7_code
def yX4_number : MethodName := ⟨RX4, "number", "(I)I"⟩
abbrev cX4_countCommands : ByteArray := prog_6_method_8_code
def yX4_countCommands : MethodName := ⟨RX4, "countCommands", "()I"⟩
abbrev cX4_readCommand : ByteArray := prog_6_method_9_code
def yX4_readCommand : MethodName := ⟨RX4, "readCommand", "()LEstimateContest$Command;"⟩
abbrev cX4_readSign : ByteArray := prog_6_method_10_code
def yX4_readSign : MethodName := ⟨RX4, "readSign", "(C)Z"⟩
abbrev cX4_readForm : ByteArray := prog_6_method_11_code
def yX4_readForm : MethodName := ⟨RX4, "readForm", "(Ljava/lang/String;)Z"⟩
abbrev cX4_readNumber : ByteArray := prog_6_method_12_code
def yX4_readNumber : MethodName := ⟨RX4, "readNumber", "(I)Z"⟩
abbrev cX4_isDigit : ByteArray := prog_6_method_13_code
def yX4_isDigit : MethodName := ⟨RX4, "isDigit", "(C)Z"⟩
def RX5 : String := "EstimateContest$Coverage"
def TX5 : u_T := fun k => match k with
  | 0 => ("EstimateContest$Coverage", "atLeast", "[[J", true)
  | 1 => ("EstimateContest$Coverage", "lows", "[I", true)
  | _ => ("EstimateContest$Coverage", "highs", "[I", true)
def tyX5 : Nat → FieldType := fun k => match k with
  | 0 => .array (.array .long)
  | 1 => .array .int
  | _ => .array .int
abbrev wsX50 : List Cond := u_ws RX5 TX5 3
theorem nmX5 : ∀ a, a < 3 → ∀ b, b < 3 → a ≠ b → (TX5 a).2.1 ≠ (TX5 b).2.1 := by decide +kernel
theorem tyX5_ok : ∀ k, k < 3 → parseFieldDescriptor (TX5 k).2.2.1 = some (tyX5 k) := by decide +kernel
abbrev cX5_init : ByteArray := prog_7_method_1_code
def yX5_init : MethodName := ⟨RX5, "<init>", "()V"⟩
abbrev cX5_mostByBitSets : ByteArray := prog_7_method_2_code
def yX5_mostByBitSets : MethodName := ⟨RX5, "mostByBitSets", "(LEstimateContest$Question;)I"⟩
abbrev cX5_countCovered : ByteArray := prog_7_method_3_code
def yX5_countCovered : MethodName := ⟨RX5, "countCovered", "(LEstimateContest$Question;)I"⟩
abbrev cX5_mostBySweep : ByteArray := prog_7_method_4_code
def yX5_mostBySweep : MethodName := ⟨RX5, "mostBySweep", "(LEstimateContest$Question;)I"⟩
abbrev cX5_fillSets : ByteArray := prog_7_method_5_code
def yX5_fillSets : MethodName := ⟨RX5, "fillSets", "(LEstimateContest$Question;)V"⟩
abbrev cX5_addInterval : ByteArray := prog_7_method_6_code
def yX5_addInterval : MethodName := ⟨RX5, "addInterval", "(LEstimateContest$Estimate;I)V"⟩
abbrev cX5_intervalBits : ByteArray := prog_7_method_7_code
def yX5_intervalBits : MethodName := ⟨RX5, "intervalBits", "(III)J"⟩
abbrev cX5_leastOf : ByteArray := prog_7_method_8_code
def yX5_leastOf : MethodName := ⟨RX5, "leastOf", "(I)I"⟩
abbrev cX5_insertSorted : ByteArray := prog_7_method_9_code
def yX5_insertSorted : MethodName := ⟨RX5, "insertSorted", "([III)V"⟩
def RX6 : String := "EstimateContest$Estimate"
def TX6 : u_T := fun k => match k with
  | 0 => ("EstimateContest$Estimate", "player", "I", false)
  | 1 => ("EstimateContest$Estimate", "low", "I", false)
  | 2 => ("EstimateContest$Estimate", "high", "I", false)
  | 3 => ("EstimateContest$Estimate", "confidence", "I", false)
  | _ => ("EstimateContest$Estimate", "stake", "I", false)
def tyX6 : Nat → FieldType := fun k => match k with
  | 0 => .int
  | 1 => .int
  | 2 => .int
  | 3 => .int
  | _ => .int
abbrev wsX60 : List Cond := u_ws RX6 TX6 5
theorem nmX6 : ∀ a, a < 5 → ∀ b, b < 5 → a ≠ b → (TX6 a).2.1 ≠ (TX6 b).2.1 := by decide +kernel
theorem tyX6_ok : ∀ k, k < 5 → parseFieldDescriptor (TX6 k).2.2.1 = some (tyX6 k) := by decide +kernel
abbrev cX6_init : ByteArray := prog_8_method_1_code
def yX6_init : MethodName := ⟨RX6, "<init>", "()V"⟩
abbrev cX6_fill : ByteArray := prog_8_method_2_code
def yX6_fill : MethodName := ⟨RX6, "fill", "(IIIII)V"⟩
abbrev cX6_takeFrom : ByteArray := prog_8_method_3_code
def yX6_takeFrom : MethodName := ⟨RX6, "takeFrom", "(LEstimateContest$Estimate;)V"⟩
abbrev cX6_covers : ByteArray := prog_8_method_4_code
def yX6_covers : MethodName := ⟨RX6, "covers", "(I)Z"⟩
abbrev cX6_prize : ByteArray := prog_8_method_5_code
def yX6_prize : MethodName := ⟨RX6, "prize", "()I"⟩
abbrev cX6_pointsFor : ByteArray := prog_8_method_6_code
def yX6_pointsFor : MethodName := ⟨RX6, "pointsFor", "(I)I"⟩
abbrev cX6_distanceTo : ByteArray := prog_8_method_7_code
def yX6_distanceTo : MethodName := ⟨RX6, "distanceTo", "(I)I"⟩
def RX7 : String := "EstimateContest$Fault"
def TX7 : u_T := fun k => match k with
  | _ => ("", "", "", false)
def tyX7 : Nat → FieldType := fun k => match k with
  | _ => .int
abbrev wsX70 : List Cond := u_ws RX7 TX7 0
theorem nmX7 : ∀ a, a < 0 → ∀ b, b < 0 → a ≠ b → (TX7 a).2.1 ≠ (TX7 b).2.1 := by decide +kernel
theorem tyX7_ok : ∀ k, k < 0 → parseFieldDescriptor (TX7 k).2.2.1 = some (tyX7 k) := by decide +kernel
def RX8 : String := "EstimateContest$History"
def TX8 : u_T := fun k => match k with
  | 0 => ("EstimateContest$History", "slots", "[LEstimateContest$Board;", true)
  | 1 => ("EstimateContest$History", "next", "I", false)
  | _ => ("EstimateContest$History", "count", "I", false)
def tyX8 : Nat → FieldType := fun k => match k with
  | 0 => .array (.object "EstimateContest$Board")
  | 1 => .int
  | _ => .int
abbrev wsX80 : List Cond := u_ws RX8 TX8 3
theorem nmX8 : ∀ a, a < 3 → ∀ b, b < 3 → a ≠ b → (TX8 a).2.1 ≠ (TX8 b).2.1 := by decide +kernel
theorem tyX8_ok : ∀ k, k < 3 → parseFieldDescriptor (TX8 k).2.2.1 = some (tyX8 k) := by decide +kernel
abbrev cX8_init : ByteArray := prog_10_method_1_code
def yX8_init : MethodName := ⟨RX8, "<init>", "()V"⟩
abbrev cX8_draft : ByteArray := prog_10_method_2_code
def yX8_draft : MethodName := ⟨RX8, "draft", "(LEstimateContest$Board;)V"⟩
abbrev cX8_keep : ByteArray := prog_10_method_3_code
def yX8_keep : MethodName := ⟨RX8, "keep", "()V"⟩
abbrev cX8_record : ByteArray := prog_10_method_4_code
def yX8_record : MethodName := ⟨RX8, "record", "(LEstimateContest$Board;)V"⟩
abbrev cX8_takeBack : ByteArray := prog_10_method_5_code
def yX8_takeBack : MethodName := ⟨RX8, "takeBack", "(LEstimateContest$Board;)V"⟩
abbrev cX8_stepBack : ByteArray := prog_10_method_6_code
def yX8_stepBack : MethodName := ⟨RX8, "stepBack", "(LEstimateContest$Board;)V"⟩
abbrev cX8_clear : ByteArray := prog_10_method_7_code
def yX8_clear : MethodName := ⟨RX8, "clear", "()V"⟩
def RX9 : String := "EstimateContest$Player"
def TX9 : u_T := fun k => match k with
  | 0 => ("EstimateContest$Player", "bins", "LEstimateContest$Bins;", true)
  | 1 => ("EstimateContest$Player", "coins", "I", false)
  | 2 => ("EstimateContest$Player", "points", "I", false)
  | _ => ("EstimateContest$Player", "isOut", "Z", false)
def tyX9 : Nat → FieldType := fun k => match k with
  | 0 => .object "EstimateContest$Bins"
  | 1 => .int
  | 2 => .int
  | _ => .boolean
abbrev wsX90 : List Cond := u_ws RX9 TX9 4
theorem nmX9 : ∀ a, a < 4 → ∀ b, b < 4 → a ≠ b → (TX9 a).2.1 ≠ (TX9 b).2.1 := by decide +kernel
theorem tyX9_ok : ∀ k, k < 4 → parseFieldDescriptor (TX9 k).2.2.1 = some (tyX9 k) := by decide +kernel
abbrev cX9_init : ByteArray := prog_11_method_1_code
def yX9_init : MethodName := ⟨RX9, "<init>", "()V"⟩
abbrev cX9_start : ByteArray := prog_11_method_2_code
def yX9_start : MethodName := ⟨RX9, "start", "()V"⟩
abbrev cX9_takeFrom : ByteArray := prog_11_method_3_code
def yX9_takeFrom : MethodName := ⟨RX9, "takeFrom", "(LEstimateContest$Player;)V"⟩
abbrev cX9_isBetterThan : ByteArray := prog_11_method_4_code
def yX9_isBetterThan : MethodName := ⟨RX9, "isBetterThan", "(LEstimateContest$Player;)Z"⟩
def RX10 : String := "EstimateContest$Question"
def TX10 : u_T := fun k => match k with
  | 0 => ("EstimateContest$Question", "estimates", "[LEstimateContest$Estimate;", true)
  | 1 => ("EstimateContest$Question", "number", "I", false)
  | 2 => ("EstimateContest$Question", "weight", "I", false)
  | _ => ("EstimateContest$Question", "count", "I", false)
def tyX10 : Nat → FieldType := fun k => match k with
  | 0 => .array (.object "EstimateContest$Estimate")
  | 1 => .int
  | 2 => .int
  | _ => .int
abbrev wsX100 : List Cond := u_ws RX10 TX10 4
theorem nmX10 : ∀ a, a < 4 → ∀ b, b < 4 → a ≠ b → (TX10 a).2.1 ≠ (TX10 b).2.1 := by decide +kernel
theorem tyX10_ok : ∀ k, k < 4 → parseFieldDescriptor (TX10 k).2.2.1 = some (tyX10 k) := by decide +kernel
abbrev cX10_init : ByteArray := prog_12_method_1_code
def yX10_init : MethodName := ⟨RX10, "<init>", "()V"⟩
abbrev cX10_start : ByteArray := prog_12_method_2_code
def yX10_start : MethodName := ⟨RX10, "start", "(II)V"⟩
abbrev cX10_takeFrom : ByteArray := prog_12_method_3_code
def yX10_takeFrom : MethodName := ⟨RX10, "takeFrom", "(LEstimateContest$Question;)V"⟩
abbrev cX10_rankOf : ByteArray := prog_12_method_4_code
def yX10_rankOf : MethodName := ⟨RX10, "rankOf", "(I)I"⟩
abbrev cX10_addEstimate : ByteArray := prog_12_method_5_code
def yX10_addEstimate : MethodName := ⟨RX10, "addEstimate", "(IIIII)V"⟩
abbrev cX10_removeEstimate : ByteArray := prog_12_method_6_code
def yX10_removeEstimate : MethodName := ⟨RX10, "removeEstimate", "(I)V"⟩
abbrev cX10_countCovering : ByteArray := prog_12_method_7_code
def yX10_countCovering : MethodName := ⟨RX10, "countCovering", "(I)I"⟩
abbrev cX10_sumOfStakes : ByteArray := prog_12_method_8_code
def yX10_sumOfStakes : MethodName := ⟨RX10, "sumOfStakes", "()I"⟩
def RX11 : String := "EstimateContest"
def TX11 : u_T := fun k => match k with
  | 0 => ("EstimateContest", "board", "LEstimateContest$Board;", true)
  | 1 => ("EstimateContest", "saved", "LEstimateContest$Board;", true)
  | 2 => ("EstimateContest", "history", "LEstimateContest$History;", true)
  | 3 => ("EstimateContest", "coverage", "LEstimateContest$Coverage;", true)
  | 4 => ("EstimateContest", "input", "LEstimateContest$CommandText;", true)
  | 5 => ("EstimateContest", "output", "Ljava/lang/StringBuilder;", true)
  | 6 => ("EstimateContest", "isSaved", "Z", false)
  | 7 => ("EstimateContest", "errorPosition", "I", false)
  | _ => ("EstimateContest", "failedCommand", "I", false)
def tyX11 : Nat → FieldType := fun k => match k with
  | 0 => .object "EstimateContest$Board"
  | 1 => .object "EstimateContest$Board"
  | 2 => .object "EstimateContest$History"
  | 3 => .object "EstimateContest$Coverage"
  | 4 => .object "EstimateContest$CommandText"
  | 5 => .object "java/lang/StringBuilder"
  | 6 => .boolean
  | 7 => .int
  | _ => .int
abbrev wsX110 : List Cond := u_ws RX11 TX11 9
theorem nmX11 : ∀ a, a < 9 → ∀ b, b < 9 → a ≠ b → (TX11 a).2.1 ≠ (TX11 b).2.1 := by decide +kernel
theorem tyX11_ok : ∀ k, k < 9 → parseFieldDescriptor (TX11 k).2.2.1 = some (tyX11 k) := by decide +kernel
abbrev cX11_init : ByteArray := prog_1_method_1_code
def yX11_init : MethodName := ⟨RX11, "<init>", "()V"⟩
abbrev cX11_addPlayer : ByteArray := prog_1_method_2_code
def yX11_addPlayer : MethodName := ⟨RX11, "addPlayer", "()I"⟩
abbrev cX11_openQuestion : ByteArray := prog_1_method_3_code
def yX11_openQuestion : MethodName := ⟨RX11, "openQuestion", "(I)I"⟩
abbrev cX11_estimate : ByteArray := prog_1_method_4_code
def yX11_estimate : MethodName := ⟨RX11, "estimate", "(IIIIII)I"⟩
abbrev cX11_settle : ByteArray := prog_1_method_5_code
def yX11_settle : MethodName := ⟨RX11, "settle", "(I)I"⟩
abbrev cX11_postpone : ByteArray := prog_1_method_6_code
def yX11_postpone : MethodName := ⟨RX11, "postpone", "()I"⟩
abbrev cX11_withdraw : ByteArray := prog_1_method_7_code
def yX11_withdraw : MethodName := ⟨RX11, "withdraw", "(I)I"⟩
abbrev cX11_playerCount : ByteArray := prog_1_method_8_code
def yX11_playerCount : MethodName := ⟨RX11, "playerCount", "()I"⟩
abbrev cX11_coins : ByteArray := prog_1_method_9_code
def yX11_coins : MethodName := ⟨RX11, "coins", "(I)I"⟩
abbrev cX11_hasWithdrawn : ByteArray := prog_1_method_10_code
def yX11_hasWithdrawn : MethodName := ⟨RX11, "hasWithdrawn", "(I)Z"⟩
abbrev cX11_houseCoins : ByteArray := prog_1_method_11_code
def yX11_houseCoins : MethodName := ⟨RX11, "houseCoins", "()I"⟩
abbrev cX11_stakedCoins : ByteArray := prog_1_method_12_code
def yX11_stakedCoins : MethodName := ⟨RX11, "stakedCoins", "()I"⟩
abbrev cX11_openCount : ByteArray := prog_1_method_13_code
def yX11_openCount : MethodName := ⟨RX11, "openCount", "()I"⟩
abbrev cX11_questionAt : ByteArray := prog_1_method_14_code
def yX11_questionAt : MethodName := ⟨RX11, "questionAt", "(I)I"⟩
abbrev cX11_positionOf : ByteArray := prog_1_method_15_code
def yX11_positionOf : MethodName := ⟨RX11, "positionOf", "(I)I"⟩
abbrev cX11_weight : ByteArray := prog_1_method_16_code
def yX11_weight : MethodName := ⟨RX11, "weight", "(I)I"⟩
abbrev cX11_estimateCount : ByteArray := prog_1_method_17_code
def yX11_estimateCount : MethodName := ⟨RX11, "estimateCount", "(I)I"⟩
abbrev cX11_estimator : ByteArray := prog_1_method_18_code
def yX11_estimator : MethodName := ⟨RX11, "estimator", "(II)I"⟩
abbrev cX11_low : ByteArray := prog_1_method_20_code
def yX11_low : MethodName := ⟨RX11, "low", "(II)I"⟩
abbrev cX11_high : ByteArray := prog_1_method_21_code
def yX11_high : MethodName := ⟨RX11, "high", "(II)I"⟩
abbrev cX11_confidence : ByteArray := prog_1_method_22_code
def yX11_confidence : MethodName := ⟨RX11, "confidence", "(II)I"⟩
abbrev cX11_stake : ByteArray := prog_1_method_23_code
def yX11_stake : MethodName := ⟨RX11, "stake", "(II)I"⟩
abbrev cX11_winnings : ByteArray := prog_1_method_24_code
def yX11_winnings : MethodName := ⟨RX11, "winnings", "(II)I"⟩
abbrev cX11_coverage : ByteArray := prog_1_method_25_code
def yX11_coverage : MethodName := ⟨RX11, "coverage", "(II)I"⟩
abbrev cX11_mostCovered : ByteArray := prog_1_method_26_code
def yX11_mostCovered : MethodName := ⟨RX11, "mostCovered", "(I)I"⟩
abbrev cX11_mostCoveredBySweep : ByteArray := prog_1_method_27_code
def yX11_mostCoveredBySweep : MethodName := ⟨RX11, "mostCoveredBySweep", "(I)I"⟩
abbrev cX11_coveredValues : ByteArray := prog_1_method_28_code
def yX11_coveredValues : MethodName := ⟨RX11, "coveredValues", "(I)I"⟩
abbrev cX11_settledQuestions : ByteArray := prog_1_method_29_code
def yX11_settledQuestions : MethodName := ⟨RX11, "settledQuestions", "()I"⟩
abbrev cX11_recentTruth : ByteArray := prog_1_method_30_code
def yX11_recentTruth : MethodName := ⟨RX11, "recentTruth", "(I)I"⟩
abbrev cX11_hits : ByteArray := prog_1_method_32_code
def yX11_hits : MethodName := ⟨RX11, "hits", "(I)I"⟩
abbrev cX11_score : ByteArray := prog_1_method_33_code
def yX11_score : MethodName := ⟨RX11, "score", "(I)I"⟩
abbrev cX11_meanScore : ByteArray := prog_1_method_34_code
def yX11_meanScore : MethodName := ⟨RX11, "meanScore", "(I)D"⟩
abbrev cX11_calibrationError : ByteArray := prog_1_method_35_code
def yX11_calibrationError : MethodName := ⟨RX11, "calibrationError", "(I)I"⟩
abbrev cX11_bestCalibrated : ByteArray := prog_1_method_36_code
def yX11_bestCalibrated : MethodName := ⟨RX11, "bestCalibrated", "()I"⟩
abbrev cX11_playerByScore : ByteArray := prog_1_method_37_code
def yX11_playerByScore : MethodName := ⟨RX11, "playerByScore", "(I)I"⟩
abbrev cX11_binSize : ByteArray := prog_1_method_38_code
def yX11_binSize : MethodName := ⟨RX11, "binSize", "(I)I"⟩
abbrev cX11_binSizeByPlayers : ByteArray := prog_1_method_39_code
def yX11_binSizeByPlayers : MethodName := ⟨RX11, "binSizeByPlayers", "(I)I"⟩
abbrev cX11_binHits : ByteArray := prog_1_method_40_code
def yX11_binHits : MethodName := ⟨RX11, "binHits", "(I)I"⟩
abbrev cX11_binShare : ByteArray := prog_1_method_41_code
def yX11_binShare : MethodName := ⟨RX11, "binShare", "(I)F"⟩
abbrev cX11_isConsistent : ByteArray := prog_1_method_42_code
def yX11_isConsistent : MethodName := ⟨RX11, "isConsistent", "()Z"⟩
abbrev cX11_feed : ByteArray := prog_1_method_43_code
def yX11_feed : MethodName := ⟨RX11, "feed", "(C)I"⟩
abbrev cX11_runCommands : ByteArray := prog_1_method_44_code
def yX11_runCommands : MethodName := ⟨RX11, "runCommands", "()I"⟩
abbrev cX11_errorPosition : ByteArray := prog_1_method_45_code
def yX11_errorPosition : MethodName := ⟨RX11, "errorPosition", "()I"⟩
abbrev cX11_failedCommand : ByteArray := prog_1_method_46_code
def yX11_failedCommand : MethodName := ⟨RX11, "failedCommand", "()I"⟩
abbrev cX11_writeQuestion : ByteArray := prog_1_method_47_code
def yX11_writeQuestion : MethodName := ⟨RX11, "writeQuestion", "(I)I"⟩
abbrev cX11_outputChar : ByteArray := prog_1_method_48_code
def yX11_outputChar : MethodName := ⟨RX11, "outputChar", "(I)C"⟩
abbrev cX11_undoCount : ByteArray := prog_1_method_49_code
def yX11_undoCount : MethodName := ⟨RX11, "undoCount", "()I"⟩
abbrev cX11_undo : ByteArray := prog_1_method_50_code
def yX11_undo : MethodName := ⟨RX11, "undo", "()I"⟩
abbrev cX11_save : ByteArray := prog_1_method_51_code
def yX11_save : MethodName := ⟨RX11, "save", "()I"⟩
abbrev cX11_restore : ByteArray := prog_1_method_52_code
def yX11_restore : MethodName := ⟨RX11, "restore", "()I"⟩
abbrev cX11_refuseOn : ByteArray := prog_1_method_53_code
def yX11_refuseOn : MethodName := ⟨RX11, "refuseOn", "(LEstimateContest$Fault;)V"⟩
abbrev cX11_isValue : ByteArray := prog_1_method_54_code
def yX11_isValue : MethodName := ⟨RX11, "isValue", "(I)Z"⟩
abbrev cX11_isConfidence : ByteArray := prog_1_method_55_code
def yX11_isConfidence : MethodName := ⟨RX11, "isConfidence", "(I)Z"⟩
abbrev cX11_requireConfidence : ByteArray := prog_1_method_56_code
def yX11_requireConfidence : MethodName := ⟨RX11, "requireConfidence", "(I)V"⟩
abbrev cX11_requirePlayer : ByteArray := prog_1_method_57_code
def yX11_requirePlayer : MethodName := ⟨RX11, "requirePlayer", "(I)LEstimateContest$Player;"⟩
abbrev cX11_requireQuestion : ByteArray := prog_1_method_58_code
def yX11_requireQuestion : MethodName := ⟨RX11, "requireQuestion", "(I)LEstimateContest$Question;"⟩
abbrev cX11_requireEstimatedQuestion : ByteArray := prog_1_method_59_code
def yX11_requireEstimatedQuestion : MethodName := ⟨RX11, "requireEstimatedQuestion", "(I)LEstimateContest$Question;"⟩
abbrev cX11_requireEstimate : ByteArray := prog_1_method_60_code
def yX11_requireEstimate : MethodName := ⟨RX11, "requireEstimate", "(II)LEstimateContest$Estimate;"⟩
abbrev cX11_mostCoveredAgree : ByteArray := prog_1_method_61_code
def yX11_mostCoveredAgree : MethodName := ⟨RX11, "mostCoveredAgree", "()Z"⟩
abbrev cX11_carryOut : ByteArray := prog_1_method_62_code
def yX11_carryOut : MethodName := ⟨RX11, "carryOut", "(I)I"⟩
abbrev cX11_faultOf : ByteArray := prog_1_method_63_code
def yX11_faultOf : MethodName := ⟨RX11, "faultOf", "(LEstimateContest$Command;)LEstimateContest$Fault;"⟩
abbrev cX11_apply : ByteArray := prog_1_method_64_code
def yX11_apply : MethodName := ⟨RX11, "apply", "(LEstimateContest$Command;)V"⟩
abbrev cX11_writeEstimate : ByteArray := prog_1_method_65_code
def yX11_writeEstimate : MethodName := ⟨RX11, "writeEstimate", "(LEstimateContest$Estimate;)V"⟩
def RX12 : String := "EstimateContestModel"
def TX12 : u_T := fun k => match k with
  | _ => ("", "", "", false)
def tyX12 : Nat → FieldType := fun k => match k with
  | _ => .int
abbrev wsX120 : List Cond := u_ws RX12 TX12 0
theorem nmX12 : ∀ a, a < 0 → ∀ b, b < 0 → a ≠ b → (TX12 a).2.1 ≠ (TX12 b).2.1 := by decide +kernel
theorem tyX12_ok : ∀ k, k < 0 → parseFieldDescriptor (TX12 k).2.2.1 = some (tyX12 k) := by decide +kernel
def RJx145de : String := "java/io/Serializable"
def TJx145de : u_T := fun k => match k with
  | _ => ("", "", "", false)
def tyJx145de : Nat → FieldType := fun k => match k with
  | _ => .int
abbrev wsJx145de0 : List Cond := u_ws RJx145de TJx145de 0
theorem nmJx145de : ∀ a, a < 0 → ∀ b, b < 0 → a ≠ b → (TJx145de a).2.1 ≠ (TJx145de b).2.1 := by decide +kernel
theorem tyJx145de_ok : ∀ k, k < 0 → parseFieldDescriptor (TJx145de k).2.2.1 = some (tyJx145de k) := by decide +kernel
def RJ5 : String := "java/lang/AbstractStringBuilder"
def TJ5 : u_T := fun k => match k with
  | _ => ("", "", "", false)
def tyJ5 : Nat → FieldType := fun k => match k with
  | _ => .int
abbrev wsJ50 : List Cond := u_ws RJ5 TJ5 0
theorem nmJ5 : ∀ a, a < 0 → ∀ b, b < 0 → a ≠ b → (TJ5 a).2.1 ≠ (TJ5 b).2.1 := by decide +kernel
theorem tyJ5_ok : ∀ k, k < 0 → parseFieldDescriptor (TJ5 k).2.2.1 = some (tyJ5 k) := by decide +kernel
abbrev cJ5_init_d00df : ByteArray := prog_16_method_2_code
def yJ5_init_d00df : MethodName := ⟨RJ5, "<init>", "(I)V"⟩
abbrev cJ5_length_8abf5 : ByteArray := prog_16_method_6_code
def yJ5_length_8abf5 : MethodName := ⟨RJ5, "length", "()I"⟩
abbrev cJ5_ensureCapacityInternal_d00df : ByteArray := prog_16_method_9_code
def yJ5_ensureCapacityInternal_d00df : MethodName := ⟨RJ5, "ensureCapacityInternal", "(I)V"⟩
abbrev cJ5_newCapacity_0f7a4 : ByteArray := prog_16_method_10_code
def yJ5_newCapacity_0f7a4 : MethodName := ⟨RJ5, "newCapacity", "(I)I"⟩
abbrev cJ5_inflate_da8c8 : ByteArray := prog_16_method_11_code
def yJ5_inflate_da8c8 : MethodName := ⟨RJ5, "inflate", "()V"⟩
abbrev cJ5_setLength_d00df : ByteArray := prog_16_method_13_code
def yJ5_setLength_d00df : MethodName := ⟨RJ5, "setLength", "(I)V"⟩
abbrev cJ5_charAt_5068e : ByteArray := prog_16_method_14_code
def yJ5_charAt_5068e : MethodName := ⟨RJ5, "charAt", "(I)C"⟩
abbrev cJ5_append_cf1ce : ByteArray := prog_16_method_22_code
def yJ5_append_cf1ce : MethodName := ⟨RJ5, "append", "(Ljava/lang/String;)Ljava/lang/AbstractStringBuilder;"⟩
abbrev cJ5_appendNull_278bc : ByteArray := prog_16_method_26_code
def yJ5_appendNull_278bc : MethodName := ⟨RJ5, "appendNull", "()Ljava/lang/AbstractStringBuilder;"⟩
abbrev cJ5_append_3fe6f : ByteArray := prog_16_method_31_code
def yJ5_append_3fe6f : MethodName := ⟨RJ5, "append", "(C)Ljava/lang/AbstractStringBuilder;"⟩
abbrev cJ5_append_c97b9 : ByteArray := prog_16_method_32_code
def yJ5_append_c97b9 : MethodName := ⟨RJ5, "append", "(I)Ljava/lang/AbstractStringBuilder;"⟩
abbrev cJ5_getValue_6d5f1 : ByteArray := prog_16_method_64_code
def yJ5_getValue_6d5f1 : MethodName := ⟨RJ5, "getValue", "()[B"⟩
abbrev cJ5_isLatin1_aae02 : ByteArray := prog_16_method_68_code
def yJ5_isLatin1_aae02 : MethodName := ⟨RJ5, "isLatin1", "()Z"⟩
abbrev cJ5_inflateIfNeededFor_a7421 : ByteArray := prog_16_method_71_code
def yJ5_inflateIfNeededFor_a7421 : MethodName := ⟨RJ5, "inflateIfNeededFor", "(Ljava/lang/String;)V"⟩
abbrev cJ5_putStringAt_47b60 : ByteArray := prog_16_method_73_code
def yJ5_putStringAt_47b60 : MethodName := ⟨RJ5, "putStringAt", "(ILjava/lang/String;)V"⟩
def RJx2cfe8 : String := "java/lang/Appendable"
def TJx2cfe8 : u_T := fun k => match k with
  | _ => ("", "", "", false)
def tyJx2cfe8 : Nat → FieldType := fun k => match k with
  | _ => .int
abbrev wsJx2cfe80 : List Cond := u_ws RJx2cfe8 TJx2cfe8 0
theorem nmJx2cfe8 : ∀ a, a < 0 → ∀ b, b < 0 → a ≠ b → (TJx2cfe8 a).2.1 ≠ (TJx2cfe8 b).2.1 := by decide +kernel
theorem tyJx2cfe8_ok : ∀ k, k < 0 → parseFieldDescriptor (TJx2cfe8 k).2.2.1 = some (tyJx2cfe8 k) := by decide +kernel
def RJx00060 : String := "java/lang/ArrayIndexOutOfBoundsException"
def TJx00060 : u_T := fun k => match k with
  | 0 => ("java/lang/Throwable", "cause", "Ljava/lang/Throwable;", false)
  | 1 => ("java/lang/Throwable", "stackTrace", "[Ljava/lang/StackTraceElement;", false)
  | 2 => ("java/lang/Throwable", "suppressedExceptions", "Ljava/util/List;", false)
  | 3 => ("java/lang/Throwable", "detailMessage", "Ljava/lang/String;", false)
  | 4 => ("java/lang/Throwable", "backtrace", "Ljava/lang/Object;", false)
  | _ => ("java/lang/Throwable", "depth", "I", false)
def tyJx00060 : Nat → FieldType := fun k => match k with
  | 0 => .object "java/lang/Throwable"
  | 1 => .array (.object "java/lang/StackTraceElement")
  | 2 => .object "java/util/List"
  | 3 => .object "java/lang/String"
  | 4 => .object "java/lang/Object"
  | _ => .int
abbrev wsJx000600 : List Cond := u_ws RJx00060 TJx00060 6
theorem nmJx00060 : ∀ a, a < 6 → ∀ b, b < 6 → a ≠ b → (TJx00060 a).2.1 ≠ (TJx00060 b).2.1 := by decide +kernel
theorem tyJx00060_ok : ∀ k, k < 6 → parseFieldDescriptor (TJx00060 k).2.2.1 = some (tyJx00060 k) := by decide +kernel
abbrev cJx00060_init_a7421 : ByteArray := prog_19_method_2_code
def yJx00060_init_a7421 : MethodName := ⟨RJx00060, "<init>", "(Ljava/lang/String;)V"⟩
abbrev cJx00060_init_d00df : ByteArray := prog_19_method_3_code
def yJx00060_init_d00df : MethodName := ⟨RJx00060, "<init>", "(I)V"⟩
def RJx9f9b0 : String := "java/lang/CharSequence"
def TJx9f9b0 : u_T := fun k => match k with
  | _ => ("", "", "", false)
def tyJx9f9b0 : Nat → FieldType := fun k => match k with
  | _ => .int
abbrev wsJx9f9b00 : List Cond := u_ws RJx9f9b0 TJx9f9b0 0
theorem nmJx9f9b0 : ∀ a, a < 0 → ∀ b, b < 0 → a ≠ b → (TJx9f9b0 a).2.1 ≠ (TJx9f9b0 b).2.1 := by decide +kernel
theorem tyJx9f9b0_ok : ∀ k, k < 0 → parseFieldDescriptor (TJx9f9b0 k).2.2.1 = some (tyJx9f9b0 k) := by decide +kernel
def RJx8e188 : String := "java/lang/Cloneable"
def TJx8e188 : u_T := fun k => match k with
  | _ => ("", "", "", false)
def tyJx8e188 : Nat → FieldType := fun k => match k with
  | _ => .int
abbrev wsJx8e1880 : List Cond := u_ws RJx8e188 TJx8e188 0
theorem nmJx8e188 : ∀ a, a < 0 → ∀ b, b < 0 → a ≠ b → (TJx8e188 a).2.1 ≠ (TJx8e188 b).2.1 := by decide +kernel
theorem tyJx8e188_ok : ∀ k, k < 0 → parseFieldDescriptor (TJx8e188 k).2.2.1 = some (tyJx8e188 k) := by decide +kernel
def RJxb160c : String := "java/lang/Comparable"
def TJxb160c : u_T := fun k => match k with
  | _ => ("", "", "", false)
def tyJxb160c : Nat → FieldType := fun k => match k with
  | _ => .int
abbrev wsJxb160c0 : List Cond := u_ws RJxb160c TJxb160c 0
theorem nmJxb160c : ∀ a, a < 0 → ∀ b, b < 0 → a ≠ b → (TJxb160c a).2.1 ≠ (TJxb160c b).2.1 := by decide +kernel
theorem tyJxb160c_ok : ∀ k, k < 0 → parseFieldDescriptor (TJxb160c k).2.2.1 = some (tyJxb160c k) := by decide +kernel
def RJx29ce0 : String := "java/lang/Enum"
def TJx29ce0 : u_T := fun k => match k with
  | _ => ("", "", "", false)
def tyJx29ce0 : Nat → FieldType := fun k => match k with
  | _ => .int
abbrev wsJx29ce00 : List Cond := u_ws RJx29ce0 TJx29ce0 0
theorem nmJx29ce0 : ∀ a, a < 0 → ∀ b, b < 0 → a ≠ b → (TJx29ce0 a).2.1 ≠ (TJx29ce0 b).2.1 := by decide +kernel
theorem tyJx29ce0_ok : ∀ k, k < 0 → parseFieldDescriptor (TJx29ce0 k).2.2.1 = some (tyJx29ce0 k) := by decide +kernel
abbrev cJx29ce0_ordinal_8abf5 : ByteArray := prog_23_method_2_code
def yJx29ce0_ordinal_8abf5 : MethodName := ⟨RJx29ce0, "ordinal", "()I"⟩
def RJ6 : String := "java/lang/Integer"
def TJ6 : u_T := fun k => match k with
  | _ => ("", "", "", false)
def tyJ6 : Nat → FieldType := fun k => match k with
  | _ => .int
abbrev wsJ60 : List Cond := u_ws RJ6 TJ6 0
theorem nmJ6 : ∀ a, a < 0 → ∀ b, b < 0 → a ≠ b → (TJ6 a).2.1 ≠ (TJ6 b).2.1 := by decide +kernel
theorem tyJ6_ok : ∀ k, k < 0 → parseFieldDescriptor (TJ6 k).2.2.1 = some (tyJ6 k) := by decide +kernel
abbrev cJ6_getChars_ba4f3 : ByteArray := prog_28_method_12_code
def yJ6_getChars_ba4f3 : MethodName := ⟨RJ6, "getChars", "(II[B)I"⟩
abbrev cJ6_stringSize_0f7a4 : ByteArray := prog_28_method_13_code
def yJ6_stringSize_0f7a4 : MethodName := ⟨RJ6, "stringSize", "(I)I"⟩
abbrev cJ6_numberOfTrailingZeros_0f7a4 : ByteArray := prog_28_method_48_code
def yJ6_numberOfTrailingZeros_0f7a4 : MethodName := ⟨RJ6, "numberOfTrailingZeros", "(I)I"⟩
def RJ13 : String := "java/lang/Long"
def TJ13 : u_T := fun k => match k with
  | _ => ("", "", "", false)
def tyJ13 : Nat → FieldType := fun k => match k with
  | _ => .int
abbrev wsJ130 : List Cond := u_ws RJ13 TJ13 0
theorem nmJ13 : ∀ a, a < 0 → ∀ b, b < 0 → a ≠ b → (TJ13 a).2.1 ≠ (TJ13 b).2.1 := by decide +kernel
theorem tyJ13_ok : ∀ k, k < 0 → parseFieldDescriptor (TJ13 k).2.2.1 = some (tyJ13 k) := by decide +kernel
abbrev cJ13_numberOfTrailingZeros_95d88 : ByteArray := prog_29_method_49_code
def yJ13_numberOfTrailingZeros_95d88 : MethodName := ⟨RJ13, "numberOfTrailingZeros", "(J)I"⟩
abbrev cJ13_bitCount_95d88 : ByteArray := prog_29_method_50_code
def yJ13_bitCount_95d88 : MethodName := ⟨RJ13, "bitCount", "(J)I"⟩
def RJ9 : String := "java/lang/Math"
def TJ9 : u_T := fun k => match k with
  | _ => ("", "", "", false)
def tyJ9 : Nat → FieldType := fun k => match k with
  | _ => .int
abbrev wsJ90 : List Cond := u_ws RJ9 TJ9 0
theorem nmJ9 : ∀ a, a < 0 → ∀ b, b < 0 → a ≠ b → (TJ9 a).2.1 ≠ (TJ9 b).2.1 := by decide +kernel
theorem tyJ9_ok : ∀ k, k < 0 → parseFieldDescriptor (TJ9 k).2.2.1 = some (tyJ9 k) := by decide +kernel
abbrev cJ9_abs_0f7a4 : ByteArray := prog_30_method_59_code
def yJ9_abs_0f7a4 : MethodName := ⟨RJ9, "abs", "(I)I"⟩
abbrev cJ9_max_7cf53 : ByteArray := prog_30_method_65_code
def yJ9_max_7cf53 : MethodName := ⟨RJ9, "max", "(II)I"⟩
abbrev cJ9_min_7cf53 : ByteArray := prog_30_method_69_code
def yJ9_min_7cf53 : MethodName := ⟨RJ9, "min", "(II)I"⟩
def RJxd2413 : String := "java/lang/Number"
def TJxd2413 : u_T := fun k => match k with
  | _ => ("", "", "", false)
def tyJxd2413 : Nat → FieldType := fun k => match k with
  | _ => .int
abbrev wsJxd24130 : List Cond := u_ws RJxd2413 TJxd2413 0
theorem nmJxd2413 : ∀ a, a < 0 → ∀ b, b < 0 → a ≠ b → (TJxd2413 a).2.1 ≠ (TJxd2413 b).2.1 := by decide +kernel
theorem tyJxd2413_ok : ∀ k, k < 0 → parseFieldDescriptor (TJxd2413 k).2.2.1 = some (tyJxd2413 k) := by decide +kernel
def RJ0 : String := "java/lang/String"
def TJ0 : u_T := fun k => match k with
  | 0 => ("java/lang/String", "value", "[B", true)
  | 1 => ("java/lang/String", "coder", "B", true)
  | 2 => ("java/lang/String", "hash", "I", false)
  | _ => ("java/lang/String", "hashIsZero", "Z", false)
def tyJ0 : Nat → FieldType := fun k => match k with
  | 0 => .array .byte
  | 1 => .byte
  | 2 => .int
  | _ => .boolean
abbrev wsJ00 : List Cond := u_ws RJ0 TJ0 4
theorem nmJ0 : ∀ a, a < 4 → ∀ b, b < 4 → a ≠ b → (TJ0 a).2.1 ≠ (TJ0 b).2.1 := by decide +kernel
theorem tyJ0_ok : ∀ k, k < 4 → parseFieldDescriptor (TJ0 k).2.2.1 = some (tyJ0 k) := by decide +kernel
abbrev cJ0_init_81219 : ByteArray := prog_33_method_53_code
def yJ0_init_81219 : MethodName := ⟨RJ0, "<init>", "(Ljava/lang/StringBuilder;)V"⟩
abbrev cJ0_length_8abf5 : ByteArray := prog_33_method_54_code
def yJ0_length_8abf5 : MethodName := ⟨RJ0, "length", "()I"⟩
abbrev cJ0_charAt_5068e : ByteArray := prog_33_method_56_code
def yJ0_charAt_5068e : MethodName := ⟨RJ0, "charAt", "(I)C"⟩
abbrev cJ0_getBytes_840e7 : ByteArray := prog_33_method_147_code
def yJ0_getBytes_840e7 : MethodName := ⟨RJ0, "getBytes", "([BIB)V"⟩
abbrev cJ0_init_db425 : ByteArray := prog_33_method_150_code
def yJ0_init_db425 : MethodName := ⟨RJ0, "<init>", "(Ljava/lang/AbstractStringBuilder;Ljava/lang/Void;)V"⟩
abbrev cJ0_coder_7d493 : ByteArray := prog_33_method_152_code
def yJ0_coder_7d493 : MethodName := ⟨RJ0, "coder", "()B"⟩
abbrev cJ0_isLatin1_aae02 : ByteArray := prog_33_method_154_code
def yJ0_isLatin1_aae02 : MethodName := ⟨RJ0, "isLatin1", "()Z"⟩
abbrev cJ0_checkIndex_df160 : ByteArray := prog_33_method_155_code
def yJ0_checkIndex_df160 : MethodName := ⟨RJ0, "checkIndex", "(II)V"⟩
abbrev cJ0_checkBoundsOffCount_cabcc : ByteArray := prog_33_method_157_code
def yJ0_checkBoundsOffCount_cabcc : MethodName := ⟨RJ0, "checkBoundsOffCount", "(III)I"⟩
abbrev cJ0_checkBoundsBeginEnd_23922 : ByteArray := prog_33_method_158_code
def yJ0_checkBoundsBeginEnd_23922 : MethodName := ⟨RJ0, "checkBoundsBeginEnd", "(III)V"⟩
def RJ4 : String := "java/lang/StringBuilder"
def TJ4 : u_T := fun k => match k with
  | 0 => ("java/lang/AbstractStringBuilder", "value", "[B", false)
  | 1 => ("java/lang/AbstractStringBuilder", "coder", "B", false)
  | 2 => ("java/lang/AbstractStringBuilder", "maybeLatin1", "Z", false)
  | _ => ("java/lang/AbstractStringBuilder", "count", "I", false)
def tyJ4 : Nat → FieldType := fun k => match k with
  | 0 => .array .byte
  | 1 => .byte
  | 2 => .boolean
  | _ => .int
abbrev wsJ40 : List Cond := u_ws RJ4 TJ4 4
theorem nmJ4 : ∀ a, a < 4 → ∀ b, b < 4 → a ≠ b → (TJ4 a).2.1 ≠ (TJ4 b).2.1 := by decide +kernel
theorem tyJ4_ok : ∀ k, k < 4 → parseFieldDescriptor (TJ4 k).2.2.1 = some (tyJ4 k) := by decide +kernel
abbrev cJ4_init_da8c8 : ByteArray := prog_34_method_1_code
def yJ4_init_da8c8 : MethodName := ⟨RJ4, "<init>", "()V"⟩
abbrev cJ4_append_15ec4 : ByteArray := prog_34_method_7_code
def yJ4_append_15ec4 : MethodName := ⟨RJ4, "append", "(Ljava/lang/String;)Ljava/lang/StringBuilder;"⟩
abbrev cJ4_append_cf468 : ByteArray := prog_34_method_14_code
def yJ4_append_cf468 : MethodName := ⟨RJ4, "append", "(C)Ljava/lang/StringBuilder;"⟩
abbrev cJ4_append_bf812 : ByteArray := prog_34_method_15_code
def yJ4_append_bf812 : MethodName := ⟨RJ4, "append", "(I)Ljava/lang/StringBuilder;"⟩
abbrev cJ4_toString_0e30d : ByteArray := prog_34_method_42_code
def yJ4_toString_0e30d : MethodName := ⟨RJ4, "toString", "()Ljava/lang/String;"⟩
abbrev cJ4_charAt_5068e : ByteArray := prog_34_method_88_code
def yJ4_charAt_5068e : MethodName := ⟨RJ4, "charAt", "(I)C"⟩
abbrev cJ4_setLength_d00df : ByteArray := prog_34_method_89_code
def yJ4_setLength_d00df : MethodName := ⟨RJ4, "setLength", "(I)V"⟩
abbrev cJ4_length_8abf5 : ByteArray := prog_34_method_93_code
def yJ4_length_8abf5 : MethodName := ⟨RJ4, "length", "()I"⟩
def RJx7c733 : String := "java/lang/StringIndexOutOfBoundsException"
def TJx7c733 : u_T := fun k => match k with
  | 0 => ("java/lang/Throwable", "backtrace", "Ljava/lang/Object;", false)
  | 1 => ("java/lang/Throwable", "detailMessage", "Ljava/lang/String;", false)
  | 2 => ("java/lang/Throwable", "cause", "Ljava/lang/Throwable;", false)
  | 3 => ("java/lang/Throwable", "stackTrace", "[Ljava/lang/StackTraceElement;", false)
  | 4 => ("java/lang/Throwable", "depth", "I", false)
  | _ => ("java/lang/Throwable", "suppressedExceptions", "Ljava/util/List;", false)
def tyJx7c733 : Nat → FieldType := fun k => match k with
  | 0 => .object "java/lang/Object"
  | 1 => .object "java/lang/String"
  | 2 => .object "java/lang/Throwable"
  | 3 => .array (.object "java/lang/StackTraceElement")
  | 4 => .int
  | _ => .object "java/util/List"
abbrev wsJx7c7330 : List Cond := u_ws RJx7c733 TJx7c733 6
theorem nmJx7c733 : ∀ a, a < 6 → ∀ b, b < 6 → a ≠ b → (TJx7c733 a).2.1 ≠ (TJx7c733 b).2.1 := by decide +kernel
theorem tyJx7c733_ok : ∀ k, k < 6 → parseFieldDescriptor (TJx7c733 k).2.2.1 = some (tyJx7c733 k) := by decide +kernel
abbrev cJx7c733_init_d00df : ByteArray := prog_35_method_3_code
def yJx7c733_init_d00df : MethodName := ⟨RJx7c733, "<init>", "(I)V"⟩
def RJ1 : String := "java/lang/StringLatin1"
def TJ1 : u_T := fun k => match k with
  | _ => ("", "", "", false)
def tyJ1 : Nat → FieldType := fun k => match k with
  | _ => .int
abbrev wsJ10 : List Cond := u_ws RJ1 TJ1 0
theorem nmJ1 : ∀ a, a < 0 → ∀ b, b < 0 → a ≠ b → (TJ1 a).2.1 ≠ (TJ1 b).2.1 := by decide +kernel
theorem tyJ1_ok : ∀ k, k < 0 → parseFieldDescriptor (TJ1 k).2.2.1 = some (tyJ1 k) := by decide +kernel
abbrev cJ1_charAt_3b067 : ByteArray := prog_36_method_2_code
def yJ1_charAt_3b067 : MethodName := ⟨RJ1, "charAt", "([BI)C"⟩
abbrev cJ1_canEncode_fc78d : ByteArray := prog_36_method_3_code
def yJ1_canEncode_fc78d : MethodName := ⟨RJ1, "canEncode", "(C)Z"⟩
abbrev cJ1_fillNull_b72d1 : ByteArray := prog_36_method_48_code
def yJ1_fillNull_b72d1 : MethodName := ⟨RJ1, "fillNull", "([BII)V"⟩
abbrev cJ1_inflate_0e8fd : ByteArray := prog_36_method_50_code
def yJ1_inflate_0e8fd : MethodName := ⟨RJ1, "inflate", "([BI[BII)V"⟩
def RJ2 : String := "java/lang/StringUTF16"
def TJ2 : u_T := fun k => match k with
  | _ => ("", "", "", false)
def tyJ2 : Nat → FieldType := fun k => match k with
  | _ => .int
abbrev wsJ20 : List Cond := u_ws RJ2 TJ2 0
theorem nmJ2 : ∀ a, a < 0 → ∀ b, b < 0 → a ≠ b → (TJ2 a).2.1 ≠ (TJ2 b).2.1 := by decide +kernel
theorem tyJ2_ok : ∀ k, k < 0 → parseFieldDescriptor (TJ2 k).2.2.1 = some (tyJ2 k) := by decide +kernel
abbrev cJ2_newBytesFor_77867 : ByteArray := prog_37_method_2_code
def yJ2_newBytesFor_77867 : MethodName := ⟨RJ2, "newBytesFor", "(I)[B"⟩
abbrev cJ2_newBytesLength_0f7a4 : ByteArray := prog_37_method_3_code
def yJ2_newBytesLength_0f7a4 : MethodName := ⟨RJ2, "newBytesLength", "(I)I"⟩
abbrev cJ2_putChar_b72d1 : ByteArray := prog_37_method_4_code
def yJ2_putChar_b72d1 : MethodName := ⟨RJ2, "putChar", "([BII)V"⟩
abbrev cJ2_getChar_3b067 : ByteArray := prog_37_method_5_code
def yJ2_getChar_3b067 : MethodName := ⟨RJ2, "getChar", "([BI)C"⟩
abbrev cJ2_length_9d52b : ByteArray := prog_37_method_6_code
def yJ2_length_9d52b : MethodName := ⟨RJ2, "length", "([B)I"⟩
abbrev cJ2_coderFromArrayLen_85cad : ByteArray := prog_37_method_15_code
def yJ2_coderFromArrayLen_85cad : MethodName := ⟨RJ2, "coderFromArrayLen", "([BI)B"⟩
abbrev cJ2_compress_39247 : ByteArray := prog_37_method_17_code
def yJ2_compress_39247 : MethodName := ⟨RJ2, "compress", "([BII)[B"⟩
abbrev cJ2_compress_5af95 : ByteArray := prog_37_method_22_code
def yJ2_compress_5af95 : MethodName := ⟨RJ2, "compress", "([BI[BII)I"⟩
abbrev cJ2_fillNull_b72d1 : ByteArray := prog_37_method_70_code
def yJ2_fillNull_b72d1 : MethodName := ⟨RJ2, "fillNull", "([BII)V"⟩
abbrev cJ2_putCharSB_b72d1 : ByteArray := prog_37_method_71_code
def yJ2_putCharSB_b72d1 : MethodName := ⟨RJ2, "putCharSB", "([BII)V"⟩
abbrev cJ2_getChars_46870 : ByteArray := prog_37_method_77_code
def yJ2_getChars_46870 : MethodName := ⟨RJ2, "getChars", "(III[B)I"⟩
abbrev cJ2_putCharsAt_cd4e5 : ByteArray := prog_37_method_81_code
def yJ2_putCharsAt_cd4e5 : MethodName := ⟨RJ2, "putCharsAt", "([BICCCC)I"⟩
abbrev cJ2_charAt_3b067 : ByteArray := prog_37_method_83_code
def yJ2_charAt_3b067 : MethodName := ⟨RJ2, "charAt", "([BI)C"⟩
abbrev cJ2_inflate_0e8fd : ByteArray := prog_37_method_86_code
def yJ2_inflate_0e8fd : MethodName := ⟨RJ2, "inflate", "([BI[BII)V"⟩
abbrev cJ2_getChars_ba4f3 : ByteArray := prog_37_method_89_code
def yJ2_getChars_ba4f3 : MethodName := ⟨RJ2, "getChars", "(II[B)I"⟩
abbrev cJ2_checkIndex_2214a : ByteArray := prog_37_method_91_code
def yJ2_checkIndex_2214a : MethodName := ⟨RJ2, "checkIndex", "(I[B)V"⟩
abbrev cJ2_checkBoundsBeginEnd_d044e : ByteArray := prog_37_method_93_code
def yJ2_checkBoundsBeginEnd_d044e : MethodName := ⟨RJ2, "checkBoundsBeginEnd", "(II[B)V"⟩
abbrev cJ2_checkBoundsOffCount_d044e : ByteArray := prog_37_method_94_code
def yJ2_checkBoundsOffCount_d044e : MethodName := ⟨RJ2, "checkBoundsOffCount", "(II[B)V"⟩
def RJ10 : String := "java/lang/System"
def TJ10 : u_T := fun k => match k with
  | _ => ("", "", "", false)
def tyJ10 : Nat → FieldType := fun k => match k with
  | _ => .int
abbrev wsJ100 : List Cond := u_ws RJ10 TJ10 0
theorem nmJ10 : ∀ a, a < 0 → ∀ b, b < 0 → a ≠ b → (TJ10 a).2.1 ≠ (TJ10 b).2.1 := by decide +kernel
theorem tyJ10_ok : ∀ k, k < 0 → parseFieldDescriptor (TJ10 k).2.2.1 = some (tyJ10 k) := by decide +kernel
def RJxfd54e : String := "java/lang/constant/Constable"
def TJxfd54e : u_T := fun k => match k with
  | _ => ("", "", "", false)
def tyJxfd54e : Nat → FieldType := fun k => match k with
  | _ => .int
abbrev wsJxfd54e0 : List Cond := u_ws RJxfd54e TJxfd54e 0
theorem nmJxfd54e : ∀ a, a < 0 → ∀ b, b < 0 → a ≠ b → (TJxfd54e a).2.1 ≠ (TJxfd54e b).2.1 := by decide +kernel
theorem tyJxfd54e_ok : ∀ k, k < 0 → parseFieldDescriptor (TJxfd54e k).2.2.1 = some (tyJxfd54e k) := by decide +kernel
def RJx3cf43 : String := "java/lang/constant/ConstantDesc"
def TJx3cf43 : u_T := fun k => match k with
  | _ => ("", "", "", false)
def tyJx3cf43 : Nat → FieldType := fun k => match k with
  | _ => .int
abbrev wsJx3cf430 : List Cond := u_ws RJx3cf43 TJx3cf43 0
theorem nmJx3cf43 : ∀ a, a < 0 → ∀ b, b < 0 → a ≠ b → (TJx3cf43 a).2.1 ≠ (TJx3cf43 b).2.1 := by decide +kernel
theorem tyJx3cf43_ok : ∀ k, k < 0 → parseFieldDescriptor (TJx3cf43 k).2.2.1 = some (tyJx3cf43 k) := by decide +kernel
def RJ7 : String := "java/util/Arrays"
def TJ7 : u_T := fun k => match k with
  | _ => ("", "", "", false)
def tyJ7 : Nat → FieldType := fun k => match k with
  | _ => .int
abbrev wsJ70 : List Cond := u_ws RJ7 TJ7 0
theorem nmJ7 : ∀ a, a < 0 → ∀ b, b < 0 → a ≠ b → (TJ7 a).2.1 ≠ (TJ7 b).2.1 := by decide +kernel
theorem tyJ7_ok : ∀ k, k < 0 → parseFieldDescriptor (TJ7 k).2.2.1 = some (tyJ7 k) := by decide +kernel
abbrev cJ7_rangeCheck_23922 : ByteArray := prog_43_method_30_code
def yJ7_rangeCheck_23922 : MethodName := ⟨RJ7, "rangeCheck", "(III)V"⟩
abbrev cJ7_fill_d0a16 : ByteArray := prog_43_method_101_code
def yJ7_fill_d0a16 : MethodName := ⟨RJ7, "fill", "([JJ)V"⟩
abbrev cJ7_fill_53178 : ByteArray := prog_43_method_103_code
def yJ7_fill_53178 : MethodName := ⟨RJ7, "fill", "([II)V"⟩
abbrev cJ7_fill_eb02e : ByteArray := prog_43_method_110_code
def yJ7_fill_eb02e : MethodName := ⟨RJ7, "fill", "([BIIB)V"⟩
abbrev cJ7_copyOf_9075b : ByteArray := prog_43_method_121_code
def yJ7_copyOf_9075b : MethodName := ⟨RJ7, "copyOf", "([BI)[B"⟩
abbrev cJ7_checkLength_df160 : ByteArray := prog_43_method_131_code
def yJ7_checkLength_df160 : MethodName := ⟨RJ7, "checkLength", "(II)V"⟩
abbrev cJ7_copyOfRange_39247 : ByteArray := prog_43_method_132_code
def yJ7_copyOfRange_39247 : MethodName := ⟨RJ7, "copyOfRange", "([BII)[B"⟩
abbrev cJ7_copyOfRangeByte_39247 : ByteArray := prog_43_method_133_code
def yJ7_copyOfRangeByte_39247 : MethodName := ⟨RJ7, "copyOfRangeByte", "([BII)[B"⟩
def RJ8 : String := "jdk/internal/util/ArraysSupport"
def TJ8 : u_T := fun k => match k with
  | _ => ("", "", "", false)
def tyJ8 : Nat → FieldType := fun k => match k with
  | _ => .int
abbrev wsJ80 : List Cond := u_ws RJ8 TJ8 0
theorem nmJ8 : ∀ a, a < 0 → ∀ b, b < 0 → a ≠ b → (TJ8 a).2.1 ≠ (TJ8 b).2.1 := by decide +kernel
theorem tyJ8_ok : ∀ k, k < 0 → parseFieldDescriptor (TJ8 k).2.2.1 = some (tyJ8 k) := by decide +kernel
abbrev cJ8_newLength_cabcc : ByteArray := prog_45_method_27_code
def yJ8_newLength_cabcc : MethodName := ⟨RJ8, "newLength", "(III)I"⟩
abbrev cJ8_hugeLength_7cf53 : ByteArray := prog_45_method_28_code
def yJ8_hugeLength_7cf53 : MethodName := ⟨RJ8, "hugeLength", "(II)I"⟩
def RJ3 : String := "jdk/internal/util/Preconditions"
def TJ3 : u_T := fun k => match k with
  | _ => ("", "", "", false)
def tyJ3 : Nat → FieldType := fun k => match k with
  | _ => .int
abbrev wsJ30 : List Cond := u_ws RJ3 TJ3 0
theorem nmJ3 : ∀ a, a < 0 → ∀ b, b < 0 → a ≠ b → (TJ3 a).2.1 ≠ (TJ3 b).2.1 := by decide +kernel
theorem tyJ3_ok : ∀ k, k < 0 → parseFieldDescriptor (TJ3 k).2.2.1 = some (tyJ3 k) := by decide +kernel
abbrev cJ3_checkIndex_8e157 : ByteArray := prog_46_method_11_code
def yJ3_checkIndex_8e157 : MethodName := ⟨RJ3, "checkIndex", "(IILjava/util/function/BiFunction;)I"⟩
abbrev cJ3_checkFromToIndex_8c36e : ByteArray := prog_46_method_12_code
def yJ3_checkFromToIndex_8c36e : MethodName := ⟨RJ3, "checkFromToIndex", "(IIILjava/util/function/BiFunction;)I"⟩
abbrev cJ3_checkFromIndexSize_8c36e : ByteArray := prog_46_method_13_code
def yJ3_checkFromIndexSize_8c36e : MethodName := ⟨RJ3, "checkFromIndexSize", "(IIILjava/util/function/BiFunction;)I"⟩
def RL : String := "EstimateContestLaw"
abbrev cL_at : ByteArray := method_2_code
def yL_at : MethodName := ⟨RL, "at", "([II)I"⟩
abbrev cL_put : ByteArray := method_3_code
def yL_put : MethodName := ⟨RL, "put", "(LEstimateContest;Ljava/lang/String;)V"⟩
abbrev cL_build : ByteArray := method_4_code
def yL_build : MethodName := ⟨RL, "build", "([I)LEstimateContest;"⟩
abbrev cL_act : ByteArray := method_5_code
def yL_act : MethodName := ⟨RL, "act", "(LEstimateContest;II)I"⟩
abbrev cL_bet : ByteArray := method_6_code
def yL_bet : MethodName := ⟨RL, "bet", "(LEstimateContest;IIIIII)I"⟩
abbrev cL_state : ByteArray := method_7_code
def yL_state : MethodName := ⟨RL, "state", "(LEstimateContest;)I"⟩
abbrev cL_estimates : ByteArray := method_8_code
def yL_estimates : MethodName := ⟨RL, "estimates", "(LEstimateContest;I)[[I"⟩
abbrev cL_law : ByteArray := code
def yL_law : MethodName := ⟨RL, "law", "([I)Z"⟩
abbrev cL_isLine : ByteArray := method_11_code
def yL_isLine : MethodName := ⟨RL, "isLine", "(LEstimateContest;ILjava/lang/String;)Z"⟩
abbrev cL_runs : ByteArray := method_12_code
def yL_runs : MethodName := ⟨RL, "runs", "(LEstimateContest;)I"⟩
abbrev cL_fails : ByteArray := method_13_code
def yL_fails : MethodName := ⟨RL, "fails", "(LEstimateContest;Ljava/lang/String;I)Z"⟩
