def RX0 : String := "RampPermits$1"
def TX0 : u_T := fun k => match k with
  | _ => ("", "", "", false)
def tyX0 : Nat → FieldType := fun k => match k with
  | _ => .int
theorem nmX0 : ∀ a, a < 0 → ∀ b, b < 0 → a ≠ b → (TX0 a).2.1 ≠ (TX0 b).2.1 := by decide +kernel
theorem tyX0_ok : ∀ k, k < 0 → parseFieldDescriptor (TX0 k).2.2.1 = some (tyX0 k) := by decide +kernel
def RX1 : String := "RampPermits$Command"
def TX1 : u_T := fun k => match k with
  | _ => ("", "", "", false)
def tyX1 : Nat → FieldType := fun k => match k with
  | _ => .int
theorem nmX1 : ∀ a, a < 0 → ∀ b, b < 0 → a ≠ b → (TX1 a).2.1 ≠ (TX1 b).2.1 := by decide +kernel
theorem tyX1_ok : ∀ k, k < 0 → parseFieldDescriptor (TX1 k).2.2.1 = some (tyX1 k) := by decide +kernel
def RX2 : String := "RampPermits$Fines"
def TX2 : u_T := fun k => match k with
  | 0 => ("RampPermits$Fines", "amounts", "[I", true)
  | 1 => ("RampPermits$Fines", "times", "[I", true)
  | _ => ("RampPermits$Fines", "total", "I", false)
def tyX2 : Nat → FieldType := fun k => match k with
  | 0 => .array .int
  | 1 => .array .int
  | _ => .int
theorem nmX2 : ∀ a, a < 3 → ∀ b, b < 3 → a ≠ b → (TX2 a).2.1 ≠ (TX2 b).2.1 := by decide +kernel
theorem tyX2_ok : ∀ k, k < 3 → parseFieldDescriptor (TX2 k).2.2.1 = some (tyX2 k) := by decide +kernel
abbrev cX2_init : ByteArray := prog_4_method_1_code
def yX2_init : MethodName := ⟨RX2, "<init>", "()V"⟩
abbrev cX2_copyFrom : ByteArray := prog_4_method_2_code
def yX2_copyFrom : MethodName := ⟨RX2, "copyFrom", "(LRampPermits$Fines;)V"⟩
abbrev cX2_amountFor : ByteArray := prog_4_method_3_code
def yX2_amountFor : MethodName := ⟨RX2, "amountFor", "(I)I"⟩
abbrev cX2_timesFor : ByteArray := prog_4_method_4_code
def yX2_timesFor : MethodName := ⟨RX2, "timesFor", "(I)I"⟩
abbrev cX2_changeAmount : ByteArray := prog_4_method_5_code
def yX2_changeAmount : MethodName := ⟨RX2, "changeAmount", "(II)I"⟩
abbrev cX2_impose : ByteArray := prog_4_method_6_code
def yX2_impose : MethodName := ⟨RX2, "impose", "(I)I"⟩
def RX3 : String := "RampPermits$History"
def TX3 : u_T := fun k => match k with
  | 0 => ("RampPermits$History", "rows", "[LRampPermits$State;", true)
  | 1 => ("RampPermits$History", "next", "I", false)
  | _ => ("RampPermits$History", "size", "I", false)
def tyX3 : Nat → FieldType := fun k => match k with
  | 0 => .array (.object "RampPermits$State")
  | 1 => .int
  | _ => .int
theorem nmX3 : ∀ a, a < 3 → ∀ b, b < 3 → a ≠ b → (TX3 a).2.1 ≠ (TX3 b).2.1 := by decide +kernel
theorem tyX3_ok : ∀ k, k < 3 → parseFieldDescriptor (TX3 k).2.2.1 = some (tyX3 k) := by decide +kernel
abbrev cX3_init : ByteArray := prog_5_method_1_code
def yX3_init : MethodName := ⟨RX3, "<init>", "()V"⟩
abbrev cX3_prepare : ByteArray := prog_5_method_2_code
def yX3_prepare : MethodName := ⟨RX3, "prepare", "(LRampPermits$State;)V"⟩
abbrev cX3_prepared : ByteArray := prog_5_method_3_code
def yX3_prepared : MethodName := ⟨RX3, "prepared", "()LRampPermits$State;"⟩
abbrev cX3_keep : ByteArray := prog_5_method_4_code
def yX3_keep : MethodName := ⟨RX3, "keep", "()V"⟩
abbrev cX3_dropLatest : ByteArray := prog_5_method_5_code
def yX3_dropLatest : MethodName := ⟨RX3, "dropLatest", "()V"⟩
def RX4 : String := "RampPermits$Permit"
def TX4 : u_T := fun k => match k with
  | 0 => ("RampPermits$Permit", "ramp", "I", false)
  | 1 => ("RampPermits$Permit", "first", "I", false)
  | 2 => ("RampPermits$Permit", "last", "I", false)
  | 3 => ("RampPermits$Permit", "draught", "I", false)
  | 4 => ("RampPermits$Permit", "fee", "I", false)
  | 5 => ("RampPermits$Permit", "paid", "I", false)
  | 6 => ("RampPermits$Permit", "kept", "I", false)
  | 7 => ("RampPermits$Permit", "owed", "I", false)
  | 8 => ("RampPermits$Permit", "refunded", "I", false)
  | 9 => ("RampPermits$Permit", "used", "I", false)
  | 10 => ("RampPermits$Permit", "lost", "I", false)
  | _ => ("RampPermits$Permit", "cancelled", "Z", false)
def tyX4 : Nat → FieldType := fun k => match k with
  | 0 => .int
  | 1 => .int
  | 2 => .int
  | 3 => .int
  | 4 => .int
  | 5 => .int
  | 6 => .int
  | 7 => .int
  | 8 => .int
  | 9 => .int
  | 10 => .int
  | _ => .boolean
theorem nmX4 : ∀ a, a < 12 → ∀ b, b < 12 → a ≠ b → (TX4 a).2.1 ≠ (TX4 b).2.1 := by decide +kernel
theorem tyX4_ok : ∀ k, k < 12 → parseFieldDescriptor (TX4 k).2.2.1 = some (tyX4 k) := by decide +kernel
abbrev cX4_init : ByteArray := prog_6_method_1_code
def yX4_init : MethodName := ⟨RX4, "<init>", "()V"⟩
abbrev cX4_copyFrom : ByteArray := prog_6_method_2_code
def yX4_copyFrom : MethodName := ⟨RX4, "copyFrom", "(LRampPermits$Permit;)V"⟩
abbrev cX4_begin : ByteArray := prog_6_method_3_code
def yX4_begin : MethodName := ⟨RX4, "begin", "(IIIII)V"⟩
abbrev cX4_daysToCome : ByteArray := prog_6_method_4_code
def yX4_daysToCome : MethodName := ⟨RX4, "daysToCome", "(I)I"⟩
abbrev cX4_comesOn : ByteArray := prog_6_method_5_code
def yX4_comesOn : MethodName := ⟨RX4, "comesOn", "(II)Z"⟩
abbrev cX4_moveTo : ByteArray := prog_6_method_6_code
def yX4_moveTo : MethodName := ⟨RX4, "moveTo", "(III)I"⟩
abbrev cX4_cancelDays : ByteArray := prog_6_method_7_code
def yX4_cancelDays : MethodName := ⟨RX4, "cancelDays", "(II)I"⟩
abbrev cX4_refundAll : ByteArray := prog_6_method_8_code
def yX4_refundAll : MethodName := ⟨RX4, "refundAll", "()I"⟩
abbrev cX4_useDay : ByteArray := prog_6_method_9_code
def yX4_useDay : MethodName := ⟨RX4, "useDay", "()V"⟩
abbrev cX4_loseDay : ByteArray := prog_6_method_10_code
def yX4_loseDay : MethodName := ⟨RX4, "loseDay", "()V"⟩
abbrev cX4_partUsed : ByteArray := prog_6_method_11_code
def yX4_partUsed : MethodName := ⟨RX4, "partUsed", "()I"⟩
abbrev cX4_property : ByteArray := prog_6_method_12_code
def yX4_property : MethodName := ⟨RX4, "property", "(II)I"⟩
def RX5 : String := "RampPermits$Program"
def TX5 : u_T := fun k => match k with
  | 0 => ("RampPermits$Program", "text", "LRampPermits$Text;", true)
  | 1 => ("RampPermits$Program", "numbers", "[I", true)
  | 2 => ("RampPermits$Program", "failureKind", "I", false)
  | 3 => ("RampPermits$Program", "failurePlace", "I", false)
  | 4 => ("RampPermits$Program", "failureCause", "I", false)
  | _ => ("RampPermits$Program", "commandsBefore", "I", false)
def tyX5 : Nat → FieldType := fun k => match k with
  | 0 => .object "RampPermits$Text"
  | 1 => .array .int
  | 2 => .int
  | 3 => .int
  | 4 => .int
  | _ => .int
theorem nmX5 : ∀ a, a < 6 → ∀ b, b < 6 → a ≠ b → (TX5 a).2.1 ≠ (TX5 b).2.1 := by decide +kernel
theorem tyX5_ok : ∀ k, k < 6 → parseFieldDescriptor (TX5 k).2.2.1 = some (tyX5 k) := by decide +kernel
abbrev cX5_init : ByteArray := prog_7_method_1_code
def yX5_init : MethodName := ⟨RX5, "<init>", "()V"⟩
def RX6 : String := "RampPermits$Ramp"
def TX6 : u_T := fun k => match k with
  | 0 => ("RampPermits$Ramp", "end", "I", false)
  | 1 => ("RampPermits$Ramp", "boats", "I", false)
  | _ => ("RampPermits$Ramp", "fee", "I", false)
def tyX6 : Nat → FieldType := fun k => match k with
  | 0 => .int
  | 1 => .int
  | _ => .int
theorem nmX6 : ∀ a, a < 3 → ∀ b, b < 3 → a ≠ b → (TX6 a).2.1 ≠ (TX6 b).2.1 := by decide +kernel
theorem tyX6_ok : ∀ k, k < 3 → parseFieldDescriptor (TX6 k).2.2.1 = some (tyX6 k) := by decide +kernel
abbrev cX6_init : ByteArray := prog_8_method_1_code
def yX6_init : MethodName := ⟨RX6, "<init>", "()V"⟩
abbrev cX6_copyFrom : ByteArray := prog_8_method_2_code
def yX6_copyFrom : MethodName := ⟨RX6, "copyFrom", "(LRampPermits$Ramp;)V"⟩
abbrev cX6_isOpen : ByteArray := prog_8_method_3_code
def yX6_isOpen : MethodName := ⟨RX6, "isOpen", "(II)Z"⟩
abbrev cX6_greatestDraught : ByteArray := prog_8_method_4_code
def yX6_greatestDraught : MethodName := ⟨RX6, "greatestDraught", "(I)I"⟩
def RX7 : String := "RampPermits$Season"
def TX7 : u_T := fun k => match k with
  | 0 => ("RampPermits$Season", "water", "LRampPermits$Water;", true)
  | 1 => ("RampPermits$Season", "fines", "LRampPermits$Fines;", true)
  | 2 => ("RampPermits$Season", "ramps", "[LRampPermits$Ramp;", true)
  | 3 => ("RampPermits$Season", "permits", "[LRampPermits$Permit;", true)
  | 4 => ("RampPermits$Season", "rampCount", "I", false)
  | _ => ("RampPermits$Season", "permitCount", "I", false)
def tyX7 : Nat → FieldType := fun k => match k with
  | 0 => .object "RampPermits$Water"
  | 1 => .object "RampPermits$Fines"
  | 2 => .array (.object "RampPermits$Ramp")
  | 3 => .array (.object "RampPermits$Permit")
  | 4 => .int
  | _ => .int
theorem nmX7 : ∀ a, a < 6 → ∀ b, b < 6 → a ≠ b → (TX7 a).2.1 ≠ (TX7 b).2.1 := by decide +kernel
theorem tyX7_ok : ∀ k, k < 6 → parseFieldDescriptor (TX7 k).2.2.1 = some (tyX7 k) := by decide +kernel
abbrev cX7_init : ByteArray := prog_9_method_1_code
def yX7_init : MethodName := ⟨RX7, "<init>", "()V"⟩
abbrev cX7_copyFrom : ByteArray := prog_9_method_2_code
def yX7_copyFrom : MethodName := ⟨RX7, "copyFrom", "(LRampPermits$Season;)V"⟩
abbrev cX7_hasRamp : ByteArray := prog_9_method_3_code
def yX7_hasRamp : MethodName := ⟨RX7, "hasRamp", "(I)Z"⟩
abbrev cX7_hasPermit : ByteArray := prog_9_method_4_code
def yX7_hasPermit : MethodName := ⟨RX7, "hasPermit", "(I)Z"⟩
abbrev cX7_changeLevel : ByteArray := prog_9_method_5_code
def yX7_changeLevel : MethodName := ⟨RX7, "changeLevel", "(I)I"⟩
abbrev cX7_changeRate : ByteArray := prog_9_method_6_code
def yX7_changeRate : MethodName := ⟨RX7, "changeRate", "(II)I"⟩
abbrev cX7_openRamp : ByteArray := prog_9_method_7_code
def yX7_openRamp : MethodName := ⟨RX7, "openRamp", "(III)I"⟩
abbrev cX7_changeFee : ByteArray := prog_9_method_8_code
def yX7_changeFee : MethodName := ⟨RX7, "changeFee", "(II)I"⟩
abbrev cX7_sellPermit : ByteArray := prog_9_method_9_code
def yX7_sellPermit : MethodName := ⟨RX7, "sellPermit", "(IIII)I"⟩
abbrev cX7_movePermit : ByteArray := prog_9_method_10_code
def yX7_movePermit : MethodName := ⟨RX7, "movePermit", "(II)I"⟩
abbrev cX7_cancelPermit : ByteArray := prog_9_method_11_code
def yX7_cancelPermit : MethodName := ⟨RX7, "cancelPermit", "(I)I"⟩
abbrev cX7_refundPermit : ByteArray := prog_9_method_12_code
def yX7_refundPermit : MethodName := ⟨RX7, "refundPermit", "(I)I"⟩
abbrev cX7_passDay : ByteArray := prog_9_method_13_code
def yX7_passDay : MethodName := ⟨RX7, "passDay", "(I)I"⟩
abbrev cX7_launchBoat : ByteArray := prog_9_method_14_code
def yX7_launchBoat : MethodName := ⟨RX7, "launchBoat", "(III)I"⟩
abbrev cX7_reasonToFine : ByteArray := prog_9_method_15_code
def yX7_reasonToFine : MethodName := ⟨RX7, "reasonToFine", "(LRampPermits$Ramp;III)I"⟩
abbrev cX7_isOpenFor : ByteArray := prog_9_method_16_code
def yX7_isOpenFor : MethodName := ⟨RX7, "isOpenFor", "(LRampPermits$Permit;I)Z"⟩
abbrev cX7_fits : ByteArray := prog_9_method_17_code
def yX7_fits : MethodName := ⟨RX7, "fits", "(IIII)Z"⟩
abbrev cX7_permitsOn : ByteArray := prog_9_method_18_code
def yX7_permitsOn : MethodName := ⟨RX7, "permitsOn", "(II)I"⟩
abbrev cX7_permitsToComeFor : ByteArray := prog_9_method_19_code
def yX7_permitsToComeFor : MethodName := ⟨RX7, "permitsToComeFor", "(I)I"⟩
abbrev cX7_permitsToCome : ByteArray := prog_9_method_20_code
def yX7_permitsToCome : MethodName := ⟨RX7, "permitsToCome", "()I"⟩
abbrev cX7_sumOf : ByteArray := prog_9_method_21_code
def yX7_sumOf : MethodName := ⟨RX7, "sumOf", "(I)I"⟩
abbrev cX7_feesToCome : ByteArray := prog_9_method_22_code
def yX7_feesToCome : MethodName := ⟨RX7, "feesToCome", "()I"⟩
abbrev cX7_closedDays : ByteArray := prog_9_method_23_code
def yX7_closedDays : MethodName := ⟨RX7, "closedDays", "(LRampPermits$Permit;)I"⟩
abbrev cX7_firstClosedDay : ByteArray := prog_9_method_24_code
def yX7_firstClosedDay : MethodName := ⟨RX7, "firstClosedDay", "(II)I"⟩
def RX8 : String := "RampPermits$State"
def TX8 : u_T := fun k => match k with
  | 0 => ("RampPermits$State", "now", "LRampPermits$Season;", true)
  | 1 => ("RampPermits$State", "slots", "[LRampPermits$Season;", true)
  | _ => ("RampPermits$State", "taken", "[Z", true)
def tyX8 : Nat → FieldType := fun k => match k with
  | 0 => .object "RampPermits$Season"
  | 1 => .array (.object "RampPermits$Season")
  | _ => .array .boolean
theorem nmX8 : ∀ a, a < 3 → ∀ b, b < 3 → a ≠ b → (TX8 a).2.1 ≠ (TX8 b).2.1 := by decide +kernel
theorem tyX8_ok : ∀ k, k < 3 → parseFieldDescriptor (TX8 k).2.2.1 = some (tyX8 k) := by decide +kernel
abbrev cX8_init : ByteArray := prog_10_method_1_code
def yX8_init : MethodName := ⟨RX8, "<init>", "()V"⟩
abbrev cX8_copyFrom : ByteArray := prog_10_method_2_code
def yX8_copyFrom : MethodName := ⟨RX8, "copyFrom", "(LRampPermits$State;)V"⟩
abbrev cX8_takeSnapshot : ByteArray := prog_10_method_3_code
def yX8_takeSnapshot : MethodName := ⟨RX8, "takeSnapshot", "(I)I"⟩
abbrev cX8_restoreSnapshot : ByteArray := prog_10_method_4_code
def yX8_restoreSnapshot : MethodName := ⟨RX8, "restoreSnapshot", "(I)I"⟩
abbrev cX8_snapshots : ByteArray := prog_10_method_5_code
def yX8_snapshots : MethodName := ⟨RX8, "snapshots", "()I"⟩
def RX9 : String := "RampPermits$Text"
def TX9 : u_T := fun k => match k with
  | 0 => ("RampPermits$Text", "characters", "[C", true)
  | 1 => ("RampPermits$Text", "length", "I", false)
  | 2 => ("RampPermits$Text", "start", "I", false)
  | _ => ("RampPermits$Text", "end", "I", false)
def tyX9 : Nat → FieldType := fun k => match k with
  | 0 => .array .char
  | 1 => .int
  | 2 => .int
  | _ => .int
theorem nmX9 : ∀ a, a < 4 → ∀ b, b < 4 → a ≠ b → (TX9 a).2.1 ≠ (TX9 b).2.1 := by decide +kernel
theorem tyX9_ok : ∀ k, k < 4 → parseFieldDescriptor (TX9 k).2.2.1 = some (tyX9 k) := by decide +kernel
abbrev cX9_init : ByteArray := prog_11_method_1_code
def yX9_init : MethodName := ⟨RX9, "<init>", "()V"⟩
def RX10 : String := "RampPermits$Water"
def TX10 : u_T := fun k => match k with
  | 0 => ("RampPermits$Water", "today", "I", false)
  | 1 => ("RampPermits$Water", "level", "I", false)
  | _ => ("RampPermits$Water", "rates", "[I", true)
def tyX10 : Nat → FieldType := fun k => match k with
  | 0 => .int
  | 1 => .int
  | _ => .array .int
theorem nmX10 : ∀ a, a < 3 → ∀ b, b < 3 → a ≠ b → (TX10 a).2.1 ≠ (TX10 b).2.1 := by decide +kernel
theorem tyX10_ok : ∀ k, k < 3 → parseFieldDescriptor (TX10 k).2.2.1 = some (tyX10 k) := by decide +kernel
abbrev cX10_init : ByteArray := prog_12_method_1_code
def yX10_init : MethodName := ⟨RX10, "<init>", "()V"⟩
abbrev cX10_copyFrom : ByteArray := prog_12_method_2_code
def yX10_copyFrom : MethodName := ⟨RX10, "copyFrom", "(LRampPermits$Water;)V"⟩
abbrev cX10_rateOn : ByteArray := prog_12_method_3_code
def yX10_rateOn : MethodName := ⟨RX10, "rateOn", "(I)I"⟩
abbrev cX10_lowestForecast : ByteArray := prog_12_method_4_code
def yX10_lowestForecast : MethodName := ⟨RX10, "lowestForecast", "(II)I"⟩
abbrev cX10_nextDay : ByteArray := prog_12_method_5_code
def yX10_nextDay : MethodName := ⟨RX10, "nextDay", "(I)V"⟩
abbrev cX10_bounded : ByteArray := prog_12_method_6_code
def yX10_bounded : MethodName := ⟨RX10, "bounded", "(I)I"⟩
def RX11 : String := "RampPermits"
def TX11 : u_T := fun k => match k with
  | 0 => ("RampPermits", "state", "LRampPermits$State;", true)
  | 1 => ("RampPermits", "history", "LRampPermits$History;", true)
  | _ => ("RampPermits", "program", "LRampPermits$Program;", true)
def tyX11 : Nat → FieldType := fun k => match k with
  | 0 => .object "RampPermits$State"
  | 1 => .object "RampPermits$History"
  | _ => .object "RampPermits$Program"
theorem nmX11 : ∀ a, a < 3 → ∀ b, b < 3 → a ≠ b → (TX11 a).2.1 ≠ (TX11 b).2.1 := by decide +kernel
theorem tyX11_ok : ∀ k, k < 3 → parseFieldDescriptor (TX11 k).2.2.1 = some (tyX11 k) := by decide +kernel
abbrev cX11_init : ByteArray := prog_1_method_1_code
def yX11_init : MethodName := ⟨RX11, "<init>", "()V"⟩
abbrev cX11_setLevel : ByteArray := prog_1_method_2_code
def yX11_setLevel : MethodName := ⟨RX11, "setLevel", "(I)I"⟩
abbrev cX11_setRate : ByteArray := prog_1_method_3_code
def yX11_setRate : MethodName := ⟨RX11, "setRate", "(II)I"⟩
abbrev cX11_addRamp : ByteArray := prog_1_method_4_code
def yX11_addRamp : MethodName := ⟨RX11, "addRamp", "(III)I"⟩
abbrev cX11_setFee : ByteArray := prog_1_method_5_code
def yX11_setFee : MethodName := ⟨RX11, "setFee", "(II)I"⟩
abbrev cX11_setFine : ByteArray := prog_1_method_6_code
def yX11_setFine : MethodName := ⟨RX11, "setFine", "(II)I"⟩
abbrev cX11_buy : ByteArray := prog_1_method_7_code
def yX11_buy : MethodName := ⟨RX11, "buy", "(IIII)I"⟩
abbrev cX11_move : ByteArray := prog_1_method_8_code
def yX11_move : MethodName := ⟨RX11, "move", "(II)I"⟩
abbrev cX11_cancel : ByteArray := prog_1_method_9_code
def yX11_cancel : MethodName := ⟨RX11, "cancel", "(I)I"⟩
abbrev cX11_refund : ByteArray := prog_1_method_10_code
def yX11_refund : MethodName := ⟨RX11, "refund", "(I)I"⟩
abbrev cX11_pass : ByteArray := prog_1_method_11_code
def yX11_pass : MethodName := ⟨RX11, "pass", "(I)I"⟩
abbrev cX11_launch : ByteArray := prog_1_method_12_code
def yX11_launch : MethodName := ⟨RX11, "launch", "(III)I"⟩
abbrev cX11_take : ByteArray := prog_1_method_13_code
def yX11_take : MethodName := ⟨RX11, "take", "(I)I"⟩
abbrev cX11_restore : ByteArray := prog_1_method_14_code
def yX11_restore : MethodName := ⟨RX11, "restore", "(I)I"⟩
abbrev cX11_undo : ByteArray := prog_1_method_15_code
def yX11_undo : MethodName := ⟨RX11, "undo", "()I"⟩
abbrev cX11_count : ByteArray := prog_1_method_20_code
def yX11_count : MethodName := ⟨RX11, "count", "(I)I"⟩
abbrev cX11_ramp : ByteArray := prog_1_method_21_code
def yX11_ramp : MethodName := ⟨RX11, "ramp", "(II)I"⟩
abbrev cX11_permit : ByteArray := prog_1_method_22_code
def yX11_permit : MethodName := ⟨RX11, "permit", "(II)I"⟩
abbrev cX11_money : ByteArray := prog_1_method_23_code
def yX11_money : MethodName := ⟨RX11, "money", "(I)I"⟩
abbrev cX11_rate : ByteArray := prog_1_method_24_code
def yX11_rate : MethodName := ⟨RX11, "rate", "(I)I"⟩
abbrev cX11_forecast : ByteArray := prog_1_method_25_code
def yX11_forecast : MethodName := ⟨RX11, "forecast", "(I)I"⟩
abbrev cX11_closure : ByteArray := prog_1_method_26_code
def yX11_closure : MethodName := ⟨RX11, "closure", "(II)I"⟩
abbrev cX11_draughtFor : ByteArray := prog_1_method_27_code
def yX11_draughtFor : MethodName := ⟨RX11, "draughtFor", "(III)I"⟩
abbrev cX11_expected : ByteArray := prog_1_method_29_code
def yX11_expected : MethodName := ⟨RX11, "expected", "(II)I"⟩
abbrev cX11_part : ByteArray := prog_1_method_30_code
def yX11_part : MethodName := ⟨RX11, "part", "(I)I"⟩
abbrev cX11_finishAction : ByteArray := prog_1_method_32_code
def yX11_finishAction : MethodName := ⟨RX11, "finishAction", "(I)I"⟩
abbrev cX11_isWithin : ByteArray := prog_1_method_33_code
def yX11_isWithin : MethodName := ⟨RX11, "isWithin", "(III)Z"⟩
abbrev cX11_isPermitSpan : ByteArray := prog_1_method_34_code
def yX11_isPermitSpan : MethodName := ⟨RX11, "isPermitSpan", "(II)Z"⟩
abbrev cX11_isError : ByteArray := prog_1_method_35_code
def yX11_isError : MethodName := ⟨RX11, "isError", "(I)Z"⟩
def RX12 : String := "RampPermitsModel"
def TX12 : u_T := fun k => match k with
  | _ => ("", "", "", false)
def tyX12 : Nat → FieldType := fun k => match k with
  | _ => .int
theorem nmX12 : ∀ a, a < 0 → ∀ b, b < 0 → a ≠ b → (TX12 a).2.1 ≠ (TX12 b).2.1 := by decide +kernel
theorem tyX12_ok : ∀ k, k < 0 → parseFieldDescriptor (TX12 k).2.2.1 = some (tyX12 k) := by decide +kernel
def RJ10 : String := "java/lang/System"
def TJ10 : u_T := fun k => match k with
  | _ => ("", "", "", false)
def tyJ10 : Nat → FieldType := fun k => match k with
  | _ => .int
theorem nmJ10 : ∀ a, a < 0 → ∀ b, b < 0 → a ≠ b → (TJ10 a).2.1 ≠ (TJ10 b).2.1 := by decide +kernel
theorem tyJ10_ok : ∀ k, k < 0 → parseFieldDescriptor (TJ10 k).2.2.1 = some (tyJ10 k) := by decide +kernel
def RL : String := "RampPermitsLaw"
abbrev cL_cell : ByteArray := method_2_code
def yL_cell : MethodName := ⟨RL, "cell", "([II)I"⟩
abbrev cL_low : ByteArray := method_3_code
def yL_low : MethodName := ⟨RL, "low", "(II)I"⟩
abbrev cL_digest : ByteArray := method_4_code
def yL_digest : MethodName := ⟨RL, "digest", "(LRampPermits;)J"⟩
abbrev cL_act : ByteArray := method_5_code
def yL_act : MethodName := ⟨RL, "act", "(LRampPermits;I)I"⟩
abbrev cL_isError : ByteArray := method_6_code
def yL_isError : MethodName := ⟨RL, "isError", "(I)Z"⟩
abbrev cL_addsUp : ByteArray := method_7_code
def yL_addsUp : MethodName := ⟨RL, "addsUp", "(LRampPermits;)Z"⟩
abbrev cL_isForecast : ByteArray := method_8_code
def yL_isForecast : MethodName := ⟨RL, "isForecast", "(LRampPermits;II)Z"⟩
abbrev cL_law : ByteArray := code
def yL_law : MethodName := ⟨RL, "law", "([I)Z"⟩
abbrev vwCl : List vw_C := [(RX2, TX2, 3), (RX3, TX3, 3), (RX4, TX4, 12), (RX5, TX5, 6), (RX6, TX6, 3), (RX7, TX7, 6), (RX8, TX8, 3), (RX9, TX9, 4), (RX10, TX10, 3), (RX11, TX11, 3)]
/-- a method: its name, its bytes, its locals, what it returns -/
abbrev MT : Type := MethodName × ByteArray × Nat × Option FieldType
/-- the good words of the tables -/
def Big : List Cond := lw_tbl.filter goodWord
theorem inB0 {w : Cond} (i : Nat) (h : (k2_sels lw_privs)[i]? = some w) (g : goodWord w = true) : w ∈ Big := List.mem_filter.mpr ⟨List.mem_append_left _ (List.mem_of_getElem? h), g⟩
theorem inB1 {w : Cond} (i : Nat) (h : tables_1_1[i]? = some w) (g : goodWord w = true) : w ∈ Big := List.mem_filter.mpr ⟨List.mem_append_right _ (List.mem_append_left _ (List.mem_of_getElem? h)), g⟩
theorem inB2 {w : Cond} (i : Nat) (h : tables_1_2[i]? = some w) (g : goodWord w = true) : w ∈ Big := List.mem_filter.mpr ⟨List.mem_append_right _ (List.mem_append_right _ (List.mem_append_left _ (List.mem_of_getElem? h))), g⟩
theorem inB3 {w : Cond} (i : Nat) (h : tables_1_3[i]? = some w) (g : goodWord w = true) : w ∈ Big := List.mem_filter.mpr ⟨List.mem_append_right _ (List.mem_append_right _ (List.mem_append_right _ (List.mem_of_getElem? h))), g⟩
theorem big_good {w : Cond} (h : w ∈ Big) : goodWord w = true := (List.mem_filter.mp h).2
theorem big_tbl {w : Cond} (h : w ∈ Big) : w ∈ lw_tbl := (List.mem_filter.mp h).1
def CFm (y : MT) (n : Nat) : Prop := Cond.code y.1 y.2.1 y.2.2.1 y.2.2.2 ∈ Big ∧ Cond.initialized y.1.cls ∈ Big ∧ (y.1.cls ≠ "java/lang/invoke/MethodHandle" ∧ y.1.cls ≠ "java/lang/invoke/VarHandle" ∧ (parseMethodDescriptor y.1.desc).map (fun d => d.parameters.length) = some n) ∧ plainName y.1.cls = true
def CFv (y : MT) : Prop := Cond.instanceMethod y.1 ∈ Big ∧ Cond.selects y.1.cls y.1 y.1 ∈ Big
def CFs (y : MT) : Prop := Cond.static y.1 ∈ Big
def dchk (c : ByteArray) (L : List (Nat × Instr × Nat)) : Bool := L.all (fun q => decide (decode c q.1 = .ok (q.2.1, q.2.2)))
def Dc (c : ByteArray) (pc : Nat) (i : Instr) (n npc : Nat) : Prop := decode c pc = .ok (i, n) ∧ pc + n = npc
theorem dget {c : ByteArray} {L : List (Nat × Instr × Nat)} (h : dchk c L = true) (k : Nat) {pc n npc : Nat} {i : Instr} (hk : L[k]? = some (pc, i, n)) (hn : pc + n = npc) : Dc c pc i n npc := by
  have h1 := List.all_eq_true.mp h (pc, i, n) (List.mem_of_getElem? hk)
  dsimp only at h1
  exact ⟨of_decide_eq_true h1, hn⟩
abbrev mX2_init : MT := (yX2_init, cX2_init, 1, (none))
abbrev mX2_copyFrom : MT := (yX2_copyFrom, cX2_copyFrom, 2, (none))
abbrev mX2_amountFor : MT := (yX2_amountFor, cX2_amountFor, 2, (some FieldType.int))
abbrev mX2_timesFor : MT := (yX2_timesFor, cX2_timesFor, 2, (some FieldType.int))
abbrev mX2_changeAmount : MT := (yX2_changeAmount, cX2_changeAmount, 4, (some FieldType.int))
abbrev mX2_impose : MT := (yX2_impose, cX2_impose, 2, (some FieldType.int))
abbrev mX3_init : MT := (yX3_init, cX3_init, 2, (none))
abbrev mX3_prepare : MT := (yX3_prepare, cX3_prepare, 2, (none))
abbrev mX3_prepared : MT := (yX3_prepared, cX3_prepared, 1, (some (FieldType.object "RampPermits$State")))
abbrev mX3_keep : MT := (yX3_keep, cX3_keep, 1, (none))
abbrev mX3_dropLatest : MT := (yX3_dropLatest, cX3_dropLatest, 1, (none))
abbrev mX4_init : MT := (yX4_init, cX4_init, 1, (none))
abbrev mX4_copyFrom : MT := (yX4_copyFrom, cX4_copyFrom, 2, (none))
abbrev mX4_begin : MT := (yX4_begin, cX4_begin, 6, (none))
abbrev mX4_daysToCome : MT := (yX4_daysToCome, cX4_daysToCome, 3, (some FieldType.int))
abbrev mX4_comesOn : MT := (yX4_comesOn, cX4_comesOn, 3, (some FieldType.boolean))
abbrev mX4_moveTo : MT := (yX4_moveTo, cX4_moveTo, 5, (some FieldType.int))
abbrev mX4_cancelDays : MT := (yX4_cancelDays, cX4_cancelDays, 5, (some FieldType.int))
abbrev mX4_refundAll : MT := (yX4_refundAll, cX4_refundAll, 2, (some FieldType.int))
abbrev mX4_useDay : MT := (yX4_useDay, cX4_useDay, 1, (none))
abbrev mX4_loseDay : MT := (yX4_loseDay, cX4_loseDay, 1, (none))
abbrev mX4_partUsed : MT := (yX4_partUsed, cX4_partUsed, 2, (some FieldType.int))
abbrev mX4_property : MT := (yX4_property, cX4_property, 3, (some FieldType.int))
abbrev mX5_init : MT := (yX5_init, cX5_init, 1, (none))
abbrev mX6_init : MT := (yX6_init, cX6_init, 1, (none))
abbrev mX6_copyFrom : MT := (yX6_copyFrom, cX6_copyFrom, 2, (none))
abbrev mX6_isOpen : MT := (yX6_isOpen, cX6_isOpen, 3, (some FieldType.boolean))
abbrev mX6_greatestDraught : MT := (yX6_greatestDraught, cX6_greatestDraught, 3, (some FieldType.int))
abbrev mX7_init : MT := (yX7_init, cX7_init, 2, (none))
abbrev mX7_copyFrom : MT := (yX7_copyFrom, cX7_copyFrom, 3, (none))
abbrev mX7_hasRamp : MT := (yX7_hasRamp, cX7_hasRamp, 2, (some FieldType.boolean))
abbrev mX7_hasPermit : MT := (yX7_hasPermit, cX7_hasPermit, 2, (some FieldType.boolean))
abbrev mX7_changeLevel : MT := (yX7_changeLevel, cX7_changeLevel, 3, (some FieldType.int))
abbrev mX7_changeRate : MT := (yX7_changeRate, cX7_changeRate, 4, (some FieldType.int))
abbrev mX7_openRamp : MT := (yX7_openRamp, cX7_openRamp, 5, (some FieldType.int))
abbrev mX7_changeFee : MT := (yX7_changeFee, cX7_changeFee, 4, (some FieldType.int))
abbrev mX7_sellPermit : MT := (yX7_sellPermit, cX7_sellPermit, 5, (some FieldType.int))
abbrev mX7_movePermit : MT := (yX7_movePermit, cX7_movePermit, 5, (some FieldType.int))
abbrev mX7_cancelPermit : MT := (yX7_cancelPermit, cX7_cancelPermit, 5, (some FieldType.int))
abbrev mX7_refundPermit : MT := (yX7_refundPermit, cX7_refundPermit, 2, (some FieldType.int))
abbrev mX7_passDay : MT := (yX7_passDay, cX7_passDay, 5, (some FieldType.int))
abbrev mX7_launchBoat : MT := (yX7_launchBoat, cX7_launchBoat, 4, (some FieldType.int))
abbrev mX7_reasonToFine : MT := (yX7_reasonToFine, cX7_reasonToFine, 6, (some FieldType.int))
abbrev mX7_isOpenFor : MT := (yX7_isOpenFor, cX7_isOpenFor, 3, (some FieldType.boolean))
abbrev mX7_fits : MT := (yX7_fits, cX7_fits, 6, (some FieldType.boolean))
abbrev mX7_permitsOn : MT := (yX7_permitsOn, cX7_permitsOn, 5, (some FieldType.int))
abbrev mX7_permitsToComeFor : MT := (yX7_permitsToComeFor, cX7_permitsToComeFor, 4, (some FieldType.int))
abbrev mX7_permitsToCome : MT := (yX7_permitsToCome, cX7_permitsToCome, 3, (some FieldType.int))
abbrev mX7_sumOf : MT := (yX7_sumOf, cX7_sumOf, 4, (some FieldType.int))
abbrev mX7_feesToCome : MT := (yX7_feesToCome, cX7_feesToCome, 3, (some FieldType.int))
abbrev mX7_closedDays : MT := (yX7_closedDays, cX7_closedDays, 5, (some FieldType.int))
abbrev mX7_firstClosedDay : MT := (yX7_firstClosedDay, cX7_firstClosedDay, 5, (some FieldType.int))
abbrev mX8_init : MT := (yX8_init, cX8_init, 2, (none))
abbrev mX8_copyFrom : MT := (yX8_copyFrom, cX8_copyFrom, 3, (none))
abbrev mX8_takeSnapshot : MT := (yX8_takeSnapshot, cX8_takeSnapshot, 2, (some FieldType.int))
abbrev mX8_restoreSnapshot : MT := (yX8_restoreSnapshot, cX8_restoreSnapshot, 2, (some FieldType.int))
abbrev mX8_snapshots : MT := (yX8_snapshots, cX8_snapshots, 3, (some FieldType.int))
abbrev mX9_init : MT := (yX9_init, cX9_init, 1, (none))
abbrev mX10_init : MT := (yX10_init, cX10_init, 1, (none))
abbrev mX10_copyFrom : MT := (yX10_copyFrom, cX10_copyFrom, 2, (none))
abbrev mX10_rateOn : MT := (yX10_rateOn, cX10_rateOn, 3, (some FieldType.int))
abbrev mX10_lowestForecast : MT := (yX10_lowestForecast, cX10_lowestForecast, 6, (some FieldType.int))
abbrev mX10_nextDay : MT := (yX10_nextDay, cX10_nextDay, 2, (none))
abbrev mX10_bounded : MT := (yX10_bounded, cX10_bounded, 1, (some FieldType.int))
abbrev mX11_init : MT := (yX11_init, cX11_init, 1, (none))
abbrev mX11_setLevel : MT := (yX11_setLevel, cX11_setLevel, 2, (some FieldType.int))
abbrev mX11_setRate : MT := (yX11_setRate, cX11_setRate, 3, (some FieldType.int))
abbrev mX11_addRamp : MT := (yX11_addRamp, cX11_addRamp, 4, (some FieldType.int))
abbrev mX11_setFee : MT := (yX11_setFee, cX11_setFee, 3, (some FieldType.int))
abbrev mX11_setFine : MT := (yX11_setFine, cX11_setFine, 3, (some FieldType.int))
abbrev mX11_buy : MT := (yX11_buy, cX11_buy, 5, (some FieldType.int))
abbrev mX11_move : MT := (yX11_move, cX11_move, 3, (some FieldType.int))
abbrev mX11_cancel : MT := (yX11_cancel, cX11_cancel, 2, (some FieldType.int))
abbrev mX11_refund : MT := (yX11_refund, cX11_refund, 2, (some FieldType.int))
abbrev mX11_pass : MT := (yX11_pass, cX11_pass, 2, (some FieldType.int))
abbrev mX11_launch : MT := (yX11_launch, cX11_launch, 4, (some FieldType.int))
abbrev mX11_take : MT := (yX11_take, cX11_take, 2, (some FieldType.int))
abbrev mX11_restore : MT := (yX11_restore, cX11_restore, 2, (some FieldType.int))
abbrev mX11_undo : MT := (yX11_undo, cX11_undo, 1, (some FieldType.int))
abbrev mX11_count : MT := (yX11_count, cX11_count, 3, (some FieldType.int))
abbrev mX11_ramp : MT := (yX11_ramp, cX11_ramp, 5, (some FieldType.int))
abbrev mX11_permit : MT := (yX11_permit, cX11_permit, 4, (some FieldType.int))
abbrev mX11_money : MT := (yX11_money, cX11_money, 2, (some FieldType.int))
abbrev mX11_rate : MT := (yX11_rate, cX11_rate, 2, (some FieldType.int))
abbrev mX11_forecast : MT := (yX11_forecast, cX11_forecast, 3, (some FieldType.int))
abbrev mX11_closure : MT := (yX11_closure, cX11_closure, 3, (some FieldType.int))
abbrev mX11_draughtFor : MT := (yX11_draughtFor, cX11_draughtFor, 5, (some FieldType.int))
abbrev mX11_expected : MT := (yX11_expected, cX11_expected, 6, (some FieldType.int))
abbrev mX11_part : MT := (yX11_part, cX11_part, 2, (some FieldType.int))
abbrev mX11_finishAction : MT := (yX11_finishAction, cX11_finishAction, 2, (some FieldType.int))
abbrev mX11_isWithin : MT := (yX11_isWithin, cX11_isWithin, 3, (some FieldType.boolean))
abbrev mX11_isPermitSpan : MT := (yX11_isPermitSpan, cX11_isPermitSpan, 2, (some FieldType.boolean))
abbrev mX11_isError : MT := (yX11_isError, cX11_isError, 1, (some FieldType.boolean))
abbrev mL_cell : MT := (yL_cell, cL_cell, 2, (some FieldType.int))
abbrev mL_low : MT := (yL_low, cL_low, 2, (some FieldType.int))
abbrev mL_digest : MT := (yL_digest, cL_digest, 4, (some FieldType.long))
abbrev mL_act : MT := (yL_act, cL_act, 6, (some FieldType.int))
abbrev mL_isError : MT := (yL_isError, cL_isError, 1, (some FieldType.boolean))
abbrev mL_addsUp : MT := (yL_addsUp, cL_addsUp, 11, (some FieldType.boolean))
abbrev mL_isForecast : MT := (yL_isForecast, cL_isForecast, 9, (some FieldType.boolean))
abbrev mL_law : MT := (yL_law, cL_law, maxLocals, ret)
