def RX0 : String := "SightReducer$Chart"
def TX0 : u_T := fun k => match k with
  | 0 => ("SightReducer$Chart", "lines", "[LSightReducer$Line;", true)
  | 1 => ("SightReducer$Chart", "noLine", "LSightReducer$Line;", true)
  | 2 => ("SightReducer$Chart", "ship", "LSightReducer$Ship;", true)
  | 3 => ("SightReducer$Chart", "crossed", "LSightReducer$Place;", true)
  | 4 => ("SightReducer$Chart", "fixed", "LSightReducer$Place;", true)
  | _ => ("SightReducer$Chart", "cocked", "LSightReducer$Hat;", true)
def tyX0 : Nat → FieldType := fun k => match k with
  | 0 => .array (.object "SightReducer$Line")
  | 1 => .object "SightReducer$Line"
  | 2 => .object "SightReducer$Ship"
  | 3 => .object "SightReducer$Place"
  | 4 => .object "SightReducer$Place"
  | _ => .object "SightReducer$Hat"
theorem nmX0 : ∀ a, a < 6 → ∀ b, b < 6 → a ≠ b → (TX0 a).2.1 ≠ (TX0 b).2.1 := by decide +kernel
theorem tyX0_ok : ∀ k, k < 6 → parseFieldDescriptor (TX0 k).2.2.1 = some (tyX0 k) := by decide +kernel
abbrev cX0_init : ByteArray := prog_2_method_1_code
def yX0_init : MethodName := ⟨RX0, "<init>", "()V"⟩
abbrev cX0_lineOf : ByteArray := prog_2_method_2_code
def yX0_lineOf : MethodName := ⟨RX0, "lineOf", "(I)LSightReducer$Line;"⟩
abbrev cX0_drawLine : ByteArray := prog_2_method_3_code
def yX0_drawLine : MethodName := ⟨RX0, "drawLine", "(LSightReducer$Plan;LSightReducer$Log;II)V"⟩
abbrev cX0_drawAll : ByteArray := prog_2_method_4_code
def yX0_drawAll : MethodName := ⟨RX0, "drawAll", "(LSightReducer$Plan;LSightReducer$Log;I)V"⟩
abbrev cX0_findLeastHat : ByteArray := prog_2_method_5_code
def yX0_findLeastHat : MethodName := ⟨RX0, "findLeastHat", "(I)I"⟩
abbrev cX0_findFix : ByteArray := prog_2_method_6_code
def yX0_findFix : MethodName := ⟨RX0, "findFix", "(LSightReducer$Plan;LSightReducer$Log;I)Z"⟩
abbrev cX0_distanceOff : ByteArray := prog_2_method_7_code
def yX0_distanceOff : MethodName := ⟨RX0, "distanceOff", "()I"⟩
abbrev cX0_directionOff : ByteArray := prog_2_method_8_code
def yX0_directionOff : MethodName := ⟨RX0, "directionOff", "(I)I"⟩
def RX1 : String := "SightReducer$Hat"
def TX1 : u_T := fun k => match k with
  | 0 => ("SightReducer$Hat", "isKnown", "Z", false)
  | 1 => ("SightReducer$Hat", "first", "LSightReducer$Place;", true)
  | 2 => ("SightReducer$Hat", "second", "LSightReducer$Place;", true)
  | _ => ("SightReducer$Hat", "third", "LSightReducer$Place;", true)
def tyX1 : Nat → FieldType := fun k => match k with
  | 0 => .boolean
  | 1 => .object "SightReducer$Place"
  | 2 => .object "SightReducer$Place"
  | _ => .object "SightReducer$Place"
theorem nmX1 : ∀ a, a < 4 → ∀ b, b < 4 → a ≠ b → (TX1 a).2.1 ≠ (TX1 b).2.1 := by decide +kernel
theorem tyX1_ok : ∀ k, k < 4 → parseFieldDescriptor (TX1 k).2.2.1 = some (tyX1 k) := by decide +kernel
abbrev cX1_init : ByteArray := prog_3_method_1_code
def yX1_init : MethodName := ⟨RX1, "<init>", "()V"⟩
abbrev cX1_span : ByteArray := prog_3_method_2_code
def yX1_span : MethodName := ⟨RX1, "span", "(LSightReducer$Line;LSightReducer$Line;LSightReducer$Line;)V"⟩
abbrev cX1_squareMiles : ByteArray := prog_3_method_3_code
def yX1_squareMiles : MethodName := ⟨RX1, "squareMiles", "()I"⟩
abbrev cX1_middleEast : ByteArray := prog_3_method_4_code
def yX1_middleEast : MethodName := ⟨RX1, "middleEast", "()I"⟩
abbrev cX1_middleNorth : ByteArray := prog_3_method_5_code
def yX1_middleNorth : MethodName := ⟨RX1, "middleNorth", "()I"⟩
abbrev cX1_holds : ByteArray := prog_3_method_6_code
def yX1_holds : MethodName := ⟨RX1, "holds", "(II)Z"⟩
abbrev cX1_isBeside : ByteArray := prog_3_method_7_code
def yX1_isBeside : MethodName := ⟨RX1, "isBeside", "(LSightReducer$Place;LSightReducer$Place;LSightReducer$Place;II)Z"⟩
abbrev cX1_turn : ByteArray := prog_3_method_8_code
def yX1_turn : MethodName := ⟨RX1, "turn", "(LSightReducer$Place;LSightReducer$Place;II)J"⟩
def RX2 : String := "SightReducer$History"
def TX2 : u_T := fun k => match k with
  | 0 => ("SightReducer$History", "ring", "[LSightReducer$Log;", true)
  | 1 => ("SightReducer$History", "next", "I", false)
  | _ => ("SightReducer$History", "count", "I", false)
def tyX2 : Nat → FieldType := fun k => match k with
  | 0 => .array (.object "SightReducer$Log")
  | 1 => .int
  | _ => .int
theorem nmX2 : ∀ a, a < 3 → ∀ b, b < 3 → a ≠ b → (TX2 a).2.1 ≠ (TX2 b).2.1 := by decide +kernel
theorem tyX2_ok : ∀ k, k < 3 → parseFieldDescriptor (TX2 k).2.2.1 = some (tyX2 k) := by decide +kernel
abbrev cX2_init : ByteArray := prog_4_method_1_code
def yX2_init : MethodName := ⟨RX2, "<init>", "()V"⟩
abbrev cX2_clear : ByteArray := prog_4_method_2_code
def yX2_clear : MethodName := ⟨RX2, "clear", "()V"⟩
abbrev cX2_remember : ByteArray := prog_4_method_3_code
def yX2_remember : MethodName := ⟨RX2, "remember", "(LSightReducer$Log;)V"⟩
abbrev cX2_bringBack : ByteArray := prog_4_method_4_code
def yX2_bringBack : MethodName := ⟨RX2, "bringBack", "(LSightReducer$Log;)V"⟩
abbrev cX2_logAt : ByteArray := prog_4_method_5_code
def yX2_logAt : MethodName := ⟨RX2, "logAt", "(I)LSightReducer$Log;"⟩
abbrev cX2_copyLog : ByteArray := prog_4_method_6_code
def yX2_copyLog : MethodName := ⟨RX2, "copyLog", "(LSightReducer$Log;LSightReducer$Log;)V"⟩
def RX3 : String := "SightReducer$Line"
def TX3 : u_T := fun k => match k with
  | 0 => ("SightReducer$Line", "apparent", "I", false)
  | 1 => ("SightReducer$Line", "observed", "I", false)
  | 2 => ("SightReducer$Line", "expected", "I", false)
  | 3 => ("SightReducer$Line", "azimuth", "I", false)
  | 4 => ("SightReducer$Line", "intercept", "I", false)
  | 5 => ("SightReducer$Line", "offset", "I", false)
  | 6 => ("SightReducer$Line", "carriedOffset", "I", false)
  | 7 => ("SightReducer$Line", "sineOfAzimuth", "I", false)
  | _ => ("SightReducer$Line", "cosineOfAzimuth", "I", false)
def tyX3 : Nat → FieldType := fun k => match k with
  | 0 => .int
  | 1 => .int
  | 2 => .int
  | 3 => .int
  | 4 => .int
  | 5 => .int
  | 6 => .int
  | 7 => .int
  | _ => .int
theorem nmX3 : ∀ a, a < 9 → ∀ b, b < 9 → a ≠ b → (TX3 a).2.1 ≠ (TX3 b).2.1 := by decide +kernel
theorem tyX3_ok : ∀ k, k < 9 → parseFieldDescriptor (TX3 k).2.2.1 = some (tyX3 k) := by decide +kernel
abbrev cX3_init : ByteArray := prog_5_method_1_code
def yX3_init : MethodName := ⟨RX3, "<init>", "()V"⟩
abbrev cX3_reduce : ByteArray := prog_5_method_2_code
def yX3_reduce : MethodName := ⟨RX3, "reduce", "(LSightReducer$Plan;LSightReducer$Log;ILSightReducer$Ship;)V"⟩
abbrev cX3_carry : ByteArray := prog_5_method_3_code
def yX3_carry : MethodName := ⟨RX3, "carry", "(II)V"⟩
abbrev cX3_missedBy : ByteArray := prog_5_method_4_code
def yX3_missedBy : MethodName := ⟨RX3, "missedBy", "(LSightReducer$Place;)I"⟩
abbrev cX3_along : ByteArray := prog_5_method_5_code
def yX3_along : MethodName := ⟨RX3, "along", "(JJ)I"⟩
abbrev cX3_expectedAltitude : ByteArray := prog_5_method_6_code
def yX3_expectedAltitude : MethodName := ⟨RX3, "expectedAltitude", "(III)I"⟩
abbrev cX3_azimuthTo : ByteArray := prog_5_method_7_code
def yX3_azimuthTo : MethodName := ⟨RX3, "azimuthTo", "(IIII)I"⟩
def RX4 : String := "SightReducer$Log"
def TX4 : u_T := fun k => match k with
  | 0 => ("SightReducer$Log", "height", "I", false)
  | 1 => ("SightReducer$Log", "index", "I", false)
  | 2 => ("SightReducer$Log", "set", "I", false)
  | 3 => ("SightReducer$Log", "drift", "I", false)
  | 4 => ("SightReducer$Log", "legCount", "I", false)
  | 5 => ("SightReducer$Log", "legTimes", "[I", true)
  | 6 => ("SightReducer$Log", "legCourses", "[I", true)
  | 7 => ("SightReducer$Log", "legSpeeds", "[I", true)
  | 8 => ("SightReducer$Log", "sightCount", "I", false)
  | 9 => ("SightReducer$Log", "sightBodies", "[I", true)
  | 10 => ("SightReducer$Log", "sightTimes", "[I", true)
  | _ => ("SightReducer$Log", "sightAltitudes", "[I", true)
def tyX4 : Nat → FieldType := fun k => match k with
  | 0 => .int
  | 1 => .int
  | 2 => .int
  | 3 => .int
  | 4 => .int
  | 5 => .array .int
  | 6 => .array .int
  | 7 => .array .int
  | 8 => .int
  | 9 => .array .int
  | 10 => .array .int
  | _ => .array .int
theorem nmX4 : ∀ a, a < 12 → ∀ b, b < 12 → a ≠ b → (TX4 a).2.1 ≠ (TX4 b).2.1 := by decide +kernel
theorem tyX4_ok : ∀ k, k < 12 → parseFieldDescriptor (TX4 k).2.2.1 = some (tyX4 k) := by decide +kernel
abbrev cX4_init : ByteArray := prog_6_method_1_code
def yX4_init : MethodName := ⟨RX4, "<init>", "()V"⟩
abbrev cX4_clear : ByteArray := prog_6_method_2_code
def yX4_clear : MethodName := ⟨RX4, "clear", "()V"⟩
abbrev cX4_copyFrom : ByteArray := prog_6_method_3_code
def yX4_copyFrom : MethodName := ⟨RX4, "copyFrom", "(LSightReducer$Log;)V"⟩
abbrev cX4_dip : ByteArray := prog_6_method_4_code
def yX4_dip : MethodName := ⟨RX4, "dip", "()I"⟩
abbrev cX4_lastLegTime : ByteArray := prog_6_method_5_code
def yX4_lastLegTime : MethodName := ⟨RX4, "lastLegTime", "()I"⟩
abbrev cX4_addLeg : ByteArray := prog_6_method_6_code
def yX4_addLeg : MethodName := ⟨RX4, "addLeg", "(III)V"⟩
abbrev cX4_addSight : ByteArray := prog_6_method_7_code
def yX4_addSight : MethodName := ⟨RX4, "addSight", "(III)V"⟩
abbrev cX4_removeSight : ByteArray := prog_6_method_8_code
def yX4_removeSight : MethodName := ⟨RX4, "removeSight", "(I)V"⟩
abbrev cX4_sightsOf : ByteArray := prog_6_method_9_code
def yX4_sightsOf : MethodName := ⟨RX4, "sightsOf", "(I)I"⟩
def RX5 : String := "SightReducer$Place"
def TX5 : u_T := fun k => match k with
  | 0 => ("SightReducer$Place", "isKnown", "Z", false)
  | 1 => ("SightReducer$Place", "east", "I", false)
  | _ => ("SightReducer$Place", "north", "I", false)
def tyX5 : Nat → FieldType := fun k => match k with
  | 0 => .boolean
  | 1 => .int
  | _ => .int
theorem nmX5 : ∀ a, a < 3 → ∀ b, b < 3 → a ≠ b → (TX5 a).2.1 ≠ (TX5 b).2.1 := by decide +kernel
theorem tyX5_ok : ∀ k, k < 3 → parseFieldDescriptor (TX5 k).2.2.1 = some (tyX5 k) := by decide +kernel
abbrev cX5_init : ByteArray := prog_7_method_1_code
def yX5_init : MethodName := ⟨RX5, "<init>", "()V"⟩
abbrev cX5_putAt : ByteArray := prog_7_method_2_code
def yX5_putAt : MethodName := ⟨RX5, "putAt", "(JJ)V"⟩
abbrev cX5_cross : ByteArray := prog_7_method_3_code
def yX5_cross : MethodName := ⟨RX5, "cross", "(LSightReducer$Line;LSightReducer$Line;)V"⟩
def RX6 : String := "SightReducer$Plan"
def TX6 : u_T := fun k => match k with
  | 0 => ("SightReducer$Plan", "latitude", "I", false)
  | 1 => ("SightReducer$Plan", "longitude", "I", false)
  | 2 => ("SightReducer$Plan", "bodyCount", "I", false)
  | 3 => ("SightReducer$Plan", "declinations", "[I", true)
  | 4 => ("SightReducer$Plan", "hourAngles", "[I", true)
  | 5 => ("SightReducer$Plan", "nameLengths", "[I", true)
  | _ => ("SightReducer$Plan", "letters", "[I", true)
def tyX6 : Nat → FieldType := fun k => match k with
  | 0 => .int
  | 1 => .int
  | 2 => .int
  | 3 => .array .int
  | 4 => .array .int
  | 5 => .array .int
  | _ => .array .int
theorem nmX6 : ∀ a, a < 7 → ∀ b, b < 7 → a ≠ b → (TX6 a).2.1 ≠ (TX6 b).2.1 := by decide +kernel
theorem tyX6_ok : ∀ k, k < 7 → parseFieldDescriptor (TX6 k).2.2.1 = some (tyX6 k) := by decide +kernel
abbrev cX6_init : ByteArray := prog_8_method_1_code
def yX6_init : MethodName := ⟨RX6, "<init>", "()V"⟩
abbrev cX6_clear : ByteArray := prog_8_method_2_code
def yX6_clear : MethodName := ⟨RX6, "clear", "()V"⟩
abbrev cX6_copyFrom : ByteArray := prog_8_method_3_code
def yX6_copyFrom : MethodName := ⟨RX6, "copyFrom", "(LSightReducer$Plan;)V"⟩
abbrev cX6_nameLetter : ByteArray := prog_8_method_4_code
def yX6_nameLetter : MethodName := ⟨RX6, "nameLetter", "(II)I"⟩
abbrev cX6_putName : ByteArray := prog_8_method_5_code
def yX6_putName : MethodName := ⟨RX6, "putName", "(ILSightReducer$Tokens;)V"⟩
abbrev cX6_bodyNamed : ByteArray := prog_8_method_6_code
def yX6_bodyNamed : MethodName := ⟨RX6, "bodyNamed", "(LSightReducer$Tokens;)I"⟩
abbrev cX6_isNamed : ByteArray := prog_8_method_7_code
def yX6_isNamed : MethodName := ⟨RX6, "isNamed", "(ILSightReducer$Tokens;)Z"⟩
def RX7 : String := "SightReducer$QueryReader"
def TX7 : u_T := fun k => match k with
  | 0 => ("SightReducer$QueryReader", "tokens", "LSightReducer$Tokens;", true)
  | 1 => ("SightReducer$QueryReader", "log", "LSightReducer$Log;", true)
  | 2 => ("SightReducer$QueryReader", "chart", "LSightReducer$Chart;", true)
  | 3 => ("SightReducer$QueryReader", "left", "[I", true)
  | _ => ("SightReducer$QueryReader", "right", "[I", true)
def tyX7 : Nat → FieldType := fun k => match k with
  | 0 => .object "SightReducer$Tokens"
  | 1 => .object "SightReducer$Log"
  | 2 => .object "SightReducer$Chart"
  | 3 => .array .int
  | _ => .array .int
theorem nmX7 : ∀ a, a < 5 → ∀ b, b < 5 → a ≠ b → (TX7 a).2.1 ≠ (TX7 b).2.1 := by decide +kernel
theorem tyX7_ok : ∀ k, k < 5 → parseFieldDescriptor (TX7 k).2.2.1 = some (tyX7 k) := by decide +kernel
abbrev cX7_init : ByteArray := prog_9_method_1_code
def yX7_init : MethodName := ⟨RX7, "<init>", "(LSightReducer$Tokens;LSightReducer$Log;LSightReducer$Chart;)V"⟩
abbrev cX7_readTest : ByteArray := prog_9_method_2_code
def yX7_readTest : MethodName := ⟨RX7, "readTest", "(I)I"⟩
abbrev cX7_readConjunction : ByteArray := prog_9_method_3_code
def yX7_readConjunction : MethodName := ⟨RX7, "readConjunction", "(I)I"⟩
abbrev cX7_readFactor : ByteArray := prog_9_method_4_code
def yX7_readFactor : MethodName := ⟨RX7, "readFactor", "(I)I"⟩
abbrev cX7_readComparison : ByteArray := prog_9_method_5_code
def yX7_readComparison : MethodName := ⟨RX7, "readComparison", "()I"⟩
abbrev cX7_readValue : ByteArray := prog_9_method_6_code
def yX7_readValue : MethodName := ⟨RX7, "readValue", "([II)V"⟩
abbrev cX7_propertyHere : ByteArray := prog_9_method_7_code
def yX7_propertyHere : MethodName := ⟨RX7, "propertyHere", "()I"⟩
abbrev cX7_propertyOf : ByteArray := prog_9_method_8_code
def yX7_propertyOf : MethodName := ⟨RX7, "propertyOf", "(II)I"⟩
def RX8 : String := "SightReducer$Ship"
def TX8 : u_T := fun k => match k with
  | 0 => ("SightReducer$Ship", "east", "I", false)
  | 1 => ("SightReducer$Ship", "north", "I", false)
  | 2 => ("SightReducer$Ship", "latitude", "I", false)
  | _ => ("SightReducer$Ship", "longitude", "I", false)
def tyX8 : Nat → FieldType := fun k => match k with
  | 0 => .int
  | 1 => .int
  | 2 => .int
  | _ => .int
theorem nmX8 : ∀ a, a < 4 → ∀ b, b < 4 → a ≠ b → (TX8 a).2.1 ≠ (TX8 b).2.1 := by decide +kernel
theorem tyX8_ok : ∀ k, k < 4 → parseFieldDescriptor (TX8 k).2.2.1 = some (tyX8 k) := by decide +kernel
abbrev cX8_init : ByteArray := prog_10_method_1_code
def yX8_init : MethodName := ⟨RX8, "<init>", "()V"⟩
abbrev cX8_sailTo : ByteArray := prog_10_method_2_code
def yX8_sailTo : MethodName := ⟨RX8, "sailTo", "(LSightReducer$Log;I)V"⟩
abbrev cX8_move : ByteArray := prog_10_method_3_code
def yX8_move : MethodName := ⟨RX8, "move", "(III)V"⟩
abbrev cX8_reckonFrom : ByteArray := prog_10_method_4_code
def yX8_reckonFrom : MethodName := ⟨RX8, "reckonFrom", "(LSightReducer$Plan;)V"⟩
def RX9 : String := "SightReducer$TextReader"
def TX9 : u_T := fun k => match k with
  | 0 => ("SightReducer$TextReader", "tokens", "LSightReducer$Tokens;", true)
  | 1 => ("SightReducer$TextReader", "plan", "LSightReducer$Plan;", true)
  | _ => ("SightReducer$TextReader", "log", "LSightReducer$Log;", true)
def tyX9 : Nat → FieldType := fun k => match k with
  | 0 => .object "SightReducer$Tokens"
  | 1 => .object "SightReducer$Plan"
  | _ => .object "SightReducer$Log"
theorem nmX9 : ∀ a, a < 3 → ∀ b, b < 3 → a ≠ b → (TX9 a).2.1 ≠ (TX9 b).2.1 := by decide +kernel
theorem tyX9_ok : ∀ k, k < 3 → parseFieldDescriptor (TX9 k).2.2.1 = some (tyX9 k) := by decide +kernel
abbrev cX9_init : ByteArray := prog_11_method_1_code
def yX9_init : MethodName := ⟨RX9, "<init>", "(LSightReducer$Tokens;)V"⟩
abbrev cX9_readText : ByteArray := prog_11_method_2_code
def yX9_readText : MethodName := ⟨RX9, "readText", "()V"⟩
abbrev cX9_readClause : ByteArray := prog_11_method_3_code
def yX9_readClause : MethodName := ⟨RX9, "readClause", "()V"⟩
abbrev cX9_readStart : ByteArray := prog_11_method_4_code
def yX9_readStart : MethodName := ⟨RX9, "readStart", "()V"⟩
abbrev cX9_readBody : ByteArray := prog_11_method_5_code
def yX9_readBody : MethodName := ⟨RX9, "readBody", "()V"⟩
abbrev cX9_readLeg : ByteArray := prog_11_method_6_code
def yX9_readLeg : MethodName := ⟨RX9, "readLeg", "()V"⟩
abbrev cX9_readSight : ByteArray := prog_11_method_7_code
def yX9_readSight : MethodName := ⟨RX9, "readSight", "()V"⟩
def RX10 : String := "SightReducer$Tokens"
def TX10 : u_T := fun k => match k with
  | 0 => ("SightReducer$Tokens", "bytes", "[B", true)
  | 1 => ("SightReducer$Tokens", "count", "I", false)
  | 2 => ("SightReducer$Tokens", "code", "I", false)
  | 3 => ("SightReducer$Tokens", "errorAt", "I", false)
  | 4 => ("SightReducer$Tokens", "kind", "I", false)
  | 5 => ("SightReducer$Tokens", "number", "I", false)
  | 6 => ("SightReducer$Tokens", "start", "I", false)
  | 7 => ("SightReducer$Tokens", "next", "I", false)
  | _ => ("SightReducer$Tokens", "end", "I", false)
def tyX10 : Nat → FieldType := fun k => match k with
  | 0 => .array .byte
  | 1 => .int
  | 2 => .int
  | 3 => .int
  | 4 => .int
  | 5 => .int
  | 6 => .int
  | 7 => .int
  | _ => .int
theorem nmX10 : ∀ a, a < 9 → ∀ b, b < 9 → a ≠ b → (TX10 a).2.1 ≠ (TX10 b).2.1 := by decide +kernel
theorem tyX10_ok : ∀ k, k < 9 → parseFieldDescriptor (TX10 k).2.2.1 = some (tyX10 k) := by decide +kernel
abbrev cX10_init : ByteArray := prog_12_method_1_code
def yX10_init : MethodName := ⟨RX10, "<init>", "()V"⟩
abbrev cX10_append : ByteArray := prog_12_method_2_code
def yX10_append : MethodName := ⟨RX10, "append", "(I)V"⟩
abbrev cX10_begin : ByteArray := prog_12_method_3_code
def yX10_begin : MethodName := ⟨RX10, "begin", "(I)V"⟩
abbrev cX10_advance : ByteArray := prog_12_method_4_code
def yX10_advance : MethodName := ⟨RX10, "advance", "()V"⟩
abbrev cX10_fail : ByteArray := prog_12_method_5_code
def yX10_fail : MethodName := ⟨RX10, "fail", "(I)V"⟩
abbrev cX10_isEnd : ByteArray := prog_12_method_6_code
def yX10_isEnd : MethodName := ⟨RX10, "isEnd", "()Z"⟩
abbrev cX10_isAnyWord : ByteArray := prog_12_method_7_code
def yX10_isAnyWord : MethodName := ⟨RX10, "isAnyWord", "()Z"⟩
abbrev cX10_isWord : ByteArray := prog_12_method_8_code
def yX10_isWord : MethodName := ⟨RX10, "isWord", "(Ljava/lang/String;)Z"⟩
abbrev cX10_wordLength : ByteArray := prog_12_method_9_code
def yX10_wordLength : MethodName := ⟨RX10, "wordLength", "()I"⟩
abbrev cX10_wordLetter : ByteArray := prog_12_method_10_code
def yX10_wordLetter : MethodName := ⟨RX10, "wordLetter", "(I)I"⟩
abbrev cX10_isSign : ByteArray := prog_12_method_11_code
def yX10_isSign : MethodName := ⟨RX10, "isSign", "(C)Z"⟩
abbrev cX10_needSign : ByteArray := prog_12_method_12_code
def yX10_needSign : MethodName := ⟨RX10, "needSign", "(C)V"⟩
abbrev cX10_needEnd : ByteArray := prog_12_method_13_code
def yX10_needEnd : MethodName := ⟨RX10, "needEnd", "()V"⟩
abbrev cX10_numberHere : ByteArray := prog_12_method_14_code
def yX10_numberHere : MethodName := ⟨RX10, "numberHere", "(II)I"⟩
abbrev cX10_takeNumber : ByteArray := prog_12_method_15_code
def yX10_takeNumber : MethodName := ⟨RX10, "takeNumber", "(II)I"⟩
abbrev cX10_takeSigned : ByteArray := prog_12_method_16_code
def yX10_takeSigned : MethodName := ⟨RX10, "takeSigned", "(I)I"⟩
abbrev cX10_byteAt : ByteArray := prog_12_method_17_code
def yX10_byteAt : MethodName := ⟨RX10, "byteAt", "(I)I"⟩
abbrev cX10_isBlank : ByteArray := prog_12_method_18_code
def yX10_isBlank : MethodName := ⟨RX10, "isBlank", "(I)Z"⟩
abbrev cX10_isLetter : ByteArray := prog_12_method_19_code
def yX10_isLetter : MethodName := ⟨RX10, "isLetter", "(I)Z"⟩
abbrev cX10_isDigit : ByteArray := prog_12_method_20_code
def yX10_isDigit : MethodName := ⟨RX10, "isDigit", "(I)Z"⟩
def RX11 : String := "SightReducer"
def TX11 : u_T := fun k => match k with
  | 0 => ("SightReducer", "tokens", "LSightReducer$Tokens;", true)
  | 1 => ("SightReducer", "plan", "LSightReducer$Plan;", true)
  | 2 => ("SightReducer", "log", "LSightReducer$Log;", true)
  | 3 => ("SightReducer", "saved", "LSightReducer$Log;", true)
  | 4 => ("SightReducer", "isSaved", "Z", false)
  | 5 => ("SightReducer", "history", "LSightReducer$History;", true)
  | 6 => ("SightReducer", "chart", "LSightReducer$Chart;", true)
  | 7 => ("SightReducer", "textReader", "LSightReducer$TextReader;", true)
  | 8 => ("SightReducer", "queryReader", "LSightReducer$QueryReader;", true)
  | _ => ("SightReducer", "formatted", "Ljava/lang/StringBuilder;", true)
def tyX11 : Nat → FieldType := fun k => match k with
  | 0 => .object "SightReducer$Tokens"
  | 1 => .object "SightReducer$Plan"
  | 2 => .object "SightReducer$Log"
  | 3 => .object "SightReducer$Log"
  | 4 => .boolean
  | 5 => .object "SightReducer$History"
  | 6 => .object "SightReducer$Chart"
  | 7 => .object "SightReducer$TextReader"
  | 8 => .object "SightReducer$QueryReader"
  | _ => .object "java/lang/StringBuilder"
theorem nmX11 : ∀ a, a < 10 → ∀ b, b < 10 → a ≠ b → (TX11 a).2.1 ≠ (TX11 b).2.1 := by decide +kernel
theorem tyX11_ok : ∀ k, k < 10 → parseFieldDescriptor (TX11 k).2.2.1 = some (tyX11 k) := by decide +kernel
abbrev cX11_init : ByteArray := prog_1_method_1_code
def yX11_init : MethodName := ⟨RX11, "<init>", "()V"⟩
abbrev cX11_feed : ByteArray := prog_1_method_2_code
def yX11_feed : MethodName := ⟨RX11, "feed", "(IIIII)I"⟩
abbrev cX11_load : ByteArray := prog_1_method_3_code
def yX11_load : MethodName := ⟨RX11, "load", "(I)I"⟩
abbrev cX11_query : ByteArray := prog_1_method_5_code
def yX11_query : MethodName := ⟨RX11, "query", "(I)I"⟩
abbrev cX11_sine : ByteArray := prog_1_method_6_code
def yX11_sine : MethodName := ⟨RX11, "sine", "(I)I"⟩
abbrev cX11_told : ByteArray := prog_1_method_8_code
def yX11_told : MethodName := ⟨RX11, "told", "(I)I"⟩
abbrev cX11_body : ByteArray := prog_1_method_9_code
def yX11_body : MethodName := ⟨RX11, "body", "(II)I"⟩
abbrev cX11_leg : ByteArray := prog_1_method_10_code
def yX11_leg : MethodName := ⟨RX11, "leg", "(II)I"⟩
abbrev cX11_displacement : ByteArray := prog_1_method_11_code
def yX11_displacement : MethodName := ⟨RX11, "displacement", "(IZ)I"⟩
abbrev cX11_sight : ByteArray := prog_1_method_13_code
def yX11_sight : MethodName := ⟨RX11, "sight", "(II)I"⟩
abbrev cX11_carried : ByteArray := prog_1_method_14_code
def yX11_carried : MethodName := ⟨RX11, "carried", "(II)I"⟩
abbrev cX11_crossing : ByteArray := prog_1_method_15_code
def yX11_crossing : MethodName := ⟨RX11, "crossing", "(IIIZ)I"⟩
abbrev cX11_hat : ByteArray := prog_1_method_16_code
def yX11_hat : MethodName := ⟨RX11, "hat", "(IIIII)I"⟩
abbrev cX11_smallestHat : ByteArray := prog_1_method_17_code
def yX11_smallestHat : MethodName := ⟨RX11, "smallestHat", "(I)I"⟩
abbrev cX11_isInside : ByteArray := prog_1_method_18_code
def yX11_isInside : MethodName := ⟨RX11, "isInside", "(IIIIII)Z"⟩
abbrev cX11_fix : ByteArray := prog_1_method_19_code
def yX11_fix : MethodName := ⟨RX11, "fix", "(IZ)I"⟩
abbrev cX11_residual : ByteArray := prog_1_method_20_code
def yX11_residual : MethodName := ⟨RX11, "residual", "(II)I"⟩
abbrev cX11_worst : ByteArray := prog_1_method_21_code
def yX11_worst : MethodName := ⟨RX11, "worst", "(I)I"⟩
abbrev cX11_offCourse : ByteArray := prog_1_method_22_code
def yX11_offCourse : MethodName := ⟨RX11, "offCourse", "(I)I"⟩
abbrev cX11_unknownCurrent : ByteArray := prog_1_method_23_code
def yX11_unknownCurrent : MethodName := ⟨RX11, "unknownCurrent", "(IZ)I"⟩
abbrev cX11_meanResidual : ByteArray := prog_1_method_24_code
def yX11_meanResidual : MethodName := ⟨RX11, "meanResidual", "(I)D"⟩
abbrev cX11_observe : ByteArray := prog_1_method_26_code
def yX11_observe : MethodName := ⟨RX11, "observe", "(III)I"⟩
abbrev cX11_drop : ByteArray := prog_1_method_27_code
def yX11_drop : MethodName := ⟨RX11, "drop", "(I)I"⟩
abbrev cX11_steer : ByteArray := prog_1_method_28_code
def yX11_steer : MethodName := ⟨RX11, "steer", "(III)I"⟩
abbrev cX11_setCurrent : ByteArray := prog_1_method_29_code
def yX11_setCurrent : MethodName := ⟨RX11, "setCurrent", "(II)I"⟩
abbrev cX11_correct : ByteArray := prog_1_method_30_code
def yX11_correct : MethodName := ⟨RX11, "correct", "(II)I"⟩
abbrev cX11_undoCount : ByteArray := prog_1_method_33_code
def yX11_undoCount : MethodName := ⟨RX11, "undoCount", "()I"⟩
abbrev cX11_undo : ByteArray := prog_1_method_34_code
def yX11_undo : MethodName := ⟨RX11, "undo", "()I"⟩
abbrev cX11_saveSnapshot : ByteArray := prog_1_method_35_code
def yX11_saveSnapshot : MethodName := ⟨RX11, "saveSnapshot", "()V"⟩
abbrev cX11_restoreSnapshot : ByteArray := prog_1_method_36_code
def yX11_restoreSnapshot : MethodName := ⟨RX11, "restoreSnapshot", "()Z"⟩
abbrev cX11_needTime : ByteArray := prog_1_method_37_code
def yX11_needTime : MethodName := ⟨RX11, "needTime", "(I)V"⟩
abbrev cX11_needAngle : ByteArray := prog_1_method_38_code
def yX11_needAngle : MethodName := ⟨RX11, "needAngle", "(I)V"⟩
abbrev cX11_needBody : ByteArray := prog_1_method_39_code
def yX11_needBody : MethodName := ⟨RX11, "needBody", "(I)V"⟩
abbrev cX11_needSight : ByteArray := prog_1_method_40_code
def yX11_needSight : MethodName := ⟨RX11, "needSight", "(I)V"⟩
abbrev cX11_needThreeSights : ByteArray := prog_1_method_41_code
def yX11_needThreeSights : MethodName := ⟨RX11, "needThreeSights", "(III)V"⟩
abbrev cX11_drawHat : ByteArray := prog_1_method_42_code
def yX11_drawHat : MethodName := ⟨RX11, "drawHat", "(IIII)V"⟩
abbrev cX11_down : ByteArray := prog_1_method_43_code
def yX11_down : MethodName := ⟨RX11, "down", "(JJ)J"⟩
abbrev cX11_product : ByteArray := prog_1_method_44_code
def yX11_product : MethodName := ⟨RX11, "product", "(JJ)J"⟩
abbrev cX11_limited : ByteArray := prog_1_method_45_code
def yX11_limited : MethodName := ⟨RX11, "limited", "(J)I"⟩
abbrev cX11_sineOf : ByteArray := prog_1_method_46_code
def yX11_sineOf : MethodName := ⟨RX11, "sineOf", "(I)I"⟩
abbrev cX11_cosineOf : ByteArray := prog_1_method_47_code
def yX11_cosineOf : MethodName := ⟨RX11, "cosineOf", "(I)I"⟩
abbrev cX11_arcOf : ByteArray := prog_1_method_48_code
def yX11_arcOf : MethodName := ⟨RX11, "arcOf", "(I)I"⟩
abbrev cX11_rootOf : ByteArray := prog_1_method_49_code
def yX11_rootOf : MethodName := ⟨RX11, "rootOf", "(J)I"⟩
abbrev cX11_longitudeOf : ByteArray := prog_1_method_50_code
def yX11_longitudeOf : MethodName := ⟨RX11, "longitudeOf", "(J)I"⟩
abbrev cX11_at : ByteArray := prog_1_method_51_code
def yX11_at : MethodName := ⟨RX11, "at", "([II)I"⟩
abbrev cX11_put : ByteArray := prog_1_method_52_code
def yX11_put : MethodName := ⟨RX11, "put", "([III)V"⟩
abbrev cX11_copyRow : ByteArray := prog_1_method_53_code
def yX11_copyRow : MethodName := ⟨RX11, "copyRow", "([I[I)V"⟩
def RX12 : String := "SightReducerLaw$Own"
def TX12 : u_T := fun k => match k with
  | 0 => ("SightReducerLaw$Own", "bodies", "I", false)
  | 1 => ("SightReducerLaw$Own", "legs", "I", false)
  | 2 => ("SightReducerLaw$Own", "sights", "I", false)
  | 3 => ("SightReducerLaw$Own", "lat", "I", false)
  | 4 => ("SightReducerLaw$Own", "lon", "I", false)
  | 5 => ("SightReducerLaw$Own", "eye", "I", false)
  | 6 => ("SightReducerLaw$Own", "index", "I", false)
  | 7 => ("SightReducerLaw$Own", "set", "I", false)
  | 8 => ("SightReducerLaw$Own", "drift", "I", false)
  | 9 => ("SightReducerLaw$Own", "body", "[[I", false)
  | 10 => ("SightReducerLaw$Own", "leg", "[[I", false)
  | _ => ("SightReducerLaw$Own", "sight", "[[I", false)
def tyX12 : Nat → FieldType := fun k => match k with
  | 0 => .int
  | 1 => .int
  | 2 => .int
  | 3 => .int
  | 4 => .int
  | 5 => .int
  | 6 => .int
  | 7 => .int
  | 8 => .int
  | 9 => .array (.array .int)
  | 10 => .array (.array .int)
  | _ => .array (.array .int)
theorem nmX12 : ∀ a, a < 12 → ∀ b, b < 12 → a ≠ b → (TX12 a).2.1 ≠ (TX12 b).2.1 := by decide +kernel
theorem tyX12_ok : ∀ k, k < 12 → parseFieldDescriptor (TX12 k).2.2.1 = some (tyX12 k) := by decide +kernel
abbrev cX12_init : ByteArray := prog_14_method_1_code
def yX12_init : MethodName := ⟨RX12, "<init>", "()V"⟩
abbrev cX12_dip : ByteArray := prog_14_method_12_code
def yX12_dip : MethodName := ⟨RX12, "dip", "()I"⟩
def RX13 : String := "SightReducerModel"
def TX13 : u_T := fun k => match k with
  | _ => ("", "", "", false)
def tyX13 : Nat → FieldType := fun k => match k with
  | _ => .int
theorem nmX13 : ∀ a, a < 0 → ∀ b, b < 0 → a ≠ b → (TX13 a).2.1 ≠ (TX13 b).2.1 := by decide +kernel
theorem tyX13_ok : ∀ k, k < 0 → parseFieldDescriptor (TX13 k).2.2.1 = some (tyX13 k) := by decide +kernel
def RJx145de : String := "java/io/Serializable"
def TJx145de : u_T := fun k => match k with
  | _ => ("", "", "", false)
def tyJx145de : Nat → FieldType := fun k => match k with
  | _ => .int
theorem nmJx145de : ∀ a, a < 0 → ∀ b, b < 0 → a ≠ b → (TJx145de a).2.1 ≠ (TJx145de b).2.1 := by decide +kernel
theorem tyJx145de_ok : ∀ k, k < 0 → parseFieldDescriptor (TJx145de k).2.2.1 = some (tyJx145de k) := by decide +kernel
def RJ5 : String := "java/lang/AbstractStringBuilder"
def TJ5 : u_T := fun k => match k with
  | _ => ("", "", "", false)
def tyJ5 : Nat → FieldType := fun k => match k with
  | _ => .int
theorem nmJ5 : ∀ a, a < 0 → ∀ b, b < 0 → a ≠ b → (TJ5 a).2.1 ≠ (TJ5 b).2.1 := by decide +kernel
theorem tyJ5_ok : ∀ k, k < 0 → parseFieldDescriptor (TJ5 k).2.2.1 = some (tyJ5 k) := by decide +kernel
abbrev cJ5_init_d00df : ByteArray := prog_17_method_2_code
def yJ5_init_d00df : MethodName := ⟨RJ5, "<init>", "(I)V"⟩
def RJx2cfe8 : String := "java/lang/Appendable"
def TJx2cfe8 : u_T := fun k => match k with
  | _ => ("", "", "", false)
def tyJx2cfe8 : Nat → FieldType := fun k => match k with
  | _ => .int
theorem nmJx2cfe8 : ∀ a, a < 0 → ∀ b, b < 0 → a ≠ b → (TJx2cfe8 a).2.1 ≠ (TJx2cfe8 b).2.1 := by decide +kernel
theorem tyJx2cfe8_ok : ∀ k, k < 0 → parseFieldDescriptor (TJx2cfe8 k).2.2.1 = some (tyJx2cfe8 k) := by decide +kernel
def RJx9f9b0 : String := "java/lang/CharSequence"
def TJx9f9b0 : u_T := fun k => match k with
  | _ => ("", "", "", false)
def tyJx9f9b0 : Nat → FieldType := fun k => match k with
  | _ => .int
theorem nmJx9f9b0 : ∀ a, a < 0 → ∀ b, b < 0 → a ≠ b → (TJx9f9b0 a).2.1 ≠ (TJx9f9b0 b).2.1 := by decide +kernel
theorem tyJx9f9b0_ok : ∀ k, k < 0 → parseFieldDescriptor (TJx9f9b0 k).2.2.1 = some (tyJx9f9b0 k) := by decide +kernel
def RJxb160c : String := "java/lang/Comparable"
def TJxb160c : u_T := fun k => match k with
  | _ => ("", "", "", false)
def tyJxb160c : Nat → FieldType := fun k => match k with
  | _ => .int
theorem nmJxb160c : ∀ a, a < 0 → ∀ b, b < 0 → a ≠ b → (TJxb160c a).2.1 ≠ (TJxb160c b).2.1 := by decide +kernel
theorem tyJxb160c_ok : ∀ k, k < 0 → parseFieldDescriptor (TJxb160c k).2.2.1 = some (tyJxb160c k) := by decide +kernel
def RJxe99ae : String := "java/lang/Double"
def TJxe99ae : u_T := fun k => match k with
  | _ => ("", "", "", false)
def tyJxe99ae : Nat → FieldType := fun k => match k with
  | _ => .int
theorem nmJxe99ae : ∀ a, a < 0 → ∀ b, b < 0 → a ≠ b → (TJxe99ae a).2.1 ≠ (TJxe99ae b).2.1 := by decide +kernel
theorem tyJxe99ae_ok : ∀ k, k < 0 → parseFieldDescriptor (TJxe99ae k).2.2.1 = some (tyJxe99ae k) := by decide +kernel
def RJ6 : String := "java/lang/Integer"
def TJ6 : u_T := fun k => match k with
  | _ => ("", "", "", false)
def tyJ6 : Nat → FieldType := fun k => match k with
  | _ => .int
theorem nmJ6 : ∀ a, a < 0 → ∀ b, b < 0 → a ≠ b → (TJ6 a).2.1 ≠ (TJ6 b).2.1 := by decide +kernel
theorem tyJ6_ok : ∀ k, k < 0 → parseFieldDescriptor (TJ6 k).2.2.1 = some (tyJ6 k) := by decide +kernel
abbrev cJ6_compare_7cf53 : ByteArray := prog_24_method_40_code
def yJ6_compare_7cf53 : MethodName := ⟨RJ6, "compare", "(II)I"⟩
abbrev cJ6_numberOfTrailingZeros_0f7a4 : ByteArray := prog_24_method_48_code
def yJ6_numberOfTrailingZeros_0f7a4 : MethodName := ⟨RJ6, "numberOfTrailingZeros", "(I)I"⟩
abbrev cJ6_bitCount_0f7a4 : ByteArray := prog_24_method_49_code
def yJ6_bitCount_0f7a4 : MethodName := ⟨RJ6, "bitCount", "(I)I"⟩
def RJ9 : String := "java/lang/Math"
def TJ9 : u_T := fun k => match k with
  | _ => ("", "", "", false)
def tyJ9 : Nat → FieldType := fun k => match k with
  | _ => .int
theorem nmJ9 : ∀ a, a < 0 → ∀ b, b < 0 → a ≠ b → (TJ9 a).2.1 ≠ (TJ9 b).2.1 := by decide +kernel
theorem tyJ9_ok : ∀ k, k < 0 → parseFieldDescriptor (TJ9 k).2.2.1 = some (tyJ9 k) := by decide +kernel
abbrev cJ9_floorDiv_f86c9 : ByteArray := prog_25_method_49_code
def yJ9_floorDiv_f86c9 : MethodName := ⟨RJ9, "floorDiv", "(JJ)J"⟩
abbrev cJ9_floorMod_7cf53 : ByteArray := prog_25_method_50_code
def yJ9_floorMod_7cf53 : MethodName := ⟨RJ9, "floorMod", "(II)I"⟩
abbrev cJ9_floorMod_f86c9 : ByteArray := prog_25_method_52_code
def yJ9_floorMod_f86c9 : MethodName := ⟨RJ9, "floorMod", "(JJ)J"⟩
abbrev cJ9_abs_0f7a4 : ByteArray := prog_25_method_59_code
def yJ9_abs_0f7a4 : MethodName := ⟨RJ9, "abs", "(I)I"⟩
abbrev cJ9_abs_067f4 : ByteArray := prog_25_method_61_code
def yJ9_abs_067f4 : MethodName := ⟨RJ9, "abs", "(J)J"⟩
abbrev cJ9_abs_294c1 : ByteArray := prog_25_method_64_code
def yJ9_abs_294c1 : MethodName := ⟨RJ9, "abs", "(D)D"⟩
abbrev cJ9_max_f86c9 : ByteArray := prog_25_method_66_code
def yJ9_max_f86c9 : MethodName := ⟨RJ9, "max", "(JJ)J"⟩
abbrev cJ9_min_7cf53 : ByteArray := prog_25_method_69_code
def yJ9_min_7cf53 : MethodName := ⟨RJ9, "min", "(II)I"⟩
abbrev cJ9_min_f86c9 : ByteArray := prog_25_method_70_code
def yJ9_min_f86c9 : MethodName := ⟨RJ9, "min", "(JJ)J"⟩
def RJxd2413 : String := "java/lang/Number"
def TJxd2413 : u_T := fun k => match k with
  | _ => ("", "", "", false)
def tyJxd2413 : Nat → FieldType := fun k => match k with
  | _ => .int
theorem nmJxd2413 : ∀ a, a < 0 → ∀ b, b < 0 → a ≠ b → (TJxd2413 a).2.1 ≠ (TJxd2413 b).2.1 := by decide +kernel
theorem tyJxd2413_ok : ∀ k, k < 0 → parseFieldDescriptor (TJxd2413 k).2.2.1 = some (tyJxd2413 k) := by decide +kernel
def RJ0 : String := "java/lang/String"
def TJ0 : u_T := fun k => match k with
  | _ => ("", "", "", false)
def tyJ0 : Nat → FieldType := fun k => match k with
  | _ => .int
theorem nmJ0 : ∀ a, a < 0 → ∀ b, b < 0 → a ≠ b → (TJ0 a).2.1 ≠ (TJ0 b).2.1 := by decide +kernel
theorem tyJ0_ok : ∀ k, k < 0 → parseFieldDescriptor (TJ0 k).2.2.1 = some (tyJ0 k) := by decide +kernel
abbrev cJ0_length_8abf5 : ByteArray := prog_28_method_54_code
def yJ0_length_8abf5 : MethodName := ⟨RJ0, "length", "()I"⟩
abbrev cJ0_charAt_5068e : ByteArray := prog_28_method_56_code
def yJ0_charAt_5068e : MethodName := ⟨RJ0, "charAt", "(I)C"⟩
abbrev cJ0_coder_7d493 : ByteArray := prog_28_method_152_code
def yJ0_coder_7d493 : MethodName := ⟨RJ0, "coder", "()B"⟩
abbrev cJ0_isLatin1_aae02 : ByteArray := prog_28_method_154_code
def yJ0_isLatin1_aae02 : MethodName := ⟨RJ0, "isLatin1", "()Z"⟩
abbrev cJ0_checkIndex_df160 : ByteArray := prog_28_method_155_code
def yJ0_checkIndex_df160 : MethodName := ⟨RJ0, "checkIndex", "(II)V"⟩
def RJ4 : String := "java/lang/StringBuilder"
def TJ4 : u_T := fun k => match k with
  | 0 => ("java/lang/AbstractStringBuilder", "value", "[B", false)
  | 1 => ("java/lang/AbstractStringBuilder", "coder", "B", false)
  | 2 => ("java/lang/AbstractStringBuilder", "maybeLatin1", "Z", false)
  | _ => ("java/lang/AbstractStringBuilder", "count", "I", false)
def tyJ4 : Nat → FieldType := fun k => match k with
  | 0 => .array .byte
  | 1 => .byte
  | 2 => .boolean
  | _ => .int
theorem nmJ4 : ∀ a, a < 4 → ∀ b, b < 4 → a ≠ b → (TJ4 a).2.1 ≠ (TJ4 b).2.1 := by decide +kernel
theorem tyJ4_ok : ∀ k, k < 4 → parseFieldDescriptor (TJ4 k).2.2.1 = some (tyJ4 k) := by decide +kernel
abbrev cJ4_init_da8c8 : ByteArray := prog_29_method_1_code
def yJ4_init_da8c8 : MethodName := ⟨RJ4, "<init>", "()V"⟩
def RJ1 : String := "java/lang/StringLatin1"
def TJ1 : u_T := fun k => match k with
  | _ => ("", "", "", false)
def tyJ1 : Nat → FieldType := fun k => match k with
  | _ => .int
theorem nmJ1 : ∀ a, a < 0 → ∀ b, b < 0 → a ≠ b → (TJ1 a).2.1 ≠ (TJ1 b).2.1 := by decide +kernel
theorem tyJ1_ok : ∀ k, k < 0 → parseFieldDescriptor (TJ1 k).2.2.1 = some (tyJ1 k) := by decide +kernel
abbrev cJ1_charAt_3b067 : ByteArray := prog_30_method_2_code
def yJ1_charAt_3b067 : MethodName := ⟨RJ1, "charAt", "([BI)C"⟩
def RJ2 : String := "java/lang/StringUTF16"
def TJ2 : u_T := fun k => match k with
  | _ => ("", "", "", false)
def tyJ2 : Nat → FieldType := fun k => match k with
  | _ => .int
theorem nmJ2 : ∀ a, a < 0 → ∀ b, b < 0 → a ≠ b → (TJ2 a).2.1 ≠ (TJ2 b).2.1 := by decide +kernel
theorem tyJ2_ok : ∀ k, k < 0 → parseFieldDescriptor (TJ2 k).2.2.1 = some (tyJ2 k) := by decide +kernel
abbrev cJ2_newBytesFor_77867 : ByteArray := prog_31_method_2_code
def yJ2_newBytesFor_77867 : MethodName := ⟨RJ2, "newBytesFor", "(I)[B"⟩
abbrev cJ2_newBytesLength_0f7a4 : ByteArray := prog_31_method_3_code
def yJ2_newBytesLength_0f7a4 : MethodName := ⟨RJ2, "newBytesLength", "(I)I"⟩
abbrev cJ2_getChar_3b067 : ByteArray := prog_31_method_5_code
def yJ2_getChar_3b067 : MethodName := ⟨RJ2, "getChar", "([BI)C"⟩
abbrev cJ2_length_9d52b : ByteArray := prog_31_method_6_code
def yJ2_length_9d52b : MethodName := ⟨RJ2, "length", "([B)I"⟩
abbrev cJ2_charAt_3b067 : ByteArray := prog_31_method_83_code
def yJ2_charAt_3b067 : MethodName := ⟨RJ2, "charAt", "([BI)C"⟩
abbrev cJ2_checkIndex_2214a : ByteArray := prog_31_method_91_code
def yJ2_checkIndex_2214a : MethodName := ⟨RJ2, "checkIndex", "(I[B)V"⟩
def RJ10 : String := "java/lang/System"
def TJ10 : u_T := fun k => match k with
  | _ => ("", "", "", false)
def tyJ10 : Nat → FieldType := fun k => match k with
  | _ => .int
theorem nmJ10 : ∀ a, a < 0 → ∀ b, b < 0 → a ≠ b → (TJ10 a).2.1 ≠ (TJ10 b).2.1 := by decide +kernel
theorem tyJ10_ok : ∀ k, k < 0 → parseFieldDescriptor (TJ10 k).2.2.1 = some (tyJ10 k) := by decide +kernel
def RJxfd54e : String := "java/lang/constant/Constable"
def TJxfd54e : u_T := fun k => match k with
  | _ => ("", "", "", false)
def tyJxfd54e : Nat → FieldType := fun k => match k with
  | _ => .int
theorem nmJxfd54e : ∀ a, a < 0 → ∀ b, b < 0 → a ≠ b → (TJxfd54e a).2.1 ≠ (TJxfd54e b).2.1 := by decide +kernel
theorem tyJxfd54e_ok : ∀ k, k < 0 → parseFieldDescriptor (TJxfd54e k).2.2.1 = some (tyJxfd54e k) := by decide +kernel
def RJx3cf43 : String := "java/lang/constant/ConstantDesc"
def TJx3cf43 : u_T := fun k => match k with
  | _ => ("", "", "", false)
def tyJx3cf43 : Nat → FieldType := fun k => match k with
  | _ => .int
theorem nmJx3cf43 : ∀ a, a < 0 → ∀ b, b < 0 → a ≠ b → (TJx3cf43 a).2.1 ≠ (TJx3cf43 b).2.1 := by decide +kernel
theorem tyJx3cf43_ok : ∀ k, k < 0 → parseFieldDescriptor (TJx3cf43 k).2.2.1 = some (tyJx3cf43 k) := by decide +kernel
def RJ3 : String := "jdk/internal/util/Preconditions"
def TJ3 : u_T := fun k => match k with
  | _ => ("", "", "", false)
def tyJ3 : Nat → FieldType := fun k => match k with
  | _ => .int
theorem nmJ3 : ∀ a, a < 0 → ∀ b, b < 0 → a ≠ b → (TJ3 a).2.1 ≠ (TJ3 b).2.1 := by decide +kernel
theorem tyJ3_ok : ∀ k, k < 0 → parseFieldDescriptor (TJ3 k).2.2.1 = some (tyJ3 k) := by decide +kernel
abbrev cJ3_checkIndex_8e157 : ByteArray := prog_37_method_11_code
def yJ3_checkIndex_8e157 : MethodName := ⟨RJ3, "checkIndex", "(IILjava/util/function/BiFunction;)I"⟩
def RL : String := "SightReducerLaw"
abbrev cL_most : ByteArray := method_2_code
def yL_most : MethodName := ⟨RL, "most", "(II)I"⟩
abbrev cL_cell : ByteArray := method_3_code
def yL_cell : MethodName := ⟨RL, "cell", "([II)I"⟩
abbrev cL_add : ByteArray := method_4_code
def yL_add : MethodName := ⟨RL, "add", "(LSightReducer;[II)V"⟩
abbrev cL_number : ByteArray := method_6_code
def yL_number : MethodName := ⟨RL, "number", "(LSightReducer;[II)V"⟩
abbrev cL_end : ByteArray := method_7_code
def yL_end : MethodName := ⟨RL, "end", "(LSightReducer;[I)I"⟩
abbrev cL_drawn : ByteArray := method_8_code
def yL_drawn : MethodName := ⟨RL, "drawn", "([II)LSightReducerLaw$Own;"⟩
abbrev cL_sight : ByteArray := method_9_code
def yL_sight : MethodName := ⟨RL, "sight", "(LSightReducerLaw$Own;I)[I"⟩
abbrev cL_word : ByteArray := method_10_code
def yL_word : MethodName := ⟨RL, "word", "(LSightReducer;[ILjava/lang/String;)V"⟩
abbrev cL_with : ByteArray := method_11_code
def yL_with : MethodName := ⟨RL, "with", "(LSightReducer;[ILjava/lang/String;I)V"⟩
abbrev cL_name : ByteArray := method_12_code
def yL_name : MethodName := ⟨RL, "name", "(LSightReducer;[ILSightReducerLaw$Own;I)V"⟩
abbrev cL_tell : ByteArray := method_13_code
def yL_tell : MethodName := ⟨RL, "tell", "(LSightReducer;[ILSightReducerLaw$Own;)I"⟩
abbrev cL_act : ByteArray := method_15_code
def yL_act : MethodName := ⟨RL, "act", "(LSightReducer;LSightReducerLaw$Own;I)I"⟩
abbrev cL_all : ByteArray := method_16_code
def yL_all : MethodName := ⟨RL, "all", "(LSightReducer;)J"⟩
abbrev cL_far : ByteArray := method_17_code
def yL_far : MethodName := ⟨RL, "far", "(LSightReducer;IIJJ)J"⟩
abbrev cL_areSound : ByteArray := method_18_code
def yL_areSound : MethodName := ⟨RL, "areSound", "(LSightReducer;I)Z"⟩
abbrev cL_areHats : ByteArray := method_19_code
def yL_areHats : MethodName := ⟨RL, "areHats", "(LSightReducer;I)Z"⟩
abbrev cL_isThin : ByteArray := method_20_code
def yL_isThin : MethodName := ⟨RL, "isThin", "(LSightReducer;IIII)Z"⟩
abbrev cL_isFix : ByteArray := method_21_code
def yL_isFix : MethodName := ⟨RL, "isFix", "(LSightReducer;I)Z"⟩
abbrev cL_isTold : ByteArray := method_22_code
def yL_isTold : MethodName := ⟨RL, "isTold", "(LSightReducer;[II)Z"⟩
abbrev cL_law : ByteArray := code
def yL_law : MethodName := ⟨RL, "law", "([I)Z"⟩
