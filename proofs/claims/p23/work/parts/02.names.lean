/-! ===== BEGIN printed: names, fields, word lists, decode rows ===== -/
def RX0 : String := "FjordHaul$1"
def TX0 : u_T := fun k => match k with
  | _ => ("", "", "", false)
def tyX0 : Nat → FieldType := fun k => match k with
  | _ => .int
abbrev wsX00 : List Cond := u_ws RX0 TX0 0
theorem nmX0 : ∀ a, a < 0 → ∀ b, b < 0 → a ≠ b → (TX0 a).2.1 ≠ (TX0 b).2.1 := by decide +kernel
theorem tyX0_ok : ∀ k, k < 0 → parseFieldDescriptor (TX0 k).2.2.1 = some (tyX0 k) := by decide +kernel
def RX1 : String := "FjordHaul$Horse"
def TX1 : u_T := fun k => match k with
  | 0 => ("FjordHaul$Horse", "name", "J", false)
  | 1 => ("FjordHaul$Horse", "pull", "I", false)
  | 2 => ("FjordHaul$Horse", "links", "I", false)
  | 3 => ("FjordHaul$Horse", "iron", "I", false)
  | 4 => ("FjordHaul$Horse", "bell", "Z", false)
  | 5 => ("FjordHaul$Horse", "place", "I", false)
  | 6 => ("FjordHaul$Horse", "down", "Z", false)
  | 7 => ("FjordHaul$Horse", "units", "I", false)
  | 8 => ("FjordHaul$Horse", "tired", "I", false)
  | 9 => ("FjordHaul$Horse", "brought", "I", false)
  | _ => ("FjordHaul$Horse", "moved", "Z", false)
def tyX1 : Nat → FieldType := fun k => match k with
  | 0 => .long
  | 1 => .int
  | 2 => .int
  | 3 => .int
  | 4 => .boolean
  | 5 => .int
  | 6 => .boolean
  | 7 => .int
  | 8 => .int
  | 9 => .int
  | _ => .boolean
abbrev wsX10 : List Cond := u_ws RX1 TX1 11
theorem nmX1 : ∀ a, a < 11 → ∀ b, b < 11 → a ≠ b → (TX1 a).2.1 ≠ (TX1 b).2.1 := by decide +kernel
theorem tyX1_ok : ∀ k, k < 11 → parseFieldDescriptor (TX1 k).2.2.1 = some (tyX1 k) := by decide +kernel
abbrev cX1_init : ByteArray := prog_3_method_1_code
def yX1_init : MethodName := ⟨RX1, "<init>", "()V"⟩
abbrev cX1_tell : ByteArray := prog_3_method_2_code
def yX1_tell : MethodName := ⟨RX1, "tell", "(JIIIZ)V"⟩
abbrev cX1_become : ByteArray := prog_3_method_3_code
def yX1_become : MethodName := ⟨RX1, "become", "(LFjordHaul$Horse;)V"⟩
abbrev cX1_stand : ByteArray := prog_3_method_4_code
def yX1_stand : MethodName := ⟨RX1, "stand", "(IZI)V"⟩
abbrev cX1_tire : ByteArray := prog_3_method_5_code
def yX1_tire : MethodName := ⟨RX1, "tire", "(I)V"⟩
def RX2 : String := "FjordHaul$Log"
def TX2 : u_T := fun k => match k with
  | 0 => ("FjordHaul$Log", "name", "J", false)
  | 1 => ("FjordHaul$Log", "weight", "I", false)
  | 2 => ("FjordHaul$Log", "state", "I", false)
  | 3 => ("FjordHaul$Log", "where", "I", false)
  | _ => ("FjordHaul$Log", "raftHour", "I", false)
def tyX2 : Nat → FieldType := fun k => match k with
  | 0 => .long
  | 1 => .int
  | 2 => .int
  | 3 => .int
  | _ => .int
abbrev wsX20 : List Cond := u_ws RX2 TX2 5
theorem nmX2 : ∀ a, a < 5 → ∀ b, b < 5 → a ≠ b → (TX2 a).2.1 ≠ (TX2 b).2.1 := by decide +kernel
theorem tyX2_ok : ∀ k, k < 5 → parseFieldDescriptor (TX2 k).2.2.1 = some (tyX2 k) := by decide +kernel
abbrev cX2_init : ByteArray := prog_4_method_1_code
def yX2_init : MethodName := ⟨RX2, "<init>", "()V"⟩
abbrev cX2_tell : ByteArray := prog_4_method_2_code
def yX2_tell : MethodName := ⟨RX2, "tell", "(JI)V"⟩
abbrev cX2_become : ByteArray := prog_4_method_3_code
def yX2_become : MethodName := ⟨RX2, "become", "(LFjordHaul$Log;)V"⟩
abbrev cX2_lie : ByteArray := prog_4_method_4_code
def yX2_lie : MethodName := ⟨RX2, "lie", "(II)V"⟩
def RX3 : String := "FjordHaul$Order"
def TX3 : u_T := fun k => match k with
  | 0 => ("FjordHaul$Order", "horse", "I", false)
  | 1 => ("FjordHaul$Order", "place", "I", false)
  | 2 => ("FjordHaul$Order", "from", "I", false)
  | 3 => ("FjordHaul$Order", "middle", "I", false)
  | _ => ("FjordHaul$Order", "to", "I", false)
def tyX3 : Nat → FieldType := fun k => match k with
  | 0 => .int
  | 1 => .int
  | 2 => .int
  | 3 => .int
  | _ => .int
abbrev wsX30 : List Cond := u_ws RX3 TX3 5
theorem nmX3 : ∀ a, a < 5 → ∀ b, b < 5 → a ≠ b → (TX3 a).2.1 ≠ (TX3 b).2.1 := by decide +kernel
theorem tyX3_ok : ∀ k, k < 5 → parseFieldDescriptor (TX3 k).2.2.1 = some (tyX3 k) := by decide +kernel
abbrev cX3_init : ByteArray := prog_5_method_1_code
def yX3_init : MethodName := ⟨RX3, "<init>", "()V"⟩
abbrev cX3_tell : ByteArray := prog_5_method_2_code
def yX3_tell : MethodName := ⟨RX3, "tell", "(IIIII)V"⟩
def RX4 : String := "FjordHaul$Plan"
def TX4 : u_T := fun k => match k with
  | 0 => ("FjordHaul$Plan", "hauls", "[LFjordHaul$Order;", true)
  | 1 => ("FjordHaul$Plan", "waits", "[LFjordHaul$Order;", true)
  | 2 => ("FjordHaul$Plan", "signs", "[LFjordHaul$Sign;", true)
  | 3 => ("FjordHaul$Plan", "numbers", "[I", true)
  | 4 => ("FjordHaul$Plan", "stack", "[I", true)
  | 5 => ("FjordHaul$Plan", "haulCount", "I", false)
  | 6 => ("FjordHaul$Plan", "waitCount", "I", false)
  | _ => ("FjordHaul$Plan", "size", "I", false)
def tyX4 : Nat → FieldType := fun k => match k with
  | 0 => .array (.object "FjordHaul$Order")
  | 1 => .array (.object "FjordHaul$Order")
  | 2 => .array (.object "FjordHaul$Sign")
  | 3 => .array .int
  | 4 => .array .int
  | 5 => .int
  | 6 => .int
  | _ => .int
abbrev wsX40 : List Cond := u_ws RX4 TX4 8
theorem nmX4 : ∀ a, a < 8 → ∀ b, b < 8 → a ≠ b → (TX4 a).2.1 ≠ (TX4 b).2.1 := by decide +kernel
theorem tyX4_ok : ∀ k, k < 8 → parseFieldDescriptor (TX4 k).2.2.1 = some (tyX4 k) := by decide +kernel
abbrev cX4_init : ByteArray := prog_6_method_1_code
def yX4_init : MethodName := ⟨RX4, "<init>", "()V"⟩
abbrev cX4_empty : ByteArray := prog_6_method_2_code
def yX4_empty : MethodName := ⟨RX4, "empty", "()V"⟩
abbrev cX4_addStep : ByteArray := prog_6_method_3_code
def yX4_addStep : MethodName := ⟨RX4, "addStep", "(LFjordHaul$Sign;I)V"⟩
abbrev cX4_addHaul : ByteArray := prog_6_method_4_code
def yX4_addHaul : MethodName := ⟨RX4, "addHaul", "(III)V"⟩
abbrev cX4_addWait : ByteArray := prog_6_method_5_code
def yX4_addWait : MethodName := ⟨RX4, "addWait", "(III)V"⟩
abbrev cX4_mostWeight : ByteArray := prog_6_method_6_code
def yX4_mostWeight : MethodName := ⟨RX4, "mostWeight", "(ILFjordHaul$Road;)I"⟩
abbrev cX4_waitsNow : ByteArray := prog_6_method_7_code
def yX4_waitsNow : MethodName := ⟨RX4, "waitsNow", "(IILFjordHaul$Road;)Z"⟩
abbrev cX4_reckon : ByteArray := prog_6_method_8_code
def yX4_reckon : MethodName := ⟨RX4, "reckon", "(IILFjordHaul$Road;)I"⟩
abbrev cX4_found : ByteArray := prog_6_method_9_code
def yX4_found : MethodName := ⟨RX4, "found", "(LFjordHaul$Sign;ILFjordHaul$Road;)I"⟩
abbrev cX4_joined : ByteArray := prog_6_method_10_code
def yX4_joined : MethodName := ⟨RX4, "joined", "(LFjordHaul$Sign;II)I"⟩
def RX5 : String := "FjordHaul$Reader"
def TX5 : u_T := fun k => match k with
  | 0 => ("FjordHaul$Reader", "tokens", "LFjordHaul$Tokens;", true)
  | 1 => ("FjordHaul$Reader", "road", "LFjordHaul$Road;", false)
  | 2 => ("FjordHaul$Reader", "plan", "LFjordHaul$Plan;", false)
  | 3 => ("FjordHaul$Reader", "next", "I", false)
  | 4 => ("FjordHaul$Reader", "broken", "Z", false)
  | 5 => ("FjordHaul$Reader", "brokenAt", "I", false)
  | 6 => ("FjordHaul$Reader", "flaw", "I", false)
  | _ => ("FjordHaul$Reader", "flawAt", "I", false)
def tyX5 : Nat → FieldType := fun k => match k with
  | 0 => .object "FjordHaul$Tokens"
  | 1 => .object "FjordHaul$Road"
  | 2 => .object "FjordHaul$Plan"
  | 3 => .int
  | 4 => .boolean
  | 5 => .int
  | 6 => .int
  | _ => .int
abbrev wsX50 : List Cond := u_ws RX5 TX5 8
theorem nmX5 : ∀ a, a < 8 → ∀ b, b < 8 → a ≠ b → (TX5 a).2.1 ≠ (TX5 b).2.1 := by decide +kernel
theorem tyX5_ok : ∀ k, k < 8 → parseFieldDescriptor (TX5 k).2.2.1 = some (tyX5 k) := by decide +kernel
abbrev cX5_init : ByteArray := prog_7_method_1_code
def yX5_init : MethodName := ⟨RX5, "<init>", "(LFjordHaul$Road;LFjordHaul$Plan;)V"⟩
abbrev cX5_read : ByteArray := prog_7_method_2_code
def yX5_read : MethodName := ⟨RX5, "read", "([BILFjordHaul$Road;LFjordHaul$Plan;)I"⟩
abbrev cX5_begin : ByteArray := prog_7_method_3_code
def yX5_begin : MethodName := ⟨RX5, "begin", "(LFjordHaul$Road;LFjordHaul$Plan;)V"⟩
abbrev cX5_errorPlace : ByteArray := prog_7_method_4_code
def yX5_errorPlace : MethodName := ⟨RX5, "errorPlace", "()I"⟩
abbrev cX5_readStretch : ByteArray := prog_7_method_5_code
def yX5_readStretch : MethodName := ⟨RX5, "readStretch", "()V"⟩
abbrev cX5_readHorse : ByteArray := prog_7_method_6_code
def yX5_readHorse : MethodName := ⟨RX5, "readHorse", "()V"⟩
abbrev cX5_readLog : ByteArray := prog_7_method_7_code
def yX5_readLog : MethodName := ⟨RX5, "readLog", "()V"⟩
abbrev cX5_readHaul : ByteArray := prog_7_method_8_code
def yX5_readHaul : MethodName := ⟨RX5, "readHaul", "()V"⟩
abbrev cX5_readWait : ByteArray := prog_7_method_9_code
def yX5_readWait : MethodName := ⟨RX5, "readWait", "()V"⟩
abbrev cX5_readTest : ByteArray := prog_7_method_10_code
def yX5_readTest : MethodName := ⟨RX5, "readTest", "(I)V"⟩
abbrev cX5_readBoth : ByteArray := prog_7_method_11_code
def yX5_readBoth : MethodName := ⟨RX5, "readBoth", "(I)V"⟩
abbrev cX5_readSingle : ByteArray := prog_7_method_12_code
def yX5_readSingle : MethodName := ⟨RX5, "readSingle", "(I)V"⟩
abbrev cX5_readSum : ByteArray := prog_7_method_13_code
def yX5_readSum : MethodName := ⟨RX5, "readSum", "(I)V"⟩
abbrev cX5_readProduct : ByteArray := prog_7_method_14_code
def yX5_readProduct : MethodName := ⟨RX5, "readProduct", "(I)V"⟩
abbrev cX5_readValue : ByteArray := prog_7_method_15_code
def yX5_readValue : MethodName := ⟨RX5, "readValue", "(I)V"⟩
abbrev cX5_readPair : ByteArray := prog_7_method_16_code
def yX5_readPair : MethodName := ⟨RX5, "readPair", "(LFjordHaul$Sign;I)V"⟩
abbrev cX5_goesDeeper : ByteArray := prog_7_method_17_code
def yX5_goesDeeper : MethodName := ⟨RX5, "goesDeeper", "(I)Z"⟩
abbrev cX5_checkNew : ByteArray := prog_7_method_18_code
def yX5_checkNew : MethodName := ⟨RX5, "checkNew", "(ZZ)V"⟩
abbrev cX5_takeComparison : ByteArray := prog_7_method_19_code
def yX5_takeComparison : MethodName := ⟨RX5, "takeComparison", "()LFjordHaul$Sign;"⟩
abbrev cX5_takeName : ByteArray := prog_7_method_20_code
def yX5_takeName : MethodName := ⟨RX5, "takeName", "()J"⟩
abbrev cX5_takeHorse : ByteArray := prog_7_method_21_code
def yX5_takeHorse : MethodName := ⟨RX5, "takeHorse", "()I"⟩
abbrev cX5_takeStretch : ByteArray := prog_7_method_22_code
def yX5_takeStretch : MethodName := ⟨RX5, "takeStretch", "()I"⟩
abbrev cX5_takeNumber : ByteArray := prog_7_method_23_code
def yX5_takeNumber : MethodName := ⟨RX5, "takeNumber", "(II)I"⟩
abbrev cX5_noteFlaw : ByteArray := prog_7_method_24_code
def yX5_noteFlaw : MethodName := ⟨RX5, "noteFlaw", "(I)V"⟩
abbrev cX5_tryTake : ByteArray := prog_7_method_25_code
def yX5_tryTake : MethodName := ⟨RX5, "tryTake", "(LFjordHaul$Sign;)Z"⟩
abbrev cX5_take : ByteArray := prog_7_method_26_code
def yX5_take : MethodName := ⟨RX5, "take", "(LFjordHaul$Sign;)V"⟩
abbrev cX5_fail : ByteArray := prog_7_method_27_code
def yX5_fail : MethodName := ⟨RX5, "fail", "()V"⟩
abbrev cX5_skip : ByteArray := prog_7_method_28_code
def yX5_skip : MethodName := ⟨RX5, "skip", "()V"⟩
abbrev cX5_sign : ByteArray := prog_7_method_29_code
def yX5_sign : MethodName := ⟨RX5, "sign", "()LFjordHaul$Sign;"⟩
abbrev cX5_value : ByteArray := prog_7_method_30_code
def yX5_value : MethodName := ⟨RX5, "value", "()J"⟩
def RX6 : String := "FjordHaul$Road"
def TX6 : u_T := fun k => match k with
  | 0 => ("FjordHaul$Road", "stretches", "[LFjordHaul$Stretch;", true)
  | 1 => ("FjordHaul$Road", "horses", "[LFjordHaul$Horse;", true)
  | 2 => ("FjordHaul$Road", "logs", "[LFjordHaul$Log;", true)
  | 3 => ("FjordHaul$Road", "stretchCount", "I", false)
  | 4 => ("FjordHaul$Road", "horseCount", "I", false)
  | 5 => ("FjordHaul$Road", "logCount", "I", false)
  | 6 => ("FjordHaul$Road", "hour", "I", false)
  | 7 => ("FjordHaul$Road", "weather", "I", false)
  | _ => ("FjordHaul$Road", "brokenChains", "I", false)
def tyX6 : Nat → FieldType := fun k => match k with
  | 0 => .array (.object "FjordHaul$Stretch")
  | 1 => .array (.object "FjordHaul$Horse")
  | 2 => .array (.object "FjordHaul$Log")
  | 3 => .int
  | 4 => .int
  | 5 => .int
  | 6 => .int
  | 7 => .int
  | _ => .int
abbrev wsX60 : List Cond := u_ws RX6 TX6 9
theorem nmX6 : ∀ a, a < 9 → ∀ b, b < 9 → a ≠ b → (TX6 a).2.1 ≠ (TX6 b).2.1 := by decide +kernel
theorem tyX6_ok : ∀ k, k < 9 → parseFieldDescriptor (TX6 k).2.2.1 = some (tyX6 k) := by decide +kernel
abbrev cX6_init : ByteArray := prog_8_method_1_code
def yX6_init : MethodName := ⟨RX6, "<init>", "()V"⟩
abbrev cX6_empty : ByteArray := prog_8_method_2_code
def yX6_empty : MethodName := ⟨RX6, "empty", "()V"⟩
abbrev cX6_become : ByteArray := prog_8_method_3_code
def yX6_become : MethodName := ⟨RX6, "become", "(LFjordHaul$Road;)V"⟩
abbrev cX6_addStretch : ByteArray := prog_8_method_4_code
def yX6_addStretch : MethodName := ⟨RX6, "addStretch", "(JIII)V"⟩
abbrev cX6_addHorse : ByteArray := prog_8_method_5_code
def yX6_addHorse : MethodName := ⟨RX6, "addHorse", "(JIIIZ)V"⟩
abbrev cX6_addLog : ByteArray := prog_8_method_6_code
def yX6_addLog : MethodName := ⟨RX6, "addLog", "(JI)V"⟩
abbrev cX6_findStretch : ByteArray := prog_8_method_7_code
def yX6_findStretch : MethodName := ⟨RX6, "findStretch", "(J)I"⟩
abbrev cX6_findHorse : ByteArray := prog_8_method_8_code
def yX6_findHorse : MethodName := ⟨RX6, "findHorse", "(J)I"⟩
abbrev cX6_findLog : ByteArray := prog_8_method_9_code
def yX6_findLog : MethodName := ⟨RX6, "findLog", "(J)I"⟩
abbrev cX6_hasStretch : ByteArray := prog_8_method_10_code
def yX6_hasStretch : MethodName := ⟨RX6, "hasStretch", "(I)Z"⟩
abbrev cX6_hasHorse : ByteArray := prog_8_method_11_code
def yX6_hasHorse : MethodName := ⟨RX6, "hasHorse", "(I)Z"⟩
abbrev cX6_total : ByteArray := prog_8_method_12_code
def yX6_total : MethodName := ⟨RX6, "total", "(I)I"⟩
abbrev cX6_stretchFact : ByteArray := prog_8_method_13_code
def yX6_stretchFact : MethodName := ⟨RX6, "stretchFact", "(II)I"⟩
abbrev cX6_horseFact : ByteArray := prog_8_method_14_code
def yX6_horseFact : MethodName := ⟨RX6, "horseFact", "(II)I"⟩
abbrev cX6_logFact : ByteArray := prog_8_method_15_code
def yX6_logFact : MethodName := ⟨RX6, "logFact", "(II)I"⟩
abbrev cX6_weightOf : ByteArray := prog_8_method_16_code
def yX6_weightOf : MethodName := ⟨RX6, "weightOf", "(I)I"⟩
abbrev cX6_logsIn : ByteArray := prog_8_method_17_code
def yX6_logsIn : MethodName := ⟨RX6, "logsIn", "(I)I"⟩
abbrev cX6_isAtRaft : ByteArray := prog_8_method_18_code
def yX6_isAtRaft : MethodName := ⟨RX6, "isAtRaft", "(I)Z"⟩
abbrev cX6_horsesOn : ByteArray := prog_8_method_19_code
def yX6_horsesOn : MethodName := ⟨RX6, "horsesOn", "(I)I"⟩
abbrev cX6_allLinks : ByteArray := prog_8_method_20_code
def yX6_allLinks : MethodName := ⟨RX6, "allLinks", "()I"⟩
abbrev cX6_tiredOf : ByteArray := prog_8_method_21_code
def yX6_tiredOf : MethodName := ⟨RX6, "tiredOf", "(I)I"⟩
abbrev cX6_linksOf : ByteArray := prog_8_method_22_code
def yX6_linksOf : MethodName := ⟨RX6, "linksOf", "(I)I"⟩
abbrev cX6_loadOf : ByteArray := prog_8_method_23_code
def yX6_loadOf : MethodName := ⟨RX6, "loadOf", "(I)I"⟩
abbrev cX6_frostOf : ByteArray := prog_8_method_24_code
def yX6_frostOf : MethodName := ⟨RX6, "frostOf", "(I)I"⟩
abbrev cX6_fallenOn : ByteArray := prog_8_method_25_code
def yX6_fallenOn : MethodName := ⟨RX6, "fallenOn", "(I)I"⟩
abbrev cX6_need : ByteArray := prog_8_method_26_code
def yX6_need : MethodName := ⟨RX6, "need", "(II)I"⟩
abbrev cX6_addLinks : ByteArray := prog_8_method_27_code
def yX6_addLinks : MethodName := ⟨RX6, "addLinks", "(II)I"⟩
abbrev cX6_strengthen : ByteArray := prog_8_method_28_code
def yX6_strengthen : MethodName := ⟨RX6, "strengthen", "(I)V"⟩
abbrev cX6_bringBack : ByteArray := prog_8_method_29_code
def yX6_bringBack : MethodName := ⟨RX6, "bringBack", "(I)I"⟩
abbrev cX6_goBy : ByteArray := prog_8_method_30_code
def yX6_goBy : MethodName := ⟨RX6, "goBy", "(ILFjordHaul$Plan;)V"⟩
abbrev cX6_sendOut : ByteArray := prog_8_method_31_code
def yX6_sendOut : MethodName := ⟨RX6, "sendOut", "(ILFjordHaul$Plan;)V"⟩
abbrev cX6_putOnSledge : ByteArray := prog_8_method_32_code
def yX6_putOnSledge : MethodName := ⟨RX6, "putOnSledge", "(II)Z"⟩
abbrev cX6_move : ByteArray := prog_8_method_33_code
def yX6_move : MethodName := ⟨RX6, "move", "(ILFjordHaul$Plan;)V"⟩
abbrev cX6_breakChain : ByteArray := prog_8_method_34_code
def yX6_breakChain : MethodName := ⟨RX6, "breakChain", "(I)V"⟩
abbrev cX6_goOn : ByteArray := prog_8_method_35_code
def yX6_goOn : MethodName := ⟨RX6, "goOn", "(II)V"⟩
abbrev cX6_leave : ByteArray := prog_8_method_36_code
def yX6_leave : MethodName := ⟨RX6, "leave", "(II)V"⟩
abbrev cX6_unload : ByteArray := prog_8_method_37_code
def yX6_unload : MethodName := ⟨RX6, "unload", "(I)V"⟩
abbrev cX6_canGo : ByteArray := prog_8_method_38_code
def yX6_canGo : MethodName := ⟨RX6, "canGo", "(LFjordHaul$Horse;I)Z"⟩
abbrev cX6_stopOthers : ByteArray := prog_8_method_39_code
def yX6_stopOthers : MethodName := ⟨RX6, "stopOthers", "(LFjordHaul$Horse;I)V"⟩
abbrev cX6_freeze : ByteArray := prog_8_method_40_code
def yX6_freeze : MethodName := ⟨RX6, "freeze", "()V"⟩
def RX7 : String := "FjordHaul$Sign"
def TX7 : u_T := fun k => match k with
  | _ => ("", "", "", false)
def tyX7 : Nat → FieldType := fun k => match k with
  | _ => .int
abbrev wsX70 : List Cond := u_ws RX7 TX7 0
theorem nmX7 : ∀ a, a < 0 → ∀ b, b < 0 → a ≠ b → (TX7 a).2.1 ≠ (TX7 b).2.1 := by decide +kernel
theorem tyX7_ok : ∀ k, k < 0 → parseFieldDescriptor (TX7 k).2.2.1 = some (tyX7 k) := by decide +kernel
def RX8 : String := "FjordHaul$Stretch"
def TX8 : u_T := fun k => match k with
  | 0 => ("FjordHaul$Stretch", "name", "J", false)
  | 1 => ("FjordHaul$Stretch", "length", "I", false)
  | 2 => ("FjordHaul$Stretch", "slope", "I", false)
  | _ => ("FjordHaul$Stretch", "frost", "I", false)
def tyX8 : Nat → FieldType := fun k => match k with
  | 0 => .long
  | 1 => .int
  | 2 => .int
  | _ => .int
abbrev wsX80 : List Cond := u_ws RX8 TX8 4
theorem nmX8 : ∀ a, a < 4 → ∀ b, b < 4 → a ≠ b → (TX8 a).2.1 ≠ (TX8 b).2.1 := by decide +kernel
theorem tyX8_ok : ∀ k, k < 4 → parseFieldDescriptor (TX8 k).2.2.1 = some (tyX8 k) := by decide +kernel
abbrev cX8_init : ByteArray := prog_10_method_1_code
def yX8_init : MethodName := ⟨RX8, "<init>", "()V"⟩
abbrev cX8_tell : ByteArray := prog_10_method_2_code
def yX8_tell : MethodName := ⟨RX8, "tell", "(JIII)V"⟩
abbrev cX8_become : ByteArray := prog_10_method_3_code
def yX8_become : MethodName := ⟨RX8, "become", "(LFjordHaul$Stretch;)V"⟩
def RX9 : String := "FjordHaul$Tokens"
def TX9 : u_T := fun k => match k with
  | 0 => ("FjordHaul$Tokens", "signs", "[LFjordHaul$Sign;", true)
  | 1 => ("FjordHaul$Tokens", "starts", "[I", true)
  | 2 => ("FjordHaul$Tokens", "values", "[J", true)
  | 3 => ("FjordHaul$Tokens", "last", "I", false)
  | 4 => ("FjordHaul$Tokens", "tape", "[B", false)
  | _ => ("FjordHaul$Tokens", "length", "I", false)
def tyX9 : Nat → FieldType := fun k => match k with
  | 0 => .array (.object "FjordHaul$Sign")
  | 1 => .array .int
  | 2 => .array .long
  | 3 => .int
  | 4 => .array .byte
  | _ => .int
abbrev wsX90 : List Cond := u_ws RX9 TX9 6
theorem nmX9 : ∀ a, a < 6 → ∀ b, b < 6 → a ≠ b → (TX9 a).2.1 ≠ (TX9 b).2.1 := by decide +kernel
theorem tyX9_ok : ∀ k, k < 6 → parseFieldDescriptor (TX9 k).2.2.1 = some (tyX9 k) := by decide +kernel
abbrev cX9_init : ByteArray := prog_11_method_1_code
def yX9_init : MethodName := ⟨RX9, "<init>", "()V"⟩
abbrev cX9_scan : ByteArray := prog_11_method_2_code
def yX9_scan : MethodName := ⟨RX9, "scan", "([BI)V"⟩
abbrev cX9_behindBlanks : ByteArray := prog_11_method_3_code
def yX9_behindBlanks : MethodName := ⟨RX9, "behindBlanks", "(I)I"⟩
abbrev cX9_scanToken : ByteArray := prog_11_method_4_code
def yX9_scanToken : MethodName := ⟨RX9, "scanToken", "(I)I"⟩
abbrev cX9_scanWord : ByteArray := prog_11_method_5_code
def yX9_scanWord : MethodName := ⟨RX9, "scanWord", "(I)I"⟩
abbrev cX9_keywordOrName : ByteArray := prog_11_method_6_code
def yX9_keywordOrName : MethodName := ⟨RX9, "keywordOrName", "(II)LFjordHaul$Sign;"⟩
abbrev cX9_isText : ByteArray := prog_11_method_7_code
def yX9_isText : MethodName := ⟨RX9, "isText", "(Ljava/lang/String;II)Z"⟩
abbrev cX9_scanNumber : ByteArray := prog_11_method_8_code
def yX9_scanNumber : MethodName := ⟨RX9, "scanNumber", "(I)I"⟩
abbrev cX9_scanSymbol : ByteArray := prog_11_method_9_code
def yX9_scanSymbol : MethodName := ⟨RX9, "scanSymbol", "(I)I"⟩
abbrev cX9_isLetter : ByteArray := prog_11_method_10_code
def yX9_isLetter : MethodName := ⟨RX9, "isLetter", "(I)Z"⟩
abbrev cX9_isDigit : ByteArray := prog_11_method_11_code
def yX9_isDigit : MethodName := ⟨RX9, "isDigit", "(I)Z"⟩
def RX10 : String := "FjordHaul"
def TX10 : u_T := fun k => match k with
  | 0 => ("FjordHaul", "tape", "[B", true)
  | 1 => ("FjordHaul", "reader", "LFjordHaul$Reader;", true)
  | 2 => ("FjordHaul", "tapeLength", "I", false)
  | 3 => ("FjordHaul", "faultAt", "I", false)
  | 4 => ("FjordHaul", "road", "LFjordHaul$Road;", false)
  | 5 => ("FjordHaul", "plan", "LFjordHaul$Plan;", false)
  | 6 => ("FjordHaul", "spareRoad", "LFjordHaul$Road;", false)
  | _ => ("FjordHaul", "sparePlan", "LFjordHaul$Plan;", false)
def tyX10 : Nat → FieldType := fun k => match k with
  | 0 => .array .byte
  | 1 => .object "FjordHaul$Reader"
  | 2 => .int
  | 3 => .int
  | 4 => .object "FjordHaul$Road"
  | 5 => .object "FjordHaul$Plan"
  | 6 => .object "FjordHaul$Road"
  | _ => .object "FjordHaul$Plan"
abbrev wsX100 : List Cond := u_ws RX10 TX10 8
theorem nmX10 : ∀ a, a < 8 → ∀ b, b < 8 → a ≠ b → (TX10 a).2.1 ≠ (TX10 b).2.1 := by decide +kernel
theorem tyX10_ok : ∀ k, k < 8 → parseFieldDescriptor (TX10 k).2.2.1 = some (tyX10 k) := by decide +kernel
abbrev cX10_init : ByteArray := prog_1_method_1_code
def yX10_init : MethodName := ⟨RX10, "<init>", "()V"⟩
abbrev cX10_feed : ByteArray := prog_1_method_2_code
def yX10_feed : MethodName := ⟨RX10, "feed", "(IIIII)I"⟩
abbrev cX10_append : ByteArray := prog_1_method_3_code
def yX10_append : MethodName := ⟨RX10, "append", "(I)V"⟩
abbrev cX10_trim : ByteArray := prog_1_method_4_code
def yX10_trim : MethodName := ⟨RX10, "trim", "(I)I"⟩
abbrev cX10_teach : ByteArray := prog_1_method_5_code
def yX10_teach : MethodName := ⟨RX10, "teach", "()I"⟩
abbrev cX10_adoptSpare : ByteArray := prog_1_method_6_code
def yX10_adoptSpare : MethodName := ⟨RX10, "adoptSpare", "()V"⟩
abbrev cX10_count : ByteArray := prog_1_method_8_code
def yX10_count : MethodName := ⟨RX10, "count", "(I)I"⟩
abbrev cX10_stretch : ByteArray := prog_1_method_9_code
def yX10_stretch : MethodName := ⟨RX10, "stretch", "(II)I"⟩
abbrev cX10_horse : ByteArray := prog_1_method_10_code
def yX10_horse : MethodName := ⟨RX10, "horse", "(II)I"⟩
abbrev cX10_log : ByteArray := prog_1_method_11_code
def yX10_log : MethodName := ⟨RX10, "log", "(II)I"⟩
abbrev cX10_needs : ByteArray := prog_1_method_12_code
def yX10_needs : MethodName := ⟨RX10, "needs", "(II)I"⟩
abbrev cX10_setWeather : ByteArray := prog_1_method_13_code
def yX10_setWeather : MethodName := ⟨RX10, "setWeather", "(I)I"⟩
abbrev cX10_forge : ByteArray := prog_1_method_14_code
def yX10_forge : MethodName := ⟨RX10, "forge", "(II)I"⟩
abbrev cX10_clear : ByteArray := prog_1_method_15_code
def yX10_clear : MethodName := ⟨RX10, "clear", "(I)I"⟩
abbrev cX10_pass : ByteArray := prog_1_method_16_code
def yX10_pass : MethodName := ⟨RX10, "pass", "(I)I"⟩
abbrev cX10_arrives : ByteArray := prog_1_method_17_code
def yX10_arrives : MethodName := ⟨RX10, "arrives", "(I)I"⟩
abbrev cX10_breaks : ByteArray := prog_1_method_18_code
def yX10_breaks : MethodName := ⟨RX10, "breaks", "(I)I"⟩
abbrev cX10_foresee : ByteArray := prog_1_method_19_code
def yX10_foresee : MethodName := ⟨RX10, "foresee", "(II)I"⟩
abbrev cX10_advise : ByteArray := prog_1_method_20_code
def yX10_advise : MethodName := ⟨RX10, "advise", "(I)I"⟩
abbrev cX10_choose : ByteArray := prog_1_method_21_code
def yX10_choose : MethodName := ⟨RX10, "choose", "(I)I"⟩
abbrev cX10_mean : ByteArray := prog_1_method_22_code
def yX10_mean : MethodName := ⟨RX10, "mean", "()D"⟩
abbrev cX10_digest : ByteArray := prog_1_method_23_code
def yX10_digest : MethodName := ⟨RX10, "digest", "()J"⟩
abbrev cX10_checkIndex : ByteArray := prog_1_method_24_code
def yX10_checkIndex : MethodName := ⟨RX10, "checkIndex", "(II)V"⟩
abbrev cX10_checkRange : ByteArray := prog_1_method_25_code
def yX10_checkRange : MethodName := ⟨RX10, "checkRange", "(III)V"⟩
def RX11 : String := "FjordHaulLaw$Sim"
def TX11 : u_T := fun k => match k with
  | 0 => ("FjordHaulLaw$Sim", "hour", "I", false)
  | 1 => ("FjordHaulLaw$Sim", "weather", "I", false)
  | 2 => ("FjordHaulLaw$Sim", "broken", "I", false)
  | 3 => ("FjordHaulLaw$Sim", "road", "[[I", false)
  | 4 => ("FjordHaulLaw$Sim", "horse", "[[I", false)
  | 5 => ("FjordHaulLaw$Sim", "log", "[[I", false)
  | 6 => ("FjordHaulLaw$Sim", "hauls", "[[I", false)
  | _ => ("FjordHaulLaw$Sim", "waits", "[[I", false)
def tyX11 : Nat → FieldType := fun k => match k with
  | 0 => .int
  | 1 => .int
  | 2 => .int
  | 3 => .array (.array .int)
  | 4 => .array (.array .int)
  | 5 => .array (.array .int)
  | 6 => .array (.array .int)
  | _ => .array (.array .int)
abbrev wsX110 : List Cond := u_ws RX11 TX11 8
theorem nmX11 : ∀ a, a < 8 → ∀ b, b < 8 → a ≠ b → (TX11 a).2.1 ≠ (TX11 b).2.1 := by decide +kernel
theorem tyX11_ok : ∀ k, k < 8 → parseFieldDescriptor (TX11 k).2.2.1 = some (tyX11 k) := by decide +kernel
abbrev cX11_init : ByteArray := prog_13_method_1_code
def yX11_init : MethodName := ⟨RX11, "<init>", "()V"⟩
abbrev cX11_weigh : ByteArray := prog_13_method_2_code
def yX11_weigh : MethodName := ⟨RX11, "weigh", "(II)I"⟩
abbrev cX11_number : ByteArray := prog_13_method_3_code
def yX11_number : MethodName := ⟨RX11, "number", "(II)I"⟩
abbrev cX11_load : ByteArray := prog_13_method_4_code
def yX11_load : MethodName := ⟨RX11, "load", "(I)I"⟩
abbrev cX11_needs : ByteArray := prog_13_method_5_code
def yX11_needs : MethodName := ⟨RX11, "needs", "(II)I"⟩
abbrev cX11_sum : ByteArray := prog_13_method_6_code
def yX11_sum : MethodName := ⟨RX11, "sum", "([I)I"⟩
abbrev cX11_holds : ByteArray := prog_13_method_7_code
def yX11_holds : MethodName := ⟨RX11, "holds", "(III)Z"⟩
abbrev cX11_haul : ByteArray := prog_13_method_8_code
def yX11_haul : MethodName := ⟨RX11, "haul", "(I)V"⟩
abbrev cX11_tire : ByteArray := prog_13_method_9_code
def yX11_tire : MethodName := ⟨RX11, "tire", "(II)V"⟩
abbrev cX11_move : ByteArray := prog_13_method_10_code
def yX11_move : MethodName := ⟨RX11, "move", "(I)V"⟩
abbrev cX11_pass : ByteArray := prog_13_method_11_code
def yX11_pass : MethodName := ⟨RX11, "pass", "()V"⟩
abbrev cX11_isSame : ByteArray := prog_13_method_14_code
def yX11_isSame : MethodName := ⟨RX11, "isSame", "(LFjordHaul;)Z"⟩
def RX12 : String := "FjordHaulModel$Plan"
def TX12 : u_T := fun k => match k with
  | _ => ("", "", "", false)
def tyX12 : Nat → FieldType := fun k => match k with
  | _ => .int
abbrev wsX120 : List Cond := u_ws RX12 TX12 0
theorem nmX12 : ∀ a, a < 0 → ∀ b, b < 0 → a ≠ b → (TX12 a).2.1 ≠ (TX12 b).2.1 := by decide +kernel
theorem tyX12_ok : ∀ k, k < 0 → parseFieldDescriptor (TX12 k).2.2.1 = some (tyX12 k) := by decide +kernel
def RX13 : String := "FjordHaulModel$State"
def TX13 : u_T := fun k => match k with
  | _ => ("", "", "", false)
def tyX13 : Nat → FieldType := fun k => match k with
  | _ => .int
abbrev wsX130 : List Cond := u_ws RX13 TX13 0
theorem nmX13 : ∀ a, a < 0 → ∀ b, b < 0 → a ≠ b → (TX13 a).2.1 ≠ (TX13 b).2.1 := by decide +kernel
theorem tyX13_ok : ∀ k, k < 0 → parseFieldDescriptor (TX13 k).2.2.1 = some (tyX13 k) := by decide +kernel
def RX14 : String := "FjordHaulModel"
def TX14 : u_T := fun k => match k with
  | _ => ("", "", "", false)
def tyX14 : Nat → FieldType := fun k => match k with
  | _ => .int
abbrev wsX140 : List Cond := u_ws RX14 TX14 0
theorem nmX14 : ∀ a, a < 0 → ∀ b, b < 0 → a ≠ b → (TX14 a).2.1 ≠ (TX14 b).2.1 := by decide +kernel
theorem tyX14_ok : ∀ k, k < 0 → parseFieldDescriptor (TX14 k).2.2.1 = some (tyX14 k) := by decide +kernel
def RJ5 : String := "java/lang/AbstractStringBuilder"
def TJ5 : u_T := fun k => match k with
  | _ => ("", "", "", false)
def tyJ5 : Nat → FieldType := fun k => match k with
  | _ => .int
abbrev wsJ50 : List Cond := u_ws RJ5 TJ5 0
theorem nmJ5 : ∀ a, a < 0 → ∀ b, b < 0 → a ≠ b → (TJ5 a).2.1 ≠ (TJ5 b).2.1 := by decide +kernel
theorem tyJ5_ok : ∀ k, k < 0 → parseFieldDescriptor (TJ5 k).2.2.1 = some (tyJ5 k) := by decide +kernel
abbrev cJ5_init_d00df : ByteArray := prog_17_method_2_code
def yJ5_init_d00df : MethodName := ⟨RJ5, "<init>", "(I)V"⟩
abbrev cJ5_length_8abf5 : ByteArray := prog_17_method_6_code
def yJ5_length_8abf5 : MethodName := ⟨RJ5, "length", "()I"⟩
abbrev cJ5_ensureCapacityInternal_d00df : ByteArray := prog_17_method_9_code
def yJ5_ensureCapacityInternal_d00df : MethodName := ⟨RJ5, "ensureCapacityInternal", "(I)V"⟩
abbrev cJ5_newCapacity_0f7a4 : ByteArray := prog_17_method_10_code
def yJ5_newCapacity_0f7a4 : MethodName := ⟨RJ5, "newCapacity", "(I)I"⟩
abbrev cJ5_inflate_da8c8 : ByteArray := prog_17_method_11_code
def yJ5_inflate_da8c8 : MethodName := ⟨RJ5, "inflate", "()V"⟩
abbrev cJ5_append_cf1ce : ByteArray := prog_17_method_22_code
def yJ5_append_cf1ce : MethodName := ⟨RJ5, "append", "(Ljava/lang/String;)Ljava/lang/AbstractStringBuilder;"⟩
abbrev cJ5_appendNull_278bc : ByteArray := prog_17_method_26_code
def yJ5_appendNull_278bc : MethodName := ⟨RJ5, "appendNull", "()Ljava/lang/AbstractStringBuilder;"⟩
abbrev cJ5_append_c97b9 : ByteArray := prog_17_method_32_code
def yJ5_append_c97b9 : MethodName := ⟨RJ5, "append", "(I)Ljava/lang/AbstractStringBuilder;"⟩
abbrev cJ5_getValue_6d5f1 : ByteArray := prog_17_method_64_code
def yJ5_getValue_6d5f1 : MethodName := ⟨RJ5, "getValue", "()[B"⟩
abbrev cJ5_isLatin1_aae02 : ByteArray := prog_17_method_68_code
def yJ5_isLatin1_aae02 : MethodName := ⟨RJ5, "isLatin1", "()Z"⟩
abbrev cJ5_inflateIfNeededFor_a7421 : ByteArray := prog_17_method_71_code
def yJ5_inflateIfNeededFor_a7421 : MethodName := ⟨RJ5, "inflateIfNeededFor", "(Ljava/lang/String;)V"⟩
abbrev cJ5_putStringAt_47b60 : ByteArray := prog_17_method_73_code
def yJ5_putStringAt_47b60 : MethodName := ⟨RJ5, "putStringAt", "(ILjava/lang/String;)V"⟩
def RJx8e188 : String := "java/lang/Cloneable"
def TJx8e188 : u_T := fun k => match k with
  | _ => ("", "", "", false)
def tyJx8e188 : Nat → FieldType := fun k => match k with
  | _ => .int
abbrev wsJx8e1880 : List Cond := u_ws RJx8e188 TJx8e188 0
theorem nmJx8e188 : ∀ a, a < 0 → ∀ b, b < 0 → a ≠ b → (TJx8e188 a).2.1 ≠ (TJx8e188 b).2.1 := by decide +kernel
theorem tyJx8e188_ok : ∀ k, k < 0 → parseFieldDescriptor (TJx8e188 k).2.2.1 = some (tyJx8e188 k) := by decide +kernel
def RJx29ce0 : String := "java/lang/Enum"
def TJx29ce0 : u_T := fun k => match k with
  | _ => ("", "", "", false)
def tyJx29ce0 : Nat → FieldType := fun k => match k with
  | _ => .int
abbrev wsJx29ce00 : List Cond := u_ws RJx29ce0 TJx29ce0 0
theorem nmJx29ce0 : ∀ a, a < 0 → ∀ b, b < 0 → a ≠ b → (TJx29ce0 a).2.1 ≠ (TJx29ce0 b).2.1 := by decide +kernel
theorem tyJx29ce0_ok : ∀ k, k < 0 → parseFieldDescriptor (TJx29ce0 k).2.2.1 = some (tyJx29ce0 k) := by decide +kernel
abbrev cJx29ce0_ordinal_8abf5 : ByteArray := prog_19_method_2_code
def yJx29ce0_ordinal_8abf5 : MethodName := ⟨RJx29ce0, "ordinal", "()I"⟩
def RJ6 : String := "java/lang/Integer"
def TJ6 : u_T := fun k => match k with
  | _ => ("", "", "", false)
def tyJ6 : Nat → FieldType := fun k => match k with
  | _ => .int
abbrev wsJ60 : List Cond := u_ws RJ6 TJ6 0
theorem nmJ6 : ∀ a, a < 0 → ∀ b, b < 0 → a ≠ b → (TJ6 a).2.1 ≠ (TJ6 b).2.1 := by decide +kernel
theorem tyJ6_ok : ∀ k, k < 0 → parseFieldDescriptor (TJ6 k).2.2.1 = some (tyJ6 k) := by decide +kernel
abbrev cJ6_getChars_ba4f3 : ByteArray := prog_24_method_12_code
def yJ6_getChars_ba4f3 : MethodName := ⟨RJ6, "getChars", "(II[B)I"⟩
abbrev cJ6_stringSize_0f7a4 : ByteArray := prog_24_method_13_code
def yJ6_stringSize_0f7a4 : MethodName := ⟨RJ6, "stringSize", "(I)I"⟩
def RJ9 : String := "java/lang/Math"
def TJ9 : u_T := fun k => match k with
  | _ => ("", "", "", false)
def tyJ9 : Nat → FieldType := fun k => match k with
  | _ => .int
abbrev wsJ90 : List Cond := u_ws RJ9 TJ9 0
theorem nmJ9 : ∀ a, a < 0 → ∀ b, b < 0 → a ≠ b → (TJ9 a).2.1 ≠ (TJ9 b).2.1 := by decide +kernel
theorem tyJ9_ok : ∀ k, k < 0 → parseFieldDescriptor (TJ9 k).2.2.1 = some (tyJ9 k) := by decide +kernel
abbrev cJ9_abs_0f7a4 : ByteArray := prog_25_method_59_code
def yJ9_abs_0f7a4 : MethodName := ⟨RJ9, "abs", "(I)I"⟩
abbrev cJ9_max_7cf53 : ByteArray := prog_25_method_65_code
def yJ9_max_7cf53 : MethodName := ⟨RJ9, "max", "(II)I"⟩
abbrev cJ9_min_7cf53 : ByteArray := prog_25_method_69_code
def yJ9_min_7cf53 : MethodName := ⟨RJ9, "min", "(II)I"⟩
def RJ0 : String := "java/lang/String"
def TJ0 : u_T := fun k => match k with
  | 0 => ("java/lang/String", "value", "[B", true)
  | 1 => ("java/lang/String", "coder", "B", true)
  | 2 => ("java/lang/String", "hash", "I", false)
  | _ => ("java/lang/String", "hashIsZero", "Z", false)
def tyJ0 : Nat → FieldType := fun k => match k with
  | 0 => .array .byte
  | 1 => .byte
  | 2 => .int
  | _ => .boolean
abbrev wsJ00 : List Cond := u_ws RJ0 TJ0 4
theorem nmJ0 : ∀ a, a < 4 → ∀ b, b < 4 → a ≠ b → (TJ0 a).2.1 ≠ (TJ0 b).2.1 := by decide +kernel
theorem tyJ0_ok : ∀ k, k < 4 → parseFieldDescriptor (TJ0 k).2.2.1 = some (tyJ0 k) := by decide +kernel
abbrev cJ0_init_81219 : ByteArray := prog_27_method_53_code
def yJ0_init_81219 : MethodName := ⟨RJ0, "<init>", "(Ljava/lang/StringBuilder;)V"⟩
abbrev cJ0_length_8abf5 : ByteArray := prog_27_method_54_code
def yJ0_length_8abf5 : MethodName := ⟨RJ0, "length", "()I"⟩
abbrev cJ0_charAt_5068e : ByteArray := prog_27_method_56_code
def yJ0_charAt_5068e : MethodName := ⟨RJ0, "charAt", "(I)C"⟩
abbrev cJ0_getBytes_840e7 : ByteArray := prog_27_method_147_code
def yJ0_getBytes_840e7 : MethodName := ⟨RJ0, "getBytes", "([BIB)V"⟩
abbrev cJ0_init_db425 : ByteArray := prog_27_method_150_code
def yJ0_init_db425 : MethodName := ⟨RJ0, "<init>", "(Ljava/lang/AbstractStringBuilder;Ljava/lang/Void;)V"⟩
abbrev cJ0_coder_7d493 : ByteArray := prog_27_method_152_code
def yJ0_coder_7d493 : MethodName := ⟨RJ0, "coder", "()B"⟩
abbrev cJ0_isLatin1_aae02 : ByteArray := prog_27_method_154_code
def yJ0_isLatin1_aae02 : MethodName := ⟨RJ0, "isLatin1", "()Z"⟩
abbrev cJ0_checkIndex_df160 : ByteArray := prog_27_method_155_code
def yJ0_checkIndex_df160 : MethodName := ⟨RJ0, "checkIndex", "(II)V"⟩
abbrev cJ0_checkBoundsOffCount_cabcc : ByteArray := prog_27_method_157_code
def yJ0_checkBoundsOffCount_cabcc : MethodName := ⟨RJ0, "checkBoundsOffCount", "(III)I"⟩
abbrev cJ0_checkBoundsBeginEnd_23922 : ByteArray := prog_27_method_158_code
def yJ0_checkBoundsBeginEnd_23922 : MethodName := ⟨RJ0, "checkBoundsBeginEnd", "(III)V"⟩
def RJ4 : String := "java/lang/StringBuilder"
def TJ4 : u_T := fun k => match k with
  | 0 => ("java/lang/AbstractStringBuilder", "value", "[B", false)
  | 1 => ("java/lang/AbstractStringBuilder", "coder", "B", false)
  | 2 => ("java/lang/AbstractStringBuilder", "maybeLatin1", "Z", false)
  | _ => ("java/lang/AbstractStringBuilder", "count", "I", false)
def tyJ4 : Nat → FieldType := fun k => match k with
  | 0 => .array .byte
  | 1 => .byte
  | 2 => .boolean
  | _ => .int
abbrev wsJ40 : List Cond := u_ws RJ4 TJ4 4
theorem nmJ4 : ∀ a, a < 4 → ∀ b, b < 4 → a ≠ b → (TJ4 a).2.1 ≠ (TJ4 b).2.1 := by decide +kernel
theorem tyJ4_ok : ∀ k, k < 4 → parseFieldDescriptor (TJ4 k).2.2.1 = some (tyJ4 k) := by decide +kernel
abbrev cJ4_init_da8c8 : ByteArray := prog_28_method_1_code
def yJ4_init_da8c8 : MethodName := ⟨RJ4, "<init>", "()V"⟩
abbrev cJ4_append_15ec4 : ByteArray := prog_28_method_7_code
def yJ4_append_15ec4 : MethodName := ⟨RJ4, "append", "(Ljava/lang/String;)Ljava/lang/StringBuilder;"⟩
abbrev cJ4_append_bf812 : ByteArray := prog_28_method_15_code
def yJ4_append_bf812 : MethodName := ⟨RJ4, "append", "(I)Ljava/lang/StringBuilder;"⟩
abbrev cJ4_toString_0e30d : ByteArray := prog_28_method_42_code
def yJ4_toString_0e30d : MethodName := ⟨RJ4, "toString", "()Ljava/lang/String;"⟩
abbrev cJ4_length_8abf5 : ByteArray := prog_28_method_93_code
def yJ4_length_8abf5 : MethodName := ⟨RJ4, "length", "()I"⟩
def RJ1 : String := "java/lang/StringLatin1"
def TJ1 : u_T := fun k => match k with
  | _ => ("", "", "", false)
def tyJ1 : Nat → FieldType := fun k => match k with
  | _ => .int
abbrev wsJ10 : List Cond := u_ws RJ1 TJ1 0
theorem nmJ1 : ∀ a, a < 0 → ∀ b, b < 0 → a ≠ b → (TJ1 a).2.1 ≠ (TJ1 b).2.1 := by decide +kernel
theorem tyJ1_ok : ∀ k, k < 0 → parseFieldDescriptor (TJ1 k).2.2.1 = some (tyJ1 k) := by decide +kernel
abbrev cJ1_charAt_3b067 : ByteArray := prog_29_method_2_code
def yJ1_charAt_3b067 : MethodName := ⟨RJ1, "charAt", "([BI)C"⟩
abbrev cJ1_inflate_0e8fd : ByteArray := prog_29_method_50_code
def yJ1_inflate_0e8fd : MethodName := ⟨RJ1, "inflate", "([BI[BII)V"⟩
def RJ2 : String := "java/lang/StringUTF16"
def TJ2 : u_T := fun k => match k with
  | _ => ("", "", "", false)
def tyJ2 : Nat → FieldType := fun k => match k with
  | _ => .int
abbrev wsJ20 : List Cond := u_ws RJ2 TJ2 0
theorem nmJ2 : ∀ a, a < 0 → ∀ b, b < 0 → a ≠ b → (TJ2 a).2.1 ≠ (TJ2 b).2.1 := by decide +kernel
theorem tyJ2_ok : ∀ k, k < 0 → parseFieldDescriptor (TJ2 k).2.2.1 = some (tyJ2 k) := by decide +kernel
abbrev cJ2_newBytesFor_77867 : ByteArray := prog_30_method_2_code
def yJ2_newBytesFor_77867 : MethodName := ⟨RJ2, "newBytesFor", "(I)[B"⟩
abbrev cJ2_newBytesLength_0f7a4 : ByteArray := prog_30_method_3_code
def yJ2_newBytesLength_0f7a4 : MethodName := ⟨RJ2, "newBytesLength", "(I)I"⟩
abbrev cJ2_putChar_b72d1 : ByteArray := prog_30_method_4_code
def yJ2_putChar_b72d1 : MethodName := ⟨RJ2, "putChar", "([BII)V"⟩
abbrev cJ2_getChar_3b067 : ByteArray := prog_30_method_5_code
def yJ2_getChar_3b067 : MethodName := ⟨RJ2, "getChar", "([BI)C"⟩
abbrev cJ2_length_9d52b : ByteArray := prog_30_method_6_code
def yJ2_length_9d52b : MethodName := ⟨RJ2, "length", "([B)I"⟩
abbrev cJ2_coderFromArrayLen_85cad : ByteArray := prog_30_method_15_code
def yJ2_coderFromArrayLen_85cad : MethodName := ⟨RJ2, "coderFromArrayLen", "([BI)B"⟩
abbrev cJ2_compress_39247 : ByteArray := prog_30_method_17_code
def yJ2_compress_39247 : MethodName := ⟨RJ2, "compress", "([BII)[B"⟩
abbrev cJ2_compress_5af95 : ByteArray := prog_30_method_22_code
def yJ2_compress_5af95 : MethodName := ⟨RJ2, "compress", "([BI[BII)I"⟩
abbrev cJ2_getChars_46870 : ByteArray := prog_30_method_77_code
def yJ2_getChars_46870 : MethodName := ⟨RJ2, "getChars", "(III[B)I"⟩
abbrev cJ2_putCharsAt_cd4e5 : ByteArray := prog_30_method_81_code
def yJ2_putCharsAt_cd4e5 : MethodName := ⟨RJ2, "putCharsAt", "([BICCCC)I"⟩
abbrev cJ2_charAt_3b067 : ByteArray := prog_30_method_83_code
def yJ2_charAt_3b067 : MethodName := ⟨RJ2, "charAt", "([BI)C"⟩
abbrev cJ2_inflate_0e8fd : ByteArray := prog_30_method_86_code
def yJ2_inflate_0e8fd : MethodName := ⟨RJ2, "inflate", "([BI[BII)V"⟩
abbrev cJ2_getChars_ba4f3 : ByteArray := prog_30_method_89_code
def yJ2_getChars_ba4f3 : MethodName := ⟨RJ2, "getChars", "(II[B)I"⟩
abbrev cJ2_checkIndex_2214a : ByteArray := prog_30_method_91_code
def yJ2_checkIndex_2214a : MethodName := ⟨RJ2, "checkIndex", "(I[B)V"⟩
abbrev cJ2_checkBoundsBeginEnd_d044e : ByteArray := prog_30_method_93_code
def yJ2_checkBoundsBeginEnd_d044e : MethodName := ⟨RJ2, "checkBoundsBeginEnd", "(II[B)V"⟩
abbrev cJ2_checkBoundsOffCount_d044e : ByteArray := prog_30_method_94_code
def yJ2_checkBoundsOffCount_d044e : MethodName := ⟨RJ2, "checkBoundsOffCount", "(II[B)V"⟩
def RJ10 : String := "java/lang/System"
def TJ10 : u_T := fun k => match k with
  | _ => ("", "", "", false)
def tyJ10 : Nat → FieldType := fun k => match k with
  | _ => .int
abbrev wsJ100 : List Cond := u_ws RJ10 TJ10 0
theorem nmJ10 : ∀ a, a < 0 → ∀ b, b < 0 → a ≠ b → (TJ10 a).2.1 ≠ (TJ10 b).2.1 := by decide +kernel
theorem tyJ10_ok : ∀ k, k < 0 → parseFieldDescriptor (TJ10 k).2.2.1 = some (tyJ10 k) := by decide +kernel
def RJ7 : String := "java/util/Arrays"
def TJ7 : u_T := fun k => match k with
  | _ => ("", "", "", false)
def tyJ7 : Nat → FieldType := fun k => match k with
  | _ => .int
abbrev wsJ70 : List Cond := u_ws RJ7 TJ7 0
theorem nmJ7 : ∀ a, a < 0 → ∀ b, b < 0 → a ≠ b → (TJ7 a).2.1 ≠ (TJ7 b).2.1 := by decide +kernel
theorem tyJ7_ok : ∀ k, k < 0 → parseFieldDescriptor (TJ7 k).2.2.1 = some (tyJ7 k) := by decide +kernel
abbrev cJ7_copyOf_9075b : ByteArray := prog_33_method_121_code
def yJ7_copyOf_9075b : MethodName := ⟨RJ7, "copyOf", "([BI)[B"⟩
abbrev cJ7_checkLength_df160 : ByteArray := prog_33_method_131_code
def yJ7_checkLength_df160 : MethodName := ⟨RJ7, "checkLength", "(II)V"⟩
abbrev cJ7_copyOfRange_39247 : ByteArray := prog_33_method_132_code
def yJ7_copyOfRange_39247 : MethodName := ⟨RJ7, "copyOfRange", "([BII)[B"⟩
abbrev cJ7_copyOfRangeByte_39247 : ByteArray := prog_33_method_133_code
def yJ7_copyOfRangeByte_39247 : MethodName := ⟨RJ7, "copyOfRangeByte", "([BII)[B"⟩
def RJ8 : String := "jdk/internal/util/ArraysSupport"
def TJ8 : u_T := fun k => match k with
  | _ => ("", "", "", false)
def tyJ8 : Nat → FieldType := fun k => match k with
  | _ => .int
abbrev wsJ80 : List Cond := u_ws RJ8 TJ8 0
theorem nmJ8 : ∀ a, a < 0 → ∀ b, b < 0 → a ≠ b → (TJ8 a).2.1 ≠ (TJ8 b).2.1 := by decide +kernel
theorem tyJ8_ok : ∀ k, k < 0 → parseFieldDescriptor (TJ8 k).2.2.1 = some (tyJ8 k) := by decide +kernel
abbrev cJ8_newLength_cabcc : ByteArray := prog_34_method_27_code
def yJ8_newLength_cabcc : MethodName := ⟨RJ8, "newLength", "(III)I"⟩
abbrev cJ8_hugeLength_7cf53 : ByteArray := prog_34_method_28_code
def yJ8_hugeLength_7cf53 : MethodName := ⟨RJ8, "hugeLength", "(II)I"⟩
def RJ3 : String := "jdk/internal/util/Preconditions"
def TJ3 : u_T := fun k => match k with
  | _ => ("", "", "", false)
def tyJ3 : Nat → FieldType := fun k => match k with
  | _ => .int
abbrev wsJ30 : List Cond := u_ws RJ3 TJ3 0
theorem nmJ3 : ∀ a, a < 0 → ∀ b, b < 0 → a ≠ b → (TJ3 a).2.1 ≠ (TJ3 b).2.1 := by decide +kernel
theorem tyJ3_ok : ∀ k, k < 0 → parseFieldDescriptor (TJ3 k).2.2.1 = some (tyJ3 k) := by decide +kernel
abbrev cJ3_checkIndex_8e157 : ByteArray := prog_35_method_11_code
def yJ3_checkIndex_8e157 : MethodName := ⟨RJ3, "checkIndex", "(IILjava/util/function/BiFunction;)I"⟩
abbrev cJ3_checkFromToIndex_8c36e : ByteArray := prog_35_method_12_code
def yJ3_checkFromToIndex_8c36e : MethodName := ⟨RJ3, "checkFromToIndex", "(IIILjava/util/function/BiFunction;)I"⟩
abbrev cJ3_checkFromIndexSize_8c36e : ByteArray := prog_35_method_13_code
def yJ3_checkFromIndexSize_8c36e : MethodName := ⟨RJ3, "checkFromIndexSize", "(IIILjava/util/function/BiFunction;)I"⟩
def RL : String := "FjordHaulLaw"
abbrev cL_below : ByteArray := method_2_code
def yL_below : MethodName := ⟨RL, "below", "(II)I"⟩
abbrev cL_cell : ByteArray := method_3_code
def yL_cell : MethodName := ⟨RL, "cell", "([II)I"⟩
abbrev cL_taught : ByteArray := method_4_code
def yL_taught : MethodName := ⟨RL, "taught", "(LFjordHaul;Ljava/lang/String;)I"⟩
abbrev cL_test : ByteArray := method_5_code
def yL_test : MethodName := ⟨RL, "test", "(IIILFjordHaulLaw$Sim;)Ljava/lang/String;"⟩
abbrev cL_sum : ByteArray := method_6_code
def yL_sum : MethodName := ⟨RL, "sum", "([ILFjordHaulLaw$Sim;)Ljava/lang/String;"⟩
abbrev cL_list : ByteArray := method_7_code
def yL_list : MethodName := ⟨RL, "list", "([ILjava/lang/StringBuilder;)LFjordHaulLaw$Sim;"⟩
abbrev cL_act : ByteArray := method_8_code
def yL_act : MethodName := ⟨RL, "act", "(LFjordHaul;LFjordHaulLaw$Sim;I)Z"⟩
abbrev cL_law : ByteArray := code
def yL_law : MethodName := ⟨RL, "law", "([I)Z"⟩
abbrev vwCl : List vw_C := [(RX1, TX1, 11), (RX2, TX2, 5), (RX3, TX3, 5), (RX4, TX4, 8), (RX5, TX5, 8), (RX6, TX6, 9), (RX8, TX8, 4), (RX9, TX9, 6), (RX10, TX10, 8), (RX11, TX11, 8), (RJ0, TJ0, 4), (RJ4, TJ4, 4)]
