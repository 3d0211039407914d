/-! ===== BEGIN printed: names, fields, word lists, decode rows ===== -/
def RX0 : String := "ClaqueRow$Cue"
def TX0 : u_T := fun k => match k with
  | 0 => ("ClaqueRow$Cue", "singer", "LClaqueRow$Singer;", true)
  | 1 => ("ClaqueRow$Cue", "kind", "C", true)
  | 2 => ("ClaqueRow$Cue", "tick", "I", true)
  | 3 => ("ClaqueRow$Cue", "force", "I", true)
  | _ => ("ClaqueRow$Cue", "ticks", "I", true)
def tyX0 : Nat → FieldType := fun k => match k with
  | 0 => .object "ClaqueRow$Singer"
  | 1 => .char
  | 2 => .int
  | 3 => .int
  | _ => .int
abbrev wsX00 : List Cond := u_ws RX0 TX0 5
theorem nmX0 : ∀ a, a < 5 → ∀ b, b < 5 → a ≠ b → (TX0 a).2.1 ≠ (TX0 b).2.1 := by decide +kernel
theorem tyX0_ok : ∀ k, k < 5 → parseFieldDescriptor (TX0 k).2.2.1 = some (tyX0 k) := by decide +kernel
abbrev cX0_init : ByteArray := prog_2_method_1_code
def yX0_init : MethodName := ⟨RX0, "<init>", "(LClaqueRow$Singer;CIII)V"⟩
abbrev cX0_lastTick : ByteArray := prog_2_method_2_code
def yX0_lastTick : MethodName := ⟨RX0, "lastTick", "()I"⟩
abbrev cX0_isOnIn : ByteArray := prog_2_method_3_code
def yX0_isOnIn : MethodName := ⟨RX0, "isOnIn", "(I)Z"⟩
def RX1 : String := "ClaqueRow$Evening"
def TX1 : u_T := fun k => match k with
  | 0 => ("ClaqueRow$Evening", "cues", "Ljava/util/ArrayList;", true)
  | 1 => ("ClaqueRow$Evening", "level", "I", false)
  | 2 => ("ClaqueRow$Evening", "ticks", "I", false)
  | 3 => ("ClaqueRow$Evening", "loudTicks", "I", false)
  | 4 => ("ClaqueRow$Evening", "calls", "I", false)
  | 5 => ("ClaqueRow$Evening", "hisses", "I", false)
  | _ => ("ClaqueRow$Evening", "suspicions", "I", false)
def tyX1 : Nat → FieldType := fun k => match k with
  | 0 => .object "java/util/ArrayList"
  | 1 => .int
  | 2 => .int
  | 3 => .int
  | 4 => .int
  | 5 => .int
  | _ => .int
abbrev wsX10 : List Cond := u_ws RX1 TX1 7
theorem nmX1 : ∀ a, a < 7 → ∀ b, b < 7 → a ≠ b → (TX1 a).2.1 ≠ (TX1 b).2.1 := by decide +kernel
theorem tyX1_ok : ∀ k, k < 7 → parseFieldDescriptor (TX1 k).2.2.1 = some (tyX1 k) := by decide +kernel
abbrev cX1_init : ByteArray := prog_3_method_1_code
def yX1_init : MethodName := ⟨RX1, "<init>", "()V"⟩
abbrev cX1_begin : ByteArray := prog_3_method_2_code
def yX1_begin : MethodName := ⟨RX1, "begin", "()V"⟩
abbrev cX1_handsAreFoundOut : ByteArray := prog_3_method_3_code
def yX1_handsAreFoundOut : MethodName := ⟨RX1, "handsAreFoundOut", "()Z"⟩
abbrev cX1_passTick : ByteArray := prog_3_method_4_code
def yX1_passTick : MethodName := ⟨RX1, "passTick", "(LClaqueRow$House;)V"⟩
abbrev cX1_soundSeat : ByteArray := prog_3_method_5_code
def yX1_soundSeat : MethodName := ⟨RX1, "soundSeat", "(LClaqueRow$House;II)V"⟩
abbrev cX1_noiseOf : ByteArray := prog_3_method_6_code
def yX1_noiseOf : MethodName := ⟨RX1, "noiseOf", "(LClaqueRow$Hand;)I"⟩
abbrev cX1_hearNoise : ByteArray := prog_3_method_7_code
def yX1_hearNoise : MethodName := ⟨RX1, "hearNoise", "(I)V"⟩
abbrev cX1_lastBegunCue : ByteArray := prog_3_method_8_code
def yX1_lastBegunCue : MethodName := ⟨RX1, "lastBegunCue", "()LClaqueRow$Cue;"⟩
abbrev cX1_judgeCues : ByteArray := prog_3_method_9_code
def yX1_judgeCues : MethodName := ⟨RX1, "judgeCues", "(II)V"⟩
abbrev cX1_hasBegunCueFor : ByteArray := prog_3_method_10_code
def yX1_hasBegunCueFor : MethodName := ⟨RX1, "hasBegunCueFor", "(LClaqueRow$Singer;)Z"⟩
def RX2 : String := "ClaqueRow$Hand"
def TX2 : u_T := fun k => match k with
  | 0 => ("ClaqueRow$Hand", "kind", "C", true)
  | 1 => ("ClaqueRow$Hand", "strength", "I", true)
  | 2 => ("ClaqueRow$Hand", "rank", "I", true)
  | 3 => ("ClaqueRow$Hand", "price", "I", true)
  | 4 => ("ClaqueRow$Hand", "money", "I", false)
  | _ => ("ClaqueRow$Hand", "seat", "LClaqueRow$Seat;", false)
def tyX2 : Nat → FieldType := fun k => match k with
  | 0 => .char
  | 1 => .int
  | 2 => .int
  | 3 => .int
  | 4 => .int
  | _ => .object "ClaqueRow$Seat"
abbrev wsX20 : List Cond := u_ws RX2 TX2 6
theorem nmX2 : ∀ a, a < 6 → ∀ b, b < 6 → a ≠ b → (TX2 a).2.1 ≠ (TX2 b).2.1 := by decide +kernel
theorem tyX2_ok : ∀ k, k < 6 → parseFieldDescriptor (TX2 k).2.2.1 = some (tyX2 k) := by decide +kernel
abbrev cX2_init : ByteArray := prog_4_method_1_code
def yX2_init : MethodName := ⟨RX2, "<init>", "(CIII)V"⟩
abbrev cX2_parts : ByteArray := prog_4_method_2_code
def yX2_parts : MethodName := ⟨RX2, "parts", "()I"⟩
abbrev cX2_follows : ByteArray := prog_4_method_3_code
def yX2_follows : MethodName := ⟨RX2, "follows", "(LClaqueRow$Cue;)Z"⟩
def RX3 : String := "ClaqueRow$House"
def TX3 : u_T := fun k => match k with
  | 0 => ("ClaqueRow$House", "seats", "[LClaqueRow$Seat;", true)
  | 1 => ("ClaqueRow$House", "rows", "I", false)
  | _ => ("ClaqueRow$House", "columns", "I", false)
def tyX3 : Nat → FieldType := fun k => match k with
  | 0 => .array (.object "ClaqueRow$Seat")
  | 1 => .int
  | _ => .int
abbrev wsX30 : List Cond := u_ws RX3 TX3 3
theorem nmX3 : ∀ a, a < 3 → ∀ b, b < 3 → a ≠ b → (TX3 a).2.1 ≠ (TX3 b).2.1 := by decide +kernel
theorem tyX3_ok : ∀ k, k < 3 → parseFieldDescriptor (TX3 k).2.2.1 = some (tyX3 k) := by decide +kernel
abbrev cX3_init : ByteArray := prog_5_method_1_code
def yX3_init : MethodName := ⟨RX3, "<init>", "()V"⟩
abbrev cX3_build : ByteArray := prog_5_method_2_code
def yX3_build : MethodName := ⟨RX3, "build", "(II)V"⟩
abbrev cX3_seatOrNull : ByteArray := prog_5_method_3_code
def yX3_seatOrNull : MethodName := ⟨RX3, "seatOrNull", "(II)LClaqueRow$Seat;"⟩
abbrev cX3_forgetEvening : ByteArray := prog_5_method_4_code
def yX3_forgetEvening : MethodName := ⟨RX3, "forgetEvening", "()V"⟩
abbrev cX3_keepTickAhead : ByteArray := prog_5_method_5_code
def yX3_keepTickAhead : MethodName := ⟨RX3, "keepTickAhead", "()V"⟩
abbrev cX3_around : ByteArray := prog_5_method_6_code
def yX3_around : MethodName := ⟨RX3, "around", "(II)I"⟩
abbrev cX3_noiseSum : ByteArray := prog_5_method_7_code
def yX3_noiseSum : MethodName := ⟨RX3, "noiseSum", "()I"⟩
abbrev cX3_countJoined : ByteArray := prog_5_method_8_code
def yX3_countJoined : MethodName := ⟨RX3, "countJoined", "()I"⟩
abbrev cX3_countSeated : ByteArray := prog_5_method_9_code
def yX3_countSeated : MethodName := ⟨RX3, "countSeated", "(C)I"⟩
abbrev cX3_countNoisy : ByteArray := prog_5_method_10_code
def yX3_countNoisy : MethodName := ⟨RX3, "countNoisy", "(C)I"⟩
abbrev cX3_isInOrder : ByteArray := prog_5_method_11_code
def yX3_isInOrder : MethodName := ⟨RX3, "isInOrder", "()Z"⟩
def RX4 : String := "ClaqueRow$Seat"
def TX4 : u_T := fun k => match k with
  | 0 => ("ClaqueRow$Seat", "who", "C", false)
  | 1 => ("ClaqueRow$Seat", "threshold", "I", false)
  | 2 => ("ClaqueRow$Seat", "hand", "LClaqueRow$Hand;", false)
  | 3 => ("ClaqueRow$Seat", "noise", "I", false)
  | 4 => ("ClaqueRow$Seat", "noiseAhead", "I", false)
  | 5 => ("ClaqueRow$Seat", "joined", "Z", false)
  | 6 => ("ClaqueRow$Seat", "joins", "I", false)
  | 7 => ("ClaqueRow$Seat", "hissed", "Z", false)
  | _ => ("ClaqueRow$Seat", "hissedAhead", "Z", false)
def tyX4 : Nat → FieldType := fun k => match k with
  | 0 => .char
  | 1 => .int
  | 2 => .object "ClaqueRow$Hand"
  | 3 => .int
  | 4 => .int
  | 5 => .boolean
  | 6 => .int
  | 7 => .boolean
  | _ => .boolean
abbrev wsX40 : List Cond := u_ws RX4 TX4 9
theorem nmX4 : ∀ a, a < 9 → ∀ b, b < 9 → a ≠ b → (TX4 a).2.1 ≠ (TX4 b).2.1 := by decide +kernel
theorem tyX4_ok : ∀ k, k < 9 → parseFieldDescriptor (TX4 k).2.2.1 = some (tyX4 k) := by decide +kernel
abbrev cX4_init : ByteArray := prog_6_method_1_code
def yX4_init : MethodName := ⟨RX4, "<init>", "()V"⟩
abbrev cX4_take : ByteArray := prog_6_method_2_code
def yX4_take : MethodName := ⟨RX4, "take", "(C)C"⟩
abbrev cX4_forgetEvening : ByteArray := prog_6_method_3_code
def yX4_forgetEvening : MethodName := ⟨RX4, "forgetEvening", "()V"⟩
abbrev cX4_keepTickAhead : ByteArray := prog_6_method_4_code
def yX4_keepTickAhead : MethodName := ⟨RX4, "keepTickAhead", "()V"⟩
abbrev cX4_heardByNeighbours : ByteArray := prog_6_method_5_code
def yX4_heardByNeighbours : MethodName := ⟨RX4, "heardByNeighbours", "()I"⟩
abbrev cX4_tirednessNow : ByteArray := prog_6_method_6_code
def yX4_tirednessNow : MethodName := ⟨RX4, "tirednessNow", "()I"⟩
abbrev cX4_soundAsPayer : ByteArray := prog_6_method_7_code
def yX4_soundAsPayer : MethodName := ⟨RX4, "soundAsPayer", "(I)V"⟩
abbrev cX4_isInOrder : ByteArray := prog_6_method_8_code
def yX4_isInOrder : MethodName := ⟨RX4, "isInOrder", "()Z"⟩
def RX5 : String := "ClaqueRow$Singer"
def TX5 : u_T := fun k => match k with
  | 0 => ("ClaqueRow$Singer", "night", "I", true)
  | 1 => ("ClaqueRow$Singer", "perCall", "I", true)
  | 2 => ("ClaqueRow$Singer", "calls", "I", false)
  | _ => ("ClaqueRow$Singer", "owed", "I", false)
def tyX5 : Nat → FieldType := fun k => match k with
  | 0 => .int
  | 1 => .int
  | 2 => .int
  | _ => .int
abbrev wsX50 : List Cond := u_ws RX5 TX5 4
theorem nmX5 : ∀ a, a < 4 → ∀ b, b < 4 → a ≠ b → (TX5 a).2.1 ≠ (TX5 b).2.1 := by decide +kernel
theorem tyX5_ok : ∀ k, k < 4 → parseFieldDescriptor (TX5 k).2.2.1 = some (tyX5 k) := by decide +kernel
abbrev cX5_init : ByteArray := prog_7_method_1_code
def yX5_init : MethodName := ⟨RX5, "<init>", "(II)V"⟩
def RX6 : String := "ClaqueRow$Troupe"
def TX6 : u_T := fun k => match k with
  | _ => ("ClaqueRow$Troupe", "hands", "Ljava/util/ArrayList;", true)
def tyX6 : Nat → FieldType := fun k => match k with
  | _ => .object "java/util/ArrayList"
abbrev wsX60 : List Cond := u_ws RX6 TX6 1
theorem nmX6 : ∀ a, a < 1 → ∀ b, b < 1 → a ≠ b → (TX6 a).2.1 ≠ (TX6 b).2.1 := by decide +kernel
theorem tyX6_ok : ∀ k, k < 1 → parseFieldDescriptor (TX6 k).2.2.1 = some (tyX6 k) := by decide +kernel
abbrev cX6_init : ByteArray := prog_8_method_1_code
def yX6_init : MethodName := ⟨RX6, "<init>", "()V"⟩
abbrev cX6_holds : ByteArray := prog_8_method_2_code
def yX6_holds : MethodName := ⟨RX6, "holds", "(II)Z"⟩
abbrev cX6_shareOut : ByteArray := prog_8_method_3_code
def yX6_shareOut : MethodName := ⟨RX6, "shareOut", "(I)I"⟩
abbrev cX6_cutShare : ByteArray := prog_8_method_4_code
def yX6_cutShare : MethodName := ⟨RX6, "cutShare", "(JI)I"⟩
abbrev cX6_cheapestPlan : ByteArray := prog_8_method_5_code
def yX6_cheapestPlan : MethodName := ⟨RX6, "cheapestPlan", "(I)I"⟩
abbrev cX6_priceOf : ByteArray := prog_8_method_6_code
def yX6_priceOf : MethodName := ⟨RX6, "priceOf", "(I)I"⟩
abbrev cX6_strengthOf : ByteArray := prog_8_method_7_code
def yX6_strengthOf : MethodName := ⟨RX6, "strengthOf", "(I)I"⟩
abbrev cX6_isBetter : ByteArray := prog_8_method_8_code
def yX6_isBetter : MethodName := ⟨RX6, "isBetter", "(II)Z"⟩
abbrev cX6_isInOrder : ByteArray := prog_8_method_9_code
def yX6_isInOrder : MethodName := ⟨RX6, "isInOrder", "()Z"⟩
def RX7 : String := "ClaqueRow"
def TX7 : u_T := fun k => match k with
  | 0 => ("ClaqueRow", "house", "LClaqueRow$House;", true)
  | 1 => ("ClaqueRow", "troupe", "LClaqueRow$Troupe;", true)
  | 2 => ("ClaqueRow", "singers", "Ljava/util/ArrayList;", true)
  | 3 => ("ClaqueRow", "evening", "LClaqueRow$Evening;", true)
  | 4 => ("ClaqueRow", "purse", "I", false)
  | _ => ("ClaqueRow", "chiefsMoney", "I", false)
def tyX7 : Nat → FieldType := fun k => match k with
  | 0 => .object "ClaqueRow$House"
  | 1 => .object "ClaqueRow$Troupe"
  | 2 => .object "java/util/ArrayList"
  | 3 => .object "ClaqueRow$Evening"
  | 4 => .int
  | _ => .int
abbrev wsX70 : List Cond := u_ws RX7 TX7 6
theorem nmX7 : ∀ a, a < 6 → ∀ b, b < 6 → a ≠ b → (TX7 a).2.1 ≠ (TX7 b).2.1 := by decide +kernel
theorem tyX7_ok : ∀ k, k < 6 → parseFieldDescriptor (TX7 k).2.2.1 = some (tyX7 k) := by decide +kernel
abbrev cX7_init : ByteArray := prog_1_method_1_code
def yX7_init : MethodName := ⟨RX7, "<init>", "()V"⟩
abbrev cX7_newHouse : ByteArray := prog_1_method_2_code
def yX7_newHouse : MethodName := ⟨RX7, "newHouse", "(II)I"⟩
abbrev cX7_seatPayer : ByteArray := prog_1_method_3_code
def yX7_seatPayer : MethodName := ⟨RX7, "seatPayer", "(III)C"⟩
abbrev cX7_seatRival : ByteArray := prog_1_method_4_code
def yX7_seatRival : MethodName := ⟨RX7, "seatRival", "(II)C"⟩
abbrev cX7_seatHand : ByteArray := prog_1_method_5_code
def yX7_seatHand : MethodName := ⟨RX7, "seatHand", "(III)C"⟩
abbrev cX7_clearSeat : ByteArray := prog_1_method_6_code
def yX7_clearSeat : MethodName := ⟨RX7, "clearSeat", "(II)C"⟩
abbrev cX7_seatAt : ByteArray := prog_1_method_7_code
def yX7_seatAt : MethodName := ⟨RX7, "seatAt", "(II)C"⟩
abbrev cX7_addHand : ByteArray := prog_1_method_8_code
def yX7_addHand : MethodName := ⟨RX7, "addHand", "(CIII)I"⟩
abbrev cX7_isSeated : ByteArray := prog_1_method_9_code
def yX7_isSeated : MethodName := ⟨RX7, "isSeated", "(I)Z"⟩
abbrev cX7_addSinger : ByteArray := prog_1_method_10_code
def yX7_addSinger : MethodName := ⟨RX7, "addSinger", "(II)I"⟩
abbrev cX7_addCue : ByteArray := prog_1_method_11_code
def yX7_addCue : MethodName := ⟨RX7, "addCue", "(ICIII)I"⟩
abbrev cX7_setLevel : ByteArray := prog_1_method_12_code
def yX7_setLevel : MethodName := ⟨RX7, "setLevel", "(I)I"⟩
abbrev cX7_run : ByteArray := prog_1_method_13_code
def yX7_run : MethodName := ⟨RX7, "run", "(I)I"⟩
abbrev cX7_noiseAt : ByteArray := prog_1_method_14_code
def yX7_noiseAt : MethodName := ⟨RX7, "noiseAt", "(II)I"⟩
abbrev cX7_noise : ByteArray := prog_1_method_15_code
def yX7_noise : MethodName := ⟨RX7, "noise", "()I"⟩
abbrev cX7_joining : ByteArray := prog_1_method_16_code
def yX7_joining : MethodName := ⟨RX7, "joining", "()I"⟩
abbrev cX7_hisses : ByteArray := prog_1_method_17_code
def yX7_hisses : MethodName := ⟨RX7, "hisses", "()I"⟩
abbrev cX7_tiredness : ByteArray := prog_1_method_18_code
def yX7_tiredness : MethodName := ⟨RX7, "tiredness", "(II)I"⟩
abbrev cX7_callsOf : ByteArray := prog_1_method_19_code
def yX7_callsOf : MethodName := ⟨RX7, "callsOf", "(I)I"⟩
abbrev cX7_calls : ByteArray := prog_1_method_20_code
def yX7_calls : MethodName := ⟨RX7, "calls", "()I"⟩
abbrev cX7_suspicions : ByteArray := prog_1_method_21_code
def yX7_suspicions : MethodName := ⟨RX7, "suspicions", "()I"⟩
abbrev cX7_areFoundOut : ByteArray := prog_1_method_22_code
def yX7_areFoundOut : MethodName := ⟨RX7, "areFoundOut", "()Z"⟩
abbrev cX7_endEvening : ByteArray := prog_1_method_23_code
def yX7_endEvening : MethodName := ⟨RX7, "endEvening", "()I"⟩
abbrev cX7_pay : ByteArray := prog_1_method_24_code
def yX7_pay : MethodName := ⟨RX7, "pay", "(II)I"⟩
abbrev cX7_owed : ByteArray := prog_1_method_25_code
def yX7_owed : MethodName := ⟨RX7, "owed", "(I)I"⟩
abbrev cX7_purse : ByteArray := prog_1_method_26_code
def yX7_purse : MethodName := ⟨RX7, "purse", "()I"⟩
abbrev cX7_share : ByteArray := prog_1_method_27_code
def yX7_share : MethodName := ⟨RX7, "share", "()I"⟩
abbrev cX7_moneyOf : ByteArray := prog_1_method_28_code
def yX7_moneyOf : MethodName := ⟨RX7, "moneyOf", "(I)I"⟩
abbrev cX7_chiefs : ByteArray := prog_1_method_29_code
def yX7_chiefs : MethodName := ⟨RX7, "chiefs", "()I"⟩
abbrev cX7_planCost : ByteArray := prog_1_method_30_code
def yX7_planCost : MethodName := ⟨RX7, "planCost", "(I)I"⟩
abbrev cX7_isPlanned : ByteArray := prog_1_method_31_code
def yX7_isPlanned : MethodName := ⟨RX7, "isPlanned", "(II)Z"⟩
abbrev cX7_checksum : ByteArray := prog_1_method_32_code
def yX7_checksum : MethodName := ⟨RX7, "checksum", "()J"⟩
abbrev cX7_joiningShare : ByteArray := prog_1_method_33_code
def yX7_joiningShare : MethodName := ⟨RX7, "joiningShare", "()F"⟩
abbrev cX7_meanNoise : ByteArray := prog_1_method_34_code
def yX7_meanNoise : MethodName := ⟨RX7, "meanNoise", "()D"⟩
abbrev cX7_isSound : ByteArray := prog_1_method_35_code
def yX7_isSound : MethodName := ⟨RX7, "isSound", "()Z"⟩
abbrev cX7_checkRange : ByteArray := prog_1_method_36_code
def yX7_checkRange : MethodName := ⟨RX7, "checkRange", "(III)V"⟩
abbrev cX7_checkCueKind : ByteArray := prog_1_method_37_code
def yX7_checkCueKind : MethodName := ⟨RX7, "checkCueKind", "(C)V"⟩
abbrev cX7_checkHouse : ByteArray := prog_1_method_38_code
def yX7_checkHouse : MethodName := ⟨RX7, "checkHouse", "()V"⟩
abbrev cX7_existingSeat : ByteArray := prog_1_method_39_code
def yX7_existingSeat : MethodName := ⟨RX7, "existingSeat", "(II)LClaqueRow$Seat;"⟩
abbrev cX7_existingHand : ByteArray := prog_1_method_40_code
def yX7_existingHand : MethodName := ⟨RX7, "existingHand", "(I)LClaqueRow$Hand;"⟩
abbrev cX7_existingSinger : ByteArray := prog_1_method_41_code
def yX7_existingSinger : MethodName := ⟨RX7, "existingSinger", "(I)LClaqueRow$Singer;"⟩
abbrev cX7_existingPlan : ByteArray := prog_1_method_42_code
def yX7_existingPlan : MethodName := ⟨RX7, "existingPlan", "(I)I"⟩
abbrev cX7_beginEvening : ByteArray := prog_1_method_43_code
def yX7_beginEvening : MethodName := ⟨RX7, "beginEvening", "()V"⟩
abbrev cX7_billFor : ByteArray := prog_1_method_44_code
def yX7_billFor : MethodName := ⟨RX7, "billFor", "(LClaqueRow$Singer;)I"⟩
def RX8 : String := "ClaqueRowModel"
def TX8 : u_T := fun k => match k with
  | 0 => ("ClaqueRowModel", "who", "[C", true)
  | 1 => ("ClaqueRowModel", "threshold", "[I", true)
  | 2 => ("ClaqueRowModel", "handIn", "[I", true)
  | 3 => ("ClaqueRowModel", "noise", "[I", true)
  | 4 => ("ClaqueRowModel", "joined", "[I", true)
  | 5 => ("ClaqueRowModel", "before", "[I", true)
  | 6 => ("ClaqueRowModel", "joins", "[Z", true)
  | 7 => ("ClaqueRowModel", "hissed", "[Z", true)
  | 8 => ("ClaqueRowModel", "hissedBefore", "[Z", true)
  | 9 => ("ClaqueRowModel", "handKind", "[C", true)
  | 10 => ("ClaqueRowModel", "cueKind", "[C", true)
  | 11 => ("ClaqueRowModel", "strength", "[I", true)
  | 12 => ("ClaqueRowModel", "rank", "[I", true)
  | 13 => ("ClaqueRowModel", "price", "[I", true)
  | 14 => ("ClaqueRowModel", "money", "[I", true)
  | 15 => ("ClaqueRowModel", "night", "[I", true)
  | 16 => ("ClaqueRowModel", "perCall", "[I", true)
  | 17 => ("ClaqueRowModel", "owed", "[I", true)
  | 18 => ("ClaqueRowModel", "callsOf", "[I", true)
  | 19 => ("ClaqueRowModel", "cueSinger", "[I", true)
  | 20 => ("ClaqueRowModel", "cueTick", "[I", true)
  | 21 => ("ClaqueRowModel", "cueForce", "[I", true)
  | 22 => ("ClaqueRowModel", "cueTicks", "[I", true)
  | 23 => ("ClaqueRowModel", "rows", "I", false)
  | 24 => ("ClaqueRowModel", "wide", "I", false)
  | 25 => ("ClaqueRowModel", "hands", "I", false)
  | 26 => ("ClaqueRowModel", "singers", "I", false)
  | 27 => ("ClaqueRowModel", "cues", "I", false)
  | 28 => ("ClaqueRowModel", "level", "I", false)
  | 29 => ("ClaqueRowModel", "ticks", "I", false)
  | 30 => ("ClaqueRowModel", "loud", "I", false)
  | 31 => ("ClaqueRowModel", "calls", "I", false)
  | 32 => ("ClaqueRowModel", "hisses", "I", false)
  | 33 => ("ClaqueRowModel", "suspicions", "I", false)
  | 34 => ("ClaqueRowModel", "purse", "I", false)
  | 35 => ("ClaqueRowModel", "chiefs", "I", false)
  | _ => ("ClaqueRowModel", "thrown", "I", false)
def tyX8 : Nat → FieldType := fun k => match k with
  | 0 => .array .char
  | 1 => .array .int
  | 2 => .array .int
  | 3 => .array .int
  | 4 => .array .int
  | 5 => .array .int
  | 6 => .array .boolean
  | 7 => .array .boolean
  | 8 => .array .boolean
  | 9 => .array .char
  | 10 => .array .char
  | 11 => .array .int
  | 12 => .array .int
  | 13 => .array .int
  | 14 => .array .int
  | 15 => .array .int
  | 16 => .array .int
  | 17 => .array .int
  | 18 => .array .int
  | 19 => .array .int
  | 20 => .array .int
  | 21 => .array .int
  | 22 => .array .int
  | 23 => .int
  | 24 => .int
  | 25 => .int
  | 26 => .int
  | 27 => .int
  | 28 => .int
  | 29 => .int
  | 30 => .int
  | 31 => .int
  | 32 => .int
  | 33 => .int
  | 34 => .int
  | 35 => .int
  | _ => .int
abbrev wsX80 : List Cond := u_ws RX8 TX8 37
theorem nmX8 : ∀ a, a < 37 → ∀ b, b < 37 → a ≠ b → (TX8 a).2.1 ≠ (TX8 b).2.1 := by decide +kernel
theorem tyX8_ok : ∀ k, k < 37 → parseFieldDescriptor (TX8 k).2.2.1 = some (tyX8 k) := by decide +kernel
abbrev cX8_init : ByteArray := prog_10_method_1_code
def yX8_init : MethodName := ⟨RX8, "<init>", "()V"⟩
abbrev cX8_thrown : ByteArray := prog_10_method_2_code
def yX8_thrown : MethodName := ⟨RX8, "thrown", "()I"⟩
abbrev cX8_in : ByteArray := prog_10_method_3_code
def yX8_in : MethodName := ⟨RX8, "in", "(III)Z"⟩
abbrev cX8_least : ByteArray := prog_10_method_4_code
def yX8_least : MethodName := ⟨RX8, "least", "(II)I"⟩
abbrev cX8_most : ByteArray := prog_10_method_5_code
def yX8_most : MethodName := ⟨RX8, "most", "(II)I"⟩
abbrev cX8_fails : ByteArray := prog_10_method_6_code
def yX8_fails : MethodName := ⟨RX8, "fails", "(I)I"⟩
abbrev cX8_failsAs : ByteArray := prog_10_method_7_code
def yX8_failsAs : MethodName := ⟨RX8, "failsAs", "(I)C"⟩
abbrev cX8_tells : ByteArray := prog_10_method_8_code
def yX8_tells : MethodName := ⟨RX8, "tells", "(I)I"⟩
abbrev cX8_tellsAs : ByteArray := prog_10_method_9_code
def yX8_tellsAs : MethodName := ⟨RX8, "tellsAs", "(C)C"⟩
abbrev cX8_failsIf : ByteArray := prog_10_method_10_code
def yX8_failsIf : MethodName := ⟨RX8, "failsIf", "(I)Z"⟩
abbrev cX8_isSeat : ByteArray := prog_10_method_11_code
def yX8_isSeat : MethodName := ⟨RX8, "isSeat", "(II)Z"⟩
abbrev cX8_isHand : ByteArray := prog_10_method_12_code
def yX8_isHand : MethodName := ⟨RX8, "isHand", "(I)Z"⟩
abbrev cX8_isSinger : ByteArray := prog_10_method_13_code
def yX8_isSinger : MethodName := ⟨RX8, "isSinger", "(I)Z"⟩
abbrev cX8_empties : ByteArray := prog_10_method_14_code
def yX8_empties : MethodName := ⟨RX8, "empties", "(I)V"⟩
abbrev cX8_rests : ByteArray := prog_10_method_15_code
def yX8_rests : MethodName := ⟨RX8, "rests", "(I)V"⟩
abbrev cX8_begins : ByteArray := prog_10_method_16_code
def yX8_begins : MethodName := ⟨RX8, "begins", "()V"⟩
abbrev cX8_newHouse : ByteArray := prog_10_method_17_code
def yX8_newHouse : MethodName := ⟨RX8, "newHouse", "(II)I"⟩
abbrev cX8_seatPayer : ByteArray := prog_10_method_18_code
def yX8_seatPayer : MethodName := ⟨RX8, "seatPayer", "(III)C"⟩
abbrev cX8_seatRival : ByteArray := prog_10_method_19_code
def yX8_seatRival : MethodName := ⟨RX8, "seatRival", "(II)C"⟩
abbrev cX8_seatHand : ByteArray := prog_10_method_20_code
def yX8_seatHand : MethodName := ⟨RX8, "seatHand", "(III)C"⟩
abbrev cX8_clearSeat : ByteArray := prog_10_method_21_code
def yX8_clearSeat : MethodName := ⟨RX8, "clearSeat", "(II)C"⟩
abbrev cX8_seatAt : ByteArray := prog_10_method_22_code
def yX8_seatAt : MethodName := ⟨RX8, "seatAt", "(II)C"⟩
abbrev cX8_isKind : ByteArray := prog_10_method_23_code
def yX8_isKind : MethodName := ⟨RX8, "isKind", "(CZ)Z"⟩
abbrev cX8_addHand : ByteArray := prog_10_method_24_code
def yX8_addHand : MethodName := ⟨RX8, "addHand", "(CIII)I"⟩
abbrev cX8_isSeated : ByteArray := prog_10_method_25_code
def yX8_isSeated : MethodName := ⟨RX8, "isSeated", "(I)Z"⟩
abbrev cX8_addSinger : ByteArray := prog_10_method_26_code
def yX8_addSinger : MethodName := ⟨RX8, "addSinger", "(II)I"⟩
abbrev cX8_addCue : ByteArray := prog_10_method_27_code
def yX8_addCue : MethodName := ⟨RX8, "addCue", "(ICIII)I"⟩
abbrev cX8_setLevel : ByteArray := prog_10_method_28_code
def yX8_setLevel : MethodName := ⟨RX8, "setLevel", "(I)I"⟩
abbrev cX8_handNoise : ByteArray := prog_10_method_29_code
def yX8_handNoise : MethodName := ⟨RX8, "handNoise", "(I)I"⟩
abbrev cX8_around : ByteArray := prog_10_method_30_code
def yX8_around : MethodName := ⟨RX8, "around", "(I)I"⟩
abbrev cX8_sits : ByteArray := prog_10_method_31_code
def yX8_sits : MethodName := ⟨RX8, "sits", "(I)V"⟩
abbrev cX8_calling : ByteArray := prog_10_method_32_code
def yX8_calling : MethodName := ⟨RX8, "calling", "()V"⟩
abbrev cX8_noisy : ByteArray := prog_10_method_33_code
def yX8_noisy : MethodName := ⟨RX8, "noisy", "(C)I"⟩
abbrev cX8_summed : ByteArray := prog_10_method_34_code
def yX8_summed : MethodName := ⟨RX8, "summed", "()I"⟩
abbrev cX8_goes : ByteArray := prog_10_method_35_code
def yX8_goes : MethodName := ⟨RX8, "goes", "()V"⟩
abbrev cX8_run : ByteArray := prog_10_method_36_code
def yX8_run : MethodName := ⟨RX8, "run", "(I)I"⟩
abbrev cX8_noiseAt : ByteArray := prog_10_method_37_code
def yX8_noiseAt : MethodName := ⟨RX8, "noiseAt", "(II)I"⟩
abbrev cX8_noise : ByteArray := prog_10_method_38_code
def yX8_noise : MethodName := ⟨RX8, "noise", "()I"⟩
abbrev cX8_joiners : ByteArray := prog_10_method_39_code
def yX8_joiners : MethodName := ⟨RX8, "joiners", "()I"⟩
abbrev cX8_joining : ByteArray := prog_10_method_40_code
def yX8_joining : MethodName := ⟨RX8, "joining", "()I"⟩
abbrev cX8_hisses : ByteArray := prog_10_method_41_code
def yX8_hisses : MethodName := ⟨RX8, "hisses", "()I"⟩
abbrev cX8_tiredness : ByteArray := prog_10_method_42_code
def yX8_tiredness : MethodName := ⟨RX8, "tiredness", "(II)I"⟩
abbrev cX8_callsOf : ByteArray := prog_10_method_43_code
def yX8_callsOf : MethodName := ⟨RX8, "callsOf", "(I)I"⟩
abbrev cX8_calls : ByteArray := prog_10_method_44_code
def yX8_calls : MethodName := ⟨RX8, "calls", "()I"⟩
abbrev cX8_suspicions : ByteArray := prog_10_method_45_code
def yX8_suspicions : MethodName := ⟨RX8, "suspicions", "()I"⟩
abbrev cX8_areFoundOut : ByteArray := prog_10_method_46_code
def yX8_areFoundOut : MethodName := ⟨RX8, "areFoundOut", "()Z"⟩
abbrev cX8_endEvening : ByteArray := prog_10_method_47_code
def yX8_endEvening : MethodName := ⟨RX8, "endEvening", "()I"⟩
abbrev cX8_pay : ByteArray := prog_10_method_48_code
def yX8_pay : MethodName := ⟨RX8, "pay", "(II)I"⟩
abbrev cX8_owed : ByteArray := prog_10_method_49_code
def yX8_owed : MethodName := ⟨RX8, "owed", "(I)I"⟩
abbrev cX8_purse : ByteArray := prog_10_method_50_code
def yX8_purse : MethodName := ⟨RX8, "purse", "()I"⟩
abbrev cX8_share : ByteArray := prog_10_method_51_code
def yX8_share : MethodName := ⟨RX8, "share", "()I"⟩
abbrev cX8_moneyOf : ByteArray := prog_10_method_52_code
def yX8_moneyOf : MethodName := ⟨RX8, "moneyOf", "(I)I"⟩
abbrev cX8_chiefs : ByteArray := prog_10_method_53_code
def yX8_chiefs : MethodName := ⟨RX8, "chiefs", "()I"⟩
abbrev cX8_summed_ : ByteArray := prog_10_method_54_code
def yX8_summed_ : MethodName := ⟨RX8, "summed", "(II)I"⟩
abbrev cX8_isBetter : ByteArray := prog_10_method_55_code
def yX8_isBetter : MethodName := ⟨RX8, "isBetter", "(II)Z"⟩
abbrev cX8_planned : ByteArray := prog_10_method_56_code
def yX8_planned : MethodName := ⟨RX8, "planned", "(I)I"⟩
abbrev cX8_planCost : ByteArray := prog_10_method_57_code
def yX8_planCost : MethodName := ⟨RX8, "planCost", "(I)I"⟩
abbrev cX8_isPlanned : ByteArray := prog_10_method_58_code
def yX8_isPlanned : MethodName := ⟨RX8, "isPlanned", "(II)Z"⟩
abbrev cX8_checksum : ByteArray := prog_10_method_59_code
def yX8_checksum : MethodName := ⟨RX8, "checksum", "()J"⟩
abbrev cX8_payers : ByteArray := prog_10_method_60_code
def yX8_payers : MethodName := ⟨RX8, "payers", "()I"⟩
abbrev cX8_joiningShare : ByteArray := prog_10_method_61_code
def yX8_joiningShare : MethodName := ⟨RX8, "joiningShare", "()F"⟩
abbrev cX8_meanNoise : ByteArray := prog_10_method_62_code
def yX8_meanNoise : MethodName := ⟨RX8, "meanNoise", "()D"⟩
abbrev cX8_isSound : ByteArray := prog_10_method_63_code
def yX8_isSound : MethodName := ⟨RX8, "isSound", "()Z"⟩
def RJx145de : String := "java/io/Serializable"
def TJx145de : u_T := fun k => match k with
  | _ => ("", "", "", false)
def tyJx145de : Nat → FieldType := fun k => match k with
  | _ => .int
abbrev wsJx145de0 : List Cond := u_ws RJx145de TJx145de 0
theorem nmJx145de : ∀ a, a < 0 → ∀ b, b < 0 → a ≠ b → (TJx145de a).2.1 ≠ (TJx145de b).2.1 := by decide +kernel
theorem tyJx145de_ok : ∀ k, k < 0 → parseFieldDescriptor (TJx145de k).2.2.1 = some (tyJx145de k) := by decide +kernel
def RJx00060 : String := "java/lang/ArrayIndexOutOfBoundsException"
def TJx00060 : u_T := fun k => match k with
  | 0 => ("java/lang/Throwable", "backtrace", "Ljava/lang/Object;", false)
  | 1 => ("java/lang/Throwable", "detailMessage", "Ljava/lang/String;", false)
  | 2 => ("java/lang/Throwable", "cause", "Ljava/lang/Throwable;", false)
  | 3 => ("java/lang/Throwable", "stackTrace", "[Ljava/lang/StackTraceElement;", false)
  | 4 => ("java/lang/Throwable", "depth", "I", false)
  | _ => ("java/lang/Throwable", "suppressedExceptions", "Ljava/util/List;", false)
def tyJx00060 : Nat → FieldType := fun k => match k with
  | 0 => .object "java/lang/Object"
  | 1 => .object "java/lang/String"
  | 2 => .object "java/lang/Throwable"
  | 3 => .array (.object "java/lang/StackTraceElement")
  | 4 => .int
  | _ => .object "java/util/List"
abbrev wsJx000600 : List Cond := u_ws RJx00060 TJx00060 6
theorem nmJx00060 : ∀ a, a < 6 → ∀ b, b < 6 → a ≠ b → (TJx00060 a).2.1 ≠ (TJx00060 b).2.1 := by decide +kernel
theorem tyJx00060_ok : ∀ k, k < 6 → parseFieldDescriptor (TJx00060 k).2.2.1 = some (tyJx00060 k) := by decide +kernel
abbrev cJx00060_init_a7421 : ByteArray := prog_13_method_2_code
def yJx00060_init_a7421 : MethodName := ⟨RJx00060, "<init>", "(Ljava/lang/String;)V"⟩
def RJx8e188 : String := "java/lang/Cloneable"
def TJx8e188 : u_T := fun k => match k with
  | _ => ("", "", "", false)
def tyJx8e188 : Nat → FieldType := fun k => match k with
  | _ => .int
abbrev wsJx8e1880 : List Cond := u_ws RJx8e188 TJx8e188 0
theorem nmJx8e188 : ∀ a, a < 0 → ∀ b, b < 0 → a ≠ b → (TJx8e188 a).2.1 ≠ (TJx8e188 b).2.1 := by decide +kernel
theorem tyJx8e188_ok : ∀ k, k < 0 → parseFieldDescriptor (TJx8e188 k).2.2.1 = some (tyJx8e188 k) := by decide +kernel
def RJ6 : String := "java/lang/Integer"
def TJ6 : u_T := fun k => match k with
  | _ => ("", "", "", false)
def tyJ6 : Nat → FieldType := fun k => match k with
  | _ => .int
abbrev wsJ60 : List Cond := u_ws RJ6 TJ6 0
theorem nmJ6 : ∀ a, a < 0 → ∀ b, b < 0 → a ≠ b → (TJ6 a).2.1 ≠ (TJ6 b).2.1 := by decide +kernel
theorem tyJ6_ok : ∀ k, k < 0 → parseFieldDescriptor (TJ6 k).2.2.1 = some (tyJ6 k) := by decide +kernel
abbrev cJ6_bitCount_0f7a4 : ByteArray := prog_19_method_49_code
def yJ6_bitCount_0f7a4 : MethodName := ⟨RJ6, "bitCount", "(I)I"⟩
def RJxab1ab : String := "java/lang/Iterable"
def TJxab1ab : u_T := fun k => match k with
  | _ => ("", "", "", false)
def tyJxab1ab : Nat → FieldType := fun k => match k with
  | _ => .int
abbrev wsJxab1ab0 : List Cond := u_ws RJxab1ab TJxab1ab 0
theorem nmJxab1ab : ∀ a, a < 0 → ∀ b, b < 0 → a ≠ b → (TJxab1ab a).2.1 ≠ (TJxab1ab b).2.1 := by decide +kernel
theorem tyJxab1ab_ok : ∀ k, k < 0 → parseFieldDescriptor (TJxab1ab k).2.2.1 = some (tyJxab1ab k) := by decide +kernel
def RJ9 : String := "java/lang/Math"
def TJ9 : u_T := fun k => match k with
  | _ => ("", "", "", false)
def tyJ9 : Nat → FieldType := fun k => match k with
  | _ => .int
abbrev wsJ90 : List Cond := u_ws RJ9 TJ9 0
theorem nmJ9 : ∀ a, a < 0 → ∀ b, b < 0 → a ≠ b → (TJ9 a).2.1 ≠ (TJ9 b).2.1 := by decide +kernel
theorem tyJ9_ok : ∀ k, k < 0 → parseFieldDescriptor (TJ9 k).2.2.1 = some (tyJ9 k) := by decide +kernel
abbrev cJ9_max_7cf53 : ByteArray := prog_21_method_65_code
def yJ9_max_7cf53 : MethodName := ⟨RJ9, "max", "(II)I"⟩
abbrev cJ9_min_7cf53 : ByteArray := prog_21_method_69_code
def yJ9_min_7cf53 : MethodName := ⟨RJ9, "min", "(II)I"⟩
def RJ0 : String := "java/lang/String"
def TJ0 : u_T := fun k => match k with
  | 0 => ("java/lang/String", "value", "[B", true)
  | _ => ("java/lang/String", "coder", "B", true)
def tyJ0 : Nat → FieldType := fun k => match k with
  | 0 => .array .byte
  | _ => .byte
abbrev wsJ00 : List Cond := u_ws RJ0 TJ0 2
theorem nmJ0 : ∀ a, a < 2 → ∀ b, b < 2 → a ≠ b → (TJ0 a).2.1 ≠ (TJ0 b).2.1 := by decide +kernel
theorem tyJ0_ok : ∀ k, k < 2 → parseFieldDescriptor (TJ0 k).2.2.1 = some (tyJ0 k) := by decide +kernel
def RJ10 : String := "java/lang/System"
def TJ10 : u_T := fun k => match k with
  | _ => ("", "", "", false)
def tyJ10 : Nat → FieldType := fun k => match k with
  | _ => .int
abbrev wsJ100 : List Cond := u_ws RJ10 TJ10 0
theorem nmJ10 : ∀ a, a < 0 → ∀ b, b < 0 → a ≠ b → (TJ10 a).2.1 ≠ (TJ10 b).2.1 := by decide +kernel
theorem tyJ10_ok : ∀ k, k < 0 → parseFieldDescriptor (TJ10 k).2.2.1 = some (tyJ10 k) := by decide +kernel
def RJxa1e45 : String := "java/util/AbstractCollection"
def TJxa1e45 : u_T := fun k => match k with
  | _ => ("", "", "", false)
def tyJxa1e45 : Nat → FieldType := fun k => match k with
  | _ => .int
abbrev wsJxa1e450 : List Cond := u_ws RJxa1e45 TJxa1e45 0
theorem nmJxa1e45 : ∀ a, a < 0 → ∀ b, b < 0 → a ≠ b → (TJxa1e45 a).2.1 ≠ (TJxa1e45 b).2.1 := by decide +kernel
theorem tyJxa1e45_ok : ∀ k, k < 0 → parseFieldDescriptor (TJxa1e45 k).2.2.1 = some (tyJxa1e45 k) := by decide +kernel
abbrev cJxa1e45_init_da8c8 : ByteArray := prog_27_method_1_code
def yJxa1e45_init_da8c8 : MethodName := ⟨RJxa1e45, "<init>", "()V"⟩
def RJxc12de : String := "java/util/AbstractList"
def TJxc12de : u_T := fun k => match k with
  | _ => ("", "", "", false)
def tyJxc12de : Nat → FieldType := fun k => match k with
  | _ => .int
abbrev wsJxc12de0 : List Cond := u_ws RJxc12de TJxc12de 0
theorem nmJxc12de : ∀ a, a < 0 → ∀ b, b < 0 → a ≠ b → (TJxc12de a).2.1 ≠ (TJxc12de b).2.1 := by decide +kernel
theorem tyJxc12de_ok : ∀ k, k < 0 → parseFieldDescriptor (TJxc12de k).2.2.1 = some (tyJxc12de k) := by decide +kernel
abbrev cJxc12de_init_da8c8 : ByteArray := prog_28_method_1_code
def yJxc12de_init_da8c8 : MethodName := ⟨RJxc12de, "<init>", "()V"⟩
def RJx4a65c : String := "java/util/ArrayList"
def TJx4a65c : u_T := fun k => match k with
  | 0 => ("java/util/AbstractList", "modCount", "I", false)
  | 1 => ("java/util/ArrayList", "elementData", "[Ljava/lang/Object;", false)
  | _ => ("java/util/ArrayList", "size", "I", false)
def tyJx4a65c : Nat → FieldType := fun k => match k with
  | 0 => .int
  | 1 => .array (.object "java/lang/Object")
  | _ => .int
abbrev wsJx4a65c0 : List Cond := u_ws RJx4a65c TJx4a65c 3
theorem nmJx4a65c : ∀ a, a < 3 → ∀ b, b < 3 → a ≠ b → (TJx4a65c a).2.1 ≠ (TJx4a65c b).2.1 := by decide +kernel
theorem tyJx4a65c_ok : ∀ k, k < 3 → parseFieldDescriptor (TJx4a65c k).2.2.1 = some (tyJx4a65c k) := by decide +kernel
abbrev cJx4a65c_init_da8c8 : ByteArray := prog_29_method_2_code
def yJx4a65c_init_da8c8 : MethodName := ⟨RJx4a65c, "<init>", "()V"⟩
abbrev cJx4a65c_grow_92f84 : ByteArray := prog_29_method_6_code
def yJx4a65c_grow_92f84 : MethodName := ⟨RJx4a65c, "grow", "(I)[Ljava/lang/Object;"⟩
abbrev cJx4a65c_grow_d5877 : ByteArray := prog_29_method_7_code
def yJx4a65c_grow_d5877 : MethodName := ⟨RJx4a65c, "grow", "()[Ljava/lang/Object;"⟩
abbrev cJx4a65c_size_8abf5 : ByteArray := prog_29_method_8_code
def yJx4a65c_size_8abf5 : MethodName := ⟨RJx4a65c, "size", "()I"⟩
abbrev cJx4a65c_elementData_915e3 : ByteArray := prog_29_method_18_code
def yJx4a65c_elementData_915e3 : MethodName := ⟨RJx4a65c, "elementData", "(I)Ljava/lang/Object;"⟩
abbrev cJx4a65c_get_915e3 : ByteArray := prog_29_method_20_code
def yJx4a65c_get_915e3 : MethodName := ⟨RJx4a65c, "get", "(I)Ljava/lang/Object;"⟩
abbrev cJx4a65c_add_72be8 : ByteArray := prog_29_method_24_code
def yJx4a65c_add_72be8 : MethodName := ⟨RJx4a65c, "add", "(Ljava/lang/Object;[Ljava/lang/Object;I)V"⟩
abbrev cJx4a65c_add_9ea2d : ByteArray := prog_29_method_25_code
def yJx4a65c_add_9ea2d : MethodName := ⟨RJx4a65c, "add", "(Ljava/lang/Object;)Z"⟩
abbrev cJx4a65c_clear_da8c8 : ByteArray := prog_29_method_40_code
def yJx4a65c_clear_da8c8 : MethodName := ⟨RJx4a65c, "clear", "()V"⟩
def RJ7 : String := "java/util/Arrays"
def TJ7 : u_T := fun k => match k with
  | _ => ("", "", "", false)
def tyJ7 : Nat → FieldType := fun k => match k with
  | _ => .int
abbrev wsJ70 : List Cond := u_ws RJ7 TJ7 0
theorem nmJ7 : ∀ a, a < 0 → ∀ b, b < 0 → a ≠ b → (TJ7 a).2.1 ≠ (TJ7 b).2.1 := by decide +kernel
theorem tyJ7_ok : ∀ k, k < 0 → parseFieldDescriptor (TJ7 k).2.2.1 = some (tyJ7 k) := by decide +kernel
abbrev cJ7_copyOf_1904c : ByteArray := prog_30_method_119_code
def yJ7_copyOf_1904c : MethodName := ⟨RJ7, "copyOf", "([Ljava/lang/Object;I)[Ljava/lang/Object;"⟩
abbrev cJ7_copyOf_6403c : ByteArray := prog_30_method_120_code
def yJ7_copyOf_6403c : MethodName := ⟨RJ7, "copyOf", "([Ljava/lang/Object;ILjava/lang/Class;)[Ljava/lang/Object;"⟩
def RJx5ef63 : String := "java/util/Collection"
def TJx5ef63 : u_T := fun k => match k with
  | _ => ("", "", "", false)
def tyJx5ef63 : Nat → FieldType := fun k => match k with
  | _ => .int
abbrev wsJx5ef630 : List Cond := u_ws RJx5ef63 TJx5ef63 0
theorem nmJx5ef63 : ∀ a, a < 0 → ∀ b, b < 0 → a ≠ b → (TJx5ef63 a).2.1 ≠ (TJx5ef63 b).2.1 := by decide +kernel
theorem tyJx5ef63_ok : ∀ k, k < 0 → parseFieldDescriptor (TJx5ef63 k).2.2.1 = some (tyJx5ef63 k) := by decide +kernel
def RJxbd725 : String := "java/util/List"
def TJxbd725 : u_T := fun k => match k with
  | _ => ("", "", "", false)
def tyJxbd725 : Nat → FieldType := fun k => match k with
  | _ => .int
abbrev wsJxbd7250 : List Cond := u_ws RJxbd725 TJxbd725 0
theorem nmJxbd725 : ∀ a, a < 0 → ∀ b, b < 0 → a ≠ b → (TJxbd725 a).2.1 ≠ (TJxbd725 b).2.1 := by decide +kernel
theorem tyJxbd725_ok : ∀ k, k < 0 → parseFieldDescriptor (TJxbd725 k).2.2.1 = some (tyJxbd725 k) := by decide +kernel
def RJ15 : String := "java/util/Objects"
def TJ15 : u_T := fun k => match k with
  | _ => ("", "", "", false)
def tyJ15 : Nat → FieldType := fun k => match k with
  | _ => .int
abbrev wsJ150 : List Cond := u_ws RJ15 TJ15 0
theorem nmJ15 : ∀ a, a < 0 → ∀ b, b < 0 → a ≠ b → (TJ15 a).2.1 ≠ (TJ15 b).2.1 := by decide +kernel
theorem tyJ15_ok : ∀ k, k < 0 → parseFieldDescriptor (TJ15 k).2.2.1 = some (tyJ15 k) := by decide +kernel
abbrev cJ15_checkIndex_7cf53 : ByteArray := prog_34_method_17_code
def yJ15_checkIndex_7cf53 : MethodName := ⟨RJ15, "checkIndex", "(II)I"⟩
def RJxf0a74 : String := "java/util/RandomAccess"
def TJxf0a74 : u_T := fun k => match k with
  | _ => ("", "", "", false)
def tyJxf0a74 : Nat → FieldType := fun k => match k with
  | _ => .int
abbrev wsJxf0a740 : List Cond := u_ws RJxf0a74 TJxf0a74 0
theorem nmJxf0a74 : ∀ a, a < 0 → ∀ b, b < 0 → a ≠ b → (TJxf0a74 a).2.1 ≠ (TJxf0a74 b).2.1 := by decide +kernel
theorem tyJxf0a74_ok : ∀ k, k < 0 → parseFieldDescriptor (TJxf0a74 k).2.2.1 = some (tyJxf0a74 k) := by decide +kernel
def RJxa66e6 : String := "java/util/SequencedCollection"
def TJxa66e6 : u_T := fun k => match k with
  | _ => ("", "", "", false)
def tyJxa66e6 : Nat → FieldType := fun k => match k with
  | _ => .int
abbrev wsJxa66e60 : List Cond := u_ws RJxa66e6 TJxa66e6 0
theorem nmJxa66e6 : ∀ a, a < 0 → ∀ b, b < 0 → a ≠ b → (TJxa66e6 a).2.1 ≠ (TJxa66e6 b).2.1 := by decide +kernel
theorem tyJxa66e6_ok : ∀ k, k < 0 → parseFieldDescriptor (TJxa66e6 k).2.2.1 = some (tyJxa66e6 k) := by decide +kernel
def RJ8 : String := "jdk/internal/util/ArraysSupport"
def TJ8 : u_T := fun k => match k with
  | _ => ("", "", "", false)
def tyJ8 : Nat → FieldType := fun k => match k with
  | _ => .int
abbrev wsJ80 : List Cond := u_ws RJ8 TJ8 0
theorem nmJ8 : ∀ a, a < 0 → ∀ b, b < 0 → a ≠ b → (TJ8 a).2.1 ≠ (TJ8 b).2.1 := by decide +kernel
theorem tyJ8_ok : ∀ k, k < 0 → parseFieldDescriptor (TJ8 k).2.2.1 = some (tyJ8 k) := by decide +kernel
abbrev cJ8_newLength_cabcc : ByteArray := prog_37_method_27_code
def yJ8_newLength_cabcc : MethodName := ⟨RJ8, "newLength", "(III)I"⟩
abbrev cJ8_hugeLength_7cf53 : ByteArray := prog_37_method_28_code
def yJ8_hugeLength_7cf53 : MethodName := ⟨RJ8, "hugeLength", "(II)I"⟩
def RJ3 : String := "jdk/internal/util/Preconditions"
def TJ3 : u_T := fun k => match k with
  | _ => ("", "", "", false)
def tyJ3 : Nat → FieldType := fun k => match k with
  | _ => .int
abbrev wsJ30 : List Cond := u_ws RJ3 TJ3 0
theorem nmJ3 : ∀ a, a < 0 → ∀ b, b < 0 → a ≠ b → (TJ3 a).2.1 ≠ (TJ3 b).2.1 := by decide +kernel
theorem tyJ3_ok : ∀ k, k < 0 → parseFieldDescriptor (TJ3 k).2.2.1 = some (tyJ3 k) := by decide +kernel
abbrev cJ3_checkIndex_8e157 : ByteArray := prog_38_method_11_code
def yJ3_checkIndex_8e157 : MethodName := ⟨RJ3, "checkIndex", "(IILjava/util/function/BiFunction;)I"⟩
def RL : String := "ClaqueRowLaw"
abbrev cL_newHouse : ByteArray := method_3_code
def yL_newHouse : MethodName := ⟨RL, "newHouse", "(LClaqueRow;II[J)I"⟩
abbrev cL_seatPayer : ByteArray := method_4_code
def yL_seatPayer : MethodName := ⟨RL, "seatPayer", "(LClaqueRow;III[J)I"⟩
abbrev cL_seatRival : ByteArray := method_5_code
def yL_seatRival : MethodName := ⟨RL, "seatRival", "(LClaqueRow;II[J)I"⟩
abbrev cL_seatHand : ByteArray := method_6_code
def yL_seatHand : MethodName := ⟨RL, "seatHand", "(LClaqueRow;III[J)I"⟩
abbrev cL_clearSeat : ByteArray := method_7_code
def yL_clearSeat : MethodName := ⟨RL, "clearSeat", "(LClaqueRow;II[J)I"⟩
abbrev cL_seatAt : ByteArray := method_8_code
def yL_seatAt : MethodName := ⟨RL, "seatAt", "(LClaqueRow;II[J)I"⟩
abbrev cL_addHand : ByteArray := method_9_code
def yL_addHand : MethodName := ⟨RL, "addHand", "(LClaqueRow;CIII[J)I"⟩
abbrev cL_isSeated : ByteArray := method_10_code
def yL_isSeated : MethodName := ⟨RL, "isSeated", "(LClaqueRow;I[J)I"⟩
abbrev cL_addSinger : ByteArray := method_11_code
def yL_addSinger : MethodName := ⟨RL, "addSinger", "(LClaqueRow;II[J)I"⟩
abbrev cL_addCue : ByteArray := method_12_code
def yL_addCue : MethodName := ⟨RL, "addCue", "(LClaqueRow;ICIII[J)I"⟩
abbrev cL_setLevel : ByteArray := method_13_code
def yL_setLevel : MethodName := ⟨RL, "setLevel", "(LClaqueRow;I[J)I"⟩
abbrev cL_run : ByteArray := method_14_code
def yL_run : MethodName := ⟨RL, "run", "(LClaqueRow;I[J)I"⟩
abbrev cL_noiseAt : ByteArray := method_15_code
def yL_noiseAt : MethodName := ⟨RL, "noiseAt", "(LClaqueRow;II[J)I"⟩
abbrev cL_tiredness : ByteArray := method_16_code
def yL_tiredness : MethodName := ⟨RL, "tiredness", "(LClaqueRow;II[J)I"⟩
abbrev cL_callsOf : ByteArray := method_17_code
def yL_callsOf : MethodName := ⟨RL, "callsOf", "(LClaqueRow;I[J)I"⟩
abbrev cL_endEvening : ByteArray := method_18_code
def yL_endEvening : MethodName := ⟨RL, "endEvening", "(LClaqueRow;[J)I"⟩
abbrev cL_pay : ByteArray := method_19_code
def yL_pay : MethodName := ⟨RL, "pay", "(LClaqueRow;II[J)I"⟩
abbrev cL_owed : ByteArray := method_20_code
def yL_owed : MethodName := ⟨RL, "owed", "(LClaqueRow;I[J)I"⟩
abbrev cL_share : ByteArray := method_21_code
def yL_share : MethodName := ⟨RL, "share", "(LClaqueRow;[J)I"⟩
abbrev cL_moneyOf : ByteArray := method_22_code
def yL_moneyOf : MethodName := ⟨RL, "moneyOf", "(LClaqueRow;I[J)I"⟩
abbrev cL_planCost : ByteArray := method_23_code
def yL_planCost : MethodName := ⟨RL, "planCost", "(LClaqueRow;I[J)I"⟩
abbrev cL_isPlanned : ByteArray := method_24_code
def yL_isPlanned : MethodName := ⟨RL, "isPlanned", "(LClaqueRow;II[J)I"⟩
abbrev cL_joiningShare : ByteArray := method_25_code
def yL_joiningShare : MethodName := ⟨RL, "joiningShare", "(LClaqueRow;[D)I"⟩
abbrev cL_meanNoise : ByteArray := method_26_code
def yL_meanNoise : MethodName := ⟨RL, "meanNoise", "(LClaqueRow;[D)I"⟩
abbrev cL_law : ByteArray := code
def yL_law : MethodName := ⟨RL, "law", "([I)Z"⟩
abbrev vwCl : List vw_C := [(RJ0, TJ0, 2), (RJx00060, TJx00060, 6), (RJx4a65c, TJx4a65c, 3), (RX0, TX0, 5), (RX1, TX1, 7), (RX2, TX2, 6), (RX3, TX3, 3), (RX4, TX4, 9), (RX5, TX5, 4), (RX6, TX6, 1), (RX7, TX7, 6), (RX8, TX8, 37)]
/-! ===== one list of words for all methods: the words of the printed lists, each once ===== -/
def zW0 : List Cond := [Cond.code yX0_init cX0_init 6 none, Cond.methodLink RX0 1 objectInit, Cond.instanceMethod objectInit, Cond.code objectInit ⟨#[0xb1]⟩ 1 none, Cond.fieldLink RX0 7 "ClaqueRow$Cue" "singer" "LClaqueRow$Singer;", Cond.fieldLink RX0 13 "ClaqueRow$Cue" "kind" "C", Cond.fieldLink RX0 17 "ClaqueRow$Cue" "tick" "I", Cond.fieldLink RX0 21 "ClaqueRow$Cue" "force" "I", Cond.fieldLink RX0 24 "ClaqueRow$Cue" "ticks" "I", Cond.code yX0_lastTick cX0_lastTick 1 (some .int), Cond.code yX0_isOnIn cX0_isOnIn 2 (some .boolean), Cond.methodLink RX0 27 yX0_lastTick, Cond.instanceMethod yX0_lastTick, Cond.selects RX0 yX0_lastTick yX0_lastTick, Cond.initialized RX0, Cond.code yJxa1e45_init_da8c8 cJxa1e45_init_da8c8 1 none, Cond.methodLink RJxa1e45 1 objectInit, Cond.code yJxc12de_init_da8c8 cJxc12de_init_da8c8 1 none, Cond.fieldLink RJxc12de 7 "java/util/AbstractList" "modCount" "I", Cond.methodLink RJxc12de 1 yJxa1e45_init_da8c8, Cond.instanceMethod yJxa1e45_init_da8c8, Cond.initialized RJxa1e45, Cond.code yJx4a65c_init_da8c8 cJx4a65c_init_da8c8 1 none, Cond.fieldLink RJx4a65c 39 "java/util/ArrayList" "DEFAULTCAPACITY_EMPTY_ELEMENTDATA" "[Ljava/lang/Object;", Cond.fieldLink RJx4a65c 9 "java/util/ArrayList" "elementData" "[Ljava/lang/Object;", Cond.methodLink RJx4a65c 1 yJxc12de_init_da8c8, Cond.instanceMethod yJxc12de_init_da8c8, Cond.initialized RJxc12de, Cond.methodLink RX1 3 objectInit, Cond.classLink RX1 9 RJx4a65c, Cond.instantiable RJx4a65c 3, Cond.initialized RJx4a65c, Cond.fieldLink RX1 12 "ClaqueRow$Evening" "cues" "Ljava/util/ArrayList;", Cond.fieldLink RX1 18 "ClaqueRow$Evening" "level" "I", Cond.fieldLink RX1 22 "ClaqueRow$Evening" "ticks" "I", Cond.fieldLink RX1 25 "ClaqueRow$Evening" "loudTicks" "I", Cond.fieldLink RX1 28 "ClaqueRow$Evening" "calls" "I", Cond.fieldLink RX1 31 "ClaqueRow$Evening" "hisses" "I", Cond.fieldLink RX1 34 "ClaqueRow$Evening" "suspicions" "I", Cond.methodLink RX1 11 yJx4a65c_init_da8c8, Cond.instanceMethod yJx4a65c_init_da8c8, Cond.code yX1_init cX1_init 1 none, Cond.code yJx4a65c_clear_da8c8 cJx4a65c_clear_da8c8 4 none, Cond.fieldLink RJx4a65c 63 "java/util/ArrayList" "modCount" "I", Cond.sameField "java/util/ArrayList" "java/util/AbstractList" "modCount" "I", Cond.fieldLink RJx4a65c 48 "java/util/ArrayList" "size" "I", Cond.code yX1_begin cX1_begin 1 none, Cond.methodLink RX1 37 yJx4a65c_clear_da8c8, Cond.instanceMethod yJx4a65c_clear_da8c8, Cond.selects RJx4a65c yJx4a65c_clear_da8c8 yJx4a65c_clear_da8c8, Cond.code yX1_handsAreFoundOut cX1_handsAreFoundOut 1 (some .boolean), Cond.code yX4_keepTickAhead cX4_keepTickAhead 1 none, Cond.fieldLink RX4 23 "ClaqueRow$Seat" "noise" "I", Cond.fieldLink RX4 26 "ClaqueRow$Seat" "noiseAhead" "I", Cond.fieldLink RX4 36 "ClaqueRow$Seat" "hissed" "Z", Cond.fieldLink RX4 39 "ClaqueRow$Seat" "hissedAhead" "Z", Cond.code yX3_keepTickAhead cX3_keepTickAhead 5 none, Cond.fieldLink RX3 11 "ClaqueRow$House" "seats" "[LClaqueRow$Seat;", Cond.methodLink RX3 32 yX4_keepTickAhead, Cond.instanceMethod yX4_keepTickAhead, Cond.selects RX4 yX4_keepTickAhead yX4_keepTickAhead, Cond.initialized RX4, Cond.code yX3_seatOrNull cX3_seatOrNull 4 (some (.object "ClaqueRow$Seat")), Cond.fieldLink RX3 17 "ClaqueRow$House" "rows" "I", Cond.fieldLink RX3 21 "ClaqueRow$House" "columns" "I", Cond.code yX4_heardByNeighbours cX4_heardByNeighbours 1 (some .int), Cond.code yX3_around cX3_around 7 (some .int), Cond.methodLink RX3 35 yX3_seatOrNull, Cond.instanceMethod yX3_seatOrNull, Cond.selects RX3 yX3_seatOrNull yX3_seatOrNull]
def zW1 : List Cond := [Cond.initialized RX3, Cond.methodLink RX3 39 yX4_heardByNeighbours, Cond.instanceMethod yX4_heardByNeighbours, Cond.selects RX4 yX4_heardByNeighbours yX4_heardByNeighbours, Cond.code yX4_tirednessNow cX4_tirednessNow 1 (some .int), Cond.fieldLink RX4 33 "ClaqueRow$Seat" "joins" "I", Cond.code yX4_soundAsPayer cX4_soundAsPayer 2 none, Cond.fieldLink RX4 15 "ClaqueRow$Seat" "threshold" "I", Cond.fieldLink RX4 29 "ClaqueRow$Seat" "joined" "Z", Cond.methodLink RX4 55 Lib.Math.min.name, Cond.static Lib.Math.min.name, Cond.initialized "java/lang/Math", Cond.code Lib.Math.min.name Lib.Math.min.code 2 (some .int), Cond.methodLink RX4 61 Lib.Math.max.name, Cond.static Lib.Math.max.name, Cond.code Lib.Math.max.name Lib.Math.max.code 2 (some .int), Cond.methodLink RX4 51 yX4_tirednessNow, Cond.instanceMethod yX4_tirednessNow, Cond.selects RX4 yX4_tirednessNow yX4_tirednessNow, Cond.code yJx4a65c_size_8abf5 cJx4a65c_size_8abf5 1 (some .int), Cond.code yJ3_checkIndex_8e157 cJ3_checkIndex_8e157 3 (some .int), Cond.code yJ15_checkIndex_7cf53 cJ15_checkIndex_7cf53 2 (some .int), Cond.methodLink RJ15 105 yJ3_checkIndex_8e157, Cond.static yJ3_checkIndex_8e157, Cond.initialized RJ3, Cond.code yJx4a65c_elementData_915e3 cJx4a65c_elementData_915e3 2 (some (.object "java/lang/Object")), Cond.code yJx4a65c_get_915e3 cJx4a65c_get_915e3 2 (some (.object "java/lang/Object")), Cond.methodLink RJx4a65c 118 yJ15_checkIndex_7cf53, Cond.static yJ15_checkIndex_7cf53, Cond.initialized RJ15, Cond.methodLink RJx4a65c 123 yJx4a65c_elementData_915e3, Cond.instanceMethod yJx4a65c_elementData_915e3, Cond.selects RJx4a65c yJx4a65c_elementData_915e3 yJx4a65c_elementData_915e3, Cond.code yX2_follows cX2_follows 2 (some .boolean), Cond.fieldLink RX2 19 "ClaqueRow$Hand" "kind" "C", Cond.fieldLink RX2 32 "ClaqueRow$Cue" "kind" "C", Cond.classLink RX1 114 "ClaqueRow$Cue", Cond.fieldLink RX1 126 "ClaqueRow$Cue" "force" "I", Cond.methodLink RX1 129 Lib.Math.max.name, Cond.fieldLink RX1 134 "ClaqueRow$Hand" "strength" "I", Cond.methodLink RX1 137 Lib.Math.min.name, Cond.methodLink RX1 103 yX1_handsAreFoundOut, Cond.instanceMethod yX1_handsAreFoundOut, Cond.selects RX1 yX1_handsAreFoundOut yX1_handsAreFoundOut, Cond.initialized RX1, Cond.methodLink RX1 107 yJx4a65c_size_8abf5, Cond.instanceMethod yJx4a65c_size_8abf5, Cond.selects RJx4a65c yJx4a65c_size_8abf5 yJx4a65c_size_8abf5, Cond.methodLink RX1 110 yJx4a65c_get_915e3, Cond.instanceMethod yJx4a65c_get_915e3, Cond.selects RJx4a65c yJx4a65c_get_915e3 yJx4a65c_get_915e3, Cond.methodLink RX1 116 yX0_isOnIn, Cond.instanceMethod yX0_isOnIn, Cond.selects RX0 yX0_isOnIn yX0_isOnIn, Cond.methodLink RX1 120 yX2_follows, Cond.instanceMethod yX2_follows, Cond.selects RX2 yX2_follows yX2_follows, Cond.initialized RX2, Cond.code yX1_noiseOf cX1_noiseOf 5 (some .int), Cond.fieldLink RX1 75 "ClaqueRow$Seat" "who" "C", Cond.fieldLink RX1 88 "ClaqueRow$Seat" "hissed" "Z", Cond.fieldLink RX1 92 "ClaqueRow$Seat" "hand" "LClaqueRow$Hand;", Cond.fieldLink RX1 100 "ClaqueRow$Seat" "noise" "I", Cond.methodLink RX1 71 yX3_seatOrNull, Cond.methodLink RX1 81 yX3_around, Cond.instanceMethod yX3_around, Cond.selects RX3 yX3_around yX3_around, Cond.methodLink RX1 85 yX4_soundAsPayer, Cond.instanceMethod yX4_soundAsPayer, Cond.selects RX4 yX4_soundAsPayer yX4_soundAsPayer]
def zW2 : List Cond := [Cond.methodLink RX1 96 yX1_noiseOf, Cond.instanceMethod yX1_noiseOf, Cond.selects RX1 yX1_noiseOf yX1_noiseOf, Cond.code yX1_soundSeat cX1_soundSeat 5 none, Cond.code yX3_noiseSum cX3_noiseSum 6 (some .int), Cond.fieldLink RX3 43 "ClaqueRow$Seat" "noise" "I", Cond.fieldLink RX1 151 "ClaqueRow$Cue" "tick" "I", Cond.code yX1_lastBegunCue cX1_lastBegunCue 4 (some (.object "ClaqueRow$Cue")), Cond.fieldLink RX1 144 "ClaqueRow$Cue" "singer" "LClaqueRow$Singer;", Cond.fieldLink RX1 148 "ClaqueRow$Singer" "calls" "I", Cond.methodLink RX1 140 yX1_lastBegunCue, Cond.instanceMethod yX1_lastBegunCue, Cond.selects RX1 yX1_lastBegunCue yX1_lastBegunCue, Cond.code yX1_hearNoise cX1_hearNoise 3 none, Cond.code yX3_countNoisy cX3_countNoisy 7 (some .int), Cond.fieldLink RX3 50 "ClaqueRow$Seat" "who" "C", Cond.methodLink RX1 154 yX0_lastTick, Cond.code yX1_judgeCues cX1_judgeCues 4 none, Cond.fieldLink RX1 45 "ClaqueRow$House" "rows" "I", Cond.fieldLink RX1 48 "ClaqueRow$House" "columns" "I", Cond.methodLink RX1 40 yX3_keepTickAhead, Cond.instanceMethod yX3_keepTickAhead, Cond.selects RX3 yX3_keepTickAhead yX3_keepTickAhead, Cond.methodLink RX1 51 yX1_soundSeat, Cond.instanceMethod yX1_soundSeat, Cond.selects RX1 yX1_soundSeat yX1_soundSeat, Cond.methodLink RX1 55 yX3_noiseSum, Cond.instanceMethod yX3_noiseSum, Cond.selects RX3 yX3_noiseSum yX3_noiseSum, Cond.methodLink RX1 59 yX1_hearNoise, Cond.instanceMethod yX1_hearNoise, Cond.selects RX1 yX1_hearNoise yX1_hearNoise, Cond.methodLink RX1 63 yX3_countNoisy, Cond.instanceMethod yX3_countNoisy, Cond.selects RX3 yX3_countNoisy yX3_countNoisy, Cond.methodLink RX1 67 yX1_judgeCues, Cond.instanceMethod yX1_judgeCues, Cond.selects RX1 yX1_judgeCues yX1_judgeCues, Cond.code yX1_passTick cX1_passTick 4 none, Cond.code yX1_hasBegunCueFor cX1_hasBegunCueFor 4 (some .boolean), Cond.code yX2_init cX2_init 5 none, Cond.methodLink RX2 3 objectInit, Cond.fieldLink RX2 9 "ClaqueRow$Hand" "money" "I", Cond.fieldLink RX2 15 "ClaqueRow$Hand" "seat" "LClaqueRow$Seat;", Cond.fieldLink RX2 23 "ClaqueRow$Hand" "strength" "I", Cond.fieldLink RX2 26 "ClaqueRow$Hand" "rank" "I", Cond.fieldLink RX2 29 "ClaqueRow$Hand" "price" "I", Cond.code yX2_parts cX2_parts 1 (some .int), Cond.code yX4_init cX4_init 1 none, Cond.methodLink RX4 3 objectInit, Cond.fieldLink RX4 9 "ClaqueRow$Seat" "who" "C", Cond.fieldLink RX4 19 "ClaqueRow$Seat" "hand" "LClaqueRow$Hand;", Cond.code yX3_init cX3_init 2 none, Cond.methodLink RX3 3 objectInit, Cond.classLink RX3 9 RX4, Cond.instantiable RX4 9, Cond.instanceMethod yX4_init, Cond.code yX4_forgetEvening cX4_forgetEvening 1 none, Cond.code yX4_take cX4_take 3 (some .char), Cond.fieldLink RX4 42 "ClaqueRow$Hand" "seat" "LClaqueRow$Seat;", Cond.methodLink RX4 48 yX4_forgetEvening, Cond.instanceMethod yX4_forgetEvening, Cond.selects RX4 yX4_forgetEvening yX4_forgetEvening, Cond.code yX3_build cX3_build 7 none, Cond.methodLink RX3 25 yX4_take, Cond.instanceMethod yX4_take, Cond.selects RX4 yX4_take yX4_take, Cond.code yX3_forgetEvening cX3_forgetEvening 5 none, Cond.methodLink RX3 29 yX4_forgetEvening, Cond.code yX3_countJoined cX3_countJoined 6 (some .int)]
def zW3 : List Cond := [Cond.fieldLink RX3 46 "ClaqueRow$Seat" "joined" "Z", Cond.code yX3_countSeated cX3_countSeated 7 (some .int), Cond.code yX4_isInOrder cX4_isInOrder 2 (some .boolean), Cond.code yX3_isInOrder cX3_isInOrder 5 (some .boolean), Cond.methodLink RX3 54 yX4_isInOrder, Cond.instanceMethod yX4_isInOrder, Cond.selects RX4 yX4_isInOrder yX4_isInOrder, Cond.code yX5_init cX5_init 3 none, Cond.methodLink RX5 1 objectInit, Cond.fieldLink RX5 7 "ClaqueRow$Singer" "calls" "I", Cond.fieldLink RX5 13 "ClaqueRow$Singer" "owed" "I", Cond.fieldLink RX5 16 "ClaqueRow$Singer" "night" "I", Cond.fieldLink RX5 19 "ClaqueRow$Singer" "perCall" "I", Cond.code yX6_init cX6_init 1 none, Cond.methodLink RX6 3 objectInit, Cond.classLink RX6 9 RJx4a65c, Cond.fieldLink RX6 12 "ClaqueRow$Troupe" "hands" "Ljava/util/ArrayList;", Cond.methodLink RX6 11 yJx4a65c_init_da8c8, Cond.code yX6_holds cX6_holds 2 (some .boolean), Cond.code yX6_cutShare cX6_cutShare 3 (some .int), Cond.classLink RX6 26 "ClaqueRow$Hand", Cond.fieldLink RX6 35 "ClaqueRow$Hand" "money" "I", Cond.methodLink RX6 18 yJx4a65c_size_8abf5, Cond.methodLink RX6 22 yJx4a65c_get_915e3, Cond.methodLink RX6 28 yX2_parts, Cond.instanceMethod yX2_parts, Cond.selects RX2 yX2_parts yX2_parts, Cond.methodLink RX6 31 yX6_cutShare, Cond.static yX6_cutShare, Cond.initialized RX6, Cond.code yX6_shareOut cX6_shareOut 7 (some .int), Cond.fieldLink RX6 53 "ClaqueRow$Hand" "strength" "I", Cond.methodLink RX6 47 yX6_holds, Cond.static yX6_holds, Cond.code yX6_strengthOf cX6_strengthOf 4 (some .int), Cond.fieldLink RX6 50 "ClaqueRow$Hand" "price" "I", Cond.code yX6_priceOf cX6_priceOf 4 (some .int), Cond.code yJ6_bitCount_0f7a4 cJ6_bitCount_0f7a4 1 (some .int), Cond.constant RJ6 265 (1431655765), Cond.constant RJ6 266 (858993459), Cond.constant RJ6 267 (252645135), Cond.methodLink RX6 56 yX6_priceOf, Cond.instanceMethod yX6_priceOf, Cond.selects RX6 yX6_priceOf yX6_priceOf, Cond.methodLink RX6 59 yJ6_bitCount_0f7a4, Cond.static yJ6_bitCount_0f7a4, Cond.initialized RJ6, Cond.code yX6_isBetter cX6_isBetter 8 (some .boolean), Cond.methodLink RX6 39 yX6_strengthOf, Cond.instanceMethod yX6_strengthOf, Cond.selects RX6 yX6_strengthOf yX6_strengthOf, Cond.methodLink RX6 43 yX6_isBetter, Cond.instanceMethod yX6_isBetter, Cond.selects RX6 yX6_isBetter yX6_isBetter, Cond.code yX6_cheapestPlan cX6_cheapestPlan 5 (some .int), Cond.fieldLink RX6 64 "ClaqueRow$Hand" "seat" "LClaqueRow$Seat;", Cond.fieldLink RX6 68 "ClaqueRow$Seat" "hand" "LClaqueRow$Hand;", Cond.code yX6_isInOrder cX6_isInOrder 3 (some .boolean), Cond.methodLink RX7 1 objectInit, Cond.classLink RX7 7 RX3, Cond.instantiable RX3 3, Cond.fieldLink RX7 10 "ClaqueRow" "house" "LClaqueRow$House;", Cond.classLink RX7 16 RX6, Cond.instantiable RX6 1, Cond.fieldLink RX7 19 "ClaqueRow" "troupe" "LClaqueRow$Troupe;", Cond.classLink RX7 23 RJx4a65c, Cond.fieldLink RX7 26 "ClaqueRow" "singers" "Ljava/util/ArrayList;", Cond.classLink RX7 30 RX1, Cond.instantiable RX1 7, Cond.fieldLink RX7 33 "ClaqueRow" "evening" "LClaqueRow$Evening;"]
def zW4 : List Cond := [Cond.fieldLink RX7 37 "ClaqueRow" "purse" "I", Cond.fieldLink RX7 41 "ClaqueRow" "chiefsMoney" "I", Cond.methodLink RX7 9 yX3_init, Cond.instanceMethod yX3_init, Cond.instanceMethod yX6_init, Cond.methodLink RX7 25 yJx4a65c_init_da8c8, Cond.instanceMethod yX1_init, Cond.code yX7_init cX7_init 1 none, Cond.code yX7_checkRange cX7_checkRange 3 none, Cond.classLink RX7 249 "java/lang/IllegalArgumentException", Cond.initialized "java/lang/IllegalArgumentException", Cond.classLink RX7 118 "ClaqueRow$Singer", Cond.fieldLink RX7 168 "ClaqueRow$Singer" "calls" "I", Cond.methodLink RX7 273 yX1_begin, Cond.instanceMethod yX1_begin, Cond.selects RX1 yX1_begin yX1_begin, Cond.methodLink RX7 100 yJx4a65c_size_8abf5, Cond.methodLink RX7 179 yJx4a65c_get_915e3, Cond.code yX7_beginEvening cX7_beginEvening 2 none, Cond.methodLink RX7 44 yX7_checkRange, Cond.static yX7_checkRange, Cond.initialized RX7, Cond.methodLink RX7 48 yX3_build, Cond.instanceMethod yX3_build, Cond.selects RX3 yX3_build yX3_build, Cond.methodLink RX7 52 yX7_beginEvening, Cond.instanceMethod yX7_beginEvening, Cond.selects RX7 yX7_beginEvening yX7_beginEvening, Cond.code yX7_newHouse cX7_newHouse 3 (some .int), Cond.code yX7_existingSeat cX7_existingSeat 4 (some (.object "ClaqueRow$Seat")), Cond.classLink RX7 256 "java/lang/IndexOutOfBoundsException", Cond.initialized "java/lang/IndexOutOfBoundsException", Cond.methodLink RX7 229 yX3_seatOrNull, Cond.fieldLink RX7 65 "ClaqueRow$Seat" "threshold" "I", Cond.methodLink RX7 55 yX7_existingSeat, Cond.instanceMethod yX7_existingSeat, Cond.selects RX7 yX7_existingSeat yX7_existingSeat, Cond.methodLink RX7 59 yX4_take, Cond.code yX7_seatPayer cX7_seatPayer 6 (some .char), Cond.code yX7_seatRival cX7_seatRival 3 (some .char), Cond.fieldLink RX7 97 "ClaqueRow$Troupe" "hands" "Ljava/util/ArrayList;", Cond.classLink RX7 73 "ClaqueRow$Hand", Cond.code yX7_existingHand cX7_existingHand 2 (some (.object "ClaqueRow$Hand")), Cond.classLink RX7 78 "java/lang/UnsupportedOperationException", Cond.initialized "java/lang/UnsupportedOperationException", Cond.fieldLink RX7 72 "ClaqueRow$Hand" "seat" "LClaqueRow$Seat;", Cond.fieldLink RX7 85 "ClaqueRow$Seat" "hand" "LClaqueRow$Hand;", Cond.methodLink RX7 68 yX7_existingHand, Cond.instanceMethod yX7_existingHand, Cond.selects RX7 yX7_existingHand yX7_existingHand, Cond.code yX7_seatHand cX7_seatHand 7 (some .char), Cond.code yX7_clearSeat cX7_clearSeat 3 (some .char), Cond.code yX7_seatAt cX7_seatAt 3 (some .char), Cond.fieldLink RX7 89 "ClaqueRow$Seat" "who" "C", Cond.code yX7_checkCueKind cX7_checkCueKind 1 none, Cond.code yJ8_hugeLength_7cf53 cJ8_hugeLength_7cf53 3 (some .int), Cond.constant RJ8 200 (2147483639), Cond.code yJ8_newLength_cabcc cJ8_newLength_cabcc 4 (some .int), Cond.methodLink RJ8 194 Lib.Math.max.name, Cond.methodLink RJ8 201 yJ8_hugeLength_7cf53, Cond.static yJ8_hugeLength_7cf53, Cond.initialized RJ8, Cond.code yJ7_copyOf_6403c cJ7_copyOf_6403c 4 (some (.array (.object "java/lang/Object"))), Cond.classLink RJ7 110 "[Ljava/lang/Object;", Cond.classLink RJ7 2 "java/lang/Object", Cond.methodLink RJ7 304 Lib.Math.min.name, Cond.methodLink RJ7 150 arraycopyName, Cond.native arraycopyName, Cond.static arraycopyName, Cond.initialized "java/lang/System"]
def zW5 : List Cond := [Cond.code yJ7_copyOf_1904c cJ7_copyOf_1904c 2 (some (.array (.object "java/lang/Object"))), Cond.methodLink RJ7 86 ⟨"java/lang/Object", "getClass", "()Ljava/lang/Class;"⟩, Cond.selects "[Ljava/lang/Object;" ⟨"java/lang/Object", "getClass", "()Ljava/lang/Class;"⟩ ⟨"java/lang/Object", "getClass", "()Ljava/lang/Class;"⟩, Cond.instanceMethod ⟨"java/lang/Object", "getClass", "()Ljava/lang/Class;"⟩, Cond.native ⟨"java/lang/Object", "getClass", "()Ljava/lang/Class;"⟩, Cond.methodLink RJ7 300 yJ7_copyOf_6403c, Cond.static yJ7_copyOf_6403c, Cond.initialized RJ7, Cond.methodLink RJx4a65c 79 Lib.Math.max.name, Cond.classLink RJx4a65c 7 "java/lang/Object", Cond.methodLink RJx4a65c 73 yJ8_newLength_cabcc, Cond.static yJ8_newLength_cabcc, Cond.methodLink RJx4a65c 66 yJ7_copyOf_1904c, Cond.static yJ7_copyOf_1904c, Cond.code yJx4a65c_grow_92f84 cJx4a65c_grow_92f84 4 (some (.array (.object "java/lang/Object"))), Cond.methodLink RJx4a65c 69 yJx4a65c_grow_92f84, Cond.instanceMethod yJx4a65c_grow_92f84, Cond.selects RJx4a65c yJx4a65c_grow_92f84 yJx4a65c_grow_92f84, Cond.code yJx4a65c_grow_d5877 cJx4a65c_grow_d5877 1 (some (.array (.object "java/lang/Object"))), Cond.methodLink RJx4a65c 129 yJx4a65c_grow_d5877, Cond.instanceMethod yJx4a65c_grow_d5877, Cond.selects RJx4a65c yJx4a65c_grow_d5877 yJx4a65c_grow_d5877, Cond.code yJx4a65c_add_72be8 cJx4a65c_add_72be8 4 none, Cond.methodLink RJx4a65c 131 yJx4a65c_add_72be8, Cond.instanceMethod yJx4a65c_add_72be8, Cond.selects RJx4a65c yJx4a65c_add_72be8 yJx4a65c_add_72be8, Cond.code yJx4a65c_add_9ea2d cJx4a65c_add_9ea2d 2 (some .boolean), Cond.classLink RX7 104 "java/lang/IllegalStateException", Cond.initialized "java/lang/IllegalStateException", Cond.classLink RX7 73 RX2, Cond.instantiable RX2 6, Cond.methodLink RX7 93 yX7_checkCueKind, Cond.static yX7_checkCueKind, Cond.methodLink RX7 109 yX2_init, Cond.instanceMethod yX2_init, Cond.methodLink RX7 112 yJx4a65c_add_9ea2d, Cond.instanceMethod yJx4a65c_add_9ea2d, Cond.selects RJx4a65c yJx4a65c_add_9ea2d yJx4a65c_add_9ea2d, Cond.code yX7_addHand cX7_addHand 5 (some .int), Cond.code yX7_isSeated cX7_isSeated 2 (some .boolean), Cond.classLink RX7 118 RX5, Cond.instantiable RX5 4, Cond.initialized RX5, Cond.methodLink RX7 120 yX5_init, Cond.instanceMethod yX5_init, Cond.code yX7_addSinger cX7_addSinger 3 (some .int), Cond.code yX7_existingSinger cX7_existingSinger 2 (some (.object "ClaqueRow$Singer")), Cond.fieldLink RX7 126 "ClaqueRow$Evening" "ticks" "I", Cond.fieldLink RX7 131 "ClaqueRow$Evening" "cues" "Ljava/util/ArrayList;", Cond.classLink RX7 136 RX0, Cond.instantiable RX0 5, Cond.methodLink RX7 122 yX7_existingSinger, Cond.instanceMethod yX7_existingSinger, Cond.selects RX7 yX7_existingSinger yX7_existingSinger, Cond.methodLink RX7 138 yX0_init, Cond.instanceMethod yX0_init, Cond.code yX7_addCue cX7_addCue 7 (some .int), Cond.code yX7_setLevel cX7_setLevel 3 (some .int), Cond.fieldLink RX7 141 "ClaqueRow$Evening" "level" "I", Cond.code yX7_checkHouse cX7_checkHouse 1 none, Cond.fieldLink RX7 223 "ClaqueRow$House" "rows" "I", Cond.methodLink RX7 144 yX7_checkHouse, Cond.instanceMethod yX7_checkHouse, Cond.selects RX7 yX7_checkHouse yX7_checkHouse, Cond.methodLink RX7 147 yX1_passTick, Cond.instanceMethod yX1_passTick, Cond.selects RX1 yX1_passTick yX1_passTick, Cond.code yX7_run cX7_run 3 (some .int), Cond.code yX7_noiseAt cX7_noiseAt 3 (some .int), Cond.fieldLink RX7 151 "ClaqueRow$Seat" "noise" "I"]
def zW6 : List Cond := [Cond.code yX7_noise cX7_noise 1 (some .int), Cond.methodLink RX7 154 yX3_noiseSum, Cond.code yX7_joining cX7_joining 1 (some .int), Cond.methodLink RX7 157 yX3_countJoined, Cond.instanceMethod yX3_countJoined, Cond.selects RX3 yX3_countJoined yX3_countJoined, Cond.code yX7_hisses cX7_hisses 1 (some .int), Cond.fieldLink RX7 160 "ClaqueRow$Evening" "hisses" "I", Cond.methodLink RX7 165 yX4_tirednessNow, Cond.code yX7_tiredness cX7_tiredness 4 (some .int), Cond.code yX7_callsOf cX7_callsOf 2 (some .int), Cond.code yX7_calls cX7_calls 1 (some .int), Cond.fieldLink RX7 171 "ClaqueRow$Evening" "calls" "I", Cond.code yX7_suspicions cX7_suspicions 1 (some .int), Cond.fieldLink RX7 172 "ClaqueRow$Evening" "suspicions" "I", Cond.code yX7_areFoundOut cX7_areFoundOut 1 (some .boolean), Cond.methodLink RX7 175 yX1_handsAreFoundOut, Cond.fieldLink RX7 280 "ClaqueRow$Singer" "night" "I", Cond.fieldLink RX7 283 "ClaqueRow$Singer" "perCall" "I", Cond.fieldLink RX7 191 "ClaqueRow$Singer" "owed" "I", Cond.methodLink RX7 276 yX1_hasBegunCueFor, Cond.instanceMethod yX1_hasBegunCueFor, Cond.selects RX1 yX1_hasBegunCueFor yX1_hasBegunCueFor, Cond.code yX7_billFor cX7_billFor 3 (some .int), Cond.methodLink RX7 183 yX7_billFor, Cond.instanceMethod yX7_billFor, Cond.selects RX7 yX7_billFor yX7_billFor, Cond.methodLink RX7 187 yX3_forgetEvening, Cond.instanceMethod yX3_forgetEvening, Cond.selects RX3 yX3_forgetEvening yX3_forgetEvening, Cond.code yX7_endEvening cX7_endEvening 3 (some .int), Cond.constant RX7 190 (99999), Cond.methodLink RX7 196 Lib.Math.min.name, Cond.code yX7_pay cX7_pay 5 (some .int), Cond.code yX7_owed cX7_owed 2 (some .int), Cond.code yX7_purse cX7_purse 1 (some .int), Cond.methodLink RX7 204 yX6_shareOut, Cond.instanceMethod yX6_shareOut, Cond.selects RX6 yX6_shareOut yX6_shareOut, Cond.code yX7_share cX7_share 2 (some .int), Cond.fieldLink RX7 208 "ClaqueRow$Hand" "money" "I", Cond.code yX7_moneyOf cX7_moneyOf 2 (some .int), Cond.code yX7_chiefs cX7_chiefs 1 (some .int), Cond.classLink RX7 268 "java/util/NoSuchElementException", Cond.initialized "java/util/NoSuchElementException", Cond.methodLink RX7 265 yX6_cheapestPlan, Cond.instanceMethod yX6_cheapestPlan, Cond.selects RX6 yX6_cheapestPlan yX6_cheapestPlan, Cond.code yX7_existingPlan cX7_existingPlan 3 (some .int), Cond.methodLink RX7 211 yX7_existingPlan, Cond.instanceMethod yX7_existingPlan, Cond.selects RX7 yX7_existingPlan yX7_existingPlan, Cond.methodLink RX7 214 yX6_priceOf, Cond.code yX7_planCost cX7_planCost 2 (some .int), Cond.methodLink RX7 217 yX6_holds, Cond.code yX7_isPlanned cX7_isPlanned 3 (some .boolean), Cond.constantLong RX7 221 (7), Cond.fieldLink RX7 226 "ClaqueRow$House" "columns" "I", Cond.constantLong RX7 232 (31), Cond.code yX7_checksum cX7_checksum 6 (some .long), Cond.code yX7_joiningShare cX7_joiningShare 2 (some .float), Cond.classLink RX7 238 "java/lang/ArithmeticException", Cond.initialized "java/lang/ArithmeticException", Cond.methodLink RX7 234 yX3_countSeated, Cond.instanceMethod yX3_countSeated, Cond.selects RX3 yX3_countSeated yX3_countSeated, Cond.code yX7_meanNoise cX7_meanNoise 2 (some .double), Cond.methodLink RX7 245 yX3_isInOrder, Cond.instanceMethod yX3_isInOrder, Cond.selects RX3 yX3_isInOrder yX3_isInOrder]
def zW7 : List Cond := [Cond.methodLink RX7 248 yX6_isInOrder, Cond.instanceMethod yX6_isInOrder, Cond.selects RX6 yX6_isInOrder yX6_isInOrder, Cond.code yX7_isSound cX7_isSound 1 (some .boolean), Cond.code yX8_rests cX8_rests 2 none, Cond.fieldLink RX8 20 "ClaqueRowModel" "noise" "[I", Cond.fieldLink RX8 23 "ClaqueRowModel" "joined" "[I", Cond.fieldLink RX8 29 "ClaqueRowModel" "joins" "[Z", Cond.fieldLink RX8 33 "ClaqueRowModel" "hissed" "[Z", Cond.code yX8_empties cX8_empties 2 none, Cond.fieldLink RX8 7 "ClaqueRowModel" "who" "[C", Cond.fieldLink RX8 13 "ClaqueRowModel" "threshold" "[I", Cond.fieldLink RX8 17 "ClaqueRowModel" "handIn" "[I", Cond.methodLink RX8 132 yX8_rests, Cond.instanceMethod yX8_rests, Cond.selects RX8 yX8_rests yX8_rests, Cond.initialized RX8, Cond.methodLink RX8 1 objectInit, Cond.arrayClass .char, Cond.arrayClass .int, Cond.fieldLink RX8 26 "ClaqueRowModel" "before" "[I", Cond.arrayClass .boolean, Cond.fieldLink RX8 36 "ClaqueRowModel" "hissedBefore" "[Z", Cond.fieldLink RX8 39 "ClaqueRowModel" "handKind" "[C", Cond.fieldLink RX8 42 "ClaqueRowModel" "cueKind" "[C", Cond.fieldLink RX8 45 "ClaqueRowModel" "strength" "[I", Cond.fieldLink RX8 48 "ClaqueRowModel" "rank" "[I", Cond.fieldLink RX8 51 "ClaqueRowModel" "price" "[I", Cond.fieldLink RX8 54 "ClaqueRowModel" "money" "[I", Cond.fieldLink RX8 57 "ClaqueRowModel" "night" "[I", Cond.fieldLink RX8 60 "ClaqueRowModel" "perCall" "[I", Cond.fieldLink RX8 63 "ClaqueRowModel" "owed" "[I", Cond.fieldLink RX8 66 "ClaqueRowModel" "callsOf" "[I", Cond.fieldLink RX8 69 "ClaqueRowModel" "cueSinger" "[I", Cond.fieldLink RX8 72 "ClaqueRowModel" "cueTick" "[I", Cond.fieldLink RX8 75 "ClaqueRowModel" "cueForce" "[I", Cond.fieldLink RX8 78 "ClaqueRowModel" "cueTicks" "[I", Cond.fieldLink RX8 81 "ClaqueRowModel" "rows" "I", Cond.fieldLink RX8 85 "ClaqueRowModel" "wide" "I", Cond.fieldLink RX8 88 "ClaqueRowModel" "hands" "I", Cond.fieldLink RX8 91 "ClaqueRowModel" "singers" "I", Cond.fieldLink RX8 94 "ClaqueRowModel" "cues" "I", Cond.fieldLink RX8 97 "ClaqueRowModel" "level" "I", Cond.fieldLink RX8 100 "ClaqueRowModel" "ticks" "I", Cond.fieldLink RX8 103 "ClaqueRowModel" "loud" "I", Cond.fieldLink RX8 106 "ClaqueRowModel" "calls" "I", Cond.fieldLink RX8 109 "ClaqueRowModel" "hisses" "I", Cond.fieldLink RX8 112 "ClaqueRowModel" "suspicions" "I", Cond.fieldLink RX8 115 "ClaqueRowModel" "purse" "I", Cond.fieldLink RX8 118 "ClaqueRowModel" "chiefs" "I", Cond.fieldLink RX8 121 "ClaqueRowModel" "thrown" "I", Cond.methodLink RX8 124 yX8_empties, Cond.instanceMethod yX8_empties, Cond.selects RX8 yX8_empties yX8_empties, Cond.code yX8_init cX8_init 2 none, Cond.code yX8_thrown cX8_thrown 1 (some .int), Cond.code yX8_in cX8_in 3 (some .boolean), Cond.code yX8_least cX8_least 2 (some .int), Cond.code yX8_most cX8_most 2 (some .int), Cond.code yX8_fails cX8_fails 2 (some .int), Cond.code yX8_failsAs cX8_failsAs 2 (some .char), Cond.code yX8_tells cX8_tells 2 (some .int), Cond.code yX8_tellsAs cX8_tellsAs 2 (some .char), Cond.code yX8_failsIf cX8_failsIf 2 (some .boolean), Cond.code yX8_isSeat cX8_isSeat 3 (some .boolean), Cond.methodLink RX8 128 yX8_in, Cond.static yX8_in, Cond.code yX8_isHand cX8_isHand 2 (some .boolean), Cond.code yX8_isSinger cX8_isSinger 2 (some .boolean), Cond.code yX8_begins cX8_begins 2 none]
def zW8 : List Cond := [Cond.methodLink RX8 135 yX8_fails, Cond.instanceMethod yX8_fails, Cond.selects RX8 yX8_fails yX8_fails, Cond.methodLink RX8 139 yX8_begins, Cond.instanceMethod yX8_begins, Cond.selects RX8 yX8_begins yX8_begins, Cond.methodLink RX8 142 yX8_tells, Cond.instanceMethod yX8_tells, Cond.selects RX8 yX8_tells yX8_tells, Cond.code yX8_newHouse cX8_newHouse 4 (some .int), Cond.methodLink RX8 145 yX8_isSeat, Cond.instanceMethod yX8_isSeat, Cond.selects RX8 yX8_isSeat yX8_isSeat, Cond.methodLink RX8 149 yX8_failsAs, Cond.instanceMethod yX8_failsAs, Cond.selects RX8 yX8_failsAs yX8_failsAs, Cond.methodLink RX8 153 yX8_tellsAs, Cond.instanceMethod yX8_tellsAs, Cond.selects RX8 yX8_tellsAs yX8_tellsAs, Cond.code yX8_seatPayer cX8_seatPayer 6 (some .char), Cond.code yX8_seatRival cX8_seatRival 4 (some .char), Cond.methodLink RX8 157 yX8_isHand, Cond.instanceMethod yX8_isHand, Cond.selects RX8 yX8_isHand yX8_isHand, Cond.code yX8_seatHand cX8_seatHand 6 (some .char), Cond.code yX8_clearSeat cX8_clearSeat 4 (some .char), Cond.code yX8_seatAt cX8_seatAt 3 (some .char), Cond.code yX8_isKind cX8_isKind 2 (some .boolean), Cond.code yX8_addHand cX8_addHand 5 (some .int), Cond.methodLink RX8 161 yX8_isKind, Cond.static yX8_isKind, Cond.code yX8_isSeated cX8_isSeated 4 (some .boolean), Cond.methodLink RX8 165 yX8_failsIf, Cond.instanceMethod yX8_failsIf, Cond.selects RX8 yX8_failsIf yX8_failsIf, Cond.code yX8_addSinger cX8_addSinger 3 (some .int), Cond.methodLink RX8 168 yX8_isSinger, Cond.instanceMethod yX8_isSinger, Cond.selects RX8 yX8_isSinger yX8_isSinger, Cond.code yX8_addCue cX8_addCue 6 (some .int), Cond.code yX8_setLevel cX8_setLevel 3 (some .int), Cond.code yX8_handNoise cX8_handNoise 5 (some .int), Cond.methodLink RX8 171 yX8_most, Cond.static yX8_most, Cond.methodLink RX8 175 yX8_least, Cond.static yX8_least, Cond.code yX8_around cX8_around 5 (some .int), Cond.methodLink RX8 178 yX8_handNoise, Cond.instanceMethod yX8_handNoise, Cond.selects RX8 yX8_handNoise yX8_handNoise, Cond.methodLink RX8 181 yX8_around, Cond.instanceMethod yX8_around, Cond.selects RX8 yX8_around yX8_around, Cond.code yX8_sits cX8_sits 3 none, Cond.code yX8_calling cX8_calling 3 none, Cond.code yX8_noisy cX8_noisy 4 (some .int), Cond.code yX8_summed cX8_summed 3 (some .int), Cond.methodLink RX8 184 yX8_sits, Cond.instanceMethod yX8_sits, Cond.selects RX8 yX8_sits yX8_sits, Cond.methodLink RX8 187 yX8_summed, Cond.instanceMethod yX8_summed, Cond.selects RX8 yX8_summed yX8_summed, Cond.methodLink RX8 191 yX8_calling, Cond.instanceMethod yX8_calling, Cond.selects RX8 yX8_calling yX8_calling, Cond.methodLink RX8 194 yX8_noisy, Cond.instanceMethod yX8_noisy, Cond.selects RX8 yX8_noisy yX8_noisy, Cond.code yX8_goes cX8_goes 3 none]
def zW9 : List Cond := [Cond.methodLink RX8 198 yX8_goes, Cond.instanceMethod yX8_goes, Cond.selects RX8 yX8_goes yX8_goes, Cond.code yX8_run cX8_run 3 (some .int), Cond.code yX8_noiseAt cX8_noiseAt 3 (some .int), Cond.code yX8_noise cX8_noise 1 (some .int), Cond.code yX8_joiners cX8_joiners 3 (some .int), Cond.code yX8_joining cX8_joining 1 (some .int), Cond.methodLink RX8 201 yX8_joiners, Cond.instanceMethod yX8_joiners, Cond.selects RX8 yX8_joiners yX8_joiners, Cond.code yX8_hisses cX8_hisses 1 (some .int), Cond.code yX8_tiredness cX8_tiredness 3 (some .int), Cond.code yX8_callsOf cX8_callsOf 2 (some .int), Cond.code yX8_calls cX8_calls 1 (some .int), Cond.code yX8_suspicions cX8_suspicions 1 (some .int), Cond.code yX8_areFoundOut cX8_areFoundOut 1 (some .boolean), Cond.code yX8_endEvening cX8_endEvening 5 (some .int), Cond.code yX8_pay cX8_pay 4 (some .int), Cond.constant RX8 204 (99999), Cond.code yX8_owed cX8_owed 2 (some .int), Cond.code yX8_purse cX8_purse 1 (some .int), Cond.code yX8_share cX8_share 5 (some .int), Cond.code yX8_moneyOf cX8_moneyOf 2 (some .int), Cond.code yX8_chiefs cX8_chiefs 1 (some .int), Cond.code yX8_summed_ cX8_summed_ 5 (some .int), Cond.code yX8_isBetter cX8_isBetter 4 (some .boolean), Cond.methodLink RX8 205 yX8_summed_, Cond.instanceMethod yX8_summed_, Cond.selects RX8 yX8_summed_ yX8_summed_, Cond.code yX8_planned cX8_planned 4 (some .int), Cond.methodLink RX8 207 yX8_isBetter, Cond.instanceMethod yX8_isBetter, Cond.selects RX8 yX8_isBetter yX8_isBetter, Cond.methodLink RX8 210 yX8_planned, Cond.instanceMethod yX8_planned, Cond.selects RX8 yX8_planned yX8_planned, Cond.code yX8_planCost cX8_planCost 3 (some .int), Cond.code yX8_isPlanned cX8_isPlanned 4 (some .boolean), Cond.code yX8_checksum cX8_checksum 5 (some .long), Cond.constantLong RX8 213 (7), Cond.constantLong RX8 215 (31), Cond.code yX8_payers cX8_payers 3 (some .int), Cond.code yX8_joiningShare cX8_joiningShare 1 (some .float), Cond.methodLink RX8 217 yX8_payers, Cond.instanceMethod yX8_payers, Cond.selects RX8 yX8_payers yX8_payers, Cond.code yX8_meanNoise cX8_meanNoise 1 (some .double), Cond.code yX8_isSound cX8_isSound 1 (some .boolean), Cond.code yJx00060_init_a7421 cJx00060_init_a7421 2 none, Cond.code yJ9_max_7cf53 cJ9_max_7cf53 2 (some .int), Cond.code yJ9_min_7cf53 cJ9_min_7cf53 2 (some .int), Cond.classLink RL 13 "java/lang/IllegalArgumentException", Cond.methodLink RL 7 yX7_newHouse, Cond.instanceMethod yX7_newHouse, Cond.selects RX7 yX7_newHouse yX7_newHouse, Cond.codeWith yL_newHouse cL_newHouse 5 (some .int) [(0, 10, 13, 13)], Cond.classLink RL 19 "java/lang/IndexOutOfBoundsException", Cond.methodLink RL 15 yX7_seatPayer, Cond.instanceMethod yX7_seatPayer, Cond.selects RX7 yX7_seatPayer yX7_seatPayer, Cond.codeWith yL_seatPayer cL_seatPayer 6 (some .int) [(0, 12, 15, 19), (0, 12, 19, 13)], Cond.methodLink RL 21 yX7_seatRival, Cond.instanceMethod yX7_seatRival, Cond.selects RX7 yX7_seatRival yX7_seatRival, Cond.codeWith yL_seatRival cL_seatRival 5 (some .int) [(0, 10, 13, 19)], Cond.classLink RL 28 "java/lang/UnsupportedOperationException", Cond.methodLink RL 25 yX7_seatHand, Cond.instanceMethod yX7_seatHand, Cond.selects RX7 yX7_seatHand yX7_seatHand]
def zW10 : List Cond := [Cond.codeWith yL_seatHand cL_seatHand 6 (some .int) [(0, 12, 15, 19), (0, 12, 19, 28)], Cond.methodLink RL 30 yX7_clearSeat, Cond.instanceMethod yX7_clearSeat, Cond.selects RX7 yX7_clearSeat yX7_clearSeat, Cond.codeWith yL_clearSeat cL_clearSeat 5 (some .int) [(0, 10, 13, 19)], Cond.codeWith yL_seatAt cL_seatAt 5 (some .int) [(0, 10, 13, 19)], Cond.methodLink RL 33 yX7_seatAt, Cond.instanceMethod yX7_seatAt, Cond.selects RX7 yX7_seatAt yX7_seatAt, Cond.classLink RL 40 "java/lang/IllegalStateException", Cond.methodLink RL 36 yX7_addHand, Cond.instanceMethod yX7_addHand, Cond.selects RX7 yX7_addHand yX7_addHand, Cond.codeWith yL_addHand cL_addHand 7 (some .int) [(0, 14, 17, 13), (0, 14, 21, 40)], Cond.methodLink RL 42 yX7_isSeated, Cond.instanceMethod yX7_isSeated, Cond.selects RX7 yX7_isSeated yX7_isSeated, Cond.codeWith yL_isSeated cL_isSeated 4 (some .int) [(0, 16, 19, 19)], Cond.methodLink RL 46 yX7_addSinger, Cond.instanceMethod yX7_addSinger, Cond.selects RX7 yX7_addSinger yX7_addSinger, Cond.codeWith yL_addSinger cL_addSinger 5 (some .int) [(0, 10, 13, 13), (0, 10, 17, 40)], Cond.methodLink RL 49 yX7_addCue, Cond.instanceMethod yX7_addCue, Cond.selects RX7 yX7_addCue yX7_addCue, Cond.codeWith yL_addCue cL_addCue 8 (some .int) [(0, 16, 19, 19), (0, 16, 23, 13), (0, 16, 27, 28), (0, 16, 31, 40)], Cond.codeWith yL_setLevel cL_setLevel 4 (some .int) [(0, 9, 12, 13)], Cond.methodLink RL 53 yX7_setLevel, Cond.instanceMethod yX7_setLevel, Cond.selects RX7 yX7_setLevel yX7_setLevel, Cond.methodLink RL 57 yX7_run, Cond.instanceMethod yX7_run, Cond.selects RX7 yX7_run yX7_run, Cond.codeWith yL_run cL_run 4 (some .int) [(0, 9, 12, 13), (0, 9, 15, 40)], Cond.codeWith yL_noiseAt cL_noiseAt 5 (some .int) [(0, 10, 13, 19)], Cond.methodLink RL 60 yX7_noiseAt, Cond.instanceMethod yX7_noiseAt, Cond.selects RX7 yX7_noiseAt yX7_noiseAt, Cond.methodLink RL 63 yX7_tiredness, Cond.instanceMethod yX7_tiredness, Cond.selects RX7 yX7_tiredness yX7_tiredness, Cond.codeWith yL_tiredness cL_tiredness 5 (some .int) [(0, 10, 13, 19), (0, 10, 17, 28)], Cond.methodLink RL 66 yX7_callsOf, Cond.instanceMethod yX7_callsOf, Cond.selects RX7 yX7_callsOf yX7_callsOf, Cond.codeWith yL_callsOf cL_callsOf 4 (some .int) [(0, 9, 12, 19)], Cond.methodLink RL 69 yX7_endEvening, Cond.instanceMethod yX7_endEvening, Cond.selects RX7 yX7_endEvening yX7_endEvening, Cond.codeWith yL_endEvening cL_endEvening 3 (some .int) [(0, 8, 11, 40)], Cond.methodLink RL 73 yX7_pay, Cond.instanceMethod yX7_pay, Cond.selects RX7 yX7_pay yX7_pay, Cond.codeWith yL_pay cL_pay 5 (some .int) [(0, 10, 13, 19), (0, 10, 17, 13), (0, 10, 21, 28)], Cond.methodLink RL 76 yX7_owed, Cond.instanceMethod yX7_owed, Cond.selects RX7 yX7_owed yX7_owed, Cond.codeWith yL_owed cL_owed 4 (some .int) [(0, 9, 12, 19)], Cond.methodLink RL 79 yX7_share, Cond.instanceMethod yX7_share, Cond.selects RX7 yX7_share yX7_share, Cond.codeWith yL_share cL_share 3 (some .int) [(0, 8, 11, 28)], Cond.methodLink RL 82 yX7_moneyOf, Cond.instanceMethod yX7_moneyOf, Cond.selects RX7 yX7_moneyOf yX7_moneyOf, Cond.codeWith yL_moneyOf cL_moneyOf 4 (some .int) [(0, 9, 12, 19)], Cond.classLink RL 88 "java/util/NoSuchElementException", Cond.methodLink RL 85 yX7_planCost, Cond.instanceMethod yX7_planCost, Cond.selects RX7 yX7_planCost yX7_planCost]
def zW11 : List Cond := [Cond.codeWith yL_planCost cL_planCost 4 (some .int) [(0, 9, 12, 13), (0, 9, 15, 88)], Cond.methodLink RL 90 yX7_isPlanned, Cond.instanceMethod yX7_isPlanned, Cond.selects RX7 yX7_isPlanned yX7_isPlanned, Cond.codeWith yL_isPlanned cL_isPlanned 5 (some .int) [(0, 17, 20, 13), (0, 17, 24, 19), (0, 17, 28, 88)], Cond.codeWith yL_joiningShare cL_joiningShare 3 (some .int) [(0, 8, 11, 98)], Cond.classLink RL 98 "java/lang/ArithmeticException", Cond.methodLink RL 94 yX7_joiningShare, Cond.instanceMethod yX7_joiningShare, Cond.selects RX7 yX7_joiningShare yX7_joiningShare, Cond.codeWith yL_meanNoise cL_meanNoise 3 (some .int) [(0, 7, 10, 98)], Cond.methodLink RL 100 yX7_meanNoise, Cond.instanceMethod yX7_meanNoise, Cond.selects RX7 yX7_meanNoise yX7_meanNoise, Cond.classLink RL 8 RX7, Cond.instantiable RX7 6, Cond.classLink RL 105 RX8, Cond.instantiable RX8 37, Cond.arrayClass .long, Cond.arrayClass .double, Cond.methodLink RL 104 yX7_init, Cond.instanceMethod yX7_init, Cond.methodLink RL 107 yX8_init, Cond.instanceMethod yX8_init, Cond.methodLink RL 108 yL_newHouse, Cond.static yL_newHouse, Cond.initialized RL, Cond.methodLink RL 113 yX8_newHouse, Cond.instanceMethod yX8_newHouse, Cond.selects RX8 yX8_newHouse yX8_newHouse, Cond.methodLink RL 114 yX8_thrown, Cond.instanceMethod yX8_thrown, Cond.selects RX8 yX8_thrown yX8_thrown, Cond.methodLink RL 117 yL_seatPayer, Cond.static yL_seatPayer, Cond.methodLink RL 120 yX8_seatPayer, Cond.instanceMethod yX8_seatPayer, Cond.selects RX8 yX8_seatPayer yX8_seatPayer, Cond.methodLink RL 121 yL_seatRival, Cond.static yL_seatRival, Cond.methodLink RL 123 yX8_seatRival, Cond.instanceMethod yX8_seatRival, Cond.selects RX8 yX8_seatRival yX8_seatRival, Cond.methodLink RL 124 yL_seatHand, Cond.static yL_seatHand, Cond.methodLink RL 126 yX8_seatHand, Cond.instanceMethod yX8_seatHand, Cond.selects RX8 yX8_seatHand yX8_seatHand, Cond.methodLink RL 127 yL_clearSeat, Cond.static yL_clearSeat, Cond.methodLink RL 129 yX8_clearSeat, Cond.instanceMethod yX8_clearSeat, Cond.selects RX8 yX8_clearSeat yX8_clearSeat, Cond.methodLink RL 130 yL_seatAt, Cond.static yL_seatAt, Cond.methodLink RL 132 yX8_seatAt, Cond.instanceMethod yX8_seatAt, Cond.selects RX8 yX8_seatAt yX8_seatAt, Cond.methodLink RL 133 yL_addHand, Cond.static yL_addHand, Cond.methodLink RL 136 yX8_addHand, Cond.instanceMethod yX8_addHand, Cond.selects RX8 yX8_addHand yX8_addHand, Cond.methodLink RL 137 yL_isSeated, Cond.static yL_isSeated, Cond.methodLink RL 140 yX8_isSeated, Cond.instanceMethod yX8_isSeated, Cond.selects RX8 yX8_isSeated yX8_isSeated, Cond.methodLink RL 141 yL_addSinger, Cond.static yL_addSinger]
def zW12 : List Cond := [Cond.methodLink RL 143 yX8_addSinger, Cond.instanceMethod yX8_addSinger, Cond.selects RX8 yX8_addSinger yX8_addSinger, Cond.methodLink RL 144 yL_addCue, Cond.static yL_addCue, Cond.methodLink RL 147 yX8_addCue, Cond.instanceMethod yX8_addCue, Cond.selects RX8 yX8_addCue yX8_addCue, Cond.methodLink RL 148 yL_setLevel, Cond.static yL_setLevel, Cond.methodLink RL 150 yX8_setLevel, Cond.instanceMethod yX8_setLevel, Cond.selects RX8 yX8_setLevel yX8_setLevel, Cond.methodLink RL 151 yL_run, Cond.static yL_run, Cond.methodLink RL 153 yX8_run, Cond.instanceMethod yX8_run, Cond.selects RX8 yX8_run yX8_run, Cond.methodLink RL 154 yL_noiseAt, Cond.static yL_noiseAt, Cond.methodLink RL 156 yX8_noiseAt, Cond.instanceMethod yX8_noiseAt, Cond.selects RX8 yX8_noiseAt yX8_noiseAt, Cond.methodLink RL 157 yX7_noise, Cond.instanceMethod yX7_noise, Cond.selects RX7 yX7_noise yX7_noise, Cond.methodLink RL 160 yX8_noise, Cond.instanceMethod yX8_noise, Cond.selects RX8 yX8_noise yX8_noise, Cond.methodLink RL 161 yX7_joining, Cond.instanceMethod yX7_joining, Cond.selects RX7 yX7_joining yX7_joining, Cond.methodLink RL 164 yX8_joining, Cond.instanceMethod yX8_joining, Cond.selects RX8 yX8_joining yX8_joining, Cond.methodLink RL 165 yX7_hisses, Cond.instanceMethod yX7_hisses, Cond.selects RX7 yX7_hisses yX7_hisses, Cond.methodLink RL 168 yX8_hisses, Cond.instanceMethod yX8_hisses, Cond.selects RX8 yX8_hisses yX8_hisses, Cond.methodLink RL 169 yL_tiredness, Cond.static yL_tiredness, Cond.methodLink RL 171 yX8_tiredness, Cond.instanceMethod yX8_tiredness, Cond.selects RX8 yX8_tiredness yX8_tiredness, Cond.methodLink RL 172 yL_callsOf, Cond.static yL_callsOf, Cond.methodLink RL 174 yX8_callsOf, Cond.instanceMethod yX8_callsOf, Cond.selects RX8 yX8_callsOf yX8_callsOf, Cond.methodLink RL 175 yX7_calls, Cond.instanceMethod yX7_calls, Cond.selects RX7 yX7_calls yX7_calls, Cond.methodLink RL 178 yX8_calls, Cond.instanceMethod yX8_calls, Cond.selects RX8 yX8_calls yX8_calls, Cond.methodLink RL 179 yX7_suspicions, Cond.instanceMethod yX7_suspicions, Cond.selects RX7 yX7_suspicions yX7_suspicions, Cond.methodLink RL 182 yX8_suspicions, Cond.instanceMethod yX8_suspicions, Cond.selects RX8 yX8_suspicions yX8_suspicions, Cond.methodLink RL 183 yX7_areFoundOut, Cond.instanceMethod yX7_areFoundOut, Cond.selects RX7 yX7_areFoundOut yX7_areFoundOut, Cond.methodLink RL 187 yX8_areFoundOut, Cond.instanceMethod yX8_areFoundOut, Cond.selects RX8 yX8_areFoundOut yX8_areFoundOut, Cond.methodLink RL 188 yL_endEvening]
def zW13 : List Cond := [Cond.static yL_endEvening, Cond.methodLink RL 191 yX8_endEvening, Cond.instanceMethod yX8_endEvening, Cond.selects RX8 yX8_endEvening yX8_endEvening, Cond.methodLink RL 192 yL_pay, Cond.static yL_pay, Cond.methodLink RL 194 yX8_pay, Cond.instanceMethod yX8_pay, Cond.selects RX8 yX8_pay yX8_pay, Cond.methodLink RL 195 yL_owed, Cond.static yL_owed, Cond.methodLink RL 197 yX8_owed, Cond.instanceMethod yX8_owed, Cond.selects RX8 yX8_owed yX8_owed, Cond.methodLink RL 198 yX7_purse, Cond.instanceMethod yX7_purse, Cond.selects RX7 yX7_purse yX7_purse, Cond.methodLink RL 201 yX8_purse, Cond.instanceMethod yX8_purse, Cond.selects RX8 yX8_purse yX8_purse, Cond.methodLink RL 202 yL_share, Cond.static yL_share, Cond.methodLink RL 204 yX8_share, Cond.instanceMethod yX8_share, Cond.selects RX8 yX8_share yX8_share, Cond.methodLink RL 205 yL_moneyOf, Cond.static yL_moneyOf, Cond.methodLink RL 207 yX8_moneyOf, Cond.instanceMethod yX8_moneyOf, Cond.selects RX8 yX8_moneyOf yX8_moneyOf, Cond.methodLink RL 208 yX7_chiefs, Cond.instanceMethod yX7_chiefs, Cond.selects RX7 yX7_chiefs yX7_chiefs, Cond.methodLink RL 211 yX8_chiefs, Cond.instanceMethod yX8_chiefs, Cond.selects RX8 yX8_chiefs yX8_chiefs, Cond.methodLink RL 212 yL_planCost, Cond.static yL_planCost, Cond.methodLink RL 214 yX8_planCost, Cond.instanceMethod yX8_planCost, Cond.selects RX8 yX8_planCost yX8_planCost, Cond.methodLink RL 215 yL_isPlanned, Cond.static yL_isPlanned, Cond.methodLink RL 217 yX8_isPlanned, Cond.instanceMethod yX8_isPlanned, Cond.selects RX8 yX8_isPlanned yX8_isPlanned, Cond.methodLink RL 218 yX7_checksum, Cond.instanceMethod yX7_checksum, Cond.selects RX7 yX7_checksum yX7_checksum, Cond.methodLink RL 222 yX8_checksum, Cond.instanceMethod yX8_checksum, Cond.selects RX8 yX8_checksum yX8_checksum, Cond.methodLink RL 223 yL_joiningShare, Cond.static yL_joiningShare, Cond.methodLink RL 226 yX8_joiningShare, Cond.instanceMethod yX8_joiningShare, Cond.selects RX8 yX8_joiningShare yX8_joiningShare, Cond.methodLink RL 227 yL_meanNoise, Cond.static yL_meanNoise, Cond.methodLink RL 229 yX8_meanNoise, Cond.instanceMethod yX8_meanNoise, Cond.selects RX8 yX8_meanNoise yX8_meanNoise, Cond.methodLink RL 230 yX7_isSound, Cond.instanceMethod yX7_isSound, Cond.selects RX7 yX7_isSound yX7_isSound, Cond.methodLink RL 233 yX8_isSound, Cond.instanceMethod yX8_isSound, Cond.selects RX8 yX8_isSound yX8_isSound]
def zAll : List Cond := zW0 ++ (zW1 ++ (zW2 ++ (zW3 ++ (zW4 ++ (zW5 ++ (zW6 ++ (zW7 ++ (zW8 ++ (zW9 ++ (zW10 ++ (zW11 ++ (zW12 ++ (zW13 ++ (wsX00 ++ (wsX10 ++ (wsX20 ++ (wsX30 ++ (wsX40 ++ (wsX50 ++ (wsX60 ++ (wsX70 ++ (wsX80 ++ (wsJx000600 ++ (wsJ00 ++ (wsJx4a65c0 ++ (((vx_atS RX7 253 "java/lang/IllegalArgumentException" ["java/lang/RuntimeException", "java/lang/Exception"]).filter goodWord) ++ (((vx_atS RX7 260 "java/lang/IndexOutOfBoundsException" ["java/lang/RuntimeException", "java/lang/Exception"]).filter goodWord) ++ (((vx_atS RX7 82 "java/lang/UnsupportedOperationException" ["java/lang/RuntimeException", "java/lang/Exception"]).filter goodWord) ++ (((vx_atS RX7 108 "java/lang/IllegalStateException" ["java/lang/RuntimeException", "java/lang/Exception"]).filter goodWord) ++ (((vx_at13 RX7 272 "java/util/NoSuchElementException" "java/lang/RuntimeException" ["java/lang/Exception"]).filter goodWord) ++ (((vx_atS RX7 242 "java/lang/ArithmeticException" ["java/lang/RuntimeException", "java/lang/Exception"]).filter goodWord))))))))))))))))))))))))))))))))
theorem zin0 {w : Cond} (h : w ∈ zW0) : w ∈ zAll := List.mem_append_left _ h
theorem zin1 {w : Cond} (h : w ∈ zW1) : w ∈ zAll := List.mem_append_right _ (List.mem_append_left _ h)
theorem zin2 {w : Cond} (h : w ∈ zW2) : w ∈ zAll := List.mem_append_right _ (List.mem_append_right _ (List.mem_append_left _ h))
theorem zin3 {w : Cond} (h : w ∈ zW3) : w ∈ zAll := List.mem_append_right _ (List.mem_append_right _ (List.mem_append_right _ (List.mem_append_left _ h)))
theorem zin4 {w : Cond} (h : w ∈ zW4) : w ∈ zAll := List.mem_append_right _ (List.mem_append_right _ (List.mem_append_right _ (List.mem_append_right _ (List.mem_append_left _ h))))
theorem zin5 {w : Cond} (h : w ∈ zW5) : w ∈ zAll := List.mem_append_right _ (List.mem_append_right _ (List.mem_append_right _ (List.mem_append_right _ (List.mem_append_right _ (List.mem_append_left _ h)))))
theorem zin6 {w : Cond} (h : w ∈ zW6) : w ∈ zAll := List.mem_append_right _ (List.mem_append_right _ (List.mem_append_right _ (List.mem_append_right _ (List.mem_append_right _ (List.mem_append_right _ (List.mem_append_left _ h))))))
theorem zin7 {w : Cond} (h : w ∈ zW7) : w ∈ zAll := List.mem_append_right _ (List.mem_append_right _ (List.mem_append_right _ (List.mem_append_right _ (List.mem_append_right _ (List.mem_append_right _ (List.mem_append_right _ (List.mem_append_left _ h)))))))
theorem zin8 {w : Cond} (h : w ∈ zW8) : w ∈ zAll := List.mem_append_right _ (List.mem_append_right _ (List.mem_append_right _ (List.mem_append_right _ (List.mem_append_right _ (List.mem_append_right _ (List.mem_append_right _ (List.mem_append_right _ (List.mem_append_left _ h))))))))
theorem zin9 {w : Cond} (h : w ∈ zW9) : w ∈ zAll := List.mem_append_right _ (List.mem_append_right _ (List.mem_append_right _ (List.mem_append_right _ (List.mem_append_right _ (List.mem_append_right _ (List.mem_append_right _ (List.mem_append_right _ (List.mem_append_right _ (List.mem_append_left _ h)))))))))
theorem zin10 {w : Cond} (h : w ∈ zW10) : w ∈ zAll := List.mem_append_right _ (List.mem_append_right _ (List.mem_append_right _ (List.mem_append_right _ (List.mem_append_right _ (List.mem_append_right _ (List.mem_append_right _ (List.mem_append_right _ (List.mem_append_right _ (List.mem_append_right _ (List.mem_append_left _ h))))))))))
theorem zin11 {w : Cond} (h : w ∈ zW11) : w ∈ zAll := List.mem_append_right _ (List.mem_append_right _ (List.mem_append_right _ (List.mem_append_right _ (List.mem_append_right _ (List.mem_append_right _ (List.mem_append_right _ (List.mem_append_right _ (List.mem_append_right _ (List.mem_append_right _ (List.mem_append_right _ (List.mem_append_left _ h)))))))))))
theorem zin12 {w : Cond} (h : w ∈ zW12) : w ∈ zAll := List.mem_append_right _ (List.mem_append_right _ (List.mem_append_right _ (List.mem_append_right _ (List.mem_append_right _ (List.mem_append_right _ (List.mem_append_right _ (List.mem_append_right _ (List.mem_append_right _ (List.mem_append_right _ (List.mem_append_right _ (List.mem_append_right _ (List.mem_append_left _ h))))))))))))
theorem zin13 {w : Cond} (h : w ∈ zW13) : w ∈ zAll := List.mem_append_right _ (List.mem_append_right _ (List.mem_append_right _ (List.mem_append_right _ (List.mem_append_right _ (List.mem_append_right _ (List.mem_append_right _ (List.mem_append_right _ (List.mem_append_right _ (List.mem_append_right _ (List.mem_append_right _ (List.mem_append_right _ (List.mem_append_right _ (List.mem_append_left _ h)))))))))))))
theorem zin14 {w : Cond} (h : w ∈ wsX00) : w ∈ zAll := List.mem_append_right _ (List.mem_append_right _ (List.mem_append_right _ (List.mem_append_right _ (List.mem_append_right _ (List.mem_append_right _ (List.mem_append_right _ (List.mem_append_right _ (List.mem_append_right _ (List.mem_append_right _ (List.mem_append_right _ (List.mem_append_right _ (List.mem_append_right _ (List.mem_append_right _ (List.mem_append_left _ h))))))))))))))
theorem zin15 {w : Cond} (h : w ∈ wsX10) : w ∈ zAll := List.mem_append_right _ (List.mem_append_right _ (List.mem_append_right _ (List.mem_append_right _ (List.mem_append_right _ (List.mem_append_right _ (List.mem_append_right _ (List.mem_append_right _ (List.mem_append_right _ (List.mem_append_right _ (List.mem_append_right _ (List.mem_append_right _ (List.mem_append_right _ (List.mem_append_right _ (List.mem_append_right _ (List.mem_append_left _ h)))))))))))))))
theorem zin16 {w : Cond} (h : w ∈ wsX20) : w ∈ zAll := List.mem_append_right _ (List.mem_append_right _ (List.mem_append_right _ (List.mem_append_right _ (List.mem_append_right _ (List.mem_append_right _ (List.mem_append_right _ (List.mem_append_right _ (List.mem_append_right _ (List.mem_append_right _ (List.mem_append_right _ (List.mem_append_right _ (List.mem_append_right _ (List.mem_append_right _ (List.mem_append_right _ (List.mem_append_right _ (List.mem_append_left _ h))))))))))))))))
theorem zin17 {w : Cond} (h : w ∈ wsX30) : w ∈ zAll := List.mem_append_right _ (List.mem_append_right _ (List.mem_append_right _ (List.mem_append_right _ (List.mem_append_right _ (List.mem_append_right _ (List.mem_append_right _ (List.mem_append_right _ (List.mem_append_right _ (List.mem_append_right _ (List.mem_append_right _ (List.mem_append_right _ (List.mem_append_right _ (List.mem_append_right _ (List.mem_append_right _ (List.mem_append_right _ (List.mem_append_right _ (List.mem_append_left _ h)))))))))))))))))
theorem zin18 {w : Cond} (h : w ∈ wsX40) : w ∈ zAll := List.mem_append_right _ (List.mem_append_right _ (List.mem_append_right _ (List.mem_append_right _ (List.mem_append_right _ (List.mem_append_right _ (List.mem_append_right _ (List.mem_append_right _ (List.mem_append_right _ (List.mem_append_right _ (List.mem_append_right _ (List.mem_append_right _ (List.mem_append_right _ (List.mem_append_right _ (List.mem_append_right _ (List.mem_append_right _ (List.mem_append_right _ (List.mem_append_right _ (List.mem_append_left _ h))))))))))))))))))
theorem zin19 {w : Cond} (h : w ∈ wsX50) : w ∈ zAll := List.mem_append_right _ (List.mem_append_right _ (List.mem_append_right _ (List.mem_append_right _ (List.mem_append_right _ (List.mem_append_right _ (List.mem_append_right _ (List.mem_append_right _ (List.mem_append_right _ (List.mem_append_right _ (List.mem_append_right _ (List.mem_append_right _ (List.mem_append_right _ (List.mem_append_right _ (List.mem_append_right _ (List.mem_append_right _ (List.mem_append_right _ (List.mem_append_right _ (List.mem_append_right _ (List.mem_append_left _ h)))))))))))))))))))
theorem zin20 {w : Cond} (h : w ∈ wsX60) : w ∈ zAll := List.mem_append_right _ (List.mem_append_right _ (List.mem_append_right _ (List.mem_append_right _ (List.mem_append_right _ (List.mem_append_right _ (List.mem_append_right _ (List.mem_append_right _ (List.mem_append_right _ (List.mem_append_right _ (List.mem_append_right _ (List.mem_append_right _ (List.mem_append_right _ (List.mem_append_right _ (List.mem_append_right _ (List.mem_append_right _ (List.mem_append_right _ (List.mem_append_right _ (List.mem_append_right _ (List.mem_append_right _ (List.mem_append_left _ h))))))))))))))))))))
theorem zin21 {w : Cond} (h : w ∈ wsX70) : w ∈ zAll := List.mem_append_right _ (List.mem_append_right _ (List.mem_append_right _ (List.mem_append_right _ (List.mem_append_right _ (List.mem_append_right _ (List.mem_append_right _ (List.mem_append_right _ (List.mem_append_right _ (List.mem_append_right _ (List.mem_append_right _ (List.mem_append_right _ (List.mem_append_right _ (List.mem_append_right _ (List.mem_append_right _ (List.mem_append_right _ (List.mem_append_right _ (List.mem_append_right _ (List.mem_append_right _ (List.mem_append_right _ (List.mem_append_right _ (List.mem_append_left _ h)))))))))))))))))))))
theorem zin22 {w : Cond} (h : w ∈ wsX80) : w ∈ zAll := List.mem_append_right _ (List.mem_append_right _ (List.mem_append_right _ (List.mem_append_right _ (List.mem_append_right _ (List.mem_append_right _ (List.mem_append_right _ (List.mem_append_right _ (List.mem_append_right _ (List.mem_append_right _ (List.mem_append_right _ (List.mem_append_right _ (List.mem_append_right _ (List.mem_append_right _ (List.mem_append_right _ (List.mem_append_right _ (List.mem_append_right _ (List.mem_append_right _ (List.mem_append_right _ (List.mem_append_right _ (List.mem_append_right _ (List.mem_append_right _ (List.mem_append_left _ h))))))))))))))))))))))
theorem zin23 {w : Cond} (h : w ∈ wsJx000600) : w ∈ zAll := List.mem_append_right _ (List.mem_append_right _ (List.mem_append_right _ (List.mem_append_right _ (List.mem_append_right _ (List.mem_append_right _ (List.mem_append_right _ (List.mem_append_right _ (List.mem_append_right _ (List.mem_append_right _ (List.mem_append_right _ (List.mem_append_right _ (List.mem_append_right _ (List.mem_append_right _ (List.mem_append_right _ (List.mem_append_right _ (List.mem_append_right _ (List.mem_append_right _ (List.mem_append_right _ (List.mem_append_right _ (List.mem_append_right _ (List.mem_append_right _ (List.mem_append_right _ (List.mem_append_left _ h)))))))))))))))))))))))
theorem zin24 {w : Cond} (h : w ∈ wsJ00) : w ∈ zAll := List.mem_append_right _ (List.mem_append_right _ (List.mem_append_right _ (List.mem_append_right _ (List.mem_append_right _ (List.mem_append_right _ (List.mem_append_right _ (List.mem_append_right _ (List.mem_append_right _ (List.mem_append_right _ (List.mem_append_right _ (List.mem_append_right _ (List.mem_append_right _ (List.mem_append_right _ (List.mem_append_right _ (List.mem_append_right _ (List.mem_append_right _ (List.mem_append_right _ (List.mem_append_right _ (List.mem_append_right _ (List.mem_append_right _ (List.mem_append_right _ (List.mem_append_right _ (List.mem_append_right _ (List.mem_append_left _ h))))))))))))))))))))))))
theorem zin25 {w : Cond} (h : w ∈ wsJx4a65c0) : w ∈ zAll := List.mem_append_right _ (List.mem_append_right _ (List.mem_append_right _ (List.mem_append_right _ (List.mem_append_right _ (List.mem_append_right _ (List.mem_append_right _ (List.mem_append_right _ (List.mem_append_right _ (List.mem_append_right _ (List.mem_append_right _ (List.mem_append_right _ (List.mem_append_right _ (List.mem_append_right _ (List.mem_append_right _ (List.mem_append_right _ (List.mem_append_right _ (List.mem_append_right _ (List.mem_append_right _ (List.mem_append_right _ (List.mem_append_right _ (List.mem_append_right _ (List.mem_append_right _ (List.mem_append_right _ (List.mem_append_right _ (List.mem_append_left _ h)))))))))))))))))))))))))
theorem zin26 {w : Cond} (h : w ∈ ((vx_atS RX7 253 "java/lang/IllegalArgumentException" ["java/lang/RuntimeException", "java/lang/Exception"]).filter goodWord)) : w ∈ zAll := List.mem_append_right _ (List.mem_append_right _ (List.mem_append_right _ (List.mem_append_right _ (List.mem_append_right _ (List.mem_append_right _ (List.mem_append_right _ (List.mem_append_right _ (List.mem_append_right _ (List.mem_append_right _ (List.mem_append_right _ (List.mem_append_right _ (List.mem_append_right _ (List.mem_append_right _ (List.mem_append_right _ (List.mem_append_right _ (List.mem_append_right _ (List.mem_append_right _ (List.mem_append_right _ (List.mem_append_right _ (List.mem_append_right _ (List.mem_append_right _ (List.mem_append_right _ (List.mem_append_right _ (List.mem_append_right _ (List.mem_append_right _ (List.mem_append_left _ h))))))))))))))))))))))))))
theorem zin27 {w : Cond} (h : w ∈ ((vx_atS RX7 260 "java/lang/IndexOutOfBoundsException" ["java/lang/RuntimeException", "java/lang/Exception"]).filter goodWord)) : w ∈ zAll := List.mem_append_right _ (List.mem_append_right _ (List.mem_append_right _ (List.mem_append_right _ (List.mem_append_right _ (List.mem_append_right _ (List.mem_append_right _ (List.mem_append_right _ (List.mem_append_right _ (List.mem_append_right _ (List.mem_append_right _ (List.mem_append_right _ (List.mem_append_right _ (List.mem_append_right _ (List.mem_append_right _ (List.mem_append_right _ (List.mem_append_right _ (List.mem_append_right _ (List.mem_append_right _ (List.mem_append_right _ (List.mem_append_right _ (List.mem_append_right _ (List.mem_append_right _ (List.mem_append_right _ (List.mem_append_right _ (List.mem_append_right _ (List.mem_append_right _ (List.mem_append_left _ h)))))))))))))))))))))))))))
theorem zin28 {w : Cond} (h : w ∈ ((vx_atS RX7 82 "java/lang/UnsupportedOperationException" ["java/lang/RuntimeException", "java/lang/Exception"]).filter goodWord)) : w ∈ zAll := List.mem_append_right _ (List.mem_append_right _ (List.mem_append_right _ (List.mem_append_right _ (List.mem_append_right _ (List.mem_append_right _ (List.mem_append_right _ (List.mem_append_right _ (List.mem_append_right _ (List.mem_append_right _ (List.mem_append_right _ (List.mem_append_right _ (List.mem_append_right _ (List.mem_append_right _ (List.mem_append_right _ (List.mem_append_right _ (List.mem_append_right _ (List.mem_append_right _ (List.mem_append_right _ (List.mem_append_right _ (List.mem_append_right _ (List.mem_append_right _ (List.mem_append_right _ (List.mem_append_right _ (List.mem_append_right _ (List.mem_append_right _ (List.mem_append_right _ (List.mem_append_right _ (List.mem_append_left _ h))))))))))))))))))))))))))))
theorem zin29 {w : Cond} (h : w ∈ ((vx_atS RX7 108 "java/lang/IllegalStateException" ["java/lang/RuntimeException", "java/lang/Exception"]).filter goodWord)) : w ∈ zAll := List.mem_append_right _ (List.mem_append_right _ (List.mem_append_right _ (List.mem_append_right _ (List.mem_append_right _ (List.mem_append_right _ (List.mem_append_right _ (List.mem_append_right _ (List.mem_append_right _ (List.mem_append_right _ (List.mem_append_right _ (List.mem_append_right _ (List.mem_append_right _ (List.mem_append_right _ (List.mem_append_right _ (List.mem_append_right _ (List.mem_append_right _ (List.mem_append_right _ (List.mem_append_right _ (List.mem_append_right _ (List.mem_append_right _ (List.mem_append_right _ (List.mem_append_right _ (List.mem_append_right _ (List.mem_append_right _ (List.mem_append_right _ (List.mem_append_right _ (List.mem_append_right _ (List.mem_append_right _ (List.mem_append_left _ h)))))))))))))))))))))))))))))
theorem zin30 {w : Cond} (h : w ∈ ((vx_at13 RX7 272 "java/util/NoSuchElementException" "java/lang/RuntimeException" ["java/lang/Exception"]).filter goodWord)) : w ∈ zAll := List.mem_append_right _ (List.mem_append_right _ (List.mem_append_right _ (List.mem_append_right _ (List.mem_append_right _ (List.mem_append_right _ (List.mem_append_right _ (List.mem_append_right _ (List.mem_append_right _ (List.mem_append_right _ (List.mem_append_right _ (List.mem_append_right _ (List.mem_append_right _ (List.mem_append_right _ (List.mem_append_right _ (List.mem_append_right _ (List.mem_append_right _ (List.mem_append_right _ (List.mem_append_right _ (List.mem_append_right _ (List.mem_append_right _ (List.mem_append_right _ (List.mem_append_right _ (List.mem_append_right _ (List.mem_append_right _ (List.mem_append_right _ (List.mem_append_right _ (List.mem_append_right _ (List.mem_append_right _ (List.mem_append_right _ (List.mem_append_left _ h))))))))))))))))))))))))))))))
theorem zin31 {w : Cond} (h : w ∈ ((vx_atS RX7 242 "java/lang/ArithmeticException" ["java/lang/RuntimeException", "java/lang/Exception"]).filter goodWord)) : w ∈ zAll := List.mem_append_right _ (List.mem_append_right _ (List.mem_append_right _ (List.mem_append_right _ (List.mem_append_right _ (List.mem_append_right _ (List.mem_append_right _ (List.mem_append_right _ (List.mem_append_right _ (List.mem_append_right _ (List.mem_append_right _ (List.mem_append_right _ (List.mem_append_right _ (List.mem_append_right _ (List.mem_append_right _ (List.mem_append_right _ (List.mem_append_right _ (List.mem_append_right _ (List.mem_append_right _ (List.mem_append_right _ (List.mem_append_right _ (List.mem_append_right _ (List.mem_append_right _ (List.mem_append_right _ (List.mem_append_right _ (List.mem_append_right _ (List.mem_append_right _ (List.mem_append_right _ (List.mem_append_right _ (List.mem_append_right _ (List.mem_append_right _ (h)))))))))))))))))))))))))))))))
theorem zg0 : ∀ w ∈ zW0, goodWord w = true := by decide +kernel
theorem zg1 : ∀ w ∈ zW1, goodWord w = true := by decide +kernel
theorem zg2 : ∀ w ∈ zW2, goodWord w = true := by decide +kernel
theorem zg3 : ∀ w ∈ zW3, goodWord w = true := by decide +kernel
theorem zg4 : ∀ w ∈ zW4, goodWord w = true := by decide +kernel
theorem zg5 : ∀ w ∈ zW5, goodWord w = true := by decide +kernel
theorem zg6 : ∀ w ∈ zW6, goodWord w = true := by decide +kernel
theorem zg7 : ∀ w ∈ zW7, goodWord w = true := by decide +kernel
theorem zg8 : ∀ w ∈ zW8, goodWord w = true := by decide +kernel
theorem zg9 : ∀ w ∈ zW9, goodWord w = true := by decide +kernel
theorem zg10 : ∀ w ∈ zW10, goodWord w = true := by decide +kernel
theorem zg11 : ∀ w ∈ zW11, goodWord w = true := by decide +kernel
theorem zg12 : ∀ w ∈ zW12, goodWord w = true := by decide +kernel
theorem zg13 : ∀ w ∈ zW13, goodWord w = true := by decide +kernel
theorem zg14 : ∀ w ∈ wsX00, goodWord w = true := by decide +kernel
theorem zg15 : ∀ w ∈ wsX10, goodWord w = true := by decide +kernel
theorem zg16 : ∀ w ∈ wsX20, goodWord w = true := by decide +kernel
theorem zg17 : ∀ w ∈ wsX30, goodWord w = true := by decide +kernel
theorem zg18 : ∀ w ∈ wsX40, goodWord w = true := by decide +kernel
theorem zg19 : ∀ w ∈ wsX50, goodWord w = true := by decide +kernel
theorem zg20 : ∀ w ∈ wsX60, goodWord w = true := by decide +kernel
theorem zg21 : ∀ w ∈ wsX70, goodWord w = true := by decide +kernel
theorem zg22 : ∀ w ∈ wsX80, goodWord w = true := by decide +kernel
theorem zg23 : ∀ w ∈ wsJx000600, goodWord w = true := by decide +kernel
theorem zg24 : ∀ w ∈ wsJ00, goodWord w = true := by decide +kernel
theorem zg25 : ∀ w ∈ wsJx4a65c0, goodWord w = true := by decide +kernel
theorem zg26 : ∀ w ∈ (vx_atS RX7 253 "java/lang/IllegalArgumentException" ["java/lang/RuntimeException", "java/lang/Exception"]).filter goodWord, goodWord w = true := fun w h => (List.mem_filter.mp h).2
theorem zg27 : ∀ w ∈ (vx_atS RX7 260 "java/lang/IndexOutOfBoundsException" ["java/lang/RuntimeException", "java/lang/Exception"]).filter goodWord, goodWord w = true := fun w h => (List.mem_filter.mp h).2
theorem zg28 : ∀ w ∈ (vx_atS RX7 82 "java/lang/UnsupportedOperationException" ["java/lang/RuntimeException", "java/lang/Exception"]).filter goodWord, goodWord w = true := fun w h => (List.mem_filter.mp h).2
theorem zg29 : ∀ w ∈ (vx_atS RX7 108 "java/lang/IllegalStateException" ["java/lang/RuntimeException", "java/lang/Exception"]).filter goodWord, goodWord w = true := fun w h => (List.mem_filter.mp h).2
theorem zg30 : ∀ w ∈ (vx_at13 RX7 272 "java/util/NoSuchElementException" "java/lang/RuntimeException" ["java/lang/Exception"]).filter goodWord, goodWord w = true := fun w h => (List.mem_filter.mp h).2
theorem zg31 : ∀ w ∈ (vx_atS RX7 242 "java/lang/ArithmeticException" ["java/lang/RuntimeException", "java/lang/Exception"]).filter goodWord, goodWord w = true := fun w h => (List.mem_filter.mp h).2
theorem zGood : ∀ w ∈ zAll, goodWord w = true := fun w h => (List.mem_append.mp h).elim (fun h => zg0 w h) (fun h => (List.mem_append.mp h).elim (fun h => zg1 w h) (fun h => (List.mem_append.mp h).elim (fun h => zg2 w h) (fun h => (List.mem_append.mp h).elim (fun h => zg3 w h) (fun h => (List.mem_append.mp h).elim (fun h => zg4 w h) (fun h => (List.mem_append.mp h).elim (fun h => zg5 w h) (fun h => (List.mem_append.mp h).elim (fun h => zg6 w h) (fun h => (List.mem_append.mp h).elim (fun h => zg7 w h) (fun h => (List.mem_append.mp h).elim (fun h => zg8 w h) (fun h => (List.mem_append.mp h).elim (fun h => zg9 w h) (fun h => (List.mem_append.mp h).elim (fun h => zg10 w h) (fun h => (List.mem_append.mp h).elim (fun h => zg11 w h) (fun h => (List.mem_append.mp h).elim (fun h => zg12 w h) (fun h => (List.mem_append.mp h).elim (fun h => zg13 w h) (fun h => (List.mem_append.mp h).elim (fun h => zg14 w h) (fun h => (List.mem_append.mp h).elim (fun h => zg15 w h) (fun h => (List.mem_append.mp h).elim (fun h => zg16 w h) (fun h => (List.mem_append.mp h).elim (fun h => zg17 w h) (fun h => (List.mem_append.mp h).elim (fun h => zg18 w h) (fun h => (List.mem_append.mp h).elim (fun h => zg19 w h) (fun h => (List.mem_append.mp h).elim (fun h => zg20 w h) (fun h => (List.mem_append.mp h).elim (fun h => zg21 w h) (fun h => (List.mem_append.mp h).elim (fun h => zg22 w h) (fun h => (List.mem_append.mp h).elim (fun h => zg23 w h) (fun h => (List.mem_append.mp h).elim (fun h => zg24 w h) (fun h => (List.mem_append.mp h).elim (fun h => zg25 w h) (fun h => (List.mem_append.mp h).elim (fun h => zg26 w h) (fun h => (List.mem_append.mp h).elim (fun h => zg27 w h) (fun h => (List.mem_append.mp h).elim (fun h => zg28 w h) (fun h => (List.mem_append.mp h).elim (fun h => zg29 w h) (fun h => (List.mem_append.mp h).elim (fun h => zg30 w h) (fun h => zg31 w h)))))))))))))))))))))))))))))))
theorem zm0_0 : Cond.code yX0_init cX0_init 6 none ∈ zAll := zin0 (List.mem_of_getElem? (i := 0) rfl)
theorem zm0_1 : Cond.methodLink RX0 1 objectInit ∈ zAll := zin0 (List.mem_of_getElem? (i := 1) rfl)
theorem zm0_2 : Cond.instanceMethod objectInit ∈ zAll := zin0 (List.mem_of_getElem? (i := 2) rfl)
theorem zm0_3 : Cond.code objectInit ⟨#[0xb1]⟩ 1 none ∈ zAll := zin0 (List.mem_of_getElem? (i := 3) rfl)
theorem zm0_4 : Cond.fieldLink RX0 7 "ClaqueRow$Cue" "singer" "LClaqueRow$Singer;" ∈ zAll := zin0 (List.mem_of_getElem? (i := 4) rfl)
theorem zm0_5 : Cond.fieldLink RX0 13 "ClaqueRow$Cue" "kind" "C" ∈ zAll := zin0 (List.mem_of_getElem? (i := 5) rfl)
theorem zm0_6 : Cond.fieldLink RX0 17 "ClaqueRow$Cue" "tick" "I" ∈ zAll := zin0 (List.mem_of_getElem? (i := 6) rfl)
theorem zm0_7 : Cond.fieldLink RX0 21 "ClaqueRow$Cue" "force" "I" ∈ zAll := zin0 (List.mem_of_getElem? (i := 7) rfl)
theorem zm0_8 : Cond.fieldLink RX0 24 "ClaqueRow$Cue" "ticks" "I" ∈ zAll := zin0 (List.mem_of_getElem? (i := 8) rfl)
theorem zm0_9 : Cond.code yX0_lastTick cX0_lastTick 1 (some .int) ∈ zAll := zin0 (List.mem_of_getElem? (i := 9) rfl)
theorem zm0_10 : Cond.code yX0_isOnIn cX0_isOnIn 2 (some .boolean) ∈ zAll := zin0 (List.mem_of_getElem? (i := 10) rfl)
theorem zm0_11 : Cond.methodLink RX0 27 yX0_lastTick ∈ zAll := zin0 (List.mem_of_getElem? (i := 11) rfl)
theorem zm0_12 : Cond.instanceMethod yX0_lastTick ∈ zAll := zin0 (List.mem_of_getElem? (i := 12) rfl)
theorem zm0_13 : Cond.selects RX0 yX0_lastTick yX0_lastTick ∈ zAll := zin0 (List.mem_of_getElem? (i := 13) rfl)
theorem zm0_14 : Cond.initialized RX0 ∈ zAll := zin0 (List.mem_of_getElem? (i := 14) rfl)
theorem zm0_15 : Cond.code yJxa1e45_init_da8c8 cJxa1e45_init_da8c8 1 none ∈ zAll := zin0 (List.mem_of_getElem? (i := 15) rfl)
theorem zm0_16 : Cond.methodLink RJxa1e45 1 objectInit ∈ zAll := zin0 (List.mem_of_getElem? (i := 16) rfl)
theorem zm0_17 : Cond.code yJxc12de_init_da8c8 cJxc12de_init_da8c8 1 none ∈ zAll := zin0 (List.mem_of_getElem? (i := 17) rfl)
theorem zm0_18 : Cond.fieldLink RJxc12de 7 "java/util/AbstractList" "modCount" "I" ∈ zAll := zin0 (List.mem_of_getElem? (i := 18) rfl)
theorem zm0_19 : Cond.methodLink RJxc12de 1 yJxa1e45_init_da8c8 ∈ zAll := zin0 (List.mem_of_getElem? (i := 19) rfl)
theorem zm0_20 : Cond.instanceMethod yJxa1e45_init_da8c8 ∈ zAll := zin0 (List.mem_of_getElem? (i := 20) rfl)
theorem zm0_21 : Cond.initialized RJxa1e45 ∈ zAll := zin0 (List.mem_of_getElem? (i := 21) rfl)
theorem zm0_22 : Cond.code yJx4a65c_init_da8c8 cJx4a65c_init_da8c8 1 none ∈ zAll := zin0 (List.mem_of_getElem? (i := 22) rfl)
theorem zm0_23 : Cond.fieldLink RJx4a65c 39 "java/util/ArrayList" "DEFAULTCAPACITY_EMPTY_ELEMENTDATA" "[Ljava/lang/Object;" ∈ zAll := zin0 (List.mem_of_getElem? (i := 23) rfl)
theorem zm0_24 : Cond.fieldLink RJx4a65c 9 "java/util/ArrayList" "elementData" "[Ljava/lang/Object;" ∈ zAll := zin0 (List.mem_of_getElem? (i := 24) rfl)
theorem zm0_25 : Cond.methodLink RJx4a65c 1 yJxc12de_init_da8c8 ∈ zAll := zin0 (List.mem_of_getElem? (i := 25) rfl)
theorem zm0_26 : Cond.instanceMethod yJxc12de_init_da8c8 ∈ zAll := zin0 (List.mem_of_getElem? (i := 26) rfl)
theorem zm0_27 : Cond.initialized RJxc12de ∈ zAll := zin0 (List.mem_of_getElem? (i := 27) rfl)
theorem zm0_28 : Cond.methodLink RX1 3 objectInit ∈ zAll := zin0 (List.mem_of_getElem? (i := 28) rfl)
theorem zm0_29 : Cond.classLink RX1 9 RJx4a65c ∈ zAll := zin0 (List.mem_of_getElem? (i := 29) rfl)
theorem zm0_30 : Cond.instantiable RJx4a65c 3 ∈ zAll := zin0 (List.mem_of_getElem? (i := 30) rfl)
theorem zm0_31 : Cond.initialized RJx4a65c ∈ zAll := zin0 (List.mem_of_getElem? (i := 31) rfl)
theorem zm0_32 : Cond.fieldLink RX1 12 "ClaqueRow$Evening" "cues" "Ljava/util/ArrayList;" ∈ zAll := zin0 (List.mem_of_getElem? (i := 32) rfl)
theorem zm0_33 : Cond.fieldLink RX1 18 "ClaqueRow$Evening" "level" "I" ∈ zAll := zin0 (List.mem_of_getElem? (i := 33) rfl)
theorem zm0_34 : Cond.fieldLink RX1 22 "ClaqueRow$Evening" "ticks" "I" ∈ zAll := zin0 (List.mem_of_getElem? (i := 34) rfl)
theorem zm0_35 : Cond.fieldLink RX1 25 "ClaqueRow$Evening" "loudTicks" "I" ∈ zAll := zin0 (List.mem_of_getElem? (i := 35) rfl)
theorem zm0_36 : Cond.fieldLink RX1 28 "ClaqueRow$Evening" "calls" "I" ∈ zAll := zin0 (List.mem_of_getElem? (i := 36) rfl)
theorem zm0_37 : Cond.fieldLink RX1 31 "ClaqueRow$Evening" "hisses" "I" ∈ zAll := zin0 (List.mem_of_getElem? (i := 37) rfl)
theorem zm0_38 : Cond.fieldLink RX1 34 "ClaqueRow$Evening" "suspicions" "I" ∈ zAll := zin0 (List.mem_of_getElem? (i := 38) rfl)
theorem zm0_39 : Cond.methodLink RX1 11 yJx4a65c_init_da8c8 ∈ zAll := zin0 (List.mem_of_getElem? (i := 39) rfl)
theorem zm0_40 : Cond.instanceMethod yJx4a65c_init_da8c8 ∈ zAll := zin0 (List.mem_of_getElem? (i := 40) rfl)
theorem zm0_41 : Cond.code yX1_init cX1_init 1 none ∈ zAll := zin0 (List.mem_of_getElem? (i := 41) rfl)
theorem zm0_42 : Cond.code yJx4a65c_clear_da8c8 cJx4a65c_clear_da8c8 4 none ∈ zAll := zin0 (List.mem_of_getElem? (i := 42) rfl)
theorem zm0_43 : Cond.fieldLink RJx4a65c 63 "java/util/ArrayList" "modCount" "I" ∈ zAll := zin0 (List.mem_of_getElem? (i := 43) rfl)
theorem zm0_44 : Cond.sameField "java/util/ArrayList" "java/util/AbstractList" "modCount" "I" ∈ zAll := zin0 (List.mem_of_getElem? (i := 44) rfl)
theorem zm0_45 : Cond.fieldLink RJx4a65c 48 "java/util/ArrayList" "size" "I" ∈ zAll := zin0 (List.mem_of_getElem? (i := 45) rfl)
theorem zm0_46 : Cond.code yX1_begin cX1_begin 1 none ∈ zAll := zin0 (List.mem_of_getElem? (i := 46) rfl)
theorem zm0_47 : Cond.methodLink RX1 37 yJx4a65c_clear_da8c8 ∈ zAll := zin0 (List.mem_of_getElem? (i := 47) rfl)
theorem zm0_48 : Cond.instanceMethod yJx4a65c_clear_da8c8 ∈ zAll := zin0 (List.mem_of_getElem? (i := 48) rfl)
theorem zm0_49 : Cond.selects RJx4a65c yJx4a65c_clear_da8c8 yJx4a65c_clear_da8c8 ∈ zAll := zin0 (List.mem_of_getElem? (i := 49) rfl)
theorem zm0_50 : Cond.code yX1_handsAreFoundOut cX1_handsAreFoundOut 1 (some .boolean) ∈ zAll := zin0 (List.mem_of_getElem? (i := 50) rfl)
theorem zm0_51 : Cond.code yX4_keepTickAhead cX4_keepTickAhead 1 none ∈ zAll := zin0 (List.mem_of_getElem? (i := 51) rfl)
theorem zm0_52 : Cond.fieldLink RX4 23 "ClaqueRow$Seat" "noise" "I" ∈ zAll := zin0 (List.mem_of_getElem? (i := 52) rfl)
theorem zm0_53 : Cond.fieldLink RX4 26 "ClaqueRow$Seat" "noiseAhead" "I" ∈ zAll := zin0 (List.mem_of_getElem? (i := 53) rfl)
theorem zm0_54 : Cond.fieldLink RX4 36 "ClaqueRow$Seat" "hissed" "Z" ∈ zAll := zin0 (List.mem_of_getElem? (i := 54) rfl)
theorem zm0_55 : Cond.fieldLink RX4 39 "ClaqueRow$Seat" "hissedAhead" "Z" ∈ zAll := zin0 (List.mem_of_getElem? (i := 55) rfl)
theorem zm0_56 : Cond.code yX3_keepTickAhead cX3_keepTickAhead 5 none ∈ zAll := zin0 (List.mem_of_getElem? (i := 56) rfl)
theorem zm0_57 : Cond.fieldLink RX3 11 "ClaqueRow$House" "seats" "[LClaqueRow$Seat;" ∈ zAll := zin0 (List.mem_of_getElem? (i := 57) rfl)
theorem zm0_58 : Cond.methodLink RX3 32 yX4_keepTickAhead ∈ zAll := zin0 (List.mem_of_getElem? (i := 58) rfl)
theorem zm0_59 : Cond.instanceMethod yX4_keepTickAhead ∈ zAll := zin0 (List.mem_of_getElem? (i := 59) rfl)
theorem zm0_60 : Cond.selects RX4 yX4_keepTickAhead yX4_keepTickAhead ∈ zAll := zin0 (List.mem_of_getElem? (i := 60) rfl)
theorem zm0_61 : Cond.initialized RX4 ∈ zAll := zin0 (List.mem_of_getElem? (i := 61) rfl)
theorem zm0_62 : Cond.code yX3_seatOrNull cX3_seatOrNull 4 (some (.object "ClaqueRow$Seat")) ∈ zAll := zin0 (List.mem_of_getElem? (i := 62) rfl)
theorem zm0_63 : Cond.fieldLink RX3 17 "ClaqueRow$House" "rows" "I" ∈ zAll := zin0 (List.mem_of_getElem? (i := 63) rfl)
theorem zm0_64 : Cond.fieldLink RX3 21 "ClaqueRow$House" "columns" "I" ∈ zAll := zin0 (List.mem_of_getElem? (i := 64) rfl)
theorem zm0_65 : Cond.code yX4_heardByNeighbours cX4_heardByNeighbours 1 (some .int) ∈ zAll := zin0 (List.mem_of_getElem? (i := 65) rfl)
theorem zm0_66 : Cond.code yX3_around cX3_around 7 (some .int) ∈ zAll := zin0 (List.mem_of_getElem? (i := 66) rfl)
theorem zm0_67 : Cond.methodLink RX3 35 yX3_seatOrNull ∈ zAll := zin0 (List.mem_of_getElem? (i := 67) rfl)
theorem zm0_68 : Cond.instanceMethod yX3_seatOrNull ∈ zAll := zin0 (List.mem_of_getElem? (i := 68) rfl)
theorem zm0_69 : Cond.selects RX3 yX3_seatOrNull yX3_seatOrNull ∈ zAll := zin0 (List.mem_of_getElem? (i := 69) rfl)
theorem zm1_0 : Cond.initialized RX3 ∈ zAll := zin1 (List.mem_of_getElem? (i := 0) rfl)
theorem zm1_1 : Cond.methodLink RX3 39 yX4_heardByNeighbours ∈ zAll := zin1 (List.mem_of_getElem? (i := 1) rfl)
theorem zm1_2 : Cond.instanceMethod yX4_heardByNeighbours ∈ zAll := zin1 (List.mem_of_getElem? (i := 2) rfl)
theorem zm1_3 : Cond.selects RX4 yX4_heardByNeighbours yX4_heardByNeighbours ∈ zAll := zin1 (List.mem_of_getElem? (i := 3) rfl)
theorem zm1_4 : Cond.code yX4_tirednessNow cX4_tirednessNow 1 (some .int) ∈ zAll := zin1 (List.mem_of_getElem? (i := 4) rfl)
theorem zm1_5 : Cond.fieldLink RX4 33 "ClaqueRow$Seat" "joins" "I" ∈ zAll := zin1 (List.mem_of_getElem? (i := 5) rfl)
theorem zm1_6 : Cond.code yX4_soundAsPayer cX4_soundAsPayer 2 none ∈ zAll := zin1 (List.mem_of_getElem? (i := 6) rfl)
theorem zm1_7 : Cond.fieldLink RX4 15 "ClaqueRow$Seat" "threshold" "I" ∈ zAll := zin1 (List.mem_of_getElem? (i := 7) rfl)
theorem zm1_8 : Cond.fieldLink RX4 29 "ClaqueRow$Seat" "joined" "Z" ∈ zAll := zin1 (List.mem_of_getElem? (i := 8) rfl)
theorem zm1_9 : Cond.methodLink RX4 55 Lib.Math.min.name ∈ zAll := zin1 (List.mem_of_getElem? (i := 9) rfl)
theorem zm1_10 : Cond.static Lib.Math.min.name ∈ zAll := zin1 (List.mem_of_getElem? (i := 10) rfl)
theorem zm1_11 : Cond.initialized "java/lang/Math" ∈ zAll := zin1 (List.mem_of_getElem? (i := 11) rfl)
theorem zm1_12 : Cond.code Lib.Math.min.name Lib.Math.min.code 2 (some .int) ∈ zAll := zin1 (List.mem_of_getElem? (i := 12) rfl)
theorem zm1_13 : Cond.methodLink RX4 61 Lib.Math.max.name ∈ zAll := zin1 (List.mem_of_getElem? (i := 13) rfl)
theorem zm1_14 : Cond.static Lib.Math.max.name ∈ zAll := zin1 (List.mem_of_getElem? (i := 14) rfl)
theorem zm1_15 : Cond.code Lib.Math.max.name Lib.Math.max.code 2 (some .int) ∈ zAll := zin1 (List.mem_of_getElem? (i := 15) rfl)
theorem zm1_16 : Cond.methodLink RX4 51 yX4_tirednessNow ∈ zAll := zin1 (List.mem_of_getElem? (i := 16) rfl)
theorem zm1_17 : Cond.instanceMethod yX4_tirednessNow ∈ zAll := zin1 (List.mem_of_getElem? (i := 17) rfl)
theorem zm1_18 : Cond.selects RX4 yX4_tirednessNow yX4_tirednessNow ∈ zAll := zin1 (List.mem_of_getElem? (i := 18) rfl)
theorem zm1_19 : Cond.code yJx4a65c_size_8abf5 cJx4a65c_size_8abf5 1 (some .int) ∈ zAll := zin1 (List.mem_of_getElem? (i := 19) rfl)
theorem zm1_20 : Cond.code yJ3_checkIndex_8e157 cJ3_checkIndex_8e157 3 (some .int) ∈ zAll := zin1 (List.mem_of_getElem? (i := 20) rfl)
theorem zm1_21 : Cond.code yJ15_checkIndex_7cf53 cJ15_checkIndex_7cf53 2 (some .int) ∈ zAll := zin1 (List.mem_of_getElem? (i := 21) rfl)
theorem zm1_22 : Cond.methodLink RJ15 105 yJ3_checkIndex_8e157 ∈ zAll := zin1 (List.mem_of_getElem? (i := 22) rfl)
theorem zm1_23 : Cond.static yJ3_checkIndex_8e157 ∈ zAll := zin1 (List.mem_of_getElem? (i := 23) rfl)
theorem zm1_24 : Cond.initialized RJ3 ∈ zAll := zin1 (List.mem_of_getElem? (i := 24) rfl)
theorem zm1_25 : Cond.code yJx4a65c_elementData_915e3 cJx4a65c_elementData_915e3 2 (some (.object "java/lang/Object")) ∈ zAll := zin1 (List.mem_of_getElem? (i := 25) rfl)
theorem zm1_26 : Cond.code yJx4a65c_get_915e3 cJx4a65c_get_915e3 2 (some (.object "java/lang/Object")) ∈ zAll := zin1 (List.mem_of_getElem? (i := 26) rfl)
theorem zm1_27 : Cond.methodLink RJx4a65c 118 yJ15_checkIndex_7cf53 ∈ zAll := zin1 (List.mem_of_getElem? (i := 27) rfl)
theorem zm1_28 : Cond.static yJ15_checkIndex_7cf53 ∈ zAll := zin1 (List.mem_of_getElem? (i := 28) rfl)
theorem zm1_29 : Cond.initialized RJ15 ∈ zAll := zin1 (List.mem_of_getElem? (i := 29) rfl)
theorem zm1_30 : Cond.methodLink RJx4a65c 123 yJx4a65c_elementData_915e3 ∈ zAll := zin1 (List.mem_of_getElem? (i := 30) rfl)
theorem zm1_31 : Cond.instanceMethod yJx4a65c_elementData_915e3 ∈ zAll := zin1 (List.mem_of_getElem? (i := 31) rfl)
theorem zm1_32 : Cond.selects RJx4a65c yJx4a65c_elementData_915e3 yJx4a65c_elementData_915e3 ∈ zAll := zin1 (List.mem_of_getElem? (i := 32) rfl)
theorem zm1_33 : Cond.code yX2_follows cX2_follows 2 (some .boolean) ∈ zAll := zin1 (List.mem_of_getElem? (i := 33) rfl)
theorem zm1_34 : Cond.fieldLink RX2 19 "ClaqueRow$Hand" "kind" "C" ∈ zAll := zin1 (List.mem_of_getElem? (i := 34) rfl)
theorem zm1_35 : Cond.fieldLink RX2 32 "ClaqueRow$Cue" "kind" "C" ∈ zAll := zin1 (List.mem_of_getElem? (i := 35) rfl)
theorem zm1_36 : Cond.classLink RX1 114 "ClaqueRow$Cue" ∈ zAll := zin1 (List.mem_of_getElem? (i := 36) rfl)
theorem zm1_37 : Cond.fieldLink RX1 126 "ClaqueRow$Cue" "force" "I" ∈ zAll := zin1 (List.mem_of_getElem? (i := 37) rfl)
theorem zm1_38 : Cond.methodLink RX1 129 Lib.Math.max.name ∈ zAll := zin1 (List.mem_of_getElem? (i := 38) rfl)
theorem zm1_39 : Cond.fieldLink RX1 134 "ClaqueRow$Hand" "strength" "I" ∈ zAll := zin1 (List.mem_of_getElem? (i := 39) rfl)
theorem zm1_40 : Cond.methodLink RX1 137 Lib.Math.min.name ∈ zAll := zin1 (List.mem_of_getElem? (i := 40) rfl)
theorem zm1_41 : Cond.methodLink RX1 103 yX1_handsAreFoundOut ∈ zAll := zin1 (List.mem_of_getElem? (i := 41) rfl)
theorem zm1_42 : Cond.instanceMethod yX1_handsAreFoundOut ∈ zAll := zin1 (List.mem_of_getElem? (i := 42) rfl)
theorem zm1_43 : Cond.selects RX1 yX1_handsAreFoundOut yX1_handsAreFoundOut ∈ zAll := zin1 (List.mem_of_getElem? (i := 43) rfl)
theorem zm1_44 : Cond.initialized RX1 ∈ zAll := zin1 (List.mem_of_getElem? (i := 44) rfl)
theorem zm1_45 : Cond.methodLink RX1 107 yJx4a65c_size_8abf5 ∈ zAll := zin1 (List.mem_of_getElem? (i := 45) rfl)
theorem zm1_46 : Cond.instanceMethod yJx4a65c_size_8abf5 ∈ zAll := zin1 (List.mem_of_getElem? (i := 46) rfl)
theorem zm1_47 : Cond.selects RJx4a65c yJx4a65c_size_8abf5 yJx4a65c_size_8abf5 ∈ zAll := zin1 (List.mem_of_getElem? (i := 47) rfl)
theorem zm1_48 : Cond.methodLink RX1 110 yJx4a65c_get_915e3 ∈ zAll := zin1 (List.mem_of_getElem? (i := 48) rfl)
theorem zm1_49 : Cond.instanceMethod yJx4a65c_get_915e3 ∈ zAll := zin1 (List.mem_of_getElem? (i := 49) rfl)
theorem zm1_50 : Cond.selects RJx4a65c yJx4a65c_get_915e3 yJx4a65c_get_915e3 ∈ zAll := zin1 (List.mem_of_getElem? (i := 50) rfl)
theorem zm1_51 : Cond.methodLink RX1 116 yX0_isOnIn ∈ zAll := zin1 (List.mem_of_getElem? (i := 51) rfl)
theorem zm1_52 : Cond.instanceMethod yX0_isOnIn ∈ zAll := zin1 (List.mem_of_getElem? (i := 52) rfl)
theorem zm1_53 : Cond.selects RX0 yX0_isOnIn yX0_isOnIn ∈ zAll := zin1 (List.mem_of_getElem? (i := 53) rfl)
theorem zm1_54 : Cond.methodLink RX1 120 yX2_follows ∈ zAll := zin1 (List.mem_of_getElem? (i := 54) rfl)
theorem zm1_55 : Cond.instanceMethod yX2_follows ∈ zAll := zin1 (List.mem_of_getElem? (i := 55) rfl)
theorem zm1_56 : Cond.selects RX2 yX2_follows yX2_follows ∈ zAll := zin1 (List.mem_of_getElem? (i := 56) rfl)
theorem zm1_57 : Cond.initialized RX2 ∈ zAll := zin1 (List.mem_of_getElem? (i := 57) rfl)
theorem zm1_58 : Cond.code yX1_noiseOf cX1_noiseOf 5 (some .int) ∈ zAll := zin1 (List.mem_of_getElem? (i := 58) rfl)
theorem zm1_59 : Cond.fieldLink RX1 75 "ClaqueRow$Seat" "who" "C" ∈ zAll := zin1 (List.mem_of_getElem? (i := 59) rfl)
theorem zm1_60 : Cond.fieldLink RX1 88 "ClaqueRow$Seat" "hissed" "Z" ∈ zAll := zin1 (List.mem_of_getElem? (i := 60) rfl)
theorem zm1_61 : Cond.fieldLink RX1 92 "ClaqueRow$Seat" "hand" "LClaqueRow$Hand;" ∈ zAll := zin1 (List.mem_of_getElem? (i := 61) rfl)
theorem zm1_62 : Cond.fieldLink RX1 100 "ClaqueRow$Seat" "noise" "I" ∈ zAll := zin1 (List.mem_of_getElem? (i := 62) rfl)
theorem zm1_63 : Cond.methodLink RX1 71 yX3_seatOrNull ∈ zAll := zin1 (List.mem_of_getElem? (i := 63) rfl)
theorem zm1_64 : Cond.methodLink RX1 81 yX3_around ∈ zAll := zin1 (List.mem_of_getElem? (i := 64) rfl)
theorem zm1_65 : Cond.instanceMethod yX3_around ∈ zAll := zin1 (List.mem_of_getElem? (i := 65) rfl)
theorem zm1_66 : Cond.selects RX3 yX3_around yX3_around ∈ zAll := zin1 (List.mem_of_getElem? (i := 66) rfl)
theorem zm1_67 : Cond.methodLink RX1 85 yX4_soundAsPayer ∈ zAll := zin1 (List.mem_of_getElem? (i := 67) rfl)
theorem zm1_68 : Cond.instanceMethod yX4_soundAsPayer ∈ zAll := zin1 (List.mem_of_getElem? (i := 68) rfl)
theorem zm1_69 : Cond.selects RX4 yX4_soundAsPayer yX4_soundAsPayer ∈ zAll := zin1 (List.mem_of_getElem? (i := 69) rfl)
theorem zm2_0 : Cond.methodLink RX1 96 yX1_noiseOf ∈ zAll := zin2 (List.mem_of_getElem? (i := 0) rfl)
theorem zm2_1 : Cond.instanceMethod yX1_noiseOf ∈ zAll := zin2 (List.mem_of_getElem? (i := 1) rfl)
theorem zm2_2 : Cond.selects RX1 yX1_noiseOf yX1_noiseOf ∈ zAll := zin2 (List.mem_of_getElem? (i := 2) rfl)
theorem zm2_3 : Cond.code yX1_soundSeat cX1_soundSeat 5 none ∈ zAll := zin2 (List.mem_of_getElem? (i := 3) rfl)
theorem zm2_4 : Cond.code yX3_noiseSum cX3_noiseSum 6 (some .int) ∈ zAll := zin2 (List.mem_of_getElem? (i := 4) rfl)
theorem zm2_5 : Cond.fieldLink RX3 43 "ClaqueRow$Seat" "noise" "I" ∈ zAll := zin2 (List.mem_of_getElem? (i := 5) rfl)
theorem zm2_6 : Cond.fieldLink RX1 151 "ClaqueRow$Cue" "tick" "I" ∈ zAll := zin2 (List.mem_of_getElem? (i := 6) rfl)
theorem zm2_7 : Cond.code yX1_lastBegunCue cX1_lastBegunCue 4 (some (.object "ClaqueRow$Cue")) ∈ zAll := zin2 (List.mem_of_getElem? (i := 7) rfl)
theorem zm2_8 : Cond.fieldLink RX1 144 "ClaqueRow$Cue" "singer" "LClaqueRow$Singer;" ∈ zAll := zin2 (List.mem_of_getElem? (i := 8) rfl)
theorem zm2_9 : Cond.fieldLink RX1 148 "ClaqueRow$Singer" "calls" "I" ∈ zAll := zin2 (List.mem_of_getElem? (i := 9) rfl)
theorem zm2_10 : Cond.methodLink RX1 140 yX1_lastBegunCue ∈ zAll := zin2 (List.mem_of_getElem? (i := 10) rfl)
theorem zm2_11 : Cond.instanceMethod yX1_lastBegunCue ∈ zAll := zin2 (List.mem_of_getElem? (i := 11) rfl)
theorem zm2_12 : Cond.selects RX1 yX1_lastBegunCue yX1_lastBegunCue ∈ zAll := zin2 (List.mem_of_getElem? (i := 12) rfl)
theorem zm2_13 : Cond.code yX1_hearNoise cX1_hearNoise 3 none ∈ zAll := zin2 (List.mem_of_getElem? (i := 13) rfl)
theorem zm2_14 : Cond.code yX3_countNoisy cX3_countNoisy 7 (some .int) ∈ zAll := zin2 (List.mem_of_getElem? (i := 14) rfl)
theorem zm2_15 : Cond.fieldLink RX3 50 "ClaqueRow$Seat" "who" "C" ∈ zAll := zin2 (List.mem_of_getElem? (i := 15) rfl)
theorem zm2_16 : Cond.methodLink RX1 154 yX0_lastTick ∈ zAll := zin2 (List.mem_of_getElem? (i := 16) rfl)
theorem zm2_17 : Cond.code yX1_judgeCues cX1_judgeCues 4 none ∈ zAll := zin2 (List.mem_of_getElem? (i := 17) rfl)
theorem zm2_18 : Cond.fieldLink RX1 45 "ClaqueRow$House" "rows" "I" ∈ zAll := zin2 (List.mem_of_getElem? (i := 18) rfl)
theorem zm2_19 : Cond.fieldLink RX1 48 "ClaqueRow$House" "columns" "I" ∈ zAll := zin2 (List.mem_of_getElem? (i := 19) rfl)
theorem zm2_20 : Cond.methodLink RX1 40 yX3_keepTickAhead ∈ zAll := zin2 (List.mem_of_getElem? (i := 20) rfl)
theorem zm2_21 : Cond.instanceMethod yX3_keepTickAhead ∈ zAll := zin2 (List.mem_of_getElem? (i := 21) rfl)
theorem zm2_22 : Cond.selects RX3 yX3_keepTickAhead yX3_keepTickAhead ∈ zAll := zin2 (List.mem_of_getElem? (i := 22) rfl)
theorem zm2_23 : Cond.methodLink RX1 51 yX1_soundSeat ∈ zAll := zin2 (List.mem_of_getElem? (i := 23) rfl)
theorem zm2_24 : Cond.instanceMethod yX1_soundSeat ∈ zAll := zin2 (List.mem_of_getElem? (i := 24) rfl)
theorem zm2_25 : Cond.selects RX1 yX1_soundSeat yX1_soundSeat ∈ zAll := zin2 (List.mem_of_getElem? (i := 25) rfl)
theorem zm2_26 : Cond.methodLink RX1 55 yX3_noiseSum ∈ zAll := zin2 (List.mem_of_getElem? (i := 26) rfl)
theorem zm2_27 : Cond.instanceMethod yX3_noiseSum ∈ zAll := zin2 (List.mem_of_getElem? (i := 27) rfl)
theorem zm2_28 : Cond.selects RX3 yX3_noiseSum yX3_noiseSum ∈ zAll := zin2 (List.mem_of_getElem? (i := 28) rfl)
theorem zm2_29 : Cond.methodLink RX1 59 yX1_hearNoise ∈ zAll := zin2 (List.mem_of_getElem? (i := 29) rfl)
theorem zm2_30 : Cond.instanceMethod yX1_hearNoise ∈ zAll := zin2 (List.mem_of_getElem? (i := 30) rfl)
theorem zm2_31 : Cond.selects RX1 yX1_hearNoise yX1_hearNoise ∈ zAll := zin2 (List.mem_of_getElem? (i := 31) rfl)
theorem zm2_32 : Cond.methodLink RX1 63 yX3_countNoisy ∈ zAll := zin2 (List.mem_of_getElem? (i := 32) rfl)
theorem zm2_33 : Cond.instanceMethod yX3_countNoisy ∈ zAll := zin2 (List.mem_of_getElem? (i := 33) rfl)
theorem zm2_34 : Cond.selects RX3 yX3_countNoisy yX3_countNoisy ∈ zAll := zin2 (List.mem_of_getElem? (i := 34) rfl)
theorem zm2_35 : Cond.methodLink RX1 67 yX1_judgeCues ∈ zAll := zin2 (List.mem_of_getElem? (i := 35) rfl)
theorem zm2_36 : Cond.instanceMethod yX1_judgeCues ∈ zAll := zin2 (List.mem_of_getElem? (i := 36) rfl)
theorem zm2_37 : Cond.selects RX1 yX1_judgeCues yX1_judgeCues ∈ zAll := zin2 (List.mem_of_getElem? (i := 37) rfl)
theorem zm2_38 : Cond.code yX1_passTick cX1_passTick 4 none ∈ zAll := zin2 (List.mem_of_getElem? (i := 38) rfl)
theorem zm2_39 : Cond.code yX1_hasBegunCueFor cX1_hasBegunCueFor 4 (some .boolean) ∈ zAll := zin2 (List.mem_of_getElem? (i := 39) rfl)
theorem zm2_40 : Cond.code yX2_init cX2_init 5 none ∈ zAll := zin2 (List.mem_of_getElem? (i := 40) rfl)
theorem zm2_41 : Cond.methodLink RX2 3 objectInit ∈ zAll := zin2 (List.mem_of_getElem? (i := 41) rfl)
theorem zm2_42 : Cond.fieldLink RX2 9 "ClaqueRow$Hand" "money" "I" ∈ zAll := zin2 (List.mem_of_getElem? (i := 42) rfl)
theorem zm2_43 : Cond.fieldLink RX2 15 "ClaqueRow$Hand" "seat" "LClaqueRow$Seat;" ∈ zAll := zin2 (List.mem_of_getElem? (i := 43) rfl)
theorem zm2_44 : Cond.fieldLink RX2 23 "ClaqueRow$Hand" "strength" "I" ∈ zAll := zin2 (List.mem_of_getElem? (i := 44) rfl)
theorem zm2_45 : Cond.fieldLink RX2 26 "ClaqueRow$Hand" "rank" "I" ∈ zAll := zin2 (List.mem_of_getElem? (i := 45) rfl)
theorem zm2_46 : Cond.fieldLink RX2 29 "ClaqueRow$Hand" "price" "I" ∈ zAll := zin2 (List.mem_of_getElem? (i := 46) rfl)
theorem zm2_47 : Cond.code yX2_parts cX2_parts 1 (some .int) ∈ zAll := zin2 (List.mem_of_getElem? (i := 47) rfl)
theorem zm2_48 : Cond.code yX4_init cX4_init 1 none ∈ zAll := zin2 (List.mem_of_getElem? (i := 48) rfl)
theorem zm2_49 : Cond.methodLink RX4 3 objectInit ∈ zAll := zin2 (List.mem_of_getElem? (i := 49) rfl)
theorem zm2_50 : Cond.fieldLink RX4 9 "ClaqueRow$Seat" "who" "C" ∈ zAll := zin2 (List.mem_of_getElem? (i := 50) rfl)
theorem zm2_51 : Cond.fieldLink RX4 19 "ClaqueRow$Seat" "hand" "LClaqueRow$Hand;" ∈ zAll := zin2 (List.mem_of_getElem? (i := 51) rfl)
theorem zm2_52 : Cond.code yX3_init cX3_init 2 none ∈ zAll := zin2 (List.mem_of_getElem? (i := 52) rfl)
theorem zm2_53 : Cond.methodLink RX3 3 objectInit ∈ zAll := zin2 (List.mem_of_getElem? (i := 53) rfl)
theorem zm2_54 : Cond.classLink RX3 9 RX4 ∈ zAll := zin2 (List.mem_of_getElem? (i := 54) rfl)
theorem zm2_55 : Cond.instantiable RX4 9 ∈ zAll := zin2 (List.mem_of_getElem? (i := 55) rfl)
theorem zm2_56 : Cond.instanceMethod yX4_init ∈ zAll := zin2 (List.mem_of_getElem? (i := 56) rfl)
theorem zm2_57 : Cond.code yX4_forgetEvening cX4_forgetEvening 1 none ∈ zAll := zin2 (List.mem_of_getElem? (i := 57) rfl)
theorem zm2_58 : Cond.code yX4_take cX4_take 3 (some .char) ∈ zAll := zin2 (List.mem_of_getElem? (i := 58) rfl)
theorem zm2_59 : Cond.fieldLink RX4 42 "ClaqueRow$Hand" "seat" "LClaqueRow$Seat;" ∈ zAll := zin2 (List.mem_of_getElem? (i := 59) rfl)
theorem zm2_60 : Cond.methodLink RX4 48 yX4_forgetEvening ∈ zAll := zin2 (List.mem_of_getElem? (i := 60) rfl)
theorem zm2_61 : Cond.instanceMethod yX4_forgetEvening ∈ zAll := zin2 (List.mem_of_getElem? (i := 61) rfl)
theorem zm2_62 : Cond.selects RX4 yX4_forgetEvening yX4_forgetEvening ∈ zAll := zin2 (List.mem_of_getElem? (i := 62) rfl)
theorem zm2_63 : Cond.code yX3_build cX3_build 7 none ∈ zAll := zin2 (List.mem_of_getElem? (i := 63) rfl)
theorem zm2_64 : Cond.methodLink RX3 25 yX4_take ∈ zAll := zin2 (List.mem_of_getElem? (i := 64) rfl)
theorem zm2_65 : Cond.instanceMethod yX4_take ∈ zAll := zin2 (List.mem_of_getElem? (i := 65) rfl)
theorem zm2_66 : Cond.selects RX4 yX4_take yX4_take ∈ zAll := zin2 (List.mem_of_getElem? (i := 66) rfl)
theorem zm2_67 : Cond.code yX3_forgetEvening cX3_forgetEvening 5 none ∈ zAll := zin2 (List.mem_of_getElem? (i := 67) rfl)
theorem zm2_68 : Cond.methodLink RX3 29 yX4_forgetEvening ∈ zAll := zin2 (List.mem_of_getElem? (i := 68) rfl)
theorem zm2_69 : Cond.code yX3_countJoined cX3_countJoined 6 (some .int) ∈ zAll := zin2 (List.mem_of_getElem? (i := 69) rfl)
theorem zm3_0 : Cond.fieldLink RX3 46 "ClaqueRow$Seat" "joined" "Z" ∈ zAll := zin3 (List.mem_of_getElem? (i := 0) rfl)
theorem zm3_1 : Cond.code yX3_countSeated cX3_countSeated 7 (some .int) ∈ zAll := zin3 (List.mem_of_getElem? (i := 1) rfl)
theorem zm3_2 : Cond.code yX4_isInOrder cX4_isInOrder 2 (some .boolean) ∈ zAll := zin3 (List.mem_of_getElem? (i := 2) rfl)
theorem zm3_3 : Cond.code yX3_isInOrder cX3_isInOrder 5 (some .boolean) ∈ zAll := zin3 (List.mem_of_getElem? (i := 3) rfl)
theorem zm3_4 : Cond.methodLink RX3 54 yX4_isInOrder ∈ zAll := zin3 (List.mem_of_getElem? (i := 4) rfl)
theorem zm3_5 : Cond.instanceMethod yX4_isInOrder ∈ zAll := zin3 (List.mem_of_getElem? (i := 5) rfl)
theorem zm3_6 : Cond.selects RX4 yX4_isInOrder yX4_isInOrder ∈ zAll := zin3 (List.mem_of_getElem? (i := 6) rfl)
theorem zm3_7 : Cond.code yX5_init cX5_init 3 none ∈ zAll := zin3 (List.mem_of_getElem? (i := 7) rfl)
theorem zm3_8 : Cond.methodLink RX5 1 objectInit ∈ zAll := zin3 (List.mem_of_getElem? (i := 8) rfl)
theorem zm3_9 : Cond.fieldLink RX5 7 "ClaqueRow$Singer" "calls" "I" ∈ zAll := zin3 (List.mem_of_getElem? (i := 9) rfl)
theorem zm3_10 : Cond.fieldLink RX5 13 "ClaqueRow$Singer" "owed" "I" ∈ zAll := zin3 (List.mem_of_getElem? (i := 10) rfl)
theorem zm3_11 : Cond.fieldLink RX5 16 "ClaqueRow$Singer" "night" "I" ∈ zAll := zin3 (List.mem_of_getElem? (i := 11) rfl)
theorem zm3_12 : Cond.fieldLink RX5 19 "ClaqueRow$Singer" "perCall" "I" ∈ zAll := zin3 (List.mem_of_getElem? (i := 12) rfl)
theorem zm3_13 : Cond.code yX6_init cX6_init 1 none ∈ zAll := zin3 (List.mem_of_getElem? (i := 13) rfl)
theorem zm3_14 : Cond.methodLink RX6 3 objectInit ∈ zAll := zin3 (List.mem_of_getElem? (i := 14) rfl)
theorem zm3_15 : Cond.classLink RX6 9 RJx4a65c ∈ zAll := zin3 (List.mem_of_getElem? (i := 15) rfl)
theorem zm3_16 : Cond.fieldLink RX6 12 "ClaqueRow$Troupe" "hands" "Ljava/util/ArrayList;" ∈ zAll := zin3 (List.mem_of_getElem? (i := 16) rfl)
theorem zm3_17 : Cond.methodLink RX6 11 yJx4a65c_init_da8c8 ∈ zAll := zin3 (List.mem_of_getElem? (i := 17) rfl)
theorem zm3_18 : Cond.code yX6_holds cX6_holds 2 (some .boolean) ∈ zAll := zin3 (List.mem_of_getElem? (i := 18) rfl)
theorem zm3_19 : Cond.code yX6_cutShare cX6_cutShare 3 (some .int) ∈ zAll := zin3 (List.mem_of_getElem? (i := 19) rfl)
theorem zm3_20 : Cond.classLink RX6 26 "ClaqueRow$Hand" ∈ zAll := zin3 (List.mem_of_getElem? (i := 20) rfl)
theorem zm3_21 : Cond.fieldLink RX6 35 "ClaqueRow$Hand" "money" "I" ∈ zAll := zin3 (List.mem_of_getElem? (i := 21) rfl)
theorem zm3_22 : Cond.methodLink RX6 18 yJx4a65c_size_8abf5 ∈ zAll := zin3 (List.mem_of_getElem? (i := 22) rfl)
theorem zm3_23 : Cond.methodLink RX6 22 yJx4a65c_get_915e3 ∈ zAll := zin3 (List.mem_of_getElem? (i := 23) rfl)
theorem zm3_24 : Cond.methodLink RX6 28 yX2_parts ∈ zAll := zin3 (List.mem_of_getElem? (i := 24) rfl)
theorem zm3_25 : Cond.instanceMethod yX2_parts ∈ zAll := zin3 (List.mem_of_getElem? (i := 25) rfl)
theorem zm3_26 : Cond.selects RX2 yX2_parts yX2_parts ∈ zAll := zin3 (List.mem_of_getElem? (i := 26) rfl)
theorem zm3_27 : Cond.methodLink RX6 31 yX6_cutShare ∈ zAll := zin3 (List.mem_of_getElem? (i := 27) rfl)
theorem zm3_28 : Cond.static yX6_cutShare ∈ zAll := zin3 (List.mem_of_getElem? (i := 28) rfl)
theorem zm3_29 : Cond.initialized RX6 ∈ zAll := zin3 (List.mem_of_getElem? (i := 29) rfl)
theorem zm3_30 : Cond.code yX6_shareOut cX6_shareOut 7 (some .int) ∈ zAll := zin3 (List.mem_of_getElem? (i := 30) rfl)
theorem zm3_31 : Cond.fieldLink RX6 53 "ClaqueRow$Hand" "strength" "I" ∈ zAll := zin3 (List.mem_of_getElem? (i := 31) rfl)
theorem zm3_32 : Cond.methodLink RX6 47 yX6_holds ∈ zAll := zin3 (List.mem_of_getElem? (i := 32) rfl)
theorem zm3_33 : Cond.static yX6_holds ∈ zAll := zin3 (List.mem_of_getElem? (i := 33) rfl)
theorem zm3_34 : Cond.code yX6_strengthOf cX6_strengthOf 4 (some .int) ∈ zAll := zin3 (List.mem_of_getElem? (i := 34) rfl)
theorem zm3_35 : Cond.fieldLink RX6 50 "ClaqueRow$Hand" "price" "I" ∈ zAll := zin3 (List.mem_of_getElem? (i := 35) rfl)
theorem zm3_36 : Cond.code yX6_priceOf cX6_priceOf 4 (some .int) ∈ zAll := zin3 (List.mem_of_getElem? (i := 36) rfl)
theorem zm3_37 : Cond.code yJ6_bitCount_0f7a4 cJ6_bitCount_0f7a4 1 (some .int) ∈ zAll := zin3 (List.mem_of_getElem? (i := 37) rfl)
theorem zm3_38 : Cond.constant RJ6 265 (1431655765) ∈ zAll := zin3 (List.mem_of_getElem? (i := 38) rfl)
theorem zm3_39 : Cond.constant RJ6 266 (858993459) ∈ zAll := zin3 (List.mem_of_getElem? (i := 39) rfl)
theorem zm3_40 : Cond.constant RJ6 267 (252645135) ∈ zAll := zin3 (List.mem_of_getElem? (i := 40) rfl)
theorem zm3_41 : Cond.methodLink RX6 56 yX6_priceOf ∈ zAll := zin3 (List.mem_of_getElem? (i := 41) rfl)
theorem zm3_42 : Cond.instanceMethod yX6_priceOf ∈ zAll := zin3 (List.mem_of_getElem? (i := 42) rfl)
theorem zm3_43 : Cond.selects RX6 yX6_priceOf yX6_priceOf ∈ zAll := zin3 (List.mem_of_getElem? (i := 43) rfl)
theorem zm3_44 : Cond.methodLink RX6 59 yJ6_bitCount_0f7a4 ∈ zAll := zin3 (List.mem_of_getElem? (i := 44) rfl)
theorem zm3_45 : Cond.static yJ6_bitCount_0f7a4 ∈ zAll := zin3 (List.mem_of_getElem? (i := 45) rfl)
theorem zm3_46 : Cond.initialized RJ6 ∈ zAll := zin3 (List.mem_of_getElem? (i := 46) rfl)
theorem zm3_47 : Cond.code yX6_isBetter cX6_isBetter 8 (some .boolean) ∈ zAll := zin3 (List.mem_of_getElem? (i := 47) rfl)
theorem zm3_48 : Cond.methodLink RX6 39 yX6_strengthOf ∈ zAll := zin3 (List.mem_of_getElem? (i := 48) rfl)
theorem zm3_49 : Cond.instanceMethod yX6_strengthOf ∈ zAll := zin3 (List.mem_of_getElem? (i := 49) rfl)
theorem zm3_50 : Cond.selects RX6 yX6_strengthOf yX6_strengthOf ∈ zAll := zin3 (List.mem_of_getElem? (i := 50) rfl)
theorem zm3_51 : Cond.methodLink RX6 43 yX6_isBetter ∈ zAll := zin3 (List.mem_of_getElem? (i := 51) rfl)
theorem zm3_52 : Cond.instanceMethod yX6_isBetter ∈ zAll := zin3 (List.mem_of_getElem? (i := 52) rfl)
theorem zm3_53 : Cond.selects RX6 yX6_isBetter yX6_isBetter ∈ zAll := zin3 (List.mem_of_getElem? (i := 53) rfl)
theorem zm3_54 : Cond.code yX6_cheapestPlan cX6_cheapestPlan 5 (some .int) ∈ zAll := zin3 (List.mem_of_getElem? (i := 54) rfl)
theorem zm3_55 : Cond.fieldLink RX6 64 "ClaqueRow$Hand" "seat" "LClaqueRow$Seat;" ∈ zAll := zin3 (List.mem_of_getElem? (i := 55) rfl)
theorem zm3_56 : Cond.fieldLink RX6 68 "ClaqueRow$Seat" "hand" "LClaqueRow$Hand;" ∈ zAll := zin3 (List.mem_of_getElem? (i := 56) rfl)
theorem zm3_57 : Cond.code yX6_isInOrder cX6_isInOrder 3 (some .boolean) ∈ zAll := zin3 (List.mem_of_getElem? (i := 57) rfl)
theorem zm3_58 : Cond.methodLink RX7 1 objectInit ∈ zAll := zin3 (List.mem_of_getElem? (i := 58) rfl)
theorem zm3_59 : Cond.classLink RX7 7 RX3 ∈ zAll := zin3 (List.mem_of_getElem? (i := 59) rfl)
theorem zm3_60 : Cond.instantiable RX3 3 ∈ zAll := zin3 (List.mem_of_getElem? (i := 60) rfl)
theorem zm3_61 : Cond.fieldLink RX7 10 "ClaqueRow" "house" "LClaqueRow$House;" ∈ zAll := zin3 (List.mem_of_getElem? (i := 61) rfl)
theorem zm3_62 : Cond.classLink RX7 16 RX6 ∈ zAll := zin3 (List.mem_of_getElem? (i := 62) rfl)
theorem zm3_63 : Cond.instantiable RX6 1 ∈ zAll := zin3 (List.mem_of_getElem? (i := 63) rfl)
theorem zm3_64 : Cond.fieldLink RX7 19 "ClaqueRow" "troupe" "LClaqueRow$Troupe;" ∈ zAll := zin3 (List.mem_of_getElem? (i := 64) rfl)
theorem zm3_65 : Cond.classLink RX7 23 RJx4a65c ∈ zAll := zin3 (List.mem_of_getElem? (i := 65) rfl)
theorem zm3_66 : Cond.fieldLink RX7 26 "ClaqueRow" "singers" "Ljava/util/ArrayList;" ∈ zAll := zin3 (List.mem_of_getElem? (i := 66) rfl)
theorem zm3_67 : Cond.classLink RX7 30 RX1 ∈ zAll := zin3 (List.mem_of_getElem? (i := 67) rfl)
theorem zm3_68 : Cond.instantiable RX1 7 ∈ zAll := zin3 (List.mem_of_getElem? (i := 68) rfl)
theorem zm3_69 : Cond.fieldLink RX7 33 "ClaqueRow" "evening" "LClaqueRow$Evening;" ∈ zAll := zin3 (List.mem_of_getElem? (i := 69) rfl)
theorem zm4_0 : Cond.fieldLink RX7 37 "ClaqueRow" "purse" "I" ∈ zAll := zin4 (List.mem_of_getElem? (i := 0) rfl)
theorem zm4_1 : Cond.fieldLink RX7 41 "ClaqueRow" "chiefsMoney" "I" ∈ zAll := zin4 (List.mem_of_getElem? (i := 1) rfl)
theorem zm4_2 : Cond.methodLink RX7 9 yX3_init ∈ zAll := zin4 (List.mem_of_getElem? (i := 2) rfl)
theorem zm4_3 : Cond.instanceMethod yX3_init ∈ zAll := zin4 (List.mem_of_getElem? (i := 3) rfl)
theorem zm4_4 : Cond.instanceMethod yX6_init ∈ zAll := zin4 (List.mem_of_getElem? (i := 4) rfl)
theorem zm4_5 : Cond.methodLink RX7 25 yJx4a65c_init_da8c8 ∈ zAll := zin4 (List.mem_of_getElem? (i := 5) rfl)
theorem zm4_6 : Cond.instanceMethod yX1_init ∈ zAll := zin4 (List.mem_of_getElem? (i := 6) rfl)
theorem zm4_7 : Cond.code yX7_init cX7_init 1 none ∈ zAll := zin4 (List.mem_of_getElem? (i := 7) rfl)
theorem zm4_8 : Cond.code yX7_checkRange cX7_checkRange 3 none ∈ zAll := zin4 (List.mem_of_getElem? (i := 8) rfl)
theorem zm4_9 : Cond.classLink RX7 249 "java/lang/IllegalArgumentException" ∈ zAll := zin4 (List.mem_of_getElem? (i := 9) rfl)
theorem zm4_10 : Cond.initialized "java/lang/IllegalArgumentException" ∈ zAll := zin4 (List.mem_of_getElem? (i := 10) rfl)
theorem zm4_11 : Cond.classLink RX7 118 "ClaqueRow$Singer" ∈ zAll := zin4 (List.mem_of_getElem? (i := 11) rfl)
theorem zm4_12 : Cond.fieldLink RX7 168 "ClaqueRow$Singer" "calls" "I" ∈ zAll := zin4 (List.mem_of_getElem? (i := 12) rfl)
theorem zm4_13 : Cond.methodLink RX7 273 yX1_begin ∈ zAll := zin4 (List.mem_of_getElem? (i := 13) rfl)
theorem zm4_14 : Cond.instanceMethod yX1_begin ∈ zAll := zin4 (List.mem_of_getElem? (i := 14) rfl)
theorem zm4_15 : Cond.selects RX1 yX1_begin yX1_begin ∈ zAll := zin4 (List.mem_of_getElem? (i := 15) rfl)
theorem zm4_16 : Cond.methodLink RX7 100 yJx4a65c_size_8abf5 ∈ zAll := zin4 (List.mem_of_getElem? (i := 16) rfl)
theorem zm4_17 : Cond.methodLink RX7 179 yJx4a65c_get_915e3 ∈ zAll := zin4 (List.mem_of_getElem? (i := 17) rfl)
theorem zm4_18 : Cond.code yX7_beginEvening cX7_beginEvening 2 none ∈ zAll := zin4 (List.mem_of_getElem? (i := 18) rfl)
theorem zm4_19 : Cond.methodLink RX7 44 yX7_checkRange ∈ zAll := zin4 (List.mem_of_getElem? (i := 19) rfl)
theorem zm4_20 : Cond.static yX7_checkRange ∈ zAll := zin4 (List.mem_of_getElem? (i := 20) rfl)
theorem zm4_21 : Cond.initialized RX7 ∈ zAll := zin4 (List.mem_of_getElem? (i := 21) rfl)
theorem zm4_22 : Cond.methodLink RX7 48 yX3_build ∈ zAll := zin4 (List.mem_of_getElem? (i := 22) rfl)
theorem zm4_23 : Cond.instanceMethod yX3_build ∈ zAll := zin4 (List.mem_of_getElem? (i := 23) rfl)
theorem zm4_24 : Cond.selects RX3 yX3_build yX3_build ∈ zAll := zin4 (List.mem_of_getElem? (i := 24) rfl)
theorem zm4_25 : Cond.methodLink RX7 52 yX7_beginEvening ∈ zAll := zin4 (List.mem_of_getElem? (i := 25) rfl)
theorem zm4_26 : Cond.instanceMethod yX7_beginEvening ∈ zAll := zin4 (List.mem_of_getElem? (i := 26) rfl)
theorem zm4_27 : Cond.selects RX7 yX7_beginEvening yX7_beginEvening ∈ zAll := zin4 (List.mem_of_getElem? (i := 27) rfl)
theorem zm4_28 : Cond.code yX7_newHouse cX7_newHouse 3 (some .int) ∈ zAll := zin4 (List.mem_of_getElem? (i := 28) rfl)
theorem zm4_29 : Cond.code yX7_existingSeat cX7_existingSeat 4 (some (.object "ClaqueRow$Seat")) ∈ zAll := zin4 (List.mem_of_getElem? (i := 29) rfl)
theorem zm4_30 : Cond.classLink RX7 256 "java/lang/IndexOutOfBoundsException" ∈ zAll := zin4 (List.mem_of_getElem? (i := 30) rfl)
theorem zm4_31 : Cond.initialized "java/lang/IndexOutOfBoundsException" ∈ zAll := zin4 (List.mem_of_getElem? (i := 31) rfl)
theorem zm4_32 : Cond.methodLink RX7 229 yX3_seatOrNull ∈ zAll := zin4 (List.mem_of_getElem? (i := 32) rfl)
theorem zm4_33 : Cond.fieldLink RX7 65 "ClaqueRow$Seat" "threshold" "I" ∈ zAll := zin4 (List.mem_of_getElem? (i := 33) rfl)
theorem zm4_34 : Cond.methodLink RX7 55 yX7_existingSeat ∈ zAll := zin4 (List.mem_of_getElem? (i := 34) rfl)
theorem zm4_35 : Cond.instanceMethod yX7_existingSeat ∈ zAll := zin4 (List.mem_of_getElem? (i := 35) rfl)
theorem zm4_36 : Cond.selects RX7 yX7_existingSeat yX7_existingSeat ∈ zAll := zin4 (List.mem_of_getElem? (i := 36) rfl)
theorem zm4_37 : Cond.methodLink RX7 59 yX4_take ∈ zAll := zin4 (List.mem_of_getElem? (i := 37) rfl)
theorem zm4_38 : Cond.code yX7_seatPayer cX7_seatPayer 6 (some .char) ∈ zAll := zin4 (List.mem_of_getElem? (i := 38) rfl)
theorem zm4_39 : Cond.code yX7_seatRival cX7_seatRival 3 (some .char) ∈ zAll := zin4 (List.mem_of_getElem? (i := 39) rfl)
theorem zm4_40 : Cond.fieldLink RX7 97 "ClaqueRow$Troupe" "hands" "Ljava/util/ArrayList;" ∈ zAll := zin4 (List.mem_of_getElem? (i := 40) rfl)
theorem zm4_41 : Cond.classLink RX7 73 "ClaqueRow$Hand" ∈ zAll := zin4 (List.mem_of_getElem? (i := 41) rfl)
theorem zm4_42 : Cond.code yX7_existingHand cX7_existingHand 2 (some (.object "ClaqueRow$Hand")) ∈ zAll := zin4 (List.mem_of_getElem? (i := 42) rfl)
theorem zm4_43 : Cond.classLink RX7 78 "java/lang/UnsupportedOperationException" ∈ zAll := zin4 (List.mem_of_getElem? (i := 43) rfl)
theorem zm4_44 : Cond.initialized "java/lang/UnsupportedOperationException" ∈ zAll := zin4 (List.mem_of_getElem? (i := 44) rfl)
theorem zm4_45 : Cond.fieldLink RX7 72 "ClaqueRow$Hand" "seat" "LClaqueRow$Seat;" ∈ zAll := zin4 (List.mem_of_getElem? (i := 45) rfl)
theorem zm4_46 : Cond.fieldLink RX7 85 "ClaqueRow$Seat" "hand" "LClaqueRow$Hand;" ∈ zAll := zin4 (List.mem_of_getElem? (i := 46) rfl)
theorem zm4_47 : Cond.methodLink RX7 68 yX7_existingHand ∈ zAll := zin4 (List.mem_of_getElem? (i := 47) rfl)
theorem zm4_48 : Cond.instanceMethod yX7_existingHand ∈ zAll := zin4 (List.mem_of_getElem? (i := 48) rfl)
theorem zm4_49 : Cond.selects RX7 yX7_existingHand yX7_existingHand ∈ zAll := zin4 (List.mem_of_getElem? (i := 49) rfl)
theorem zm4_50 : Cond.code yX7_seatHand cX7_seatHand 7 (some .char) ∈ zAll := zin4 (List.mem_of_getElem? (i := 50) rfl)
theorem zm4_51 : Cond.code yX7_clearSeat cX7_clearSeat 3 (some .char) ∈ zAll := zin4 (List.mem_of_getElem? (i := 51) rfl)
theorem zm4_52 : Cond.code yX7_seatAt cX7_seatAt 3 (some .char) ∈ zAll := zin4 (List.mem_of_getElem? (i := 52) rfl)
theorem zm4_53 : Cond.fieldLink RX7 89 "ClaqueRow$Seat" "who" "C" ∈ zAll := zin4 (List.mem_of_getElem? (i := 53) rfl)
theorem zm4_54 : Cond.code yX7_checkCueKind cX7_checkCueKind 1 none ∈ zAll := zin4 (List.mem_of_getElem? (i := 54) rfl)
theorem zm4_55 : Cond.code yJ8_hugeLength_7cf53 cJ8_hugeLength_7cf53 3 (some .int) ∈ zAll := zin4 (List.mem_of_getElem? (i := 55) rfl)
theorem zm4_56 : Cond.constant RJ8 200 (2147483639) ∈ zAll := zin4 (List.mem_of_getElem? (i := 56) rfl)
theorem zm4_57 : Cond.code yJ8_newLength_cabcc cJ8_newLength_cabcc 4 (some .int) ∈ zAll := zin4 (List.mem_of_getElem? (i := 57) rfl)
theorem zm4_58 : Cond.methodLink RJ8 194 Lib.Math.max.name ∈ zAll := zin4 (List.mem_of_getElem? (i := 58) rfl)
theorem zm4_59 : Cond.methodLink RJ8 201 yJ8_hugeLength_7cf53 ∈ zAll := zin4 (List.mem_of_getElem? (i := 59) rfl)
theorem zm4_60 : Cond.static yJ8_hugeLength_7cf53 ∈ zAll := zin4 (List.mem_of_getElem? (i := 60) rfl)
theorem zm4_61 : Cond.initialized RJ8 ∈ zAll := zin4 (List.mem_of_getElem? (i := 61) rfl)
theorem zm4_62 : Cond.code yJ7_copyOf_6403c cJ7_copyOf_6403c 4 (some (.array (.object "java/lang/Object"))) ∈ zAll := zin4 (List.mem_of_getElem? (i := 62) rfl)
theorem zm4_63 : Cond.classLink RJ7 110 "[Ljava/lang/Object;" ∈ zAll := zin4 (List.mem_of_getElem? (i := 63) rfl)
theorem zm4_64 : Cond.classLink RJ7 2 "java/lang/Object" ∈ zAll := zin4 (List.mem_of_getElem? (i := 64) rfl)
theorem zm4_65 : Cond.methodLink RJ7 304 Lib.Math.min.name ∈ zAll := zin4 (List.mem_of_getElem? (i := 65) rfl)
theorem zm4_66 : Cond.methodLink RJ7 150 arraycopyName ∈ zAll := zin4 (List.mem_of_getElem? (i := 66) rfl)
theorem zm4_67 : Cond.native arraycopyName ∈ zAll := zin4 (List.mem_of_getElem? (i := 67) rfl)
theorem zm4_68 : Cond.static arraycopyName ∈ zAll := zin4 (List.mem_of_getElem? (i := 68) rfl)
theorem zm4_69 : Cond.initialized "java/lang/System" ∈ zAll := zin4 (List.mem_of_getElem? (i := 69) rfl)
theorem zm5_0 : Cond.code yJ7_copyOf_1904c cJ7_copyOf_1904c 2 (some (.array (.object "java/lang/Object"))) ∈ zAll := zin5 (List.mem_of_getElem? (i := 0) rfl)
theorem zm5_1 : Cond.methodLink RJ7 86 ⟨"java/lang/Object", "getClass", "()Ljava/lang/Class;"⟩ ∈ zAll := zin5 (List.mem_of_getElem? (i := 1) rfl)
theorem zm5_2 : Cond.selects "[Ljava/lang/Object;" ⟨"java/lang/Object", "getClass", "()Ljava/lang/Class;"⟩ ⟨"java/lang/Object", "getClass", "()Ljava/lang/Class;"⟩ ∈ zAll := zin5 (List.mem_of_getElem? (i := 2) rfl)
theorem zm5_3 : Cond.instanceMethod ⟨"java/lang/Object", "getClass", "()Ljava/lang/Class;"⟩ ∈ zAll := zin5 (List.mem_of_getElem? (i := 3) rfl)
theorem zm5_4 : Cond.native ⟨"java/lang/Object", "getClass", "()Ljava/lang/Class;"⟩ ∈ zAll := zin5 (List.mem_of_getElem? (i := 4) rfl)
theorem zm5_5 : Cond.methodLink RJ7 300 yJ7_copyOf_6403c ∈ zAll := zin5 (List.mem_of_getElem? (i := 5) rfl)
theorem zm5_6 : Cond.static yJ7_copyOf_6403c ∈ zAll := zin5 (List.mem_of_getElem? (i := 6) rfl)
theorem zm5_7 : Cond.initialized RJ7 ∈ zAll := zin5 (List.mem_of_getElem? (i := 7) rfl)
theorem zm5_8 : Cond.methodLink RJx4a65c 79 Lib.Math.max.name ∈ zAll := zin5 (List.mem_of_getElem? (i := 8) rfl)
theorem zm5_9 : Cond.classLink RJx4a65c 7 "java/lang/Object" ∈ zAll := zin5 (List.mem_of_getElem? (i := 9) rfl)
theorem zm5_10 : Cond.methodLink RJx4a65c 73 yJ8_newLength_cabcc ∈ zAll := zin5 (List.mem_of_getElem? (i := 10) rfl)
theorem zm5_11 : Cond.static yJ8_newLength_cabcc ∈ zAll := zin5 (List.mem_of_getElem? (i := 11) rfl)
theorem zm5_12 : Cond.methodLink RJx4a65c 66 yJ7_copyOf_1904c ∈ zAll := zin5 (List.mem_of_getElem? (i := 12) rfl)
theorem zm5_13 : Cond.static yJ7_copyOf_1904c ∈ zAll := zin5 (List.mem_of_getElem? (i := 13) rfl)
theorem zm5_14 : Cond.code yJx4a65c_grow_92f84 cJx4a65c_grow_92f84 4 (some (.array (.object "java/lang/Object"))) ∈ zAll := zin5 (List.mem_of_getElem? (i := 14) rfl)
theorem zm5_15 : Cond.methodLink RJx4a65c 69 yJx4a65c_grow_92f84 ∈ zAll := zin5 (List.mem_of_getElem? (i := 15) rfl)
theorem zm5_16 : Cond.instanceMethod yJx4a65c_grow_92f84 ∈ zAll := zin5 (List.mem_of_getElem? (i := 16) rfl)
theorem zm5_17 : Cond.selects RJx4a65c yJx4a65c_grow_92f84 yJx4a65c_grow_92f84 ∈ zAll := zin5 (List.mem_of_getElem? (i := 17) rfl)
theorem zm5_18 : Cond.code yJx4a65c_grow_d5877 cJx4a65c_grow_d5877 1 (some (.array (.object "java/lang/Object"))) ∈ zAll := zin5 (List.mem_of_getElem? (i := 18) rfl)
theorem zm5_19 : Cond.methodLink RJx4a65c 129 yJx4a65c_grow_d5877 ∈ zAll := zin5 (List.mem_of_getElem? (i := 19) rfl)
theorem zm5_20 : Cond.instanceMethod yJx4a65c_grow_d5877 ∈ zAll := zin5 (List.mem_of_getElem? (i := 20) rfl)
theorem zm5_21 : Cond.selects RJx4a65c yJx4a65c_grow_d5877 yJx4a65c_grow_d5877 ∈ zAll := zin5 (List.mem_of_getElem? (i := 21) rfl)
theorem zm5_22 : Cond.code yJx4a65c_add_72be8 cJx4a65c_add_72be8 4 none ∈ zAll := zin5 (List.mem_of_getElem? (i := 22) rfl)
theorem zm5_23 : Cond.methodLink RJx4a65c 131 yJx4a65c_add_72be8 ∈ zAll := zin5 (List.mem_of_getElem? (i := 23) rfl)
theorem zm5_24 : Cond.instanceMethod yJx4a65c_add_72be8 ∈ zAll := zin5 (List.mem_of_getElem? (i := 24) rfl)
theorem zm5_25 : Cond.selects RJx4a65c yJx4a65c_add_72be8 yJx4a65c_add_72be8 ∈ zAll := zin5 (List.mem_of_getElem? (i := 25) rfl)
theorem zm5_26 : Cond.code yJx4a65c_add_9ea2d cJx4a65c_add_9ea2d 2 (some .boolean) ∈ zAll := zin5 (List.mem_of_getElem? (i := 26) rfl)
theorem zm5_27 : Cond.classLink RX7 104 "java/lang/IllegalStateException" ∈ zAll := zin5 (List.mem_of_getElem? (i := 27) rfl)
theorem zm5_28 : Cond.initialized "java/lang/IllegalStateException" ∈ zAll := zin5 (List.mem_of_getElem? (i := 28) rfl)
theorem zm5_29 : Cond.classLink RX7 73 RX2 ∈ zAll := zin5 (List.mem_of_getElem? (i := 29) rfl)
theorem zm5_30 : Cond.instantiable RX2 6 ∈ zAll := zin5 (List.mem_of_getElem? (i := 30) rfl)
theorem zm5_31 : Cond.methodLink RX7 93 yX7_checkCueKind ∈ zAll := zin5 (List.mem_of_getElem? (i := 31) rfl)
theorem zm5_32 : Cond.static yX7_checkCueKind ∈ zAll := zin5 (List.mem_of_getElem? (i := 32) rfl)
theorem zm5_33 : Cond.methodLink RX7 109 yX2_init ∈ zAll := zin5 (List.mem_of_getElem? (i := 33) rfl)
theorem zm5_34 : Cond.instanceMethod yX2_init ∈ zAll := zin5 (List.mem_of_getElem? (i := 34) rfl)
theorem zm5_35 : Cond.methodLink RX7 112 yJx4a65c_add_9ea2d ∈ zAll := zin5 (List.mem_of_getElem? (i := 35) rfl)
theorem zm5_36 : Cond.instanceMethod yJx4a65c_add_9ea2d ∈ zAll := zin5 (List.mem_of_getElem? (i := 36) rfl)
theorem zm5_37 : Cond.selects RJx4a65c yJx4a65c_add_9ea2d yJx4a65c_add_9ea2d ∈ zAll := zin5 (List.mem_of_getElem? (i := 37) rfl)
theorem zm5_38 : Cond.code yX7_addHand cX7_addHand 5 (some .int) ∈ zAll := zin5 (List.mem_of_getElem? (i := 38) rfl)
theorem zm5_39 : Cond.code yX7_isSeated cX7_isSeated 2 (some .boolean) ∈ zAll := zin5 (List.mem_of_getElem? (i := 39) rfl)
theorem zm5_40 : Cond.classLink RX7 118 RX5 ∈ zAll := zin5 (List.mem_of_getElem? (i := 40) rfl)
theorem zm5_41 : Cond.instantiable RX5 4 ∈ zAll := zin5 (List.mem_of_getElem? (i := 41) rfl)
theorem zm5_42 : Cond.initialized RX5 ∈ zAll := zin5 (List.mem_of_getElem? (i := 42) rfl)
theorem zm5_43 : Cond.methodLink RX7 120 yX5_init ∈ zAll := zin5 (List.mem_of_getElem? (i := 43) rfl)
theorem zm5_44 : Cond.instanceMethod yX5_init ∈ zAll := zin5 (List.mem_of_getElem? (i := 44) rfl)
theorem zm5_45 : Cond.code yX7_addSinger cX7_addSinger 3 (some .int) ∈ zAll := zin5 (List.mem_of_getElem? (i := 45) rfl)
theorem zm5_46 : Cond.code yX7_existingSinger cX7_existingSinger 2 (some (.object "ClaqueRow$Singer")) ∈ zAll := zin5 (List.mem_of_getElem? (i := 46) rfl)
theorem zm5_47 : Cond.fieldLink RX7 126 "ClaqueRow$Evening" "ticks" "I" ∈ zAll := zin5 (List.mem_of_getElem? (i := 47) rfl)
theorem zm5_48 : Cond.fieldLink RX7 131 "ClaqueRow$Evening" "cues" "Ljava/util/ArrayList;" ∈ zAll := zin5 (List.mem_of_getElem? (i := 48) rfl)
theorem zm5_49 : Cond.classLink RX7 136 RX0 ∈ zAll := zin5 (List.mem_of_getElem? (i := 49) rfl)
theorem zm5_50 : Cond.instantiable RX0 5 ∈ zAll := zin5 (List.mem_of_getElem? (i := 50) rfl)
theorem zm5_51 : Cond.methodLink RX7 122 yX7_existingSinger ∈ zAll := zin5 (List.mem_of_getElem? (i := 51) rfl)
theorem zm5_52 : Cond.instanceMethod yX7_existingSinger ∈ zAll := zin5 (List.mem_of_getElem? (i := 52) rfl)
theorem zm5_53 : Cond.selects RX7 yX7_existingSinger yX7_existingSinger ∈ zAll := zin5 (List.mem_of_getElem? (i := 53) rfl)
theorem zm5_54 : Cond.methodLink RX7 138 yX0_init ∈ zAll := zin5 (List.mem_of_getElem? (i := 54) rfl)
theorem zm5_55 : Cond.instanceMethod yX0_init ∈ zAll := zin5 (List.mem_of_getElem? (i := 55) rfl)
theorem zm5_56 : Cond.code yX7_addCue cX7_addCue 7 (some .int) ∈ zAll := zin5 (List.mem_of_getElem? (i := 56) rfl)
theorem zm5_57 : Cond.code yX7_setLevel cX7_setLevel 3 (some .int) ∈ zAll := zin5 (List.mem_of_getElem? (i := 57) rfl)
theorem zm5_58 : Cond.fieldLink RX7 141 "ClaqueRow$Evening" "level" "I" ∈ zAll := zin5 (List.mem_of_getElem? (i := 58) rfl)
theorem zm5_59 : Cond.code yX7_checkHouse cX7_checkHouse 1 none ∈ zAll := zin5 (List.mem_of_getElem? (i := 59) rfl)
theorem zm5_60 : Cond.fieldLink RX7 223 "ClaqueRow$House" "rows" "I" ∈ zAll := zin5 (List.mem_of_getElem? (i := 60) rfl)
theorem zm5_61 : Cond.methodLink RX7 144 yX7_checkHouse ∈ zAll := zin5 (List.mem_of_getElem? (i := 61) rfl)
theorem zm5_62 : Cond.instanceMethod yX7_checkHouse ∈ zAll := zin5 (List.mem_of_getElem? (i := 62) rfl)
theorem zm5_63 : Cond.selects RX7 yX7_checkHouse yX7_checkHouse ∈ zAll := zin5 (List.mem_of_getElem? (i := 63) rfl)
theorem zm5_64 : Cond.methodLink RX7 147 yX1_passTick ∈ zAll := zin5 (List.mem_of_getElem? (i := 64) rfl)
theorem zm5_65 : Cond.instanceMethod yX1_passTick ∈ zAll := zin5 (List.mem_of_getElem? (i := 65) rfl)
theorem zm5_66 : Cond.selects RX1 yX1_passTick yX1_passTick ∈ zAll := zin5 (List.mem_of_getElem? (i := 66) rfl)
theorem zm5_67 : Cond.code yX7_run cX7_run 3 (some .int) ∈ zAll := zin5 (List.mem_of_getElem? (i := 67) rfl)
theorem zm5_68 : Cond.code yX7_noiseAt cX7_noiseAt 3 (some .int) ∈ zAll := zin5 (List.mem_of_getElem? (i := 68) rfl)
theorem zm5_69 : Cond.fieldLink RX7 151 "ClaqueRow$Seat" "noise" "I" ∈ zAll := zin5 (List.mem_of_getElem? (i := 69) rfl)
theorem zm6_0 : Cond.code yX7_noise cX7_noise 1 (some .int) ∈ zAll := zin6 (List.mem_of_getElem? (i := 0) rfl)
theorem zm6_1 : Cond.methodLink RX7 154 yX3_noiseSum ∈ zAll := zin6 (List.mem_of_getElem? (i := 1) rfl)
theorem zm6_2 : Cond.code yX7_joining cX7_joining 1 (some .int) ∈ zAll := zin6 (List.mem_of_getElem? (i := 2) rfl)
theorem zm6_3 : Cond.methodLink RX7 157 yX3_countJoined ∈ zAll := zin6 (List.mem_of_getElem? (i := 3) rfl)
theorem zm6_4 : Cond.instanceMethod yX3_countJoined ∈ zAll := zin6 (List.mem_of_getElem? (i := 4) rfl)
theorem zm6_5 : Cond.selects RX3 yX3_countJoined yX3_countJoined ∈ zAll := zin6 (List.mem_of_getElem? (i := 5) rfl)
theorem zm6_6 : Cond.code yX7_hisses cX7_hisses 1 (some .int) ∈ zAll := zin6 (List.mem_of_getElem? (i := 6) rfl)
theorem zm6_7 : Cond.fieldLink RX7 160 "ClaqueRow$Evening" "hisses" "I" ∈ zAll := zin6 (List.mem_of_getElem? (i := 7) rfl)
theorem zm6_8 : Cond.methodLink RX7 165 yX4_tirednessNow ∈ zAll := zin6 (List.mem_of_getElem? (i := 8) rfl)
theorem zm6_9 : Cond.code yX7_tiredness cX7_tiredness 4 (some .int) ∈ zAll := zin6 (List.mem_of_getElem? (i := 9) rfl)
theorem zm6_10 : Cond.code yX7_callsOf cX7_callsOf 2 (some .int) ∈ zAll := zin6 (List.mem_of_getElem? (i := 10) rfl)
theorem zm6_11 : Cond.code yX7_calls cX7_calls 1 (some .int) ∈ zAll := zin6 (List.mem_of_getElem? (i := 11) rfl)
theorem zm6_12 : Cond.fieldLink RX7 171 "ClaqueRow$Evening" "calls" "I" ∈ zAll := zin6 (List.mem_of_getElem? (i := 12) rfl)
theorem zm6_13 : Cond.code yX7_suspicions cX7_suspicions 1 (some .int) ∈ zAll := zin6 (List.mem_of_getElem? (i := 13) rfl)
theorem zm6_14 : Cond.fieldLink RX7 172 "ClaqueRow$Evening" "suspicions" "I" ∈ zAll := zin6 (List.mem_of_getElem? (i := 14) rfl)
theorem zm6_15 : Cond.code yX7_areFoundOut cX7_areFoundOut 1 (some .boolean) ∈ zAll := zin6 (List.mem_of_getElem? (i := 15) rfl)
theorem zm6_16 : Cond.methodLink RX7 175 yX1_handsAreFoundOut ∈ zAll := zin6 (List.mem_of_getElem? (i := 16) rfl)
theorem zm6_17 : Cond.fieldLink RX7 280 "ClaqueRow$Singer" "night" "I" ∈ zAll := zin6 (List.mem_of_getElem? (i := 17) rfl)
theorem zm6_18 : Cond.fieldLink RX7 283 "ClaqueRow$Singer" "perCall" "I" ∈ zAll := zin6 (List.mem_of_getElem? (i := 18) rfl)
theorem zm6_19 : Cond.fieldLink RX7 191 "ClaqueRow$Singer" "owed" "I" ∈ zAll := zin6 (List.mem_of_getElem? (i := 19) rfl)
theorem zm6_20 : Cond.methodLink RX7 276 yX1_hasBegunCueFor ∈ zAll := zin6 (List.mem_of_getElem? (i := 20) rfl)
theorem zm6_21 : Cond.instanceMethod yX1_hasBegunCueFor ∈ zAll := zin6 (List.mem_of_getElem? (i := 21) rfl)
theorem zm6_22 : Cond.selects RX1 yX1_hasBegunCueFor yX1_hasBegunCueFor ∈ zAll := zin6 (List.mem_of_getElem? (i := 22) rfl)
theorem zm6_23 : Cond.code yX7_billFor cX7_billFor 3 (some .int) ∈ zAll := zin6 (List.mem_of_getElem? (i := 23) rfl)
theorem zm6_24 : Cond.methodLink RX7 183 yX7_billFor ∈ zAll := zin6 (List.mem_of_getElem? (i := 24) rfl)
theorem zm6_25 : Cond.instanceMethod yX7_billFor ∈ zAll := zin6 (List.mem_of_getElem? (i := 25) rfl)
theorem zm6_26 : Cond.selects RX7 yX7_billFor yX7_billFor ∈ zAll := zin6 (List.mem_of_getElem? (i := 26) rfl)
theorem zm6_27 : Cond.methodLink RX7 187 yX3_forgetEvening ∈ zAll := zin6 (List.mem_of_getElem? (i := 27) rfl)
theorem zm6_28 : Cond.instanceMethod yX3_forgetEvening ∈ zAll := zin6 (List.mem_of_getElem? (i := 28) rfl)
theorem zm6_29 : Cond.selects RX3 yX3_forgetEvening yX3_forgetEvening ∈ zAll := zin6 (List.mem_of_getElem? (i := 29) rfl)
theorem zm6_30 : Cond.code yX7_endEvening cX7_endEvening 3 (some .int) ∈ zAll := zin6 (List.mem_of_getElem? (i := 30) rfl)
theorem zm6_31 : Cond.constant RX7 190 (99999) ∈ zAll := zin6 (List.mem_of_getElem? (i := 31) rfl)
theorem zm6_32 : Cond.methodLink RX7 196 Lib.Math.min.name ∈ zAll := zin6 (List.mem_of_getElem? (i := 32) rfl)
theorem zm6_33 : Cond.code yX7_pay cX7_pay 5 (some .int) ∈ zAll := zin6 (List.mem_of_getElem? (i := 33) rfl)
theorem zm6_34 : Cond.code yX7_owed cX7_owed 2 (some .int) ∈ zAll := zin6 (List.mem_of_getElem? (i := 34) rfl)
theorem zm6_35 : Cond.code yX7_purse cX7_purse 1 (some .int) ∈ zAll := zin6 (List.mem_of_getElem? (i := 35) rfl)
theorem zm6_36 : Cond.methodLink RX7 204 yX6_shareOut ∈ zAll := zin6 (List.mem_of_getElem? (i := 36) rfl)
theorem zm6_37 : Cond.instanceMethod yX6_shareOut ∈ zAll := zin6 (List.mem_of_getElem? (i := 37) rfl)
theorem zm6_38 : Cond.selects RX6 yX6_shareOut yX6_shareOut ∈ zAll := zin6 (List.mem_of_getElem? (i := 38) rfl)
theorem zm6_39 : Cond.code yX7_share cX7_share 2 (some .int) ∈ zAll := zin6 (List.mem_of_getElem? (i := 39) rfl)
theorem zm6_40 : Cond.fieldLink RX7 208 "ClaqueRow$Hand" "money" "I" ∈ zAll := zin6 (List.mem_of_getElem? (i := 40) rfl)
theorem zm6_41 : Cond.code yX7_moneyOf cX7_moneyOf 2 (some .int) ∈ zAll := zin6 (List.mem_of_getElem? (i := 41) rfl)
theorem zm6_42 : Cond.code yX7_chiefs cX7_chiefs 1 (some .int) ∈ zAll := zin6 (List.mem_of_getElem? (i := 42) rfl)
theorem zm6_43 : Cond.classLink RX7 268 "java/util/NoSuchElementException" ∈ zAll := zin6 (List.mem_of_getElem? (i := 43) rfl)
theorem zm6_44 : Cond.initialized "java/util/NoSuchElementException" ∈ zAll := zin6 (List.mem_of_getElem? (i := 44) rfl)
theorem zm6_45 : Cond.methodLink RX7 265 yX6_cheapestPlan ∈ zAll := zin6 (List.mem_of_getElem? (i := 45) rfl)
theorem zm6_46 : Cond.instanceMethod yX6_cheapestPlan ∈ zAll := zin6 (List.mem_of_getElem? (i := 46) rfl)
theorem zm6_47 : Cond.selects RX6 yX6_cheapestPlan yX6_cheapestPlan ∈ zAll := zin6 (List.mem_of_getElem? (i := 47) rfl)
theorem zm6_48 : Cond.code yX7_existingPlan cX7_existingPlan 3 (some .int) ∈ zAll := zin6 (List.mem_of_getElem? (i := 48) rfl)
theorem zm6_49 : Cond.methodLink RX7 211 yX7_existingPlan ∈ zAll := zin6 (List.mem_of_getElem? (i := 49) rfl)
theorem zm6_50 : Cond.instanceMethod yX7_existingPlan ∈ zAll := zin6 (List.mem_of_getElem? (i := 50) rfl)
theorem zm6_51 : Cond.selects RX7 yX7_existingPlan yX7_existingPlan ∈ zAll := zin6 (List.mem_of_getElem? (i := 51) rfl)
theorem zm6_52 : Cond.methodLink RX7 214 yX6_priceOf ∈ zAll := zin6 (List.mem_of_getElem? (i := 52) rfl)
theorem zm6_53 : Cond.code yX7_planCost cX7_planCost 2 (some .int) ∈ zAll := zin6 (List.mem_of_getElem? (i := 53) rfl)
theorem zm6_54 : Cond.methodLink RX7 217 yX6_holds ∈ zAll := zin6 (List.mem_of_getElem? (i := 54) rfl)
theorem zm6_55 : Cond.code yX7_isPlanned cX7_isPlanned 3 (some .boolean) ∈ zAll := zin6 (List.mem_of_getElem? (i := 55) rfl)
theorem zm6_56 : Cond.constantLong RX7 221 (7) ∈ zAll := zin6 (List.mem_of_getElem? (i := 56) rfl)
theorem zm6_57 : Cond.fieldLink RX7 226 "ClaqueRow$House" "columns" "I" ∈ zAll := zin6 (List.mem_of_getElem? (i := 57) rfl)
theorem zm6_58 : Cond.constantLong RX7 232 (31) ∈ zAll := zin6 (List.mem_of_getElem? (i := 58) rfl)
theorem zm6_59 : Cond.code yX7_checksum cX7_checksum 6 (some .long) ∈ zAll := zin6 (List.mem_of_getElem? (i := 59) rfl)
theorem zm6_60 : Cond.code yX7_joiningShare cX7_joiningShare 2 (some .float) ∈ zAll := zin6 (List.mem_of_getElem? (i := 60) rfl)
theorem zm6_61 : Cond.classLink RX7 238 "java/lang/ArithmeticException" ∈ zAll := zin6 (List.mem_of_getElem? (i := 61) rfl)
theorem zm6_62 : Cond.initialized "java/lang/ArithmeticException" ∈ zAll := zin6 (List.mem_of_getElem? (i := 62) rfl)
theorem zm6_63 : Cond.methodLink RX7 234 yX3_countSeated ∈ zAll := zin6 (List.mem_of_getElem? (i := 63) rfl)
theorem zm6_64 : Cond.instanceMethod yX3_countSeated ∈ zAll := zin6 (List.mem_of_getElem? (i := 64) rfl)
theorem zm6_65 : Cond.selects RX3 yX3_countSeated yX3_countSeated ∈ zAll := zin6 (List.mem_of_getElem? (i := 65) rfl)
theorem zm6_66 : Cond.code yX7_meanNoise cX7_meanNoise 2 (some .double) ∈ zAll := zin6 (List.mem_of_getElem? (i := 66) rfl)
theorem zm6_67 : Cond.methodLink RX7 245 yX3_isInOrder ∈ zAll := zin6 (List.mem_of_getElem? (i := 67) rfl)
theorem zm6_68 : Cond.instanceMethod yX3_isInOrder ∈ zAll := zin6 (List.mem_of_getElem? (i := 68) rfl)
theorem zm6_69 : Cond.selects RX3 yX3_isInOrder yX3_isInOrder ∈ zAll := zin6 (List.mem_of_getElem? (i := 69) rfl)
theorem zm7_0 : Cond.methodLink RX7 248 yX6_isInOrder ∈ zAll := zin7 (List.mem_of_getElem? (i := 0) rfl)
theorem zm7_1 : Cond.instanceMethod yX6_isInOrder ∈ zAll := zin7 (List.mem_of_getElem? (i := 1) rfl)
theorem zm7_2 : Cond.selects RX6 yX6_isInOrder yX6_isInOrder ∈ zAll := zin7 (List.mem_of_getElem? (i := 2) rfl)
theorem zm7_3 : Cond.code yX7_isSound cX7_isSound 1 (some .boolean) ∈ zAll := zin7 (List.mem_of_getElem? (i := 3) rfl)
theorem zm7_4 : Cond.code yX8_rests cX8_rests 2 none ∈ zAll := zin7 (List.mem_of_getElem? (i := 4) rfl)
theorem zm7_5 : Cond.fieldLink RX8 20 "ClaqueRowModel" "noise" "[I" ∈ zAll := zin7 (List.mem_of_getElem? (i := 5) rfl)
theorem zm7_6 : Cond.fieldLink RX8 23 "ClaqueRowModel" "joined" "[I" ∈ zAll := zin7 (List.mem_of_getElem? (i := 6) rfl)
theorem zm7_7 : Cond.fieldLink RX8 29 "ClaqueRowModel" "joins" "[Z" ∈ zAll := zin7 (List.mem_of_getElem? (i := 7) rfl)
theorem zm7_8 : Cond.fieldLink RX8 33 "ClaqueRowModel" "hissed" "[Z" ∈ zAll := zin7 (List.mem_of_getElem? (i := 8) rfl)
theorem zm7_9 : Cond.code yX8_empties cX8_empties 2 none ∈ zAll := zin7 (List.mem_of_getElem? (i := 9) rfl)
theorem zm7_10 : Cond.fieldLink RX8 7 "ClaqueRowModel" "who" "[C" ∈ zAll := zin7 (List.mem_of_getElem? (i := 10) rfl)
theorem zm7_11 : Cond.fieldLink RX8 13 "ClaqueRowModel" "threshold" "[I" ∈ zAll := zin7 (List.mem_of_getElem? (i := 11) rfl)
theorem zm7_12 : Cond.fieldLink RX8 17 "ClaqueRowModel" "handIn" "[I" ∈ zAll := zin7 (List.mem_of_getElem? (i := 12) rfl)
theorem zm7_13 : Cond.methodLink RX8 132 yX8_rests ∈ zAll := zin7 (List.mem_of_getElem? (i := 13) rfl)
theorem zm7_14 : Cond.instanceMethod yX8_rests ∈ zAll := zin7 (List.mem_of_getElem? (i := 14) rfl)
theorem zm7_15 : Cond.selects RX8 yX8_rests yX8_rests ∈ zAll := zin7 (List.mem_of_getElem? (i := 15) rfl)
theorem zm7_16 : Cond.initialized RX8 ∈ zAll := zin7 (List.mem_of_getElem? (i := 16) rfl)
theorem zm7_17 : Cond.methodLink RX8 1 objectInit ∈ zAll := zin7 (List.mem_of_getElem? (i := 17) rfl)
theorem zm7_18 : Cond.arrayClass .char ∈ zAll := zin7 (List.mem_of_getElem? (i := 18) rfl)
theorem zm7_19 : Cond.arrayClass .int ∈ zAll := zin7 (List.mem_of_getElem? (i := 19) rfl)
theorem zm7_20 : Cond.fieldLink RX8 26 "ClaqueRowModel" "before" "[I" ∈ zAll := zin7 (List.mem_of_getElem? (i := 20) rfl)
theorem zm7_21 : Cond.arrayClass .boolean ∈ zAll := zin7 (List.mem_of_getElem? (i := 21) rfl)
theorem zm7_22 : Cond.fieldLink RX8 36 "ClaqueRowModel" "hissedBefore" "[Z" ∈ zAll := zin7 (List.mem_of_getElem? (i := 22) rfl)
theorem zm7_23 : Cond.fieldLink RX8 39 "ClaqueRowModel" "handKind" "[C" ∈ zAll := zin7 (List.mem_of_getElem? (i := 23) rfl)
theorem zm7_24 : Cond.fieldLink RX8 42 "ClaqueRowModel" "cueKind" "[C" ∈ zAll := zin7 (List.mem_of_getElem? (i := 24) rfl)
theorem zm7_25 : Cond.fieldLink RX8 45 "ClaqueRowModel" "strength" "[I" ∈ zAll := zin7 (List.mem_of_getElem? (i := 25) rfl)
theorem zm7_26 : Cond.fieldLink RX8 48 "ClaqueRowModel" "rank" "[I" ∈ zAll := zin7 (List.mem_of_getElem? (i := 26) rfl)
theorem zm7_27 : Cond.fieldLink RX8 51 "ClaqueRowModel" "price" "[I" ∈ zAll := zin7 (List.mem_of_getElem? (i := 27) rfl)
theorem zm7_28 : Cond.fieldLink RX8 54 "ClaqueRowModel" "money" "[I" ∈ zAll := zin7 (List.mem_of_getElem? (i := 28) rfl)
theorem zm7_29 : Cond.fieldLink RX8 57 "ClaqueRowModel" "night" "[I" ∈ zAll := zin7 (List.mem_of_getElem? (i := 29) rfl)
theorem zm7_30 : Cond.fieldLink RX8 60 "ClaqueRowModel" "perCall" "[I" ∈ zAll := zin7 (List.mem_of_getElem? (i := 30) rfl)
theorem zm7_31 : Cond.fieldLink RX8 63 "ClaqueRowModel" "owed" "[I" ∈ zAll := zin7 (List.mem_of_getElem? (i := 31) rfl)
theorem zm7_32 : Cond.fieldLink RX8 66 "ClaqueRowModel" "callsOf" "[I" ∈ zAll := zin7 (List.mem_of_getElem? (i := 32) rfl)
theorem zm7_33 : Cond.fieldLink RX8 69 "ClaqueRowModel" "cueSinger" "[I" ∈ zAll := zin7 (List.mem_of_getElem? (i := 33) rfl)
theorem zm7_34 : Cond.fieldLink RX8 72 "ClaqueRowModel" "cueTick" "[I" ∈ zAll := zin7 (List.mem_of_getElem? (i := 34) rfl)
theorem zm7_35 : Cond.fieldLink RX8 75 "ClaqueRowModel" "cueForce" "[I" ∈ zAll := zin7 (List.mem_of_getElem? (i := 35) rfl)
theorem zm7_36 : Cond.fieldLink RX8 78 "ClaqueRowModel" "cueTicks" "[I" ∈ zAll := zin7 (List.mem_of_getElem? (i := 36) rfl)
theorem zm7_37 : Cond.fieldLink RX8 81 "ClaqueRowModel" "rows" "I" ∈ zAll := zin7 (List.mem_of_getElem? (i := 37) rfl)
theorem zm7_38 : Cond.fieldLink RX8 85 "ClaqueRowModel" "wide" "I" ∈ zAll := zin7 (List.mem_of_getElem? (i := 38) rfl)
theorem zm7_39 : Cond.fieldLink RX8 88 "ClaqueRowModel" "hands" "I" ∈ zAll := zin7 (List.mem_of_getElem? (i := 39) rfl)
theorem zm7_40 : Cond.fieldLink RX8 91 "ClaqueRowModel" "singers" "I" ∈ zAll := zin7 (List.mem_of_getElem? (i := 40) rfl)
theorem zm7_41 : Cond.fieldLink RX8 94 "ClaqueRowModel" "cues" "I" ∈ zAll := zin7 (List.mem_of_getElem? (i := 41) rfl)
theorem zm7_42 : Cond.fieldLink RX8 97 "ClaqueRowModel" "level" "I" ∈ zAll := zin7 (List.mem_of_getElem? (i := 42) rfl)
theorem zm7_43 : Cond.fieldLink RX8 100 "ClaqueRowModel" "ticks" "I" ∈ zAll := zin7 (List.mem_of_getElem? (i := 43) rfl)
theorem zm7_44 : Cond.fieldLink RX8 103 "ClaqueRowModel" "loud" "I" ∈ zAll := zin7 (List.mem_of_getElem? (i := 44) rfl)
theorem zm7_45 : Cond.fieldLink RX8 106 "ClaqueRowModel" "calls" "I" ∈ zAll := zin7 (List.mem_of_getElem? (i := 45) rfl)
theorem zm7_46 : Cond.fieldLink RX8 109 "ClaqueRowModel" "hisses" "I" ∈ zAll := zin7 (List.mem_of_getElem? (i := 46) rfl)
theorem zm7_47 : Cond.fieldLink RX8 112 "ClaqueRowModel" "suspicions" "I" ∈ zAll := zin7 (List.mem_of_getElem? (i := 47) rfl)
theorem zm7_48 : Cond.fieldLink RX8 115 "ClaqueRowModel" "purse" "I" ∈ zAll := zin7 (List.mem_of_getElem? (i := 48) rfl)
theorem zm7_49 : Cond.fieldLink RX8 118 "ClaqueRowModel" "chiefs" "I" ∈ zAll := zin7 (List.mem_of_getElem? (i := 49) rfl)
theorem zm7_50 : Cond.fieldLink RX8 121 "ClaqueRowModel" "thrown" "I" ∈ zAll := zin7 (List.mem_of_getElem? (i := 50) rfl)
theorem zm7_51 : Cond.methodLink RX8 124 yX8_empties ∈ zAll := zin7 (List.mem_of_getElem? (i := 51) rfl)
theorem zm7_52 : Cond.instanceMethod yX8_empties ∈ zAll := zin7 (List.mem_of_getElem? (i := 52) rfl)
theorem zm7_53 : Cond.selects RX8 yX8_empties yX8_empties ∈ zAll := zin7 (List.mem_of_getElem? (i := 53) rfl)
theorem zm7_54 : Cond.code yX8_init cX8_init 2 none ∈ zAll := zin7 (List.mem_of_getElem? (i := 54) rfl)
theorem zm7_55 : Cond.code yX8_thrown cX8_thrown 1 (some .int) ∈ zAll := zin7 (List.mem_of_getElem? (i := 55) rfl)
theorem zm7_56 : Cond.code yX8_in cX8_in 3 (some .boolean) ∈ zAll := zin7 (List.mem_of_getElem? (i := 56) rfl)
theorem zm7_57 : Cond.code yX8_least cX8_least 2 (some .int) ∈ zAll := zin7 (List.mem_of_getElem? (i := 57) rfl)
theorem zm7_58 : Cond.code yX8_most cX8_most 2 (some .int) ∈ zAll := zin7 (List.mem_of_getElem? (i := 58) rfl)
theorem zm7_59 : Cond.code yX8_fails cX8_fails 2 (some .int) ∈ zAll := zin7 (List.mem_of_getElem? (i := 59) rfl)
theorem zm7_60 : Cond.code yX8_failsAs cX8_failsAs 2 (some .char) ∈ zAll := zin7 (List.mem_of_getElem? (i := 60) rfl)
theorem zm7_61 : Cond.code yX8_tells cX8_tells 2 (some .int) ∈ zAll := zin7 (List.mem_of_getElem? (i := 61) rfl)
theorem zm7_62 : Cond.code yX8_tellsAs cX8_tellsAs 2 (some .char) ∈ zAll := zin7 (List.mem_of_getElem? (i := 62) rfl)
theorem zm7_63 : Cond.code yX8_failsIf cX8_failsIf 2 (some .boolean) ∈ zAll := zin7 (List.mem_of_getElem? (i := 63) rfl)
theorem zm7_64 : Cond.code yX8_isSeat cX8_isSeat 3 (some .boolean) ∈ zAll := zin7 (List.mem_of_getElem? (i := 64) rfl)
theorem zm7_65 : Cond.methodLink RX8 128 yX8_in ∈ zAll := zin7 (List.mem_of_getElem? (i := 65) rfl)
theorem zm7_66 : Cond.static yX8_in ∈ zAll := zin7 (List.mem_of_getElem? (i := 66) rfl)
theorem zm7_67 : Cond.code yX8_isHand cX8_isHand 2 (some .boolean) ∈ zAll := zin7 (List.mem_of_getElem? (i := 67) rfl)
theorem zm7_68 : Cond.code yX8_isSinger cX8_isSinger 2 (some .boolean) ∈ zAll := zin7 (List.mem_of_getElem? (i := 68) rfl)
theorem zm7_69 : Cond.code yX8_begins cX8_begins 2 none ∈ zAll := zin7 (List.mem_of_getElem? (i := 69) rfl)
theorem zm8_0 : Cond.methodLink RX8 135 yX8_fails ∈ zAll := zin8 (List.mem_of_getElem? (i := 0) rfl)
theorem zm8_1 : Cond.instanceMethod yX8_fails ∈ zAll := zin8 (List.mem_of_getElem? (i := 1) rfl)
theorem zm8_2 : Cond.selects RX8 yX8_fails yX8_fails ∈ zAll := zin8 (List.mem_of_getElem? (i := 2) rfl)
theorem zm8_3 : Cond.methodLink RX8 139 yX8_begins ∈ zAll := zin8 (List.mem_of_getElem? (i := 3) rfl)
theorem zm8_4 : Cond.instanceMethod yX8_begins ∈ zAll := zin8 (List.mem_of_getElem? (i := 4) rfl)
theorem zm8_5 : Cond.selects RX8 yX8_begins yX8_begins ∈ zAll := zin8 (List.mem_of_getElem? (i := 5) rfl)
theorem zm8_6 : Cond.methodLink RX8 142 yX8_tells ∈ zAll := zin8 (List.mem_of_getElem? (i := 6) rfl)
theorem zm8_7 : Cond.instanceMethod yX8_tells ∈ zAll := zin8 (List.mem_of_getElem? (i := 7) rfl)
theorem zm8_8 : Cond.selects RX8 yX8_tells yX8_tells ∈ zAll := zin8 (List.mem_of_getElem? (i := 8) rfl)
theorem zm8_9 : Cond.code yX8_newHouse cX8_newHouse 4 (some .int) ∈ zAll := zin8 (List.mem_of_getElem? (i := 9) rfl)
theorem zm8_10 : Cond.methodLink RX8 145 yX8_isSeat ∈ zAll := zin8 (List.mem_of_getElem? (i := 10) rfl)
theorem zm8_11 : Cond.instanceMethod yX8_isSeat ∈ zAll := zin8 (List.mem_of_getElem? (i := 11) rfl)
theorem zm8_12 : Cond.selects RX8 yX8_isSeat yX8_isSeat ∈ zAll := zin8 (List.mem_of_getElem? (i := 12) rfl)
theorem zm8_13 : Cond.methodLink RX8 149 yX8_failsAs ∈ zAll := zin8 (List.mem_of_getElem? (i := 13) rfl)
theorem zm8_14 : Cond.instanceMethod yX8_failsAs ∈ zAll := zin8 (List.mem_of_getElem? (i := 14) rfl)
theorem zm8_15 : Cond.selects RX8 yX8_failsAs yX8_failsAs ∈ zAll := zin8 (List.mem_of_getElem? (i := 15) rfl)
theorem zm8_16 : Cond.methodLink RX8 153 yX8_tellsAs ∈ zAll := zin8 (List.mem_of_getElem? (i := 16) rfl)
theorem zm8_17 : Cond.instanceMethod yX8_tellsAs ∈ zAll := zin8 (List.mem_of_getElem? (i := 17) rfl)
theorem zm8_18 : Cond.selects RX8 yX8_tellsAs yX8_tellsAs ∈ zAll := zin8 (List.mem_of_getElem? (i := 18) rfl)
theorem zm8_19 : Cond.code yX8_seatPayer cX8_seatPayer 6 (some .char) ∈ zAll := zin8 (List.mem_of_getElem? (i := 19) rfl)
theorem zm8_20 : Cond.code yX8_seatRival cX8_seatRival 4 (some .char) ∈ zAll := zin8 (List.mem_of_getElem? (i := 20) rfl)
theorem zm8_21 : Cond.methodLink RX8 157 yX8_isHand ∈ zAll := zin8 (List.mem_of_getElem? (i := 21) rfl)
theorem zm8_22 : Cond.instanceMethod yX8_isHand ∈ zAll := zin8 (List.mem_of_getElem? (i := 22) rfl)
theorem zm8_23 : Cond.selects RX8 yX8_isHand yX8_isHand ∈ zAll := zin8 (List.mem_of_getElem? (i := 23) rfl)
theorem zm8_24 : Cond.code yX8_seatHand cX8_seatHand 6 (some .char) ∈ zAll := zin8 (List.mem_of_getElem? (i := 24) rfl)
theorem zm8_25 : Cond.code yX8_clearSeat cX8_clearSeat 4 (some .char) ∈ zAll := zin8 (List.mem_of_getElem? (i := 25) rfl)
theorem zm8_26 : Cond.code yX8_seatAt cX8_seatAt 3 (some .char) ∈ zAll := zin8 (List.mem_of_getElem? (i := 26) rfl)
theorem zm8_27 : Cond.code yX8_isKind cX8_isKind 2 (some .boolean) ∈ zAll := zin8 (List.mem_of_getElem? (i := 27) rfl)
theorem zm8_28 : Cond.code yX8_addHand cX8_addHand 5 (some .int) ∈ zAll := zin8 (List.mem_of_getElem? (i := 28) rfl)
theorem zm8_29 : Cond.methodLink RX8 161 yX8_isKind ∈ zAll := zin8 (List.mem_of_getElem? (i := 29) rfl)
theorem zm8_30 : Cond.static yX8_isKind ∈ zAll := zin8 (List.mem_of_getElem? (i := 30) rfl)
theorem zm8_31 : Cond.code yX8_isSeated cX8_isSeated 4 (some .boolean) ∈ zAll := zin8 (List.mem_of_getElem? (i := 31) rfl)
theorem zm8_32 : Cond.methodLink RX8 165 yX8_failsIf ∈ zAll := zin8 (List.mem_of_getElem? (i := 32) rfl)
theorem zm8_33 : Cond.instanceMethod yX8_failsIf ∈ zAll := zin8 (List.mem_of_getElem? (i := 33) rfl)
theorem zm8_34 : Cond.selects RX8 yX8_failsIf yX8_failsIf ∈ zAll := zin8 (List.mem_of_getElem? (i := 34) rfl)
theorem zm8_35 : Cond.code yX8_addSinger cX8_addSinger 3 (some .int) ∈ zAll := zin8 (List.mem_of_getElem? (i := 35) rfl)
theorem zm8_36 : Cond.methodLink RX8 168 yX8_isSinger ∈ zAll := zin8 (List.mem_of_getElem? (i := 36) rfl)
theorem zm8_37 : Cond.instanceMethod yX8_isSinger ∈ zAll := zin8 (List.mem_of_getElem? (i := 37) rfl)
theorem zm8_38 : Cond.selects RX8 yX8_isSinger yX8_isSinger ∈ zAll := zin8 (List.mem_of_getElem? (i := 38) rfl)
theorem zm8_39 : Cond.code yX8_addCue cX8_addCue 6 (some .int) ∈ zAll := zin8 (List.mem_of_getElem? (i := 39) rfl)
theorem zm8_40 : Cond.code yX8_setLevel cX8_setLevel 3 (some .int) ∈ zAll := zin8 (List.mem_of_getElem? (i := 40) rfl)
theorem zm8_41 : Cond.code yX8_handNoise cX8_handNoise 5 (some .int) ∈ zAll := zin8 (List.mem_of_getElem? (i := 41) rfl)
theorem zm8_42 : Cond.methodLink RX8 171 yX8_most ∈ zAll := zin8 (List.mem_of_getElem? (i := 42) rfl)
theorem zm8_43 : Cond.static yX8_most ∈ zAll := zin8 (List.mem_of_getElem? (i := 43) rfl)
theorem zm8_44 : Cond.methodLink RX8 175 yX8_least ∈ zAll := zin8 (List.mem_of_getElem? (i := 44) rfl)
theorem zm8_45 : Cond.static yX8_least ∈ zAll := zin8 (List.mem_of_getElem? (i := 45) rfl)
theorem zm8_46 : Cond.code yX8_around cX8_around 5 (some .int) ∈ zAll := zin8 (List.mem_of_getElem? (i := 46) rfl)
theorem zm8_47 : Cond.methodLink RX8 178 yX8_handNoise ∈ zAll := zin8 (List.mem_of_getElem? (i := 47) rfl)
theorem zm8_48 : Cond.instanceMethod yX8_handNoise ∈ zAll := zin8 (List.mem_of_getElem? (i := 48) rfl)
theorem zm8_49 : Cond.selects RX8 yX8_handNoise yX8_handNoise ∈ zAll := zin8 (List.mem_of_getElem? (i := 49) rfl)
theorem zm8_50 : Cond.methodLink RX8 181 yX8_around ∈ zAll := zin8 (List.mem_of_getElem? (i := 50) rfl)
theorem zm8_51 : Cond.instanceMethod yX8_around ∈ zAll := zin8 (List.mem_of_getElem? (i := 51) rfl)
theorem zm8_52 : Cond.selects RX8 yX8_around yX8_around ∈ zAll := zin8 (List.mem_of_getElem? (i := 52) rfl)
theorem zm8_53 : Cond.code yX8_sits cX8_sits 3 none ∈ zAll := zin8 (List.mem_of_getElem? (i := 53) rfl)
theorem zm8_54 : Cond.code yX8_calling cX8_calling 3 none ∈ zAll := zin8 (List.mem_of_getElem? (i := 54) rfl)
theorem zm8_55 : Cond.code yX8_noisy cX8_noisy 4 (some .int) ∈ zAll := zin8 (List.mem_of_getElem? (i := 55) rfl)
theorem zm8_56 : Cond.code yX8_summed cX8_summed 3 (some .int) ∈ zAll := zin8 (List.mem_of_getElem? (i := 56) rfl)
theorem zm8_57 : Cond.methodLink RX8 184 yX8_sits ∈ zAll := zin8 (List.mem_of_getElem? (i := 57) rfl)
theorem zm8_58 : Cond.instanceMethod yX8_sits ∈ zAll := zin8 (List.mem_of_getElem? (i := 58) rfl)
theorem zm8_59 : Cond.selects RX8 yX8_sits yX8_sits ∈ zAll := zin8 (List.mem_of_getElem? (i := 59) rfl)
theorem zm8_60 : Cond.methodLink RX8 187 yX8_summed ∈ zAll := zin8 (List.mem_of_getElem? (i := 60) rfl)
theorem zm8_61 : Cond.instanceMethod yX8_summed ∈ zAll := zin8 (List.mem_of_getElem? (i := 61) rfl)
theorem zm8_62 : Cond.selects RX8 yX8_summed yX8_summed ∈ zAll := zin8 (List.mem_of_getElem? (i := 62) rfl)
theorem zm8_63 : Cond.methodLink RX8 191 yX8_calling ∈ zAll := zin8 (List.mem_of_getElem? (i := 63) rfl)
theorem zm8_64 : Cond.instanceMethod yX8_calling ∈ zAll := zin8 (List.mem_of_getElem? (i := 64) rfl)
theorem zm8_65 : Cond.selects RX8 yX8_calling yX8_calling ∈ zAll := zin8 (List.mem_of_getElem? (i := 65) rfl)
theorem zm8_66 : Cond.methodLink RX8 194 yX8_noisy ∈ zAll := zin8 (List.mem_of_getElem? (i := 66) rfl)
theorem zm8_67 : Cond.instanceMethod yX8_noisy ∈ zAll := zin8 (List.mem_of_getElem? (i := 67) rfl)
theorem zm8_68 : Cond.selects RX8 yX8_noisy yX8_noisy ∈ zAll := zin8 (List.mem_of_getElem? (i := 68) rfl)
theorem zm8_69 : Cond.code yX8_goes cX8_goes 3 none ∈ zAll := zin8 (List.mem_of_getElem? (i := 69) rfl)
theorem zm9_0 : Cond.methodLink RX8 198 yX8_goes ∈ zAll := zin9 (List.mem_of_getElem? (i := 0) rfl)
theorem zm9_1 : Cond.instanceMethod yX8_goes ∈ zAll := zin9 (List.mem_of_getElem? (i := 1) rfl)
theorem zm9_2 : Cond.selects RX8 yX8_goes yX8_goes ∈ zAll := zin9 (List.mem_of_getElem? (i := 2) rfl)
theorem zm9_3 : Cond.code yX8_run cX8_run 3 (some .int) ∈ zAll := zin9 (List.mem_of_getElem? (i := 3) rfl)
theorem zm9_4 : Cond.code yX8_noiseAt cX8_noiseAt 3 (some .int) ∈ zAll := zin9 (List.mem_of_getElem? (i := 4) rfl)
theorem zm9_5 : Cond.code yX8_noise cX8_noise 1 (some .int) ∈ zAll := zin9 (List.mem_of_getElem? (i := 5) rfl)
theorem zm9_6 : Cond.code yX8_joiners cX8_joiners 3 (some .int) ∈ zAll := zin9 (List.mem_of_getElem? (i := 6) rfl)
theorem zm9_7 : Cond.code yX8_joining cX8_joining 1 (some .int) ∈ zAll := zin9 (List.mem_of_getElem? (i := 7) rfl)
theorem zm9_8 : Cond.methodLink RX8 201 yX8_joiners ∈ zAll := zin9 (List.mem_of_getElem? (i := 8) rfl)
theorem zm9_9 : Cond.instanceMethod yX8_joiners ∈ zAll := zin9 (List.mem_of_getElem? (i := 9) rfl)
theorem zm9_10 : Cond.selects RX8 yX8_joiners yX8_joiners ∈ zAll := zin9 (List.mem_of_getElem? (i := 10) rfl)
theorem zm9_11 : Cond.code yX8_hisses cX8_hisses 1 (some .int) ∈ zAll := zin9 (List.mem_of_getElem? (i := 11) rfl)
theorem zm9_12 : Cond.code yX8_tiredness cX8_tiredness 3 (some .int) ∈ zAll := zin9 (List.mem_of_getElem? (i := 12) rfl)
theorem zm9_13 : Cond.code yX8_callsOf cX8_callsOf 2 (some .int) ∈ zAll := zin9 (List.mem_of_getElem? (i := 13) rfl)
theorem zm9_14 : Cond.code yX8_calls cX8_calls 1 (some .int) ∈ zAll := zin9 (List.mem_of_getElem? (i := 14) rfl)
theorem zm9_15 : Cond.code yX8_suspicions cX8_suspicions 1 (some .int) ∈ zAll := zin9 (List.mem_of_getElem? (i := 15) rfl)
theorem zm9_16 : Cond.code yX8_areFoundOut cX8_areFoundOut 1 (some .boolean) ∈ zAll := zin9 (List.mem_of_getElem? (i := 16) rfl)
theorem zm9_17 : Cond.code yX8_endEvening cX8_endEvening 5 (some .int) ∈ zAll := zin9 (List.mem_of_getElem? (i := 17) rfl)
theorem zm9_18 : Cond.code yX8_pay cX8_pay 4 (some .int) ∈ zAll := zin9 (List.mem_of_getElem? (i := 18) rfl)
theorem zm9_19 : Cond.constant RX8 204 (99999) ∈ zAll := zin9 (List.mem_of_getElem? (i := 19) rfl)
theorem zm9_20 : Cond.code yX8_owed cX8_owed 2 (some .int) ∈ zAll := zin9 (List.mem_of_getElem? (i := 20) rfl)
theorem zm9_21 : Cond.code yX8_purse cX8_purse 1 (some .int) ∈ zAll := zin9 (List.mem_of_getElem? (i := 21) rfl)
theorem zm9_22 : Cond.code yX8_share cX8_share 5 (some .int) ∈ zAll := zin9 (List.mem_of_getElem? (i := 22) rfl)
theorem zm9_23 : Cond.code yX8_moneyOf cX8_moneyOf 2 (some .int) ∈ zAll := zin9 (List.mem_of_getElem? (i := 23) rfl)
theorem zm9_24 : Cond.code yX8_chiefs cX8_chiefs 1 (some .int) ∈ zAll := zin9 (List.mem_of_getElem? (i := 24) rfl)
theorem zm9_25 : Cond.code yX8_summed_ cX8_summed_ 5 (some .int) ∈ zAll := zin9 (List.mem_of_getElem? (i := 25) rfl)
theorem zm9_26 : Cond.code yX8_isBetter cX8_isBetter 4 (some .boolean) ∈ zAll := zin9 (List.mem_of_getElem? (i := 26) rfl)
theorem zm9_27 : Cond.methodLink RX8 205 yX8_summed_ ∈ zAll := zin9 (List.mem_of_getElem? (i := 27) rfl)
theorem zm9_28 : Cond.instanceMethod yX8_summed_ ∈ zAll := zin9 (List.mem_of_getElem? (i := 28) rfl)
theorem zm9_29 : Cond.selects RX8 yX8_summed_ yX8_summed_ ∈ zAll := zin9 (List.mem_of_getElem? (i := 29) rfl)
theorem zm9_30 : Cond.code yX8_planned cX8_planned 4 (some .int) ∈ zAll := zin9 (List.mem_of_getElem? (i := 30) rfl)
theorem zm9_31 : Cond.methodLink RX8 207 yX8_isBetter ∈ zAll := zin9 (List.mem_of_getElem? (i := 31) rfl)
theorem zm9_32 : Cond.instanceMethod yX8_isBetter ∈ zAll := zin9 (List.mem_of_getElem? (i := 32) rfl)
theorem zm9_33 : Cond.selects RX8 yX8_isBetter yX8_isBetter ∈ zAll := zin9 (List.mem_of_getElem? (i := 33) rfl)
theorem zm9_34 : Cond.methodLink RX8 210 yX8_planned ∈ zAll := zin9 (List.mem_of_getElem? (i := 34) rfl)
theorem zm9_35 : Cond.instanceMethod yX8_planned ∈ zAll := zin9 (List.mem_of_getElem? (i := 35) rfl)
theorem zm9_36 : Cond.selects RX8 yX8_planned yX8_planned ∈ zAll := zin9 (List.mem_of_getElem? (i := 36) rfl)
theorem zm9_37 : Cond.code yX8_planCost cX8_planCost 3 (some .int) ∈ zAll := zin9 (List.mem_of_getElem? (i := 37) rfl)
theorem zm9_38 : Cond.code yX8_isPlanned cX8_isPlanned 4 (some .boolean) ∈ zAll := zin9 (List.mem_of_getElem? (i := 38) rfl)
theorem zm9_39 : Cond.code yX8_checksum cX8_checksum 5 (some .long) ∈ zAll := zin9 (List.mem_of_getElem? (i := 39) rfl)
theorem zm9_40 : Cond.constantLong RX8 213 (7) ∈ zAll := zin9 (List.mem_of_getElem? (i := 40) rfl)
theorem zm9_41 : Cond.constantLong RX8 215 (31) ∈ zAll := zin9 (List.mem_of_getElem? (i := 41) rfl)
theorem zm9_42 : Cond.code yX8_payers cX8_payers 3 (some .int) ∈ zAll := zin9 (List.mem_of_getElem? (i := 42) rfl)
theorem zm9_43 : Cond.code yX8_joiningShare cX8_joiningShare 1 (some .float) ∈ zAll := zin9 (List.mem_of_getElem? (i := 43) rfl)
theorem zm9_44 : Cond.methodLink RX8 217 yX8_payers ∈ zAll := zin9 (List.mem_of_getElem? (i := 44) rfl)
theorem zm9_45 : Cond.instanceMethod yX8_payers ∈ zAll := zin9 (List.mem_of_getElem? (i := 45) rfl)
theorem zm9_46 : Cond.selects RX8 yX8_payers yX8_payers ∈ zAll := zin9 (List.mem_of_getElem? (i := 46) rfl)
theorem zm9_47 : Cond.code yX8_meanNoise cX8_meanNoise 1 (some .double) ∈ zAll := zin9 (List.mem_of_getElem? (i := 47) rfl)
theorem zm9_48 : Cond.code yX8_isSound cX8_isSound 1 (some .boolean) ∈ zAll := zin9 (List.mem_of_getElem? (i := 48) rfl)
theorem zm9_49 : Cond.code yJx00060_init_a7421 cJx00060_init_a7421 2 none ∈ zAll := zin9 (List.mem_of_getElem? (i := 49) rfl)
theorem zm9_50 : Cond.code yJ9_max_7cf53 cJ9_max_7cf53 2 (some .int) ∈ zAll := zin9 (List.mem_of_getElem? (i := 50) rfl)
theorem zm9_51 : Cond.code yJ9_min_7cf53 cJ9_min_7cf53 2 (some .int) ∈ zAll := zin9 (List.mem_of_getElem? (i := 51) rfl)
theorem zm9_52 : Cond.classLink RL 13 "java/lang/IllegalArgumentException" ∈ zAll := zin9 (List.mem_of_getElem? (i := 52) rfl)
theorem zm9_53 : Cond.methodLink RL 7 yX7_newHouse ∈ zAll := zin9 (List.mem_of_getElem? (i := 53) rfl)
theorem zm9_54 : Cond.instanceMethod yX7_newHouse ∈ zAll := zin9 (List.mem_of_getElem? (i := 54) rfl)
theorem zm9_55 : Cond.selects RX7 yX7_newHouse yX7_newHouse ∈ zAll := zin9 (List.mem_of_getElem? (i := 55) rfl)
theorem zm9_56 : Cond.codeWith yL_newHouse cL_newHouse 5 (some .int) [(0, 10, 13, 13)] ∈ zAll := zin9 (List.mem_of_getElem? (i := 56) rfl)
theorem zm9_57 : Cond.classLink RL 19 "java/lang/IndexOutOfBoundsException" ∈ zAll := zin9 (List.mem_of_getElem? (i := 57) rfl)
theorem zm9_58 : Cond.methodLink RL 15 yX7_seatPayer ∈ zAll := zin9 (List.mem_of_getElem? (i := 58) rfl)
theorem zm9_59 : Cond.instanceMethod yX7_seatPayer ∈ zAll := zin9 (List.mem_of_getElem? (i := 59) rfl)
theorem zm9_60 : Cond.selects RX7 yX7_seatPayer yX7_seatPayer ∈ zAll := zin9 (List.mem_of_getElem? (i := 60) rfl)
theorem zm9_61 : Cond.codeWith yL_seatPayer cL_seatPayer 6 (some .int) [(0, 12, 15, 19), (0, 12, 19, 13)] ∈ zAll := zin9 (List.mem_of_getElem? (i := 61) rfl)
theorem zm9_62 : Cond.methodLink RL 21 yX7_seatRival ∈ zAll := zin9 (List.mem_of_getElem? (i := 62) rfl)
theorem zm9_63 : Cond.instanceMethod yX7_seatRival ∈ zAll := zin9 (List.mem_of_getElem? (i := 63) rfl)
theorem zm9_64 : Cond.selects RX7 yX7_seatRival yX7_seatRival ∈ zAll := zin9 (List.mem_of_getElem? (i := 64) rfl)
theorem zm9_65 : Cond.codeWith yL_seatRival cL_seatRival 5 (some .int) [(0, 10, 13, 19)] ∈ zAll := zin9 (List.mem_of_getElem? (i := 65) rfl)
theorem zm9_66 : Cond.classLink RL 28 "java/lang/UnsupportedOperationException" ∈ zAll := zin9 (List.mem_of_getElem? (i := 66) rfl)
theorem zm9_67 : Cond.methodLink RL 25 yX7_seatHand ∈ zAll := zin9 (List.mem_of_getElem? (i := 67) rfl)
theorem zm9_68 : Cond.instanceMethod yX7_seatHand ∈ zAll := zin9 (List.mem_of_getElem? (i := 68) rfl)
theorem zm9_69 : Cond.selects RX7 yX7_seatHand yX7_seatHand ∈ zAll := zin9 (List.mem_of_getElem? (i := 69) rfl)
theorem zm10_0 : Cond.codeWith yL_seatHand cL_seatHand 6 (some .int) [(0, 12, 15, 19), (0, 12, 19, 28)] ∈ zAll := zin10 (List.mem_of_getElem? (i := 0) rfl)
theorem zm10_1 : Cond.methodLink RL 30 yX7_clearSeat ∈ zAll := zin10 (List.mem_of_getElem? (i := 1) rfl)
theorem zm10_2 : Cond.instanceMethod yX7_clearSeat ∈ zAll := zin10 (List.mem_of_getElem? (i := 2) rfl)
theorem zm10_3 : Cond.selects RX7 yX7_clearSeat yX7_clearSeat ∈ zAll := zin10 (List.mem_of_getElem? (i := 3) rfl)
theorem zm10_4 : Cond.codeWith yL_clearSeat cL_clearSeat 5 (some .int) [(0, 10, 13, 19)] ∈ zAll := zin10 (List.mem_of_getElem? (i := 4) rfl)
theorem zm10_5 : Cond.codeWith yL_seatAt cL_seatAt 5 (some .int) [(0, 10, 13, 19)] ∈ zAll := zin10 (List.mem_of_getElem? (i := 5) rfl)
theorem zm10_6 : Cond.methodLink RL 33 yX7_seatAt ∈ zAll := zin10 (List.mem_of_getElem? (i := 6) rfl)
theorem zm10_7 : Cond.instanceMethod yX7_seatAt ∈ zAll := zin10 (List.mem_of_getElem? (i := 7) rfl)
theorem zm10_8 : Cond.selects RX7 yX7_seatAt yX7_seatAt ∈ zAll := zin10 (List.mem_of_getElem? (i := 8) rfl)
theorem zm10_9 : Cond.classLink RL 40 "java/lang/IllegalStateException" ∈ zAll := zin10 (List.mem_of_getElem? (i := 9) rfl)
theorem zm10_10 : Cond.methodLink RL 36 yX7_addHand ∈ zAll := zin10 (List.mem_of_getElem? (i := 10) rfl)
theorem zm10_11 : Cond.instanceMethod yX7_addHand ∈ zAll := zin10 (List.mem_of_getElem? (i := 11) rfl)
theorem zm10_12 : Cond.selects RX7 yX7_addHand yX7_addHand ∈ zAll := zin10 (List.mem_of_getElem? (i := 12) rfl)
theorem zm10_13 : Cond.codeWith yL_addHand cL_addHand 7 (some .int) [(0, 14, 17, 13), (0, 14, 21, 40)] ∈ zAll := zin10 (List.mem_of_getElem? (i := 13) rfl)
theorem zm10_14 : Cond.methodLink RL 42 yX7_isSeated ∈ zAll := zin10 (List.mem_of_getElem? (i := 14) rfl)
theorem zm10_15 : Cond.instanceMethod yX7_isSeated ∈ zAll := zin10 (List.mem_of_getElem? (i := 15) rfl)
theorem zm10_16 : Cond.selects RX7 yX7_isSeated yX7_isSeated ∈ zAll := zin10 (List.mem_of_getElem? (i := 16) rfl)
theorem zm10_17 : Cond.codeWith yL_isSeated cL_isSeated 4 (some .int) [(0, 16, 19, 19)] ∈ zAll := zin10 (List.mem_of_getElem? (i := 17) rfl)
theorem zm10_18 : Cond.methodLink RL 46 yX7_addSinger ∈ zAll := zin10 (List.mem_of_getElem? (i := 18) rfl)
theorem zm10_19 : Cond.instanceMethod yX7_addSinger ∈ zAll := zin10 (List.mem_of_getElem? (i := 19) rfl)
theorem zm10_20 : Cond.selects RX7 yX7_addSinger yX7_addSinger ∈ zAll := zin10 (List.mem_of_getElem? (i := 20) rfl)
theorem zm10_21 : Cond.codeWith yL_addSinger cL_addSinger 5 (some .int) [(0, 10, 13, 13), (0, 10, 17, 40)] ∈ zAll := zin10 (List.mem_of_getElem? (i := 21) rfl)
theorem zm10_22 : Cond.methodLink RL 49 yX7_addCue ∈ zAll := zin10 (List.mem_of_getElem? (i := 22) rfl)
theorem zm10_23 : Cond.instanceMethod yX7_addCue ∈ zAll := zin10 (List.mem_of_getElem? (i := 23) rfl)
theorem zm10_24 : Cond.selects RX7 yX7_addCue yX7_addCue ∈ zAll := zin10 (List.mem_of_getElem? (i := 24) rfl)
theorem zm10_25 : Cond.codeWith yL_addCue cL_addCue 8 (some .int) [(0, 16, 19, 19), (0, 16, 23, 13), (0, 16, 27, 28), (0, 16, 31, 40)] ∈ zAll := zin10 (List.mem_of_getElem? (i := 25) rfl)
theorem zm10_26 : Cond.codeWith yL_setLevel cL_setLevel 4 (some .int) [(0, 9, 12, 13)] ∈ zAll := zin10 (List.mem_of_getElem? (i := 26) rfl)
theorem zm10_27 : Cond.methodLink RL 53 yX7_setLevel ∈ zAll := zin10 (List.mem_of_getElem? (i := 27) rfl)
theorem zm10_28 : Cond.instanceMethod yX7_setLevel ∈ zAll := zin10 (List.mem_of_getElem? (i := 28) rfl)
theorem zm10_29 : Cond.selects RX7 yX7_setLevel yX7_setLevel ∈ zAll := zin10 (List.mem_of_getElem? (i := 29) rfl)
theorem zm10_30 : Cond.methodLink RL 57 yX7_run ∈ zAll := zin10 (List.mem_of_getElem? (i := 30) rfl)
theorem zm10_31 : Cond.instanceMethod yX7_run ∈ zAll := zin10 (List.mem_of_getElem? (i := 31) rfl)
theorem zm10_32 : Cond.selects RX7 yX7_run yX7_run ∈ zAll := zin10 (List.mem_of_getElem? (i := 32) rfl)
theorem zm10_33 : Cond.codeWith yL_run cL_run 4 (some .int) [(0, 9, 12, 13), (0, 9, 15, 40)] ∈ zAll := zin10 (List.mem_of_getElem? (i := 33) rfl)
theorem zm10_34 : Cond.codeWith yL_noiseAt cL_noiseAt 5 (some .int) [(0, 10, 13, 19)] ∈ zAll := zin10 (List.mem_of_getElem? (i := 34) rfl)
theorem zm10_35 : Cond.methodLink RL 60 yX7_noiseAt ∈ zAll := zin10 (List.mem_of_getElem? (i := 35) rfl)
theorem zm10_36 : Cond.instanceMethod yX7_noiseAt ∈ zAll := zin10 (List.mem_of_getElem? (i := 36) rfl)
theorem zm10_37 : Cond.selects RX7 yX7_noiseAt yX7_noiseAt ∈ zAll := zin10 (List.mem_of_getElem? (i := 37) rfl)
theorem zm10_38 : Cond.methodLink RL 63 yX7_tiredness ∈ zAll := zin10 (List.mem_of_getElem? (i := 38) rfl)
theorem zm10_39 : Cond.instanceMethod yX7_tiredness ∈ zAll := zin10 (List.mem_of_getElem? (i := 39) rfl)
theorem zm10_40 : Cond.selects RX7 yX7_tiredness yX7_tiredness ∈ zAll := zin10 (List.mem_of_getElem? (i := 40) rfl)
theorem zm10_41 : Cond.codeWith yL_tiredness cL_tiredness 5 (some .int) [(0, 10, 13, 19), (0, 10, 17, 28)] ∈ zAll := zin10 (List.mem_of_getElem? (i := 41) rfl)
theorem zm10_42 : Cond.methodLink RL 66 yX7_callsOf ∈ zAll := zin10 (List.mem_of_getElem? (i := 42) rfl)
theorem zm10_43 : Cond.instanceMethod yX7_callsOf ∈ zAll := zin10 (List.mem_of_getElem? (i := 43) rfl)
theorem zm10_44 : Cond.selects RX7 yX7_callsOf yX7_callsOf ∈ zAll := zin10 (List.mem_of_getElem? (i := 44) rfl)
theorem zm10_45 : Cond.codeWith yL_callsOf cL_callsOf 4 (some .int) [(0, 9, 12, 19)] ∈ zAll := zin10 (List.mem_of_getElem? (i := 45) rfl)
theorem zm10_46 : Cond.methodLink RL 69 yX7_endEvening ∈ zAll := zin10 (List.mem_of_getElem? (i := 46) rfl)
theorem zm10_47 : Cond.instanceMethod yX7_endEvening ∈ zAll := zin10 (List.mem_of_getElem? (i := 47) rfl)
theorem zm10_48 : Cond.selects RX7 yX7_endEvening yX7_endEvening ∈ zAll := zin10 (List.mem_of_getElem? (i := 48) rfl)
theorem zm10_49 : Cond.codeWith yL_endEvening cL_endEvening 3 (some .int) [(0, 8, 11, 40)] ∈ zAll := zin10 (List.mem_of_getElem? (i := 49) rfl)
theorem zm10_50 : Cond.methodLink RL 73 yX7_pay ∈ zAll := zin10 (List.mem_of_getElem? (i := 50) rfl)
theorem zm10_51 : Cond.instanceMethod yX7_pay ∈ zAll := zin10 (List.mem_of_getElem? (i := 51) rfl)
theorem zm10_52 : Cond.selects RX7 yX7_pay yX7_pay ∈ zAll := zin10 (List.mem_of_getElem? (i := 52) rfl)
theorem zm10_53 : Cond.codeWith yL_pay cL_pay 5 (some .int) [(0, 10, 13, 19), (0, 10, 17, 13), (0, 10, 21, 28)] ∈ zAll := zin10 (List.mem_of_getElem? (i := 53) rfl)
theorem zm10_54 : Cond.methodLink RL 76 yX7_owed ∈ zAll := zin10 (List.mem_of_getElem? (i := 54) rfl)
theorem zm10_55 : Cond.instanceMethod yX7_owed ∈ zAll := zin10 (List.mem_of_getElem? (i := 55) rfl)
theorem zm10_56 : Cond.selects RX7 yX7_owed yX7_owed ∈ zAll := zin10 (List.mem_of_getElem? (i := 56) rfl)
theorem zm10_57 : Cond.codeWith yL_owed cL_owed 4 (some .int) [(0, 9, 12, 19)] ∈ zAll := zin10 (List.mem_of_getElem? (i := 57) rfl)
theorem zm10_58 : Cond.methodLink RL 79 yX7_share ∈ zAll := zin10 (List.mem_of_getElem? (i := 58) rfl)
theorem zm10_59 : Cond.instanceMethod yX7_share ∈ zAll := zin10 (List.mem_of_getElem? (i := 59) rfl)
theorem zm10_60 : Cond.selects RX7 yX7_share yX7_share ∈ zAll := zin10 (List.mem_of_getElem? (i := 60) rfl)
theorem zm10_61 : Cond.codeWith yL_share cL_share 3 (some .int) [(0, 8, 11, 28)] ∈ zAll := zin10 (List.mem_of_getElem? (i := 61) rfl)
theorem zm10_62 : Cond.methodLink RL 82 yX7_moneyOf ∈ zAll := zin10 (List.mem_of_getElem? (i := 62) rfl)
theorem zm10_63 : Cond.instanceMethod yX7_moneyOf ∈ zAll := zin10 (List.mem_of_getElem? (i := 63) rfl)
theorem zm10_64 : Cond.selects RX7 yX7_moneyOf yX7_moneyOf ∈ zAll := zin10 (List.mem_of_getElem? (i := 64) rfl)
theorem zm10_65 : Cond.codeWith yL_moneyOf cL_moneyOf 4 (some .int) [(0, 9, 12, 19)] ∈ zAll := zin10 (List.mem_of_getElem? (i := 65) rfl)
theorem zm10_66 : Cond.classLink RL 88 "java/util/NoSuchElementException" ∈ zAll := zin10 (List.mem_of_getElem? (i := 66) rfl)
theorem zm10_67 : Cond.methodLink RL 85 yX7_planCost ∈ zAll := zin10 (List.mem_of_getElem? (i := 67) rfl)
theorem zm10_68 : Cond.instanceMethod yX7_planCost ∈ zAll := zin10 (List.mem_of_getElem? (i := 68) rfl)
theorem zm10_69 : Cond.selects RX7 yX7_planCost yX7_planCost ∈ zAll := zin10 (List.mem_of_getElem? (i := 69) rfl)
theorem zm11_0 : Cond.codeWith yL_planCost cL_planCost 4 (some .int) [(0, 9, 12, 13), (0, 9, 15, 88)] ∈ zAll := zin11 (List.mem_of_getElem? (i := 0) rfl)
theorem zm11_1 : Cond.methodLink RL 90 yX7_isPlanned ∈ zAll := zin11 (List.mem_of_getElem? (i := 1) rfl)
theorem zm11_2 : Cond.instanceMethod yX7_isPlanned ∈ zAll := zin11 (List.mem_of_getElem? (i := 2) rfl)
theorem zm11_3 : Cond.selects RX7 yX7_isPlanned yX7_isPlanned ∈ zAll := zin11 (List.mem_of_getElem? (i := 3) rfl)
theorem zm11_4 : Cond.codeWith yL_isPlanned cL_isPlanned 5 (some .int) [(0, 17, 20, 13), (0, 17, 24, 19), (0, 17, 28, 88)] ∈ zAll := zin11 (List.mem_of_getElem? (i := 4) rfl)
theorem zm11_5 : Cond.codeWith yL_joiningShare cL_joiningShare 3 (some .int) [(0, 8, 11, 98)] ∈ zAll := zin11 (List.mem_of_getElem? (i := 5) rfl)
theorem zm11_6 : Cond.classLink RL 98 "java/lang/ArithmeticException" ∈ zAll := zin11 (List.mem_of_getElem? (i := 6) rfl)
theorem zm11_7 : Cond.methodLink RL 94 yX7_joiningShare ∈ zAll := zin11 (List.mem_of_getElem? (i := 7) rfl)
theorem zm11_8 : Cond.instanceMethod yX7_joiningShare ∈ zAll := zin11 (List.mem_of_getElem? (i := 8) rfl)
theorem zm11_9 : Cond.selects RX7 yX7_joiningShare yX7_joiningShare ∈ zAll := zin11 (List.mem_of_getElem? (i := 9) rfl)
theorem zm11_10 : Cond.codeWith yL_meanNoise cL_meanNoise 3 (some .int) [(0, 7, 10, 98)] ∈ zAll := zin11 (List.mem_of_getElem? (i := 10) rfl)
theorem zm11_11 : Cond.methodLink RL 100 yX7_meanNoise ∈ zAll := zin11 (List.mem_of_getElem? (i := 11) rfl)
theorem zm11_12 : Cond.instanceMethod yX7_meanNoise ∈ zAll := zin11 (List.mem_of_getElem? (i := 12) rfl)
theorem zm11_13 : Cond.selects RX7 yX7_meanNoise yX7_meanNoise ∈ zAll := zin11 (List.mem_of_getElem? (i := 13) rfl)
theorem zm11_14 : Cond.classLink RL 8 RX7 ∈ zAll := zin11 (List.mem_of_getElem? (i := 14) rfl)
theorem zm11_15 : Cond.instantiable RX7 6 ∈ zAll := zin11 (List.mem_of_getElem? (i := 15) rfl)
theorem zm11_16 : Cond.classLink RL 105 RX8 ∈ zAll := zin11 (List.mem_of_getElem? (i := 16) rfl)
theorem zm11_17 : Cond.instantiable RX8 37 ∈ zAll := zin11 (List.mem_of_getElem? (i := 17) rfl)
theorem zm11_18 : Cond.arrayClass .long ∈ zAll := zin11 (List.mem_of_getElem? (i := 18) rfl)
theorem zm11_19 : Cond.arrayClass .double ∈ zAll := zin11 (List.mem_of_getElem? (i := 19) rfl)
theorem zm11_20 : Cond.methodLink RL 104 yX7_init ∈ zAll := zin11 (List.mem_of_getElem? (i := 20) rfl)
theorem zm11_21 : Cond.instanceMethod yX7_init ∈ zAll := zin11 (List.mem_of_getElem? (i := 21) rfl)
theorem zm11_22 : Cond.methodLink RL 107 yX8_init ∈ zAll := zin11 (List.mem_of_getElem? (i := 22) rfl)
theorem zm11_23 : Cond.instanceMethod yX8_init ∈ zAll := zin11 (List.mem_of_getElem? (i := 23) rfl)
theorem zm11_24 : Cond.methodLink RL 108 yL_newHouse ∈ zAll := zin11 (List.mem_of_getElem? (i := 24) rfl)
theorem zm11_25 : Cond.static yL_newHouse ∈ zAll := zin11 (List.mem_of_getElem? (i := 25) rfl)
theorem zm11_26 : Cond.initialized RL ∈ zAll := zin11 (List.mem_of_getElem? (i := 26) rfl)
theorem zm11_27 : Cond.methodLink RL 113 yX8_newHouse ∈ zAll := zin11 (List.mem_of_getElem? (i := 27) rfl)
theorem zm11_28 : Cond.instanceMethod yX8_newHouse ∈ zAll := zin11 (List.mem_of_getElem? (i := 28) rfl)
theorem zm11_29 : Cond.selects RX8 yX8_newHouse yX8_newHouse ∈ zAll := zin11 (List.mem_of_getElem? (i := 29) rfl)
theorem zm11_30 : Cond.methodLink RL 114 yX8_thrown ∈ zAll := zin11 (List.mem_of_getElem? (i := 30) rfl)
theorem zm11_31 : Cond.instanceMethod yX8_thrown ∈ zAll := zin11 (List.mem_of_getElem? (i := 31) rfl)
theorem zm11_32 : Cond.selects RX8 yX8_thrown yX8_thrown ∈ zAll := zin11 (List.mem_of_getElem? (i := 32) rfl)
theorem zm11_33 : Cond.methodLink RL 117 yL_seatPayer ∈ zAll := zin11 (List.mem_of_getElem? (i := 33) rfl)
theorem zm11_34 : Cond.static yL_seatPayer ∈ zAll := zin11 (List.mem_of_getElem? (i := 34) rfl)
theorem zm11_35 : Cond.methodLink RL 120 yX8_seatPayer ∈ zAll := zin11 (List.mem_of_getElem? (i := 35) rfl)
theorem zm11_36 : Cond.instanceMethod yX8_seatPayer ∈ zAll := zin11 (List.mem_of_getElem? (i := 36) rfl)
theorem zm11_37 : Cond.selects RX8 yX8_seatPayer yX8_seatPayer ∈ zAll := zin11 (List.mem_of_getElem? (i := 37) rfl)
theorem zm11_38 : Cond.methodLink RL 121 yL_seatRival ∈ zAll := zin11 (List.mem_of_getElem? (i := 38) rfl)
theorem zm11_39 : Cond.static yL_seatRival ∈ zAll := zin11 (List.mem_of_getElem? (i := 39) rfl)
theorem zm11_40 : Cond.methodLink RL 123 yX8_seatRival ∈ zAll := zin11 (List.mem_of_getElem? (i := 40) rfl)
theorem zm11_41 : Cond.instanceMethod yX8_seatRival ∈ zAll := zin11 (List.mem_of_getElem? (i := 41) rfl)
theorem zm11_42 : Cond.selects RX8 yX8_seatRival yX8_seatRival ∈ zAll := zin11 (List.mem_of_getElem? (i := 42) rfl)
theorem zm11_43 : Cond.methodLink RL 124 yL_seatHand ∈ zAll := zin11 (List.mem_of_getElem? (i := 43) rfl)
theorem zm11_44 : Cond.static yL_seatHand ∈ zAll := zin11 (List.mem_of_getElem? (i := 44) rfl)
theorem zm11_45 : Cond.methodLink RL 126 yX8_seatHand ∈ zAll := zin11 (List.mem_of_getElem? (i := 45) rfl)
theorem zm11_46 : Cond.instanceMethod yX8_seatHand ∈ zAll := zin11 (List.mem_of_getElem? (i := 46) rfl)
theorem zm11_47 : Cond.selects RX8 yX8_seatHand yX8_seatHand ∈ zAll := zin11 (List.mem_of_getElem? (i := 47) rfl)
theorem zm11_48 : Cond.methodLink RL 127 yL_clearSeat ∈ zAll := zin11 (List.mem_of_getElem? (i := 48) rfl)
theorem zm11_49 : Cond.static yL_clearSeat ∈ zAll := zin11 (List.mem_of_getElem? (i := 49) rfl)
theorem zm11_50 : Cond.methodLink RL 129 yX8_clearSeat ∈ zAll := zin11 (List.mem_of_getElem? (i := 50) rfl)
theorem zm11_51 : Cond.instanceMethod yX8_clearSeat ∈ zAll := zin11 (List.mem_of_getElem? (i := 51) rfl)
theorem zm11_52 : Cond.selects RX8 yX8_clearSeat yX8_clearSeat ∈ zAll := zin11 (List.mem_of_getElem? (i := 52) rfl)
theorem zm11_53 : Cond.methodLink RL 130 yL_seatAt ∈ zAll := zin11 (List.mem_of_getElem? (i := 53) rfl)
theorem zm11_54 : Cond.static yL_seatAt ∈ zAll := zin11 (List.mem_of_getElem? (i := 54) rfl)
theorem zm11_55 : Cond.methodLink RL 132 yX8_seatAt ∈ zAll := zin11 (List.mem_of_getElem? (i := 55) rfl)
theorem zm11_56 : Cond.instanceMethod yX8_seatAt ∈ zAll := zin11 (List.mem_of_getElem? (i := 56) rfl)
theorem zm11_57 : Cond.selects RX8 yX8_seatAt yX8_seatAt ∈ zAll := zin11 (List.mem_of_getElem? (i := 57) rfl)
theorem zm11_58 : Cond.methodLink RL 133 yL_addHand ∈ zAll := zin11 (List.mem_of_getElem? (i := 58) rfl)
theorem zm11_59 : Cond.static yL_addHand ∈ zAll := zin11 (List.mem_of_getElem? (i := 59) rfl)
theorem zm11_60 : Cond.methodLink RL 136 yX8_addHand ∈ zAll := zin11 (List.mem_of_getElem? (i := 60) rfl)
theorem zm11_61 : Cond.instanceMethod yX8_addHand ∈ zAll := zin11 (List.mem_of_getElem? (i := 61) rfl)
theorem zm11_62 : Cond.selects RX8 yX8_addHand yX8_addHand ∈ zAll := zin11 (List.mem_of_getElem? (i := 62) rfl)
theorem zm11_63 : Cond.methodLink RL 137 yL_isSeated ∈ zAll := zin11 (List.mem_of_getElem? (i := 63) rfl)
theorem zm11_64 : Cond.static yL_isSeated ∈ zAll := zin11 (List.mem_of_getElem? (i := 64) rfl)
theorem zm11_65 : Cond.methodLink RL 140 yX8_isSeated ∈ zAll := zin11 (List.mem_of_getElem? (i := 65) rfl)
theorem zm11_66 : Cond.instanceMethod yX8_isSeated ∈ zAll := zin11 (List.mem_of_getElem? (i := 66) rfl)
theorem zm11_67 : Cond.selects RX8 yX8_isSeated yX8_isSeated ∈ zAll := zin11 (List.mem_of_getElem? (i := 67) rfl)
theorem zm11_68 : Cond.methodLink RL 141 yL_addSinger ∈ zAll := zin11 (List.mem_of_getElem? (i := 68) rfl)
theorem zm11_69 : Cond.static yL_addSinger ∈ zAll := zin11 (List.mem_of_getElem? (i := 69) rfl)
theorem zm12_0 : Cond.methodLink RL 143 yX8_addSinger ∈ zAll := zin12 (List.mem_of_getElem? (i := 0) rfl)
theorem zm12_1 : Cond.instanceMethod yX8_addSinger ∈ zAll := zin12 (List.mem_of_getElem? (i := 1) rfl)
theorem zm12_2 : Cond.selects RX8 yX8_addSinger yX8_addSinger ∈ zAll := zin12 (List.mem_of_getElem? (i := 2) rfl)
theorem zm12_3 : Cond.methodLink RL 144 yL_addCue ∈ zAll := zin12 (List.mem_of_getElem? (i := 3) rfl)
theorem zm12_4 : Cond.static yL_addCue ∈ zAll := zin12 (List.mem_of_getElem? (i := 4) rfl)
theorem zm12_5 : Cond.methodLink RL 147 yX8_addCue ∈ zAll := zin12 (List.mem_of_getElem? (i := 5) rfl)
theorem zm12_6 : Cond.instanceMethod yX8_addCue ∈ zAll := zin12 (List.mem_of_getElem? (i := 6) rfl)
theorem zm12_7 : Cond.selects RX8 yX8_addCue yX8_addCue ∈ zAll := zin12 (List.mem_of_getElem? (i := 7) rfl)
theorem zm12_8 : Cond.methodLink RL 148 yL_setLevel ∈ zAll := zin12 (List.mem_of_getElem? (i := 8) rfl)
theorem zm12_9 : Cond.static yL_setLevel ∈ zAll := zin12 (List.mem_of_getElem? (i := 9) rfl)
theorem zm12_10 : Cond.methodLink RL 150 yX8_setLevel ∈ zAll := zin12 (List.mem_of_getElem? (i := 10) rfl)
theorem zm12_11 : Cond.instanceMethod yX8_setLevel ∈ zAll := zin12 (List.mem_of_getElem? (i := 11) rfl)
theorem zm12_12 : Cond.selects RX8 yX8_setLevel yX8_setLevel ∈ zAll := zin12 (List.mem_of_getElem? (i := 12) rfl)
theorem zm12_13 : Cond.methodLink RL 151 yL_run ∈ zAll := zin12 (List.mem_of_getElem? (i := 13) rfl)
theorem zm12_14 : Cond.static yL_run ∈ zAll := zin12 (List.mem_of_getElem? (i := 14) rfl)
theorem zm12_15 : Cond.methodLink RL 153 yX8_run ∈ zAll := zin12 (List.mem_of_getElem? (i := 15) rfl)
theorem zm12_16 : Cond.instanceMethod yX8_run ∈ zAll := zin12 (List.mem_of_getElem? (i := 16) rfl)
theorem zm12_17 : Cond.selects RX8 yX8_run yX8_run ∈ zAll := zin12 (List.mem_of_getElem? (i := 17) rfl)
theorem zm12_18 : Cond.methodLink RL 154 yL_noiseAt ∈ zAll := zin12 (List.mem_of_getElem? (i := 18) rfl)
theorem zm12_19 : Cond.static yL_noiseAt ∈ zAll := zin12 (List.mem_of_getElem? (i := 19) rfl)
theorem zm12_20 : Cond.methodLink RL 156 yX8_noiseAt ∈ zAll := zin12 (List.mem_of_getElem? (i := 20) rfl)
theorem zm12_21 : Cond.instanceMethod yX8_noiseAt ∈ zAll := zin12 (List.mem_of_getElem? (i := 21) rfl)
theorem zm12_22 : Cond.selects RX8 yX8_noiseAt yX8_noiseAt ∈ zAll := zin12 (List.mem_of_getElem? (i := 22) rfl)
theorem zm12_23 : Cond.methodLink RL 157 yX7_noise ∈ zAll := zin12 (List.mem_of_getElem? (i := 23) rfl)
theorem zm12_24 : Cond.instanceMethod yX7_noise ∈ zAll := zin12 (List.mem_of_getElem? (i := 24) rfl)
theorem zm12_25 : Cond.selects RX7 yX7_noise yX7_noise ∈ zAll := zin12 (List.mem_of_getElem? (i := 25) rfl)
theorem zm12_26 : Cond.methodLink RL 160 yX8_noise ∈ zAll := zin12 (List.mem_of_getElem? (i := 26) rfl)
theorem zm12_27 : Cond.instanceMethod yX8_noise ∈ zAll := zin12 (List.mem_of_getElem? (i := 27) rfl)
theorem zm12_28 : Cond.selects RX8 yX8_noise yX8_noise ∈ zAll := zin12 (List.mem_of_getElem? (i := 28) rfl)
theorem zm12_29 : Cond.methodLink RL 161 yX7_joining ∈ zAll := zin12 (List.mem_of_getElem? (i := 29) rfl)
theorem zm12_30 : Cond.instanceMethod yX7_joining ∈ zAll := zin12 (List.mem_of_getElem? (i := 30) rfl)
theorem zm12_31 : Cond.selects RX7 yX7_joining yX7_joining ∈ zAll := zin12 (List.mem_of_getElem? (i := 31) rfl)
theorem zm12_32 : Cond.methodLink RL 164 yX8_joining ∈ zAll := zin12 (List.mem_of_getElem? (i := 32) rfl)
theorem zm12_33 : Cond.instanceMethod yX8_joining ∈ zAll := zin12 (List.mem_of_getElem? (i := 33) rfl)
theorem zm12_34 : Cond.selects RX8 yX8_joining yX8_joining ∈ zAll := zin12 (List.mem_of_getElem? (i := 34) rfl)
theorem zm12_35 : Cond.methodLink RL 165 yX7_hisses ∈ zAll := zin12 (List.mem_of_getElem? (i := 35) rfl)
theorem zm12_36 : Cond.instanceMethod yX7_hisses ∈ zAll := zin12 (List.mem_of_getElem? (i := 36) rfl)
theorem zm12_37 : Cond.selects RX7 yX7_hisses yX7_hisses ∈ zAll := zin12 (List.mem_of_getElem? (i := 37) rfl)
theorem zm12_38 : Cond.methodLink RL 168 yX8_hisses ∈ zAll := zin12 (List.mem_of_getElem? (i := 38) rfl)
theorem zm12_39 : Cond.instanceMethod yX8_hisses ∈ zAll := zin12 (List.mem_of_getElem? (i := 39) rfl)
theorem zm12_40 : Cond.selects RX8 yX8_hisses yX8_hisses ∈ zAll := zin12 (List.mem_of_getElem? (i := 40) rfl)
theorem zm12_41 : Cond.methodLink RL 169 yL_tiredness ∈ zAll := zin12 (List.mem_of_getElem? (i := 41) rfl)
theorem zm12_42 : Cond.static yL_tiredness ∈ zAll := zin12 (List.mem_of_getElem? (i := 42) rfl)
theorem zm12_43 : Cond.methodLink RL 171 yX8_tiredness ∈ zAll := zin12 (List.mem_of_getElem? (i := 43) rfl)
theorem zm12_44 : Cond.instanceMethod yX8_tiredness ∈ zAll := zin12 (List.mem_of_getElem? (i := 44) rfl)
theorem zm12_45 : Cond.selects RX8 yX8_tiredness yX8_tiredness ∈ zAll := zin12 (List.mem_of_getElem? (i := 45) rfl)
theorem zm12_46 : Cond.methodLink RL 172 yL_callsOf ∈ zAll := zin12 (List.mem_of_getElem? (i := 46) rfl)
theorem zm12_47 : Cond.static yL_callsOf ∈ zAll := zin12 (List.mem_of_getElem? (i := 47) rfl)
theorem zm12_48 : Cond.methodLink RL 174 yX8_callsOf ∈ zAll := zin12 (List.mem_of_getElem? (i := 48) rfl)
theorem zm12_49 : Cond.instanceMethod yX8_callsOf ∈ zAll := zin12 (List.mem_of_getElem? (i := 49) rfl)
theorem zm12_50 : Cond.selects RX8 yX8_callsOf yX8_callsOf ∈ zAll := zin12 (List.mem_of_getElem? (i := 50) rfl)
theorem zm12_51 : Cond.methodLink RL 175 yX7_calls ∈ zAll := zin12 (List.mem_of_getElem? (i := 51) rfl)
theorem zm12_52 : Cond.instanceMethod yX7_calls ∈ zAll := zin12 (List.mem_of_getElem? (i := 52) rfl)
theorem zm12_53 : Cond.selects RX7 yX7_calls yX7_calls ∈ zAll := zin12 (List.mem_of_getElem? (i := 53) rfl)
theorem zm12_54 : Cond.methodLink RL 178 yX8_calls ∈ zAll := zin12 (List.mem_of_getElem? (i := 54) rfl)
theorem zm12_55 : Cond.instanceMethod yX8_calls ∈ zAll := zin12 (List.mem_of_getElem? (i := 55) rfl)
theorem zm12_56 : Cond.selects RX8 yX8_calls yX8_calls ∈ zAll := zin12 (List.mem_of_getElem? (i := 56) rfl)
theorem zm12_57 : Cond.methodLink RL 179 yX7_suspicions ∈ zAll := zin12 (List.mem_of_getElem? (i := 57) rfl)
theorem zm12_58 : Cond.instanceMethod yX7_suspicions ∈ zAll := zin12 (List.mem_of_getElem? (i := 58) rfl)
theorem zm12_59 : Cond.selects RX7 yX7_suspicions yX7_suspicions ∈ zAll := zin12 (List.mem_of_getElem? (i := 59) rfl)
theorem zm12_60 : Cond.methodLink RL 182 yX8_suspicions ∈ zAll := zin12 (List.mem_of_getElem? (i := 60) rfl)
theorem zm12_61 : Cond.instanceMethod yX8_suspicions ∈ zAll := zin12 (List.mem_of_getElem? (i := 61) rfl)
theorem zm12_62 : Cond.selects RX8 yX8_suspicions yX8_suspicions ∈ zAll := zin12 (List.mem_of_getElem? (i := 62) rfl)
theorem zm12_63 : Cond.methodLink RL 183 yX7_areFoundOut ∈ zAll := zin12 (List.mem_of_getElem? (i := 63) rfl)
theorem zm12_64 : Cond.instanceMethod yX7_areFoundOut ∈ zAll := zin12 (List.mem_of_getElem? (i := 64) rfl)
theorem zm12_65 : Cond.selects RX7 yX7_areFoundOut yX7_areFoundOut ∈ zAll := zin12 (List.mem_of_getElem? (i := 65) rfl)
theorem zm12_66 : Cond.methodLink RL 187 yX8_areFoundOut ∈ zAll := zin12 (List.mem_of_getElem? (i := 66) rfl)
theorem zm12_67 : Cond.instanceMethod yX8_areFoundOut ∈ zAll := zin12 (List.mem_of_getElem? (i := 67) rfl)
theorem zm12_68 : Cond.selects RX8 yX8_areFoundOut yX8_areFoundOut ∈ zAll := zin12 (List.mem_of_getElem? (i := 68) rfl)
theorem zm12_69 : Cond.methodLink RL 188 yL_endEvening ∈ zAll := zin12 (List.mem_of_getElem? (i := 69) rfl)
theorem zm13_0 : Cond.static yL_endEvening ∈ zAll := zin13 (List.mem_of_getElem? (i := 0) rfl)
theorem zm13_1 : Cond.methodLink RL 191 yX8_endEvening ∈ zAll := zin13 (List.mem_of_getElem? (i := 1) rfl)
theorem zm13_2 : Cond.instanceMethod yX8_endEvening ∈ zAll := zin13 (List.mem_of_getElem? (i := 2) rfl)
theorem zm13_3 : Cond.selects RX8 yX8_endEvening yX8_endEvening ∈ zAll := zin13 (List.mem_of_getElem? (i := 3) rfl)
theorem zm13_4 : Cond.methodLink RL 192 yL_pay ∈ zAll := zin13 (List.mem_of_getElem? (i := 4) rfl)
theorem zm13_5 : Cond.static yL_pay ∈ zAll := zin13 (List.mem_of_getElem? (i := 5) rfl)
theorem zm13_6 : Cond.methodLink RL 194 yX8_pay ∈ zAll := zin13 (List.mem_of_getElem? (i := 6) rfl)
theorem zm13_7 : Cond.instanceMethod yX8_pay ∈ zAll := zin13 (List.mem_of_getElem? (i := 7) rfl)
theorem zm13_8 : Cond.selects RX8 yX8_pay yX8_pay ∈ zAll := zin13 (List.mem_of_getElem? (i := 8) rfl)
theorem zm13_9 : Cond.methodLink RL 195 yL_owed ∈ zAll := zin13 (List.mem_of_getElem? (i := 9) rfl)
theorem zm13_10 : Cond.static yL_owed ∈ zAll := zin13 (List.mem_of_getElem? (i := 10) rfl)
theorem zm13_11 : Cond.methodLink RL 197 yX8_owed ∈ zAll := zin13 (List.mem_of_getElem? (i := 11) rfl)
theorem zm13_12 : Cond.instanceMethod yX8_owed ∈ zAll := zin13 (List.mem_of_getElem? (i := 12) rfl)
theorem zm13_13 : Cond.selects RX8 yX8_owed yX8_owed ∈ zAll := zin13 (List.mem_of_getElem? (i := 13) rfl)
theorem zm13_14 : Cond.methodLink RL 198 yX7_purse ∈ zAll := zin13 (List.mem_of_getElem? (i := 14) rfl)
theorem zm13_15 : Cond.instanceMethod yX7_purse ∈ zAll := zin13 (List.mem_of_getElem? (i := 15) rfl)
theorem zm13_16 : Cond.selects RX7 yX7_purse yX7_purse ∈ zAll := zin13 (List.mem_of_getElem? (i := 16) rfl)
theorem zm13_17 : Cond.methodLink RL 201 yX8_purse ∈ zAll := zin13 (List.mem_of_getElem? (i := 17) rfl)
theorem zm13_18 : Cond.instanceMethod yX8_purse ∈ zAll := zin13 (List.mem_of_getElem? (i := 18) rfl)
theorem zm13_19 : Cond.selects RX8 yX8_purse yX8_purse ∈ zAll := zin13 (List.mem_of_getElem? (i := 19) rfl)
theorem zm13_20 : Cond.methodLink RL 202 yL_share ∈ zAll := zin13 (List.mem_of_getElem? (i := 20) rfl)
theorem zm13_21 : Cond.static yL_share ∈ zAll := zin13 (List.mem_of_getElem? (i := 21) rfl)
theorem zm13_22 : Cond.methodLink RL 204 yX8_share ∈ zAll := zin13 (List.mem_of_getElem? (i := 22) rfl)
theorem zm13_23 : Cond.instanceMethod yX8_share ∈ zAll := zin13 (List.mem_of_getElem? (i := 23) rfl)
theorem zm13_24 : Cond.selects RX8 yX8_share yX8_share ∈ zAll := zin13 (List.mem_of_getElem? (i := 24) rfl)
theorem zm13_25 : Cond.methodLink RL 205 yL_moneyOf ∈ zAll := zin13 (List.mem_of_getElem? (i := 25) rfl)
theorem zm13_26 : Cond.static yL_moneyOf ∈ zAll := zin13 (List.mem_of_getElem? (i := 26) rfl)
theorem zm13_27 : Cond.methodLink RL 207 yX8_moneyOf ∈ zAll := zin13 (List.mem_of_getElem? (i := 27) rfl)
theorem zm13_28 : Cond.instanceMethod yX8_moneyOf ∈ zAll := zin13 (List.mem_of_getElem? (i := 28) rfl)
theorem zm13_29 : Cond.selects RX8 yX8_moneyOf yX8_moneyOf ∈ zAll := zin13 (List.mem_of_getElem? (i := 29) rfl)
theorem zm13_30 : Cond.methodLink RL 208 yX7_chiefs ∈ zAll := zin13 (List.mem_of_getElem? (i := 30) rfl)
theorem zm13_31 : Cond.instanceMethod yX7_chiefs ∈ zAll := zin13 (List.mem_of_getElem? (i := 31) rfl)
theorem zm13_32 : Cond.selects RX7 yX7_chiefs yX7_chiefs ∈ zAll := zin13 (List.mem_of_getElem? (i := 32) rfl)
theorem zm13_33 : Cond.methodLink RL 211 yX8_chiefs ∈ zAll := zin13 (List.mem_of_getElem? (i := 33) rfl)
theorem zm13_34 : Cond.instanceMethod yX8_chiefs ∈ zAll := zin13 (List.mem_of_getElem? (i := 34) rfl)
theorem zm13_35 : Cond.selects RX8 yX8_chiefs yX8_chiefs ∈ zAll := zin13 (List.mem_of_getElem? (i := 35) rfl)
theorem zm13_36 : Cond.methodLink RL 212 yL_planCost ∈ zAll := zin13 (List.mem_of_getElem? (i := 36) rfl)
theorem zm13_37 : Cond.static yL_planCost ∈ zAll := zin13 (List.mem_of_getElem? (i := 37) rfl)
theorem zm13_38 : Cond.methodLink RL 214 yX8_planCost ∈ zAll := zin13 (List.mem_of_getElem? (i := 38) rfl)
theorem zm13_39 : Cond.instanceMethod yX8_planCost ∈ zAll := zin13 (List.mem_of_getElem? (i := 39) rfl)
theorem zm13_40 : Cond.selects RX8 yX8_planCost yX8_planCost ∈ zAll := zin13 (List.mem_of_getElem? (i := 40) rfl)
theorem zm13_41 : Cond.methodLink RL 215 yL_isPlanned ∈ zAll := zin13 (List.mem_of_getElem? (i := 41) rfl)
theorem zm13_42 : Cond.static yL_isPlanned ∈ zAll := zin13 (List.mem_of_getElem? (i := 42) rfl)
theorem zm13_43 : Cond.methodLink RL 217 yX8_isPlanned ∈ zAll := zin13 (List.mem_of_getElem? (i := 43) rfl)
theorem zm13_44 : Cond.instanceMethod yX8_isPlanned ∈ zAll := zin13 (List.mem_of_getElem? (i := 44) rfl)
theorem zm13_45 : Cond.selects RX8 yX8_isPlanned yX8_isPlanned ∈ zAll := zin13 (List.mem_of_getElem? (i := 45) rfl)
theorem zm13_46 : Cond.methodLink RL 218 yX7_checksum ∈ zAll := zin13 (List.mem_of_getElem? (i := 46) rfl)
theorem zm13_47 : Cond.instanceMethod yX7_checksum ∈ zAll := zin13 (List.mem_of_getElem? (i := 47) rfl)
theorem zm13_48 : Cond.selects RX7 yX7_checksum yX7_checksum ∈ zAll := zin13 (List.mem_of_getElem? (i := 48) rfl)
theorem zm13_49 : Cond.methodLink RL 222 yX8_checksum ∈ zAll := zin13 (List.mem_of_getElem? (i := 49) rfl)
theorem zm13_50 : Cond.instanceMethod yX8_checksum ∈ zAll := zin13 (List.mem_of_getElem? (i := 50) rfl)
theorem zm13_51 : Cond.selects RX8 yX8_checksum yX8_checksum ∈ zAll := zin13 (List.mem_of_getElem? (i := 51) rfl)
theorem zm13_52 : Cond.methodLink RL 223 yL_joiningShare ∈ zAll := zin13 (List.mem_of_getElem? (i := 52) rfl)
theorem zm13_53 : Cond.static yL_joiningShare ∈ zAll := zin13 (List.mem_of_getElem? (i := 53) rfl)
theorem zm13_54 : Cond.methodLink RL 226 yX8_joiningShare ∈ zAll := zin13 (List.mem_of_getElem? (i := 54) rfl)
theorem zm13_55 : Cond.instanceMethod yX8_joiningShare ∈ zAll := zin13 (List.mem_of_getElem? (i := 55) rfl)
theorem zm13_56 : Cond.selects RX8 yX8_joiningShare yX8_joiningShare ∈ zAll := zin13 (List.mem_of_getElem? (i := 56) rfl)
theorem zm13_57 : Cond.methodLink RL 227 yL_meanNoise ∈ zAll := zin13 (List.mem_of_getElem? (i := 57) rfl)
theorem zm13_58 : Cond.static yL_meanNoise ∈ zAll := zin13 (List.mem_of_getElem? (i := 58) rfl)
theorem zm13_59 : Cond.methodLink RL 229 yX8_meanNoise ∈ zAll := zin13 (List.mem_of_getElem? (i := 59) rfl)
theorem zm13_60 : Cond.instanceMethod yX8_meanNoise ∈ zAll := zin13 (List.mem_of_getElem? (i := 60) rfl)
theorem zm13_61 : Cond.selects RX8 yX8_meanNoise yX8_meanNoise ∈ zAll := zin13 (List.mem_of_getElem? (i := 61) rfl)
theorem zm13_62 : Cond.methodLink RL 230 yX7_isSound ∈ zAll := zin13 (List.mem_of_getElem? (i := 62) rfl)
theorem zm13_63 : Cond.instanceMethod yX7_isSound ∈ zAll := zin13 (List.mem_of_getElem? (i := 63) rfl)
theorem zm13_64 : Cond.selects RX7 yX7_isSound yX7_isSound ∈ zAll := zin13 (List.mem_of_getElem? (i := 64) rfl)
theorem zm13_65 : Cond.methodLink RL 233 yX8_isSound ∈ zAll := zin13 (List.mem_of_getElem? (i := 65) rfl)
theorem zm13_66 : Cond.instanceMethod yX8_isSound ∈ zAll := zin13 (List.mem_of_getElem? (i := 66) rfl)
theorem zm13_67 : Cond.selects RX8 yX8_isSound yX8_isSound ∈ zAll := zin13 (List.mem_of_getElem? (i := 67) rfl)
theorem zu_RX0 : ∀ w ∈ u_ws RX0 TX0 5, w ∈ zAll := fun _ h => zin14 h
theorem zu_RX1 : ∀ w ∈ u_ws RX1 TX1 7, w ∈ zAll := fun _ h => zin15 h
theorem zu_RX2 : ∀ w ∈ u_ws RX2 TX2 6, w ∈ zAll := fun _ h => zin16 h
theorem zu_RX3 : ∀ w ∈ u_ws RX3 TX3 3, w ∈ zAll := fun _ h => zin17 h
theorem zu_RX4 : ∀ w ∈ u_ws RX4 TX4 9, w ∈ zAll := fun _ h => zin18 h
theorem zu_RX5 : ∀ w ∈ u_ws RX5 TX5 4, w ∈ zAll := fun _ h => zin19 h
theorem zu_RX6 : ∀ w ∈ u_ws RX6 TX6 1, w ∈ zAll := fun _ h => zin20 h
theorem zu_RX7 : ∀ w ∈ u_ws RX7 TX7 6, w ∈ zAll := fun _ h => zin21 h
theorem zu_RX8 : ∀ w ∈ u_ws RX8 TX8 37, w ∈ zAll := fun _ h => zin22 h
theorem zu_RJx00060 : ∀ w ∈ u_ws RJx00060 TJx00060 6, w ∈ zAll := fun _ h => zin23 h
theorem zu_RJ0 : ∀ w ∈ u_ws RJ0 TJ0 2, w ∈ zAll := fun _ h => zin24 h
theorem zu_RJx4a65c : ∀ w ∈ u_ws RJx4a65c TJx4a65c 3, w ∈ zAll := fun _ h => zin25 h
theorem zt_253 : ∀ w ∈ (vx_atS RX7 253 "java/lang/IllegalArgumentException" ["java/lang/RuntimeException", "java/lang/Exception"]).filter goodWord, w ∈ zAll := fun _ h => zin26 h
theorem zt_260 : ∀ w ∈ (vx_atS RX7 260 "java/lang/IndexOutOfBoundsException" ["java/lang/RuntimeException", "java/lang/Exception"]).filter goodWord, w ∈ zAll := fun _ h => zin27 h
theorem zt_82 : ∀ w ∈ (vx_atS RX7 82 "java/lang/UnsupportedOperationException" ["java/lang/RuntimeException", "java/lang/Exception"]).filter goodWord, w ∈ zAll := fun _ h => zin28 h
theorem zt_108 : ∀ w ∈ (vx_atS RX7 108 "java/lang/IllegalStateException" ["java/lang/RuntimeException", "java/lang/Exception"]).filter goodWord, w ∈ zAll := fun _ h => zin29 h
theorem zt_272 : ∀ w ∈ (vx_at13 RX7 272 "java/util/NoSuchElementException" "java/lang/RuntimeException" ["java/lang/Exception"]).filter goodWord, w ∈ zAll := fun _ h => zin30 h
theorem zt_242 : ∀ w ∈ (vx_atS RX7 242 "java/lang/ArithmeticException" ["java/lang/RuntimeException", "java/lang/Exception"]).filter goodWord, w ∈ zAll := fun _ h => zin31 h
