/-! ===== BEGIN printed: names, fields, word lists, decode rows ===== -/
def RX0 : String := "ControlBench$Controller"
def TX0 : u_T := fun k => match k with
  | 0 => ("ControlBench$Controller", "p", "I", false)
  | 1 => ("ControlBench$Controller", "i", "I", false)
  | 2 => ("ControlBench$Controller", "d", "I", false)
  | 3 => ("ControlBench$Controller", "low", "I", false)
  | 4 => ("ControlBench$Controller", "high", "I", false)
  | 5 => ("ControlBench$Controller", "guard", "I", false)
  | 6 => ("ControlBench$Controller", "share", "I", false)
  | 7 => ("ControlBench$Controller", "heldSamples", "I", false)
  | 8 => ("ControlBench$Controller", "setpoint", "J", false)
  | 9 => ("ControlBench$Controller", "integral", "J", false)
  | 10 => ("ControlBench$Controller", "sumByIncrements", "J", false)
  | 11 => ("ControlBench$Controller", "plant", "LControlBench$Plant;", true)
  | 12 => ("ControlBench$Controller", "latestError", "J", false)
  | 13 => ("ControlBench$Controller", "latestRate", "J", false)
  | _ => ("ControlBench$Controller", "goesOn", "Z", false)
def tyX0 : Nat → FieldType := fun k => match k with
  | 0 => .int
  | 1 => .int
  | 2 => .int
  | 3 => .int
  | 4 => .int
  | 5 => .int
  | 6 => .int
  | 7 => .int
  | 8 => .long
  | 9 => .long
  | 10 => .long
  | 11 => .object "ControlBench$Plant"
  | 12 => .long
  | 13 => .long
  | _ => .boolean
abbrev wsX00 : List Cond := u_ws RX0 TX0 15
theorem nmX0 : ∀ a, a < 15 → ∀ b, b < 15 → a ≠ b → (TX0 a).2.1 ≠ (TX0 b).2.1 := by decide +kernel
theorem tyX0_ok : ∀ k, k < 15 → parseFieldDescriptor (TX0 k).2.2.1 = some (tyX0 k) := by decide +kernel
abbrev cX0_init : ByteArray := prog_2_method_1_code
def yX0_init : MethodName := ⟨RX0, "<init>", "(LControlBench$Plant;)V"⟩
abbrev cX0_error : ByteArray := prog_2_method_2_code
def yX0_error : MethodName := ⟨RX0, "error", "()J"⟩
abbrev cX0_rate : ByteArray := prog_2_method_3_code
def yX0_rate : MethodName := ⟨RX0, "rate", "()J"⟩
abbrev cX0_withinLimits : ByteArray := prog_2_method_4_code
def yX0_withinLimits : MethodName := ⟨RX0, "withinLimits", "(J)J"⟩
abbrev cX0_changeGains : ByteArray := prog_2_method_5_code
def yX0_changeGains : MethodName := ⟨RX0, "changeGains", "(III)V"⟩
abbrev cX0_settle : ByteArray := prog_2_method_6_code
def yX0_settle : MethodName := ⟨RX0, "settle", "(J)V"⟩
abbrev cX0_automaticSample : ByteArray := prog_2_method_7_code
def yX0_automaticSample : MethodName := ⟨RX0, "automaticSample", "()J"⟩
abbrev cX0_countIncrements : ByteArray := prog_2_method_8_code
def yX0_countIncrements : MethodName := ⟨RX0, "countIncrements", "(JJJ)V"⟩
abbrev cX0_guardAgainstWindup : ByteArray := prog_2_method_9_code
def yX0_guardAgainstWindup : MethodName := ⟨RX0, "guardAgainstWindup", "(JJJ)V"⟩
def RX1 : String := "ControlBench$Loop"
def TX1 : u_T := fun k => match k with
  | 0 => ("ControlBench$Loop", "plant", "LControlBench$Plant;", true)
  | 1 => ("ControlBench$Loop", "controller", "LControlBench$Controller;", true)
  | 2 => ("ControlBench$Loop", "schedule", "LControlBench$Schedule;", true)
  | 3 => ("ControlBench$Loop", "relay", "LControlBench$Relay;", true)
  | 4 => ("ControlBench$Loop", "mode", "I", false)
  | 5 => ("ControlBench$Loop", "handValue", "J", false)
  | 6 => ("ControlBench$Loop", "follows", "Z", false)
  | 7 => ("ControlBench$Loop", "hasMaster", "Z", false)
  | 8 => ("ControlBench$Loop", "starved", "Z", false)
  | _ => ("ControlBench$Loop", "output", "J", false)
def tyX1 : Nat → FieldType := fun k => match k with
  | 0 => .object "ControlBench$Plant"
  | 1 => .object "ControlBench$Controller"
  | 2 => .object "ControlBench$Schedule"
  | 3 => .object "ControlBench$Relay"
  | 4 => .int
  | 5 => .long
  | 6 => .boolean
  | 7 => .boolean
  | 8 => .boolean
  | _ => .long
abbrev wsX10 : List Cond := u_ws RX1 TX1 10
theorem nmX1 : ∀ a, a < 10 → ∀ b, b < 10 → a ≠ b → (TX1 a).2.1 ≠ (TX1 b).2.1 := by decide +kernel
theorem tyX1_ok : ∀ k, k < 10 → parseFieldDescriptor (TX1 k).2.2.1 = some (tyX1 k) := by decide +kernel
abbrev cX1_init : ByteArray := prog_3_method_1_code
def yX1_init : MethodName := ⟨RX1, "<init>", "()V"⟩
abbrev cX1_changeMode : ByteArray := prog_3_method_2_code
def yX1_changeMode : MethodName := ⟨RX1, "changeMode", "(I)V"⟩
abbrev cX1_goToHand : ByteArray := prog_3_method_3_code
def yX1_goToHand : MethodName := ⟨RX1, "goToHand", "()V"⟩
abbrev cX1_isStarvedBy : ByteArray := prog_3_method_4_code
def yX1_isStarvedBy : MethodName := ⟨RX1, "isStarvedBy", "(LControlBench$Loop;)Z"⟩
abbrev cX1_giveWay : ByteArray := prog_3_method_5_code
def yX1_giveWay : MethodName := ⟨RX1, "giveWay", "(J)V"⟩
abbrev cX1_actByHand : ByteArray := prog_3_method_6_code
def yX1_actByHand : MethodName := ⟨RX1, "actByHand", "()V"⟩
abbrev cX1_actAutomatically : ByteArray := prog_3_method_7_code
def yX1_actAutomatically : MethodName := ⟨RX1, "actAutomatically", "()V"⟩
abbrev cX1_actAsRelay : ByteArray := prog_3_method_8_code
def yX1_actAsRelay : MethodName := ⟨RX1, "actAsRelay", "()V"⟩
def RX2 : String := "ControlBench$Plant"
def TX2 : u_T := fun k => match k with
  | 0 => ("ControlBench$Plant", "a1", "I", false)
  | 1 => ("ControlBench$Plant", "a2", "I", false)
  | 2 => ("ControlBench$Plant", "b", "I", false)
  | 3 => ("ControlBench$Plant", "deadTime", "I", false)
  | 4 => ("ControlBench$Plant", "load", "I", false)
  | 5 => ("ControlBench$Plant", "measure", "J", false)
  | 6 => ("ControlBench$Plant", "measureBefore", "J", false)
  | 7 => ("ControlBench$Plant", "outputs", "[J", true)
  | _ => ("ControlBench$Plant", "latest", "I", false)
def tyX2 : Nat → FieldType := fun k => match k with
  | 0 => .int
  | 1 => .int
  | 2 => .int
  | 3 => .int
  | 4 => .int
  | 5 => .long
  | 6 => .long
  | 7 => .array .long
  | _ => .int
abbrev wsX20 : List Cond := u_ws RX2 TX2 9
theorem nmX2 : ∀ a, a < 9 → ∀ b, b < 9 → a ≠ b → (TX2 a).2.1 ≠ (TX2 b).2.1 := by decide +kernel
theorem tyX2_ok : ∀ k, k < 9 → parseFieldDescriptor (TX2 k).2.2.1 = some (tyX2 k) := by decide +kernel
abbrev cX2_init : ByteArray := prog_4_method_1_code
def yX2_init : MethodName := ⟨RX2, "<init>", "()V"⟩
abbrev cX2_goOn : ByteArray := prog_4_method_2_code
def yX2_goOn : MethodName := ⟨RX2, "goOn", "(J)V"⟩
def RX3 : String := "ControlBench$Relay"
def TX3 : u_T := fun k => match k with
  | 0 => ("ControlBench$Relay", "progress", "I", false)
  | 1 => ("ControlBench$Relay", "period", "I", false)
  | 2 => ("ControlBench$Relay", "swing", "J", false)
  | 3 => ("ControlBench$Relay", "center", "J", false)
  | 4 => ("ControlBench$Relay", "height", "I", false)
  | 5 => ("ControlBench$Relay", "band", "I", false)
  | 6 => ("ControlBench$Relay", "up", "Z", false)
  | 7 => ("ControlBench$Relay", "samples", "I", false)
  | 8 => ("ControlBench$Relay", "rises", "I", false)
  | 9 => ("ControlBench$Relay", "sampleOfSecondRise", "I", false)
  | 10 => ("ControlBench$Relay", "greatest", "J", false)
  | _ => ("ControlBench$Relay", "least", "J", false)
def tyX3 : Nat → FieldType := fun k => match k with
  | 0 => .int
  | 1 => .int
  | 2 => .long
  | 3 => .long
  | 4 => .int
  | 5 => .int
  | 6 => .boolean
  | 7 => .int
  | 8 => .int
  | 9 => .int
  | 10 => .long
  | _ => .long
abbrev wsX30 : List Cond := u_ws RX3 TX3 12
theorem nmX3 : ∀ a, a < 12 → ∀ b, b < 12 → a ≠ b → (TX3 a).2.1 ≠ (TX3 b).2.1 := by decide +kernel
theorem tyX3_ok : ∀ k, k < 12 → parseFieldDescriptor (TX3 k).2.2.1 = some (tyX3 k) := by decide +kernel
abbrev cX3_init : ByteArray := prog_5_method_1_code
def yX3_init : MethodName := ⟨RX3, "<init>", "()V"⟩
abbrev cX3_begin : ByteArray := prog_5_method_2_code
def yX3_begin : MethodName := ⟨RX3, "begin", "(JII)V"⟩
abbrev cX3_giveUp : ByteArray := prog_5_method_3_code
def yX3_giveUp : MethodName := ⟨RX3, "giveUp", "()V"⟩
abbrev cX3_wanted : ByteArray := prog_5_method_4_code
def yX3_wanted : MethodName := ⟨RX3, "wanted", "()J"⟩
abbrev cX3_sample : ByteArray := prog_5_method_5_code
def yX3_sample : MethodName := ⟨RX3, "sample", "(JJ)V"⟩
abbrev cX3_noteRise : ByteArray := prog_5_method_6_code
def yX3_noteRise : MethodName := ⟨RX3, "noteRise", "(J)V"⟩
abbrev cX3_gainAtTheEdge : ByteArray := prog_5_method_7_code
def yX3_gainAtTheEdge : MethodName := ⟨RX3, "gainAtTheEdge", "()J"⟩
abbrev cX3_proposedP : ByteArray := prog_5_method_8_code
def yX3_proposedP : MethodName := ⟨RX3, "proposedP", "(I)J"⟩
abbrev cX3_proposedI : ByteArray := prog_5_method_9_code
def yX3_proposedI : MethodName := ⟨RX3, "proposedI", "(I)J"⟩
abbrev cX3_proposedD : ByteArray := prog_5_method_10_code
def yX3_proposedD : MethodName := ⟨RX3, "proposedD", "(I)J"⟩
def RX4 : String := "ControlBench$Schedule"
def TX4 : u_T := fun k => match k with
  | 0 => ("ControlBench$Schedule", "points", "I", false)
  | 1 => ("ControlBench$Schedule", "measures", "[I", true)
  | 2 => ("ControlBench$Schedule", "ps", "[I", true)
  | 3 => ("ControlBench$Schedule", "is", "[I", true)
  | _ => ("ControlBench$Schedule", "ds", "[I", true)
def tyX4 : Nat → FieldType := fun k => match k with
  | 0 => .int
  | 1 => .array .int
  | 2 => .array .int
  | 3 => .array .int
  | _ => .array .int
abbrev wsX40 : List Cond := u_ws RX4 TX4 5
theorem nmX4 : ∀ a, a < 5 → ∀ b, b < 5 → a ≠ b → (TX4 a).2.1 ≠ (TX4 b).2.1 := by decide +kernel
theorem tyX4_ok : ∀ k, k < 5 → parseFieldDescriptor (TX4 k).2.2.1 = some (tyX4 k) := by decide +kernel
abbrev cX4_init : ByteArray := prog_6_method_1_code
def yX4_init : MethodName := ⟨RX4, "<init>", "()V"⟩
abbrev cX4_hasPoints : ByteArray := prog_6_method_2_code
def yX4_hasPoints : MethodName := ⟨RX4, "hasPoints", "()Z"⟩
abbrev cX4_isFull : ByteArray := prog_6_method_3_code
def yX4_isFull : MethodName := ⟨RX4, "isFull", "()Z"⟩
abbrev cX4_endsBelow : ByteArray := prog_6_method_4_code
def yX4_endsBelow : MethodName := ⟨RX4, "endsBelow", "(I)Z"⟩
abbrev cX4_addLast : ByteArray := prog_6_method_5_code
def yX4_addLast : MethodName := ⟨RX4, "addLast", "(IIII)I"⟩
abbrev cX4_takeAway : ByteArray := prog_6_method_6_code
def yX4_takeAway : MethodName := ⟨RX4, "takeAway", "()I"⟩
abbrev cX4_pointsReached : ByteArray := prog_6_method_7_code
def yX4_pointsReached : MethodName := ⟨RX4, "pointsReached", "(J)I"⟩
abbrev cX4_pAt : ByteArray := prog_6_method_8_code
def yX4_pAt : MethodName := ⟨RX4, "pAt", "(IJ)I"⟩
abbrev cX4_iAt : ByteArray := prog_6_method_9_code
def yX4_iAt : MethodName := ⟨RX4, "iAt", "(IJ)I"⟩
abbrev cX4_dAt : ByteArray := prog_6_method_10_code
def yX4_dAt : MethodName := ⟨RX4, "dAt", "(IJ)I"⟩
abbrev cX4_gainAt : ByteArray := prog_6_method_11_code
def yX4_gainAt : MethodName := ⟨RX4, "gainAt", "([IIJ)I"⟩
def RX5 : String := "ControlBench"
def TX5 : u_T := fun k => match k with
  | 0 => ("ControlBench", "loops", "[LControlBench$Loop;", true)
  | _ => ("ControlBench", "samplesSoFar", "I", false)
def tyX5 : Nat → FieldType := fun k => match k with
  | 0 => .array (.object "ControlBench$Loop")
  | _ => .int
abbrev wsX50 : List Cond := u_ws RX5 TX5 2
theorem nmX5 : ∀ a, a < 2 → ∀ b, b < 2 → a ≠ b → (TX5 a).2.1 ≠ (TX5 b).2.1 := by decide +kernel
theorem tyX5_ok : ∀ k, k < 2 → parseFieldDescriptor (TX5 k).2.2.1 = some (tyX5 k) := by decide +kernel
abbrev cX5_init : ByteArray := prog_1_method_1_code
def yX5_init : MethodName := ⟨RX5, "<init>", "()V"⟩
abbrev cX5_setPlant : ByteArray := prog_1_method_2_code
def yX5_setPlant : MethodName := ⟨RX5, "setPlant", "(IIIII)V"⟩
abbrev cX5_setLoad : ByteArray := prog_1_method_3_code
def yX5_setLoad : MethodName := ⟨RX5, "setLoad", "(II)I"⟩
abbrev cX5_setGains : ByteArray := prog_1_method_4_code
def yX5_setGains : MethodName := ⟨RX5, "setGains", "(IIII)I"⟩
abbrev cX5_addPoint : ByteArray := prog_1_method_5_code
def yX5_addPoint : MethodName := ⟨RX5, "addPoint", "(IIIII)I"⟩
abbrev cX5_setLimits : ByteArray := prog_1_method_6_code
def yX5_setLimits : MethodName := ⟨RX5, "setLimits", "(III)V"⟩
abbrev cX5_setGuard : ByteArray := prog_1_method_7_code
def yX5_setGuard : MethodName := ⟨RX5, "setGuard", "(III)I"⟩
abbrev cX5_setSetpoint : ByteArray := prog_1_method_8_code
def yX5_setSetpoint : MethodName := ⟨RX5, "setSetpoint", "(II)I"⟩
abbrev cX5_setHand : ByteArray := prog_1_method_9_code
def yX5_setHand : MethodName := ⟨RX5, "setHand", "(II)I"⟩
abbrev cX5_setTies : ByteArray := prog_1_method_10_code
def yX5_setTies : MethodName := ⟨RX5, "setTies", "(IZZ)V"⟩
abbrev cX5_setMode : ByteArray := prog_1_method_11_code
def yX5_setMode : MethodName := ⟨RX5, "setMode", "(II)I"⟩
abbrev cX5_run : ByteArray := prog_1_method_12_code
def yX5_run : MethodName := ⟨RX5, "run", "(I)I"⟩
abbrev cX5_measure : ByteArray := prog_1_method_13_code
def yX5_measure : MethodName := ⟨RX5, "measure", "(I)J"⟩
abbrev cX5_output : ByteArray := prog_1_method_14_code
def yX5_output : MethodName := ⟨RX5, "output", "(I)J"⟩
abbrev cX5_outputByIncrements : ByteArray := prog_1_method_15_code
def yX5_outputByIncrements : MethodName := ⟨RX5, "outputByIncrements", "(I)J"⟩
abbrev cX5_setpoint : ByteArray := prog_1_method_16_code
def yX5_setpoint : MethodName := ⟨RX5, "setpoint", "(I)J"⟩
abbrev cX5_integral : ByteArray := prog_1_method_17_code
def yX5_integral : MethodName := ⟨RX5, "integral", "(I)J"⟩
abbrev cX5_gain : ByteArray := prog_1_method_18_code
def yX5_gain : MethodName := ⟨RX5, "gain", "(II)I"⟩
abbrev cX5_mode : ByteArray := prog_1_method_19_code
def yX5_mode : MethodName := ⟨RX5, "mode", "(I)I"⟩
abbrev cX5_wasStarved : ByteArray := prog_1_method_20_code
def yX5_wasStarved : MethodName := ⟨RX5, "wasStarved", "(I)Z"⟩
abbrev cX5_held : ByteArray := prog_1_method_21_code
def yX5_held : MethodName := ⟨RX5, "held", "(I)I"⟩
abbrev cX5_startRelay : ByteArray := prog_1_method_22_code
def yX5_startRelay : MethodName := ⟨RX5, "startRelay", "(III)V"⟩
abbrev cX5_experiment : ByteArray := prog_1_method_23_code
def yX5_experiment : MethodName := ⟨RX5, "experiment", "(I)I"⟩
abbrev cX5_period : ByteArray := prog_1_method_24_code
def yX5_period : MethodName := ⟨RX5, "period", "(I)I"⟩
abbrev cX5_swing : ByteArray := prog_1_method_25_code
def yX5_swing : MethodName := ⟨RX5, "swing", "(I)J"⟩
abbrev cX5_ultimateGain : ByteArray := prog_1_method_26_code
def yX5_ultimateGain : MethodName := ⟨RX5, "ultimateGain", "(I)I"⟩
abbrev cX5_proposed : ByteArray := prog_1_method_27_code
def yX5_proposed : MethodName := ⟨RX5, "proposed", "(III)I"⟩
abbrev cX5_loopAt : ByteArray := prog_1_method_28_code
def yX5_loopAt : MethodName := ⟨RX5, "loopAt", "(I)LControlBench$Loop;"⟩
abbrev cX5_requireGainNumber : ByteArray := prog_1_method_29_code
def yX5_requireGainNumber : MethodName := ⟨RX5, "requireGainNumber", "(I)V"⟩
abbrev cX5_requireGains : ByteArray := prog_1_method_30_code
def yX5_requireGains : MethodName := ⟨RX5, "requireGains", "(III)V"⟩
abbrev cX5_requireWithin : ByteArray := prog_1_method_31_code
def yX5_requireWithin : MethodName := ⟨RX5, "requireWithin", "(III)V"⟩
abbrev cX5_requireArgument : ByteArray := prog_1_method_32_code
def yX5_requireArgument : MethodName := ⟨RX5, "requireArgument", "(Z)V"⟩
abbrev cX5_requireState : ByteArray := prog_1_method_33_code
def yX5_requireState : MethodName := ⟨RX5, "requireState", "(Z)V"⟩
abbrev cX5_letOneSampleGoBy : ByteArray := prog_1_method_34_code
def yX5_letOneSampleGoBy : MethodName := ⟨RX5, "letOneSampleGoBy", "()V"⟩
abbrev cX5_takeTurn : ByteArray := prog_1_method_35_code
def yX5_takeTurn : MethodName := ⟨RX5, "takeTurn", "(I)V"⟩
abbrev cX5_hold : ByteArray := prog_1_method_36_code
def yX5_hold : MethodName := ⟨RX5, "hold", "(JJJ)J"⟩
def RX6 : String := "ControlBenchModel"
def TX6 : u_T := fun k => match k with
  | 0 => ("ControlBenchModel", "samples", "I", false)
  | 1 => ("ControlBenchModel", "a1", "[J", true)
  | 2 => ("ControlBenchModel", "a2", "[J", true)
  | 3 => ("ControlBenchModel", "b", "[J", true)
  | 4 => ("ControlBenchModel", "deadTime", "[I", true)
  | 5 => ("ControlBenchModel", "load", "[I", true)
  | 6 => ("ControlBenchModel", "measure", "[J", true)
  | 7 => ("ControlBenchModel", "before", "[J", true)
  | 8 => ("ControlBenchModel", "past", "[J", true)
  | 9 => ("ControlBenchModel", "gain", "[J", true)
  | 10 => ("ControlBenchModel", "low", "[J", true)
  | 11 => ("ControlBenchModel", "high", "[J", true)
  | 12 => ("ControlBenchModel", "setpoint", "[J", true)
  | 13 => ("ControlBenchModel", "integral", "[J", true)
  | 14 => ("ControlBenchModel", "guard", "[I", true)
  | 15 => ("ControlBenchModel", "share", "[I", true)
  | 16 => ("ControlBenchModel", "mode", "[I", true)
  | 17 => ("ControlBenchModel", "hand", "[J", true)
  | 18 => ("ControlBenchModel", "follows", "[Z", true)
  | 19 => ("ControlBenchModel", "hasMaster", "[Z", true)
  | 20 => ("ControlBenchModel", "isStarved", "[Z", true)
  | 21 => ("ControlBenchModel", "held", "[I", true)
  | 22 => ("ControlBenchModel", "sum", "[J", true)
  | 23 => ("ControlBenchModel", "lastError", "[J", true)
  | 24 => ("ControlBenchModel", "lastRate", "[J", true)
  | 25 => ("ControlBenchModel", "goesOn", "[Z", true)
  | 26 => ("ControlBenchModel", "points", "[I", true)
  | 27 => ("ControlBenchModel", "at", "[J", true)
  | 28 => ("ControlBenchModel", "then", "[J", true)
  | 29 => ("ControlBenchModel", "experiment", "[I", true)
  | 30 => ("ControlBenchModel", "center", "[J", true)
  | 31 => ("ControlBenchModel", "height", "[I", true)
  | 32 => ("ControlBenchModel", "band", "[I", true)
  | 33 => ("ControlBenchModel", "isUp", "[Z", true)
  | 34 => ("ControlBenchModel", "gone", "[I", true)
  | 35 => ("ControlBenchModel", "risings", "[I", true)
  | 36 => ("ControlBenchModel", "second", "[I", true)
  | 37 => ("ControlBenchModel", "greatest", "[J", true)
  | 38 => ("ControlBenchModel", "least", "[J", true)
  | 39 => ("ControlBenchModel", "period", "[I", true)
  | 40 => ("ControlBenchModel", "swing", "[J", true)
  | _ => ("ControlBenchModel", "thrown", "I", false)
def tyX6 : Nat → FieldType := fun k => match k with
  | 0 => .int
  | 1 => .array .long
  | 2 => .array .long
  | 3 => .array .long
  | 4 => .array .int
  | 5 => .array .int
  | 6 => .array .long
  | 7 => .array .long
  | 8 => .array .long
  | 9 => .array .long
  | 10 => .array .long
  | 11 => .array .long
  | 12 => .array .long
  | 13 => .array .long
  | 14 => .array .int
  | 15 => .array .int
  | 16 => .array .int
  | 17 => .array .long
  | 18 => .array .boolean
  | 19 => .array .boolean
  | 20 => .array .boolean
  | 21 => .array .int
  | 22 => .array .long
  | 23 => .array .long
  | 24 => .array .long
  | 25 => .array .boolean
  | 26 => .array .int
  | 27 => .array .long
  | 28 => .array .long
  | 29 => .array .int
  | 30 => .array .long
  | 31 => .array .int
  | 32 => .array .int
  | 33 => .array .boolean
  | 34 => .array .int
  | 35 => .array .int
  | 36 => .array .int
  | 37 => .array .long
  | 38 => .array .long
  | 39 => .array .int
  | 40 => .array .long
  | _ => .int
abbrev wsX60 : List Cond := u_ws RX6 TX6 42
theorem nmX6 : ∀ a, a < 42 → ∀ b, b < 42 → a ≠ b → (TX6 a).2.1 ≠ (TX6 b).2.1 := by decide +kernel
theorem tyX6_ok : ∀ k, k < 42 → parseFieldDescriptor (TX6 k).2.2.1 = some (tyX6 k) := by decide +kernel
abbrev cX6_init : ByteArray := prog_8_method_1_code
def yX6_init : MethodName := ⟨RX6, "<init>", "()V"⟩
abbrev cX6_thrown : ByteArray := prog_8_method_2_code
def yX6_thrown : MethodName := ⟨RX6, "thrown", "()I"⟩
abbrev cX6_can : ByteArray := prog_8_method_3_code
def yX6_can : MethodName := ⟨RX6, "can", "(I)Z"⟩
abbrev cX6_isLoop : ByteArray := prog_8_method_4_code
def yX6_isLoop : MethodName := ⟨RX6, "isLoop", "(I)Z"⟩
abbrev cX6_isIn : ByteArray := prog_8_method_5_code
def yX6_isIn : MethodName := ⟨RX6, "isIn", "(III)Z"⟩
abbrev cX6_floor : ByteArray := prog_8_method_6_code
def yX6_floor : MethodName := ⟨RX6, "floor", "(JJ)J"⟩
abbrev cX6_within : ByteArray := prog_8_method_7_code
def yX6_within : MethodName := ⟨RX6, "within", "(JJJ)J"⟩
abbrev cX6_areGains : ByteArray := prog_8_method_8_code
def yX6_areGains : MethodName := ⟨RX6, "areGains", "(III)Z"⟩
abbrev cX6_error : ByteArray := prog_8_method_9_code
def yX6_error : MethodName := ⟨RX6, "error", "(I)J"⟩
abbrev cX6_rate : ByteArray := prog_8_method_10_code
def yX6_rate : MethodName := ⟨RX6, "rate", "(I)J"⟩
abbrev cX6_latest : ByteArray := prog_8_method_11_code
def yX6_latest : MethodName := ⟨RX6, "latest", "(I)J"⟩
abbrev cX6_setPlant : ByteArray := prog_8_method_12_code
def yX6_setPlant : MethodName := ⟨RX6, "setPlant", "(IIIII)V"⟩
abbrev cX6_setLoad : ByteArray := prog_8_method_13_code
def yX6_setLoad : MethodName := ⟨RX6, "setLoad", "(II)I"⟩
abbrev cX6_changes : ByteArray := prog_8_method_14_code
def yX6_changes : MethodName := ⟨RX6, "changes", "(IJJJ)V"⟩
abbrev cX6_setGains : ByteArray := prog_8_method_15_code
def yX6_setGains : MethodName := ⟨RX6, "setGains", "(IIII)I"⟩
abbrev cX6_addPoint : ByteArray := prog_8_method_16_code
def yX6_addPoint : MethodName := ⟨RX6, "addPoint", "(IIIII)I"⟩
abbrev cX6_setLimits : ByteArray := prog_8_method_17_code
def yX6_setLimits : MethodName := ⟨RX6, "setLimits", "(III)V"⟩
abbrev cX6_setGuard : ByteArray := prog_8_method_18_code
def yX6_setGuard : MethodName := ⟨RX6, "setGuard", "(III)I"⟩
abbrev cX6_setSetpoint : ByteArray := prog_8_method_19_code
def yX6_setSetpoint : MethodName := ⟨RX6, "setSetpoint", "(II)I"⟩
abbrev cX6_setHand : ByteArray := prog_8_method_20_code
def yX6_setHand : MethodName := ⟨RX6, "setHand", "(II)I"⟩
abbrev cX6_setTies : ByteArray := prog_8_method_21_code
def yX6_setTies : MethodName := ⟨RX6, "setTies", "(IZZ)V"⟩
abbrev cX6_settle : ByteArray := prog_8_method_22_code
def yX6_settle : MethodName := ⟨RX6, "settle", "(IJ)V"⟩
abbrev cX6_setMode : ByteArray := prog_8_method_23_code
def yX6_setMode : MethodName := ⟨RX6, "setMode", "(II)I"⟩
abbrev cX6_schedules : ByteArray := prog_8_method_24_code
def yX6_schedules : MethodName := ⟨RX6, "schedules", "(I)V"⟩
abbrev cX6_controls : ByteArray := prog_8_method_25_code
def yX6_controls : MethodName := ⟨RX6, "controls", "(I)J"⟩
abbrev cX6_relays : ByteArray := prog_8_method_26_code
def yX6_relays : MethodName := ⟨RX6, "relays", "(I)J"⟩
abbrev cX6_starves : ByteArray := prog_8_method_27_code
def yX6_starves : MethodName := ⟨RX6, "starves", "(I)Z"⟩
abbrev cX6_puts : ByteArray := prog_8_method_28_code
def yX6_puts : MethodName := ⟨RX6, "puts", "(IJ)J"⟩
abbrev cX6_sample : ByteArray := prog_8_method_29_code
def yX6_sample : MethodName := ⟨RX6, "sample", "()V"⟩
abbrev cX6_run : ByteArray := prog_8_method_30_code
def yX6_run : MethodName := ⟨RX6, "run", "(I)I"⟩
abbrev cX6_isAsked : ByteArray := prog_8_method_31_code
def yX6_isAsked : MethodName := ⟨RX6, "isAsked", "(I)Z"⟩
abbrev cX6_measure : ByteArray := prog_8_method_32_code
def yX6_measure : MethodName := ⟨RX6, "measure", "(I)J"⟩
abbrev cX6_output : ByteArray := prog_8_method_33_code
def yX6_output : MethodName := ⟨RX6, "output", "(I)J"⟩
abbrev cX6_outputByIncrements : ByteArray := prog_8_method_34_code
def yX6_outputByIncrements : MethodName := ⟨RX6, "outputByIncrements", "(I)J"⟩
abbrev cX6_setpoint : ByteArray := prog_8_method_35_code
def yX6_setpoint : MethodName := ⟨RX6, "setpoint", "(I)J"⟩
abbrev cX6_integral : ByteArray := prog_8_method_36_code
def yX6_integral : MethodName := ⟨RX6, "integral", "(I)J"⟩
abbrev cX6_gain : ByteArray := prog_8_method_37_code
def yX6_gain : MethodName := ⟨RX6, "gain", "(II)I"⟩
abbrev cX6_mode : ByteArray := prog_8_method_38_code
def yX6_mode : MethodName := ⟨RX6, "mode", "(I)I"⟩
abbrev cX6_wasStarved : ByteArray := prog_8_method_39_code
def yX6_wasStarved : MethodName := ⟨RX6, "wasStarved", "(I)Z"⟩
abbrev cX6_held : ByteArray := prog_8_method_40_code
def yX6_held : MethodName := ⟨RX6, "held", "(I)I"⟩
abbrev cX6_startRelay : ByteArray := prog_8_method_41_code
def yX6_startRelay : MethodName := ⟨RX6, "startRelay", "(III)V"⟩
abbrev cX6_experiment : ByteArray := prog_8_method_42_code
def yX6_experiment : MethodName := ⟨RX6, "experiment", "(I)I"⟩
abbrev cX6_isDone : ByteArray := prog_8_method_43_code
def yX6_isDone : MethodName := ⟨RX6, "isDone", "(I)Z"⟩
abbrev cX6_period : ByteArray := prog_8_method_44_code
def yX6_period : MethodName := ⟨RX6, "period", "(I)I"⟩
abbrev cX6_swing : ByteArray := prog_8_method_45_code
def yX6_swing : MethodName := ⟨RX6, "swing", "(I)J"⟩
abbrev cX6_ultimate : ByteArray := prog_8_method_46_code
def yX6_ultimate : MethodName := ⟨RX6, "ultimate", "(I)J"⟩
abbrev cX6_ultimateGain : ByteArray := prog_8_method_47_code
def yX6_ultimateGain : MethodName := ⟨RX6, "ultimateGain", "(I)I"⟩
abbrev cX6_proposed : ByteArray := prog_8_method_48_code
def yX6_proposed : MethodName := ⟨RX6, "proposed", "(III)I"⟩
def RJ9 : String := "java/lang/Math"
def TJ9 : u_T := fun k => match k with
  | _ => ("", "", "", false)
def tyJ9 : Nat → FieldType := fun k => match k with
  | _ => .int
abbrev wsJ90 : List Cond := u_ws RJ9 TJ9 0
theorem nmJ9 : ∀ a, a < 0 → ∀ b, b < 0 → a ≠ b → (TJ9 a).2.1 ≠ (TJ9 b).2.1 := by decide +kernel
theorem tyJ9_ok : ∀ k, k < 0 → parseFieldDescriptor (TJ9 k).2.2.1 = some (tyJ9 k) := by decide +kernel
abbrev cJ9_floorDiv_f86c9 : ByteArray := prog_13_method_49_code
def yJ9_floorDiv_f86c9 : MethodName := ⟨RJ9, "floorDiv", "(JJ)J"⟩
abbrev cJ9_floorMod_7cf53 : ByteArray := prog_13_method_50_code
def yJ9_floorMod_7cf53 : MethodName := ⟨RJ9, "floorMod", "(II)I"⟩
abbrev cJ9_max_f86c9 : ByteArray := prog_13_method_66_code
def yJ9_max_f86c9 : MethodName := ⟨RJ9, "max", "(JJ)J"⟩
abbrev cJ9_min_7cf53 : ByteArray := prog_13_method_69_code
def yJ9_min_7cf53 : MethodName := ⟨RJ9, "min", "(II)I"⟩
abbrev cJ9_min_f86c9 : ByteArray := prog_13_method_70_code
def yJ9_min_f86c9 : MethodName := ⟨RJ9, "min", "(JJ)J"⟩
def RJ0 : String := "java/lang/String"
def TJ0 : u_T := fun k => match k with
  | _ => ("", "", "", false)
def tyJ0 : Nat → FieldType := fun k => match k with
  | _ => .int
abbrev wsJ00 : List Cond := u_ws RJ0 TJ0 0
theorem nmJ0 : ∀ a, a < 0 → ∀ b, b < 0 → a ≠ b → (TJ0 a).2.1 ≠ (TJ0 b).2.1 := by decide +kernel
theorem tyJ0_ok : ∀ k, k < 0 → parseFieldDescriptor (TJ0 k).2.2.1 = some (tyJ0 k) := by decide +kernel
def RL : String := "ControlBenchLaw"
abbrev cL_setPlant : ByteArray := method_3_code
def yL_setPlant : MethodName := ⟨RL, "setPlant", "(LControlBench;IIIII)I"⟩
abbrev cL_setLoad : ByteArray := method_4_code
def yL_setLoad : MethodName := ⟨RL, "setLoad", "(LControlBench;II[J)I"⟩
abbrev cL_setGains : ByteArray := method_5_code
def yL_setGains : MethodName := ⟨RL, "setGains", "(LControlBench;IIII[J)I"⟩
abbrev cL_addPoint : ByteArray := method_6_code
def yL_addPoint : MethodName := ⟨RL, "addPoint", "(LControlBench;IIIII[J)I"⟩
abbrev cL_setLimits : ByteArray := method_7_code
def yL_setLimits : MethodName := ⟨RL, "setLimits", "(LControlBench;III)I"⟩
abbrev cL_setGuard : ByteArray := method_8_code
def yL_setGuard : MethodName := ⟨RL, "setGuard", "(LControlBench;III[J)I"⟩
abbrev cL_setSetpoint : ByteArray := method_9_code
def yL_setSetpoint : MethodName := ⟨RL, "setSetpoint", "(LControlBench;II[J)I"⟩
abbrev cL_setHand : ByteArray := method_10_code
def yL_setHand : MethodName := ⟨RL, "setHand", "(LControlBench;II[J)I"⟩
abbrev cL_setTies : ByteArray := method_11_code
def yL_setTies : MethodName := ⟨RL, "setTies", "(LControlBench;IZZ)I"⟩
abbrev cL_setMode : ByteArray := method_12_code
def yL_setMode : MethodName := ⟨RL, "setMode", "(LControlBench;II[J)I"⟩
abbrev cL_run : ByteArray := method_13_code
def yL_run : MethodName := ⟨RL, "run", "(LControlBench;I[J)I"⟩
abbrev cL_measure : ByteArray := method_14_code
def yL_measure : MethodName := ⟨RL, "measure", "(LControlBench;I[J)I"⟩
abbrev cL_output : ByteArray := method_15_code
def yL_output : MethodName := ⟨RL, "output", "(LControlBench;I[J)I"⟩
abbrev cL_outputByIncrements : ByteArray := method_16_code
def yL_outputByIncrements : MethodName := ⟨RL, "outputByIncrements", "(LControlBench;I[J)I"⟩
abbrev cL_setpoint : ByteArray := method_17_code
def yL_setpoint : MethodName := ⟨RL, "setpoint", "(LControlBench;I[J)I"⟩
abbrev cL_integral : ByteArray := method_18_code
def yL_integral : MethodName := ⟨RL, "integral", "(LControlBench;I[J)I"⟩
abbrev cL_gain : ByteArray := method_19_code
def yL_gain : MethodName := ⟨RL, "gain", "(LControlBench;II[J)I"⟩
abbrev cL_mode : ByteArray := method_20_code
def yL_mode : MethodName := ⟨RL, "mode", "(LControlBench;I[J)I"⟩
abbrev cL_wasStarved : ByteArray := method_21_code
def yL_wasStarved : MethodName := ⟨RL, "wasStarved", "(LControlBench;I[J)I"⟩
abbrev cL_held : ByteArray := method_22_code
def yL_held : MethodName := ⟨RL, "held", "(LControlBench;I[J)I"⟩
abbrev cL_startRelay : ByteArray := method_23_code
def yL_startRelay : MethodName := ⟨RL, "startRelay", "(LControlBench;III)I"⟩
abbrev cL_experiment : ByteArray := method_24_code
def yL_experiment : MethodName := ⟨RL, "experiment", "(LControlBench;I[J)I"⟩
abbrev cL_period : ByteArray := method_25_code
def yL_period : MethodName := ⟨RL, "period", "(LControlBench;I[J)I"⟩
abbrev cL_swing : ByteArray := method_26_code
def yL_swing : MethodName := ⟨RL, "swing", "(LControlBench;I[J)I"⟩
abbrev cL_ultimateGain : ByteArray := method_27_code
def yL_ultimateGain : MethodName := ⟨RL, "ultimateGain", "(LControlBench;I[J)I"⟩
abbrev cL_proposed : ByteArray := method_28_code
def yL_proposed : MethodName := ⟨RL, "proposed", "(LControlBench;III[J)I"⟩
abbrev cL_law : ByteArray := code
def yL_law : MethodName := ⟨RL, "law", "([I)Z"⟩
def wsX0_init : List Cond := .code yX0_init cX0_init 2 none :: ([.methodLink RX0 1 objectInit, .instanceMethod objectInit, .code objectInit ⟨#[0xb1]⟩ 1 none, .fieldLink RX0 7 "ControlBench$Controller" "p" "I", .fieldLink RX0 13 "ControlBench$Controller" "i" "I", .constant RX0 16 (100000), .fieldLink RX0 17 "ControlBench$Controller" "high" "I", .fieldLink RX0 20 "ControlBench$Controller" "share" "I", .fieldLink RX0 23 "ControlBench$Controller" "plant" "LControlBench$Plant;"] ++ wsX00)
def wsX0_error : List Cond := .code yX0_error cX0_error 1 (some .long) :: ([.fieldLink RX0 27 "ControlBench$Controller" "setpoint" "J", .fieldLink RX0 23 "ControlBench$Controller" "plant" "LControlBench$Plant;", .fieldLink RX0 31 "ControlBench$Plant" "measure" "J"] ++ wsX00 ++ wsX20)
def wsX0_rate : List Cond := .code yX0_rate cX0_rate 1 (some .long) :: ([.fieldLink RX0 23 "ControlBench$Controller" "plant" "LControlBench$Plant;", .fieldLink RX0 36 "ControlBench$Plant" "measureBefore" "J", .fieldLink RX0 31 "ControlBench$Plant" "measure" "J"] ++ wsX00 ++ wsX20)
def wsX5_hold : List Cond := .code yX5_hold cX5_hold 6 (some .long) :: ([.methodLink RX5 196 Lib.MathLoose.min_long.x, .static Lib.MathLoose.min_long.x, .initialized "java/lang/Math", .code Lib.MathLoose.min_long.x Lib.MathLoose.min_long.code 4 (some .long), .methodLink RX5 253 Lib.MathLoose.max_long.x, .static Lib.MathLoose.max_long.x, .code Lib.MathLoose.max_long.x Lib.MathLoose.max_long.code 4 (some .long)])
def wsX0_withinLimits : List Cond := .code yX0_withinLimits cX0_withinLimits 3 (some .long) :: ([.fieldLink RX0 39 "ControlBench$Controller" "low" "I", .fieldLink RX0 17 "ControlBench$Controller" "high" "I", .static yX5_hold, .initialized RX5, .code yX5_hold cX5_hold 6 (some .long), .methodLink RX5 196 Lib.MathLoose.min_long.x, .static Lib.MathLoose.min_long.x, .initialized "java/lang/Math", .code Lib.MathLoose.min_long.x Lib.MathLoose.min_long.code 4 (some .long), .methodLink RX5 253 Lib.MathLoose.max_long.x, .static Lib.MathLoose.max_long.x, .code Lib.MathLoose.max_long.x Lib.MathLoose.max_long.code 4 (some .long)] ++ wsX00)
def wsX0_changeGains : List Cond := .code yX0_changeGains cX0_changeGains 4 none :: ([.fieldLink RX0 48 "ControlBench$Controller" "integral" "J", .fieldLink RX0 7 "ControlBench$Controller" "p" "I", .fieldLink RX0 55 "ControlBench$Controller" "d" "I", .fieldLink RX0 13 "ControlBench$Controller" "i" "I", .methodLink RX0 51 yX0_error, .instanceMethod yX0_error, .selects RX0 yX0_error yX0_error, .initialized RX0, .code yX0_error cX0_error 1 (some .long), .fieldLink RX0 27 "ControlBench$Controller" "setpoint" "J", .fieldLink RX0 23 "ControlBench$Controller" "plant" "LControlBench$Plant;", .fieldLink RX0 31 "ControlBench$Plant" "measure" "J", .methodLink RX0 58 yX0_rate, .instanceMethod yX0_rate, .selects RX0 yX0_rate yX0_rate, .code yX0_rate cX0_rate 1 (some .long), .fieldLink RX0 36 "ControlBench$Plant" "measureBefore" "J"] ++ wsX00 ++ wsX20)
def wsX0_settle : List Cond := .code yX0_settle cX0_settle 3 none :: ([.constantLong RX0 61 (1000), .fieldLink RX0 7 "ControlBench$Controller" "p" "I", .fieldLink RX0 55 "ControlBench$Controller" "d" "I", .fieldLink RX0 48 "ControlBench$Controller" "integral" "J", .fieldLink RX0 63 "ControlBench$Controller" "goesOn" "Z", .methodLink RX0 51 yX0_error, .instanceMethod yX0_error, .selects RX0 yX0_error yX0_error, .initialized RX0, .code yX0_error cX0_error 1 (some .long), .fieldLink RX0 27 "ControlBench$Controller" "setpoint" "J", .fieldLink RX0 23 "ControlBench$Controller" "plant" "LControlBench$Plant;", .fieldLink RX0 31 "ControlBench$Plant" "measure" "J", .methodLink RX0 58 yX0_rate, .instanceMethod yX0_rate, .selects RX0 yX0_rate yX0_rate, .code yX0_rate cX0_rate 1 (some .long), .fieldLink RX0 36 "ControlBench$Plant" "measureBefore" "J"] ++ wsX00 ++ wsX20)
def wsX0_countIncrements : List Cond := .code yX0_countIncrements cX0_countIncrements 7 none :: ([.fieldLink RX0 63 "ControlBench$Controller" "goesOn" "Z", .fieldLink RX0 87 "ControlBench$Controller" "sumByIncrements" "J", .fieldLink RX0 7 "ControlBench$Controller" "p" "I", .fieldLink RX0 90 "ControlBench$Controller" "latestError" "J", .fieldLink RX0 13 "ControlBench$Controller" "i" "I", .fieldLink RX0 55 "ControlBench$Controller" "d" "I", .fieldLink RX0 93 "ControlBench$Controller" "latestRate" "J"] ++ wsX00)
def wsJ9_floorDiv_f86c9 : List Cond := .code yJ9_floorDiv_f86c9 cJ9_floorDiv_f86c9 6 (some .long) :: ([])
def wsX0_guardAgainstWindup : List Cond := .code yX0_guardAgainstWindup cX0_guardAgainstWindup 8 none :: ([.fieldLink RX0 96 "ControlBench$Controller" "guard" "I", .fieldLink RX0 17 "ControlBench$Controller" "high" "I", .fieldLink RX0 39 "ControlBench$Controller" "low" "I", .fieldLink RX0 48 "ControlBench$Controller" "integral" "J", .fieldLink RX0 13 "ControlBench$Controller" "i" "I", .fieldLink RX0 20 "ControlBench$Controller" "share" "I"] ++ wsX00)
def wsX0_automaticSample_r1 : List Cond := [Cond.fieldLink RX0 48 "ControlBench$Controller" "integral" "J", Cond.fieldLink RX0 13 "ControlBench$Controller" "i" "I", Cond.fieldLink RX0 7 "ControlBench$Controller" "p" "I", Cond.fieldLink RX0 55 "ControlBench$Controller" "d" "I", Cond.constantLong RX0 61 (1000), Cond.fieldLink RX0 81 "ControlBench$Controller" "heldSamples" "I", Cond.methodLink RX0 51 yX0_error, Cond.instanceMethod yX0_error, Cond.selects RX0 yX0_error yX0_error, Cond.initialized RX0, Cond.code yX0_error cX0_error 1 (some .long), Cond.fieldLink RX0 27 "ControlBench$Controller" "setpoint" "J", Cond.fieldLink RX0 23 "ControlBench$Controller" "plant" "LControlBench$Plant;", Cond.fieldLink RX0 31 "ControlBench$Plant" "measure" "J", Cond.methodLink RX0 58 yX0_rate, Cond.instanceMethod yX0_rate, Cond.selects RX0 yX0_rate yX0_rate, Cond.code yX0_rate cX0_rate 1 (some .long), Cond.fieldLink RX0 36 "ControlBench$Plant" "measureBefore" "J", Cond.methodLink RX0 67 yX0_countIncrements, Cond.instanceMethod yX0_countIncrements, Cond.selects RX0 yX0_countIncrements yX0_countIncrements, Cond.code yX0_countIncrements cX0_countIncrements 7 none, Cond.fieldLink RX0 63 "ControlBench$Controller" "goesOn" "Z"]
def wsX0_automaticSample_r2 : List Cond := [Cond.fieldLink RX0 87 "ControlBench$Controller" "sumByIncrements" "J", Cond.fieldLink RX0 90 "ControlBench$Controller" "latestError" "J", Cond.fieldLink RX0 93 "ControlBench$Controller" "latestRate" "J", Cond.methodLink RX0 71 yJ9_floorDiv_f86c9, Cond.static yJ9_floorDiv_f86c9, Cond.initialized RJ9, Cond.code yJ9_floorDiv_f86c9 cJ9_floorDiv_f86c9 6 (some .long), Cond.methodLink RX0 77 yX0_withinLimits, Cond.instanceMethod yX0_withinLimits, Cond.selects RX0 yX0_withinLimits yX0_withinLimits, Cond.code yX0_withinLimits cX0_withinLimits 3 (some .long), Cond.fieldLink RX0 39 "ControlBench$Controller" "low" "I", Cond.fieldLink RX0 17 "ControlBench$Controller" "high" "I", Cond.static yX5_hold, Cond.initialized RX5, Cond.code yX5_hold cX5_hold 6 (some .long), Cond.methodLink RX5 196 Lib.MathLoose.min_long.x, Cond.static Lib.MathLoose.min_long.x, Cond.initialized "java/lang/Math", Cond.code Lib.MathLoose.min_long.x Lib.MathLoose.min_long.code 4 (some .long), Cond.methodLink RX5 253 Lib.MathLoose.max_long.x, Cond.static Lib.MathLoose.max_long.x, Cond.code Lib.MathLoose.max_long.x Lib.MathLoose.max_long.code 4 (some .long), Cond.methodLink RX0 84 yX0_guardAgainstWindup]
def wsX0_automaticSample_r3 : List Cond := [Cond.instanceMethod yX0_guardAgainstWindup, Cond.selects RX0 yX0_guardAgainstWindup yX0_guardAgainstWindup, Cond.code yX0_guardAgainstWindup cX0_guardAgainstWindup 8 none, Cond.fieldLink RX0 96 "ControlBench$Controller" "guard" "I", Cond.fieldLink RX0 20 "ControlBench$Controller" "share" "I"]
def wsX0_automaticSample : List Cond := .code yX0_automaticSample cX0_automaticSample 11 (some .long) :: ((wsX0_automaticSample_r1 ++ (wsX0_automaticSample_r2 ++ wsX0_automaticSample_r3)) ++ wsX00 ++ wsX20)
def wsX2_init : List Cond := .code yX2_init cX2_init 1 none :: ([.methodLink RX2 3 objectInit, .instanceMethod objectInit, .code objectInit ⟨#[0xb1]⟩ 1 none, .fieldLink RX2 9 "ControlBench$Plant" "a1" "I", .fieldLink RX2 15 "ControlBench$Plant" "b" "I", .arrayClass .long, .fieldLink RX2 18 "ControlBench$Plant" "outputs" "[J"] ++ wsX20)
def wsX4_init : List Cond := .code yX4_init cX4_init 1 none :: ([.methodLink RX4 1 objectInit, .instanceMethod objectInit, .code objectInit ⟨#[0xb1]⟩ 1 none, .arrayClass .int, .fieldLink RX4 9 "ControlBench$Schedule" "measures" "[I", .fieldLink RX4 13 "ControlBench$Schedule" "ps" "[I", .fieldLink RX4 16 "ControlBench$Schedule" "is" "[I", .fieldLink RX4 19 "ControlBench$Schedule" "ds" "[I"] ++ wsX40)
def wsX3_init : List Cond := .code yX3_init cX3_init 1 none :: ([.methodLink RX3 1 objectInit, .instanceMethod objectInit, .code objectInit ⟨#[0xb1]⟩ 1 none])
def wsX1_init_r1 : List Cond := [Cond.methodLink RX1 3 objectInit, Cond.instanceMethod objectInit, Cond.code objectInit ⟨#[0xb1]⟩ 1 none, Cond.classLink RX1 9 RX2, Cond.instantiable RX2 9, Cond.initialized RX2, Cond.fieldLink RX1 12 "ControlBench$Loop" "plant" "LControlBench$Plant;", Cond.classLink RX1 18 RX0, Cond.instantiable RX0 15, Cond.initialized RX0, Cond.fieldLink RX1 23 "ControlBench$Loop" "controller" "LControlBench$Controller;", Cond.classLink RX1 27 RX4, Cond.instantiable RX4 5, Cond.initialized RX4, Cond.fieldLink RX1 30 "ControlBench$Loop" "schedule" "LControlBench$Schedule;", Cond.classLink RX1 34 RX3, Cond.instantiable RX3 12, Cond.initialized RX3, Cond.fieldLink RX1 37 "ControlBench$Loop" "relay" "LControlBench$Relay;", Cond.fieldLink RX1 41 "ControlBench$Loop" "mode" "I", Cond.instanceMethod yX2_init, Cond.code yX2_init cX2_init 1 none, Cond.methodLink RX2 3 objectInit, Cond.fieldLink RX2 9 "ControlBench$Plant" "a1" "I"]
def wsX1_init_r2 : List Cond := [Cond.fieldLink RX2 15 "ControlBench$Plant" "b" "I", Cond.arrayClass .long, Cond.fieldLink RX2 18 "ControlBench$Plant" "outputs" "[J", Cond.methodLink RX1 20 yX0_init, Cond.instanceMethod yX0_init, Cond.code yX0_init cX0_init 2 none, Cond.methodLink RX0 1 objectInit, Cond.fieldLink RX0 7 "ControlBench$Controller" "p" "I", Cond.fieldLink RX0 13 "ControlBench$Controller" "i" "I", Cond.constant RX0 16 (100000), Cond.fieldLink RX0 17 "ControlBench$Controller" "high" "I", Cond.fieldLink RX0 20 "ControlBench$Controller" "share" "I", Cond.fieldLink RX0 23 "ControlBench$Controller" "plant" "LControlBench$Plant;", Cond.instanceMethod yX4_init, Cond.code yX4_init cX4_init 1 none, Cond.methodLink RX4 1 objectInit, Cond.arrayClass .int, Cond.fieldLink RX4 9 "ControlBench$Schedule" "measures" "[I", Cond.fieldLink RX4 13 "ControlBench$Schedule" "ps" "[I", Cond.fieldLink RX4 16 "ControlBench$Schedule" "is" "[I", Cond.fieldLink RX4 19 "ControlBench$Schedule" "ds" "[I", Cond.instanceMethod yX3_init, Cond.code yX3_init cX3_init 1 none, Cond.methodLink RX3 1 objectInit]
def wsX1_init : List Cond := .code yX1_init cX1_init 1 none :: ((wsX1_init_r1 ++ wsX1_init_r2) ++ wsX20 ++ wsX10 ++ wsX00 ++ wsX40 ++ wsX30)
def wsX3_giveUp : List Cond := .code yX3_giveUp cX3_giveUp 1 none :: ([.fieldLink RX3 9 "ControlBench$Relay" "progress" "I"] ++ wsX30)
def wsX1_goToHand : List Cond := .code yX1_goToHand cX1_goToHand 1 none :: ([.fieldLink RX1 48 "ControlBench$Loop" "output" "J", .fieldLink RX1 56 "ControlBench$Loop" "handValue" "J", .fieldLink RX1 41 "ControlBench$Loop" "mode" "I", .fieldLink RX1 37 "ControlBench$Loop" "relay" "LControlBench$Relay;", .methodLink RX1 59 yX3_giveUp, .instanceMethod yX3_giveUp, .selects RX3 yX3_giveUp yX3_giveUp, .initialized RX3, .code yX3_giveUp cX3_giveUp 1 none, .fieldLink RX3 9 "ControlBench$Relay" "progress" "I"] ++ wsX10 ++ wsX30)
def wsX1_changeMode_r1 : List Cond := [Cond.fieldLink RX1 41 "ControlBench$Loop" "mode" "I", Cond.fieldLink RX1 23 "ControlBench$Loop" "controller" "LControlBench$Controller;", Cond.fieldLink RX1 48 "ControlBench$Loop" "output" "J", Cond.methodLink RX1 45 yX1_goToHand, Cond.instanceMethod yX1_goToHand, Cond.selects RX1 yX1_goToHand yX1_goToHand, Cond.initialized RX1, Cond.code yX1_goToHand cX1_goToHand 1 none, Cond.fieldLink RX1 56 "ControlBench$Loop" "handValue" "J", Cond.fieldLink RX1 37 "ControlBench$Loop" "relay" "LControlBench$Relay;", Cond.methodLink RX1 59 yX3_giveUp, Cond.instanceMethod yX3_giveUp, Cond.selects RX3 yX3_giveUp yX3_giveUp, Cond.initialized RX3, Cond.code yX3_giveUp cX3_giveUp 1 none, Cond.fieldLink RX3 9 "ControlBench$Relay" "progress" "I", Cond.methodLink RX1 52 yX0_settle, Cond.instanceMethod yX0_settle, Cond.selects RX0 yX0_settle yX0_settle, Cond.initialized RX0, Cond.code yX0_settle cX0_settle 3 none, Cond.constantLong RX0 61 (1000), Cond.fieldLink RX0 7 "ControlBench$Controller" "p" "I", Cond.fieldLink RX0 55 "ControlBench$Controller" "d" "I"]
def wsX1_changeMode_r2 : List Cond := [Cond.fieldLink RX0 48 "ControlBench$Controller" "integral" "J", Cond.fieldLink RX0 63 "ControlBench$Controller" "goesOn" "Z", Cond.methodLink RX0 51 yX0_error, Cond.instanceMethod yX0_error, Cond.selects RX0 yX0_error yX0_error, Cond.code yX0_error cX0_error 1 (some .long), Cond.fieldLink RX0 27 "ControlBench$Controller" "setpoint" "J", Cond.fieldLink RX0 23 "ControlBench$Controller" "plant" "LControlBench$Plant;", Cond.fieldLink RX0 31 "ControlBench$Plant" "measure" "J", Cond.methodLink RX0 58 yX0_rate, Cond.instanceMethod yX0_rate, Cond.selects RX0 yX0_rate yX0_rate, Cond.code yX0_rate cX0_rate 1 (some .long), Cond.fieldLink RX0 36 "ControlBench$Plant" "measureBefore" "J"]
def wsX1_changeMode : List Cond := .code yX1_changeMode cX1_changeMode 2 none :: ((wsX1_changeMode_r1 ++ wsX1_changeMode_r2) ++ wsX10 ++ wsX30 ++ wsX00 ++ wsX20)
def wsX1_isStarvedBy : List Cond := .code yX1_isStarvedBy cX1_isStarvedBy 3 (some .boolean) :: ([.fieldLink RX1 41 "ControlBench$Loop" "mode" "I", .fieldLink RX1 62 "ControlBench$Loop" "hasMaster" "Z"] ++ wsX10)
def wsX1_giveWay_r1 : List Cond := [Cond.fieldLink RX1 66 "ControlBench$Loop" "starved" "Z", Cond.fieldLink RX1 23 "ControlBench$Loop" "controller" "LControlBench$Controller;", Cond.fieldLink RX1 48 "ControlBench$Loop" "output" "J", Cond.methodLink RX1 69 yX0_withinLimits, Cond.instanceMethod yX0_withinLimits, Cond.selects RX0 yX0_withinLimits yX0_withinLimits, Cond.initialized RX0, Cond.code yX0_withinLimits cX0_withinLimits 3 (some .long), Cond.fieldLink RX0 39 "ControlBench$Controller" "low" "I", Cond.fieldLink RX0 17 "ControlBench$Controller" "high" "I", Cond.static yX5_hold, Cond.initialized RX5, Cond.code yX5_hold cX5_hold 6 (some .long), Cond.methodLink RX5 196 Lib.MathLoose.min_long.x, Cond.static Lib.MathLoose.min_long.x, Cond.initialized "java/lang/Math", Cond.code Lib.MathLoose.min_long.x Lib.MathLoose.min_long.code 4 (some .long), Cond.methodLink RX5 253 Lib.MathLoose.max_long.x, Cond.static Lib.MathLoose.max_long.x, Cond.code Lib.MathLoose.max_long.x Lib.MathLoose.max_long.code 4 (some .long), Cond.methodLink RX1 52 yX0_settle, Cond.instanceMethod yX0_settle, Cond.selects RX0 yX0_settle yX0_settle, Cond.code yX0_settle cX0_settle 3 none]
def wsX1_giveWay_r2 : List Cond := [Cond.constantLong RX0 61 (1000), Cond.fieldLink RX0 7 "ControlBench$Controller" "p" "I", Cond.fieldLink RX0 55 "ControlBench$Controller" "d" "I", Cond.fieldLink RX0 48 "ControlBench$Controller" "integral" "J", Cond.fieldLink RX0 63 "ControlBench$Controller" "goesOn" "Z", Cond.methodLink RX0 51 yX0_error, Cond.instanceMethod yX0_error, Cond.selects RX0 yX0_error yX0_error, Cond.code yX0_error cX0_error 1 (some .long), Cond.fieldLink RX0 27 "ControlBench$Controller" "setpoint" "J", Cond.fieldLink RX0 23 "ControlBench$Controller" "plant" "LControlBench$Plant;", Cond.fieldLink RX0 31 "ControlBench$Plant" "measure" "J", Cond.methodLink RX0 58 yX0_rate, Cond.instanceMethod yX0_rate, Cond.selects RX0 yX0_rate yX0_rate, Cond.code yX0_rate cX0_rate 1 (some .long), Cond.fieldLink RX0 36 "ControlBench$Plant" "measureBefore" "J"]
def wsX1_giveWay : List Cond := .code yX1_giveWay cX1_giveWay 3 none :: ((wsX1_giveWay_r1 ++ wsX1_giveWay_r2) ++ wsX10 ++ wsX00 ++ wsX20)
def wsX1_actByHand : List Cond := .code yX1_actByHand cX1_actByHand 1 none :: ([.fieldLink RX1 73 "ControlBench$Loop" "follows" "Z", .fieldLink RX1 23 "ControlBench$Loop" "controller" "LControlBench$Controller;", .fieldLink RX1 12 "ControlBench$Loop" "plant" "LControlBench$Plant;", .fieldLink RX1 76 "ControlBench$Plant" "measure" "J", .fieldLink RX1 79 "ControlBench$Controller" "setpoint" "J", .fieldLink RX1 56 "ControlBench$Loop" "handValue" "J", .fieldLink RX1 48 "ControlBench$Loop" "output" "J", .methodLink RX1 69 yX0_withinLimits, .instanceMethod yX0_withinLimits, .selects RX0 yX0_withinLimits yX0_withinLimits, .initialized RX0, .code yX0_withinLimits cX0_withinLimits 3 (some .long), .fieldLink RX0 39 "ControlBench$Controller" "low" "I", .fieldLink RX0 17 "ControlBench$Controller" "high" "I", .static yX5_hold, .initialized RX5, .code yX5_hold cX5_hold 6 (some .long), .methodLink RX5 196 Lib.MathLoose.min_long.x, .static Lib.MathLoose.min_long.x, .initialized "java/lang/Math", .code Lib.MathLoose.min_long.x Lib.MathLoose.min_long.code 4 (some .long), .methodLink RX5 253 Lib.MathLoose.max_long.x, .static Lib.MathLoose.max_long.x, .code Lib.MathLoose.max_long.x Lib.MathLoose.max_long.code 4 (some .long)] ++ wsX10 ++ wsX20 ++ wsX00)
def wsX4_hasPoints : List Cond := .code yX4_hasPoints cX4_hasPoints 1 (some .boolean) :: ([.fieldLink RX4 22 "ControlBench$Schedule" "points" "I"] ++ wsX40)
def wsX4_pointsReached : List Cond := .code yX4_pointsReached cX4_pointsReached 4 (some .int) :: ([.fieldLink RX4 22 "ControlBench$Schedule" "points" "I", .fieldLink RX4 9 "ControlBench$Schedule" "measures" "[I"] ++ wsX40)
def wsX4_gainAt : List Cond := .code yX4_gainAt cX4_gainAt 10 (some .int) :: ([.fieldLink RX4 22 "ControlBench$Schedule" "points" "I", .methodLink RX4 30 Lib.Math.min.name, .static Lib.Math.min.name, .initialized "java/lang/Math", .code Lib.Math.min.name Lib.Math.min.code 2 (some .int), .fieldLink RX4 9 "ControlBench$Schedule" "measures" "[I", .methodLink RX4 36 yJ9_floorDiv_f86c9, .static yJ9_floorDiv_f86c9, .initialized RJ9, .code yJ9_floorDiv_f86c9 cJ9_floorDiv_f86c9 6 (some .long)] ++ wsX40)
def wsX4_pAt : List Cond := .code yX4_pAt cX4_pAt 4 (some .int) :: ([.fieldLink RX4 13 "ControlBench$Schedule" "ps" "[I", .methodLink RX4 26 yX4_gainAt, .instanceMethod yX4_gainAt, .selects RX4 yX4_gainAt yX4_gainAt, .initialized RX4, .code yX4_gainAt cX4_gainAt 10 (some .int), .fieldLink RX4 22 "ControlBench$Schedule" "points" "I", .methodLink RX4 30 Lib.Math.min.name, .static Lib.Math.min.name, .initialized "java/lang/Math", .code Lib.Math.min.name Lib.Math.min.code 2 (some .int), .fieldLink RX4 9 "ControlBench$Schedule" "measures" "[I", .methodLink RX4 36 yJ9_floorDiv_f86c9, .static yJ9_floorDiv_f86c9, .initialized RJ9, .code yJ9_floorDiv_f86c9 cJ9_floorDiv_f86c9 6 (some .long)] ++ wsX40)
def wsX4_iAt : List Cond := .code yX4_iAt cX4_iAt 4 (some .int) :: ([.fieldLink RX4 16 "ControlBench$Schedule" "is" "[I", .methodLink RX4 26 yX4_gainAt, .instanceMethod yX4_gainAt, .selects RX4 yX4_gainAt yX4_gainAt, .initialized RX4, .code yX4_gainAt cX4_gainAt 10 (some .int), .fieldLink RX4 22 "ControlBench$Schedule" "points" "I", .methodLink RX4 30 Lib.Math.min.name, .static Lib.Math.min.name, .initialized "java/lang/Math", .code Lib.Math.min.name Lib.Math.min.code 2 (some .int), .fieldLink RX4 9 "ControlBench$Schedule" "measures" "[I", .methodLink RX4 36 yJ9_floorDiv_f86c9, .static yJ9_floorDiv_f86c9, .initialized RJ9, .code yJ9_floorDiv_f86c9 cJ9_floorDiv_f86c9 6 (some .long)] ++ wsX40)
def wsX4_dAt : List Cond := .code yX4_dAt cX4_dAt 4 (some .int) :: ([.fieldLink RX4 19 "ControlBench$Schedule" "ds" "[I", .methodLink RX4 26 yX4_gainAt, .instanceMethod yX4_gainAt, .selects RX4 yX4_gainAt yX4_gainAt, .initialized RX4, .code yX4_gainAt cX4_gainAt 10 (some .int), .fieldLink RX4 22 "ControlBench$Schedule" "points" "I", .methodLink RX4 30 Lib.Math.min.name, .static Lib.Math.min.name, .initialized "java/lang/Math", .code Lib.Math.min.name Lib.Math.min.code 2 (some .int), .fieldLink RX4 9 "ControlBench$Schedule" "measures" "[I", .methodLink RX4 36 yJ9_floorDiv_f86c9, .static yJ9_floorDiv_f86c9, .initialized RJ9, .code yJ9_floorDiv_f86c9 cJ9_floorDiv_f86c9 6 (some .long)] ++ wsX40)
def wsX1_actAutomatically_r1 : List Cond := [Cond.fieldLink RX1 30 "ControlBench$Loop" "schedule" "LControlBench$Schedule;", Cond.fieldLink RX1 12 "ControlBench$Loop" "plant" "LControlBench$Plant;", Cond.fieldLink RX1 76 "ControlBench$Plant" "measure" "J", Cond.fieldLink RX1 23 "ControlBench$Loop" "controller" "LControlBench$Controller;", Cond.fieldLink RX1 48 "ControlBench$Loop" "output" "J", Cond.methodLink RX1 82 yX4_hasPoints, Cond.instanceMethod yX4_hasPoints, Cond.selects RX4 yX4_hasPoints yX4_hasPoints, Cond.initialized RX4, Cond.code yX4_hasPoints cX4_hasPoints 1 (some .boolean), Cond.fieldLink RX4 22 "ControlBench$Schedule" "points" "I", Cond.methodLink RX1 86 yX4_pointsReached, Cond.instanceMethod yX4_pointsReached, Cond.selects RX4 yX4_pointsReached yX4_pointsReached, Cond.code yX4_pointsReached cX4_pointsReached 4 (some .int), Cond.fieldLink RX4 9 "ControlBench$Schedule" "measures" "[I", Cond.methodLink RX1 90 yX4_pAt, Cond.instanceMethod yX4_pAt, Cond.selects RX4 yX4_pAt yX4_pAt, Cond.code yX4_pAt cX4_pAt 4 (some .int), Cond.fieldLink RX4 13 "ControlBench$Schedule" "ps" "[I", Cond.methodLink RX4 26 yX4_gainAt, Cond.instanceMethod yX4_gainAt, Cond.selects RX4 yX4_gainAt yX4_gainAt]
def wsX1_actAutomatically_r2 : List Cond := [Cond.code yX4_gainAt cX4_gainAt 10 (some .int), Cond.methodLink RX4 30 Lib.Math.min.name, Cond.static Lib.Math.min.name, Cond.initialized "java/lang/Math", Cond.code Lib.Math.min.name Lib.Math.min.code 2 (some .int), Cond.methodLink RX4 36 yJ9_floorDiv_f86c9, Cond.static yJ9_floorDiv_f86c9, Cond.initialized RJ9, Cond.code yJ9_floorDiv_f86c9 cJ9_floorDiv_f86c9 6 (some .long), Cond.methodLink RX1 94 yX4_iAt, Cond.instanceMethod yX4_iAt, Cond.selects RX4 yX4_iAt yX4_iAt, Cond.code yX4_iAt cX4_iAt 4 (some .int), Cond.fieldLink RX4 16 "ControlBench$Schedule" "is" "[I", Cond.methodLink RX1 97 yX4_dAt, Cond.instanceMethod yX4_dAt, Cond.selects RX4 yX4_dAt yX4_dAt, Cond.code yX4_dAt cX4_dAt 4 (some .int), Cond.fieldLink RX4 19 "ControlBench$Schedule" "ds" "[I", Cond.methodLink RX1 100 yX0_changeGains, Cond.instanceMethod yX0_changeGains, Cond.selects RX0 yX0_changeGains yX0_changeGains, Cond.initialized RX0, Cond.code yX0_changeGains cX0_changeGains 4 none]
def wsX1_actAutomatically_r3 : List Cond := [Cond.fieldLink RX0 48 "ControlBench$Controller" "integral" "J", Cond.fieldLink RX0 7 "ControlBench$Controller" "p" "I", Cond.fieldLink RX0 55 "ControlBench$Controller" "d" "I", Cond.fieldLink RX0 13 "ControlBench$Controller" "i" "I", Cond.methodLink RX0 51 yX0_error, Cond.instanceMethod yX0_error, Cond.selects RX0 yX0_error yX0_error, Cond.code yX0_error cX0_error 1 (some .long), Cond.fieldLink RX0 27 "ControlBench$Controller" "setpoint" "J", Cond.fieldLink RX0 23 "ControlBench$Controller" "plant" "LControlBench$Plant;", Cond.fieldLink RX0 31 "ControlBench$Plant" "measure" "J", Cond.methodLink RX0 58 yX0_rate, Cond.instanceMethod yX0_rate, Cond.selects RX0 yX0_rate yX0_rate, Cond.code yX0_rate cX0_rate 1 (some .long), Cond.fieldLink RX0 36 "ControlBench$Plant" "measureBefore" "J", Cond.methodLink RX1 104 yX0_automaticSample, Cond.instanceMethod yX0_automaticSample, Cond.selects RX0 yX0_automaticSample yX0_automaticSample, Cond.code yX0_automaticSample cX0_automaticSample 11 (some .long), Cond.constantLong RX0 61 (1000), Cond.fieldLink RX0 81 "ControlBench$Controller" "heldSamples" "I", Cond.methodLink RX0 67 yX0_countIncrements, Cond.instanceMethod yX0_countIncrements]
def wsX1_actAutomatically_r4 : List Cond := [Cond.selects RX0 yX0_countIncrements yX0_countIncrements, Cond.code yX0_countIncrements cX0_countIncrements 7 none, Cond.fieldLink RX0 63 "ControlBench$Controller" "goesOn" "Z", Cond.fieldLink RX0 87 "ControlBench$Controller" "sumByIncrements" "J", Cond.fieldLink RX0 90 "ControlBench$Controller" "latestError" "J", Cond.fieldLink RX0 93 "ControlBench$Controller" "latestRate" "J", Cond.methodLink RX0 71 yJ9_floorDiv_f86c9, Cond.methodLink RX0 77 yX0_withinLimits, Cond.instanceMethod yX0_withinLimits, Cond.selects RX0 yX0_withinLimits yX0_withinLimits, Cond.code yX0_withinLimits cX0_withinLimits 3 (some .long), Cond.fieldLink RX0 39 "ControlBench$Controller" "low" "I", Cond.fieldLink RX0 17 "ControlBench$Controller" "high" "I", Cond.static yX5_hold, Cond.initialized RX5, Cond.code yX5_hold cX5_hold 6 (some .long), Cond.methodLink RX5 196 Lib.MathLoose.min_long.x, Cond.static Lib.MathLoose.min_long.x, Cond.code Lib.MathLoose.min_long.x Lib.MathLoose.min_long.code 4 (some .long), Cond.methodLink RX5 253 Lib.MathLoose.max_long.x, Cond.static Lib.MathLoose.max_long.x, Cond.code Lib.MathLoose.max_long.x Lib.MathLoose.max_long.code 4 (some .long), Cond.methodLink RX0 84 yX0_guardAgainstWindup, Cond.instanceMethod yX0_guardAgainstWindup]
def wsX1_actAutomatically_r5 : List Cond := [Cond.selects RX0 yX0_guardAgainstWindup yX0_guardAgainstWindup, Cond.code yX0_guardAgainstWindup cX0_guardAgainstWindup 8 none, Cond.fieldLink RX0 96 "ControlBench$Controller" "guard" "I", Cond.fieldLink RX0 20 "ControlBench$Controller" "share" "I"]
def wsX1_actAutomatically : List Cond := .code yX1_actAutomatically cX1_actAutomatically 4 none :: ((wsX1_actAutomatically_r1 ++ (wsX1_actAutomatically_r2 ++ (wsX1_actAutomatically_r3 ++ (wsX1_actAutomatically_r4 ++ wsX1_actAutomatically_r5)))) ++ wsX10 ++ wsX20 ++ wsX40 ++ wsX00)
def wsX3_noteRise : List Cond := .code yX3_noteRise cX3_noteRise 3 none :: ([.fieldLink RX3 30 "ControlBench$Relay" "rises" "I", .fieldLink RX3 27 "ControlBench$Relay" "samples" "I", .fieldLink RX3 52 "ControlBench$Relay" "sampleOfSecondRise" "I", .fieldLink RX3 55 "ControlBench$Relay" "period" "I", .fieldLink RX3 37 "ControlBench$Relay" "greatest" "J", .fieldLink RX3 46 "ControlBench$Relay" "least" "J", .fieldLink RX3 58 "ControlBench$Relay" "swing" "J", .fieldLink RX3 9 "ControlBench$Relay" "progress" "I"] ++ wsX30)
def wsX3_sample : List Cond := .code yX3_sample cX3_sample 6 none :: ([.fieldLink RX3 27 "ControlBench$Relay" "samples" "I", .fieldLink RX3 23 "ControlBench$Relay" "up" "Z", .fieldLink RX3 20 "ControlBench$Relay" "band" "I", .fieldLink RX3 37 "ControlBench$Relay" "greatest" "J", .methodLink RX3 40 Lib.MathLoose.max_long.x, .static Lib.MathLoose.max_long.x, .initialized "java/lang/Math", .code Lib.MathLoose.max_long.x Lib.MathLoose.max_long.code 4 (some .long), .fieldLink RX3 46 "ControlBench$Relay" "least" "J", .methodLink RX3 49 Lib.MathLoose.min_long.x, .static Lib.MathLoose.min_long.x, .code Lib.MathLoose.min_long.x Lib.MathLoose.min_long.code 4 (some .long), .fieldLink RX3 9 "ControlBench$Relay" "progress" "I", .methodLink RX3 33 yX3_noteRise, .instanceMethod yX3_noteRise, .selects RX3 yX3_noteRise yX3_noteRise, .initialized RX3, .code yX3_noteRise cX3_noteRise 3 none, .fieldLink RX3 30 "ControlBench$Relay" "rises" "I", .fieldLink RX3 52 "ControlBench$Relay" "sampleOfSecondRise" "I", .fieldLink RX3 55 "ControlBench$Relay" "period" "I", .fieldLink RX3 58 "ControlBench$Relay" "swing" "J"] ++ wsX30)
def wsX3_wanted : List Cond := .code yX3_wanted cX3_wanted 1 (some .long) :: ([.fieldLink RX3 23 "ControlBench$Relay" "up" "Z", .fieldLink RX3 13 "ControlBench$Relay" "center" "J", .fieldLink RX3 17 "ControlBench$Relay" "height" "I"] ++ wsX30)
def wsX1_actAsRelay_r1 : List Cond := [Cond.fieldLink RX1 37 "ControlBench$Loop" "relay" "LControlBench$Relay;", Cond.fieldLink RX1 23 "ControlBench$Loop" "controller" "LControlBench$Controller;", Cond.fieldLink RX1 12 "ControlBench$Loop" "plant" "LControlBench$Plant;", Cond.fieldLink RX1 76 "ControlBench$Plant" "measure" "J", Cond.fieldLink RX1 48 "ControlBench$Loop" "output" "J", Cond.fieldLink RX1 118 "ControlBench$Relay" "progress" "I", Cond.fieldLink RX1 121 "ControlBench$Relay" "center" "J", Cond.fieldLink RX1 41 "ControlBench$Loop" "mode" "I", Cond.methodLink RX1 108 yX0_error, Cond.instanceMethod yX0_error, Cond.selects RX0 yX0_error yX0_error, Cond.initialized RX0, Cond.code yX0_error cX0_error 1 (some .long), Cond.fieldLink RX0 27 "ControlBench$Controller" "setpoint" "J", Cond.fieldLink RX0 23 "ControlBench$Controller" "plant" "LControlBench$Plant;", Cond.fieldLink RX0 31 "ControlBench$Plant" "measure" "J", Cond.methodLink RX1 111 yX3_sample, Cond.instanceMethod yX3_sample, Cond.selects RX3 yX3_sample yX3_sample, Cond.initialized RX3, Cond.code yX3_sample cX3_sample 6 none, Cond.fieldLink RX3 27 "ControlBench$Relay" "samples" "I", Cond.fieldLink RX3 23 "ControlBench$Relay" "up" "Z", Cond.fieldLink RX3 20 "ControlBench$Relay" "band" "I"]
def wsX1_actAsRelay_r2 : List Cond := [Cond.fieldLink RX3 37 "ControlBench$Relay" "greatest" "J", Cond.methodLink RX3 40 Lib.MathLoose.max_long.x, Cond.static Lib.MathLoose.max_long.x, Cond.initialized "java/lang/Math", Cond.code Lib.MathLoose.max_long.x Lib.MathLoose.max_long.code 4 (some .long), Cond.fieldLink RX3 46 "ControlBench$Relay" "least" "J", Cond.methodLink RX3 49 Lib.MathLoose.min_long.x, Cond.static Lib.MathLoose.min_long.x, Cond.code Lib.MathLoose.min_long.x Lib.MathLoose.min_long.code 4 (some .long), Cond.fieldLink RX3 9 "ControlBench$Relay" "progress" "I", Cond.methodLink RX3 33 yX3_noteRise, Cond.instanceMethod yX3_noteRise, Cond.selects RX3 yX3_noteRise yX3_noteRise, Cond.code yX3_noteRise cX3_noteRise 3 none, Cond.fieldLink RX3 30 "ControlBench$Relay" "rises" "I", Cond.fieldLink RX3 52 "ControlBench$Relay" "sampleOfSecondRise" "I", Cond.fieldLink RX3 55 "ControlBench$Relay" "period" "I", Cond.fieldLink RX3 58 "ControlBench$Relay" "swing" "J", Cond.methodLink RX1 115 yX3_wanted, Cond.instanceMethod yX3_wanted, Cond.selects RX3 yX3_wanted yX3_wanted, Cond.code yX3_wanted cX3_wanted 1 (some .long), Cond.fieldLink RX3 13 "ControlBench$Relay" "center" "J", Cond.fieldLink RX3 17 "ControlBench$Relay" "height" "I"]
def wsX1_actAsRelay_r3 : List Cond := [Cond.methodLink RX1 69 yX0_withinLimits, Cond.instanceMethod yX0_withinLimits, Cond.selects RX0 yX0_withinLimits yX0_withinLimits, Cond.code yX0_withinLimits cX0_withinLimits 3 (some .long), Cond.fieldLink RX0 39 "ControlBench$Controller" "low" "I", Cond.fieldLink RX0 17 "ControlBench$Controller" "high" "I", Cond.static yX5_hold, Cond.initialized RX5, Cond.code yX5_hold cX5_hold 6 (some .long), Cond.methodLink RX5 196 Lib.MathLoose.min_long.x, Cond.methodLink RX5 253 Lib.MathLoose.max_long.x, Cond.methodLink RX1 52 yX0_settle, Cond.instanceMethod yX0_settle, Cond.selects RX0 yX0_settle yX0_settle, Cond.code yX0_settle cX0_settle 3 none, Cond.constantLong RX0 61 (1000), Cond.fieldLink RX0 7 "ControlBench$Controller" "p" "I", Cond.fieldLink RX0 55 "ControlBench$Controller" "d" "I", Cond.fieldLink RX0 48 "ControlBench$Controller" "integral" "J", Cond.fieldLink RX0 63 "ControlBench$Controller" "goesOn" "Z", Cond.methodLink RX0 51 yX0_error, Cond.methodLink RX0 58 yX0_rate, Cond.instanceMethod yX0_rate, Cond.selects RX0 yX0_rate yX0_rate]
def wsX1_actAsRelay_r4 : List Cond := [Cond.code yX0_rate cX0_rate 1 (some .long), Cond.fieldLink RX0 36 "ControlBench$Plant" "measureBefore" "J"]
def wsX1_actAsRelay : List Cond := .code yX1_actAsRelay cX1_actAsRelay 1 none :: ((wsX1_actAsRelay_r1 ++ (wsX1_actAsRelay_r2 ++ (wsX1_actAsRelay_r3 ++ wsX1_actAsRelay_r4))) ++ wsX10 ++ wsX20 ++ wsX30 ++ wsX00)
def wsJ9_floorMod_7cf53 : List Cond := .code yJ9_floorMod_7cf53 cJ9_floorMod_7cf53 3 (some .int) :: ([])
def wsX2_goOn_r1 : List Cond := [Cond.fieldLink RX2 22 "ControlBench$Plant" "latest" "I", Cond.fieldLink RX2 18 "ControlBench$Plant" "outputs" "[J", Cond.fieldLink RX2 31 "ControlBench$Plant" "deadTime" "I", Cond.fieldLink RX2 9 "ControlBench$Plant" "a1" "I", Cond.fieldLink RX2 34 "ControlBench$Plant" "measure" "J", Cond.fieldLink RX2 38 "ControlBench$Plant" "a2" "I", Cond.fieldLink RX2 41 "ControlBench$Plant" "measureBefore" "J", Cond.fieldLink RX2 15 "ControlBench$Plant" "b" "I", Cond.constantLong RX2 44 (1000), Cond.fieldLink RX2 50 "ControlBench$Plant" "load" "I", Cond.constantLong RX2 53 (-1000000), Cond.constantLong RX2 55 (1000000), Cond.methodLink RX2 25 yJ9_floorMod_7cf53, Cond.static yJ9_floorMod_7cf53, Cond.initialized RJ9, Cond.code yJ9_floorMod_7cf53 cJ9_floorMod_7cf53 3 (some .int), Cond.methodLink RX2 46 yJ9_floorDiv_f86c9, Cond.static yJ9_floorDiv_f86c9, Cond.code yJ9_floorDiv_f86c9 cJ9_floorDiv_f86c9 6 (some .long), Cond.static yX5_hold, Cond.initialized RX5, Cond.code yX5_hold cX5_hold 6 (some .long), Cond.methodLink RX5 196 Lib.MathLoose.min_long.x, Cond.static Lib.MathLoose.min_long.x]
def wsX2_goOn_r2 : List Cond := [Cond.initialized "java/lang/Math", Cond.code Lib.MathLoose.min_long.x Lib.MathLoose.min_long.code 4 (some .long), Cond.methodLink RX5 253 Lib.MathLoose.max_long.x, Cond.static Lib.MathLoose.max_long.x, Cond.code Lib.MathLoose.max_long.x Lib.MathLoose.max_long.code 4 (some .long)]
def wsX2_goOn : List Cond := .code yX2_goOn cX2_goOn 7 none :: ((wsX2_goOn_r1 ++ wsX2_goOn_r2) ++ wsX20)
def wsX3_begin : List Cond := .code yX3_begin cX3_begin 5 none :: ([.fieldLink RX3 9 "ControlBench$Relay" "progress" "I", .fieldLink RX3 13 "ControlBench$Relay" "center" "J", .fieldLink RX3 17 "ControlBench$Relay" "height" "I", .fieldLink RX3 20 "ControlBench$Relay" "band" "I", .fieldLink RX3 23 "ControlBench$Relay" "up" "Z", .fieldLink RX3 27 "ControlBench$Relay" "samples" "I", .fieldLink RX3 30 "ControlBench$Relay" "rises" "I"] ++ wsX30)
def wsX3_gainAtTheEdge : List Cond := .code yX3_gainAtTheEdge cX3_gainAtTheEdge 1 (some .long) :: ([.fieldLink RX3 58 "ControlBench$Relay" "swing" "J", .constantLong RX3 61 (904000), .fieldLink RX3 17 "ControlBench$Relay" "height" "I", .constantLong RX3 63 (355), .methodLink RX3 65 yJ9_floorDiv_f86c9, .static yJ9_floorDiv_f86c9, .initialized RJ9, .code yJ9_floorDiv_f86c9 cJ9_floorDiv_f86c9 6 (some .long)] ++ wsX30)
def wsX3_proposedP : List Cond := .code yX3_proposedP cX3_proposedP 4 (some .long) :: ([.constantLong RX3 72 (6), .constantLong RX3 74 (10), .constantLong RX3 76 (22), .methodLink RX3 68 yX3_gainAtTheEdge, .instanceMethod yX3_gainAtTheEdge, .selects RX3 yX3_gainAtTheEdge yX3_gainAtTheEdge, .initialized RX3, .code yX3_gainAtTheEdge cX3_gainAtTheEdge 1 (some .long), .fieldLink RX3 58 "ControlBench$Relay" "swing" "J", .constantLong RX3 61 (904000), .fieldLink RX3 17 "ControlBench$Relay" "height" "I", .constantLong RX3 63 (355), .methodLink RX3 65 yJ9_floorDiv_f86c9, .static yJ9_floorDiv_f86c9, .initialized RJ9, .code yJ9_floorDiv_f86c9 cJ9_floorDiv_f86c9 6 (some .long)] ++ wsX30)
def wsX3_proposedI : List Cond := .code yX3_proposedI cX3_proposedI 4 (some .long) :: ([.fieldLink RX3 55 "ControlBench$Relay" "period" "I", .constantLong RX3 78 (12), .constantLong RX3 74 (10), .constantLong RX3 80 (100), .constantLong RX3 82 (484), .methodLink RX3 68 yX3_gainAtTheEdge, .instanceMethod yX3_gainAtTheEdge, .selects RX3 yX3_gainAtTheEdge yX3_gainAtTheEdge, .initialized RX3, .code yX3_gainAtTheEdge cX3_gainAtTheEdge 1 (some .long), .fieldLink RX3 58 "ControlBench$Relay" "swing" "J", .constantLong RX3 61 (904000), .fieldLink RX3 17 "ControlBench$Relay" "height" "I", .constantLong RX3 63 (355), .methodLink RX3 65 yJ9_floorDiv_f86c9, .static yJ9_floorDiv_f86c9, .initialized RJ9, .code yJ9_floorDiv_f86c9 cJ9_floorDiv_f86c9 6 (some .long)] ++ wsX30)
def wsX3_proposedD : List Cond := .code yX3_proposedD cX3_proposedD 4 (some .long) :: ([.constantLong RX3 84 (3), .fieldLink RX3 55 "ControlBench$Relay" "period" "I", .constantLong RX3 86 (40), .constantLong RX3 80 (100), .constantLong RX3 88 (1386), .methodLink RX3 68 yX3_gainAtTheEdge, .instanceMethod yX3_gainAtTheEdge, .selects RX3 yX3_gainAtTheEdge yX3_gainAtTheEdge, .initialized RX3, .code yX3_gainAtTheEdge cX3_gainAtTheEdge 1 (some .long), .fieldLink RX3 58 "ControlBench$Relay" "swing" "J", .constantLong RX3 61 (904000), .fieldLink RX3 17 "ControlBench$Relay" "height" "I", .constantLong RX3 63 (355), .methodLink RX3 65 yJ9_floorDiv_f86c9, .static yJ9_floorDiv_f86c9, .initialized RJ9, .code yJ9_floorDiv_f86c9 cJ9_floorDiv_f86c9 6 (some .long)] ++ wsX30)
def wsX4_isFull : List Cond := .code yX4_isFull cX4_isFull 1 (some .boolean) :: ([.fieldLink RX4 22 "ControlBench$Schedule" "points" "I"] ++ wsX40)
def wsX4_endsBelow : List Cond := .code yX4_endsBelow cX4_endsBelow 2 (some .boolean) :: ([.fieldLink RX4 22 "ControlBench$Schedule" "points" "I", .fieldLink RX4 9 "ControlBench$Schedule" "measures" "[I"] ++ wsX40)
def wsX4_addLast : List Cond := .code yX4_addLast cX4_addLast 5 (some .int) :: ([.fieldLink RX4 22 "ControlBench$Schedule" "points" "I", .fieldLink RX4 9 "ControlBench$Schedule" "measures" "[I", .fieldLink RX4 13 "ControlBench$Schedule" "ps" "[I", .fieldLink RX4 16 "ControlBench$Schedule" "is" "[I", .fieldLink RX4 19 "ControlBench$Schedule" "ds" "[I"] ++ wsX40)
def wsX4_takeAway : List Cond := .code yX4_takeAway cX4_takeAway 2 (some .int) :: ([.fieldLink RX4 22 "ControlBench$Schedule" "points" "I"] ++ wsX40)
def wsX5_init_r1 : List Cond := [Cond.methodLink RX5 1 objectInit, Cond.instanceMethod objectInit, Cond.code objectInit ⟨#[0xb1]⟩ 1 none, Cond.classLink RX5 9 RX1, Cond.fieldLink RX5 11 "ControlBench" "loops" "[LControlBench$Loop;", Cond.instantiable RX1 10, Cond.initialized RX1, Cond.instanceMethod yX1_init, Cond.code yX1_init cX1_init 1 none, Cond.methodLink RX1 3 objectInit, Cond.classLink RX1 9 RX2, Cond.instantiable RX2 9, Cond.initialized RX2, Cond.fieldLink RX1 12 "ControlBench$Loop" "plant" "LControlBench$Plant;", Cond.classLink RX1 18 RX0, Cond.instantiable RX0 15, Cond.initialized RX0, Cond.fieldLink RX1 23 "ControlBench$Loop" "controller" "LControlBench$Controller;", Cond.classLink RX1 27 RX4, Cond.instantiable RX4 5, Cond.initialized RX4, Cond.fieldLink RX1 30 "ControlBench$Loop" "schedule" "LControlBench$Schedule;", Cond.classLink RX1 34 RX3, Cond.instantiable RX3 12]
def wsX5_init_r2 : List Cond := [Cond.initialized RX3, Cond.fieldLink RX1 37 "ControlBench$Loop" "relay" "LControlBench$Relay;", Cond.fieldLink RX1 41 "ControlBench$Loop" "mode" "I", Cond.instanceMethod yX2_init, Cond.code yX2_init cX2_init 1 none, Cond.methodLink RX2 3 objectInit, Cond.fieldLink RX2 9 "ControlBench$Plant" "a1" "I", Cond.fieldLink RX2 15 "ControlBench$Plant" "b" "I", Cond.arrayClass .long, Cond.fieldLink RX2 18 "ControlBench$Plant" "outputs" "[J", Cond.methodLink RX1 20 yX0_init, Cond.instanceMethod yX0_init, Cond.code yX0_init cX0_init 2 none, Cond.methodLink RX0 1 objectInit, Cond.fieldLink RX0 7 "ControlBench$Controller" "p" "I", Cond.fieldLink RX0 13 "ControlBench$Controller" "i" "I", Cond.constant RX0 16 (100000), Cond.fieldLink RX0 17 "ControlBench$Controller" "high" "I", Cond.fieldLink RX0 20 "ControlBench$Controller" "share" "I", Cond.fieldLink RX0 23 "ControlBench$Controller" "plant" "LControlBench$Plant;", Cond.instanceMethod yX4_init, Cond.code yX4_init cX4_init 1 none, Cond.methodLink RX4 1 objectInit, Cond.arrayClass .int]
def wsX5_init_r3 : List Cond := [Cond.fieldLink RX4 9 "ControlBench$Schedule" "measures" "[I", Cond.fieldLink RX4 13 "ControlBench$Schedule" "ps" "[I", Cond.fieldLink RX4 16 "ControlBench$Schedule" "is" "[I", Cond.fieldLink RX4 19 "ControlBench$Schedule" "ds" "[I", Cond.instanceMethod yX3_init, Cond.code yX3_init cX3_init 1 none, Cond.methodLink RX3 1 objectInit]
def wsX5_init : List Cond := .code yX5_init cX5_init 2 none :: ((wsX5_init_r1 ++ (wsX5_init_r2 ++ wsX5_init_r3)) ++ wsX50 ++ wsX10 ++ wsX20 ++ wsX00 ++ wsX40 ++ wsX30)
def wsX5_loopAt : List Cond := .code yX5_loopAt cX5_loopAt 2 (some (.object "ControlBench$Loop")) :: ([.classLink RX5 209 "java/lang/IndexOutOfBoundsException", .initialized "java/lang/IndexOutOfBoundsException", .fieldLink RX5 11 "ControlBench" "loops" "[LControlBench$Loop;"] ++ wsX50 ++ (vx_atS RX5 213 "java/lang/IndexOutOfBoundsException" ["java/lang/RuntimeException", "java/lang/Exception"]).filter goodWord)
def wsX5_requireArgument : List Cond := .code yX5_requireArgument cX5_requireArgument 1 none :: ([.classLink RX5 220 "java/lang/IllegalArgumentException", .initialized "java/lang/IllegalArgumentException"] ++ (vx_atS RX5 224 "java/lang/IllegalArgumentException" ["java/lang/RuntimeException", "java/lang/Exception"]).filter goodWord)
def wsX5_requireWithin : List Cond := .code yX5_requireWithin cX5_requireWithin 3 none :: ([.methodLink RX5 81 yX5_requireArgument, .static yX5_requireArgument, .initialized RX5, .code yX5_requireArgument cX5_requireArgument 1 none, .classLink RX5 220 "java/lang/IllegalArgumentException", .initialized "java/lang/IllegalArgumentException"] ++ (vx_atS RX5 224 "java/lang/IllegalArgumentException" ["java/lang/RuntimeException", "java/lang/Exception"]).filter goodWord)
def wsX5_setPlant : List Cond := .code yX5_setPlant cX5_setPlant 7 none :: ([.fieldLink RX5 20 "ControlBench$Loop" "plant" "LControlBench$Plant;", .fieldLink RX5 30 "ControlBench$Plant" "a1" "I", .fieldLink RX5 34 "ControlBench$Plant" "a2" "I", .fieldLink RX5 37 "ControlBench$Plant" "b" "I", .fieldLink RX5 40 "ControlBench$Plant" "deadTime" "I", .methodLink RX5 16 yX5_loopAt, .instanceMethod yX5_loopAt, .selects RX5 yX5_loopAt yX5_loopAt, .initialized RX5, .code yX5_loopAt cX5_loopAt 2 (some (.object "ControlBench$Loop")), .classLink RX5 209 "java/lang/IndexOutOfBoundsException", .initialized "java/lang/IndexOutOfBoundsException", .fieldLink RX5 11 "ControlBench" "loops" "[LControlBench$Loop;", .methodLink RX5 24 yX5_requireWithin, .static yX5_requireWithin, .code yX5_requireWithin cX5_requireWithin 3 none, .methodLink RX5 81 yX5_requireArgument, .static yX5_requireArgument, .code yX5_requireArgument cX5_requireArgument 1 none, .classLink RX5 220 "java/lang/IllegalArgumentException", .initialized "java/lang/IllegalArgumentException"] ++ wsX10 ++ wsX20 ++ wsX50 ++ (vx_atS RX5 213 "java/lang/IndexOutOfBoundsException" ["java/lang/RuntimeException", "java/lang/Exception"]).filter goodWord ++ (vx_atS RX5 224 "java/lang/IllegalArgumentException" ["java/lang/RuntimeException", "java/lang/Exception"]).filter goodWord)
def wsX5_setLoad : List Cond := .code yX5_setLoad cX5_setLoad 5 (some .int) :: ([.fieldLink RX5 20 "ControlBench$Loop" "plant" "LControlBench$Plant;", .fieldLink RX5 43 "ControlBench$Plant" "load" "I", .methodLink RX5 16 yX5_loopAt, .instanceMethod yX5_loopAt, .selects RX5 yX5_loopAt yX5_loopAt, .initialized RX5, .code yX5_loopAt cX5_loopAt 2 (some (.object "ControlBench$Loop")), .classLink RX5 209 "java/lang/IndexOutOfBoundsException", .initialized "java/lang/IndexOutOfBoundsException", .fieldLink RX5 11 "ControlBench" "loops" "[LControlBench$Loop;", .methodLink RX5 24 yX5_requireWithin, .static yX5_requireWithin, .code yX5_requireWithin cX5_requireWithin 3 none, .methodLink RX5 81 yX5_requireArgument, .static yX5_requireArgument, .code yX5_requireArgument cX5_requireArgument 1 none, .classLink RX5 220 "java/lang/IllegalArgumentException", .initialized "java/lang/IllegalArgumentException"] ++ wsX10 ++ wsX20 ++ wsX50 ++ (vx_atS RX5 213 "java/lang/IndexOutOfBoundsException" ["java/lang/RuntimeException", "java/lang/Exception"]).filter goodWord ++ (vx_atS RX5 224 "java/lang/IllegalArgumentException" ["java/lang/RuntimeException", "java/lang/Exception"]).filter goodWord)
def wsX5_requireGains : List Cond := .code yX5_requireGains cX5_requireGains 3 none :: ([.constant RX5 218 (-50000), .constant RX5 219 (50000), .methodLink RX5 24 yX5_requireWithin, .static yX5_requireWithin, .initialized RX5, .code yX5_requireWithin cX5_requireWithin 3 none, .methodLink RX5 81 yX5_requireArgument, .static yX5_requireArgument, .code yX5_requireArgument cX5_requireArgument 1 none, .classLink RX5 220 "java/lang/IllegalArgumentException", .initialized "java/lang/IllegalArgumentException"] ++ (vx_atS RX5 224 "java/lang/IllegalArgumentException" ["java/lang/RuntimeException", "java/lang/Exception"]).filter goodWord)
def wsX5_requireState : List Cond := .code yX5_requireState cX5_requireState 1 none :: ([.classLink RX5 225 "java/lang/IllegalStateException", .initialized "java/lang/IllegalStateException"] ++ (vx_atS RX5 229 "java/lang/IllegalStateException" ["java/lang/RuntimeException", "java/lang/Exception"]).filter goodWord)
def wsX5_setGains_r1 : List Cond := [Cond.fieldLink RX5 49 "ControlBench$Loop" "mode" "I", Cond.fieldLink RX5 56 "ControlBench$Loop" "controller" "LControlBench$Controller;", Cond.fieldLink RX5 65 "ControlBench$Loop" "schedule" "LControlBench$Schedule;", Cond.methodLink RX5 16 yX5_loopAt, Cond.instanceMethod yX5_loopAt, Cond.selects RX5 yX5_loopAt yX5_loopAt, Cond.initialized RX5, Cond.code yX5_loopAt cX5_loopAt 2 (some (.object "ControlBench$Loop")), Cond.classLink RX5 209 "java/lang/IndexOutOfBoundsException", Cond.initialized "java/lang/IndexOutOfBoundsException", Cond.fieldLink RX5 11 "ControlBench" "loops" "[LControlBench$Loop;", Cond.methodLink RX5 46 yX5_requireGains, Cond.static yX5_requireGains, Cond.code yX5_requireGains cX5_requireGains 3 none, Cond.constant RX5 218 (-50000), Cond.constant RX5 219 (50000), Cond.methodLink RX5 24 yX5_requireWithin, Cond.static yX5_requireWithin, Cond.code yX5_requireWithin cX5_requireWithin 3 none, Cond.methodLink RX5 81 yX5_requireArgument, Cond.static yX5_requireArgument, Cond.code yX5_requireArgument cX5_requireArgument 1 none, Cond.classLink RX5 220 "java/lang/IllegalArgumentException", Cond.initialized "java/lang/IllegalArgumentException"]
def wsX5_setGains_r2 : List Cond := [Cond.methodLink RX5 52 yX5_requireState, Cond.static yX5_requireState, Cond.code yX5_requireState cX5_requireState 1 none, Cond.classLink RX5 225 "java/lang/IllegalStateException", Cond.initialized "java/lang/IllegalStateException", Cond.methodLink RX5 60 yX0_changeGains, Cond.instanceMethod yX0_changeGains, Cond.selects RX0 yX0_changeGains yX0_changeGains, Cond.initialized RX0, Cond.code yX0_changeGains cX0_changeGains 4 none, Cond.fieldLink RX0 48 "ControlBench$Controller" "integral" "J", Cond.fieldLink RX0 7 "ControlBench$Controller" "p" "I", Cond.fieldLink RX0 55 "ControlBench$Controller" "d" "I", Cond.fieldLink RX0 13 "ControlBench$Controller" "i" "I", Cond.methodLink RX0 51 yX0_error, Cond.instanceMethod yX0_error, Cond.selects RX0 yX0_error yX0_error, Cond.code yX0_error cX0_error 1 (some .long), Cond.fieldLink RX0 27 "ControlBench$Controller" "setpoint" "J", Cond.fieldLink RX0 23 "ControlBench$Controller" "plant" "LControlBench$Plant;", Cond.fieldLink RX0 31 "ControlBench$Plant" "measure" "J", Cond.methodLink RX0 58 yX0_rate, Cond.instanceMethod yX0_rate, Cond.selects RX0 yX0_rate yX0_rate]
def wsX5_setGains_r3 : List Cond := [Cond.code yX0_rate cX0_rate 1 (some .long), Cond.fieldLink RX0 36 "ControlBench$Plant" "measureBefore" "J", Cond.methodLink RX5 69 yX4_takeAway, Cond.instanceMethod yX4_takeAway, Cond.selects RX4 yX4_takeAway yX4_takeAway, Cond.initialized RX4, Cond.code yX4_takeAway cX4_takeAway 2 (some .int), Cond.fieldLink RX4 22 "ControlBench$Schedule" "points" "I"]
def wsX5_setGains : List Cond := .code yX5_setGains cX5_setGains 6 (some .int) :: ((wsX5_setGains_r1 ++ (wsX5_setGains_r2 ++ wsX5_setGains_r3)) ++ wsX10 ++ wsX50 ++ wsX00 ++ wsX20 ++ wsX40 ++ (vx_atS RX5 213 "java/lang/IndexOutOfBoundsException" ["java/lang/RuntimeException", "java/lang/Exception"]).filter goodWord ++ (vx_atS RX5 224 "java/lang/IllegalArgumentException" ["java/lang/RuntimeException", "java/lang/Exception"]).filter goodWord ++ (vx_atS RX5 229 "java/lang/IllegalStateException" ["java/lang/RuntimeException", "java/lang/Exception"]).filter goodWord)
def wsX5_addPoint_r1 : List Cond := [Cond.fieldLink RX5 65 "ControlBench$Loop" "schedule" "LControlBench$Schedule;", Cond.constant RX5 75 (-1000000), Cond.constant RX5 76 (1000000), Cond.methodLink RX5 16 yX5_loopAt, Cond.instanceMethod yX5_loopAt, Cond.selects RX5 yX5_loopAt yX5_loopAt, Cond.initialized RX5, Cond.code yX5_loopAt cX5_loopAt 2 (some (.object "ControlBench$Loop")), Cond.classLink RX5 209 "java/lang/IndexOutOfBoundsException", Cond.initialized "java/lang/IndexOutOfBoundsException", Cond.fieldLink RX5 11 "ControlBench" "loops" "[LControlBench$Loop;", Cond.methodLink RX5 24 yX5_requireWithin, Cond.static yX5_requireWithin, Cond.code yX5_requireWithin cX5_requireWithin 3 none, Cond.methodLink RX5 81 yX5_requireArgument, Cond.static yX5_requireArgument, Cond.code yX5_requireArgument cX5_requireArgument 1 none, Cond.classLink RX5 220 "java/lang/IllegalArgumentException", Cond.initialized "java/lang/IllegalArgumentException", Cond.methodLink RX5 46 yX5_requireGains, Cond.static yX5_requireGains, Cond.code yX5_requireGains cX5_requireGains 3 none, Cond.constant RX5 218 (-50000), Cond.constant RX5 219 (50000)]
def wsX5_addPoint_r2 : List Cond := [Cond.methodLink RX5 77 yX4_endsBelow, Cond.instanceMethod yX4_endsBelow, Cond.selects RX4 yX4_endsBelow yX4_endsBelow, Cond.initialized RX4, Cond.code yX4_endsBelow cX4_endsBelow 2 (some .boolean), Cond.fieldLink RX4 22 "ControlBench$Schedule" "points" "I", Cond.fieldLink RX4 9 "ControlBench$Schedule" "measures" "[I", Cond.methodLink RX5 84 yX4_isFull, Cond.instanceMethod yX4_isFull, Cond.selects RX4 yX4_isFull yX4_isFull, Cond.code yX4_isFull cX4_isFull 1 (some .boolean), Cond.methodLink RX5 52 yX5_requireState, Cond.static yX5_requireState, Cond.code yX5_requireState cX5_requireState 1 none, Cond.classLink RX5 225 "java/lang/IllegalStateException", Cond.initialized "java/lang/IllegalStateException", Cond.methodLink RX5 88 yX4_addLast, Cond.instanceMethod yX4_addLast, Cond.selects RX4 yX4_addLast yX4_addLast, Cond.code yX4_addLast cX4_addLast 5 (some .int), Cond.fieldLink RX4 13 "ControlBench$Schedule" "ps" "[I", Cond.fieldLink RX4 16 "ControlBench$Schedule" "is" "[I", Cond.fieldLink RX4 19 "ControlBench$Schedule" "ds" "[I"]
def wsX5_addPoint : List Cond := .code yX5_addPoint cX5_addPoint 7 (some .int) :: ((wsX5_addPoint_r1 ++ wsX5_addPoint_r2) ++ wsX10 ++ wsX50 ++ wsX40 ++ (vx_atS RX5 213 "java/lang/IndexOutOfBoundsException" ["java/lang/RuntimeException", "java/lang/Exception"]).filter goodWord ++ (vx_atS RX5 224 "java/lang/IllegalArgumentException" ["java/lang/RuntimeException", "java/lang/Exception"]).filter goodWord ++ (vx_atS RX5 229 "java/lang/IllegalStateException" ["java/lang/RuntimeException", "java/lang/Exception"]).filter goodWord)
def wsX5_setLimits : List Cond := .code yX5_setLimits cX5_setLimits 5 none :: ([.fieldLink RX5 56 "ControlBench$Loop" "controller" "LControlBench$Controller;", .constant RX5 75 (-1000000), .constant RX5 76 (1000000), .fieldLink RX5 92 "ControlBench$Controller" "low" "I", .fieldLink RX5 95 "ControlBench$Controller" "high" "I", .methodLink RX5 16 yX5_loopAt, .instanceMethod yX5_loopAt, .selects RX5 yX5_loopAt yX5_loopAt, .initialized RX5, .code yX5_loopAt cX5_loopAt 2 (some (.object "ControlBench$Loop")), .classLink RX5 209 "java/lang/IndexOutOfBoundsException", .initialized "java/lang/IndexOutOfBoundsException", .fieldLink RX5 11 "ControlBench" "loops" "[LControlBench$Loop;", .methodLink RX5 24 yX5_requireWithin, .static yX5_requireWithin, .code yX5_requireWithin cX5_requireWithin 3 none, .methodLink RX5 81 yX5_requireArgument, .static yX5_requireArgument, .code yX5_requireArgument cX5_requireArgument 1 none, .classLink RX5 220 "java/lang/IllegalArgumentException", .initialized "java/lang/IllegalArgumentException"] ++ wsX10 ++ wsX00 ++ wsX50 ++ (vx_atS RX5 213 "java/lang/IndexOutOfBoundsException" ["java/lang/RuntimeException", "java/lang/Exception"]).filter goodWord ++ (vx_atS RX5 224 "java/lang/IllegalArgumentException" ["java/lang/RuntimeException", "java/lang/Exception"]).filter goodWord)
def wsX5_setGuard : List Cond := .code yX5_setGuard cX5_setGuard 6 (some .int) :: ([.fieldLink RX5 56 "ControlBench$Loop" "controller" "LControlBench$Controller;", .fieldLink RX5 98 "ControlBench$Controller" "guard" "I", .fieldLink RX5 101 "ControlBench$Controller" "share" "I", .methodLink RX5 16 yX5_loopAt, .instanceMethod yX5_loopAt, .selects RX5 yX5_loopAt yX5_loopAt, .initialized RX5, .code yX5_loopAt cX5_loopAt 2 (some (.object "ControlBench$Loop")), .classLink RX5 209 "java/lang/IndexOutOfBoundsException", .initialized "java/lang/IndexOutOfBoundsException", .fieldLink RX5 11 "ControlBench" "loops" "[LControlBench$Loop;", .methodLink RX5 24 yX5_requireWithin, .static yX5_requireWithin, .code yX5_requireWithin cX5_requireWithin 3 none, .methodLink RX5 81 yX5_requireArgument, .static yX5_requireArgument, .code yX5_requireArgument cX5_requireArgument 1 none, .classLink RX5 220 "java/lang/IllegalArgumentException", .initialized "java/lang/IllegalArgumentException"] ++ wsX10 ++ wsX00 ++ wsX50 ++ (vx_atS RX5 213 "java/lang/IndexOutOfBoundsException" ["java/lang/RuntimeException", "java/lang/Exception"]).filter goodWord ++ (vx_atS RX5 224 "java/lang/IllegalArgumentException" ["java/lang/RuntimeException", "java/lang/Exception"]).filter goodWord)
def wsX5_setSetpoint_r1 : List Cond := [Cond.constant RX5 75 (-1000000), Cond.constant RX5 76 (1000000), Cond.fieldLink RX5 49 "ControlBench$Loop" "mode" "I", Cond.fieldLink RX5 56 "ControlBench$Loop" "controller" "LControlBench$Controller;", Cond.fieldLink RX5 104 "ControlBench$Controller" "setpoint" "J", Cond.methodLink RX5 16 yX5_loopAt, Cond.instanceMethod yX5_loopAt, Cond.selects RX5 yX5_loopAt yX5_loopAt, Cond.initialized RX5, Cond.code yX5_loopAt cX5_loopAt 2 (some (.object "ControlBench$Loop")), Cond.classLink RX5 209 "java/lang/IndexOutOfBoundsException", Cond.initialized "java/lang/IndexOutOfBoundsException", Cond.fieldLink RX5 11 "ControlBench" "loops" "[LControlBench$Loop;", Cond.methodLink RX5 24 yX5_requireWithin, Cond.static yX5_requireWithin, Cond.code yX5_requireWithin cX5_requireWithin 3 none, Cond.methodLink RX5 81 yX5_requireArgument, Cond.static yX5_requireArgument, Cond.code yX5_requireArgument cX5_requireArgument 1 none, Cond.classLink RX5 220 "java/lang/IllegalArgumentException", Cond.initialized "java/lang/IllegalArgumentException", Cond.methodLink RX5 52 yX5_requireState, Cond.static yX5_requireState, Cond.code yX5_requireState cX5_requireState 1 none]
def wsX5_setSetpoint_r2 : List Cond := [Cond.classLink RX5 225 "java/lang/IllegalStateException", Cond.initialized "java/lang/IllegalStateException"]
def wsX5_setSetpoint : List Cond := .code yX5_setSetpoint cX5_setSetpoint 6 (some .int) :: ((wsX5_setSetpoint_r1 ++ wsX5_setSetpoint_r2) ++ wsX10 ++ wsX00 ++ wsX50 ++ (vx_atS RX5 213 "java/lang/IndexOutOfBoundsException" ["java/lang/RuntimeException", "java/lang/Exception"]).filter goodWord ++ (vx_atS RX5 224 "java/lang/IllegalArgumentException" ["java/lang/RuntimeException", "java/lang/Exception"]).filter goodWord ++ (vx_atS RX5 229 "java/lang/IllegalStateException" ["java/lang/RuntimeException", "java/lang/Exception"]).filter goodWord)
def wsX5_setHand_r1 : List Cond := [Cond.constant RX5 75 (-1000000), Cond.constant RX5 76 (1000000), Cond.fieldLink RX5 49 "ControlBench$Loop" "mode" "I", Cond.fieldLink RX5 108 "ControlBench$Loop" "handValue" "J", Cond.methodLink RX5 16 yX5_loopAt, Cond.instanceMethod yX5_loopAt, Cond.selects RX5 yX5_loopAt yX5_loopAt, Cond.initialized RX5, Cond.code yX5_loopAt cX5_loopAt 2 (some (.object "ControlBench$Loop")), Cond.classLink RX5 209 "java/lang/IndexOutOfBoundsException", Cond.initialized "java/lang/IndexOutOfBoundsException", Cond.fieldLink RX5 11 "ControlBench" "loops" "[LControlBench$Loop;", Cond.methodLink RX5 24 yX5_requireWithin, Cond.static yX5_requireWithin, Cond.code yX5_requireWithin cX5_requireWithin 3 none, Cond.methodLink RX5 81 yX5_requireArgument, Cond.static yX5_requireArgument, Cond.code yX5_requireArgument cX5_requireArgument 1 none, Cond.classLink RX5 220 "java/lang/IllegalArgumentException", Cond.initialized "java/lang/IllegalArgumentException", Cond.methodLink RX5 52 yX5_requireState, Cond.static yX5_requireState, Cond.code yX5_requireState cX5_requireState 1 none, Cond.classLink RX5 225 "java/lang/IllegalStateException"]
def wsX5_setHand_r2 : List Cond := [Cond.initialized "java/lang/IllegalStateException"]
def wsX5_setHand : List Cond := .code yX5_setHand cX5_setHand 6 (some .int) :: ((wsX5_setHand_r1 ++ wsX5_setHand_r2) ++ wsX10 ++ wsX50 ++ (vx_atS RX5 213 "java/lang/IndexOutOfBoundsException" ["java/lang/RuntimeException", "java/lang/Exception"]).filter goodWord ++ (vx_atS RX5 224 "java/lang/IllegalArgumentException" ["java/lang/RuntimeException", "java/lang/Exception"]).filter goodWord ++ (vx_atS RX5 229 "java/lang/IllegalStateException" ["java/lang/RuntimeException", "java/lang/Exception"]).filter goodWord)
def wsX5_setTies : List Cond := .code yX5_setTies cX5_setTies 5 none :: ([.fieldLink RX5 49 "ControlBench$Loop" "mode" "I", .fieldLink RX5 111 "ControlBench$Loop" "follows" "Z", .fieldLink RX5 115 "ControlBench$Loop" "hasMaster" "Z", .methodLink RX5 16 yX5_loopAt, .instanceMethod yX5_loopAt, .selects RX5 yX5_loopAt yX5_loopAt, .initialized RX5, .code yX5_loopAt cX5_loopAt 2 (some (.object "ControlBench$Loop")), .classLink RX5 209 "java/lang/IndexOutOfBoundsException", .initialized "java/lang/IndexOutOfBoundsException", .fieldLink RX5 11 "ControlBench" "loops" "[LControlBench$Loop;", .methodLink RX5 81 yX5_requireArgument, .static yX5_requireArgument, .code yX5_requireArgument cX5_requireArgument 1 none, .classLink RX5 220 "java/lang/IllegalArgumentException", .initialized "java/lang/IllegalArgumentException", .methodLink RX5 52 yX5_requireState, .static yX5_requireState, .code yX5_requireState cX5_requireState 1 none, .classLink RX5 225 "java/lang/IllegalStateException", .initialized "java/lang/IllegalStateException"] ++ wsX10 ++ wsX50 ++ (vx_atS RX5 213 "java/lang/IndexOutOfBoundsException" ["java/lang/RuntimeException", "java/lang/Exception"]).filter goodWord ++ (vx_atS RX5 224 "java/lang/IllegalArgumentException" ["java/lang/RuntimeException", "java/lang/Exception"]).filter goodWord ++ (vx_atS RX5 229 "java/lang/IllegalStateException" ["java/lang/RuntimeException", "java/lang/Exception"]).filter goodWord)
def wsX5_setMode_r1 : List Cond := [Cond.fieldLink RX5 49 "ControlBench$Loop" "mode" "I", Cond.fieldLink RX5 115 "ControlBench$Loop" "hasMaster" "Z", Cond.methodLink RX5 16 yX5_loopAt, Cond.instanceMethod yX5_loopAt, Cond.selects RX5 yX5_loopAt yX5_loopAt, Cond.initialized RX5, Cond.code yX5_loopAt cX5_loopAt 2 (some (.object "ControlBench$Loop")), Cond.classLink RX5 209 "java/lang/IndexOutOfBoundsException", Cond.initialized "java/lang/IndexOutOfBoundsException", Cond.fieldLink RX5 11 "ControlBench" "loops" "[LControlBench$Loop;", Cond.methodLink RX5 24 yX5_requireWithin, Cond.static yX5_requireWithin, Cond.code yX5_requireWithin cX5_requireWithin 3 none, Cond.methodLink RX5 81 yX5_requireArgument, Cond.static yX5_requireArgument, Cond.code yX5_requireArgument cX5_requireArgument 1 none, Cond.classLink RX5 220 "java/lang/IllegalArgumentException", Cond.initialized "java/lang/IllegalArgumentException", Cond.methodLink RX5 52 yX5_requireState, Cond.static yX5_requireState, Cond.code yX5_requireState cX5_requireState 1 none, Cond.classLink RX5 225 "java/lang/IllegalStateException", Cond.initialized "java/lang/IllegalStateException", Cond.methodLink RX5 118 yX1_changeMode]
def wsX5_setMode_r2 : List Cond := [Cond.instanceMethod yX1_changeMode, Cond.selects RX1 yX1_changeMode yX1_changeMode, Cond.initialized RX1, Cond.code yX1_changeMode cX1_changeMode 2 none, Cond.fieldLink RX1 41 "ControlBench$Loop" "mode" "I", Cond.fieldLink RX1 23 "ControlBench$Loop" "controller" "LControlBench$Controller;", Cond.fieldLink RX1 48 "ControlBench$Loop" "output" "J", Cond.methodLink RX1 45 yX1_goToHand, Cond.instanceMethod yX1_goToHand, Cond.selects RX1 yX1_goToHand yX1_goToHand, Cond.code yX1_goToHand cX1_goToHand 1 none, Cond.fieldLink RX1 56 "ControlBench$Loop" "handValue" "J", Cond.fieldLink RX1 37 "ControlBench$Loop" "relay" "LControlBench$Relay;", Cond.methodLink RX1 59 yX3_giveUp, Cond.instanceMethod yX3_giveUp, Cond.selects RX3 yX3_giveUp yX3_giveUp, Cond.initialized RX3, Cond.code yX3_giveUp cX3_giveUp 1 none, Cond.fieldLink RX3 9 "ControlBench$Relay" "progress" "I", Cond.methodLink RX1 52 yX0_settle, Cond.instanceMethod yX0_settle, Cond.selects RX0 yX0_settle yX0_settle, Cond.initialized RX0, Cond.code yX0_settle cX0_settle 3 none]
def wsX5_setMode_r3 : List Cond := [Cond.constantLong RX0 61 (1000), Cond.fieldLink RX0 7 "ControlBench$Controller" "p" "I", Cond.fieldLink RX0 55 "ControlBench$Controller" "d" "I", Cond.fieldLink RX0 48 "ControlBench$Controller" "integral" "J", Cond.fieldLink RX0 63 "ControlBench$Controller" "goesOn" "Z", Cond.methodLink RX0 51 yX0_error, Cond.instanceMethod yX0_error, Cond.selects RX0 yX0_error yX0_error, Cond.code yX0_error cX0_error 1 (some .long), Cond.fieldLink RX0 27 "ControlBench$Controller" "setpoint" "J", Cond.fieldLink RX0 23 "ControlBench$Controller" "plant" "LControlBench$Plant;", Cond.fieldLink RX0 31 "ControlBench$Plant" "measure" "J", Cond.methodLink RX0 58 yX0_rate, Cond.instanceMethod yX0_rate, Cond.selects RX0 yX0_rate yX0_rate, Cond.code yX0_rate cX0_rate 1 (some .long), Cond.fieldLink RX0 36 "ControlBench$Plant" "measureBefore" "J"]
def wsX5_setMode : List Cond := .code yX5_setMode cX5_setMode 5 (some .int) :: ((wsX5_setMode_r1 ++ (wsX5_setMode_r2 ++ wsX5_setMode_r3)) ++ wsX10 ++ wsX50 ++ wsX30 ++ wsX00 ++ wsX20 ++ (vx_atS RX5 213 "java/lang/IndexOutOfBoundsException" ["java/lang/RuntimeException", "java/lang/Exception"]).filter goodWord ++ (vx_atS RX5 224 "java/lang/IllegalArgumentException" ["java/lang/RuntimeException", "java/lang/Exception"]).filter goodWord ++ (vx_atS RX5 229 "java/lang/IllegalStateException" ["java/lang/RuntimeException", "java/lang/Exception"]).filter goodWord)
def wsX5_takeTurn_r1 : List Cond := [Cond.fieldLink RX5 11 "ControlBench" "loops" "[LControlBench$Loop;", Cond.fieldLink RX5 49 "ControlBench$Loop" "mode" "I", Cond.fieldLink RX5 56 "ControlBench$Loop" "controller" "LControlBench$Controller;", Cond.fieldLink RX5 131 "ControlBench$Loop" "output" "J", Cond.fieldLink RX5 104 "ControlBench$Controller" "setpoint" "J", Cond.fieldLink RX5 160 "ControlBench$Loop" "starved" "Z", Cond.methodLink RX5 237 yX1_isStarvedBy, Cond.instanceMethod yX1_isStarvedBy, Cond.selects RX1 yX1_isStarvedBy yX1_isStarvedBy, Cond.initialized RX1, Cond.code yX1_isStarvedBy cX1_isStarvedBy 3 (some .boolean), Cond.fieldLink RX1 41 "ControlBench$Loop" "mode" "I", Cond.fieldLink RX1 62 "ControlBench$Loop" "hasMaster" "Z", Cond.methodLink RX5 241 yX1_giveWay, Cond.instanceMethod yX1_giveWay, Cond.selects RX1 yX1_giveWay yX1_giveWay, Cond.code yX1_giveWay cX1_giveWay 3 none, Cond.fieldLink RX1 66 "ControlBench$Loop" "starved" "Z", Cond.fieldLink RX1 23 "ControlBench$Loop" "controller" "LControlBench$Controller;", Cond.fieldLink RX1 48 "ControlBench$Loop" "output" "J", Cond.methodLink RX1 69 yX0_withinLimits, Cond.instanceMethod yX0_withinLimits, Cond.selects RX0 yX0_withinLimits yX0_withinLimits, Cond.initialized RX0]
def wsX5_takeTurn_r2 : List Cond := [Cond.code yX0_withinLimits cX0_withinLimits 3 (some .long), Cond.fieldLink RX0 39 "ControlBench$Controller" "low" "I", Cond.fieldLink RX0 17 "ControlBench$Controller" "high" "I", Cond.static yX5_hold, Cond.initialized RX5, Cond.code yX5_hold cX5_hold 6 (some .long), Cond.methodLink RX5 196 Lib.MathLoose.min_long.x, Cond.static Lib.MathLoose.min_long.x, Cond.initialized "java/lang/Math", Cond.code Lib.MathLoose.min_long.x Lib.MathLoose.min_long.code 4 (some .long), Cond.methodLink RX5 253 Lib.MathLoose.max_long.x, Cond.static Lib.MathLoose.max_long.x, Cond.code Lib.MathLoose.max_long.x Lib.MathLoose.max_long.code 4 (some .long), Cond.methodLink RX1 52 yX0_settle, Cond.instanceMethod yX0_settle, Cond.selects RX0 yX0_settle yX0_settle, Cond.code yX0_settle cX0_settle 3 none, Cond.constantLong RX0 61 (1000), Cond.fieldLink RX0 7 "ControlBench$Controller" "p" "I", Cond.fieldLink RX0 55 "ControlBench$Controller" "d" "I", Cond.fieldLink RX0 48 "ControlBench$Controller" "integral" "J", Cond.fieldLink RX0 63 "ControlBench$Controller" "goesOn" "Z", Cond.methodLink RX0 51 yX0_error, Cond.instanceMethod yX0_error]
def wsX5_takeTurn_r3 : List Cond := [Cond.selects RX0 yX0_error yX0_error, Cond.code yX0_error cX0_error 1 (some .long), Cond.fieldLink RX0 27 "ControlBench$Controller" "setpoint" "J", Cond.fieldLink RX0 23 "ControlBench$Controller" "plant" "LControlBench$Plant;", Cond.fieldLink RX0 31 "ControlBench$Plant" "measure" "J", Cond.methodLink RX0 58 yX0_rate, Cond.instanceMethod yX0_rate, Cond.selects RX0 yX0_rate yX0_rate, Cond.code yX0_rate cX0_rate 1 (some .long), Cond.fieldLink RX0 36 "ControlBench$Plant" "measureBefore" "J", Cond.methodLink RX5 244 yX1_actByHand, Cond.instanceMethod yX1_actByHand, Cond.selects RX1 yX1_actByHand yX1_actByHand, Cond.code yX1_actByHand cX1_actByHand 1 none, Cond.fieldLink RX1 73 "ControlBench$Loop" "follows" "Z", Cond.fieldLink RX1 12 "ControlBench$Loop" "plant" "LControlBench$Plant;", Cond.fieldLink RX1 76 "ControlBench$Plant" "measure" "J", Cond.fieldLink RX1 79 "ControlBench$Controller" "setpoint" "J", Cond.fieldLink RX1 56 "ControlBench$Loop" "handValue" "J", Cond.methodLink RX5 247 yX1_actAsRelay, Cond.instanceMethod yX1_actAsRelay, Cond.selects RX1 yX1_actAsRelay yX1_actAsRelay, Cond.code yX1_actAsRelay cX1_actAsRelay 1 none, Cond.fieldLink RX1 37 "ControlBench$Loop" "relay" "LControlBench$Relay;"]
def wsX5_takeTurn_r4 : List Cond := [Cond.fieldLink RX1 118 "ControlBench$Relay" "progress" "I", Cond.fieldLink RX1 121 "ControlBench$Relay" "center" "J", Cond.methodLink RX1 108 yX0_error, Cond.methodLink RX1 111 yX3_sample, Cond.instanceMethod yX3_sample, Cond.selects RX3 yX3_sample yX3_sample, Cond.initialized RX3, Cond.code yX3_sample cX3_sample 6 none, Cond.fieldLink RX3 27 "ControlBench$Relay" "samples" "I", Cond.fieldLink RX3 23 "ControlBench$Relay" "up" "Z", Cond.fieldLink RX3 20 "ControlBench$Relay" "band" "I", Cond.fieldLink RX3 37 "ControlBench$Relay" "greatest" "J", Cond.methodLink RX3 40 Lib.MathLoose.max_long.x, Cond.fieldLink RX3 46 "ControlBench$Relay" "least" "J", Cond.methodLink RX3 49 Lib.MathLoose.min_long.x, Cond.fieldLink RX3 9 "ControlBench$Relay" "progress" "I", Cond.methodLink RX3 33 yX3_noteRise, Cond.instanceMethod yX3_noteRise, Cond.selects RX3 yX3_noteRise yX3_noteRise, Cond.code yX3_noteRise cX3_noteRise 3 none, Cond.fieldLink RX3 30 "ControlBench$Relay" "rises" "I", Cond.fieldLink RX3 52 "ControlBench$Relay" "sampleOfSecondRise" "I", Cond.fieldLink RX3 55 "ControlBench$Relay" "period" "I", Cond.fieldLink RX3 58 "ControlBench$Relay" "swing" "J"]
def wsX5_takeTurn_r5 : List Cond := [Cond.methodLink RX1 115 yX3_wanted, Cond.instanceMethod yX3_wanted, Cond.selects RX3 yX3_wanted yX3_wanted, Cond.code yX3_wanted cX3_wanted 1 (some .long), Cond.fieldLink RX3 13 "ControlBench$Relay" "center" "J", Cond.fieldLink RX3 17 "ControlBench$Relay" "height" "I", Cond.methodLink RX5 250 yX1_actAutomatically, Cond.instanceMethod yX1_actAutomatically, Cond.selects RX1 yX1_actAutomatically yX1_actAutomatically, Cond.code yX1_actAutomatically cX1_actAutomatically 4 none, Cond.fieldLink RX1 30 "ControlBench$Loop" "schedule" "LControlBench$Schedule;", Cond.methodLink RX1 82 yX4_hasPoints, Cond.instanceMethod yX4_hasPoints, Cond.selects RX4 yX4_hasPoints yX4_hasPoints, Cond.initialized RX4, Cond.code yX4_hasPoints cX4_hasPoints 1 (some .boolean), Cond.fieldLink RX4 22 "ControlBench$Schedule" "points" "I", Cond.methodLink RX1 86 yX4_pointsReached, Cond.instanceMethod yX4_pointsReached, Cond.selects RX4 yX4_pointsReached yX4_pointsReached, Cond.code yX4_pointsReached cX4_pointsReached 4 (some .int), Cond.fieldLink RX4 9 "ControlBench$Schedule" "measures" "[I", Cond.methodLink RX1 90 yX4_pAt, Cond.instanceMethod yX4_pAt]
def wsX5_takeTurn_r6 : List Cond := [Cond.selects RX4 yX4_pAt yX4_pAt, Cond.code yX4_pAt cX4_pAt 4 (some .int), Cond.fieldLink RX4 13 "ControlBench$Schedule" "ps" "[I", Cond.methodLink RX4 26 yX4_gainAt, Cond.instanceMethod yX4_gainAt, Cond.selects RX4 yX4_gainAt yX4_gainAt, Cond.code yX4_gainAt cX4_gainAt 10 (some .int), Cond.methodLink RX4 30 Lib.Math.min.name, Cond.static Lib.Math.min.name, Cond.code Lib.Math.min.name Lib.Math.min.code 2 (some .int), Cond.methodLink RX4 36 yJ9_floorDiv_f86c9, Cond.static yJ9_floorDiv_f86c9, Cond.initialized RJ9, Cond.code yJ9_floorDiv_f86c9 cJ9_floorDiv_f86c9 6 (some .long), Cond.methodLink RX1 94 yX4_iAt, Cond.instanceMethod yX4_iAt, Cond.selects RX4 yX4_iAt yX4_iAt, Cond.code yX4_iAt cX4_iAt 4 (some .int), Cond.fieldLink RX4 16 "ControlBench$Schedule" "is" "[I", Cond.methodLink RX1 97 yX4_dAt, Cond.instanceMethod yX4_dAt, Cond.selects RX4 yX4_dAt yX4_dAt, Cond.code yX4_dAt cX4_dAt 4 (some .int), Cond.fieldLink RX4 19 "ControlBench$Schedule" "ds" "[I"]
def wsX5_takeTurn_r7 : List Cond := [Cond.methodLink RX1 100 yX0_changeGains, Cond.instanceMethod yX0_changeGains, Cond.selects RX0 yX0_changeGains yX0_changeGains, Cond.code yX0_changeGains cX0_changeGains 4 none, Cond.fieldLink RX0 13 "ControlBench$Controller" "i" "I", Cond.methodLink RX1 104 yX0_automaticSample, Cond.instanceMethod yX0_automaticSample, Cond.selects RX0 yX0_automaticSample yX0_automaticSample, Cond.code yX0_automaticSample cX0_automaticSample 11 (some .long), Cond.fieldLink RX0 81 "ControlBench$Controller" "heldSamples" "I", Cond.methodLink RX0 67 yX0_countIncrements, Cond.instanceMethod yX0_countIncrements, Cond.selects RX0 yX0_countIncrements yX0_countIncrements, Cond.code yX0_countIncrements cX0_countIncrements 7 none, Cond.fieldLink RX0 87 "ControlBench$Controller" "sumByIncrements" "J", Cond.fieldLink RX0 90 "ControlBench$Controller" "latestError" "J", Cond.fieldLink RX0 93 "ControlBench$Controller" "latestRate" "J", Cond.methodLink RX0 71 yJ9_floorDiv_f86c9, Cond.methodLink RX0 77 yX0_withinLimits, Cond.methodLink RX0 84 yX0_guardAgainstWindup, Cond.instanceMethod yX0_guardAgainstWindup, Cond.selects RX0 yX0_guardAgainstWindup yX0_guardAgainstWindup, Cond.code yX0_guardAgainstWindup cX0_guardAgainstWindup 8 none, Cond.fieldLink RX0 96 "ControlBench$Controller" "guard" "I"]
def wsX5_takeTurn_r8 : List Cond := [Cond.fieldLink RX0 20 "ControlBench$Controller" "share" "I"]
def wsX5_takeTurn : List Cond := .code yX5_takeTurn cX5_takeTurn 3 none :: ((wsX5_takeTurn_r1 ++ (wsX5_takeTurn_r2 ++ (wsX5_takeTurn_r3 ++ (wsX5_takeTurn_r4 ++ (wsX5_takeTurn_r5 ++ (wsX5_takeTurn_r6 ++ (wsX5_takeTurn_r7 ++ wsX5_takeTurn_r8))))))) ++ wsX50 ++ wsX10 ++ wsX00 ++ wsX20 ++ wsX30 ++ wsX40)
def wsX5_letOneSampleGoBy_r1 : List Cond := [Cond.fieldLink RX5 11 "ControlBench" "loops" "[LControlBench$Loop;", Cond.fieldLink RX5 20 "ControlBench$Loop" "plant" "LControlBench$Plant;", Cond.fieldLink RX5 131 "ControlBench$Loop" "output" "J", Cond.methodLink RX5 230 yX5_takeTurn, Cond.instanceMethod yX5_takeTurn, Cond.selects RX5 yX5_takeTurn yX5_takeTurn, Cond.initialized RX5, Cond.code yX5_takeTurn cX5_takeTurn 3 none, Cond.fieldLink RX5 49 "ControlBench$Loop" "mode" "I", Cond.fieldLink RX5 56 "ControlBench$Loop" "controller" "LControlBench$Controller;", Cond.fieldLink RX5 104 "ControlBench$Controller" "setpoint" "J", Cond.fieldLink RX5 160 "ControlBench$Loop" "starved" "Z", Cond.methodLink RX5 237 yX1_isStarvedBy, Cond.instanceMethod yX1_isStarvedBy, Cond.selects RX1 yX1_isStarvedBy yX1_isStarvedBy, Cond.initialized RX1, Cond.code yX1_isStarvedBy cX1_isStarvedBy 3 (some .boolean), Cond.fieldLink RX1 41 "ControlBench$Loop" "mode" "I", Cond.fieldLink RX1 62 "ControlBench$Loop" "hasMaster" "Z", Cond.methodLink RX5 241 yX1_giveWay, Cond.instanceMethod yX1_giveWay, Cond.selects RX1 yX1_giveWay yX1_giveWay, Cond.code yX1_giveWay cX1_giveWay 3 none, Cond.fieldLink RX1 66 "ControlBench$Loop" "starved" "Z"]
def wsX5_letOneSampleGoBy_r2 : List Cond := [Cond.fieldLink RX1 23 "ControlBench$Loop" "controller" "LControlBench$Controller;", Cond.fieldLink RX1 48 "ControlBench$Loop" "output" "J", Cond.methodLink RX1 69 yX0_withinLimits, Cond.instanceMethod yX0_withinLimits, Cond.selects RX0 yX0_withinLimits yX0_withinLimits, Cond.initialized RX0, Cond.code yX0_withinLimits cX0_withinLimits 3 (some .long), Cond.fieldLink RX0 39 "ControlBench$Controller" "low" "I", Cond.fieldLink RX0 17 "ControlBench$Controller" "high" "I", Cond.static yX5_hold, Cond.code yX5_hold cX5_hold 6 (some .long), Cond.methodLink RX5 196 Lib.MathLoose.min_long.x, Cond.static Lib.MathLoose.min_long.x, Cond.initialized "java/lang/Math", Cond.code Lib.MathLoose.min_long.x Lib.MathLoose.min_long.code 4 (some .long), Cond.methodLink RX5 253 Lib.MathLoose.max_long.x, Cond.static Lib.MathLoose.max_long.x, Cond.code Lib.MathLoose.max_long.x Lib.MathLoose.max_long.code 4 (some .long), Cond.methodLink RX1 52 yX0_settle, Cond.instanceMethod yX0_settle, Cond.selects RX0 yX0_settle yX0_settle, Cond.code yX0_settle cX0_settle 3 none, Cond.constantLong RX0 61 (1000), Cond.fieldLink RX0 7 "ControlBench$Controller" "p" "I"]
def wsX5_letOneSampleGoBy_r3 : List Cond := [Cond.fieldLink RX0 55 "ControlBench$Controller" "d" "I", Cond.fieldLink RX0 48 "ControlBench$Controller" "integral" "J", Cond.fieldLink RX0 63 "ControlBench$Controller" "goesOn" "Z", Cond.methodLink RX0 51 yX0_error, Cond.instanceMethod yX0_error, Cond.selects RX0 yX0_error yX0_error, Cond.code yX0_error cX0_error 1 (some .long), Cond.fieldLink RX0 27 "ControlBench$Controller" "setpoint" "J", Cond.fieldLink RX0 23 "ControlBench$Controller" "plant" "LControlBench$Plant;", Cond.fieldLink RX0 31 "ControlBench$Plant" "measure" "J", Cond.methodLink RX0 58 yX0_rate, Cond.instanceMethod yX0_rate, Cond.selects RX0 yX0_rate yX0_rate, Cond.code yX0_rate cX0_rate 1 (some .long), Cond.fieldLink RX0 36 "ControlBench$Plant" "measureBefore" "J", Cond.methodLink RX5 244 yX1_actByHand, Cond.instanceMethod yX1_actByHand, Cond.selects RX1 yX1_actByHand yX1_actByHand, Cond.code yX1_actByHand cX1_actByHand 1 none, Cond.fieldLink RX1 73 "ControlBench$Loop" "follows" "Z", Cond.fieldLink RX1 12 "ControlBench$Loop" "plant" "LControlBench$Plant;", Cond.fieldLink RX1 76 "ControlBench$Plant" "measure" "J", Cond.fieldLink RX1 79 "ControlBench$Controller" "setpoint" "J", Cond.fieldLink RX1 56 "ControlBench$Loop" "handValue" "J"]
def wsX5_letOneSampleGoBy_r4 : List Cond := [Cond.methodLink RX5 247 yX1_actAsRelay, Cond.instanceMethod yX1_actAsRelay, Cond.selects RX1 yX1_actAsRelay yX1_actAsRelay, Cond.code yX1_actAsRelay cX1_actAsRelay 1 none, Cond.fieldLink RX1 37 "ControlBench$Loop" "relay" "LControlBench$Relay;", Cond.fieldLink RX1 118 "ControlBench$Relay" "progress" "I", Cond.fieldLink RX1 121 "ControlBench$Relay" "center" "J", Cond.methodLink RX1 108 yX0_error, Cond.methodLink RX1 111 yX3_sample, Cond.instanceMethod yX3_sample, Cond.selects RX3 yX3_sample yX3_sample, Cond.initialized RX3, Cond.code yX3_sample cX3_sample 6 none, Cond.fieldLink RX3 27 "ControlBench$Relay" "samples" "I", Cond.fieldLink RX3 23 "ControlBench$Relay" "up" "Z", Cond.fieldLink RX3 20 "ControlBench$Relay" "band" "I", Cond.fieldLink RX3 37 "ControlBench$Relay" "greatest" "J", Cond.methodLink RX3 40 Lib.MathLoose.max_long.x, Cond.fieldLink RX3 46 "ControlBench$Relay" "least" "J", Cond.methodLink RX3 49 Lib.MathLoose.min_long.x, Cond.fieldLink RX3 9 "ControlBench$Relay" "progress" "I", Cond.methodLink RX3 33 yX3_noteRise, Cond.instanceMethod yX3_noteRise, Cond.selects RX3 yX3_noteRise yX3_noteRise]
def wsX5_letOneSampleGoBy_r5 : List Cond := [Cond.code yX3_noteRise cX3_noteRise 3 none, Cond.fieldLink RX3 30 "ControlBench$Relay" "rises" "I", Cond.fieldLink RX3 52 "ControlBench$Relay" "sampleOfSecondRise" "I", Cond.fieldLink RX3 55 "ControlBench$Relay" "period" "I", Cond.fieldLink RX3 58 "ControlBench$Relay" "swing" "J", Cond.methodLink RX1 115 yX3_wanted, Cond.instanceMethod yX3_wanted, Cond.selects RX3 yX3_wanted yX3_wanted, Cond.code yX3_wanted cX3_wanted 1 (some .long), Cond.fieldLink RX3 13 "ControlBench$Relay" "center" "J", Cond.fieldLink RX3 17 "ControlBench$Relay" "height" "I", Cond.methodLink RX5 250 yX1_actAutomatically, Cond.instanceMethod yX1_actAutomatically, Cond.selects RX1 yX1_actAutomatically yX1_actAutomatically, Cond.code yX1_actAutomatically cX1_actAutomatically 4 none, Cond.fieldLink RX1 30 "ControlBench$Loop" "schedule" "LControlBench$Schedule;", Cond.methodLink RX1 82 yX4_hasPoints, Cond.instanceMethod yX4_hasPoints, Cond.selects RX4 yX4_hasPoints yX4_hasPoints, Cond.initialized RX4, Cond.code yX4_hasPoints cX4_hasPoints 1 (some .boolean), Cond.fieldLink RX4 22 "ControlBench$Schedule" "points" "I", Cond.methodLink RX1 86 yX4_pointsReached, Cond.instanceMethod yX4_pointsReached]
def wsX5_letOneSampleGoBy_r6 : List Cond := [Cond.selects RX4 yX4_pointsReached yX4_pointsReached, Cond.code yX4_pointsReached cX4_pointsReached 4 (some .int), Cond.fieldLink RX4 9 "ControlBench$Schedule" "measures" "[I", Cond.methodLink RX1 90 yX4_pAt, Cond.instanceMethod yX4_pAt, Cond.selects RX4 yX4_pAt yX4_pAt, Cond.code yX4_pAt cX4_pAt 4 (some .int), Cond.fieldLink RX4 13 "ControlBench$Schedule" "ps" "[I", Cond.methodLink RX4 26 yX4_gainAt, Cond.instanceMethod yX4_gainAt, Cond.selects RX4 yX4_gainAt yX4_gainAt, Cond.code yX4_gainAt cX4_gainAt 10 (some .int), Cond.methodLink RX4 30 Lib.Math.min.name, Cond.static Lib.Math.min.name, Cond.code Lib.Math.min.name Lib.Math.min.code 2 (some .int), Cond.methodLink RX4 36 yJ9_floorDiv_f86c9, Cond.static yJ9_floorDiv_f86c9, Cond.initialized RJ9, Cond.code yJ9_floorDiv_f86c9 cJ9_floorDiv_f86c9 6 (some .long), Cond.methodLink RX1 94 yX4_iAt, Cond.instanceMethod yX4_iAt, Cond.selects RX4 yX4_iAt yX4_iAt, Cond.code yX4_iAt cX4_iAt 4 (some .int), Cond.fieldLink RX4 16 "ControlBench$Schedule" "is" "[I"]
def wsX5_letOneSampleGoBy_r7 : List Cond := [Cond.methodLink RX1 97 yX4_dAt, Cond.instanceMethod yX4_dAt, Cond.selects RX4 yX4_dAt yX4_dAt, Cond.code yX4_dAt cX4_dAt 4 (some .int), Cond.fieldLink RX4 19 "ControlBench$Schedule" "ds" "[I", Cond.methodLink RX1 100 yX0_changeGains, Cond.instanceMethod yX0_changeGains, Cond.selects RX0 yX0_changeGains yX0_changeGains, Cond.code yX0_changeGains cX0_changeGains 4 none, Cond.fieldLink RX0 13 "ControlBench$Controller" "i" "I", Cond.methodLink RX1 104 yX0_automaticSample, Cond.instanceMethod yX0_automaticSample, Cond.selects RX0 yX0_automaticSample yX0_automaticSample, Cond.code yX0_automaticSample cX0_automaticSample 11 (some .long), Cond.fieldLink RX0 81 "ControlBench$Controller" "heldSamples" "I", Cond.methodLink RX0 67 yX0_countIncrements, Cond.instanceMethod yX0_countIncrements, Cond.selects RX0 yX0_countIncrements yX0_countIncrements, Cond.code yX0_countIncrements cX0_countIncrements 7 none, Cond.fieldLink RX0 87 "ControlBench$Controller" "sumByIncrements" "J", Cond.fieldLink RX0 90 "ControlBench$Controller" "latestError" "J", Cond.fieldLink RX0 93 "ControlBench$Controller" "latestRate" "J", Cond.methodLink RX0 71 yJ9_floorDiv_f86c9, Cond.methodLink RX0 77 yX0_withinLimits]
def wsX5_letOneSampleGoBy_r8 : List Cond := [Cond.methodLink RX0 84 yX0_guardAgainstWindup, Cond.instanceMethod yX0_guardAgainstWindup, Cond.selects RX0 yX0_guardAgainstWindup yX0_guardAgainstWindup, Cond.code yX0_guardAgainstWindup cX0_guardAgainstWindup 8 none, Cond.fieldLink RX0 96 "ControlBench$Controller" "guard" "I", Cond.fieldLink RX0 20 "ControlBench$Controller" "share" "I", Cond.methodLink RX5 233 yX2_goOn, Cond.instanceMethod yX2_goOn, Cond.selects RX2 yX2_goOn yX2_goOn, Cond.initialized RX2, Cond.code yX2_goOn cX2_goOn 7 none, Cond.fieldLink RX2 22 "ControlBench$Plant" "latest" "I", Cond.fieldLink RX2 18 "ControlBench$Plant" "outputs" "[J", Cond.fieldLink RX2 31 "ControlBench$Plant" "deadTime" "I", Cond.fieldLink RX2 9 "ControlBench$Plant" "a1" "I", Cond.fieldLink RX2 34 "ControlBench$Plant" "measure" "J", Cond.fieldLink RX2 38 "ControlBench$Plant" "a2" "I", Cond.fieldLink RX2 41 "ControlBench$Plant" "measureBefore" "J", Cond.fieldLink RX2 15 "ControlBench$Plant" "b" "I", Cond.constantLong RX2 44 (1000), Cond.fieldLink RX2 50 "ControlBench$Plant" "load" "I", Cond.constantLong RX2 53 (-1000000), Cond.constantLong RX2 55 (1000000), Cond.methodLink RX2 25 yJ9_floorMod_7cf53]
def wsX5_letOneSampleGoBy_r9 : List Cond := [Cond.static yJ9_floorMod_7cf53, Cond.code yJ9_floorMod_7cf53 cJ9_floorMod_7cf53 3 (some .int), Cond.methodLink RX2 46 yJ9_floorDiv_f86c9]
def wsX5_letOneSampleGoBy : List Cond := .code yX5_letOneSampleGoBy cX5_letOneSampleGoBy 2 none :: ((wsX5_letOneSampleGoBy_r1 ++ (wsX5_letOneSampleGoBy_r2 ++ (wsX5_letOneSampleGoBy_r3 ++ (wsX5_letOneSampleGoBy_r4 ++ (wsX5_letOneSampleGoBy_r5 ++ (wsX5_letOneSampleGoBy_r6 ++ (wsX5_letOneSampleGoBy_r7 ++ (wsX5_letOneSampleGoBy_r8 ++ wsX5_letOneSampleGoBy_r9)))))))) ++ wsX50 ++ wsX10 ++ wsX00 ++ wsX20 ++ wsX30 ++ wsX40)
def wsX5_run_r1 : List Cond := [Cond.fieldLink RX5 125 "ControlBench" "samplesSoFar" "I", Cond.methodLink RX5 24 yX5_requireWithin, Cond.static yX5_requireWithin, Cond.initialized RX5, Cond.code yX5_requireWithin cX5_requireWithin 3 none, Cond.methodLink RX5 81 yX5_requireArgument, Cond.static yX5_requireArgument, Cond.code yX5_requireArgument cX5_requireArgument 1 none, Cond.classLink RX5 220 "java/lang/IllegalArgumentException", Cond.initialized "java/lang/IllegalArgumentException", Cond.methodLink RX5 122 yX5_letOneSampleGoBy, Cond.instanceMethod yX5_letOneSampleGoBy, Cond.selects RX5 yX5_letOneSampleGoBy yX5_letOneSampleGoBy, Cond.code yX5_letOneSampleGoBy cX5_letOneSampleGoBy 2 none, Cond.fieldLink RX5 11 "ControlBench" "loops" "[LControlBench$Loop;", Cond.fieldLink RX5 20 "ControlBench$Loop" "plant" "LControlBench$Plant;", Cond.fieldLink RX5 131 "ControlBench$Loop" "output" "J", Cond.methodLink RX5 230 yX5_takeTurn, Cond.instanceMethod yX5_takeTurn, Cond.selects RX5 yX5_takeTurn yX5_takeTurn, Cond.code yX5_takeTurn cX5_takeTurn 3 none, Cond.fieldLink RX5 49 "ControlBench$Loop" "mode" "I", Cond.fieldLink RX5 56 "ControlBench$Loop" "controller" "LControlBench$Controller;", Cond.fieldLink RX5 104 "ControlBench$Controller" "setpoint" "J"]
def wsX5_run_r2 : List Cond := [Cond.fieldLink RX5 160 "ControlBench$Loop" "starved" "Z", Cond.methodLink RX5 237 yX1_isStarvedBy, Cond.instanceMethod yX1_isStarvedBy, Cond.selects RX1 yX1_isStarvedBy yX1_isStarvedBy, Cond.initialized RX1, Cond.code yX1_isStarvedBy cX1_isStarvedBy 3 (some .boolean), Cond.fieldLink RX1 41 "ControlBench$Loop" "mode" "I", Cond.fieldLink RX1 62 "ControlBench$Loop" "hasMaster" "Z", Cond.methodLink RX5 241 yX1_giveWay, Cond.instanceMethod yX1_giveWay, Cond.selects RX1 yX1_giveWay yX1_giveWay, Cond.code yX1_giveWay cX1_giveWay 3 none, Cond.fieldLink RX1 66 "ControlBench$Loop" "starved" "Z", Cond.fieldLink RX1 23 "ControlBench$Loop" "controller" "LControlBench$Controller;", Cond.fieldLink RX1 48 "ControlBench$Loop" "output" "J", Cond.methodLink RX1 69 yX0_withinLimits, Cond.instanceMethod yX0_withinLimits, Cond.selects RX0 yX0_withinLimits yX0_withinLimits, Cond.initialized RX0, Cond.code yX0_withinLimits cX0_withinLimits 3 (some .long), Cond.fieldLink RX0 39 "ControlBench$Controller" "low" "I", Cond.fieldLink RX0 17 "ControlBench$Controller" "high" "I", Cond.static yX5_hold, Cond.code yX5_hold cX5_hold 6 (some .long)]
def wsX5_run_r3 : List Cond := [Cond.methodLink RX5 196 Lib.MathLoose.min_long.x, Cond.static Lib.MathLoose.min_long.x, Cond.initialized "java/lang/Math", Cond.code Lib.MathLoose.min_long.x Lib.MathLoose.min_long.code 4 (some .long), Cond.methodLink RX5 253 Lib.MathLoose.max_long.x, Cond.static Lib.MathLoose.max_long.x, Cond.code Lib.MathLoose.max_long.x Lib.MathLoose.max_long.code 4 (some .long), Cond.methodLink RX1 52 yX0_settle, Cond.instanceMethod yX0_settle, Cond.selects RX0 yX0_settle yX0_settle, Cond.code yX0_settle cX0_settle 3 none, Cond.constantLong RX0 61 (1000), Cond.fieldLink RX0 7 "ControlBench$Controller" "p" "I", Cond.fieldLink RX0 55 "ControlBench$Controller" "d" "I", Cond.fieldLink RX0 48 "ControlBench$Controller" "integral" "J", Cond.fieldLink RX0 63 "ControlBench$Controller" "goesOn" "Z", Cond.methodLink RX0 51 yX0_error, Cond.instanceMethod yX0_error, Cond.selects RX0 yX0_error yX0_error, Cond.code yX0_error cX0_error 1 (some .long), Cond.fieldLink RX0 27 "ControlBench$Controller" "setpoint" "J", Cond.fieldLink RX0 23 "ControlBench$Controller" "plant" "LControlBench$Plant;", Cond.fieldLink RX0 31 "ControlBench$Plant" "measure" "J", Cond.methodLink RX0 58 yX0_rate]
def wsX5_run_r4 : List Cond := [Cond.instanceMethod yX0_rate, Cond.selects RX0 yX0_rate yX0_rate, Cond.code yX0_rate cX0_rate 1 (some .long), Cond.fieldLink RX0 36 "ControlBench$Plant" "measureBefore" "J", Cond.methodLink RX5 244 yX1_actByHand, Cond.instanceMethod yX1_actByHand, Cond.selects RX1 yX1_actByHand yX1_actByHand, Cond.code yX1_actByHand cX1_actByHand 1 none, Cond.fieldLink RX1 73 "ControlBench$Loop" "follows" "Z", Cond.fieldLink RX1 12 "ControlBench$Loop" "plant" "LControlBench$Plant;", Cond.fieldLink RX1 76 "ControlBench$Plant" "measure" "J", Cond.fieldLink RX1 79 "ControlBench$Controller" "setpoint" "J", Cond.fieldLink RX1 56 "ControlBench$Loop" "handValue" "J", Cond.methodLink RX5 247 yX1_actAsRelay, Cond.instanceMethod yX1_actAsRelay, Cond.selects RX1 yX1_actAsRelay yX1_actAsRelay, Cond.code yX1_actAsRelay cX1_actAsRelay 1 none, Cond.fieldLink RX1 37 "ControlBench$Loop" "relay" "LControlBench$Relay;", Cond.fieldLink RX1 118 "ControlBench$Relay" "progress" "I", Cond.fieldLink RX1 121 "ControlBench$Relay" "center" "J", Cond.methodLink RX1 108 yX0_error, Cond.methodLink RX1 111 yX3_sample, Cond.instanceMethod yX3_sample, Cond.selects RX3 yX3_sample yX3_sample]
def wsX5_run_r5 : List Cond := [Cond.initialized RX3, Cond.code yX3_sample cX3_sample 6 none, Cond.fieldLink RX3 27 "ControlBench$Relay" "samples" "I", Cond.fieldLink RX3 23 "ControlBench$Relay" "up" "Z", Cond.fieldLink RX3 20 "ControlBench$Relay" "band" "I", Cond.fieldLink RX3 37 "ControlBench$Relay" "greatest" "J", Cond.methodLink RX3 40 Lib.MathLoose.max_long.x, Cond.fieldLink RX3 46 "ControlBench$Relay" "least" "J", Cond.methodLink RX3 49 Lib.MathLoose.min_long.x, Cond.fieldLink RX3 9 "ControlBench$Relay" "progress" "I", Cond.methodLink RX3 33 yX3_noteRise, Cond.instanceMethod yX3_noteRise, Cond.selects RX3 yX3_noteRise yX3_noteRise, Cond.code yX3_noteRise cX3_noteRise 3 none, Cond.fieldLink RX3 30 "ControlBench$Relay" "rises" "I", Cond.fieldLink RX3 52 "ControlBench$Relay" "sampleOfSecondRise" "I", Cond.fieldLink RX3 55 "ControlBench$Relay" "period" "I", Cond.fieldLink RX3 58 "ControlBench$Relay" "swing" "J", Cond.methodLink RX1 115 yX3_wanted, Cond.instanceMethod yX3_wanted, Cond.selects RX3 yX3_wanted yX3_wanted, Cond.code yX3_wanted cX3_wanted 1 (some .long), Cond.fieldLink RX3 13 "ControlBench$Relay" "center" "J", Cond.fieldLink RX3 17 "ControlBench$Relay" "height" "I"]
def wsX5_run_r6 : List Cond := [Cond.methodLink RX5 250 yX1_actAutomatically, Cond.instanceMethod yX1_actAutomatically, Cond.selects RX1 yX1_actAutomatically yX1_actAutomatically, Cond.code yX1_actAutomatically cX1_actAutomatically 4 none, Cond.fieldLink RX1 30 "ControlBench$Loop" "schedule" "LControlBench$Schedule;", Cond.methodLink RX1 82 yX4_hasPoints, Cond.instanceMethod yX4_hasPoints, Cond.selects RX4 yX4_hasPoints yX4_hasPoints, Cond.initialized RX4, Cond.code yX4_hasPoints cX4_hasPoints 1 (some .boolean), Cond.fieldLink RX4 22 "ControlBench$Schedule" "points" "I", Cond.methodLink RX1 86 yX4_pointsReached, Cond.instanceMethod yX4_pointsReached, Cond.selects RX4 yX4_pointsReached yX4_pointsReached, Cond.code yX4_pointsReached cX4_pointsReached 4 (some .int), Cond.fieldLink RX4 9 "ControlBench$Schedule" "measures" "[I", Cond.methodLink RX1 90 yX4_pAt, Cond.instanceMethod yX4_pAt, Cond.selects RX4 yX4_pAt yX4_pAt, Cond.code yX4_pAt cX4_pAt 4 (some .int), Cond.fieldLink RX4 13 "ControlBench$Schedule" "ps" "[I", Cond.methodLink RX4 26 yX4_gainAt, Cond.instanceMethod yX4_gainAt, Cond.selects RX4 yX4_gainAt yX4_gainAt]
def wsX5_run_r7 : List Cond := [Cond.code yX4_gainAt cX4_gainAt 10 (some .int), Cond.methodLink RX4 30 Lib.Math.min.name, Cond.static Lib.Math.min.name, Cond.code Lib.Math.min.name Lib.Math.min.code 2 (some .int), Cond.methodLink RX4 36 yJ9_floorDiv_f86c9, Cond.static yJ9_floorDiv_f86c9, Cond.initialized RJ9, Cond.code yJ9_floorDiv_f86c9 cJ9_floorDiv_f86c9 6 (some .long), Cond.methodLink RX1 94 yX4_iAt, Cond.instanceMethod yX4_iAt, Cond.selects RX4 yX4_iAt yX4_iAt, Cond.code yX4_iAt cX4_iAt 4 (some .int), Cond.fieldLink RX4 16 "ControlBench$Schedule" "is" "[I", Cond.methodLink RX1 97 yX4_dAt, Cond.instanceMethod yX4_dAt, Cond.selects RX4 yX4_dAt yX4_dAt, Cond.code yX4_dAt cX4_dAt 4 (some .int), Cond.fieldLink RX4 19 "ControlBench$Schedule" "ds" "[I", Cond.methodLink RX1 100 yX0_changeGains, Cond.instanceMethod yX0_changeGains, Cond.selects RX0 yX0_changeGains yX0_changeGains, Cond.code yX0_changeGains cX0_changeGains 4 none, Cond.fieldLink RX0 13 "ControlBench$Controller" "i" "I", Cond.methodLink RX1 104 yX0_automaticSample]
def wsX5_run_r8 : List Cond := [Cond.instanceMethod yX0_automaticSample, Cond.selects RX0 yX0_automaticSample yX0_automaticSample, Cond.code yX0_automaticSample cX0_automaticSample 11 (some .long), Cond.fieldLink RX0 81 "ControlBench$Controller" "heldSamples" "I", Cond.methodLink RX0 67 yX0_countIncrements, Cond.instanceMethod yX0_countIncrements, Cond.selects RX0 yX0_countIncrements yX0_countIncrements, Cond.code yX0_countIncrements cX0_countIncrements 7 none, Cond.fieldLink RX0 87 "ControlBench$Controller" "sumByIncrements" "J", Cond.fieldLink RX0 90 "ControlBench$Controller" "latestError" "J", Cond.fieldLink RX0 93 "ControlBench$Controller" "latestRate" "J", Cond.methodLink RX0 71 yJ9_floorDiv_f86c9, Cond.methodLink RX0 77 yX0_withinLimits, Cond.methodLink RX0 84 yX0_guardAgainstWindup, Cond.instanceMethod yX0_guardAgainstWindup, Cond.selects RX0 yX0_guardAgainstWindup yX0_guardAgainstWindup, Cond.code yX0_guardAgainstWindup cX0_guardAgainstWindup 8 none, Cond.fieldLink RX0 96 "ControlBench$Controller" "guard" "I", Cond.fieldLink RX0 20 "ControlBench$Controller" "share" "I", Cond.methodLink RX5 233 yX2_goOn, Cond.instanceMethod yX2_goOn, Cond.selects RX2 yX2_goOn yX2_goOn, Cond.initialized RX2, Cond.code yX2_goOn cX2_goOn 7 none]
def wsX5_run_r9 : List Cond := [Cond.fieldLink RX2 22 "ControlBench$Plant" "latest" "I", Cond.fieldLink RX2 18 "ControlBench$Plant" "outputs" "[J", Cond.fieldLink RX2 31 "ControlBench$Plant" "deadTime" "I", Cond.fieldLink RX2 9 "ControlBench$Plant" "a1" "I", Cond.fieldLink RX2 34 "ControlBench$Plant" "measure" "J", Cond.fieldLink RX2 38 "ControlBench$Plant" "a2" "I", Cond.fieldLink RX2 41 "ControlBench$Plant" "measureBefore" "J", Cond.fieldLink RX2 15 "ControlBench$Plant" "b" "I", Cond.constantLong RX2 44 (1000), Cond.fieldLink RX2 50 "ControlBench$Plant" "load" "I", Cond.constantLong RX2 53 (-1000000), Cond.constantLong RX2 55 (1000000), Cond.methodLink RX2 25 yJ9_floorMod_7cf53, Cond.static yJ9_floorMod_7cf53, Cond.code yJ9_floorMod_7cf53 cJ9_floorMod_7cf53 3 (some .int), Cond.methodLink RX2 46 yJ9_floorDiv_f86c9]
def wsX5_run : List Cond := .code yX5_run cX5_run 3 (some .int) :: ((wsX5_run_r1 ++ (wsX5_run_r2 ++ (wsX5_run_r3 ++ (wsX5_run_r4 ++ (wsX5_run_r5 ++ (wsX5_run_r6 ++ (wsX5_run_r7 ++ (wsX5_run_r8 ++ wsX5_run_r9)))))))) ++ wsX50 ++ wsX10 ++ wsX00 ++ wsX20 ++ wsX30 ++ wsX40 ++ (vx_atS RX5 224 "java/lang/IllegalArgumentException" ["java/lang/RuntimeException", "java/lang/Exception"]).filter goodWord)
def wsX5_measure : List Cond := .code yX5_measure cX5_measure 2 (some .long) :: ([.fieldLink RX5 20 "ControlBench$Loop" "plant" "LControlBench$Plant;", .fieldLink RX5 128 "ControlBench$Plant" "measure" "J", .methodLink RX5 16 yX5_loopAt, .instanceMethod yX5_loopAt, .selects RX5 yX5_loopAt yX5_loopAt, .initialized RX5, .code yX5_loopAt cX5_loopAt 2 (some (.object "ControlBench$Loop")), .classLink RX5 209 "java/lang/IndexOutOfBoundsException", .initialized "java/lang/IndexOutOfBoundsException", .fieldLink RX5 11 "ControlBench" "loops" "[LControlBench$Loop;"] ++ wsX10 ++ wsX20 ++ wsX50 ++ (vx_atS RX5 213 "java/lang/IndexOutOfBoundsException" ["java/lang/RuntimeException", "java/lang/Exception"]).filter goodWord)
def wsX5_output : List Cond := .code yX5_output cX5_output 2 (some .long) :: ([.fieldLink RX5 131 "ControlBench$Loop" "output" "J", .methodLink RX5 16 yX5_loopAt, .instanceMethod yX5_loopAt, .selects RX5 yX5_loopAt yX5_loopAt, .initialized RX5, .code yX5_loopAt cX5_loopAt 2 (some (.object "ControlBench$Loop")), .classLink RX5 209 "java/lang/IndexOutOfBoundsException", .initialized "java/lang/IndexOutOfBoundsException", .fieldLink RX5 11 "ControlBench" "loops" "[LControlBench$Loop;"] ++ wsX10 ++ wsX50 ++ (vx_atS RX5 213 "java/lang/IndexOutOfBoundsException" ["java/lang/RuntimeException", "java/lang/Exception"]).filter goodWord)
def wsX5_outputByIncrements : List Cond := .code yX5_outputByIncrements cX5_outputByIncrements 2 (some .long) :: ([.fieldLink RX5 56 "ControlBench$Loop" "controller" "LControlBench$Controller;", .fieldLink RX5 134 "ControlBench$Controller" "sumByIncrements" "J", .constantLong RX5 137 (1000), .methodLink RX5 16 yX5_loopAt, .instanceMethod yX5_loopAt, .selects RX5 yX5_loopAt yX5_loopAt, .initialized RX5, .code yX5_loopAt cX5_loopAt 2 (some (.object "ControlBench$Loop")), .classLink RX5 209 "java/lang/IndexOutOfBoundsException", .initialized "java/lang/IndexOutOfBoundsException", .fieldLink RX5 11 "ControlBench" "loops" "[LControlBench$Loop;", .methodLink RX5 139 yJ9_floorDiv_f86c9, .static yJ9_floorDiv_f86c9, .initialized RJ9, .code yJ9_floorDiv_f86c9 cJ9_floorDiv_f86c9 6 (some .long)] ++ wsX10 ++ wsX00 ++ wsX50 ++ (vx_atS RX5 213 "java/lang/IndexOutOfBoundsException" ["java/lang/RuntimeException", "java/lang/Exception"]).filter goodWord)
def wsX5_setpoint : List Cond := .code yX5_setpoint cX5_setpoint 2 (some .long) :: ([.fieldLink RX5 56 "ControlBench$Loop" "controller" "LControlBench$Controller;", .fieldLink RX5 104 "ControlBench$Controller" "setpoint" "J", .methodLink RX5 16 yX5_loopAt, .instanceMethod yX5_loopAt, .selects RX5 yX5_loopAt yX5_loopAt, .initialized RX5, .code yX5_loopAt cX5_loopAt 2 (some (.object "ControlBench$Loop")), .classLink RX5 209 "java/lang/IndexOutOfBoundsException", .initialized "java/lang/IndexOutOfBoundsException", .fieldLink RX5 11 "ControlBench" "loops" "[LControlBench$Loop;"] ++ wsX10 ++ wsX00 ++ wsX50 ++ (vx_atS RX5 213 "java/lang/IndexOutOfBoundsException" ["java/lang/RuntimeException", "java/lang/Exception"]).filter goodWord)
def wsX5_integral : List Cond := .code yX5_integral cX5_integral 2 (some .long) :: ([.fieldLink RX5 56 "ControlBench$Loop" "controller" "LControlBench$Controller;", .fieldLink RX5 145 "ControlBench$Controller" "integral" "J", .methodLink RX5 16 yX5_loopAt, .instanceMethod yX5_loopAt, .selects RX5 yX5_loopAt yX5_loopAt, .initialized RX5, .code yX5_loopAt cX5_loopAt 2 (some (.object "ControlBench$Loop")), .classLink RX5 209 "java/lang/IndexOutOfBoundsException", .initialized "java/lang/IndexOutOfBoundsException", .fieldLink RX5 11 "ControlBench" "loops" "[LControlBench$Loop;"] ++ wsX10 ++ wsX00 ++ wsX50 ++ (vx_atS RX5 213 "java/lang/IndexOutOfBoundsException" ["java/lang/RuntimeException", "java/lang/Exception"]).filter goodWord)
def wsX5_requireGainNumber : List Cond := .code yX5_requireGainNumber cX5_requireGainNumber 1 none :: ([.classLink RX5 209 "java/lang/IndexOutOfBoundsException", .initialized "java/lang/IndexOutOfBoundsException"] ++ (vx_atS RX5 213 "java/lang/IndexOutOfBoundsException" ["java/lang/RuntimeException", "java/lang/Exception"]).filter goodWord)
def wsX5_gain : List Cond := .code yX5_gain cX5_gain 4 (some .int) :: ([.fieldLink RX5 56 "ControlBench$Loop" "controller" "LControlBench$Controller;", .fieldLink RX5 151 "ControlBench$Controller" "p" "I", .fieldLink RX5 154 "ControlBench$Controller" "i" "I", .fieldLink RX5 157 "ControlBench$Controller" "d" "I", .methodLink RX5 16 yX5_loopAt, .instanceMethod yX5_loopAt, .selects RX5 yX5_loopAt yX5_loopAt, .initialized RX5, .code yX5_loopAt cX5_loopAt 2 (some (.object "ControlBench$Loop")), .classLink RX5 209 "java/lang/IndexOutOfBoundsException", .initialized "java/lang/IndexOutOfBoundsException", .fieldLink RX5 11 "ControlBench" "loops" "[LControlBench$Loop;", .methodLink RX5 148 yX5_requireGainNumber, .static yX5_requireGainNumber, .code yX5_requireGainNumber cX5_requireGainNumber 1 none] ++ wsX10 ++ wsX00 ++ wsX50 ++ (vx_atS RX5 213 "java/lang/IndexOutOfBoundsException" ["java/lang/RuntimeException", "java/lang/Exception"]).filter goodWord)
def wsX5_mode : List Cond := .code yX5_mode cX5_mode 2 (some .int) :: ([.fieldLink RX5 49 "ControlBench$Loop" "mode" "I", .methodLink RX5 16 yX5_loopAt, .instanceMethod yX5_loopAt, .selects RX5 yX5_loopAt yX5_loopAt, .initialized RX5, .code yX5_loopAt cX5_loopAt 2 (some (.object "ControlBench$Loop")), .classLink RX5 209 "java/lang/IndexOutOfBoundsException", .initialized "java/lang/IndexOutOfBoundsException", .fieldLink RX5 11 "ControlBench" "loops" "[LControlBench$Loop;"] ++ wsX10 ++ wsX50 ++ (vx_atS RX5 213 "java/lang/IndexOutOfBoundsException" ["java/lang/RuntimeException", "java/lang/Exception"]).filter goodWord)
def wsX5_wasStarved : List Cond := .code yX5_wasStarved cX5_wasStarved 2 (some .boolean) :: ([.fieldLink RX5 160 "ControlBench$Loop" "starved" "Z", .methodLink RX5 16 yX5_loopAt, .instanceMethod yX5_loopAt, .selects RX5 yX5_loopAt yX5_loopAt, .initialized RX5, .code yX5_loopAt cX5_loopAt 2 (some (.object "ControlBench$Loop")), .classLink RX5 209 "java/lang/IndexOutOfBoundsException", .initialized "java/lang/IndexOutOfBoundsException", .fieldLink RX5 11 "ControlBench" "loops" "[LControlBench$Loop;"] ++ wsX10 ++ wsX50 ++ (vx_atS RX5 213 "java/lang/IndexOutOfBoundsException" ["java/lang/RuntimeException", "java/lang/Exception"]).filter goodWord)
def wsX5_held : List Cond := .code yX5_held cX5_held 2 (some .int) :: ([.fieldLink RX5 56 "ControlBench$Loop" "controller" "LControlBench$Controller;", .fieldLink RX5 163 "ControlBench$Controller" "heldSamples" "I", .methodLink RX5 16 yX5_loopAt, .instanceMethod yX5_loopAt, .selects RX5 yX5_loopAt yX5_loopAt, .initialized RX5, .code yX5_loopAt cX5_loopAt 2 (some (.object "ControlBench$Loop")), .classLink RX5 209 "java/lang/IndexOutOfBoundsException", .initialized "java/lang/IndexOutOfBoundsException", .fieldLink RX5 11 "ControlBench" "loops" "[LControlBench$Loop;"] ++ wsX10 ++ wsX00 ++ wsX50 ++ (vx_atS RX5 213 "java/lang/IndexOutOfBoundsException" ["java/lang/RuntimeException", "java/lang/Exception"]).filter goodWord)
def wsX5_startRelay_r1 : List Cond := [Cond.constant RX5 166 (100000), Cond.fieldLink RX5 49 "ControlBench$Loop" "mode" "I", Cond.fieldLink RX5 167 "ControlBench$Loop" "relay" "LControlBench$Relay;", Cond.fieldLink RX5 131 "ControlBench$Loop" "output" "J", Cond.methodLink RX5 16 yX5_loopAt, Cond.instanceMethod yX5_loopAt, Cond.selects RX5 yX5_loopAt yX5_loopAt, Cond.initialized RX5, Cond.code yX5_loopAt cX5_loopAt 2 (some (.object "ControlBench$Loop")), Cond.classLink RX5 209 "java/lang/IndexOutOfBoundsException", Cond.initialized "java/lang/IndexOutOfBoundsException", Cond.fieldLink RX5 11 "ControlBench" "loops" "[LControlBench$Loop;", Cond.methodLink RX5 24 yX5_requireWithin, Cond.static yX5_requireWithin, Cond.code yX5_requireWithin cX5_requireWithin 3 none, Cond.methodLink RX5 81 yX5_requireArgument, Cond.static yX5_requireArgument, Cond.code yX5_requireArgument cX5_requireArgument 1 none, Cond.classLink RX5 220 "java/lang/IllegalArgumentException", Cond.initialized "java/lang/IllegalArgumentException", Cond.methodLink RX5 52 yX5_requireState, Cond.static yX5_requireState, Cond.code yX5_requireState cX5_requireState 1 none, Cond.classLink RX5 225 "java/lang/IllegalStateException"]
def wsX5_startRelay_r2 : List Cond := [Cond.initialized "java/lang/IllegalStateException", Cond.methodLink RX5 171 yX3_begin, Cond.instanceMethod yX3_begin, Cond.selects RX3 yX3_begin yX3_begin, Cond.initialized RX3, Cond.code yX3_begin cX3_begin 5 none, Cond.fieldLink RX3 9 "ControlBench$Relay" "progress" "I", Cond.fieldLink RX3 13 "ControlBench$Relay" "center" "J", Cond.fieldLink RX3 17 "ControlBench$Relay" "height" "I", Cond.fieldLink RX3 20 "ControlBench$Relay" "band" "I", Cond.fieldLink RX3 23 "ControlBench$Relay" "up" "Z", Cond.fieldLink RX3 27 "ControlBench$Relay" "samples" "I", Cond.fieldLink RX3 30 "ControlBench$Relay" "rises" "I"]
def wsX5_startRelay : List Cond := .code yX5_startRelay cX5_startRelay 5 none :: ((wsX5_startRelay_r1 ++ wsX5_startRelay_r2) ++ wsX10 ++ wsX50 ++ wsX30 ++ (vx_atS RX5 213 "java/lang/IndexOutOfBoundsException" ["java/lang/RuntimeException", "java/lang/Exception"]).filter goodWord ++ (vx_atS RX5 224 "java/lang/IllegalArgumentException" ["java/lang/RuntimeException", "java/lang/Exception"]).filter goodWord ++ (vx_atS RX5 229 "java/lang/IllegalStateException" ["java/lang/RuntimeException", "java/lang/Exception"]).filter goodWord)
def wsX5_experiment : List Cond := .code yX5_experiment cX5_experiment 2 (some .int) :: ([.fieldLink RX5 167 "ControlBench$Loop" "relay" "LControlBench$Relay;", .fieldLink RX5 177 "ControlBench$Relay" "progress" "I", .methodLink RX5 16 yX5_loopAt, .instanceMethod yX5_loopAt, .selects RX5 yX5_loopAt yX5_loopAt, .initialized RX5, .code yX5_loopAt cX5_loopAt 2 (some (.object "ControlBench$Loop")), .classLink RX5 209 "java/lang/IndexOutOfBoundsException", .initialized "java/lang/IndexOutOfBoundsException", .fieldLink RX5 11 "ControlBench" "loops" "[LControlBench$Loop;"] ++ wsX10 ++ wsX30 ++ wsX50 ++ (vx_atS RX5 213 "java/lang/IndexOutOfBoundsException" ["java/lang/RuntimeException", "java/lang/Exception"]).filter goodWord)
def wsX5_period : List Cond := .code yX5_period cX5_period 3 (some .int) :: ([.fieldLink RX5 167 "ControlBench$Loop" "relay" "LControlBench$Relay;", .fieldLink RX5 177 "ControlBench$Relay" "progress" "I", .fieldLink RX5 180 "ControlBench$Relay" "period" "I", .methodLink RX5 16 yX5_loopAt, .instanceMethod yX5_loopAt, .selects RX5 yX5_loopAt yX5_loopAt, .initialized RX5, .code yX5_loopAt cX5_loopAt 2 (some (.object "ControlBench$Loop")), .classLink RX5 209 "java/lang/IndexOutOfBoundsException", .initialized "java/lang/IndexOutOfBoundsException", .fieldLink RX5 11 "ControlBench" "loops" "[LControlBench$Loop;", .methodLink RX5 52 yX5_requireState, .static yX5_requireState, .code yX5_requireState cX5_requireState 1 none, .classLink RX5 225 "java/lang/IllegalStateException", .initialized "java/lang/IllegalStateException"] ++ wsX10 ++ wsX30 ++ wsX50 ++ (vx_atS RX5 213 "java/lang/IndexOutOfBoundsException" ["java/lang/RuntimeException", "java/lang/Exception"]).filter goodWord ++ (vx_atS RX5 229 "java/lang/IllegalStateException" ["java/lang/RuntimeException", "java/lang/Exception"]).filter goodWord)
def wsX5_swing : List Cond := .code yX5_swing cX5_swing 3 (some .long) :: ([.fieldLink RX5 167 "ControlBench$Loop" "relay" "LControlBench$Relay;", .fieldLink RX5 177 "ControlBench$Relay" "progress" "I", .fieldLink RX5 183 "ControlBench$Relay" "swing" "J", .methodLink RX5 16 yX5_loopAt, .instanceMethod yX5_loopAt, .selects RX5 yX5_loopAt yX5_loopAt, .initialized RX5, .code yX5_loopAt cX5_loopAt 2 (some (.object "ControlBench$Loop")), .classLink RX5 209 "java/lang/IndexOutOfBoundsException", .initialized "java/lang/IndexOutOfBoundsException", .fieldLink RX5 11 "ControlBench" "loops" "[LControlBench$Loop;", .methodLink RX5 52 yX5_requireState, .static yX5_requireState, .code yX5_requireState cX5_requireState 1 none, .classLink RX5 225 "java/lang/IllegalStateException", .initialized "java/lang/IllegalStateException"] ++ wsX10 ++ wsX30 ++ wsX50 ++ (vx_atS RX5 213 "java/lang/IndexOutOfBoundsException" ["java/lang/RuntimeException", "java/lang/Exception"]).filter goodWord ++ (vx_atS RX5 229 "java/lang/IllegalStateException" ["java/lang/RuntimeException", "java/lang/Exception"]).filter goodWord)
def wsX5_ultimateGain_r1 : List Cond := [Cond.fieldLink RX5 167 "ControlBench$Loop" "relay" "LControlBench$Relay;", Cond.fieldLink RX5 177 "ControlBench$Relay" "progress" "I", Cond.fieldLink RX5 183 "ControlBench$Relay" "swing" "J", Cond.methodLink RX5 16 yX5_loopAt, Cond.instanceMethod yX5_loopAt, Cond.selects RX5 yX5_loopAt yX5_loopAt, Cond.initialized RX5, Cond.code yX5_loopAt cX5_loopAt 2 (some (.object "ControlBench$Loop")), Cond.classLink RX5 209 "java/lang/IndexOutOfBoundsException", Cond.initialized "java/lang/IndexOutOfBoundsException", Cond.fieldLink RX5 11 "ControlBench" "loops" "[LControlBench$Loop;", Cond.methodLink RX5 52 yX5_requireState, Cond.static yX5_requireState, Cond.code yX5_requireState cX5_requireState 1 none, Cond.classLink RX5 225 "java/lang/IllegalStateException", Cond.initialized "java/lang/IllegalStateException", Cond.methodLink RX5 186 yX3_gainAtTheEdge, Cond.instanceMethod yX3_gainAtTheEdge, Cond.selects RX3 yX3_gainAtTheEdge yX3_gainAtTheEdge, Cond.initialized RX3, Cond.code yX3_gainAtTheEdge cX3_gainAtTheEdge 1 (some .long), Cond.fieldLink RX3 58 "ControlBench$Relay" "swing" "J", Cond.constantLong RX3 61 (904000), Cond.fieldLink RX3 17 "ControlBench$Relay" "height" "I"]
def wsX5_ultimateGain_r2 : List Cond := [Cond.constantLong RX3 63 (355), Cond.methodLink RX3 65 yJ9_floorDiv_f86c9, Cond.static yJ9_floorDiv_f86c9, Cond.initialized RJ9, Cond.code yJ9_floorDiv_f86c9 cJ9_floorDiv_f86c9 6 (some .long)]
def wsX5_ultimateGain : List Cond := .code yX5_ultimateGain cX5_ultimateGain 3 (some .int) :: ((wsX5_ultimateGain_r1 ++ wsX5_ultimateGain_r2) ++ wsX10 ++ wsX30 ++ wsX50 ++ (vx_atS RX5 213 "java/lang/IndexOutOfBoundsException" ["java/lang/RuntimeException", "java/lang/Exception"]).filter goodWord ++ (vx_atS RX5 229 "java/lang/IllegalStateException" ["java/lang/RuntimeException", "java/lang/Exception"]).filter goodWord)
def wsX5_proposed_r1 : List Cond := [Cond.fieldLink RX5 167 "ControlBench$Loop" "relay" "LControlBench$Relay;", Cond.fieldLink RX5 177 "ControlBench$Relay" "progress" "I", Cond.fieldLink RX5 183 "ControlBench$Relay" "swing" "J", Cond.fieldLink RX5 180 "ControlBench$Relay" "period" "I", Cond.constantLong RX5 194 (20000), Cond.methodLink RX5 196 Lib.MathLoose.min_long.x, Cond.static Lib.MathLoose.min_long.x, Cond.initialized "java/lang/Math", Cond.code Lib.MathLoose.min_long.x Lib.MathLoose.min_long.code 4 (some .long), Cond.constantLong RX5 202 (5000), Cond.constantLong RX5 207 (50000), Cond.methodLink RX5 16 yX5_loopAt, Cond.instanceMethod yX5_loopAt, Cond.selects RX5 yX5_loopAt yX5_loopAt, Cond.initialized RX5, Cond.code yX5_loopAt cX5_loopAt 2 (some (.object "ControlBench$Loop")), Cond.classLink RX5 209 "java/lang/IndexOutOfBoundsException", Cond.initialized "java/lang/IndexOutOfBoundsException", Cond.fieldLink RX5 11 "ControlBench" "loops" "[LControlBench$Loop;", Cond.methodLink RX5 148 yX5_requireGainNumber, Cond.static yX5_requireGainNumber, Cond.code yX5_requireGainNumber cX5_requireGainNumber 1 none, Cond.methodLink RX5 24 yX5_requireWithin, Cond.static yX5_requireWithin]
def wsX5_proposed_r2 : List Cond := [Cond.code yX5_requireWithin cX5_requireWithin 3 none, Cond.methodLink RX5 81 yX5_requireArgument, Cond.static yX5_requireArgument, Cond.code yX5_requireArgument cX5_requireArgument 1 none, Cond.classLink RX5 220 "java/lang/IllegalArgumentException", Cond.initialized "java/lang/IllegalArgumentException", Cond.methodLink RX5 52 yX5_requireState, Cond.static yX5_requireState, Cond.code yX5_requireState cX5_requireState 1 none, Cond.classLink RX5 225 "java/lang/IllegalStateException", Cond.initialized "java/lang/IllegalStateException", Cond.methodLink RX5 190 yX3_proposedP, Cond.instanceMethod yX3_proposedP, Cond.selects RX3 yX3_proposedP yX3_proposedP, Cond.initialized RX3, Cond.code yX3_proposedP cX3_proposedP 4 (some .long), Cond.constantLong RX3 72 (6), Cond.constantLong RX3 74 (10), Cond.constantLong RX3 76 (22), Cond.methodLink RX3 68 yX3_gainAtTheEdge, Cond.instanceMethod yX3_gainAtTheEdge, Cond.selects RX3 yX3_gainAtTheEdge yX3_gainAtTheEdge, Cond.code yX3_gainAtTheEdge cX3_gainAtTheEdge 1 (some .long), Cond.fieldLink RX3 58 "ControlBench$Relay" "swing" "J"]
def wsX5_proposed_r3 : List Cond := [Cond.constantLong RX3 61 (904000), Cond.fieldLink RX3 17 "ControlBench$Relay" "height" "I", Cond.constantLong RX3 63 (355), Cond.methodLink RX3 65 yJ9_floorDiv_f86c9, Cond.static yJ9_floorDiv_f86c9, Cond.initialized RJ9, Cond.code yJ9_floorDiv_f86c9 cJ9_floorDiv_f86c9 6 (some .long), Cond.methodLink RX5 199 yX3_proposedI, Cond.instanceMethod yX3_proposedI, Cond.selects RX3 yX3_proposedI yX3_proposedI, Cond.code yX3_proposedI cX3_proposedI 4 (some .long), Cond.fieldLink RX3 55 "ControlBench$Relay" "period" "I", Cond.constantLong RX3 78 (12), Cond.constantLong RX3 80 (100), Cond.constantLong RX3 82 (484), Cond.methodLink RX5 204 yX3_proposedD, Cond.instanceMethod yX3_proposedD, Cond.selects RX3 yX3_proposedD yX3_proposedD, Cond.code yX3_proposedD cX3_proposedD 4 (some .long), Cond.constantLong RX3 84 (3), Cond.constantLong RX3 86 (40), Cond.constantLong RX3 88 (1386)]
def wsX5_proposed : List Cond := .code yX5_proposed cX5_proposed 5 (some .int) :: ((wsX5_proposed_r1 ++ (wsX5_proposed_r2 ++ wsX5_proposed_r3)) ++ wsX10 ++ wsX30 ++ wsX50 ++ (vx_atS RX5 213 "java/lang/IndexOutOfBoundsException" ["java/lang/RuntimeException", "java/lang/Exception"]).filter goodWord ++ (vx_atS RX5 224 "java/lang/IllegalArgumentException" ["java/lang/RuntimeException", "java/lang/Exception"]).filter goodWord ++ (vx_atS RX5 229 "java/lang/IllegalStateException" ["java/lang/RuntimeException", "java/lang/Exception"]).filter goodWord)
def wsX6_init_r1 : List Cond := [Cond.methodLink RX6 1 objectInit, Cond.instanceMethod objectInit, Cond.code objectInit ⟨#[0xb1]⟩ 1 none, Cond.arrayClass .long, Cond.fieldLink RX6 7 "ControlBenchModel" "a1" "[J", Cond.fieldLink RX6 13 "ControlBenchModel" "a2" "[J", Cond.fieldLink RX6 16 "ControlBenchModel" "b" "[J", Cond.arrayClass .int, Cond.fieldLink RX6 19 "ControlBenchModel" "deadTime" "[I", Cond.fieldLink RX6 23 "ControlBenchModel" "load" "[I", Cond.fieldLink RX6 26 "ControlBenchModel" "measure" "[J", Cond.fieldLink RX6 29 "ControlBenchModel" "before" "[J", Cond.fieldLink RX6 32 "ControlBenchModel" "past" "[J", Cond.fieldLink RX6 35 "ControlBenchModel" "gain" "[J", Cond.fieldLink RX6 38 "ControlBenchModel" "low" "[J", Cond.fieldLink RX6 41 "ControlBenchModel" "high" "[J", Cond.fieldLink RX6 44 "ControlBenchModel" "setpoint" "[J", Cond.fieldLink RX6 47 "ControlBenchModel" "integral" "[J", Cond.fieldLink RX6 50 "ControlBenchModel" "guard" "[I", Cond.fieldLink RX6 53 "ControlBenchModel" "share" "[I", Cond.fieldLink RX6 56 "ControlBenchModel" "mode" "[I", Cond.fieldLink RX6 59 "ControlBenchModel" "hand" "[J", Cond.arrayClass .boolean, Cond.fieldLink RX6 62 "ControlBenchModel" "follows" "[Z"]
def wsX6_init_r2 : List Cond := [Cond.fieldLink RX6 66 "ControlBenchModel" "hasMaster" "[Z", Cond.fieldLink RX6 69 "ControlBenchModel" "isStarved" "[Z", Cond.fieldLink RX6 72 "ControlBenchModel" "held" "[I", Cond.fieldLink RX6 75 "ControlBenchModel" "sum" "[J", Cond.fieldLink RX6 78 "ControlBenchModel" "lastError" "[J", Cond.fieldLink RX6 81 "ControlBenchModel" "lastRate" "[J", Cond.fieldLink RX6 84 "ControlBenchModel" "goesOn" "[Z", Cond.fieldLink RX6 87 "ControlBenchModel" "points" "[I", Cond.fieldLink RX6 90 "ControlBenchModel" "at" "[J", Cond.fieldLink RX6 93 "ControlBenchModel" "then" "[J", Cond.fieldLink RX6 96 "ControlBenchModel" "experiment" "[I", Cond.fieldLink RX6 99 "ControlBenchModel" "center" "[J", Cond.fieldLink RX6 102 "ControlBenchModel" "height" "[I", Cond.fieldLink RX6 105 "ControlBenchModel" "band" "[I", Cond.fieldLink RX6 108 "ControlBenchModel" "isUp" "[Z", Cond.fieldLink RX6 111 "ControlBenchModel" "gone" "[I", Cond.fieldLink RX6 114 "ControlBenchModel" "risings" "[I", Cond.fieldLink RX6 117 "ControlBenchModel" "second" "[I", Cond.fieldLink RX6 120 "ControlBenchModel" "greatest" "[J", Cond.fieldLink RX6 123 "ControlBenchModel" "least" "[J", Cond.fieldLink RX6 126 "ControlBenchModel" "period" "[I", Cond.fieldLink RX6 129 "ControlBenchModel" "swing" "[J", Cond.constantLong RX6 132 (800), Cond.constantLong RX6 134 (200)]
def wsX6_init_r3 : List Cond := [Cond.constantLong RX6 136 (1000), Cond.constantLong RX6 138 (100), Cond.constantLong RX6 140 (100000)]
def wsX6_init : List Cond := .code yX6_init cX6_init 2 none :: ((wsX6_init_r1 ++ (wsX6_init_r2 ++ wsX6_init_r3)) ++ wsX60)
def wsX6_thrown : List Cond := .code yX6_thrown cX6_thrown 1 (some .int) :: ([.fieldLink RX6 142 "ControlBenchModel" "thrown" "I"] ++ wsX60)
def wsX6_can : List Cond := .code yX6_can cX6_can 2 (some .boolean) :: ([.fieldLink RX6 142 "ControlBenchModel" "thrown" "I"] ++ wsX60)
def wsX6_isLoop : List Cond := .code yX6_isLoop cX6_isLoop 1 (some .boolean) :: ([])
def wsX6_isIn : List Cond := .code yX6_isIn cX6_isIn 3 (some .boolean) :: ([])
def wsX6_floor : List Cond := .code yX6_floor cX6_floor 6 (some .long) :: ([])
def wsX6_within : List Cond := .code yX6_within cX6_within 6 (some .long) :: ([])
def wsX6_areGains : List Cond := .code yX6_areGains cX6_areGains 3 (some .boolean) :: ([.constant RX6 150 (-50000), .constant RX6 151 (50000), .methodLink RX6 146 yX6_isIn, .static yX6_isIn, .initialized RX6, .code yX6_isIn cX6_isIn 3 (some .boolean)])
def wsX6_error : List Cond := .code yX6_error cX6_error 2 (some .long) :: ([.fieldLink RX6 44 "ControlBenchModel" "setpoint" "[J", .fieldLink RX6 26 "ControlBenchModel" "measure" "[J"] ++ wsX60)
def wsX6_rate : List Cond := .code yX6_rate cX6_rate 2 (some .long) :: ([.fieldLink RX6 29 "ControlBenchModel" "before" "[J", .fieldLink RX6 26 "ControlBenchModel" "measure" "[J"] ++ wsX60)
def wsX6_latest : List Cond := .code yX6_latest cX6_latest 2 (some .long) :: ([.fieldLink RX6 32 "ControlBenchModel" "past" "[J"] ++ wsX60)
def wsX6_setPlant : List Cond := .code yX6_setPlant cX6_setPlant 7 none :: ([.fieldLink RX6 7 "ControlBenchModel" "a1" "[J", .fieldLink RX6 13 "ControlBenchModel" "a2" "[J", .fieldLink RX6 16 "ControlBenchModel" "b" "[J", .fieldLink RX6 19 "ControlBenchModel" "deadTime" "[I", .methodLink RX6 146 yX6_isIn, .static yX6_isIn, .initialized RX6, .code yX6_isIn cX6_isIn 3 (some .boolean), .methodLink RX6 152 yX6_isLoop, .static yX6_isLoop, .code yX6_isLoop cX6_isLoop 1 (some .boolean), .methodLink RX6 156 yX6_can, .instanceMethod yX6_can, .selects RX6 yX6_can yX6_can, .code yX6_can cX6_can 2 (some .boolean), .fieldLink RX6 142 "ControlBenchModel" "thrown" "I"] ++ wsX60)
def wsX6_setLoad : List Cond := .code yX6_setLoad cX6_setLoad 4 (some .int) :: ([.fieldLink RX6 23 "ControlBenchModel" "load" "[I", .methodLink RX6 152 yX6_isLoop, .static yX6_isLoop, .initialized RX6, .code yX6_isLoop cX6_isLoop 1 (some .boolean), .methodLink RX6 146 yX6_isIn, .static yX6_isIn, .code yX6_isIn cX6_isIn 3 (some .boolean), .methodLink RX6 156 yX6_can, .instanceMethod yX6_can, .selects RX6 yX6_can yX6_can, .code yX6_can cX6_can 2 (some .boolean), .fieldLink RX6 142 "ControlBenchModel" "thrown" "I"] ++ wsX60)
def wsX6_changes : List Cond := .code yX6_changes cX6_changes 8 none :: ([.fieldLink RX6 47 "ControlBenchModel" "integral" "[J", .fieldLink RX6 35 "ControlBenchModel" "gain" "[J", .methodLink RX6 159 yX6_error, .instanceMethod yX6_error, .selects RX6 yX6_error yX6_error, .initialized RX6, .code yX6_error cX6_error 2 (some .long), .fieldLink RX6 44 "ControlBenchModel" "setpoint" "[J", .fieldLink RX6 26 "ControlBenchModel" "measure" "[J", .methodLink RX6 163 yX6_rate, .instanceMethod yX6_rate, .selects RX6 yX6_rate yX6_rate, .code yX6_rate cX6_rate 2 (some .long), .fieldLink RX6 29 "ControlBenchModel" "before" "[J"] ++ wsX60)
def wsX6_setGains_r1 : List Cond := [Cond.fieldLink RX6 56 "ControlBenchModel" "mode" "[I", Cond.fieldLink RX6 87 "ControlBenchModel" "points" "[I", Cond.methodLink RX6 152 yX6_isLoop, Cond.static yX6_isLoop, Cond.initialized RX6, Cond.code yX6_isLoop cX6_isLoop 1 (some .boolean), Cond.methodLink RX6 166 yX6_areGains, Cond.static yX6_areGains, Cond.code yX6_areGains cX6_areGains 3 (some .boolean), Cond.constant RX6 150 (-50000), Cond.constant RX6 151 (50000), Cond.methodLink RX6 146 yX6_isIn, Cond.static yX6_isIn, Cond.code yX6_isIn cX6_isIn 3 (some .boolean), Cond.methodLink RX6 156 yX6_can, Cond.instanceMethod yX6_can, Cond.selects RX6 yX6_can yX6_can, Cond.code yX6_can cX6_can 2 (some .boolean), Cond.fieldLink RX6 142 "ControlBenchModel" "thrown" "I", Cond.methodLink RX6 169 yX6_changes, Cond.instanceMethod yX6_changes, Cond.selects RX6 yX6_changes yX6_changes, Cond.code yX6_changes cX6_changes 8 none, Cond.fieldLink RX6 47 "ControlBenchModel" "integral" "[J"]
def wsX6_setGains_r2 : List Cond := [Cond.fieldLink RX6 35 "ControlBenchModel" "gain" "[J", Cond.methodLink RX6 159 yX6_error, Cond.instanceMethod yX6_error, Cond.selects RX6 yX6_error yX6_error, Cond.code yX6_error cX6_error 2 (some .long), Cond.fieldLink RX6 44 "ControlBenchModel" "setpoint" "[J", Cond.fieldLink RX6 26 "ControlBenchModel" "measure" "[J", Cond.methodLink RX6 163 yX6_rate, Cond.instanceMethod yX6_rate, Cond.selects RX6 yX6_rate yX6_rate, Cond.code yX6_rate cX6_rate 2 (some .long), Cond.fieldLink RX6 29 "ControlBenchModel" "before" "[J"]
def wsX6_setGains : List Cond := .code yX6_setGains cX6_setGains 6 (some .int) :: ((wsX6_setGains_r1 ++ wsX6_setGains_r2) ++ wsX60)
def wsX6_addPoint : List Cond := .code yX6_addPoint cX6_addPoint 8 (some .int) :: ([.constant RX6 173 (-1000000), .constant RX6 174 (1000000), .fieldLink RX6 87 "ControlBenchModel" "points" "[I", .fieldLink RX6 90 "ControlBenchModel" "at" "[J", .fieldLink RX6 93 "ControlBenchModel" "then" "[J", .methodLink RX6 152 yX6_isLoop, .static yX6_isLoop, .initialized RX6, .code yX6_isLoop cX6_isLoop 1 (some .boolean), .methodLink RX6 166 yX6_areGains, .static yX6_areGains, .code yX6_areGains cX6_areGains 3 (some .boolean), .constant RX6 150 (-50000), .constant RX6 151 (50000), .methodLink RX6 146 yX6_isIn, .static yX6_isIn, .code yX6_isIn cX6_isIn 3 (some .boolean), .methodLink RX6 156 yX6_can, .instanceMethod yX6_can, .selects RX6 yX6_can yX6_can, .code yX6_can cX6_can 2 (some .boolean), .fieldLink RX6 142 "ControlBenchModel" "thrown" "I"] ++ wsX60)
def wsX6_setLimits : List Cond := .code yX6_setLimits cX6_setLimits 4 none :: ([.constant RX6 173 (-1000000), .constant RX6 174 (1000000), .fieldLink RX6 38 "ControlBenchModel" "low" "[J", .fieldLink RX6 41 "ControlBenchModel" "high" "[J", .methodLink RX6 152 yX6_isLoop, .static yX6_isLoop, .initialized RX6, .code yX6_isLoop cX6_isLoop 1 (some .boolean), .methodLink RX6 146 yX6_isIn, .static yX6_isIn, .code yX6_isIn cX6_isIn 3 (some .boolean), .methodLink RX6 156 yX6_can, .instanceMethod yX6_can, .selects RX6 yX6_can yX6_can, .code yX6_can cX6_can 2 (some .boolean), .fieldLink RX6 142 "ControlBenchModel" "thrown" "I"] ++ wsX60)
def wsX6_setGuard : List Cond := .code yX6_setGuard cX6_setGuard 5 (some .int) :: ([.fieldLink RX6 50 "ControlBenchModel" "guard" "[I", .fieldLink RX6 53 "ControlBenchModel" "share" "[I", .methodLink RX6 152 yX6_isLoop, .static yX6_isLoop, .initialized RX6, .code yX6_isLoop cX6_isLoop 1 (some .boolean), .methodLink RX6 146 yX6_isIn, .static yX6_isIn, .code yX6_isIn cX6_isIn 3 (some .boolean), .methodLink RX6 156 yX6_can, .instanceMethod yX6_can, .selects RX6 yX6_can yX6_can, .code yX6_can cX6_can 2 (some .boolean), .fieldLink RX6 142 "ControlBenchModel" "thrown" "I"] ++ wsX60)
def wsX6_setSetpoint : List Cond := .code yX6_setSetpoint cX6_setSetpoint 4 (some .int) :: ([.constant RX6 173 (-1000000), .constant RX6 174 (1000000), .fieldLink RX6 56 "ControlBenchModel" "mode" "[I", .fieldLink RX6 44 "ControlBenchModel" "setpoint" "[J", .methodLink RX6 152 yX6_isLoop, .static yX6_isLoop, .initialized RX6, .code yX6_isLoop cX6_isLoop 1 (some .boolean), .methodLink RX6 146 yX6_isIn, .static yX6_isIn, .code yX6_isIn cX6_isIn 3 (some .boolean), .methodLink RX6 156 yX6_can, .instanceMethod yX6_can, .selects RX6 yX6_can yX6_can, .code yX6_can cX6_can 2 (some .boolean), .fieldLink RX6 142 "ControlBenchModel" "thrown" "I"] ++ wsX60)
def wsX6_setHand : List Cond := .code yX6_setHand cX6_setHand 4 (some .int) :: ([.constant RX6 173 (-1000000), .constant RX6 174 (1000000), .fieldLink RX6 56 "ControlBenchModel" "mode" "[I", .fieldLink RX6 59 "ControlBenchModel" "hand" "[J", .methodLink RX6 152 yX6_isLoop, .static yX6_isLoop, .initialized RX6, .code yX6_isLoop cX6_isLoop 1 (some .boolean), .methodLink RX6 146 yX6_isIn, .static yX6_isIn, .code yX6_isIn cX6_isIn 3 (some .boolean), .methodLink RX6 156 yX6_can, .instanceMethod yX6_can, .selects RX6 yX6_can yX6_can, .code yX6_can cX6_can 2 (some .boolean), .fieldLink RX6 142 "ControlBenchModel" "thrown" "I"] ++ wsX60)
def wsX6_setTies : List Cond := .code yX6_setTies cX6_setTies 4 none :: ([.fieldLink RX6 56 "ControlBenchModel" "mode" "[I", .fieldLink RX6 62 "ControlBenchModel" "follows" "[Z", .fieldLink RX6 66 "ControlBenchModel" "hasMaster" "[Z", .methodLink RX6 152 yX6_isLoop, .static yX6_isLoop, .initialized RX6, .code yX6_isLoop cX6_isLoop 1 (some .boolean), .methodLink RX6 156 yX6_can, .instanceMethod yX6_can, .selects RX6 yX6_can yX6_can, .code yX6_can cX6_can 2 (some .boolean), .fieldLink RX6 142 "ControlBenchModel" "thrown" "I"] ++ wsX60)
def wsX6_settle : List Cond := .code yX6_settle cX6_settle 4 none :: ([.fieldLink RX6 47 "ControlBenchModel" "integral" "[J", .constantLong RX6 136 (1000), .fieldLink RX6 35 "ControlBenchModel" "gain" "[J", .fieldLink RX6 84 "ControlBenchModel" "goesOn" "[Z", .methodLink RX6 159 yX6_error, .instanceMethod yX6_error, .selects RX6 yX6_error yX6_error, .initialized RX6, .code yX6_error cX6_error 2 (some .long), .fieldLink RX6 44 "ControlBenchModel" "setpoint" "[J", .fieldLink RX6 26 "ControlBenchModel" "measure" "[J", .methodLink RX6 163 yX6_rate, .instanceMethod yX6_rate, .selects RX6 yX6_rate yX6_rate, .code yX6_rate cX6_rate 2 (some .long), .fieldLink RX6 29 "ControlBenchModel" "before" "[J"] ++ wsX60)
def wsX6_setMode_r1 : List Cond := [Cond.fieldLink RX6 56 "ControlBenchModel" "mode" "[I", Cond.fieldLink RX6 66 "ControlBenchModel" "hasMaster" "[Z", Cond.fieldLink RX6 59 "ControlBenchModel" "hand" "[J", Cond.fieldLink RX6 96 "ControlBenchModel" "experiment" "[I", Cond.methodLink RX6 152 yX6_isLoop, Cond.static yX6_isLoop, Cond.initialized RX6, Cond.code yX6_isLoop cX6_isLoop 1 (some .boolean), Cond.methodLink RX6 146 yX6_isIn, Cond.static yX6_isIn, Cond.code yX6_isIn cX6_isIn 3 (some .boolean), Cond.methodLink RX6 156 yX6_can, Cond.instanceMethod yX6_can, Cond.selects RX6 yX6_can yX6_can, Cond.code yX6_can cX6_can 2 (some .boolean), Cond.fieldLink RX6 142 "ControlBenchModel" "thrown" "I", Cond.methodLink RX6 175 yX6_latest, Cond.instanceMethod yX6_latest, Cond.selects RX6 yX6_latest yX6_latest, Cond.code yX6_latest cX6_latest 2 (some .long), Cond.fieldLink RX6 32 "ControlBenchModel" "past" "[J", Cond.methodLink RX6 178 yX6_settle, Cond.instanceMethod yX6_settle, Cond.selects RX6 yX6_settle yX6_settle]
def wsX6_setMode_r2 : List Cond := [Cond.code yX6_settle cX6_settle 4 none, Cond.fieldLink RX6 47 "ControlBenchModel" "integral" "[J", Cond.constantLong RX6 136 (1000), Cond.fieldLink RX6 35 "ControlBenchModel" "gain" "[J", Cond.fieldLink RX6 84 "ControlBenchModel" "goesOn" "[Z", Cond.methodLink RX6 159 yX6_error, Cond.instanceMethod yX6_error, Cond.selects RX6 yX6_error yX6_error, Cond.code yX6_error cX6_error 2 (some .long), Cond.fieldLink RX6 44 "ControlBenchModel" "setpoint" "[J", Cond.fieldLink RX6 26 "ControlBenchModel" "measure" "[J", Cond.methodLink RX6 163 yX6_rate, Cond.instanceMethod yX6_rate, Cond.selects RX6 yX6_rate yX6_rate, Cond.code yX6_rate cX6_rate 2 (some .long), Cond.fieldLink RX6 29 "ControlBenchModel" "before" "[J"]
def wsX6_setMode : List Cond := .code yX6_setMode cX6_setMode 4 (some .int) :: ((wsX6_setMode_r1 ++ wsX6_setMode_r2) ++ wsX60)
def wsX6_schedules : List Cond := .code yX6_schedules cX6_schedules 11 none :: ([.fieldLink RX6 87 "ControlBenchModel" "points" "[I", .fieldLink RX6 90 "ControlBenchModel" "at" "[J", .fieldLink RX6 26 "ControlBenchModel" "measure" "[J", .fieldLink RX6 93 "ControlBenchModel" "then" "[J", .methodLink RX6 182 yX6_floor, .static yX6_floor, .initialized RX6, .code yX6_floor cX6_floor 6 (some .long), .methodLink RX6 169 yX6_changes, .instanceMethod yX6_changes, .selects RX6 yX6_changes yX6_changes, .code yX6_changes cX6_changes 8 none, .fieldLink RX6 47 "ControlBenchModel" "integral" "[J", .fieldLink RX6 35 "ControlBenchModel" "gain" "[J", .methodLink RX6 159 yX6_error, .instanceMethod yX6_error, .selects RX6 yX6_error yX6_error, .code yX6_error cX6_error 2 (some .long), .fieldLink RX6 44 "ControlBenchModel" "setpoint" "[J", .methodLink RX6 163 yX6_rate, .instanceMethod yX6_rate, .selects RX6 yX6_rate yX6_rate, .code yX6_rate cX6_rate 2 (some .long), .fieldLink RX6 29 "ControlBenchModel" "before" "[J"] ++ wsX60)
def wsX6_controls_r1 : List Cond := [Cond.fieldLink RX6 35 "ControlBenchModel" "gain" "[J", Cond.fieldLink RX6 47 "ControlBenchModel" "integral" "[J", Cond.constantLong RX6 136 (1000), Cond.fieldLink RX6 38 "ControlBenchModel" "low" "[J", Cond.fieldLink RX6 41 "ControlBenchModel" "high" "[J", Cond.fieldLink RX6 50 "ControlBenchModel" "guard" "[I", Cond.fieldLink RX6 53 "ControlBenchModel" "share" "[I", Cond.fieldLink RX6 75 "ControlBenchModel" "sum" "[J", Cond.fieldLink RX6 84 "ControlBenchModel" "goesOn" "[Z", Cond.fieldLink RX6 78 "ControlBenchModel" "lastError" "[J", Cond.fieldLink RX6 81 "ControlBenchModel" "lastRate" "[J", Cond.fieldLink RX6 72 "ControlBenchModel" "held" "[I", Cond.methodLink RX6 186 yX6_schedules, Cond.instanceMethod yX6_schedules, Cond.selects RX6 yX6_schedules yX6_schedules, Cond.initialized RX6, Cond.code yX6_schedules cX6_schedules 11 none, Cond.fieldLink RX6 87 "ControlBenchModel" "points" "[I", Cond.fieldLink RX6 90 "ControlBenchModel" "at" "[J", Cond.fieldLink RX6 26 "ControlBenchModel" "measure" "[J", Cond.fieldLink RX6 93 "ControlBenchModel" "then" "[J", Cond.methodLink RX6 182 yX6_floor, Cond.static yX6_floor, Cond.code yX6_floor cX6_floor 6 (some .long)]
def wsX6_controls_r2 : List Cond := [Cond.methodLink RX6 169 yX6_changes, Cond.instanceMethod yX6_changes, Cond.selects RX6 yX6_changes yX6_changes, Cond.code yX6_changes cX6_changes 8 none, Cond.methodLink RX6 159 yX6_error, Cond.instanceMethod yX6_error, Cond.selects RX6 yX6_error yX6_error, Cond.code yX6_error cX6_error 2 (some .long), Cond.fieldLink RX6 44 "ControlBenchModel" "setpoint" "[J", Cond.methodLink RX6 163 yX6_rate, Cond.instanceMethod yX6_rate, Cond.selects RX6 yX6_rate yX6_rate, Cond.code yX6_rate cX6_rate 2 (some .long), Cond.fieldLink RX6 29 "ControlBenchModel" "before" "[J", Cond.methodLink RX6 190 yX6_within, Cond.static yX6_within, Cond.code yX6_within cX6_within 6 (some .long)]
def wsX6_controls : List Cond := .code yX6_controls cX6_controls 18 (some .long) :: ((wsX6_controls_r1 ++ wsX6_controls_r2) ++ wsX60)
def wsX6_relays_r1 : List Cond := [Cond.fieldLink RX6 108 "ControlBenchModel" "isUp" "[Z", Cond.fieldLink RX6 105 "ControlBenchModel" "band" "[I", Cond.fieldLink RX6 111 "ControlBenchModel" "gone" "[I", Cond.fieldLink RX6 114 "ControlBenchModel" "risings" "[I", Cond.fieldLink RX6 117 "ControlBenchModel" "second" "[I", Cond.fieldLink RX6 96 "ControlBenchModel" "experiment" "[I", Cond.fieldLink RX6 126 "ControlBenchModel" "period" "[I", Cond.fieldLink RX6 129 "ControlBenchModel" "swing" "[J", Cond.fieldLink RX6 120 "ControlBenchModel" "greatest" "[J", Cond.fieldLink RX6 123 "ControlBenchModel" "least" "[J", Cond.fieldLink RX6 26 "ControlBenchModel" "measure" "[J", Cond.fieldLink RX6 99 "ControlBenchModel" "center" "[J", Cond.fieldLink RX6 56 "ControlBenchModel" "mode" "[I", Cond.fieldLink RX6 102 "ControlBenchModel" "height" "[I", Cond.fieldLink RX6 38 "ControlBenchModel" "low" "[J", Cond.fieldLink RX6 41 "ControlBenchModel" "high" "[J", Cond.methodLink RX6 159 yX6_error, Cond.instanceMethod yX6_error, Cond.selects RX6 yX6_error yX6_error, Cond.initialized RX6, Cond.code yX6_error cX6_error 2 (some .long), Cond.fieldLink RX6 44 "ControlBenchModel" "setpoint" "[J", Cond.methodLink RX6 178 yX6_settle, Cond.instanceMethod yX6_settle]
def wsX6_relays_r2 : List Cond := [Cond.selects RX6 yX6_settle yX6_settle, Cond.code yX6_settle cX6_settle 4 none, Cond.fieldLink RX6 47 "ControlBenchModel" "integral" "[J", Cond.constantLong RX6 136 (1000), Cond.fieldLink RX6 35 "ControlBenchModel" "gain" "[J", Cond.fieldLink RX6 84 "ControlBenchModel" "goesOn" "[Z", Cond.methodLink RX6 163 yX6_rate, Cond.instanceMethod yX6_rate, Cond.selects RX6 yX6_rate yX6_rate, Cond.code yX6_rate cX6_rate 2 (some .long), Cond.fieldLink RX6 29 "ControlBenchModel" "before" "[J", Cond.methodLink RX6 190 yX6_within, Cond.static yX6_within, Cond.code yX6_within cX6_within 6 (some .long)]
def wsX6_relays : List Cond := .code yX6_relays cX6_relays 5 (some .long) :: ((wsX6_relays_r1 ++ wsX6_relays_r2) ++ wsX60)
def wsX6_starves : List Cond := .code yX6_starves cX6_starves 2 (some .boolean) :: ([.fieldLink RX6 66 "ControlBenchModel" "hasMaster" "[Z", .fieldLink RX6 56 "ControlBenchModel" "mode" "[I"] ++ wsX60)
def wsX6_puts_r1 : List Cond := [Cond.fieldLink RX6 69 "ControlBenchModel" "isStarved" "[Z", Cond.fieldLink RX6 56 "ControlBenchModel" "mode" "[I", Cond.fieldLink RX6 44 "ControlBenchModel" "setpoint" "[J", Cond.fieldLink RX6 62 "ControlBenchModel" "follows" "[Z", Cond.fieldLink RX6 26 "ControlBenchModel" "measure" "[J", Cond.fieldLink RX6 84 "ControlBenchModel" "goesOn" "[Z", Cond.fieldLink RX6 59 "ControlBenchModel" "hand" "[J", Cond.fieldLink RX6 38 "ControlBenchModel" "low" "[J", Cond.fieldLink RX6 41 "ControlBenchModel" "high" "[J", Cond.methodLink RX6 190 yX6_within, Cond.static yX6_within, Cond.initialized RX6, Cond.code yX6_within cX6_within 6 (some .long), Cond.methodLink RX6 194 yX6_relays, Cond.instanceMethod yX6_relays, Cond.selects RX6 yX6_relays yX6_relays, Cond.code yX6_relays cX6_relays 5 (some .long), Cond.fieldLink RX6 108 "ControlBenchModel" "isUp" "[Z", Cond.fieldLink RX6 105 "ControlBenchModel" "band" "[I", Cond.fieldLink RX6 111 "ControlBenchModel" "gone" "[I", Cond.fieldLink RX6 114 "ControlBenchModel" "risings" "[I", Cond.fieldLink RX6 117 "ControlBenchModel" "second" "[I", Cond.fieldLink RX6 96 "ControlBenchModel" "experiment" "[I", Cond.fieldLink RX6 126 "ControlBenchModel" "period" "[I"]
def wsX6_puts_r2 : List Cond := [Cond.fieldLink RX6 129 "ControlBenchModel" "swing" "[J", Cond.fieldLink RX6 120 "ControlBenchModel" "greatest" "[J", Cond.fieldLink RX6 123 "ControlBenchModel" "least" "[J", Cond.fieldLink RX6 99 "ControlBenchModel" "center" "[J", Cond.fieldLink RX6 102 "ControlBenchModel" "height" "[I", Cond.methodLink RX6 159 yX6_error, Cond.instanceMethod yX6_error, Cond.selects RX6 yX6_error yX6_error, Cond.code yX6_error cX6_error 2 (some .long), Cond.methodLink RX6 178 yX6_settle, Cond.instanceMethod yX6_settle, Cond.selects RX6 yX6_settle yX6_settle, Cond.code yX6_settle cX6_settle 4 none, Cond.fieldLink RX6 47 "ControlBenchModel" "integral" "[J", Cond.constantLong RX6 136 (1000), Cond.fieldLink RX6 35 "ControlBenchModel" "gain" "[J", Cond.methodLink RX6 163 yX6_rate, Cond.instanceMethod yX6_rate, Cond.selects RX6 yX6_rate yX6_rate, Cond.code yX6_rate cX6_rate 2 (some .long), Cond.fieldLink RX6 29 "ControlBenchModel" "before" "[J", Cond.methodLink RX6 197 yX6_starves, Cond.instanceMethod yX6_starves, Cond.selects RX6 yX6_starves yX6_starves]
def wsX6_puts_r3 : List Cond := [Cond.code yX6_starves cX6_starves 2 (some .boolean), Cond.fieldLink RX6 66 "ControlBenchModel" "hasMaster" "[Z", Cond.methodLink RX6 200 yX6_controls, Cond.instanceMethod yX6_controls, Cond.selects RX6 yX6_controls yX6_controls, Cond.code yX6_controls cX6_controls 18 (some .long), Cond.fieldLink RX6 50 "ControlBenchModel" "guard" "[I", Cond.fieldLink RX6 53 "ControlBenchModel" "share" "[I", Cond.fieldLink RX6 75 "ControlBenchModel" "sum" "[J", Cond.fieldLink RX6 78 "ControlBenchModel" "lastError" "[J", Cond.fieldLink RX6 81 "ControlBenchModel" "lastRate" "[J", Cond.fieldLink RX6 72 "ControlBenchModel" "held" "[I", Cond.methodLink RX6 186 yX6_schedules, Cond.instanceMethod yX6_schedules, Cond.selects RX6 yX6_schedules yX6_schedules, Cond.code yX6_schedules cX6_schedules 11 none, Cond.fieldLink RX6 87 "ControlBenchModel" "points" "[I", Cond.fieldLink RX6 90 "ControlBenchModel" "at" "[J", Cond.fieldLink RX6 93 "ControlBenchModel" "then" "[J", Cond.methodLink RX6 182 yX6_floor, Cond.static yX6_floor, Cond.code yX6_floor cX6_floor 6 (some .long), Cond.methodLink RX6 169 yX6_changes, Cond.instanceMethod yX6_changes]
def wsX6_puts_r4 : List Cond := [Cond.selects RX6 yX6_changes yX6_changes, Cond.code yX6_changes cX6_changes 8 none]
def wsX6_puts : List Cond := .code yX6_puts cX6_puts 6 (some .long) :: ((wsX6_puts_r1 ++ (wsX6_puts_r2 ++ (wsX6_puts_r3 ++ wsX6_puts_r4))) ++ wsX60)
def wsX6_sample_r1 : List Cond := [Cond.fieldLink RX6 32 "ControlBenchModel" "past" "[J", Cond.fieldLink RX6 7 "ControlBenchModel" "a1" "[J", Cond.fieldLink RX6 26 "ControlBenchModel" "measure" "[J", Cond.fieldLink RX6 13 "ControlBenchModel" "a2" "[J", Cond.fieldLink RX6 29 "ControlBenchModel" "before" "[J", Cond.fieldLink RX6 16 "ControlBenchModel" "b" "[J", Cond.fieldLink RX6 19 "ControlBenchModel" "deadTime" "[I", Cond.constantLong RX6 136 (1000), Cond.fieldLink RX6 23 "ControlBenchModel" "load" "[I", Cond.constantLong RX6 207 (-1000000), Cond.constantLong RX6 209 (1000000), Cond.fieldLink RX6 211 "ControlBenchModel" "samples" "I", Cond.methodLink RX6 203 yX6_puts, Cond.instanceMethod yX6_puts, Cond.selects RX6 yX6_puts yX6_puts, Cond.initialized RX6, Cond.code yX6_puts cX6_puts 6 (some .long), Cond.fieldLink RX6 69 "ControlBenchModel" "isStarved" "[Z", Cond.fieldLink RX6 56 "ControlBenchModel" "mode" "[I", Cond.fieldLink RX6 44 "ControlBenchModel" "setpoint" "[J", Cond.fieldLink RX6 62 "ControlBenchModel" "follows" "[Z", Cond.fieldLink RX6 84 "ControlBenchModel" "goesOn" "[Z", Cond.fieldLink RX6 59 "ControlBenchModel" "hand" "[J", Cond.fieldLink RX6 38 "ControlBenchModel" "low" "[J"]
def wsX6_sample_r2 : List Cond := [Cond.fieldLink RX6 41 "ControlBenchModel" "high" "[J", Cond.methodLink RX6 190 yX6_within, Cond.static yX6_within, Cond.code yX6_within cX6_within 6 (some .long), Cond.methodLink RX6 194 yX6_relays, Cond.instanceMethod yX6_relays, Cond.selects RX6 yX6_relays yX6_relays, Cond.code yX6_relays cX6_relays 5 (some .long), Cond.fieldLink RX6 108 "ControlBenchModel" "isUp" "[Z", Cond.fieldLink RX6 105 "ControlBenchModel" "band" "[I", Cond.fieldLink RX6 111 "ControlBenchModel" "gone" "[I", Cond.fieldLink RX6 114 "ControlBenchModel" "risings" "[I", Cond.fieldLink RX6 117 "ControlBenchModel" "second" "[I", Cond.fieldLink RX6 96 "ControlBenchModel" "experiment" "[I", Cond.fieldLink RX6 126 "ControlBenchModel" "period" "[I", Cond.fieldLink RX6 129 "ControlBenchModel" "swing" "[J", Cond.fieldLink RX6 120 "ControlBenchModel" "greatest" "[J", Cond.fieldLink RX6 123 "ControlBenchModel" "least" "[J", Cond.fieldLink RX6 99 "ControlBenchModel" "center" "[J", Cond.fieldLink RX6 102 "ControlBenchModel" "height" "[I", Cond.methodLink RX6 159 yX6_error, Cond.instanceMethod yX6_error, Cond.selects RX6 yX6_error yX6_error, Cond.code yX6_error cX6_error 2 (some .long)]
def wsX6_sample_r3 : List Cond := [Cond.methodLink RX6 178 yX6_settle, Cond.instanceMethod yX6_settle, Cond.selects RX6 yX6_settle yX6_settle, Cond.code yX6_settle cX6_settle 4 none, Cond.fieldLink RX6 47 "ControlBenchModel" "integral" "[J", Cond.fieldLink RX6 35 "ControlBenchModel" "gain" "[J", Cond.methodLink RX6 163 yX6_rate, Cond.instanceMethod yX6_rate, Cond.selects RX6 yX6_rate yX6_rate, Cond.code yX6_rate cX6_rate 2 (some .long), Cond.methodLink RX6 197 yX6_starves, Cond.instanceMethod yX6_starves, Cond.selects RX6 yX6_starves yX6_starves, Cond.code yX6_starves cX6_starves 2 (some .boolean), Cond.fieldLink RX6 66 "ControlBenchModel" "hasMaster" "[Z", Cond.methodLink RX6 200 yX6_controls, Cond.instanceMethod yX6_controls, Cond.selects RX6 yX6_controls yX6_controls, Cond.code yX6_controls cX6_controls 18 (some .long), Cond.fieldLink RX6 50 "ControlBenchModel" "guard" "[I", Cond.fieldLink RX6 53 "ControlBenchModel" "share" "[I", Cond.fieldLink RX6 75 "ControlBenchModel" "sum" "[J", Cond.fieldLink RX6 78 "ControlBenchModel" "lastError" "[J", Cond.fieldLink RX6 81 "ControlBenchModel" "lastRate" "[J"]
def wsX6_sample_r4 : List Cond := [Cond.fieldLink RX6 72 "ControlBenchModel" "held" "[I", Cond.methodLink RX6 186 yX6_schedules, Cond.instanceMethod yX6_schedules, Cond.selects RX6 yX6_schedules yX6_schedules, Cond.code yX6_schedules cX6_schedules 11 none, Cond.fieldLink RX6 87 "ControlBenchModel" "points" "[I", Cond.fieldLink RX6 90 "ControlBenchModel" "at" "[J", Cond.fieldLink RX6 93 "ControlBenchModel" "then" "[J", Cond.methodLink RX6 182 yX6_floor, Cond.static yX6_floor, Cond.code yX6_floor cX6_floor 6 (some .long), Cond.methodLink RX6 169 yX6_changes, Cond.instanceMethod yX6_changes, Cond.selects RX6 yX6_changes yX6_changes, Cond.code yX6_changes cX6_changes 8 none]
def wsX6_sample : List Cond := .code yX6_sample cX6_sample 6 none :: ((wsX6_sample_r1 ++ (wsX6_sample_r2 ++ (wsX6_sample_r3 ++ wsX6_sample_r4))) ++ wsX60)
def wsX6_run_r1 : List Cond := [Cond.fieldLink RX6 211 "ControlBenchModel" "samples" "I", Cond.methodLink RX6 146 yX6_isIn, Cond.static yX6_isIn, Cond.initialized RX6, Cond.code yX6_isIn cX6_isIn 3 (some .boolean), Cond.methodLink RX6 156 yX6_can, Cond.instanceMethod yX6_can, Cond.selects RX6 yX6_can yX6_can, Cond.code yX6_can cX6_can 2 (some .boolean), Cond.fieldLink RX6 142 "ControlBenchModel" "thrown" "I", Cond.methodLink RX6 214 yX6_sample, Cond.instanceMethod yX6_sample, Cond.selects RX6 yX6_sample yX6_sample, Cond.code yX6_sample cX6_sample 6 none, Cond.fieldLink RX6 32 "ControlBenchModel" "past" "[J", Cond.fieldLink RX6 7 "ControlBenchModel" "a1" "[J", Cond.fieldLink RX6 26 "ControlBenchModel" "measure" "[J", Cond.fieldLink RX6 13 "ControlBenchModel" "a2" "[J", Cond.fieldLink RX6 29 "ControlBenchModel" "before" "[J", Cond.fieldLink RX6 16 "ControlBenchModel" "b" "[J", Cond.fieldLink RX6 19 "ControlBenchModel" "deadTime" "[I", Cond.constantLong RX6 136 (1000), Cond.fieldLink RX6 23 "ControlBenchModel" "load" "[I", Cond.constantLong RX6 207 (-1000000)]
def wsX6_run_r2 : List Cond := [Cond.constantLong RX6 209 (1000000), Cond.methodLink RX6 203 yX6_puts, Cond.instanceMethod yX6_puts, Cond.selects RX6 yX6_puts yX6_puts, Cond.code yX6_puts cX6_puts 6 (some .long), Cond.fieldLink RX6 69 "ControlBenchModel" "isStarved" "[Z", Cond.fieldLink RX6 56 "ControlBenchModel" "mode" "[I", Cond.fieldLink RX6 44 "ControlBenchModel" "setpoint" "[J", Cond.fieldLink RX6 62 "ControlBenchModel" "follows" "[Z", Cond.fieldLink RX6 84 "ControlBenchModel" "goesOn" "[Z", Cond.fieldLink RX6 59 "ControlBenchModel" "hand" "[J", Cond.fieldLink RX6 38 "ControlBenchModel" "low" "[J", Cond.fieldLink RX6 41 "ControlBenchModel" "high" "[J", Cond.methodLink RX6 190 yX6_within, Cond.static yX6_within, Cond.code yX6_within cX6_within 6 (some .long), Cond.methodLink RX6 194 yX6_relays, Cond.instanceMethod yX6_relays, Cond.selects RX6 yX6_relays yX6_relays, Cond.code yX6_relays cX6_relays 5 (some .long), Cond.fieldLink RX6 108 "ControlBenchModel" "isUp" "[Z", Cond.fieldLink RX6 105 "ControlBenchModel" "band" "[I", Cond.fieldLink RX6 111 "ControlBenchModel" "gone" "[I", Cond.fieldLink RX6 114 "ControlBenchModel" "risings" "[I"]
def wsX6_run_r3 : List Cond := [Cond.fieldLink RX6 117 "ControlBenchModel" "second" "[I", Cond.fieldLink RX6 96 "ControlBenchModel" "experiment" "[I", Cond.fieldLink RX6 126 "ControlBenchModel" "period" "[I", Cond.fieldLink RX6 129 "ControlBenchModel" "swing" "[J", Cond.fieldLink RX6 120 "ControlBenchModel" "greatest" "[J", Cond.fieldLink RX6 123 "ControlBenchModel" "least" "[J", Cond.fieldLink RX6 99 "ControlBenchModel" "center" "[J", Cond.fieldLink RX6 102 "ControlBenchModel" "height" "[I", Cond.methodLink RX6 159 yX6_error, Cond.instanceMethod yX6_error, Cond.selects RX6 yX6_error yX6_error, Cond.code yX6_error cX6_error 2 (some .long), Cond.methodLink RX6 178 yX6_settle, Cond.instanceMethod yX6_settle, Cond.selects RX6 yX6_settle yX6_settle, Cond.code yX6_settle cX6_settle 4 none, Cond.fieldLink RX6 47 "ControlBenchModel" "integral" "[J", Cond.fieldLink RX6 35 "ControlBenchModel" "gain" "[J", Cond.methodLink RX6 163 yX6_rate, Cond.instanceMethod yX6_rate, Cond.selects RX6 yX6_rate yX6_rate, Cond.code yX6_rate cX6_rate 2 (some .long), Cond.methodLink RX6 197 yX6_starves, Cond.instanceMethod yX6_starves]
def wsX6_run_r4 : List Cond := [Cond.selects RX6 yX6_starves yX6_starves, Cond.code yX6_starves cX6_starves 2 (some .boolean), Cond.fieldLink RX6 66 "ControlBenchModel" "hasMaster" "[Z", Cond.methodLink RX6 200 yX6_controls, Cond.instanceMethod yX6_controls, Cond.selects RX6 yX6_controls yX6_controls, Cond.code yX6_controls cX6_controls 18 (some .long), Cond.fieldLink RX6 50 "ControlBenchModel" "guard" "[I", Cond.fieldLink RX6 53 "ControlBenchModel" "share" "[I", Cond.fieldLink RX6 75 "ControlBenchModel" "sum" "[J", Cond.fieldLink RX6 78 "ControlBenchModel" "lastError" "[J", Cond.fieldLink RX6 81 "ControlBenchModel" "lastRate" "[J", Cond.fieldLink RX6 72 "ControlBenchModel" "held" "[I", Cond.methodLink RX6 186 yX6_schedules, Cond.instanceMethod yX6_schedules, Cond.selects RX6 yX6_schedules yX6_schedules, Cond.code yX6_schedules cX6_schedules 11 none, Cond.fieldLink RX6 87 "ControlBenchModel" "points" "[I", Cond.fieldLink RX6 90 "ControlBenchModel" "at" "[J", Cond.fieldLink RX6 93 "ControlBenchModel" "then" "[J", Cond.methodLink RX6 182 yX6_floor, Cond.static yX6_floor, Cond.code yX6_floor cX6_floor 6 (some .long), Cond.methodLink RX6 169 yX6_changes]
def wsX6_run_r5 : List Cond := [Cond.instanceMethod yX6_changes, Cond.selects RX6 yX6_changes yX6_changes, Cond.code yX6_changes cX6_changes 8 none]
def wsX6_run : List Cond := .code yX6_run cX6_run 3 (some .int) :: ((wsX6_run_r1 ++ (wsX6_run_r2 ++ (wsX6_run_r3 ++ (wsX6_run_r4 ++ wsX6_run_r5)))) ++ wsX60)
def wsX6_isAsked : List Cond := .code yX6_isAsked cX6_isAsked 2 (some .boolean) :: ([.methodLink RX6 152 yX6_isLoop, .static yX6_isLoop, .initialized RX6, .code yX6_isLoop cX6_isLoop 1 (some .boolean), .methodLink RX6 156 yX6_can, .instanceMethod yX6_can, .selects RX6 yX6_can yX6_can, .code yX6_can cX6_can 2 (some .boolean), .fieldLink RX6 142 "ControlBenchModel" "thrown" "I"] ++ wsX60)
def wsX6_measure : List Cond := .code yX6_measure cX6_measure 2 (some .long) :: ([.fieldLink RX6 26 "ControlBenchModel" "measure" "[J", .methodLink RX6 217 yX6_isAsked, .instanceMethod yX6_isAsked, .selects RX6 yX6_isAsked yX6_isAsked, .initialized RX6, .code yX6_isAsked cX6_isAsked 2 (some .boolean), .methodLink RX6 152 yX6_isLoop, .static yX6_isLoop, .code yX6_isLoop cX6_isLoop 1 (some .boolean), .methodLink RX6 156 yX6_can, .instanceMethod yX6_can, .selects RX6 yX6_can yX6_can, .code yX6_can cX6_can 2 (some .boolean), .fieldLink RX6 142 "ControlBenchModel" "thrown" "I"] ++ wsX60)
def wsX6_output : List Cond := .code yX6_output cX6_output 2 (some .long) :: ([.methodLink RX6 217 yX6_isAsked, .instanceMethod yX6_isAsked, .selects RX6 yX6_isAsked yX6_isAsked, .initialized RX6, .code yX6_isAsked cX6_isAsked 2 (some .boolean), .methodLink RX6 152 yX6_isLoop, .static yX6_isLoop, .code yX6_isLoop cX6_isLoop 1 (some .boolean), .methodLink RX6 156 yX6_can, .instanceMethod yX6_can, .selects RX6 yX6_can yX6_can, .code yX6_can cX6_can 2 (some .boolean), .fieldLink RX6 142 "ControlBenchModel" "thrown" "I", .methodLink RX6 175 yX6_latest, .instanceMethod yX6_latest, .selects RX6 yX6_latest yX6_latest, .code yX6_latest cX6_latest 2 (some .long), .fieldLink RX6 32 "ControlBenchModel" "past" "[J"] ++ wsX60)
def wsX6_outputByIncrements : List Cond := .code yX6_outputByIncrements cX6_outputByIncrements 2 (some .long) :: ([.fieldLink RX6 75 "ControlBenchModel" "sum" "[J", .constantLong RX6 136 (1000), .methodLink RX6 217 yX6_isAsked, .instanceMethod yX6_isAsked, .selects RX6 yX6_isAsked yX6_isAsked, .initialized RX6, .code yX6_isAsked cX6_isAsked 2 (some .boolean), .methodLink RX6 152 yX6_isLoop, .static yX6_isLoop, .code yX6_isLoop cX6_isLoop 1 (some .boolean), .methodLink RX6 156 yX6_can, .instanceMethod yX6_can, .selects RX6 yX6_can yX6_can, .code yX6_can cX6_can 2 (some .boolean), .fieldLink RX6 142 "ControlBenchModel" "thrown" "I", .methodLink RX6 182 yX6_floor, .static yX6_floor, .code yX6_floor cX6_floor 6 (some .long)] ++ wsX60)
def wsX6_setpoint : List Cond := .code yX6_setpoint cX6_setpoint 2 (some .long) :: ([.fieldLink RX6 44 "ControlBenchModel" "setpoint" "[J", .methodLink RX6 217 yX6_isAsked, .instanceMethod yX6_isAsked, .selects RX6 yX6_isAsked yX6_isAsked, .initialized RX6, .code yX6_isAsked cX6_isAsked 2 (some .boolean), .methodLink RX6 152 yX6_isLoop, .static yX6_isLoop, .code yX6_isLoop cX6_isLoop 1 (some .boolean), .methodLink RX6 156 yX6_can, .instanceMethod yX6_can, .selects RX6 yX6_can yX6_can, .code yX6_can cX6_can 2 (some .boolean), .fieldLink RX6 142 "ControlBenchModel" "thrown" "I"] ++ wsX60)
def wsX6_integral : List Cond := .code yX6_integral cX6_integral 2 (some .long) :: ([.fieldLink RX6 47 "ControlBenchModel" "integral" "[J", .methodLink RX6 217 yX6_isAsked, .instanceMethod yX6_isAsked, .selects RX6 yX6_isAsked yX6_isAsked, .initialized RX6, .code yX6_isAsked cX6_isAsked 2 (some .boolean), .methodLink RX6 152 yX6_isLoop, .static yX6_isLoop, .code yX6_isLoop cX6_isLoop 1 (some .boolean), .methodLink RX6 156 yX6_can, .instanceMethod yX6_can, .selects RX6 yX6_can yX6_can, .code yX6_can cX6_can 2 (some .boolean), .fieldLink RX6 142 "ControlBenchModel" "thrown" "I"] ++ wsX60)
def wsX6_gain : List Cond := .code yX6_gain cX6_gain 3 (some .int) :: ([.fieldLink RX6 35 "ControlBenchModel" "gain" "[J", .methodLink RX6 152 yX6_isLoop, .static yX6_isLoop, .initialized RX6, .code yX6_isLoop cX6_isLoop 1 (some .boolean), .methodLink RX6 146 yX6_isIn, .static yX6_isIn, .code yX6_isIn cX6_isIn 3 (some .boolean), .methodLink RX6 156 yX6_can, .instanceMethod yX6_can, .selects RX6 yX6_can yX6_can, .code yX6_can cX6_can 2 (some .boolean), .fieldLink RX6 142 "ControlBenchModel" "thrown" "I"] ++ wsX60)
def wsX6_mode : List Cond := .code yX6_mode cX6_mode 2 (some .int) :: ([.fieldLink RX6 56 "ControlBenchModel" "mode" "[I", .methodLink RX6 217 yX6_isAsked, .instanceMethod yX6_isAsked, .selects RX6 yX6_isAsked yX6_isAsked, .initialized RX6, .code yX6_isAsked cX6_isAsked 2 (some .boolean), .methodLink RX6 152 yX6_isLoop, .static yX6_isLoop, .code yX6_isLoop cX6_isLoop 1 (some .boolean), .methodLink RX6 156 yX6_can, .instanceMethod yX6_can, .selects RX6 yX6_can yX6_can, .code yX6_can cX6_can 2 (some .boolean), .fieldLink RX6 142 "ControlBenchModel" "thrown" "I"] ++ wsX60)
def wsX6_wasStarved : List Cond := .code yX6_wasStarved cX6_wasStarved 2 (some .boolean) :: ([.fieldLink RX6 69 "ControlBenchModel" "isStarved" "[Z", .methodLink RX6 217 yX6_isAsked, .instanceMethod yX6_isAsked, .selects RX6 yX6_isAsked yX6_isAsked, .initialized RX6, .code yX6_isAsked cX6_isAsked 2 (some .boolean), .methodLink RX6 152 yX6_isLoop, .static yX6_isLoop, .code yX6_isLoop cX6_isLoop 1 (some .boolean), .methodLink RX6 156 yX6_can, .instanceMethod yX6_can, .selects RX6 yX6_can yX6_can, .code yX6_can cX6_can 2 (some .boolean), .fieldLink RX6 142 "ControlBenchModel" "thrown" "I"] ++ wsX60)
def wsX6_held : List Cond := .code yX6_held cX6_held 2 (some .int) :: ([.fieldLink RX6 72 "ControlBenchModel" "held" "[I", .methodLink RX6 217 yX6_isAsked, .instanceMethod yX6_isAsked, .selects RX6 yX6_isAsked yX6_isAsked, .initialized RX6, .code yX6_isAsked cX6_isAsked 2 (some .boolean), .methodLink RX6 152 yX6_isLoop, .static yX6_isLoop, .code yX6_isLoop cX6_isLoop 1 (some .boolean), .methodLink RX6 156 yX6_can, .instanceMethod yX6_can, .selects RX6 yX6_can yX6_can, .code yX6_can cX6_can 2 (some .boolean), .fieldLink RX6 142 "ControlBenchModel" "thrown" "I"] ++ wsX60)
def wsX6_startRelay_r1 : List Cond := [Cond.constant RX6 220 (100000), Cond.fieldLink RX6 56 "ControlBenchModel" "mode" "[I", Cond.fieldLink RX6 102 "ControlBenchModel" "height" "[I", Cond.fieldLink RX6 105 "ControlBenchModel" "band" "[I", Cond.fieldLink RX6 99 "ControlBenchModel" "center" "[J", Cond.fieldLink RX6 96 "ControlBenchModel" "experiment" "[I", Cond.fieldLink RX6 108 "ControlBenchModel" "isUp" "[Z", Cond.fieldLink RX6 111 "ControlBenchModel" "gone" "[I", Cond.fieldLink RX6 114 "ControlBenchModel" "risings" "[I", Cond.methodLink RX6 152 yX6_isLoop, Cond.static yX6_isLoop, Cond.initialized RX6, Cond.code yX6_isLoop cX6_isLoop 1 (some .boolean), Cond.methodLink RX6 146 yX6_isIn, Cond.static yX6_isIn, Cond.code yX6_isIn cX6_isIn 3 (some .boolean), Cond.methodLink RX6 156 yX6_can, Cond.instanceMethod yX6_can, Cond.selects RX6 yX6_can yX6_can, Cond.code yX6_can cX6_can 2 (some .boolean), Cond.fieldLink RX6 142 "ControlBenchModel" "thrown" "I", Cond.methodLink RX6 175 yX6_latest, Cond.instanceMethod yX6_latest, Cond.selects RX6 yX6_latest yX6_latest]
def wsX6_startRelay_r2 : List Cond := [Cond.code yX6_latest cX6_latest 2 (some .long), Cond.fieldLink RX6 32 "ControlBenchModel" "past" "[J"]
def wsX6_startRelay : List Cond := .code yX6_startRelay cX6_startRelay 4 none :: ((wsX6_startRelay_r1 ++ wsX6_startRelay_r2) ++ wsX60)
def wsX6_experiment : List Cond := .code yX6_experiment cX6_experiment 2 (some .int) :: ([.fieldLink RX6 96 "ControlBenchModel" "experiment" "[I", .methodLink RX6 217 yX6_isAsked, .instanceMethod yX6_isAsked, .selects RX6 yX6_isAsked yX6_isAsked, .initialized RX6, .code yX6_isAsked cX6_isAsked 2 (some .boolean), .methodLink RX6 152 yX6_isLoop, .static yX6_isLoop, .code yX6_isLoop cX6_isLoop 1 (some .boolean), .methodLink RX6 156 yX6_can, .instanceMethod yX6_can, .selects RX6 yX6_can yX6_can, .code yX6_can cX6_can 2 (some .boolean), .fieldLink RX6 142 "ControlBenchModel" "thrown" "I"] ++ wsX60)
def wsX6_isDone : List Cond := .code yX6_isDone cX6_isDone 2 (some .boolean) :: ([.fieldLink RX6 96 "ControlBenchModel" "experiment" "[I", .methodLink RX6 152 yX6_isLoop, .static yX6_isLoop, .initialized RX6, .code yX6_isLoop cX6_isLoop 1 (some .boolean), .methodLink RX6 156 yX6_can, .instanceMethod yX6_can, .selects RX6 yX6_can yX6_can, .code yX6_can cX6_can 2 (some .boolean), .fieldLink RX6 142 "ControlBenchModel" "thrown" "I"] ++ wsX60)
def wsX6_period : List Cond := .code yX6_period cX6_period 2 (some .int) :: ([.fieldLink RX6 126 "ControlBenchModel" "period" "[I", .methodLink RX6 221 yX6_isDone, .instanceMethod yX6_isDone, .selects RX6 yX6_isDone yX6_isDone, .initialized RX6, .code yX6_isDone cX6_isDone 2 (some .boolean), .fieldLink RX6 96 "ControlBenchModel" "experiment" "[I", .methodLink RX6 152 yX6_isLoop, .static yX6_isLoop, .code yX6_isLoop cX6_isLoop 1 (some .boolean), .methodLink RX6 156 yX6_can, .instanceMethod yX6_can, .selects RX6 yX6_can yX6_can, .code yX6_can cX6_can 2 (some .boolean), .fieldLink RX6 142 "ControlBenchModel" "thrown" "I"] ++ wsX60)
def wsX6_swing : List Cond := .code yX6_swing cX6_swing 2 (some .long) :: ([.fieldLink RX6 129 "ControlBenchModel" "swing" "[J", .methodLink RX6 221 yX6_isDone, .instanceMethod yX6_isDone, .selects RX6 yX6_isDone yX6_isDone, .initialized RX6, .code yX6_isDone cX6_isDone 2 (some .boolean), .fieldLink RX6 96 "ControlBenchModel" "experiment" "[I", .methodLink RX6 152 yX6_isLoop, .static yX6_isLoop, .code yX6_isLoop cX6_isLoop 1 (some .boolean), .methodLink RX6 156 yX6_can, .instanceMethod yX6_can, .selects RX6 yX6_can yX6_can, .code yX6_can cX6_can 2 (some .boolean), .fieldLink RX6 142 "ControlBenchModel" "thrown" "I"] ++ wsX60)
def wsX6_ultimate : List Cond := .code yX6_ultimate cX6_ultimate 2 (some .long) :: ([.constantLong RX6 224 (904000), .fieldLink RX6 102 "ControlBenchModel" "height" "[I", .constantLong RX6 226 (355), .fieldLink RX6 129 "ControlBenchModel" "swing" "[J"] ++ wsX60)
def wsX6_ultimateGain : List Cond := .code yX6_ultimateGain cX6_ultimateGain 2 (some .int) :: ([.fieldLink RX6 96 "ControlBenchModel" "experiment" "[I", .fieldLink RX6 129 "ControlBenchModel" "swing" "[J", .methodLink RX6 152 yX6_isLoop, .static yX6_isLoop, .initialized RX6, .code yX6_isLoop cX6_isLoop 1 (some .boolean), .methodLink RX6 156 yX6_can, .instanceMethod yX6_can, .selects RX6 yX6_can yX6_can, .code yX6_can cX6_can 2 (some .boolean), .fieldLink RX6 142 "ControlBenchModel" "thrown" "I", .methodLink RX6 228 yX6_ultimate, .instanceMethod yX6_ultimate, .selects RX6 yX6_ultimate yX6_ultimate, .code yX6_ultimate cX6_ultimate 2 (some .long), .constantLong RX6 224 (904000), .fieldLink RX6 102 "ControlBenchModel" "height" "[I", .constantLong RX6 226 (355)] ++ wsX60)
def wsX6_proposed_r1 : List Cond := [Cond.fieldLink RX6 96 "ControlBenchModel" "experiment" "[I", Cond.fieldLink RX6 129 "ControlBenchModel" "swing" "[J", Cond.fieldLink RX6 126 "ControlBenchModel" "period" "[I", Cond.constantLong RX6 231 (6), Cond.constantLong RX6 233 (10), Cond.constantLong RX6 235 (22), Cond.constantLong RX6 237 (20000), Cond.constantLong RX6 239 (12), Cond.constantLong RX6 138 (100), Cond.constantLong RX6 241 (484), Cond.constantLong RX6 243 (5000), Cond.constantLong RX6 245 (3), Cond.constantLong RX6 247 (40), Cond.constantLong RX6 249 (1386), Cond.constantLong RX6 251 (50000), Cond.methodLink RX6 152 yX6_isLoop, Cond.static yX6_isLoop, Cond.initialized RX6, Cond.code yX6_isLoop cX6_isLoop 1 (some .boolean), Cond.methodLink RX6 146 yX6_isIn, Cond.static yX6_isIn, Cond.code yX6_isIn cX6_isIn 3 (some .boolean), Cond.methodLink RX6 156 yX6_can, Cond.instanceMethod yX6_can]
def wsX6_proposed_r2 : List Cond := [Cond.selects RX6 yX6_can yX6_can, Cond.code yX6_can cX6_can 2 (some .boolean), Cond.fieldLink RX6 142 "ControlBenchModel" "thrown" "I", Cond.methodLink RX6 228 yX6_ultimate, Cond.instanceMethod yX6_ultimate, Cond.selects RX6 yX6_ultimate yX6_ultimate, Cond.code yX6_ultimate cX6_ultimate 2 (some .long), Cond.constantLong RX6 224 (904000), Cond.fieldLink RX6 102 "ControlBenchModel" "height" "[I", Cond.constantLong RX6 226 (355), Cond.methodLink RX6 190 yX6_within, Cond.static yX6_within, Cond.code yX6_within cX6_within 6 (some .long)]
def wsX6_proposed : List Cond := .code yX6_proposed cX6_proposed 8 (some .int) :: ((wsX6_proposed_r1 ++ wsX6_proposed_r2) ++ wsX60)
def wsJ9_max_f86c9 : List Cond := .code yJ9_max_f86c9 cJ9_max_f86c9 4 (some .long) :: ([])
def wsJ9_min_7cf53 : List Cond := .code yJ9_min_7cf53 cJ9_min_7cf53 2 (some .int) :: ([])
def wsJ9_min_f86c9 : List Cond := .code yJ9_min_f86c9 cJ9_min_f86c9 4 (some .long) :: ([])
def wsL_setPlant_r1 : List Cond := [Cond.classLink RL 13 "java/lang/IndexOutOfBoundsException", Cond.classLink RL 15 "java/lang/IllegalArgumentException", Cond.methodLink RL 7 yX5_setPlant, Cond.instanceMethod yX5_setPlant, Cond.selects RX5 yX5_setPlant yX5_setPlant, Cond.initialized RX5, Cond.code yX5_setPlant cX5_setPlant 7 none, Cond.fieldLink RX5 20 "ControlBench$Loop" "plant" "LControlBench$Plant;", Cond.fieldLink RX5 30 "ControlBench$Plant" "a1" "I", Cond.fieldLink RX5 34 "ControlBench$Plant" "a2" "I", Cond.fieldLink RX5 37 "ControlBench$Plant" "b" "I", Cond.fieldLink RX5 40 "ControlBench$Plant" "deadTime" "I", Cond.methodLink RX5 16 yX5_loopAt, Cond.instanceMethod yX5_loopAt, Cond.selects RX5 yX5_loopAt yX5_loopAt, Cond.code yX5_loopAt cX5_loopAt 2 (some (.object "ControlBench$Loop")), Cond.classLink RX5 209 "java/lang/IndexOutOfBoundsException", Cond.initialized "java/lang/IndexOutOfBoundsException", Cond.fieldLink RX5 11 "ControlBench" "loops" "[LControlBench$Loop;", Cond.methodLink RX5 24 yX5_requireWithin, Cond.static yX5_requireWithin, Cond.code yX5_requireWithin cX5_requireWithin 3 none, Cond.methodLink RX5 81 yX5_requireArgument, Cond.static yX5_requireArgument]
def wsL_setPlant_r2 : List Cond := [Cond.code yX5_requireArgument cX5_requireArgument 1 none, Cond.classLink RX5 220 "java/lang/IllegalArgumentException", Cond.initialized "java/lang/IllegalArgumentException"]
def wsL_setPlant : List Cond := .codeWith yL_setPlant cL_setPlant 7 (some .int) [(0, 11, 14, 13), (0, 11, 18, 15)] :: ((wsL_setPlant_r1 ++ wsL_setPlant_r2) ++ wsX10 ++ wsX20 ++ wsX50 ++ (vx_atS RX5 213 "java/lang/IndexOutOfBoundsException" ["java/lang/RuntimeException", "java/lang/Exception"]).filter goodWord ++ (vx_atS RX5 224 "java/lang/IllegalArgumentException" ["java/lang/RuntimeException", "java/lang/Exception"]).filter goodWord)
def wsL_setLoad : List Cond := .codeWith yL_setLoad cL_setLoad 5 (some .int) [(0, 10, 13, 13), (0, 10, 17, 15)] :: ([.classLink RL 13 "java/lang/IndexOutOfBoundsException", .classLink RL 15 "java/lang/IllegalArgumentException", .methodLink RL 17 yX5_setLoad, .instanceMethod yX5_setLoad, .selects RX5 yX5_setLoad yX5_setLoad, .initialized RX5, .code yX5_setLoad cX5_setLoad 5 (some .int), .fieldLink RX5 20 "ControlBench$Loop" "plant" "LControlBench$Plant;", .fieldLink RX5 43 "ControlBench$Plant" "load" "I", .methodLink RX5 16 yX5_loopAt, .instanceMethod yX5_loopAt, .selects RX5 yX5_loopAt yX5_loopAt, .code yX5_loopAt cX5_loopAt 2 (some (.object "ControlBench$Loop")), .classLink RX5 209 "java/lang/IndexOutOfBoundsException", .initialized "java/lang/IndexOutOfBoundsException", .fieldLink RX5 11 "ControlBench" "loops" "[LControlBench$Loop;", .methodLink RX5 24 yX5_requireWithin, .static yX5_requireWithin, .code yX5_requireWithin cX5_requireWithin 3 none, .methodLink RX5 81 yX5_requireArgument, .static yX5_requireArgument, .code yX5_requireArgument cX5_requireArgument 1 none, .classLink RX5 220 "java/lang/IllegalArgumentException", .initialized "java/lang/IllegalArgumentException"] ++ wsX10 ++ wsX20 ++ wsX50 ++ (vx_atS RX5 213 "java/lang/IndexOutOfBoundsException" ["java/lang/RuntimeException", "java/lang/Exception"]).filter goodWord ++ (vx_atS RX5 224 "java/lang/IllegalArgumentException" ["java/lang/RuntimeException", "java/lang/Exception"]).filter goodWord)
def wsL_setGains_r1 : List Cond := [Cond.classLink RL 13 "java/lang/IndexOutOfBoundsException", Cond.classLink RL 15 "java/lang/IllegalArgumentException", Cond.classLink RL 25 "java/lang/IllegalStateException", Cond.methodLink RL 21 yX5_setGains, Cond.instanceMethod yX5_setGains, Cond.selects RX5 yX5_setGains yX5_setGains, Cond.initialized RX5, Cond.code yX5_setGains cX5_setGains 6 (some .int), Cond.fieldLink RX5 49 "ControlBench$Loop" "mode" "I", Cond.fieldLink RX5 56 "ControlBench$Loop" "controller" "LControlBench$Controller;", Cond.fieldLink RX5 65 "ControlBench$Loop" "schedule" "LControlBench$Schedule;", Cond.methodLink RX5 16 yX5_loopAt, Cond.instanceMethod yX5_loopAt, Cond.selects RX5 yX5_loopAt yX5_loopAt, Cond.code yX5_loopAt cX5_loopAt 2 (some (.object "ControlBench$Loop")), Cond.classLink RX5 209 "java/lang/IndexOutOfBoundsException", Cond.initialized "java/lang/IndexOutOfBoundsException", Cond.fieldLink RX5 11 "ControlBench" "loops" "[LControlBench$Loop;", Cond.methodLink RX5 46 yX5_requireGains, Cond.static yX5_requireGains, Cond.code yX5_requireGains cX5_requireGains 3 none, Cond.constant RX5 218 (-50000), Cond.constant RX5 219 (50000), Cond.methodLink RX5 24 yX5_requireWithin]
def wsL_setGains_r2 : List Cond := [Cond.static yX5_requireWithin, Cond.code yX5_requireWithin cX5_requireWithin 3 none, Cond.methodLink RX5 81 yX5_requireArgument, Cond.static yX5_requireArgument, Cond.code yX5_requireArgument cX5_requireArgument 1 none, Cond.classLink RX5 220 "java/lang/IllegalArgumentException", Cond.initialized "java/lang/IllegalArgumentException", Cond.methodLink RX5 52 yX5_requireState, Cond.static yX5_requireState, Cond.code yX5_requireState cX5_requireState 1 none, Cond.classLink RX5 225 "java/lang/IllegalStateException", Cond.initialized "java/lang/IllegalStateException", Cond.methodLink RX5 60 yX0_changeGains, Cond.instanceMethod yX0_changeGains, Cond.selects RX0 yX0_changeGains yX0_changeGains, Cond.initialized RX0, Cond.code yX0_changeGains cX0_changeGains 4 none, Cond.fieldLink RX0 48 "ControlBench$Controller" "integral" "J", Cond.fieldLink RX0 7 "ControlBench$Controller" "p" "I", Cond.fieldLink RX0 55 "ControlBench$Controller" "d" "I", Cond.fieldLink RX0 13 "ControlBench$Controller" "i" "I", Cond.methodLink RX0 51 yX0_error, Cond.instanceMethod yX0_error, Cond.selects RX0 yX0_error yX0_error]
def wsL_setGains_r3 : List Cond := [Cond.code yX0_error cX0_error 1 (some .long), Cond.fieldLink RX0 27 "ControlBench$Controller" "setpoint" "J", Cond.fieldLink RX0 23 "ControlBench$Controller" "plant" "LControlBench$Plant;", Cond.fieldLink RX0 31 "ControlBench$Plant" "measure" "J", Cond.methodLink RX0 58 yX0_rate, Cond.instanceMethod yX0_rate, Cond.selects RX0 yX0_rate yX0_rate, Cond.code yX0_rate cX0_rate 1 (some .long), Cond.fieldLink RX0 36 "ControlBench$Plant" "measureBefore" "J", Cond.methodLink RX5 69 yX4_takeAway, Cond.instanceMethod yX4_takeAway, Cond.selects RX4 yX4_takeAway yX4_takeAway, Cond.initialized RX4, Cond.code yX4_takeAway cX4_takeAway 2 (some .int), Cond.fieldLink RX4 22 "ControlBench$Schedule" "points" "I"]
def wsL_setGains : List Cond := .codeWith yL_setGains cL_setGains 7 (some .int) [(0, 14, 17, 13), (0, 14, 21, 15), (0, 14, 25, 25)] :: ((wsL_setGains_r1 ++ (wsL_setGains_r2 ++ wsL_setGains_r3)) ++ wsX10 ++ wsX50 ++ wsX00 ++ wsX20 ++ wsX40 ++ (vx_atS RX5 213 "java/lang/IndexOutOfBoundsException" ["java/lang/RuntimeException", "java/lang/Exception"]).filter goodWord ++ (vx_atS RX5 224 "java/lang/IllegalArgumentException" ["java/lang/RuntimeException", "java/lang/Exception"]).filter goodWord ++ (vx_atS RX5 229 "java/lang/IllegalStateException" ["java/lang/RuntimeException", "java/lang/Exception"]).filter goodWord)
def wsL_addPoint_r1 : List Cond := [Cond.classLink RL 13 "java/lang/IndexOutOfBoundsException", Cond.classLink RL 15 "java/lang/IllegalArgumentException", Cond.classLink RL 25 "java/lang/IllegalStateException", Cond.methodLink RL 27 yX5_addPoint, Cond.instanceMethod yX5_addPoint, Cond.selects RX5 yX5_addPoint yX5_addPoint, Cond.initialized RX5, Cond.code yX5_addPoint cX5_addPoint 7 (some .int), Cond.fieldLink RX5 65 "ControlBench$Loop" "schedule" "LControlBench$Schedule;", Cond.constant RX5 75 (-1000000), Cond.constant RX5 76 (1000000), Cond.methodLink RX5 16 yX5_loopAt, Cond.instanceMethod yX5_loopAt, Cond.selects RX5 yX5_loopAt yX5_loopAt, Cond.code yX5_loopAt cX5_loopAt 2 (some (.object "ControlBench$Loop")), Cond.classLink RX5 209 "java/lang/IndexOutOfBoundsException", Cond.initialized "java/lang/IndexOutOfBoundsException", Cond.fieldLink RX5 11 "ControlBench" "loops" "[LControlBench$Loop;", Cond.methodLink RX5 24 yX5_requireWithin, Cond.static yX5_requireWithin, Cond.code yX5_requireWithin cX5_requireWithin 3 none, Cond.methodLink RX5 81 yX5_requireArgument, Cond.static yX5_requireArgument, Cond.code yX5_requireArgument cX5_requireArgument 1 none]
def wsL_addPoint_r2 : List Cond := [Cond.classLink RX5 220 "java/lang/IllegalArgumentException", Cond.initialized "java/lang/IllegalArgumentException", Cond.methodLink RX5 46 yX5_requireGains, Cond.static yX5_requireGains, Cond.code yX5_requireGains cX5_requireGains 3 none, Cond.constant RX5 218 (-50000), Cond.constant RX5 219 (50000), Cond.methodLink RX5 77 yX4_endsBelow, Cond.instanceMethod yX4_endsBelow, Cond.selects RX4 yX4_endsBelow yX4_endsBelow, Cond.initialized RX4, Cond.code yX4_endsBelow cX4_endsBelow 2 (some .boolean), Cond.fieldLink RX4 22 "ControlBench$Schedule" "points" "I", Cond.fieldLink RX4 9 "ControlBench$Schedule" "measures" "[I", Cond.methodLink RX5 84 yX4_isFull, Cond.instanceMethod yX4_isFull, Cond.selects RX4 yX4_isFull yX4_isFull, Cond.code yX4_isFull cX4_isFull 1 (some .boolean), Cond.methodLink RX5 52 yX5_requireState, Cond.static yX5_requireState, Cond.code yX5_requireState cX5_requireState 1 none, Cond.classLink RX5 225 "java/lang/IllegalStateException", Cond.initialized "java/lang/IllegalStateException", Cond.methodLink RX5 88 yX4_addLast]
def wsL_addPoint_r3 : List Cond := [Cond.instanceMethod yX4_addLast, Cond.selects RX4 yX4_addLast yX4_addLast, Cond.code yX4_addLast cX4_addLast 5 (some .int), Cond.fieldLink RX4 13 "ControlBench$Schedule" "ps" "[I", Cond.fieldLink RX4 16 "ControlBench$Schedule" "is" "[I", Cond.fieldLink RX4 19 "ControlBench$Schedule" "ds" "[I"]
def wsL_addPoint : List Cond := .codeWith yL_addPoint cL_addPoint 8 (some .int) [(0, 16, 19, 13), (0, 16, 23, 15), (0, 16, 27, 25)] :: ((wsL_addPoint_r1 ++ (wsL_addPoint_r2 ++ wsL_addPoint_r3)) ++ wsX10 ++ wsX50 ++ wsX40 ++ (vx_atS RX5 213 "java/lang/IndexOutOfBoundsException" ["java/lang/RuntimeException", "java/lang/Exception"]).filter goodWord ++ (vx_atS RX5 224 "java/lang/IllegalArgumentException" ["java/lang/RuntimeException", "java/lang/Exception"]).filter goodWord ++ (vx_atS RX5 229 "java/lang/IllegalStateException" ["java/lang/RuntimeException", "java/lang/Exception"]).filter goodWord)
def wsL_setLimits_r1 : List Cond := [Cond.classLink RL 13 "java/lang/IndexOutOfBoundsException", Cond.classLink RL 15 "java/lang/IllegalArgumentException", Cond.methodLink RL 31 yX5_setLimits, Cond.instanceMethod yX5_setLimits, Cond.selects RX5 yX5_setLimits yX5_setLimits, Cond.initialized RX5, Cond.code yX5_setLimits cX5_setLimits 5 none, Cond.fieldLink RX5 56 "ControlBench$Loop" "controller" "LControlBench$Controller;", Cond.constant RX5 75 (-1000000), Cond.constant RX5 76 (1000000), Cond.fieldLink RX5 92 "ControlBench$Controller" "low" "I", Cond.fieldLink RX5 95 "ControlBench$Controller" "high" "I", Cond.methodLink RX5 16 yX5_loopAt, Cond.instanceMethod yX5_loopAt, Cond.selects RX5 yX5_loopAt yX5_loopAt, Cond.code yX5_loopAt cX5_loopAt 2 (some (.object "ControlBench$Loop")), Cond.classLink RX5 209 "java/lang/IndexOutOfBoundsException", Cond.initialized "java/lang/IndexOutOfBoundsException", Cond.fieldLink RX5 11 "ControlBench" "loops" "[LControlBench$Loop;", Cond.methodLink RX5 24 yX5_requireWithin, Cond.static yX5_requireWithin, Cond.code yX5_requireWithin cX5_requireWithin 3 none, Cond.methodLink RX5 81 yX5_requireArgument, Cond.static yX5_requireArgument]
def wsL_setLimits_r2 : List Cond := [Cond.code yX5_requireArgument cX5_requireArgument 1 none, Cond.classLink RX5 220 "java/lang/IllegalArgumentException", Cond.initialized "java/lang/IllegalArgumentException"]
def wsL_setLimits : List Cond := .codeWith yL_setLimits cL_setLimits 5 (some .int) [(0, 7, 10, 13), (0, 7, 14, 15)] :: ((wsL_setLimits_r1 ++ wsL_setLimits_r2) ++ wsX10 ++ wsX00 ++ wsX50 ++ (vx_atS RX5 213 "java/lang/IndexOutOfBoundsException" ["java/lang/RuntimeException", "java/lang/Exception"]).filter goodWord ++ (vx_atS RX5 224 "java/lang/IllegalArgumentException" ["java/lang/RuntimeException", "java/lang/Exception"]).filter goodWord)
def wsL_setGuard_r1 : List Cond := [Cond.classLink RL 13 "java/lang/IndexOutOfBoundsException", Cond.classLink RL 15 "java/lang/IllegalArgumentException", Cond.methodLink RL 35 yX5_setGuard, Cond.instanceMethod yX5_setGuard, Cond.selects RX5 yX5_setGuard yX5_setGuard, Cond.initialized RX5, Cond.code yX5_setGuard cX5_setGuard 6 (some .int), Cond.fieldLink RX5 56 "ControlBench$Loop" "controller" "LControlBench$Controller;", Cond.fieldLink RX5 98 "ControlBench$Controller" "guard" "I", Cond.fieldLink RX5 101 "ControlBench$Controller" "share" "I", Cond.methodLink RX5 16 yX5_loopAt, Cond.instanceMethod yX5_loopAt, Cond.selects RX5 yX5_loopAt yX5_loopAt, Cond.code yX5_loopAt cX5_loopAt 2 (some (.object "ControlBench$Loop")), Cond.classLink RX5 209 "java/lang/IndexOutOfBoundsException", Cond.initialized "java/lang/IndexOutOfBoundsException", Cond.fieldLink RX5 11 "ControlBench" "loops" "[LControlBench$Loop;", Cond.methodLink RX5 24 yX5_requireWithin, Cond.static yX5_requireWithin, Cond.code yX5_requireWithin cX5_requireWithin 3 none, Cond.methodLink RX5 81 yX5_requireArgument, Cond.static yX5_requireArgument, Cond.code yX5_requireArgument cX5_requireArgument 1 none, Cond.classLink RX5 220 "java/lang/IllegalArgumentException"]
def wsL_setGuard_r2 : List Cond := [Cond.initialized "java/lang/IllegalArgumentException"]
def wsL_setGuard : List Cond := .codeWith yL_setGuard cL_setGuard 6 (some .int) [(0, 12, 15, 13), (0, 12, 19, 15)] :: ((wsL_setGuard_r1 ++ wsL_setGuard_r2) ++ wsX10 ++ wsX00 ++ wsX50 ++ (vx_atS RX5 213 "java/lang/IndexOutOfBoundsException" ["java/lang/RuntimeException", "java/lang/Exception"]).filter goodWord ++ (vx_atS RX5 224 "java/lang/IllegalArgumentException" ["java/lang/RuntimeException", "java/lang/Exception"]).filter goodWord)
def wsL_setSetpoint_r1 : List Cond := [Cond.classLink RL 13 "java/lang/IndexOutOfBoundsException", Cond.classLink RL 15 "java/lang/IllegalArgumentException", Cond.classLink RL 25 "java/lang/IllegalStateException", Cond.methodLink RL 39 yX5_setSetpoint, Cond.instanceMethod yX5_setSetpoint, Cond.selects RX5 yX5_setSetpoint yX5_setSetpoint, Cond.initialized RX5, Cond.code yX5_setSetpoint cX5_setSetpoint 6 (some .int), Cond.constant RX5 75 (-1000000), Cond.constant RX5 76 (1000000), Cond.fieldLink RX5 49 "ControlBench$Loop" "mode" "I", Cond.fieldLink RX5 56 "ControlBench$Loop" "controller" "LControlBench$Controller;", Cond.fieldLink RX5 104 "ControlBench$Controller" "setpoint" "J", Cond.methodLink RX5 16 yX5_loopAt, Cond.instanceMethod yX5_loopAt, Cond.selects RX5 yX5_loopAt yX5_loopAt, Cond.code yX5_loopAt cX5_loopAt 2 (some (.object "ControlBench$Loop")), Cond.classLink RX5 209 "java/lang/IndexOutOfBoundsException", Cond.initialized "java/lang/IndexOutOfBoundsException", Cond.fieldLink RX5 11 "ControlBench" "loops" "[LControlBench$Loop;", Cond.methodLink RX5 24 yX5_requireWithin, Cond.static yX5_requireWithin, Cond.code yX5_requireWithin cX5_requireWithin 3 none, Cond.methodLink RX5 81 yX5_requireArgument]
def wsL_setSetpoint_r2 : List Cond := [Cond.static yX5_requireArgument, Cond.code yX5_requireArgument cX5_requireArgument 1 none, Cond.classLink RX5 220 "java/lang/IllegalArgumentException", Cond.initialized "java/lang/IllegalArgumentException", Cond.methodLink RX5 52 yX5_requireState, Cond.static yX5_requireState, Cond.code yX5_requireState cX5_requireState 1 none, Cond.classLink RX5 225 "java/lang/IllegalStateException", Cond.initialized "java/lang/IllegalStateException"]
def wsL_setSetpoint : List Cond := .codeWith yL_setSetpoint cL_setSetpoint 5 (some .int) [(0, 10, 13, 13), (0, 10, 17, 15), (0, 10, 21, 25)] :: ((wsL_setSetpoint_r1 ++ wsL_setSetpoint_r2) ++ wsX10 ++ wsX00 ++ wsX50 ++ (vx_atS RX5 213 "java/lang/IndexOutOfBoundsException" ["java/lang/RuntimeException", "java/lang/Exception"]).filter goodWord ++ (vx_atS RX5 224 "java/lang/IllegalArgumentException" ["java/lang/RuntimeException", "java/lang/Exception"]).filter goodWord ++ (vx_atS RX5 229 "java/lang/IllegalStateException" ["java/lang/RuntimeException", "java/lang/Exception"]).filter goodWord)
def wsL_setHand_r1 : List Cond := [Cond.classLink RL 13 "java/lang/IndexOutOfBoundsException", Cond.classLink RL 15 "java/lang/IllegalArgumentException", Cond.classLink RL 25 "java/lang/IllegalStateException", Cond.methodLink RL 42 yX5_setHand, Cond.instanceMethod yX5_setHand, Cond.selects RX5 yX5_setHand yX5_setHand, Cond.initialized RX5, Cond.code yX5_setHand cX5_setHand 6 (some .int), Cond.constant RX5 75 (-1000000), Cond.constant RX5 76 (1000000), Cond.fieldLink RX5 49 "ControlBench$Loop" "mode" "I", Cond.fieldLink RX5 108 "ControlBench$Loop" "handValue" "J", Cond.methodLink RX5 16 yX5_loopAt, Cond.instanceMethod yX5_loopAt, Cond.selects RX5 yX5_loopAt yX5_loopAt, Cond.code yX5_loopAt cX5_loopAt 2 (some (.object "ControlBench$Loop")), Cond.classLink RX5 209 "java/lang/IndexOutOfBoundsException", Cond.initialized "java/lang/IndexOutOfBoundsException", Cond.fieldLink RX5 11 "ControlBench" "loops" "[LControlBench$Loop;", Cond.methodLink RX5 24 yX5_requireWithin, Cond.static yX5_requireWithin, Cond.code yX5_requireWithin cX5_requireWithin 3 none, Cond.methodLink RX5 81 yX5_requireArgument, Cond.static yX5_requireArgument]
def wsL_setHand_r2 : List Cond := [Cond.code yX5_requireArgument cX5_requireArgument 1 none, Cond.classLink RX5 220 "java/lang/IllegalArgumentException", Cond.initialized "java/lang/IllegalArgumentException", Cond.methodLink RX5 52 yX5_requireState, Cond.static yX5_requireState, Cond.code yX5_requireState cX5_requireState 1 none, Cond.classLink RX5 225 "java/lang/IllegalStateException", Cond.initialized "java/lang/IllegalStateException"]
def wsL_setHand : List Cond := .codeWith yL_setHand cL_setHand 5 (some .int) [(0, 10, 13, 13), (0, 10, 17, 15), (0, 10, 21, 25)] :: ((wsL_setHand_r1 ++ wsL_setHand_r2) ++ wsX10 ++ wsX50 ++ (vx_atS RX5 213 "java/lang/IndexOutOfBoundsException" ["java/lang/RuntimeException", "java/lang/Exception"]).filter goodWord ++ (vx_atS RX5 224 "java/lang/IllegalArgumentException" ["java/lang/RuntimeException", "java/lang/Exception"]).filter goodWord ++ (vx_atS RX5 229 "java/lang/IllegalStateException" ["java/lang/RuntimeException", "java/lang/Exception"]).filter goodWord)
def wsL_setTies_r1 : List Cond := [Cond.classLink RL 13 "java/lang/IndexOutOfBoundsException", Cond.classLink RL 15 "java/lang/IllegalArgumentException", Cond.classLink RL 25 "java/lang/IllegalStateException", Cond.methodLink RL 45 yX5_setTies, Cond.instanceMethod yX5_setTies, Cond.selects RX5 yX5_setTies yX5_setTies, Cond.initialized RX5, Cond.code yX5_setTies cX5_setTies 5 none, Cond.fieldLink RX5 49 "ControlBench$Loop" "mode" "I", Cond.fieldLink RX5 111 "ControlBench$Loop" "follows" "Z", Cond.fieldLink RX5 115 "ControlBench$Loop" "hasMaster" "Z", Cond.methodLink RX5 16 yX5_loopAt, Cond.instanceMethod yX5_loopAt, Cond.selects RX5 yX5_loopAt yX5_loopAt, Cond.code yX5_loopAt cX5_loopAt 2 (some (.object "ControlBench$Loop")), Cond.classLink RX5 209 "java/lang/IndexOutOfBoundsException", Cond.initialized "java/lang/IndexOutOfBoundsException", Cond.fieldLink RX5 11 "ControlBench" "loops" "[LControlBench$Loop;", Cond.methodLink RX5 81 yX5_requireArgument, Cond.static yX5_requireArgument, Cond.code yX5_requireArgument cX5_requireArgument 1 none, Cond.classLink RX5 220 "java/lang/IllegalArgumentException", Cond.initialized "java/lang/IllegalArgumentException", Cond.methodLink RX5 52 yX5_requireState]
def wsL_setTies_r2 : List Cond := [Cond.static yX5_requireState, Cond.code yX5_requireState cX5_requireState 1 none, Cond.classLink RX5 225 "java/lang/IllegalStateException", Cond.initialized "java/lang/IllegalStateException"]
def wsL_setTies : List Cond := .codeWith yL_setTies cL_setTies 5 (some .int) [(0, 7, 10, 13), (0, 7, 14, 15), (0, 7, 18, 25)] :: ((wsL_setTies_r1 ++ wsL_setTies_r2) ++ wsX10 ++ wsX50 ++ (vx_atS RX5 213 "java/lang/IndexOutOfBoundsException" ["java/lang/RuntimeException", "java/lang/Exception"]).filter goodWord ++ (vx_atS RX5 224 "java/lang/IllegalArgumentException" ["java/lang/RuntimeException", "java/lang/Exception"]).filter goodWord ++ (vx_atS RX5 229 "java/lang/IllegalStateException" ["java/lang/RuntimeException", "java/lang/Exception"]).filter goodWord)
def wsL_setMode_r1 : List Cond := [Cond.classLink RL 13 "java/lang/IndexOutOfBoundsException", Cond.classLink RL 15 "java/lang/IllegalArgumentException", Cond.classLink RL 25 "java/lang/IllegalStateException", Cond.methodLink RL 49 yX5_setMode, Cond.instanceMethod yX5_setMode, Cond.selects RX5 yX5_setMode yX5_setMode, Cond.initialized RX5, Cond.code yX5_setMode cX5_setMode 5 (some .int), Cond.fieldLink RX5 49 "ControlBench$Loop" "mode" "I", Cond.fieldLink RX5 115 "ControlBench$Loop" "hasMaster" "Z", Cond.methodLink RX5 16 yX5_loopAt, Cond.instanceMethod yX5_loopAt, Cond.selects RX5 yX5_loopAt yX5_loopAt, Cond.code yX5_loopAt cX5_loopAt 2 (some (.object "ControlBench$Loop")), Cond.classLink RX5 209 "java/lang/IndexOutOfBoundsException", Cond.initialized "java/lang/IndexOutOfBoundsException", Cond.fieldLink RX5 11 "ControlBench" "loops" "[LControlBench$Loop;", Cond.methodLink RX5 24 yX5_requireWithin, Cond.static yX5_requireWithin, Cond.code yX5_requireWithin cX5_requireWithin 3 none, Cond.methodLink RX5 81 yX5_requireArgument, Cond.static yX5_requireArgument, Cond.code yX5_requireArgument cX5_requireArgument 1 none, Cond.classLink RX5 220 "java/lang/IllegalArgumentException"]
def wsL_setMode_r2 : List Cond := [Cond.initialized "java/lang/IllegalArgumentException", Cond.methodLink RX5 52 yX5_requireState, Cond.static yX5_requireState, Cond.code yX5_requireState cX5_requireState 1 none, Cond.classLink RX5 225 "java/lang/IllegalStateException", Cond.initialized "java/lang/IllegalStateException", Cond.methodLink RX5 118 yX1_changeMode, Cond.instanceMethod yX1_changeMode, Cond.selects RX1 yX1_changeMode yX1_changeMode, Cond.initialized RX1, Cond.code yX1_changeMode cX1_changeMode 2 none, Cond.fieldLink RX1 41 "ControlBench$Loop" "mode" "I", Cond.fieldLink RX1 23 "ControlBench$Loop" "controller" "LControlBench$Controller;", Cond.fieldLink RX1 48 "ControlBench$Loop" "output" "J", Cond.methodLink RX1 45 yX1_goToHand, Cond.instanceMethod yX1_goToHand, Cond.selects RX1 yX1_goToHand yX1_goToHand, Cond.code yX1_goToHand cX1_goToHand 1 none, Cond.fieldLink RX1 56 "ControlBench$Loop" "handValue" "J", Cond.fieldLink RX1 37 "ControlBench$Loop" "relay" "LControlBench$Relay;", Cond.methodLink RX1 59 yX3_giveUp, Cond.instanceMethod yX3_giveUp, Cond.selects RX3 yX3_giveUp yX3_giveUp, Cond.initialized RX3]
def wsL_setMode_r3 : List Cond := [Cond.code yX3_giveUp cX3_giveUp 1 none, Cond.fieldLink RX3 9 "ControlBench$Relay" "progress" "I", Cond.methodLink RX1 52 yX0_settle, Cond.instanceMethod yX0_settle, Cond.selects RX0 yX0_settle yX0_settle, Cond.initialized RX0, Cond.code yX0_settle cX0_settle 3 none, Cond.constantLong RX0 61 (1000), Cond.fieldLink RX0 7 "ControlBench$Controller" "p" "I", Cond.fieldLink RX0 55 "ControlBench$Controller" "d" "I", Cond.fieldLink RX0 48 "ControlBench$Controller" "integral" "J", Cond.fieldLink RX0 63 "ControlBench$Controller" "goesOn" "Z", Cond.methodLink RX0 51 yX0_error, Cond.instanceMethod yX0_error, Cond.selects RX0 yX0_error yX0_error, Cond.code yX0_error cX0_error 1 (some .long), Cond.fieldLink RX0 27 "ControlBench$Controller" "setpoint" "J", Cond.fieldLink RX0 23 "ControlBench$Controller" "plant" "LControlBench$Plant;", Cond.fieldLink RX0 31 "ControlBench$Plant" "measure" "J", Cond.methodLink RX0 58 yX0_rate, Cond.instanceMethod yX0_rate, Cond.selects RX0 yX0_rate yX0_rate, Cond.code yX0_rate cX0_rate 1 (some .long), Cond.fieldLink RX0 36 "ControlBench$Plant" "measureBefore" "J"]
def wsL_setMode : List Cond := .codeWith yL_setMode cL_setMode 5 (some .int) [(0, 10, 13, 13), (0, 10, 17, 15), (0, 10, 21, 25)] :: ((wsL_setMode_r1 ++ (wsL_setMode_r2 ++ wsL_setMode_r3)) ++ wsX10 ++ wsX50 ++ wsX30 ++ wsX00 ++ wsX20 ++ (vx_atS RX5 213 "java/lang/IndexOutOfBoundsException" ["java/lang/RuntimeException", "java/lang/Exception"]).filter goodWord ++ (vx_atS RX5 224 "java/lang/IllegalArgumentException" ["java/lang/RuntimeException", "java/lang/Exception"]).filter goodWord ++ (vx_atS RX5 229 "java/lang/IllegalStateException" ["java/lang/RuntimeException", "java/lang/Exception"]).filter goodWord)
def wsL_run_r1 : List Cond := [Cond.classLink RL 15 "java/lang/IllegalArgumentException", Cond.methodLink RL 52 yX5_run, Cond.instanceMethod yX5_run, Cond.selects RX5 yX5_run yX5_run, Cond.initialized RX5, Cond.code yX5_run cX5_run 3 (some .int), Cond.fieldLink RX5 125 "ControlBench" "samplesSoFar" "I", Cond.methodLink RX5 24 yX5_requireWithin, Cond.static yX5_requireWithin, Cond.code yX5_requireWithin cX5_requireWithin 3 none, Cond.methodLink RX5 81 yX5_requireArgument, Cond.static yX5_requireArgument, Cond.code yX5_requireArgument cX5_requireArgument 1 none, Cond.classLink RX5 220 "java/lang/IllegalArgumentException", Cond.initialized "java/lang/IllegalArgumentException", Cond.methodLink RX5 122 yX5_letOneSampleGoBy, Cond.instanceMethod yX5_letOneSampleGoBy, Cond.selects RX5 yX5_letOneSampleGoBy yX5_letOneSampleGoBy, Cond.code yX5_letOneSampleGoBy cX5_letOneSampleGoBy 2 none, Cond.fieldLink RX5 11 "ControlBench" "loops" "[LControlBench$Loop;", Cond.fieldLink RX5 20 "ControlBench$Loop" "plant" "LControlBench$Plant;", Cond.fieldLink RX5 131 "ControlBench$Loop" "output" "J", Cond.methodLink RX5 230 yX5_takeTurn, Cond.instanceMethod yX5_takeTurn]
def wsL_run_r2 : List Cond := [Cond.selects RX5 yX5_takeTurn yX5_takeTurn, Cond.code yX5_takeTurn cX5_takeTurn 3 none, Cond.fieldLink RX5 49 "ControlBench$Loop" "mode" "I", Cond.fieldLink RX5 56 "ControlBench$Loop" "controller" "LControlBench$Controller;", Cond.fieldLink RX5 104 "ControlBench$Controller" "setpoint" "J", Cond.fieldLink RX5 160 "ControlBench$Loop" "starved" "Z", Cond.methodLink RX5 237 yX1_isStarvedBy, Cond.instanceMethod yX1_isStarvedBy, Cond.selects RX1 yX1_isStarvedBy yX1_isStarvedBy, Cond.initialized RX1, Cond.code yX1_isStarvedBy cX1_isStarvedBy 3 (some .boolean), Cond.fieldLink RX1 41 "ControlBench$Loop" "mode" "I", Cond.fieldLink RX1 62 "ControlBench$Loop" "hasMaster" "Z", Cond.methodLink RX5 241 yX1_giveWay, Cond.instanceMethod yX1_giveWay, Cond.selects RX1 yX1_giveWay yX1_giveWay, Cond.code yX1_giveWay cX1_giveWay 3 none, Cond.fieldLink RX1 66 "ControlBench$Loop" "starved" "Z", Cond.fieldLink RX1 23 "ControlBench$Loop" "controller" "LControlBench$Controller;", Cond.fieldLink RX1 48 "ControlBench$Loop" "output" "J", Cond.methodLink RX1 69 yX0_withinLimits, Cond.instanceMethod yX0_withinLimits, Cond.selects RX0 yX0_withinLimits yX0_withinLimits, Cond.initialized RX0]
def wsL_run_r3 : List Cond := [Cond.code yX0_withinLimits cX0_withinLimits 3 (some .long), Cond.fieldLink RX0 39 "ControlBench$Controller" "low" "I", Cond.fieldLink RX0 17 "ControlBench$Controller" "high" "I", Cond.static yX5_hold, Cond.code yX5_hold cX5_hold 6 (some .long), Cond.methodLink RX5 196 Lib.MathLoose.min_long.x, Cond.static Lib.MathLoose.min_long.x, Cond.initialized "java/lang/Math", Cond.code Lib.MathLoose.min_long.x Lib.MathLoose.min_long.code 4 (some .long), Cond.methodLink RX5 253 Lib.MathLoose.max_long.x, Cond.static Lib.MathLoose.max_long.x, Cond.code Lib.MathLoose.max_long.x Lib.MathLoose.max_long.code 4 (some .long), Cond.methodLink RX1 52 yX0_settle, Cond.instanceMethod yX0_settle, Cond.selects RX0 yX0_settle yX0_settle, Cond.code yX0_settle cX0_settle 3 none, Cond.constantLong RX0 61 (1000), Cond.fieldLink RX0 7 "ControlBench$Controller" "p" "I", Cond.fieldLink RX0 55 "ControlBench$Controller" "d" "I", Cond.fieldLink RX0 48 "ControlBench$Controller" "integral" "J", Cond.fieldLink RX0 63 "ControlBench$Controller" "goesOn" "Z", Cond.methodLink RX0 51 yX0_error, Cond.instanceMethod yX0_error, Cond.selects RX0 yX0_error yX0_error]
def wsL_run_r4 : List Cond := [Cond.code yX0_error cX0_error 1 (some .long), Cond.fieldLink RX0 27 "ControlBench$Controller" "setpoint" "J", Cond.fieldLink RX0 23 "ControlBench$Controller" "plant" "LControlBench$Plant;", Cond.fieldLink RX0 31 "ControlBench$Plant" "measure" "J", Cond.methodLink RX0 58 yX0_rate, Cond.instanceMethod yX0_rate, Cond.selects RX0 yX0_rate yX0_rate, Cond.code yX0_rate cX0_rate 1 (some .long), Cond.fieldLink RX0 36 "ControlBench$Plant" "measureBefore" "J", Cond.methodLink RX5 244 yX1_actByHand, Cond.instanceMethod yX1_actByHand, Cond.selects RX1 yX1_actByHand yX1_actByHand, Cond.code yX1_actByHand cX1_actByHand 1 none, Cond.fieldLink RX1 73 "ControlBench$Loop" "follows" "Z", Cond.fieldLink RX1 12 "ControlBench$Loop" "plant" "LControlBench$Plant;", Cond.fieldLink RX1 76 "ControlBench$Plant" "measure" "J", Cond.fieldLink RX1 79 "ControlBench$Controller" "setpoint" "J", Cond.fieldLink RX1 56 "ControlBench$Loop" "handValue" "J", Cond.methodLink RX5 247 yX1_actAsRelay, Cond.instanceMethod yX1_actAsRelay, Cond.selects RX1 yX1_actAsRelay yX1_actAsRelay, Cond.code yX1_actAsRelay cX1_actAsRelay 1 none, Cond.fieldLink RX1 37 "ControlBench$Loop" "relay" "LControlBench$Relay;", Cond.fieldLink RX1 118 "ControlBench$Relay" "progress" "I"]
def wsL_run_r5 : List Cond := [Cond.fieldLink RX1 121 "ControlBench$Relay" "center" "J", Cond.methodLink RX1 108 yX0_error, Cond.methodLink RX1 111 yX3_sample, Cond.instanceMethod yX3_sample, Cond.selects RX3 yX3_sample yX3_sample, Cond.initialized RX3, Cond.code yX3_sample cX3_sample 6 none, Cond.fieldLink RX3 27 "ControlBench$Relay" "samples" "I", Cond.fieldLink RX3 23 "ControlBench$Relay" "up" "Z", Cond.fieldLink RX3 20 "ControlBench$Relay" "band" "I", Cond.fieldLink RX3 37 "ControlBench$Relay" "greatest" "J", Cond.methodLink RX3 40 Lib.MathLoose.max_long.x, Cond.fieldLink RX3 46 "ControlBench$Relay" "least" "J", Cond.methodLink RX3 49 Lib.MathLoose.min_long.x, Cond.fieldLink RX3 9 "ControlBench$Relay" "progress" "I", Cond.methodLink RX3 33 yX3_noteRise, Cond.instanceMethod yX3_noteRise, Cond.selects RX3 yX3_noteRise yX3_noteRise, Cond.code yX3_noteRise cX3_noteRise 3 none, Cond.fieldLink RX3 30 "ControlBench$Relay" "rises" "I", Cond.fieldLink RX3 52 "ControlBench$Relay" "sampleOfSecondRise" "I", Cond.fieldLink RX3 55 "ControlBench$Relay" "period" "I", Cond.fieldLink RX3 58 "ControlBench$Relay" "swing" "J", Cond.methodLink RX1 115 yX3_wanted]
def wsL_run_r6 : List Cond := [Cond.instanceMethod yX3_wanted, Cond.selects RX3 yX3_wanted yX3_wanted, Cond.code yX3_wanted cX3_wanted 1 (some .long), Cond.fieldLink RX3 13 "ControlBench$Relay" "center" "J", Cond.fieldLink RX3 17 "ControlBench$Relay" "height" "I", Cond.methodLink RX5 250 yX1_actAutomatically, Cond.instanceMethod yX1_actAutomatically, Cond.selects RX1 yX1_actAutomatically yX1_actAutomatically, Cond.code yX1_actAutomatically cX1_actAutomatically 4 none, Cond.fieldLink RX1 30 "ControlBench$Loop" "schedule" "LControlBench$Schedule;", Cond.methodLink RX1 82 yX4_hasPoints, Cond.instanceMethod yX4_hasPoints, Cond.selects RX4 yX4_hasPoints yX4_hasPoints, Cond.initialized RX4, Cond.code yX4_hasPoints cX4_hasPoints 1 (some .boolean), Cond.fieldLink RX4 22 "ControlBench$Schedule" "points" "I", Cond.methodLink RX1 86 yX4_pointsReached, Cond.instanceMethod yX4_pointsReached, Cond.selects RX4 yX4_pointsReached yX4_pointsReached, Cond.code yX4_pointsReached cX4_pointsReached 4 (some .int), Cond.fieldLink RX4 9 "ControlBench$Schedule" "measures" "[I", Cond.methodLink RX1 90 yX4_pAt, Cond.instanceMethod yX4_pAt, Cond.selects RX4 yX4_pAt yX4_pAt]
def wsL_run_r7 : List Cond := [Cond.code yX4_pAt cX4_pAt 4 (some .int), Cond.fieldLink RX4 13 "ControlBench$Schedule" "ps" "[I", Cond.methodLink RX4 26 yX4_gainAt, Cond.instanceMethod yX4_gainAt, Cond.selects RX4 yX4_gainAt yX4_gainAt, Cond.code yX4_gainAt cX4_gainAt 10 (some .int), Cond.methodLink RX4 30 Lib.Math.min.name, Cond.static Lib.Math.min.name, Cond.code Lib.Math.min.name Lib.Math.min.code 2 (some .int), Cond.methodLink RX4 36 yJ9_floorDiv_f86c9, Cond.static yJ9_floorDiv_f86c9, Cond.initialized RJ9, Cond.code yJ9_floorDiv_f86c9 cJ9_floorDiv_f86c9 6 (some .long), Cond.methodLink RX1 94 yX4_iAt, Cond.instanceMethod yX4_iAt, Cond.selects RX4 yX4_iAt yX4_iAt, Cond.code yX4_iAt cX4_iAt 4 (some .int), Cond.fieldLink RX4 16 "ControlBench$Schedule" "is" "[I", Cond.methodLink RX1 97 yX4_dAt, Cond.instanceMethod yX4_dAt, Cond.selects RX4 yX4_dAt yX4_dAt, Cond.code yX4_dAt cX4_dAt 4 (some .int), Cond.fieldLink RX4 19 "ControlBench$Schedule" "ds" "[I", Cond.methodLink RX1 100 yX0_changeGains]
def wsL_run_r8 : List Cond := [Cond.instanceMethod yX0_changeGains, Cond.selects RX0 yX0_changeGains yX0_changeGains, Cond.code yX0_changeGains cX0_changeGains 4 none, Cond.fieldLink RX0 13 "ControlBench$Controller" "i" "I", Cond.methodLink RX1 104 yX0_automaticSample, Cond.instanceMethod yX0_automaticSample, Cond.selects RX0 yX0_automaticSample yX0_automaticSample, Cond.code yX0_automaticSample cX0_automaticSample 11 (some .long), Cond.fieldLink RX0 81 "ControlBench$Controller" "heldSamples" "I", Cond.methodLink RX0 67 yX0_countIncrements, Cond.instanceMethod yX0_countIncrements, Cond.selects RX0 yX0_countIncrements yX0_countIncrements, Cond.code yX0_countIncrements cX0_countIncrements 7 none, Cond.fieldLink RX0 87 "ControlBench$Controller" "sumByIncrements" "J", Cond.fieldLink RX0 90 "ControlBench$Controller" "latestError" "J", Cond.fieldLink RX0 93 "ControlBench$Controller" "latestRate" "J", Cond.methodLink RX0 71 yJ9_floorDiv_f86c9, Cond.methodLink RX0 77 yX0_withinLimits, Cond.methodLink RX0 84 yX0_guardAgainstWindup, Cond.instanceMethod yX0_guardAgainstWindup, Cond.selects RX0 yX0_guardAgainstWindup yX0_guardAgainstWindup, Cond.code yX0_guardAgainstWindup cX0_guardAgainstWindup 8 none, Cond.fieldLink RX0 96 "ControlBench$Controller" "guard" "I", Cond.fieldLink RX0 20 "ControlBench$Controller" "share" "I"]
def wsL_run_r9 : List Cond := [Cond.methodLink RX5 233 yX2_goOn, Cond.instanceMethod yX2_goOn, Cond.selects RX2 yX2_goOn yX2_goOn, Cond.initialized RX2, Cond.code yX2_goOn cX2_goOn 7 none, Cond.fieldLink RX2 22 "ControlBench$Plant" "latest" "I", Cond.fieldLink RX2 18 "ControlBench$Plant" "outputs" "[J", Cond.fieldLink RX2 31 "ControlBench$Plant" "deadTime" "I", Cond.fieldLink RX2 9 "ControlBench$Plant" "a1" "I", Cond.fieldLink RX2 34 "ControlBench$Plant" "measure" "J", Cond.fieldLink RX2 38 "ControlBench$Plant" "a2" "I", Cond.fieldLink RX2 41 "ControlBench$Plant" "measureBefore" "J", Cond.fieldLink RX2 15 "ControlBench$Plant" "b" "I", Cond.constantLong RX2 44 (1000), Cond.fieldLink RX2 50 "ControlBench$Plant" "load" "I", Cond.constantLong RX2 53 (-1000000), Cond.constantLong RX2 55 (1000000), Cond.methodLink RX2 25 yJ9_floorMod_7cf53, Cond.static yJ9_floorMod_7cf53, Cond.code yJ9_floorMod_7cf53 cJ9_floorMod_7cf53 3 (some .int), Cond.methodLink RX2 46 yJ9_floorDiv_f86c9]
def wsL_run : List Cond := .codeWith yL_run cL_run 4 (some .int) [(0, 9, 12, 15)] :: ((wsL_run_r1 ++ (wsL_run_r2 ++ (wsL_run_r3 ++ (wsL_run_r4 ++ (wsL_run_r5 ++ (wsL_run_r6 ++ (wsL_run_r7 ++ (wsL_run_r8 ++ wsL_run_r9)))))))) ++ wsX50 ++ wsX10 ++ wsX00 ++ wsX20 ++ wsX30 ++ wsX40 ++ (vx_atS RX5 224 "java/lang/IllegalArgumentException" ["java/lang/RuntimeException", "java/lang/Exception"]).filter goodWord)
def wsL_measure : List Cond := .codeWith yL_measure cL_measure 4 (some .int) [(0, 8, 11, 13)] :: ([.classLink RL 13 "java/lang/IndexOutOfBoundsException", .methodLink RL 56 yX5_measure, .instanceMethod yX5_measure, .selects RX5 yX5_measure yX5_measure, .initialized RX5, .code yX5_measure cX5_measure 2 (some .long), .fieldLink RX5 20 "ControlBench$Loop" "plant" "LControlBench$Plant;", .fieldLink RX5 128 "ControlBench$Plant" "measure" "J", .methodLink RX5 16 yX5_loopAt, .instanceMethod yX5_loopAt, .selects RX5 yX5_loopAt yX5_loopAt, .code yX5_loopAt cX5_loopAt 2 (some (.object "ControlBench$Loop")), .classLink RX5 209 "java/lang/IndexOutOfBoundsException", .initialized "java/lang/IndexOutOfBoundsException", .fieldLink RX5 11 "ControlBench" "loops" "[LControlBench$Loop;"] ++ wsX10 ++ wsX20 ++ wsX50 ++ (vx_atS RX5 213 "java/lang/IndexOutOfBoundsException" ["java/lang/RuntimeException", "java/lang/Exception"]).filter goodWord)
def wsL_output : List Cond := .codeWith yL_output cL_output 4 (some .int) [(0, 8, 11, 13)] :: ([.classLink RL 13 "java/lang/IndexOutOfBoundsException", .methodLink RL 60 yX5_output, .instanceMethod yX5_output, .selects RX5 yX5_output yX5_output, .initialized RX5, .code yX5_output cX5_output 2 (some .long), .fieldLink RX5 131 "ControlBench$Loop" "output" "J", .methodLink RX5 16 yX5_loopAt, .instanceMethod yX5_loopAt, .selects RX5 yX5_loopAt yX5_loopAt, .code yX5_loopAt cX5_loopAt 2 (some (.object "ControlBench$Loop")), .classLink RX5 209 "java/lang/IndexOutOfBoundsException", .initialized "java/lang/IndexOutOfBoundsException", .fieldLink RX5 11 "ControlBench" "loops" "[LControlBench$Loop;"] ++ wsX10 ++ wsX50 ++ (vx_atS RX5 213 "java/lang/IndexOutOfBoundsException" ["java/lang/RuntimeException", "java/lang/Exception"]).filter goodWord)
def wsL_outputByIncrements : List Cond := .codeWith yL_outputByIncrements cL_outputByIncrements 4 (some .int) [(0, 8, 11, 13)] :: ([.classLink RL 13 "java/lang/IndexOutOfBoundsException", .methodLink RL 63 yX5_outputByIncrements, .instanceMethod yX5_outputByIncrements, .selects RX5 yX5_outputByIncrements yX5_outputByIncrements, .initialized RX5, .code yX5_outputByIncrements cX5_outputByIncrements 2 (some .long), .fieldLink RX5 56 "ControlBench$Loop" "controller" "LControlBench$Controller;", .fieldLink RX5 134 "ControlBench$Controller" "sumByIncrements" "J", .constantLong RX5 137 (1000), .methodLink RX5 16 yX5_loopAt, .instanceMethod yX5_loopAt, .selects RX5 yX5_loopAt yX5_loopAt, .code yX5_loopAt cX5_loopAt 2 (some (.object "ControlBench$Loop")), .classLink RX5 209 "java/lang/IndexOutOfBoundsException", .initialized "java/lang/IndexOutOfBoundsException", .fieldLink RX5 11 "ControlBench" "loops" "[LControlBench$Loop;", .methodLink RX5 139 yJ9_floorDiv_f86c9, .static yJ9_floorDiv_f86c9, .initialized RJ9, .code yJ9_floorDiv_f86c9 cJ9_floorDiv_f86c9 6 (some .long)] ++ wsX10 ++ wsX00 ++ wsX50 ++ (vx_atS RX5 213 "java/lang/IndexOutOfBoundsException" ["java/lang/RuntimeException", "java/lang/Exception"]).filter goodWord)
def wsL_setpoint : List Cond := .codeWith yL_setpoint cL_setpoint 4 (some .int) [(0, 8, 11, 13)] :: ([.classLink RL 13 "java/lang/IndexOutOfBoundsException", .methodLink RL 66 yX5_setpoint, .instanceMethod yX5_setpoint, .selects RX5 yX5_setpoint yX5_setpoint, .initialized RX5, .code yX5_setpoint cX5_setpoint 2 (some .long), .fieldLink RX5 56 "ControlBench$Loop" "controller" "LControlBench$Controller;", .fieldLink RX5 104 "ControlBench$Controller" "setpoint" "J", .methodLink RX5 16 yX5_loopAt, .instanceMethod yX5_loopAt, .selects RX5 yX5_loopAt yX5_loopAt, .code yX5_loopAt cX5_loopAt 2 (some (.object "ControlBench$Loop")), .classLink RX5 209 "java/lang/IndexOutOfBoundsException", .initialized "java/lang/IndexOutOfBoundsException", .fieldLink RX5 11 "ControlBench" "loops" "[LControlBench$Loop;"] ++ wsX10 ++ wsX00 ++ wsX50 ++ (vx_atS RX5 213 "java/lang/IndexOutOfBoundsException" ["java/lang/RuntimeException", "java/lang/Exception"]).filter goodWord)
def wsL_integral : List Cond := .codeWith yL_integral cL_integral 4 (some .int) [(0, 8, 11, 13)] :: ([.classLink RL 13 "java/lang/IndexOutOfBoundsException", .methodLink RL 69 yX5_integral, .instanceMethod yX5_integral, .selects RX5 yX5_integral yX5_integral, .initialized RX5, .code yX5_integral cX5_integral 2 (some .long), .fieldLink RX5 56 "ControlBench$Loop" "controller" "LControlBench$Controller;", .fieldLink RX5 145 "ControlBench$Controller" "integral" "J", .methodLink RX5 16 yX5_loopAt, .instanceMethod yX5_loopAt, .selects RX5 yX5_loopAt yX5_loopAt, .code yX5_loopAt cX5_loopAt 2 (some (.object "ControlBench$Loop")), .classLink RX5 209 "java/lang/IndexOutOfBoundsException", .initialized "java/lang/IndexOutOfBoundsException", .fieldLink RX5 11 "ControlBench" "loops" "[LControlBench$Loop;"] ++ wsX10 ++ wsX00 ++ wsX50 ++ (vx_atS RX5 213 "java/lang/IndexOutOfBoundsException" ["java/lang/RuntimeException", "java/lang/Exception"]).filter goodWord)
def wsL_gain : List Cond := .codeWith yL_gain cL_gain 5 (some .int) [(0, 10, 13, 13)] :: ([.classLink RL 13 "java/lang/IndexOutOfBoundsException", .methodLink RL 72 yX5_gain, .instanceMethod yX5_gain, .selects RX5 yX5_gain yX5_gain, .initialized RX5, .code yX5_gain cX5_gain 4 (some .int), .fieldLink RX5 56 "ControlBench$Loop" "controller" "LControlBench$Controller;", .fieldLink RX5 151 "ControlBench$Controller" "p" "I", .fieldLink RX5 154 "ControlBench$Controller" "i" "I", .fieldLink RX5 157 "ControlBench$Controller" "d" "I", .methodLink RX5 16 yX5_loopAt, .instanceMethod yX5_loopAt, .selects RX5 yX5_loopAt yX5_loopAt, .code yX5_loopAt cX5_loopAt 2 (some (.object "ControlBench$Loop")), .classLink RX5 209 "java/lang/IndexOutOfBoundsException", .initialized "java/lang/IndexOutOfBoundsException", .fieldLink RX5 11 "ControlBench" "loops" "[LControlBench$Loop;", .methodLink RX5 148 yX5_requireGainNumber, .static yX5_requireGainNumber, .code yX5_requireGainNumber cX5_requireGainNumber 1 none] ++ wsX10 ++ wsX00 ++ wsX50 ++ (vx_atS RX5 213 "java/lang/IndexOutOfBoundsException" ["java/lang/RuntimeException", "java/lang/Exception"]).filter goodWord)
def wsL_mode : List Cond := .codeWith yL_mode cL_mode 4 (some .int) [(0, 9, 12, 13)] :: ([.classLink RL 13 "java/lang/IndexOutOfBoundsException", .methodLink RL 75 yX5_mode, .instanceMethod yX5_mode, .selects RX5 yX5_mode yX5_mode, .initialized RX5, .code yX5_mode cX5_mode 2 (some .int), .fieldLink RX5 49 "ControlBench$Loop" "mode" "I", .methodLink RX5 16 yX5_loopAt, .instanceMethod yX5_loopAt, .selects RX5 yX5_loopAt yX5_loopAt, .code yX5_loopAt cX5_loopAt 2 (some (.object "ControlBench$Loop")), .classLink RX5 209 "java/lang/IndexOutOfBoundsException", .initialized "java/lang/IndexOutOfBoundsException", .fieldLink RX5 11 "ControlBench" "loops" "[LControlBench$Loop;"] ++ wsX10 ++ wsX50 ++ (vx_atS RX5 213 "java/lang/IndexOutOfBoundsException" ["java/lang/RuntimeException", "java/lang/Exception"]).filter goodWord)
def wsL_wasStarved : List Cond := .codeWith yL_wasStarved cL_wasStarved 4 (some .int) [(0, 16, 19, 13)] :: ([.classLink RL 13 "java/lang/IndexOutOfBoundsException", .methodLink RL 78 yX5_wasStarved, .instanceMethod yX5_wasStarved, .selects RX5 yX5_wasStarved yX5_wasStarved, .initialized RX5, .code yX5_wasStarved cX5_wasStarved 2 (some .boolean), .fieldLink RX5 160 "ControlBench$Loop" "starved" "Z", .methodLink RX5 16 yX5_loopAt, .instanceMethod yX5_loopAt, .selects RX5 yX5_loopAt yX5_loopAt, .code yX5_loopAt cX5_loopAt 2 (some (.object "ControlBench$Loop")), .classLink RX5 209 "java/lang/IndexOutOfBoundsException", .initialized "java/lang/IndexOutOfBoundsException", .fieldLink RX5 11 "ControlBench" "loops" "[LControlBench$Loop;"] ++ wsX10 ++ wsX50 ++ (vx_atS RX5 213 "java/lang/IndexOutOfBoundsException" ["java/lang/RuntimeException", "java/lang/Exception"]).filter goodWord)
def wsL_held : List Cond := .codeWith yL_held cL_held 4 (some .int) [(0, 9, 12, 13)] :: ([.classLink RL 13 "java/lang/IndexOutOfBoundsException", .methodLink RL 82 yX5_held, .instanceMethod yX5_held, .selects RX5 yX5_held yX5_held, .initialized RX5, .code yX5_held cX5_held 2 (some .int), .fieldLink RX5 56 "ControlBench$Loop" "controller" "LControlBench$Controller;", .fieldLink RX5 163 "ControlBench$Controller" "heldSamples" "I", .methodLink RX5 16 yX5_loopAt, .instanceMethod yX5_loopAt, .selects RX5 yX5_loopAt yX5_loopAt, .code yX5_loopAt cX5_loopAt 2 (some (.object "ControlBench$Loop")), .classLink RX5 209 "java/lang/IndexOutOfBoundsException", .initialized "java/lang/IndexOutOfBoundsException", .fieldLink RX5 11 "ControlBench" "loops" "[LControlBench$Loop;"] ++ wsX10 ++ wsX00 ++ wsX50 ++ (vx_atS RX5 213 "java/lang/IndexOutOfBoundsException" ["java/lang/RuntimeException", "java/lang/Exception"]).filter goodWord)
def wsL_startRelay_r1 : List Cond := [Cond.classLink RL 13 "java/lang/IndexOutOfBoundsException", Cond.classLink RL 15 "java/lang/IllegalArgumentException", Cond.classLink RL 25 "java/lang/IllegalStateException", Cond.methodLink RL 85 yX5_startRelay, Cond.instanceMethod yX5_startRelay, Cond.selects RX5 yX5_startRelay yX5_startRelay, Cond.initialized RX5, Cond.code yX5_startRelay cX5_startRelay 5 none, Cond.constant RX5 166 (100000), Cond.fieldLink RX5 49 "ControlBench$Loop" "mode" "I", Cond.fieldLink RX5 167 "ControlBench$Loop" "relay" "LControlBench$Relay;", Cond.fieldLink RX5 131 "ControlBench$Loop" "output" "J", Cond.methodLink RX5 16 yX5_loopAt, Cond.instanceMethod yX5_loopAt, Cond.selects RX5 yX5_loopAt yX5_loopAt, Cond.code yX5_loopAt cX5_loopAt 2 (some (.object "ControlBench$Loop")), Cond.classLink RX5 209 "java/lang/IndexOutOfBoundsException", Cond.initialized "java/lang/IndexOutOfBoundsException", Cond.fieldLink RX5 11 "ControlBench" "loops" "[LControlBench$Loop;", Cond.methodLink RX5 24 yX5_requireWithin, Cond.static yX5_requireWithin, Cond.code yX5_requireWithin cX5_requireWithin 3 none, Cond.methodLink RX5 81 yX5_requireArgument, Cond.static yX5_requireArgument]
def wsL_startRelay_r2 : List Cond := [Cond.code yX5_requireArgument cX5_requireArgument 1 none, Cond.classLink RX5 220 "java/lang/IllegalArgumentException", Cond.initialized "java/lang/IllegalArgumentException", Cond.methodLink RX5 52 yX5_requireState, Cond.static yX5_requireState, Cond.code yX5_requireState cX5_requireState 1 none, Cond.classLink RX5 225 "java/lang/IllegalStateException", Cond.initialized "java/lang/IllegalStateException", Cond.methodLink RX5 171 yX3_begin, Cond.instanceMethod yX3_begin, Cond.selects RX3 yX3_begin yX3_begin, Cond.initialized RX3, Cond.code yX3_begin cX3_begin 5 none, Cond.fieldLink RX3 9 "ControlBench$Relay" "progress" "I", Cond.fieldLink RX3 13 "ControlBench$Relay" "center" "J", Cond.fieldLink RX3 17 "ControlBench$Relay" "height" "I", Cond.fieldLink RX3 20 "ControlBench$Relay" "band" "I", Cond.fieldLink RX3 23 "ControlBench$Relay" "up" "Z", Cond.fieldLink RX3 27 "ControlBench$Relay" "samples" "I", Cond.fieldLink RX3 30 "ControlBench$Relay" "rises" "I"]
def wsL_startRelay : List Cond := .codeWith yL_startRelay cL_startRelay 5 (some .int) [(0, 7, 10, 13), (0, 7, 14, 15), (0, 7, 18, 25)] :: ((wsL_startRelay_r1 ++ wsL_startRelay_r2) ++ wsX10 ++ wsX50 ++ wsX30 ++ (vx_atS RX5 213 "java/lang/IndexOutOfBoundsException" ["java/lang/RuntimeException", "java/lang/Exception"]).filter goodWord ++ (vx_atS RX5 224 "java/lang/IllegalArgumentException" ["java/lang/RuntimeException", "java/lang/Exception"]).filter goodWord ++ (vx_atS RX5 229 "java/lang/IllegalStateException" ["java/lang/RuntimeException", "java/lang/Exception"]).filter goodWord)
def wsL_experiment : List Cond := .codeWith yL_experiment cL_experiment 4 (some .int) [(0, 9, 12, 13)] :: ([.classLink RL 13 "java/lang/IndexOutOfBoundsException", .methodLink RL 88 yX5_experiment, .instanceMethod yX5_experiment, .selects RX5 yX5_experiment yX5_experiment, .initialized RX5, .code yX5_experiment cX5_experiment 2 (some .int), .fieldLink RX5 167 "ControlBench$Loop" "relay" "LControlBench$Relay;", .fieldLink RX5 177 "ControlBench$Relay" "progress" "I", .methodLink RX5 16 yX5_loopAt, .instanceMethod yX5_loopAt, .selects RX5 yX5_loopAt yX5_loopAt, .code yX5_loopAt cX5_loopAt 2 (some (.object "ControlBench$Loop")), .classLink RX5 209 "java/lang/IndexOutOfBoundsException", .initialized "java/lang/IndexOutOfBoundsException", .fieldLink RX5 11 "ControlBench" "loops" "[LControlBench$Loop;"] ++ wsX10 ++ wsX30 ++ wsX50 ++ (vx_atS RX5 213 "java/lang/IndexOutOfBoundsException" ["java/lang/RuntimeException", "java/lang/Exception"]).filter goodWord)
def wsL_period : List Cond := .codeWith yL_period cL_period 4 (some .int) [(0, 9, 12, 13), (0, 9, 15, 25)] :: ([.classLink RL 13 "java/lang/IndexOutOfBoundsException", .classLink RL 25 "java/lang/IllegalStateException", .methodLink RL 91 yX5_period, .instanceMethod yX5_period, .selects RX5 yX5_period yX5_period, .initialized RX5, .code yX5_period cX5_period 3 (some .int), .fieldLink RX5 167 "ControlBench$Loop" "relay" "LControlBench$Relay;", .fieldLink RX5 177 "ControlBench$Relay" "progress" "I", .fieldLink RX5 180 "ControlBench$Relay" "period" "I", .methodLink RX5 16 yX5_loopAt, .instanceMethod yX5_loopAt, .selects RX5 yX5_loopAt yX5_loopAt, .code yX5_loopAt cX5_loopAt 2 (some (.object "ControlBench$Loop")), .classLink RX5 209 "java/lang/IndexOutOfBoundsException", .initialized "java/lang/IndexOutOfBoundsException", .fieldLink RX5 11 "ControlBench" "loops" "[LControlBench$Loop;", .methodLink RX5 52 yX5_requireState, .static yX5_requireState, .code yX5_requireState cX5_requireState 1 none, .classLink RX5 225 "java/lang/IllegalStateException", .initialized "java/lang/IllegalStateException"] ++ wsX10 ++ wsX30 ++ wsX50 ++ (vx_atS RX5 213 "java/lang/IndexOutOfBoundsException" ["java/lang/RuntimeException", "java/lang/Exception"]).filter goodWord ++ (vx_atS RX5 229 "java/lang/IllegalStateException" ["java/lang/RuntimeException", "java/lang/Exception"]).filter goodWord)
def wsL_swing : List Cond := .codeWith yL_swing cL_swing 4 (some .int) [(0, 8, 11, 13), (0, 8, 14, 25)] :: ([.classLink RL 13 "java/lang/IndexOutOfBoundsException", .classLink RL 25 "java/lang/IllegalStateException", .methodLink RL 94 yX5_swing, .instanceMethod yX5_swing, .selects RX5 yX5_swing yX5_swing, .initialized RX5, .code yX5_swing cX5_swing 3 (some .long), .fieldLink RX5 167 "ControlBench$Loop" "relay" "LControlBench$Relay;", .fieldLink RX5 177 "ControlBench$Relay" "progress" "I", .fieldLink RX5 183 "ControlBench$Relay" "swing" "J", .methodLink RX5 16 yX5_loopAt, .instanceMethod yX5_loopAt, .selects RX5 yX5_loopAt yX5_loopAt, .code yX5_loopAt cX5_loopAt 2 (some (.object "ControlBench$Loop")), .classLink RX5 209 "java/lang/IndexOutOfBoundsException", .initialized "java/lang/IndexOutOfBoundsException", .fieldLink RX5 11 "ControlBench" "loops" "[LControlBench$Loop;", .methodLink RX5 52 yX5_requireState, .static yX5_requireState, .code yX5_requireState cX5_requireState 1 none, .classLink RX5 225 "java/lang/IllegalStateException", .initialized "java/lang/IllegalStateException"] ++ wsX10 ++ wsX30 ++ wsX50 ++ (vx_atS RX5 213 "java/lang/IndexOutOfBoundsException" ["java/lang/RuntimeException", "java/lang/Exception"]).filter goodWord ++ (vx_atS RX5 229 "java/lang/IllegalStateException" ["java/lang/RuntimeException", "java/lang/Exception"]).filter goodWord)
def wsL_ultimateGain_r1 : List Cond := [Cond.classLink RL 13 "java/lang/IndexOutOfBoundsException", Cond.classLink RL 25 "java/lang/IllegalStateException", Cond.methodLink RL 97 yX5_ultimateGain, Cond.instanceMethod yX5_ultimateGain, Cond.selects RX5 yX5_ultimateGain yX5_ultimateGain, Cond.initialized RX5, Cond.code yX5_ultimateGain cX5_ultimateGain 3 (some .int), Cond.fieldLink RX5 167 "ControlBench$Loop" "relay" "LControlBench$Relay;", Cond.fieldLink RX5 177 "ControlBench$Relay" "progress" "I", Cond.fieldLink RX5 183 "ControlBench$Relay" "swing" "J", Cond.methodLink RX5 16 yX5_loopAt, Cond.instanceMethod yX5_loopAt, Cond.selects RX5 yX5_loopAt yX5_loopAt, Cond.code yX5_loopAt cX5_loopAt 2 (some (.object "ControlBench$Loop")), Cond.classLink RX5 209 "java/lang/IndexOutOfBoundsException", Cond.initialized "java/lang/IndexOutOfBoundsException", Cond.fieldLink RX5 11 "ControlBench" "loops" "[LControlBench$Loop;", Cond.methodLink RX5 52 yX5_requireState, Cond.static yX5_requireState, Cond.code yX5_requireState cX5_requireState 1 none, Cond.classLink RX5 225 "java/lang/IllegalStateException", Cond.initialized "java/lang/IllegalStateException", Cond.methodLink RX5 186 yX3_gainAtTheEdge, Cond.instanceMethod yX3_gainAtTheEdge]
def wsL_ultimateGain_r2 : List Cond := [Cond.selects RX3 yX3_gainAtTheEdge yX3_gainAtTheEdge, Cond.initialized RX3, Cond.code yX3_gainAtTheEdge cX3_gainAtTheEdge 1 (some .long), Cond.fieldLink RX3 58 "ControlBench$Relay" "swing" "J", Cond.constantLong RX3 61 (904000), Cond.fieldLink RX3 17 "ControlBench$Relay" "height" "I", Cond.constantLong RX3 63 (355), Cond.methodLink RX3 65 yJ9_floorDiv_f86c9, Cond.static yJ9_floorDiv_f86c9, Cond.initialized RJ9, Cond.code yJ9_floorDiv_f86c9 cJ9_floorDiv_f86c9 6 (some .long)]
def wsL_ultimateGain : List Cond := .codeWith yL_ultimateGain cL_ultimateGain 4 (some .int) [(0, 9, 12, 13), (0, 9, 15, 25)] :: ((wsL_ultimateGain_r1 ++ wsL_ultimateGain_r2) ++ wsX10 ++ wsX30 ++ wsX50 ++ (vx_atS RX5 213 "java/lang/IndexOutOfBoundsException" ["java/lang/RuntimeException", "java/lang/Exception"]).filter goodWord ++ (vx_atS RX5 229 "java/lang/IllegalStateException" ["java/lang/RuntimeException", "java/lang/Exception"]).filter goodWord)
def wsL_proposed_r1 : List Cond := [Cond.classLink RL 13 "java/lang/IndexOutOfBoundsException", Cond.classLink RL 15 "java/lang/IllegalArgumentException", Cond.classLink RL 25 "java/lang/IllegalStateException", Cond.methodLink RL 100 yX5_proposed, Cond.instanceMethod yX5_proposed, Cond.selects RX5 yX5_proposed yX5_proposed, Cond.initialized RX5, Cond.code yX5_proposed cX5_proposed 5 (some .int), Cond.fieldLink RX5 167 "ControlBench$Loop" "relay" "LControlBench$Relay;", Cond.fieldLink RX5 177 "ControlBench$Relay" "progress" "I", Cond.fieldLink RX5 183 "ControlBench$Relay" "swing" "J", Cond.fieldLink RX5 180 "ControlBench$Relay" "period" "I", Cond.constantLong RX5 194 (20000), Cond.methodLink RX5 196 Lib.MathLoose.min_long.x, Cond.static Lib.MathLoose.min_long.x, Cond.initialized "java/lang/Math", Cond.code Lib.MathLoose.min_long.x Lib.MathLoose.min_long.code 4 (some .long), Cond.constantLong RX5 202 (5000), Cond.constantLong RX5 207 (50000), Cond.methodLink RX5 16 yX5_loopAt, Cond.instanceMethod yX5_loopAt, Cond.selects RX5 yX5_loopAt yX5_loopAt, Cond.code yX5_loopAt cX5_loopAt 2 (some (.object "ControlBench$Loop")), Cond.classLink RX5 209 "java/lang/IndexOutOfBoundsException"]
def wsL_proposed_r2 : List Cond := [Cond.initialized "java/lang/IndexOutOfBoundsException", Cond.fieldLink RX5 11 "ControlBench" "loops" "[LControlBench$Loop;", Cond.methodLink RX5 148 yX5_requireGainNumber, Cond.static yX5_requireGainNumber, Cond.code yX5_requireGainNumber cX5_requireGainNumber 1 none, Cond.methodLink RX5 24 yX5_requireWithin, Cond.static yX5_requireWithin, Cond.code yX5_requireWithin cX5_requireWithin 3 none, Cond.methodLink RX5 81 yX5_requireArgument, Cond.static yX5_requireArgument, Cond.code yX5_requireArgument cX5_requireArgument 1 none, Cond.classLink RX5 220 "java/lang/IllegalArgumentException", Cond.initialized "java/lang/IllegalArgumentException", Cond.methodLink RX5 52 yX5_requireState, Cond.static yX5_requireState, Cond.code yX5_requireState cX5_requireState 1 none, Cond.classLink RX5 225 "java/lang/IllegalStateException", Cond.initialized "java/lang/IllegalStateException", Cond.methodLink RX5 190 yX3_proposedP, Cond.instanceMethod yX3_proposedP, Cond.selects RX3 yX3_proposedP yX3_proposedP, Cond.initialized RX3, Cond.code yX3_proposedP cX3_proposedP 4 (some .long), Cond.constantLong RX3 72 (6)]
def wsL_proposed_r3 : List Cond := [Cond.constantLong RX3 74 (10), Cond.constantLong RX3 76 (22), Cond.methodLink RX3 68 yX3_gainAtTheEdge, Cond.instanceMethod yX3_gainAtTheEdge, Cond.selects RX3 yX3_gainAtTheEdge yX3_gainAtTheEdge, Cond.code yX3_gainAtTheEdge cX3_gainAtTheEdge 1 (some .long), Cond.fieldLink RX3 58 "ControlBench$Relay" "swing" "J", Cond.constantLong RX3 61 (904000), Cond.fieldLink RX3 17 "ControlBench$Relay" "height" "I", Cond.constantLong RX3 63 (355), Cond.methodLink RX3 65 yJ9_floorDiv_f86c9, Cond.static yJ9_floorDiv_f86c9, Cond.initialized RJ9, Cond.code yJ9_floorDiv_f86c9 cJ9_floorDiv_f86c9 6 (some .long), Cond.methodLink RX5 199 yX3_proposedI, Cond.instanceMethod yX3_proposedI, Cond.selects RX3 yX3_proposedI yX3_proposedI, Cond.code yX3_proposedI cX3_proposedI 4 (some .long), Cond.fieldLink RX3 55 "ControlBench$Relay" "period" "I", Cond.constantLong RX3 78 (12), Cond.constantLong RX3 80 (100), Cond.constantLong RX3 82 (484), Cond.methodLink RX5 204 yX3_proposedD, Cond.instanceMethod yX3_proposedD]
def wsL_proposed_r4 : List Cond := [Cond.selects RX3 yX3_proposedD yX3_proposedD, Cond.code yX3_proposedD cX3_proposedD 4 (some .long), Cond.constantLong RX3 84 (3), Cond.constantLong RX3 86 (40), Cond.constantLong RX3 88 (1386)]
def wsL_proposed : List Cond := .codeWith yL_proposed cL_proposed 6 (some .int) [(0, 12, 15, 13), (0, 12, 19, 15), (0, 12, 23, 25)] :: ((wsL_proposed_r1 ++ (wsL_proposed_r2 ++ (wsL_proposed_r3 ++ wsL_proposed_r4))) ++ wsX10 ++ wsX30 ++ wsX50 ++ (vx_atS RX5 213 "java/lang/IndexOutOfBoundsException" ["java/lang/RuntimeException", "java/lang/Exception"]).filter goodWord ++ (vx_atS RX5 224 "java/lang/IllegalArgumentException" ["java/lang/RuntimeException", "java/lang/Exception"]).filter goodWord ++ (vx_atS RX5 229 "java/lang/IllegalStateException" ["java/lang/RuntimeException", "java/lang/Exception"]).filter goodWord)
def wsL_law0_r1 : List Cond := [Cond.classLink RL 8 RX5, Cond.instantiable RX5 2, Cond.initialized RX5, Cond.classLink RL 104 RX6, Cond.instantiable RX6 42, Cond.initialized RX6, Cond.arrayClass .long, Cond.methodLink RL 103 yX5_init, Cond.instanceMethod yX5_init, Cond.code yX5_init cX5_init 2 none, Cond.methodLink RX5 1 objectInit, Cond.instanceMethod objectInit, Cond.code objectInit ⟨#[0xb1]⟩ 1 none, Cond.classLink RX5 9 RX1, Cond.fieldLink RX5 11 "ControlBench" "loops" "[LControlBench$Loop;", Cond.instantiable RX1 10, Cond.initialized RX1, Cond.instanceMethod yX1_init, Cond.code yX1_init cX1_init 1 none, Cond.methodLink RX1 3 objectInit, Cond.classLink RX1 9 RX2, Cond.instantiable RX2 9, Cond.initialized RX2, Cond.fieldLink RX1 12 "ControlBench$Loop" "plant" "LControlBench$Plant;"]
def wsL_law0_r2 : List Cond := [Cond.classLink RX1 18 RX0, Cond.instantiable RX0 15, Cond.initialized RX0, Cond.fieldLink RX1 23 "ControlBench$Loop" "controller" "LControlBench$Controller;", Cond.classLink RX1 27 RX4, Cond.instantiable RX4 5, Cond.initialized RX4, Cond.fieldLink RX1 30 "ControlBench$Loop" "schedule" "LControlBench$Schedule;", Cond.classLink RX1 34 RX3, Cond.instantiable RX3 12, Cond.initialized RX3, Cond.fieldLink RX1 37 "ControlBench$Loop" "relay" "LControlBench$Relay;", Cond.fieldLink RX1 41 "ControlBench$Loop" "mode" "I", Cond.instanceMethod yX2_init, Cond.code yX2_init cX2_init 1 none, Cond.methodLink RX2 3 objectInit, Cond.fieldLink RX2 9 "ControlBench$Plant" "a1" "I", Cond.fieldLink RX2 15 "ControlBench$Plant" "b" "I", Cond.fieldLink RX2 18 "ControlBench$Plant" "outputs" "[J", Cond.methodLink RX1 20 yX0_init, Cond.instanceMethod yX0_init, Cond.code yX0_init cX0_init 2 none, Cond.methodLink RX0 1 objectInit, Cond.fieldLink RX0 7 "ControlBench$Controller" "p" "I"]
def wsL_law0_r3 : List Cond := [Cond.fieldLink RX0 13 "ControlBench$Controller" "i" "I", Cond.constant RX0 16 (100000), Cond.fieldLink RX0 17 "ControlBench$Controller" "high" "I", Cond.fieldLink RX0 20 "ControlBench$Controller" "share" "I", Cond.fieldLink RX0 23 "ControlBench$Controller" "plant" "LControlBench$Plant;", Cond.instanceMethod yX4_init, Cond.code yX4_init cX4_init 1 none, Cond.methodLink RX4 1 objectInit, Cond.arrayClass .int, Cond.fieldLink RX4 9 "ControlBench$Schedule" "measures" "[I", Cond.fieldLink RX4 13 "ControlBench$Schedule" "ps" "[I", Cond.fieldLink RX4 16 "ControlBench$Schedule" "is" "[I", Cond.fieldLink RX4 19 "ControlBench$Schedule" "ds" "[I", Cond.instanceMethod yX3_init, Cond.code yX3_init cX3_init 1 none, Cond.methodLink RX3 1 objectInit, Cond.methodLink RL 106 yX6_init, Cond.instanceMethod yX6_init, Cond.code yX6_init cX6_init 2 none, Cond.methodLink RX6 1 objectInit, Cond.fieldLink RX6 7 "ControlBenchModel" "a1" "[J", Cond.fieldLink RX6 13 "ControlBenchModel" "a2" "[J", Cond.fieldLink RX6 16 "ControlBenchModel" "b" "[J", Cond.fieldLink RX6 19 "ControlBenchModel" "deadTime" "[I"]
def wsL_law0_r4 : List Cond := [Cond.fieldLink RX6 23 "ControlBenchModel" "load" "[I", Cond.fieldLink RX6 26 "ControlBenchModel" "measure" "[J", Cond.fieldLink RX6 29 "ControlBenchModel" "before" "[J", Cond.fieldLink RX6 32 "ControlBenchModel" "past" "[J", Cond.fieldLink RX6 35 "ControlBenchModel" "gain" "[J", Cond.fieldLink RX6 38 "ControlBenchModel" "low" "[J", Cond.fieldLink RX6 41 "ControlBenchModel" "high" "[J", Cond.fieldLink RX6 44 "ControlBenchModel" "setpoint" "[J", Cond.fieldLink RX6 47 "ControlBenchModel" "integral" "[J", Cond.fieldLink RX6 50 "ControlBenchModel" "guard" "[I", Cond.fieldLink RX6 53 "ControlBenchModel" "share" "[I", Cond.fieldLink RX6 56 "ControlBenchModel" "mode" "[I", Cond.fieldLink RX6 59 "ControlBenchModel" "hand" "[J", Cond.arrayClass .boolean, Cond.fieldLink RX6 62 "ControlBenchModel" "follows" "[Z", Cond.fieldLink RX6 66 "ControlBenchModel" "hasMaster" "[Z", Cond.fieldLink RX6 69 "ControlBenchModel" "isStarved" "[Z", Cond.fieldLink RX6 72 "ControlBenchModel" "held" "[I", Cond.fieldLink RX6 75 "ControlBenchModel" "sum" "[J", Cond.fieldLink RX6 78 "ControlBenchModel" "lastError" "[J", Cond.fieldLink RX6 81 "ControlBenchModel" "lastRate" "[J", Cond.fieldLink RX6 84 "ControlBenchModel" "goesOn" "[Z", Cond.fieldLink RX6 87 "ControlBenchModel" "points" "[I", Cond.fieldLink RX6 90 "ControlBenchModel" "at" "[J"]
def wsL_law0_r5 : List Cond := [Cond.fieldLink RX6 93 "ControlBenchModel" "then" "[J", Cond.fieldLink RX6 96 "ControlBenchModel" "experiment" "[I", Cond.fieldLink RX6 99 "ControlBenchModel" "center" "[J", Cond.fieldLink RX6 102 "ControlBenchModel" "height" "[I", Cond.fieldLink RX6 105 "ControlBenchModel" "band" "[I", Cond.fieldLink RX6 108 "ControlBenchModel" "isUp" "[Z", Cond.fieldLink RX6 111 "ControlBenchModel" "gone" "[I", Cond.fieldLink RX6 114 "ControlBenchModel" "risings" "[I", Cond.fieldLink RX6 117 "ControlBenchModel" "second" "[I", Cond.fieldLink RX6 120 "ControlBenchModel" "greatest" "[J", Cond.fieldLink RX6 123 "ControlBenchModel" "least" "[J", Cond.fieldLink RX6 126 "ControlBenchModel" "period" "[I", Cond.fieldLink RX6 129 "ControlBenchModel" "swing" "[J", Cond.constantLong RX6 132 (800), Cond.constantLong RX6 134 (200), Cond.constantLong RX6 136 (1000), Cond.constantLong RX6 138 (100), Cond.constantLong RX6 140 (100000), Cond.methodLink RL 107 yL_setPlant, Cond.static yL_setPlant, Cond.initialized RL, Cond.codeWith yL_setPlant cL_setPlant 7 (some .int) [(0, 11, 14, 13), (0, 11, 18, 15)], Cond.classLink RL 13 "java/lang/IndexOutOfBoundsException", Cond.classLink RL 15 "java/lang/IllegalArgumentException"]
def wsL_law0_r6 : List Cond := [Cond.methodLink RL 7 yX5_setPlant, Cond.instanceMethod yX5_setPlant, Cond.selects RX5 yX5_setPlant yX5_setPlant, Cond.code yX5_setPlant cX5_setPlant 7 none, Cond.fieldLink RX5 20 "ControlBench$Loop" "plant" "LControlBench$Plant;", Cond.fieldLink RX5 30 "ControlBench$Plant" "a1" "I", Cond.fieldLink RX5 34 "ControlBench$Plant" "a2" "I", Cond.fieldLink RX5 37 "ControlBench$Plant" "b" "I", Cond.fieldLink RX5 40 "ControlBench$Plant" "deadTime" "I", Cond.methodLink RX5 16 yX5_loopAt, Cond.instanceMethod yX5_loopAt, Cond.selects RX5 yX5_loopAt yX5_loopAt, Cond.code yX5_loopAt cX5_loopAt 2 (some (.object "ControlBench$Loop")), Cond.classLink RX5 209 "java/lang/IndexOutOfBoundsException", Cond.initialized "java/lang/IndexOutOfBoundsException", Cond.methodLink RX5 24 yX5_requireWithin, Cond.static yX5_requireWithin, Cond.code yX5_requireWithin cX5_requireWithin 3 none, Cond.methodLink RX5 81 yX5_requireArgument, Cond.static yX5_requireArgument, Cond.code yX5_requireArgument cX5_requireArgument 1 none, Cond.classLink RX5 220 "java/lang/IllegalArgumentException", Cond.initialized "java/lang/IllegalArgumentException", Cond.methodLink RL 112 yX6_setPlant]
def wsL_law0_r7 : List Cond := [Cond.instanceMethod yX6_setPlant, Cond.selects RX6 yX6_setPlant yX6_setPlant, Cond.code yX6_setPlant cX6_setPlant 7 none, Cond.methodLink RX6 146 yX6_isIn, Cond.static yX6_isIn, Cond.code yX6_isIn cX6_isIn 3 (some .boolean), Cond.methodLink RX6 152 yX6_isLoop, Cond.static yX6_isLoop, Cond.code yX6_isLoop cX6_isLoop 1 (some .boolean), Cond.methodLink RX6 156 yX6_can, Cond.instanceMethod yX6_can, Cond.selects RX6 yX6_can yX6_can, Cond.code yX6_can cX6_can 2 (some .boolean), Cond.fieldLink RX6 142 "ControlBenchModel" "thrown" "I", Cond.methodLink RL 113 yX6_thrown, Cond.instanceMethod yX6_thrown, Cond.selects RX6 yX6_thrown yX6_thrown, Cond.code yX6_thrown cX6_thrown 1 (some .int), Cond.methodLink RL 117 yL_setLoad, Cond.static yL_setLoad, Cond.codeWith yL_setLoad cL_setLoad 5 (some .int) [(0, 10, 13, 13), (0, 10, 17, 15)], Cond.methodLink RL 17 yX5_setLoad, Cond.instanceMethod yX5_setLoad, Cond.selects RX5 yX5_setLoad yX5_setLoad]
def wsL_law0_r8 : List Cond := [Cond.code yX5_setLoad cX5_setLoad 5 (some .int), Cond.fieldLink RX5 43 "ControlBench$Plant" "load" "I", Cond.methodLink RL 120 yX6_setLoad, Cond.instanceMethod yX6_setLoad, Cond.selects RX6 yX6_setLoad yX6_setLoad, Cond.code yX6_setLoad cX6_setLoad 4 (some .int), Cond.methodLink RL 121 yL_setGains, Cond.static yL_setGains, Cond.codeWith yL_setGains cL_setGains 7 (some .int) [(0, 14, 17, 13), (0, 14, 21, 15), (0, 14, 25, 25)], Cond.classLink RL 25 "java/lang/IllegalStateException", Cond.methodLink RL 21 yX5_setGains, Cond.instanceMethod yX5_setGains, Cond.selects RX5 yX5_setGains yX5_setGains, Cond.code yX5_setGains cX5_setGains 6 (some .int), Cond.fieldLink RX5 49 "ControlBench$Loop" "mode" "I", Cond.fieldLink RX5 56 "ControlBench$Loop" "controller" "LControlBench$Controller;", Cond.fieldLink RX5 65 "ControlBench$Loop" "schedule" "LControlBench$Schedule;", Cond.methodLink RX5 46 yX5_requireGains, Cond.static yX5_requireGains, Cond.code yX5_requireGains cX5_requireGains 3 none, Cond.constant RX5 218 (-50000), Cond.constant RX5 219 (50000), Cond.methodLink RX5 52 yX5_requireState, Cond.static yX5_requireState]
def wsL_law0_r9 : List Cond := [Cond.code yX5_requireState cX5_requireState 1 none, Cond.classLink RX5 225 "java/lang/IllegalStateException", Cond.initialized "java/lang/IllegalStateException", Cond.methodLink RX5 60 yX0_changeGains, Cond.instanceMethod yX0_changeGains, Cond.selects RX0 yX0_changeGains yX0_changeGains, Cond.code yX0_changeGains cX0_changeGains 4 none, Cond.fieldLink RX0 48 "ControlBench$Controller" "integral" "J", Cond.fieldLink RX0 55 "ControlBench$Controller" "d" "I", Cond.methodLink RX0 51 yX0_error, Cond.instanceMethod yX0_error, Cond.selects RX0 yX0_error yX0_error, Cond.code yX0_error cX0_error 1 (some .long), Cond.fieldLink RX0 27 "ControlBench$Controller" "setpoint" "J", Cond.fieldLink RX0 31 "ControlBench$Plant" "measure" "J", Cond.methodLink RX0 58 yX0_rate, Cond.instanceMethod yX0_rate, Cond.selects RX0 yX0_rate yX0_rate, Cond.code yX0_rate cX0_rate 1 (some .long), Cond.fieldLink RX0 36 "ControlBench$Plant" "measureBefore" "J", Cond.methodLink RX5 69 yX4_takeAway, Cond.instanceMethod yX4_takeAway, Cond.selects RX4 yX4_takeAway yX4_takeAway, Cond.code yX4_takeAway cX4_takeAway 2 (some .int)]
def wsL_law0_r10 : List Cond := [Cond.fieldLink RX4 22 "ControlBench$Schedule" "points" "I", Cond.methodLink RL 124 yX6_setGains, Cond.instanceMethod yX6_setGains, Cond.selects RX6 yX6_setGains yX6_setGains, Cond.code yX6_setGains cX6_setGains 6 (some .int), Cond.methodLink RX6 166 yX6_areGains, Cond.static yX6_areGains, Cond.code yX6_areGains cX6_areGains 3 (some .boolean), Cond.constant RX6 150 (-50000), Cond.constant RX6 151 (50000), Cond.methodLink RX6 169 yX6_changes, Cond.instanceMethod yX6_changes, Cond.selects RX6 yX6_changes yX6_changes, Cond.code yX6_changes cX6_changes 8 none, Cond.methodLink RX6 159 yX6_error, Cond.instanceMethod yX6_error, Cond.selects RX6 yX6_error yX6_error, Cond.code yX6_error cX6_error 2 (some .long), Cond.methodLink RX6 163 yX6_rate, Cond.instanceMethod yX6_rate, Cond.selects RX6 yX6_rate yX6_rate, Cond.code yX6_rate cX6_rate 2 (some .long), Cond.methodLink RL 125 yL_addPoint, Cond.static yL_addPoint]
def wsL_law0_r11 : List Cond := [Cond.codeWith yL_addPoint cL_addPoint 8 (some .int) [(0, 16, 19, 13), (0, 16, 23, 15), (0, 16, 27, 25)], Cond.methodLink RL 27 yX5_addPoint, Cond.instanceMethod yX5_addPoint, Cond.selects RX5 yX5_addPoint yX5_addPoint, Cond.code yX5_addPoint cX5_addPoint 7 (some .int), Cond.constant RX5 75 (-1000000), Cond.constant RX5 76 (1000000), Cond.methodLink RX5 77 yX4_endsBelow, Cond.instanceMethod yX4_endsBelow, Cond.selects RX4 yX4_endsBelow yX4_endsBelow, Cond.code yX4_endsBelow cX4_endsBelow 2 (some .boolean), Cond.methodLink RX5 84 yX4_isFull, Cond.instanceMethod yX4_isFull, Cond.selects RX4 yX4_isFull yX4_isFull, Cond.code yX4_isFull cX4_isFull 1 (some .boolean), Cond.methodLink RX5 88 yX4_addLast, Cond.instanceMethod yX4_addLast, Cond.selects RX4 yX4_addLast yX4_addLast, Cond.code yX4_addLast cX4_addLast 5 (some .int), Cond.methodLink RL 128 yX6_addPoint, Cond.instanceMethod yX6_addPoint, Cond.selects RX6 yX6_addPoint yX6_addPoint, Cond.code yX6_addPoint cX6_addPoint 8 (some .int), Cond.constant RX6 173 (-1000000)]
def wsL_law0_r12 : List Cond := [Cond.constant RX6 174 (1000000), Cond.methodLink RL 129 yL_setLimits, Cond.static yL_setLimits, Cond.codeWith yL_setLimits cL_setLimits 5 (some .int) [(0, 7, 10, 13), (0, 7, 14, 15)], Cond.methodLink RL 31 yX5_setLimits, Cond.instanceMethod yX5_setLimits, Cond.selects RX5 yX5_setLimits yX5_setLimits, Cond.code yX5_setLimits cX5_setLimits 5 none, Cond.fieldLink RX5 92 "ControlBench$Controller" "low" "I", Cond.fieldLink RX5 95 "ControlBench$Controller" "high" "I", Cond.methodLink RL 132 yX6_setLimits, Cond.instanceMethod yX6_setLimits, Cond.selects RX6 yX6_setLimits yX6_setLimits, Cond.code yX6_setLimits cX6_setLimits 4 none, Cond.methodLink RL 133 yL_setGuard, Cond.static yL_setGuard, Cond.codeWith yL_setGuard cL_setGuard 6 (some .int) [(0, 12, 15, 13), (0, 12, 19, 15)], Cond.methodLink RL 35 yX5_setGuard, Cond.instanceMethod yX5_setGuard, Cond.selects RX5 yX5_setGuard yX5_setGuard, Cond.code yX5_setGuard cX5_setGuard 6 (some .int), Cond.fieldLink RX5 98 "ControlBench$Controller" "guard" "I", Cond.fieldLink RX5 101 "ControlBench$Controller" "share" "I", Cond.methodLink RL 136 yX6_setGuard]
def wsL_law0_r13 : List Cond := [Cond.instanceMethod yX6_setGuard, Cond.selects RX6 yX6_setGuard yX6_setGuard, Cond.code yX6_setGuard cX6_setGuard 5 (some .int), Cond.methodLink RL 137 yL_setSetpoint, Cond.static yL_setSetpoint, Cond.codeWith yL_setSetpoint cL_setSetpoint 5 (some .int) [(0, 10, 13, 13), (0, 10, 17, 15), (0, 10, 21, 25)], Cond.methodLink RL 39 yX5_setSetpoint, Cond.instanceMethod yX5_setSetpoint, Cond.selects RX5 yX5_setSetpoint yX5_setSetpoint, Cond.code yX5_setSetpoint cX5_setSetpoint 6 (some .int), Cond.fieldLink RX5 104 "ControlBench$Controller" "setpoint" "J", Cond.methodLink RL 139 yX6_setSetpoint, Cond.instanceMethod yX6_setSetpoint, Cond.selects RX6 yX6_setSetpoint yX6_setSetpoint, Cond.code yX6_setSetpoint cX6_setSetpoint 4 (some .int), Cond.methodLink RL 140 yL_setHand, Cond.static yL_setHand, Cond.codeWith yL_setHand cL_setHand 5 (some .int) [(0, 10, 13, 13), (0, 10, 17, 15), (0, 10, 21, 25)], Cond.methodLink RL 42 yX5_setHand, Cond.instanceMethod yX5_setHand, Cond.selects RX5 yX5_setHand yX5_setHand, Cond.code yX5_setHand cX5_setHand 6 (some .int), Cond.fieldLink RX5 108 "ControlBench$Loop" "handValue" "J", Cond.methodLink RL 142 yX6_setHand]
def wsL_law0_r14 : List Cond := [Cond.instanceMethod yX6_setHand, Cond.selects RX6 yX6_setHand yX6_setHand, Cond.code yX6_setHand cX6_setHand 4 (some .int), Cond.methodLink RL 143 yL_setTies, Cond.static yL_setTies, Cond.codeWith yL_setTies cL_setTies 5 (some .int) [(0, 7, 10, 13), (0, 7, 14, 15), (0, 7, 18, 25)], Cond.methodLink RL 45 yX5_setTies, Cond.instanceMethod yX5_setTies, Cond.selects RX5 yX5_setTies yX5_setTies, Cond.code yX5_setTies cX5_setTies 5 none, Cond.fieldLink RX5 111 "ControlBench$Loop" "follows" "Z", Cond.fieldLink RX5 115 "ControlBench$Loop" "hasMaster" "Z", Cond.methodLink RL 146 yX6_setTies, Cond.instanceMethod yX6_setTies, Cond.selects RX6 yX6_setTies yX6_setTies, Cond.code yX6_setTies cX6_setTies 4 none, Cond.methodLink RL 147 yL_setMode, Cond.static yL_setMode, Cond.codeWith yL_setMode cL_setMode 5 (some .int) [(0, 10, 13, 13), (0, 10, 17, 15), (0, 10, 21, 25)], Cond.methodLink RL 49 yX5_setMode, Cond.instanceMethod yX5_setMode, Cond.selects RX5 yX5_setMode yX5_setMode, Cond.code yX5_setMode cX5_setMode 5 (some .int), Cond.methodLink RX5 118 yX1_changeMode]
def wsL_law0_r15 : List Cond := [Cond.instanceMethod yX1_changeMode, Cond.selects RX1 yX1_changeMode yX1_changeMode, Cond.code yX1_changeMode cX1_changeMode 2 none, Cond.fieldLink RX1 48 "ControlBench$Loop" "output" "J", Cond.methodLink RX1 45 yX1_goToHand, Cond.instanceMethod yX1_goToHand, Cond.selects RX1 yX1_goToHand yX1_goToHand, Cond.code yX1_goToHand cX1_goToHand 1 none, Cond.fieldLink RX1 56 "ControlBench$Loop" "handValue" "J", Cond.methodLink RX1 59 yX3_giveUp, Cond.instanceMethod yX3_giveUp, Cond.selects RX3 yX3_giveUp yX3_giveUp, Cond.code yX3_giveUp cX3_giveUp 1 none, Cond.fieldLink RX3 9 "ControlBench$Relay" "progress" "I", Cond.methodLink RX1 52 yX0_settle, Cond.instanceMethod yX0_settle, Cond.selects RX0 yX0_settle yX0_settle, Cond.code yX0_settle cX0_settle 3 none, Cond.constantLong RX0 61 (1000), Cond.fieldLink RX0 63 "ControlBench$Controller" "goesOn" "Z", Cond.methodLink RL 149 yX6_setMode, Cond.instanceMethod yX6_setMode, Cond.selects RX6 yX6_setMode yX6_setMode, Cond.code yX6_setMode cX6_setMode 4 (some .int)]
def wsL_law0_r16 : List Cond := [Cond.methodLink RX6 175 yX6_latest, Cond.instanceMethod yX6_latest, Cond.selects RX6 yX6_latest yX6_latest, Cond.code yX6_latest cX6_latest 2 (some .long), Cond.methodLink RX6 178 yX6_settle, Cond.instanceMethod yX6_settle, Cond.selects RX6 yX6_settle yX6_settle, Cond.code yX6_settle cX6_settle 4 none, Cond.methodLink RL 150 yL_run, Cond.static yL_run, Cond.codeWith yL_run cL_run 4 (some .int) [(0, 9, 12, 15)], Cond.methodLink RL 52 yX5_run, Cond.instanceMethod yX5_run, Cond.selects RX5 yX5_run yX5_run, Cond.code yX5_run cX5_run 3 (some .int), Cond.fieldLink RX5 125 "ControlBench" "samplesSoFar" "I", Cond.methodLink RX5 122 yX5_letOneSampleGoBy, Cond.instanceMethod yX5_letOneSampleGoBy, Cond.selects RX5 yX5_letOneSampleGoBy yX5_letOneSampleGoBy, Cond.code yX5_letOneSampleGoBy cX5_letOneSampleGoBy 2 none, Cond.fieldLink RX5 131 "ControlBench$Loop" "output" "J", Cond.methodLink RX5 230 yX5_takeTurn, Cond.instanceMethod yX5_takeTurn, Cond.selects RX5 yX5_takeTurn yX5_takeTurn]
def wsL_law0_r17 : List Cond := [Cond.code yX5_takeTurn cX5_takeTurn 3 none, Cond.fieldLink RX5 160 "ControlBench$Loop" "starved" "Z", Cond.methodLink RX5 237 yX1_isStarvedBy, Cond.instanceMethod yX1_isStarvedBy, Cond.selects RX1 yX1_isStarvedBy yX1_isStarvedBy, Cond.code yX1_isStarvedBy cX1_isStarvedBy 3 (some .boolean), Cond.fieldLink RX1 62 "ControlBench$Loop" "hasMaster" "Z", Cond.methodLink RX5 241 yX1_giveWay, Cond.instanceMethod yX1_giveWay, Cond.selects RX1 yX1_giveWay yX1_giveWay, Cond.code yX1_giveWay cX1_giveWay 3 none, Cond.fieldLink RX1 66 "ControlBench$Loop" "starved" "Z", Cond.methodLink RX1 69 yX0_withinLimits, Cond.instanceMethod yX0_withinLimits, Cond.selects RX0 yX0_withinLimits yX0_withinLimits, Cond.code yX0_withinLimits cX0_withinLimits 3 (some .long), Cond.fieldLink RX0 39 "ControlBench$Controller" "low" "I", Cond.static yX5_hold, Cond.code yX5_hold cX5_hold 6 (some .long), Cond.methodLink RX5 196 Lib.MathLoose.min_long.x, Cond.static Lib.MathLoose.min_long.x, Cond.initialized "java/lang/Math", Cond.code Lib.MathLoose.min_long.x Lib.MathLoose.min_long.code 4 (some .long), Cond.methodLink RX5 253 Lib.MathLoose.max_long.x]
def wsL_law0_r18 : List Cond := [Cond.static Lib.MathLoose.max_long.x, Cond.code Lib.MathLoose.max_long.x Lib.MathLoose.max_long.code 4 (some .long), Cond.methodLink RX5 244 yX1_actByHand, Cond.instanceMethod yX1_actByHand, Cond.selects RX1 yX1_actByHand yX1_actByHand, Cond.code yX1_actByHand cX1_actByHand 1 none, Cond.fieldLink RX1 73 "ControlBench$Loop" "follows" "Z", Cond.fieldLink RX1 76 "ControlBench$Plant" "measure" "J", Cond.fieldLink RX1 79 "ControlBench$Controller" "setpoint" "J", Cond.methodLink RX5 247 yX1_actAsRelay, Cond.instanceMethod yX1_actAsRelay, Cond.selects RX1 yX1_actAsRelay yX1_actAsRelay, Cond.code yX1_actAsRelay cX1_actAsRelay 1 none, Cond.fieldLink RX1 118 "ControlBench$Relay" "progress" "I", Cond.fieldLink RX1 121 "ControlBench$Relay" "center" "J", Cond.methodLink RX1 108 yX0_error, Cond.methodLink RX1 111 yX3_sample, Cond.instanceMethod yX3_sample, Cond.selects RX3 yX3_sample yX3_sample, Cond.code yX3_sample cX3_sample 6 none, Cond.fieldLink RX3 27 "ControlBench$Relay" "samples" "I", Cond.fieldLink RX3 23 "ControlBench$Relay" "up" "Z", Cond.fieldLink RX3 20 "ControlBench$Relay" "band" "I", Cond.fieldLink RX3 37 "ControlBench$Relay" "greatest" "J"]
def wsL_law0_r19 : List Cond := [Cond.methodLink RX3 40 Lib.MathLoose.max_long.x, Cond.fieldLink RX3 46 "ControlBench$Relay" "least" "J", Cond.methodLink RX3 49 Lib.MathLoose.min_long.x, Cond.methodLink RX3 33 yX3_noteRise, Cond.instanceMethod yX3_noteRise, Cond.selects RX3 yX3_noteRise yX3_noteRise, Cond.code yX3_noteRise cX3_noteRise 3 none, Cond.fieldLink RX3 30 "ControlBench$Relay" "rises" "I", Cond.fieldLink RX3 52 "ControlBench$Relay" "sampleOfSecondRise" "I", Cond.fieldLink RX3 55 "ControlBench$Relay" "period" "I", Cond.fieldLink RX3 58 "ControlBench$Relay" "swing" "J", Cond.methodLink RX1 115 yX3_wanted, Cond.instanceMethod yX3_wanted, Cond.selects RX3 yX3_wanted yX3_wanted, Cond.code yX3_wanted cX3_wanted 1 (some .long), Cond.fieldLink RX3 13 "ControlBench$Relay" "center" "J", Cond.fieldLink RX3 17 "ControlBench$Relay" "height" "I", Cond.methodLink RX5 250 yX1_actAutomatically, Cond.instanceMethod yX1_actAutomatically, Cond.selects RX1 yX1_actAutomatically yX1_actAutomatically, Cond.code yX1_actAutomatically cX1_actAutomatically 4 none, Cond.methodLink RX1 82 yX4_hasPoints, Cond.instanceMethod yX4_hasPoints, Cond.selects RX4 yX4_hasPoints yX4_hasPoints]
def wsL_law0_r20 : List Cond := [Cond.code yX4_hasPoints cX4_hasPoints 1 (some .boolean), Cond.methodLink RX1 86 yX4_pointsReached, Cond.instanceMethod yX4_pointsReached, Cond.selects RX4 yX4_pointsReached yX4_pointsReached, Cond.code yX4_pointsReached cX4_pointsReached 4 (some .int), Cond.methodLink RX1 90 yX4_pAt, Cond.instanceMethod yX4_pAt, Cond.selects RX4 yX4_pAt yX4_pAt, Cond.code yX4_pAt cX4_pAt 4 (some .int), Cond.methodLink RX4 26 yX4_gainAt, Cond.instanceMethod yX4_gainAt, Cond.selects RX4 yX4_gainAt yX4_gainAt, Cond.code yX4_gainAt cX4_gainAt 10 (some .int), Cond.methodLink RX4 30 Lib.Math.min.name, Cond.static Lib.Math.min.name, Cond.code Lib.Math.min.name Lib.Math.min.code 2 (some .int), Cond.methodLink RX4 36 yJ9_floorDiv_f86c9, Cond.static yJ9_floorDiv_f86c9, Cond.initialized RJ9, Cond.code yJ9_floorDiv_f86c9 cJ9_floorDiv_f86c9 6 (some .long), Cond.methodLink RX1 94 yX4_iAt, Cond.instanceMethod yX4_iAt, Cond.selects RX4 yX4_iAt yX4_iAt, Cond.code yX4_iAt cX4_iAt 4 (some .int)]
def wsL_law0_r21 : List Cond := [Cond.methodLink RX1 97 yX4_dAt, Cond.instanceMethod yX4_dAt, Cond.selects RX4 yX4_dAt yX4_dAt, Cond.code yX4_dAt cX4_dAt 4 (some .int), Cond.methodLink RX1 100 yX0_changeGains, Cond.methodLink RX1 104 yX0_automaticSample, Cond.instanceMethod yX0_automaticSample, Cond.selects RX0 yX0_automaticSample yX0_automaticSample, Cond.code yX0_automaticSample cX0_automaticSample 11 (some .long), Cond.fieldLink RX0 81 "ControlBench$Controller" "heldSamples" "I", Cond.methodLink RX0 67 yX0_countIncrements, Cond.instanceMethod yX0_countIncrements, Cond.selects RX0 yX0_countIncrements yX0_countIncrements, Cond.code yX0_countIncrements cX0_countIncrements 7 none, Cond.fieldLink RX0 87 "ControlBench$Controller" "sumByIncrements" "J", Cond.fieldLink RX0 90 "ControlBench$Controller" "latestError" "J", Cond.fieldLink RX0 93 "ControlBench$Controller" "latestRate" "J", Cond.methodLink RX0 71 yJ9_floorDiv_f86c9, Cond.methodLink RX0 77 yX0_withinLimits, Cond.methodLink RX0 84 yX0_guardAgainstWindup, Cond.instanceMethod yX0_guardAgainstWindup, Cond.selects RX0 yX0_guardAgainstWindup yX0_guardAgainstWindup, Cond.code yX0_guardAgainstWindup cX0_guardAgainstWindup 8 none, Cond.fieldLink RX0 96 "ControlBench$Controller" "guard" "I"]
def wsL_law0_r22 : List Cond := [Cond.methodLink RX5 233 yX2_goOn, Cond.instanceMethod yX2_goOn, Cond.selects RX2 yX2_goOn yX2_goOn, Cond.code yX2_goOn cX2_goOn 7 none, Cond.fieldLink RX2 22 "ControlBench$Plant" "latest" "I", Cond.fieldLink RX2 31 "ControlBench$Plant" "deadTime" "I", Cond.fieldLink RX2 34 "ControlBench$Plant" "measure" "J", Cond.fieldLink RX2 38 "ControlBench$Plant" "a2" "I", Cond.fieldLink RX2 41 "ControlBench$Plant" "measureBefore" "J", Cond.constantLong RX2 44 (1000), Cond.fieldLink RX2 50 "ControlBench$Plant" "load" "I", Cond.constantLong RX2 53 (-1000000), Cond.constantLong RX2 55 (1000000), Cond.methodLink RX2 25 yJ9_floorMod_7cf53, Cond.static yJ9_floorMod_7cf53, Cond.code yJ9_floorMod_7cf53 cJ9_floorMod_7cf53 3 (some .int), Cond.methodLink RX2 46 yJ9_floorDiv_f86c9, Cond.methodLink RL 153 yX6_run, Cond.instanceMethod yX6_run, Cond.selects RX6 yX6_run yX6_run, Cond.code yX6_run cX6_run 3 (some .int), Cond.fieldLink RX6 211 "ControlBenchModel" "samples" "I", Cond.methodLink RX6 214 yX6_sample, Cond.instanceMethod yX6_sample]
def wsL_law0_r23 : List Cond := [Cond.selects RX6 yX6_sample yX6_sample, Cond.code yX6_sample cX6_sample 6 none, Cond.constantLong RX6 207 (-1000000), Cond.constantLong RX6 209 (1000000), Cond.methodLink RX6 203 yX6_puts, Cond.instanceMethod yX6_puts, Cond.selects RX6 yX6_puts yX6_puts, Cond.code yX6_puts cX6_puts 6 (some .long), Cond.methodLink RX6 190 yX6_within, Cond.static yX6_within, Cond.code yX6_within cX6_within 6 (some .long), Cond.methodLink RX6 194 yX6_relays, Cond.instanceMethod yX6_relays, Cond.selects RX6 yX6_relays yX6_relays, Cond.code yX6_relays cX6_relays 5 (some .long), Cond.methodLink RX6 197 yX6_starves, Cond.instanceMethod yX6_starves, Cond.selects RX6 yX6_starves yX6_starves, Cond.code yX6_starves cX6_starves 2 (some .boolean), Cond.methodLink RX6 200 yX6_controls, Cond.instanceMethod yX6_controls, Cond.selects RX6 yX6_controls yX6_controls, Cond.code yX6_controls cX6_controls 18 (some .long), Cond.methodLink RX6 186 yX6_schedules]
def wsL_law0_r24 : List Cond := [Cond.instanceMethod yX6_schedules, Cond.selects RX6 yX6_schedules yX6_schedules, Cond.code yX6_schedules cX6_schedules 11 none, Cond.methodLink RX6 182 yX6_floor, Cond.static yX6_floor, Cond.code yX6_floor cX6_floor 6 (some .long), Cond.methodLink RL 154 yL_measure, Cond.static yL_measure, Cond.codeWith yL_measure cL_measure 4 (some .int) [(0, 8, 11, 13)], Cond.methodLink RL 56 yX5_measure, Cond.instanceMethod yX5_measure, Cond.selects RX5 yX5_measure yX5_measure, Cond.code yX5_measure cX5_measure 2 (some .long), Cond.fieldLink RX5 128 "ControlBench$Plant" "measure" "J", Cond.methodLink RL 156 yX6_measure, Cond.instanceMethod yX6_measure, Cond.selects RX6 yX6_measure yX6_measure, Cond.code yX6_measure cX6_measure 2 (some .long), Cond.methodLink RX6 217 yX6_isAsked, Cond.instanceMethod yX6_isAsked, Cond.selects RX6 yX6_isAsked yX6_isAsked, Cond.code yX6_isAsked cX6_isAsked 2 (some .boolean), Cond.methodLink RL 157 yL_output, Cond.static yL_output]
def wsL_law0_r25 : List Cond := [Cond.codeWith yL_output cL_output 4 (some .int) [(0, 8, 11, 13)], Cond.methodLink RL 60 yX5_output, Cond.instanceMethod yX5_output, Cond.selects RX5 yX5_output yX5_output, Cond.code yX5_output cX5_output 2 (some .long), Cond.methodLink RL 159 yX6_output, Cond.instanceMethod yX6_output, Cond.selects RX6 yX6_output yX6_output, Cond.code yX6_output cX6_output 2 (some .long), Cond.methodLink RL 160 yL_outputByIncrements, Cond.static yL_outputByIncrements, Cond.codeWith yL_outputByIncrements cL_outputByIncrements 4 (some .int) [(0, 8, 11, 13)], Cond.methodLink RL 63 yX5_outputByIncrements, Cond.instanceMethod yX5_outputByIncrements, Cond.selects RX5 yX5_outputByIncrements yX5_outputByIncrements, Cond.code yX5_outputByIncrements cX5_outputByIncrements 2 (some .long), Cond.fieldLink RX5 134 "ControlBench$Controller" "sumByIncrements" "J", Cond.constantLong RX5 137 (1000), Cond.methodLink RX5 139 yJ9_floorDiv_f86c9, Cond.methodLink RL 162 yX6_outputByIncrements, Cond.instanceMethod yX6_outputByIncrements, Cond.selects RX6 yX6_outputByIncrements yX6_outputByIncrements, Cond.code yX6_outputByIncrements cX6_outputByIncrements 2 (some .long), Cond.methodLink RL 163 yL_setpoint]
def wsL_law0_r26 : List Cond := [Cond.static yL_setpoint, Cond.codeWith yL_setpoint cL_setpoint 4 (some .int) [(0, 8, 11, 13)], Cond.methodLink RL 66 yX5_setpoint, Cond.instanceMethod yX5_setpoint, Cond.selects RX5 yX5_setpoint yX5_setpoint, Cond.code yX5_setpoint cX5_setpoint 2 (some .long), Cond.methodLink RL 165 yX6_setpoint, Cond.instanceMethod yX6_setpoint, Cond.selects RX6 yX6_setpoint yX6_setpoint, Cond.code yX6_setpoint cX6_setpoint 2 (some .long), Cond.methodLink RL 166 yL_integral, Cond.static yL_integral, Cond.codeWith yL_integral cL_integral 4 (some .int) [(0, 8, 11, 13)], Cond.methodLink RL 69 yX5_integral, Cond.instanceMethod yX5_integral, Cond.selects RX5 yX5_integral yX5_integral, Cond.code yX5_integral cX5_integral 2 (some .long), Cond.fieldLink RX5 145 "ControlBench$Controller" "integral" "J", Cond.methodLink RL 168 yX6_integral, Cond.instanceMethod yX6_integral, Cond.selects RX6 yX6_integral yX6_integral, Cond.code yX6_integral cX6_integral 2 (some .long), Cond.methodLink RL 169 yL_gain, Cond.static yL_gain]
def wsL_law0_r27 : List Cond := [Cond.codeWith yL_gain cL_gain 5 (some .int) [(0, 10, 13, 13)], Cond.methodLink RL 72 yX5_gain, Cond.instanceMethod yX5_gain, Cond.selects RX5 yX5_gain yX5_gain, Cond.code yX5_gain cX5_gain 4 (some .int), Cond.fieldLink RX5 151 "ControlBench$Controller" "p" "I", Cond.fieldLink RX5 154 "ControlBench$Controller" "i" "I", Cond.fieldLink RX5 157 "ControlBench$Controller" "d" "I", Cond.methodLink RX5 148 yX5_requireGainNumber, Cond.static yX5_requireGainNumber, Cond.code yX5_requireGainNumber cX5_requireGainNumber 1 none, Cond.methodLink RL 171 yX6_gain, Cond.instanceMethod yX6_gain, Cond.selects RX6 yX6_gain yX6_gain, Cond.code yX6_gain cX6_gain 3 (some .int), Cond.methodLink RL 172 yL_mode, Cond.static yL_mode, Cond.codeWith yL_mode cL_mode 4 (some .int) [(0, 9, 12, 13)], Cond.methodLink RL 75 yX5_mode, Cond.instanceMethod yX5_mode, Cond.selects RX5 yX5_mode yX5_mode, Cond.code yX5_mode cX5_mode 2 (some .int), Cond.methodLink RL 174 yX6_mode, Cond.instanceMethod yX6_mode]
def wsL_law0_r28 : List Cond := [Cond.selects RX6 yX6_mode yX6_mode, Cond.code yX6_mode cX6_mode 2 (some .int), Cond.methodLink RL 175 yL_wasStarved, Cond.static yL_wasStarved, Cond.codeWith yL_wasStarved cL_wasStarved 4 (some .int) [(0, 16, 19, 13)], Cond.methodLink RL 78 yX5_wasStarved, Cond.instanceMethod yX5_wasStarved, Cond.selects RX5 yX5_wasStarved yX5_wasStarved, Cond.code yX5_wasStarved cX5_wasStarved 2 (some .boolean), Cond.methodLink RL 177 yX6_wasStarved, Cond.instanceMethod yX6_wasStarved, Cond.selects RX6 yX6_wasStarved yX6_wasStarved, Cond.code yX6_wasStarved cX6_wasStarved 2 (some .boolean), Cond.methodLink RL 178 yL_held, Cond.static yL_held, Cond.codeWith yL_held cL_held 4 (some .int) [(0, 9, 12, 13)], Cond.methodLink RL 82 yX5_held, Cond.instanceMethod yX5_held, Cond.selects RX5 yX5_held yX5_held, Cond.code yX5_held cX5_held 2 (some .int), Cond.fieldLink RX5 163 "ControlBench$Controller" "heldSamples" "I", Cond.methodLink RL 180 yX6_held, Cond.instanceMethod yX6_held, Cond.selects RX6 yX6_held yX6_held]
def wsL_law0_r29 : List Cond := [Cond.code yX6_held cX6_held 2 (some .int), Cond.methodLink RL 181 yL_startRelay, Cond.static yL_startRelay, Cond.codeWith yL_startRelay cL_startRelay 5 (some .int) [(0, 7, 10, 13), (0, 7, 14, 15), (0, 7, 18, 25)], Cond.methodLink RL 85 yX5_startRelay, Cond.instanceMethod yX5_startRelay, Cond.selects RX5 yX5_startRelay yX5_startRelay, Cond.code yX5_startRelay cX5_startRelay 5 none, Cond.constant RX5 166 (100000), Cond.fieldLink RX5 167 "ControlBench$Loop" "relay" "LControlBench$Relay;", Cond.methodLink RX5 171 yX3_begin, Cond.instanceMethod yX3_begin, Cond.selects RX3 yX3_begin yX3_begin, Cond.code yX3_begin cX3_begin 5 none, Cond.methodLink RL 183 yX6_startRelay, Cond.instanceMethod yX6_startRelay, Cond.selects RX6 yX6_startRelay yX6_startRelay, Cond.code yX6_startRelay cX6_startRelay 4 none, Cond.constant RX6 220 (100000), Cond.methodLink RL 184 yL_experiment, Cond.static yL_experiment, Cond.codeWith yL_experiment cL_experiment 4 (some .int) [(0, 9, 12, 13)], Cond.methodLink RL 88 yX5_experiment, Cond.instanceMethod yX5_experiment]
def wsL_law0_r30 : List Cond := [Cond.selects RX5 yX5_experiment yX5_experiment, Cond.code yX5_experiment cX5_experiment 2 (some .int), Cond.fieldLink RX5 177 "ControlBench$Relay" "progress" "I", Cond.methodLink RL 186 yX6_experiment, Cond.instanceMethod yX6_experiment, Cond.selects RX6 yX6_experiment yX6_experiment, Cond.code yX6_experiment cX6_experiment 2 (some .int), Cond.methodLink RL 187 yL_period, Cond.static yL_period, Cond.codeWith yL_period cL_period 4 (some .int) [(0, 9, 12, 13), (0, 9, 15, 25)], Cond.methodLink RL 91 yX5_period, Cond.instanceMethod yX5_period, Cond.selects RX5 yX5_period yX5_period, Cond.code yX5_period cX5_period 3 (some .int), Cond.fieldLink RX5 180 "ControlBench$Relay" "period" "I", Cond.methodLink RL 189 yX6_period, Cond.instanceMethod yX6_period, Cond.selects RX6 yX6_period yX6_period, Cond.code yX6_period cX6_period 2 (some .int), Cond.methodLink RX6 221 yX6_isDone, Cond.instanceMethod yX6_isDone, Cond.selects RX6 yX6_isDone yX6_isDone, Cond.code yX6_isDone cX6_isDone 2 (some .boolean), Cond.methodLink RL 190 yL_swing]
def wsL_law0_r31 : List Cond := [Cond.static yL_swing, Cond.codeWith yL_swing cL_swing 4 (some .int) [(0, 8, 11, 13), (0, 8, 14, 25)], Cond.methodLink RL 94 yX5_swing, Cond.instanceMethod yX5_swing, Cond.selects RX5 yX5_swing yX5_swing, Cond.code yX5_swing cX5_swing 3 (some .long), Cond.fieldLink RX5 183 "ControlBench$Relay" "swing" "J", Cond.methodLink RL 192 yX6_swing, Cond.instanceMethod yX6_swing, Cond.selects RX6 yX6_swing yX6_swing, Cond.code yX6_swing cX6_swing 2 (some .long), Cond.methodLink RL 193 yL_ultimateGain, Cond.static yL_ultimateGain, Cond.codeWith yL_ultimateGain cL_ultimateGain 4 (some .int) [(0, 9, 12, 13), (0, 9, 15, 25)], Cond.methodLink RL 97 yX5_ultimateGain, Cond.instanceMethod yX5_ultimateGain, Cond.selects RX5 yX5_ultimateGain yX5_ultimateGain, Cond.code yX5_ultimateGain cX5_ultimateGain 3 (some .int), Cond.methodLink RX5 186 yX3_gainAtTheEdge, Cond.instanceMethod yX3_gainAtTheEdge, Cond.selects RX3 yX3_gainAtTheEdge yX3_gainAtTheEdge, Cond.code yX3_gainAtTheEdge cX3_gainAtTheEdge 1 (some .long), Cond.constantLong RX3 61 (904000), Cond.constantLong RX3 63 (355)]
def wsL_law0_r32 : List Cond := [Cond.methodLink RX3 65 yJ9_floorDiv_f86c9, Cond.methodLink RL 195 yX6_ultimateGain, Cond.instanceMethod yX6_ultimateGain, Cond.selects RX6 yX6_ultimateGain yX6_ultimateGain, Cond.code yX6_ultimateGain cX6_ultimateGain 2 (some .int), Cond.methodLink RX6 228 yX6_ultimate, Cond.instanceMethod yX6_ultimate, Cond.selects RX6 yX6_ultimate yX6_ultimate, Cond.code yX6_ultimate cX6_ultimate 2 (some .long), Cond.constantLong RX6 224 (904000), Cond.constantLong RX6 226 (355), Cond.methodLink RL 196 yL_proposed, Cond.static yL_proposed, Cond.codeWith yL_proposed cL_proposed 6 (some .int) [(0, 12, 15, 13), (0, 12, 19, 15), (0, 12, 23, 25)], Cond.methodLink RL 100 yX5_proposed, Cond.instanceMethod yX5_proposed, Cond.selects RX5 yX5_proposed yX5_proposed, Cond.code yX5_proposed cX5_proposed 5 (some .int), Cond.constantLong RX5 194 (20000), Cond.constantLong RX5 202 (5000), Cond.constantLong RX5 207 (50000), Cond.methodLink RX5 190 yX3_proposedP, Cond.instanceMethod yX3_proposedP, Cond.selects RX3 yX3_proposedP yX3_proposedP]
def wsL_law0_r33 : List Cond := [Cond.code yX3_proposedP cX3_proposedP 4 (some .long), Cond.constantLong RX3 72 (6), Cond.constantLong RX3 74 (10), Cond.constantLong RX3 76 (22), Cond.methodLink RX3 68 yX3_gainAtTheEdge, Cond.methodLink RX5 199 yX3_proposedI, Cond.instanceMethod yX3_proposedI, Cond.selects RX3 yX3_proposedI yX3_proposedI, Cond.code yX3_proposedI cX3_proposedI 4 (some .long), Cond.constantLong RX3 78 (12), Cond.constantLong RX3 80 (100), Cond.constantLong RX3 82 (484), Cond.methodLink RX5 204 yX3_proposedD, Cond.instanceMethod yX3_proposedD, Cond.selects RX3 yX3_proposedD yX3_proposedD, Cond.code yX3_proposedD cX3_proposedD 4 (some .long), Cond.constantLong RX3 84 (3), Cond.constantLong RX3 86 (40), Cond.constantLong RX3 88 (1386), Cond.methodLink RL 198 yX6_proposed, Cond.instanceMethod yX6_proposed, Cond.selects RX6 yX6_proposed yX6_proposed, Cond.code yX6_proposed cX6_proposed 8 (some .int), Cond.constantLong RX6 231 (6)]
def wsL_law0_r34 : List Cond := [Cond.constantLong RX6 233 (10), Cond.constantLong RX6 235 (22), Cond.constantLong RX6 237 (20000), Cond.constantLong RX6 239 (12), Cond.constantLong RX6 241 (484), Cond.constantLong RX6 243 (5000), Cond.constantLong RX6 245 (3), Cond.constantLong RX6 247 (40), Cond.constantLong RX6 249 (1386), Cond.constantLong RX6 251 (50000)]
def wsL_law0 : List Cond := (wsL_law0_r1 ++ (wsL_law0_r2 ++ (wsL_law0_r3 ++ (wsL_law0_r4 ++ (wsL_law0_r5 ++ (wsL_law0_r6 ++ (wsL_law0_r7 ++ (wsL_law0_r8 ++ (wsL_law0_r9 ++ (wsL_law0_r10 ++ (wsL_law0_r11 ++ (wsL_law0_r12 ++ (wsL_law0_r13 ++ (wsL_law0_r14 ++ (wsL_law0_r15 ++ (wsL_law0_r16 ++ (wsL_law0_r17 ++ (wsL_law0_r18 ++ (wsL_law0_r19 ++ (wsL_law0_r20 ++ (wsL_law0_r21 ++ (wsL_law0_r22 ++ (wsL_law0_r23 ++ (wsL_law0_r24 ++ (wsL_law0_r25 ++ (wsL_law0_r26 ++ (wsL_law0_r27 ++ (wsL_law0_r28 ++ (wsL_law0_r29 ++ (wsL_law0_r30 ++ (wsL_law0_r31 ++ (wsL_law0_r32 ++ (wsL_law0_r33 ++ wsL_law0_r34))))))))))))))))))))))))))))))))) ++ wsX50 ++ wsX60 ++ wsX10 ++ wsX20 ++ wsX00 ++ wsX40 ++ wsX30 ++ ([] : List Cond)
def wsL_law : List Cond := wsL_law0 ++ (vx_atS RX5 213 "java/lang/IndexOutOfBoundsException" ["java/lang/RuntimeException", "java/lang/Exception"]).filter goodWord ++ (vx_atS RX5 224 "java/lang/IllegalArgumentException" ["java/lang/RuntimeException", "java/lang/Exception"]).filter goodWord ++ (vx_atS RX5 229 "java/lang/IllegalStateException" ["java/lang/RuntimeException", "java/lang/Exception"]).filter goodWord
set_option maxRecDepth 20000 in
theorem wsL_law_in0 : ∀ w ∈ wsL_law0, w ∈ lw_tbl := fun w h => (goodIn_p wsL_law0 [44, 47, 53, 59, 103, 168, 191, 793, 291, 295, 366, 369, 935, 938, 941, 945, 931, 392, 949, 400, 403, 408, 428, 432, 436, 440, 953, 956, 962, 966, 970, 447, 453, 457, 461, 974, 468, 980, 475, 984, 482, 988, 489, 992, 496, 996, 503, 507, 511, 515, 519, 1000, 1004, 1008, 527, 531, 535, 539, 543, 547, 550, 553, 556, 560, 564, 569, 573, 579, 583, 587, 591, 595, 599, 602, 605, 609, 613, 618, 622, 628, 632, 635, 1012, 1016, 1020, 1023, 1027, 1031, 1035, 1039, 1042, 647, 1048, 1052, 654, 1056, 661, 1060, 670, 1064, 677, 1068, 684, 687, 1072, 695, 1076, 702, 1080, 709, 1084, 716, 721, 1088, 728, 1093, 735, 1097, 1101, 742, 1105, 749, 753, 1109, 1113, 763, 767, 776, 784, 1119] (by decide +kernel) (by decide +kernel) w h).1
theorem wsL_law_x0 : ∀ w ∈ (vx_atS RX5 213 "java/lang/IndexOutOfBoundsException" ["java/lang/RuntimeException", "java/lang/Exception"]).filter goodWord, w ∈ lw_tbl := by decide +kernel
theorem wsL_law_x1 : ∀ w ∈ (vx_atS RX5 224 "java/lang/IllegalArgumentException" ["java/lang/RuntimeException", "java/lang/Exception"]).filter goodWord, w ∈ lw_tbl := by decide +kernel
theorem wsL_law_x2 : ∀ w ∈ (vx_atS RX5 229 "java/lang/IllegalStateException" ["java/lang/RuntimeException", "java/lang/Exception"]).filter goodWord, w ∈ lw_tbl := by decide +kernel
theorem wsL_law_in : ∀ w ∈ wsL_law, w ∈ lw_tbl := fun w h => (List.mem_append.mp h).elim (fun h => (List.mem_append.mp h).elim (fun h => (List.mem_append.mp h).elim (fun h => wsL_law_in0 w h) (fun h => wsL_law_x0 w h)) (fun h => wsL_law_x1 w h)) (fun h => wsL_law_x2 w h)
theorem inlX0 : ∀ w ∈ wsX00, w ∈ wsL_law := fun _ h => List.mem_append_left _ (List.mem_append_left _ (List.mem_append_left _ (List.mem_append_left _ (List.mem_append_left _ (List.mem_append_left _ (List.mem_append_right _ h))))))
theorem inX0 : ∀ w ∈ wsX00, w ∈ lw_tbl := fun w h => wsL_law_in w (inlX0 w h)
theorem inlX1 : ∀ w ∈ wsX10, w ∈ wsL_law := fun _ h => List.mem_append_left _ (List.mem_append_left _ (List.mem_append_left _ (List.mem_append_left _ (List.mem_append_left _ (List.mem_append_left _ (List.mem_append_left _ (List.mem_append_left _ (List.mem_append_right _ h))))))))
theorem inX1 : ∀ w ∈ wsX10, w ∈ lw_tbl := fun w h => wsL_law_in w (inlX1 w h)
theorem inlX2 : ∀ w ∈ wsX20, w ∈ wsL_law := fun _ h => List.mem_append_left _ (List.mem_append_left _ (List.mem_append_left _ (List.mem_append_left _ (List.mem_append_left _ (List.mem_append_left _ (List.mem_append_left _ (List.mem_append_right _ h)))))))
theorem inX2 : ∀ w ∈ wsX20, w ∈ lw_tbl := fun w h => wsL_law_in w (inlX2 w h)
theorem inlX3 : ∀ w ∈ wsX30, w ∈ wsL_law := fun _ h => List.mem_append_left _ (List.mem_append_left _ (List.mem_append_left _ (List.mem_append_left _ (List.mem_append_right _ h))))
theorem inX3 : ∀ w ∈ wsX30, w ∈ lw_tbl := fun w h => wsL_law_in w (inlX3 w h)
theorem inlX4 : ∀ w ∈ wsX40, w ∈ wsL_law := fun _ h => List.mem_append_left _ (List.mem_append_left _ (List.mem_append_left _ (List.mem_append_left _ (List.mem_append_left _ (List.mem_append_right _ h)))))
theorem inX4 : ∀ w ∈ wsX40, w ∈ lw_tbl := fun w h => wsL_law_in w (inlX4 w h)
theorem inlX5 : ∀ w ∈ wsX50, w ∈ wsL_law := fun _ h => List.mem_append_left _ (List.mem_append_left _ (List.mem_append_left _ (List.mem_append_left _ (List.mem_append_left _ (List.mem_append_left _ (List.mem_append_left _ (List.mem_append_left _ (List.mem_append_left _ (List.mem_append_left _ (List.mem_append_right _ h))))))))))
theorem inX5 : ∀ w ∈ wsX50, w ∈ lw_tbl := fun w h => wsL_law_in w (inlX5 w h)
theorem inlX6 : ∀ w ∈ wsX60, w ∈ wsL_law := fun _ h => List.mem_append_left _ (List.mem_append_left _ (List.mem_append_left _ (List.mem_append_left _ (List.mem_append_left _ (List.mem_append_left _ (List.mem_append_left _ (List.mem_append_left _ (List.mem_append_left _ (List.mem_append_right _ h)))))))))
theorem inX6 : ∀ w ∈ wsX60, w ∈ lw_tbl := fun w h => wsL_law_in w (inlX6 w h)
theorem inJ9 : ∀ w ∈ wsJ90, w ∈ lw_tbl := by decide +kernel
theorem inJ0 : ∀ w ∈ wsJ00, w ∈ lw_tbl := by decide +kernel
theorem dX0_init_0 : decode cX0_init 0 = .ok (.aload_n 0, 1) := by decide +kernel
theorem dX0_init_1 : decode cX0_init 1 = .ok (.invokespecial 1, 3) := by decide +kernel
theorem dX0_init_4 : decode cX0_init 4 = .ok (.aload_n 0, 1) := by decide +kernel
theorem dX0_init_5 : decode cX0_init 5 = .ok (.sipush 1000, 3) := by decide +kernel
theorem dX0_init_8 : decode cX0_init 8 = .ok (.putfield 7, 3) := by decide +kernel
theorem dX0_init_11 : decode cX0_init 11 = .ok (.aload_n 0, 1) := by decide +kernel
theorem dX0_init_12 : decode cX0_init 12 = .ok (.bipush 100, 2) := by decide +kernel
theorem dX0_init_14 : decode cX0_init 14 = .ok (.putfield 13, 3) := by decide +kernel
theorem dX0_init_17 : decode cX0_init 17 = .ok (.aload_n 0, 1) := by decide +kernel
theorem dX0_init_18 : decode cX0_init 18 = .ok (.ldc 16, 2) := by decide +kernel
theorem dX0_init_20 : decode cX0_init 20 = .ok (.putfield 17, 3) := by decide +kernel
theorem dX0_init_23 : decode cX0_init 23 = .ok (.aload_n 0, 1) := by decide +kernel
theorem dX0_init_24 : decode cX0_init 24 = .ok (.sipush 500, 3) := by decide +kernel
theorem dX0_init_27 : decode cX0_init 27 = .ok (.putfield 20, 3) := by decide +kernel
theorem dX0_init_30 : decode cX0_init 30 = .ok (.aload_n 0, 1) := by decide +kernel
theorem dX0_init_31 : decode cX0_init 31 = .ok (.aload_n 1, 1) := by decide +kernel
theorem dX0_init_32 : decode cX0_init 32 = .ok (.putfield 23, 3) := by decide +kernel
theorem dX0_init_35 : decode cX0_init 35 = .ok (.return_, 1) := by decide +kernel
theorem dX0_error_0 : decode cX0_error 0 = .ok (.aload_n 0, 1) := by decide +kernel
theorem dX0_error_1 : decode cX0_error 1 = .ok (.getfield 27, 3) := by decide +kernel
theorem dX0_error_4 : decode cX0_error 4 = .ok (.aload_n 0, 1) := by decide +kernel
theorem dX0_error_5 : decode cX0_error 5 = .ok (.getfield 23, 3) := by decide +kernel
theorem dX0_error_8 : decode cX0_error 8 = .ok (.getfield 31, 3) := by decide +kernel
theorem dX0_error_11 : decode cX0_error 11 = .ok (.lsub, 1) := by decide +kernel
theorem dX0_error_12 : decode cX0_error 12 = .ok (.lreturn, 1) := by decide +kernel
theorem dX0_rate_0 : decode cX0_rate 0 = .ok (.aload_n 0, 1) := by decide +kernel
theorem dX0_rate_1 : decode cX0_rate 1 = .ok (.getfield 23, 3) := by decide +kernel
theorem dX0_rate_4 : decode cX0_rate 4 = .ok (.getfield 36, 3) := by decide +kernel
theorem dX0_rate_7 : decode cX0_rate 7 = .ok (.aload_n 0, 1) := by decide +kernel
theorem dX0_rate_8 : decode cX0_rate 8 = .ok (.getfield 23, 3) := by decide +kernel
theorem dX0_rate_11 : decode cX0_rate 11 = .ok (.getfield 31, 3) := by decide +kernel
theorem dX0_rate_14 : decode cX0_rate 14 = .ok (.lsub, 1) := by decide +kernel
theorem dX0_rate_15 : decode cX0_rate 15 = .ok (.lreturn, 1) := by decide +kernel
set_option maxRecDepth 20000 in
theorem ggX0_withinLimits_X5_hold : GoodIn wsX0_withinLimits wsX5_hold := goodIn_r _ [5, 6, 7, 8, 9, 10, 11, 12] (by decide +kernel) (by decide +kernel)
set_option maxRecDepth 20000 in
theorem gX0_withinLimits_X5_hold_n42 : GoodIn wsX0_withinLimits (wsX5_hold) := ggX0_withinLimits_X5_hold
theorem dX0_withinLimits_0 : decode cX0_withinLimits 0 = .ok (.lload_n 1, 1) := by decide +kernel
theorem dX0_withinLimits_1 : decode cX0_withinLimits 1 = .ok (.aload_n 0, 1) := by decide +kernel
theorem dX0_withinLimits_2 : decode cX0_withinLimits 2 = .ok (.getfield 39, 3) := by decide +kernel
theorem dX0_withinLimits_5 : decode cX0_withinLimits 5 = .ok (.i2l, 1) := by decide +kernel
theorem dX0_withinLimits_6 : decode cX0_withinLimits 6 = .ok (.aload_n 0, 1) := by decide +kernel
theorem dX0_withinLimits_7 : decode cX0_withinLimits 7 = .ok (.getfield 17, 3) := by decide +kernel
theorem dX0_withinLimits_10 : decode cX0_withinLimits 10 = .ok (.i2l, 1) := by decide +kernel
theorem dX0_withinLimits_11 : decode cX0_withinLimits 11 = .ok (.invokestatic 42, 3) := by decide +kernel
theorem dX0_withinLimits_14 : decode cX0_withinLimits 14 = .ok (.lreturn, 1) := by decide +kernel
set_option maxRecDepth 20000 in
theorem ggX0_changeGains_X0_error : GoodIn wsX0_changeGains wsX0_error := goodIn_r _ [9, 10, 11, 12, 18, 19, 20, 21, 22, 23, 24, 25, 26, 27, 28, 29, 30, 31, 32, 33, 34, 35, 36, 37, 38, 39, 40, 41] (by decide +kernel) (by decide +kernel)
set_option maxRecDepth 20000 in
theorem gX0_changeGains_X0_error : GoodIn wsX0_changeGains (wsV RX0 51 RX0 yX0_error wsX0_error) := goodIn_app (goodIn_of _ (by decide +kernel)) ggX0_changeGains_X0_error
set_option maxRecDepth 20000 in
theorem ggX0_changeGains_X0_rate : GoodIn wsX0_changeGains wsX0_rate := goodIn_r _ [16, 11, 17, 12, 18, 19, 20, 21, 22, 23, 24, 25, 26, 27, 28, 29, 30, 31, 32, 33, 34, 35, 36, 37, 38, 39, 40, 41] (by decide +kernel) (by decide +kernel)
set_option maxRecDepth 20000 in
theorem gX0_changeGains_X0_rate : GoodIn wsX0_changeGains (wsV RX0 58 RX0 yX0_rate wsX0_rate) := goodIn_app (goodIn_of _ (by decide +kernel)) ggX0_changeGains_X0_rate
theorem dX0_changeGains_0 : decode cX0_changeGains 0 = .ok (.aload_n 0, 1) := by decide +kernel
theorem dX0_changeGains_1 : decode cX0_changeGains 1 = .ok (.dup, 1) := by decide +kernel
theorem dX0_changeGains_2 : decode cX0_changeGains 2 = .ok (.getfield 48, 3) := by decide +kernel
theorem dX0_changeGains_5 : decode cX0_changeGains 5 = .ok (.aload_n 0, 1) := by decide +kernel
theorem dX0_changeGains_6 : decode cX0_changeGains 6 = .ok (.getfield 7, 3) := by decide +kernel
theorem dX0_changeGains_9 : decode cX0_changeGains 9 = .ok (.iload_n 1, 1) := by decide +kernel
theorem dX0_changeGains_10 : decode cX0_changeGains 10 = .ok (.isub, 1) := by decide +kernel
theorem dX0_changeGains_11 : decode cX0_changeGains 11 = .ok (.i2l, 1) := by decide +kernel
theorem dX0_changeGains_12 : decode cX0_changeGains 12 = .ok (.aload_n 0, 1) := by decide +kernel
theorem dX0_changeGains_13 : decode cX0_changeGains 13 = .ok (.invokevirtual 51, 3) := by decide +kernel
theorem dX0_changeGains_16 : decode cX0_changeGains 16 = .ok (.lmul, 1) := by decide +kernel
theorem dX0_changeGains_17 : decode cX0_changeGains 17 = .ok (.aload_n 0, 1) := by decide +kernel
theorem dX0_changeGains_18 : decode cX0_changeGains 18 = .ok (.getfield 55, 3) := by decide +kernel
theorem dX0_changeGains_21 : decode cX0_changeGains 21 = .ok (.iload_n 3, 1) := by decide +kernel
theorem dX0_changeGains_22 : decode cX0_changeGains 22 = .ok (.isub, 1) := by decide +kernel
theorem dX0_changeGains_23 : decode cX0_changeGains 23 = .ok (.i2l, 1) := by decide +kernel
theorem dX0_changeGains_24 : decode cX0_changeGains 24 = .ok (.aload_n 0, 1) := by decide +kernel
theorem dX0_changeGains_25 : decode cX0_changeGains 25 = .ok (.invokevirtual 58, 3) := by decide +kernel
theorem dX0_changeGains_28 : decode cX0_changeGains 28 = .ok (.lmul, 1) := by decide +kernel
theorem dX0_changeGains_29 : decode cX0_changeGains 29 = .ok (.ladd, 1) := by decide +kernel
theorem dX0_changeGains_30 : decode cX0_changeGains 30 = .ok (.ladd, 1) := by decide +kernel
theorem dX0_changeGains_31 : decode cX0_changeGains 31 = .ok (.putfield 48, 3) := by decide +kernel
theorem dX0_changeGains_34 : decode cX0_changeGains 34 = .ok (.aload_n 0, 1) := by decide +kernel
theorem dX0_changeGains_35 : decode cX0_changeGains 35 = .ok (.iload_n 1, 1) := by decide +kernel
theorem dX0_changeGains_36 : decode cX0_changeGains 36 = .ok (.putfield 7, 3) := by decide +kernel
theorem dX0_changeGains_39 : decode cX0_changeGains 39 = .ok (.aload_n 0, 1) := by decide +kernel
theorem dX0_changeGains_40 : decode cX0_changeGains 40 = .ok (.iload_n 2, 1) := by decide +kernel
theorem dX0_changeGains_41 : decode cX0_changeGains 41 = .ok (.putfield 13, 3) := by decide +kernel
theorem dX0_changeGains_44 : decode cX0_changeGains 44 = .ok (.aload_n 0, 1) := by decide +kernel
theorem dX0_changeGains_45 : decode cX0_changeGains 45 = .ok (.iload_n 3, 1) := by decide +kernel
theorem dX0_changeGains_46 : decode cX0_changeGains 46 = .ok (.putfield 55, 3) := by decide +kernel
theorem dX0_changeGains_49 : decode cX0_changeGains 49 = .ok (.return_, 1) := by decide +kernel
set_option maxRecDepth 20000 in
theorem ggX0_settle_X0_error : GoodIn wsX0_settle wsX0_error := goodIn_r _ [10, 11, 12, 13, 19, 20, 21, 22, 23, 24, 25, 26, 27, 28, 29, 30, 31, 32, 33, 34, 35, 36, 37, 38, 39, 40, 41, 42] (by decide +kernel) (by decide +kernel)
set_option maxRecDepth 20000 in
theorem gX0_settle_X0_error : GoodIn wsX0_settle (wsV RX0 51 RX0 yX0_error wsX0_error) := goodIn_app (goodIn_of _ (by decide +kernel)) ggX0_settle_X0_error
set_option maxRecDepth 20000 in
theorem ggX0_settle_X0_rate : GoodIn wsX0_settle wsX0_rate := goodIn_r _ [17, 12, 18, 13, 19, 20, 21, 22, 23, 24, 25, 26, 27, 28, 29, 30, 31, 32, 33, 34, 35, 36, 37, 38, 39, 40, 41, 42] (by decide +kernel) (by decide +kernel)
set_option maxRecDepth 20000 in
theorem gX0_settle_X0_rate : GoodIn wsX0_settle (wsV RX0 58 RX0 yX0_rate wsX0_rate) := goodIn_app (goodIn_of _ (by decide +kernel)) ggX0_settle_X0_rate
theorem dX0_settle_0 : decode cX0_settle 0 = .ok (.aload_n 0, 1) := by decide +kernel
theorem dX0_settle_1 : decode cX0_settle 1 = .ok (.ldc2_w 61, 3) := by decide +kernel
theorem dX0_settle_4 : decode cX0_settle 4 = .ok (.lload_n 1, 1) := by decide +kernel
theorem dX0_settle_5 : decode cX0_settle 5 = .ok (.lmul, 1) := by decide +kernel
theorem dX0_settle_6 : decode cX0_settle 6 = .ok (.aload_n 0, 1) := by decide +kernel
theorem dX0_settle_7 : decode cX0_settle 7 = .ok (.getfield 7, 3) := by decide +kernel
theorem dX0_settle_10 : decode cX0_settle 10 = .ok (.i2l, 1) := by decide +kernel
theorem dX0_settle_11 : decode cX0_settle 11 = .ok (.aload_n 0, 1) := by decide +kernel
theorem dX0_settle_12 : decode cX0_settle 12 = .ok (.invokevirtual 51, 3) := by decide +kernel
theorem dX0_settle_15 : decode cX0_settle 15 = .ok (.lmul, 1) := by decide +kernel
theorem dX0_settle_16 : decode cX0_settle 16 = .ok (.lsub, 1) := by decide +kernel
theorem dX0_settle_17 : decode cX0_settle 17 = .ok (.aload_n 0, 1) := by decide +kernel
theorem dX0_settle_18 : decode cX0_settle 18 = .ok (.getfield 55, 3) := by decide +kernel
theorem dX0_settle_21 : decode cX0_settle 21 = .ok (.i2l, 1) := by decide +kernel
theorem dX0_settle_22 : decode cX0_settle 22 = .ok (.aload_n 0, 1) := by decide +kernel
theorem dX0_settle_23 : decode cX0_settle 23 = .ok (.invokevirtual 58, 3) := by decide +kernel
theorem dX0_settle_26 : decode cX0_settle 26 = .ok (.lmul, 1) := by decide +kernel
theorem dX0_settle_27 : decode cX0_settle 27 = .ok (.lsub, 1) := by decide +kernel
theorem dX0_settle_28 : decode cX0_settle 28 = .ok (.putfield 48, 3) := by decide +kernel
theorem dX0_settle_31 : decode cX0_settle 31 = .ok (.aload_n 0, 1) := by decide +kernel
theorem dX0_settle_32 : decode cX0_settle 32 = .ok (.iconst 0, 1) := by decide +kernel
theorem dX0_settle_33 : decode cX0_settle 33 = .ok (.putfield 63, 3) := by decide +kernel
theorem dX0_settle_36 : decode cX0_settle 36 = .ok (.return_, 1) := by decide +kernel
set_option maxRecDepth 20000 in
theorem ggX0_automaticSample_X0_error : GoodIn wsX0_automaticSample wsX0_error := goodIn_r _ [11, 12, 13, 14, 54, 55, 56, 57, 58, 59, 60, 61, 62, 63, 64, 65, 66, 67, 68, 69, 70, 71, 72, 73, 74, 75, 76, 77] (by decide +kernel) (by decide +kernel)
set_option maxRecDepth 20000 in
theorem gX0_automaticSample_X0_error : GoodIn wsX0_automaticSample (wsV RX0 51 RX0 yX0_error wsX0_error) := goodIn_app (goodIn_of _ (by decide +kernel)) ggX0_automaticSample_X0_error
set_option maxRecDepth 20000 in
theorem ggX0_automaticSample_X0_rate : GoodIn wsX0_automaticSample wsX0_rate := goodIn_r _ [18, 13, 19, 14, 54, 55, 56, 57, 58, 59, 60, 61, 62, 63, 64, 65, 66, 67, 68, 69, 70, 71, 72, 73, 74, 75, 76, 77] (by decide +kernel) (by decide +kernel)
set_option maxRecDepth 20000 in
theorem gX0_automaticSample_X0_rate : GoodIn wsX0_automaticSample (wsV RX0 58 RX0 yX0_rate wsX0_rate) := goodIn_app (goodIn_of _ (by decide +kernel)) ggX0_automaticSample_X0_rate
set_option maxRecDepth 20000 in
theorem ggX0_automaticSample_X0_countIncrements : GoodIn wsX0_automaticSample wsX0_countIncrements := goodIn_r _ [23, 24, 25, 3, 26, 2, 4, 27, 54, 55, 56, 57, 58, 59, 60, 61, 62, 63, 64, 65, 66, 67, 68] (by decide +kernel) (by decide +kernel)
set_option maxRecDepth 20000 in
theorem gX0_automaticSample_X0_countIncrements : GoodIn wsX0_automaticSample (wsV RX0 67 RX0 yX0_countIncrements wsX0_countIncrements) := goodIn_app (goodIn_of _ (by decide +kernel)) ggX0_automaticSample_X0_countIncrements
set_option maxRecDepth 20000 in
theorem ggX0_automaticSample_J9_floorDiv_f86c9 : GoodIn wsX0_automaticSample wsJ9_floorDiv_f86c9 := goodIn_r _ [31] (by decide +kernel) (by decide +kernel)
set_option maxRecDepth 20000 in
theorem gX0_automaticSample_J9_floorDiv_f86c9 : GoodIn wsX0_automaticSample (va_wsS RX0 71 yJ9_floorDiv_f86c9 wsJ9_floorDiv_f86c9) := goodIn_app (goodIn_of _ (by decide +kernel)) ggX0_automaticSample_J9_floorDiv_f86c9
set_option maxRecDepth 20000 in
theorem ggX0_automaticSample_X0_withinLimits : GoodIn wsX0_automaticSample wsX0_withinLimits := goodIn_r _ [35, 36, 37, 38, 39, 40, 41, 42, 43, 44, 45, 46, 47, 54, 55, 56, 57, 58, 59, 60, 61, 62, 63, 64, 65, 66, 67, 68] (by decide +kernel) (by decide +kernel)
set_option maxRecDepth 20000 in
theorem gX0_automaticSample_X0_withinLimits : GoodIn wsX0_automaticSample (wsV RX0 77 RX0 yX0_withinLimits wsX0_withinLimits) := goodIn_app (goodIn_of _ (by decide +kernel)) ggX0_automaticSample_X0_withinLimits
set_option maxRecDepth 20000 in
theorem ggX0_automaticSample_X0_guardAgainstWindup : GoodIn wsX0_automaticSample wsX0_guardAgainstWindup := goodIn_r _ [51, 52, 37, 36, 1, 2, 53, 54, 55, 56, 57, 58, 59, 60, 61, 62, 63, 64, 65, 66, 67, 68] (by decide +kernel) (by decide +kernel)
set_option maxRecDepth 20000 in
theorem gX0_automaticSample_X0_guardAgainstWindup : GoodIn wsX0_automaticSample (wsV RX0 84 RX0 yX0_guardAgainstWindup wsX0_guardAgainstWindup) := goodIn_app (goodIn_of _ (by decide +kernel)) ggX0_automaticSample_X0_guardAgainstWindup
theorem dX0_automaticSample_0 : decode cX0_automaticSample 0 = .ok (.aload_n 0, 1) := by decide +kernel
theorem dX0_automaticSample_1 : decode cX0_automaticSample 1 = .ok (.invokevirtual 51, 3) := by decide +kernel
theorem dX0_automaticSample_4 : decode cX0_automaticSample 4 = .ok (.lstore_n 1, 1) := by decide +kernel
theorem dX0_automaticSample_5 : decode cX0_automaticSample 5 = .ok (.aload_n 0, 1) := by decide +kernel
theorem dX0_automaticSample_6 : decode cX0_automaticSample 6 = .ok (.invokevirtual 58, 3) := by decide +kernel
theorem dX0_automaticSample_9 : decode cX0_automaticSample 9 = .ok (.lstore_n 3, 1) := by decide +kernel
theorem dX0_automaticSample_10 : decode cX0_automaticSample 10 = .ok (.aload_n 0, 1) := by decide +kernel
theorem dX0_automaticSample_11 : decode cX0_automaticSample 11 = .ok (.dup, 1) := by decide +kernel
theorem dX0_automaticSample_12 : decode cX0_automaticSample 12 = .ok (.getfield 48, 3) := by decide +kernel
theorem dX0_automaticSample_15 : decode cX0_automaticSample 15 = .ok (.aload_n 0, 1) := by decide +kernel
theorem dX0_automaticSample_16 : decode cX0_automaticSample 16 = .ok (.getfield 13, 3) := by decide +kernel
theorem dX0_automaticSample_19 : decode cX0_automaticSample 19 = .ok (.i2l, 1) := by decide +kernel
theorem dX0_automaticSample_20 : decode cX0_automaticSample 20 = .ok (.lload_n 1, 1) := by decide +kernel
theorem dX0_automaticSample_21 : decode cX0_automaticSample 21 = .ok (.lmul, 1) := by decide +kernel
theorem dX0_automaticSample_22 : decode cX0_automaticSample 22 = .ok (.ladd, 1) := by decide +kernel
theorem dX0_automaticSample_23 : decode cX0_automaticSample 23 = .ok (.putfield 48, 3) := by decide +kernel
theorem dX0_automaticSample_26 : decode cX0_automaticSample 26 = .ok (.aload_n 0, 1) := by decide +kernel
theorem dX0_automaticSample_27 : decode cX0_automaticSample 27 = .ok (.getfield 7, 3) := by decide +kernel
theorem dX0_automaticSample_30 : decode cX0_automaticSample 30 = .ok (.i2l, 1) := by decide +kernel
theorem dX0_automaticSample_31 : decode cX0_automaticSample 31 = .ok (.lload_n 1, 1) := by decide +kernel
theorem dX0_automaticSample_32 : decode cX0_automaticSample 32 = .ok (.lmul, 1) := by decide +kernel
theorem dX0_automaticSample_33 : decode cX0_automaticSample 33 = .ok (.aload_n 0, 1) := by decide +kernel
theorem dX0_automaticSample_34 : decode cX0_automaticSample 34 = .ok (.getfield 48, 3) := by decide +kernel
theorem dX0_automaticSample_37 : decode cX0_automaticSample 37 = .ok (.ladd, 1) := by decide +kernel
theorem dX0_automaticSample_38 : decode cX0_automaticSample 38 = .ok (.aload_n 0, 1) := by decide +kernel
theorem dX0_automaticSample_39 : decode cX0_automaticSample 39 = .ok (.getfield 55, 3) := by decide +kernel
theorem dX0_automaticSample_42 : decode cX0_automaticSample 42 = .ok (.i2l, 1) := by decide +kernel
theorem dX0_automaticSample_43 : decode cX0_automaticSample 43 = .ok (.lload_n 3, 1) := by decide +kernel
theorem dX0_automaticSample_44 : decode cX0_automaticSample 44 = .ok (.lmul, 1) := by decide +kernel
theorem dX0_automaticSample_45 : decode cX0_automaticSample 45 = .ok (.ladd, 1) := by decide +kernel
theorem dX0_automaticSample_46 : decode cX0_automaticSample 46 = .ok (.lstore 5, 2) := by decide +kernel
theorem dX0_automaticSample_48 : decode cX0_automaticSample 48 = .ok (.aload_n 0, 1) := by decide +kernel
theorem dX0_automaticSample_49 : decode cX0_automaticSample 49 = .ok (.lload_n 1, 1) := by decide +kernel
theorem dX0_automaticSample_50 : decode cX0_automaticSample 50 = .ok (.lload_n 3, 1) := by decide +kernel
theorem dX0_automaticSample_51 : decode cX0_automaticSample 51 = .ok (.lload 5, 2) := by decide +kernel
theorem dX0_automaticSample_53 : decode cX0_automaticSample 53 = .ok (.invokevirtual 67, 3) := by decide +kernel
theorem dX0_automaticSample_56 : decode cX0_automaticSample 56 = .ok (.lload 5, 2) := by decide +kernel
theorem dX0_automaticSample_58 : decode cX0_automaticSample 58 = .ok (.ldc2_w 61, 3) := by decide +kernel
theorem dX0_automaticSample_61 : decode cX0_automaticSample 61 = .ok (.invokestatic 71, 3) := by decide +kernel
theorem dX0_automaticSample_64 : decode cX0_automaticSample 64 = .ok (.lstore 7, 2) := by decide +kernel
theorem dX0_automaticSample_66 : decode cX0_automaticSample 66 = .ok (.aload_n 0, 1) := by decide +kernel
theorem dX0_automaticSample_67 : decode cX0_automaticSample 67 = .ok (.lload 7, 2) := by decide +kernel
theorem dX0_automaticSample_69 : decode cX0_automaticSample 69 = .ok (.invokevirtual 77, 3) := by decide +kernel
theorem dX0_automaticSample_72 : decode cX0_automaticSample 72 = .ok (.lstore 9, 2) := by decide +kernel
theorem dX0_automaticSample_74 : decode cX0_automaticSample 74 = .ok (.lload 9, 2) := by decide +kernel
theorem dX0_automaticSample_76 : decode cX0_automaticSample 76 = .ok (.lload 7, 2) := by decide +kernel
theorem dX0_automaticSample_78 : decode cX0_automaticSample 78 = .ok (.lcmp, 1) := by decide +kernel
theorem dX0_automaticSample_79 : decode cX0_automaticSample 79 = .ok (.ifCond .eq 13, 3) := by decide +kernel
theorem dX0_automaticSample_82 : decode cX0_automaticSample 82 = .ok (.aload_n 0, 1) := by decide +kernel
theorem dX0_automaticSample_83 : decode cX0_automaticSample 83 = .ok (.dup, 1) := by decide +kernel
theorem dX0_automaticSample_84 : decode cX0_automaticSample 84 = .ok (.getfield 81, 3) := by decide +kernel
theorem dX0_automaticSample_87 : decode cX0_automaticSample 87 = .ok (.iconst 1, 1) := by decide +kernel
theorem dX0_automaticSample_88 : decode cX0_automaticSample 88 = .ok (.iadd, 1) := by decide +kernel
theorem dX0_automaticSample_89 : decode cX0_automaticSample 89 = .ok (.putfield 81, 3) := by decide +kernel
theorem dX0_automaticSample_92 : decode cX0_automaticSample 92 = .ok (.aload_n 0, 1) := by decide +kernel
theorem dX0_automaticSample_93 : decode cX0_automaticSample 93 = .ok (.lload_n 1, 1) := by decide +kernel
theorem dX0_automaticSample_94 : decode cX0_automaticSample 94 = .ok (.lload 7, 2) := by decide +kernel
theorem dX0_automaticSample_96 : decode cX0_automaticSample 96 = .ok (.lload 9, 2) := by decide +kernel
theorem dX0_automaticSample_98 : decode cX0_automaticSample 98 = .ok (.invokevirtual 84, 3) := by decide +kernel
theorem dX0_automaticSample_101 : decode cX0_automaticSample 101 = .ok (.lload 9, 2) := by decide +kernel
theorem dX0_automaticSample_103 : decode cX0_automaticSample 103 = .ok (.lreturn, 1) := by decide +kernel
theorem dX0_countIncrements_0 : decode cX0_countIncrements 0 = .ok (.aload_n 0, 1) := by decide +kernel
theorem dX0_countIncrements_1 : decode cX0_countIncrements 1 = .ok (.getfield 63, 3) := by decide +kernel
theorem dX0_countIncrements_4 : decode cX0_countIncrements 4 = .ok (.ifCond .eq 48, 3) := by decide +kernel
theorem dX0_countIncrements_7 : decode cX0_countIncrements 7 = .ok (.aload_n 0, 1) := by decide +kernel
theorem dX0_countIncrements_8 : decode cX0_countIncrements 8 = .ok (.dup, 1) := by decide +kernel
theorem dX0_countIncrements_9 : decode cX0_countIncrements 9 = .ok (.getfield 87, 3) := by decide +kernel
theorem dX0_countIncrements_12 : decode cX0_countIncrements 12 = .ok (.aload_n 0, 1) := by decide +kernel
theorem dX0_countIncrements_13 : decode cX0_countIncrements 13 = .ok (.getfield 7, 3) := by decide +kernel
theorem dX0_countIncrements_16 : decode cX0_countIncrements 16 = .ok (.i2l, 1) := by decide +kernel
theorem dX0_countIncrements_17 : decode cX0_countIncrements 17 = .ok (.lload_n 1, 1) := by decide +kernel
theorem dX0_countIncrements_18 : decode cX0_countIncrements 18 = .ok (.aload_n 0, 1) := by decide +kernel
theorem dX0_countIncrements_19 : decode cX0_countIncrements 19 = .ok (.getfield 90, 3) := by decide +kernel
theorem dX0_countIncrements_22 : decode cX0_countIncrements 22 = .ok (.lsub, 1) := by decide +kernel
theorem dX0_countIncrements_23 : decode cX0_countIncrements 23 = .ok (.lmul, 1) := by decide +kernel
theorem dX0_countIncrements_24 : decode cX0_countIncrements 24 = .ok (.aload_n 0, 1) := by decide +kernel
theorem dX0_countIncrements_25 : decode cX0_countIncrements 25 = .ok (.getfield 13, 3) := by decide +kernel
theorem dX0_countIncrements_28 : decode cX0_countIncrements 28 = .ok (.i2l, 1) := by decide +kernel
theorem dX0_countIncrements_29 : decode cX0_countIncrements 29 = .ok (.lload_n 1, 1) := by decide +kernel
theorem dX0_countIncrements_30 : decode cX0_countIncrements 30 = .ok (.lmul, 1) := by decide +kernel
theorem dX0_countIncrements_31 : decode cX0_countIncrements 31 = .ok (.ladd, 1) := by decide +kernel
theorem dX0_countIncrements_32 : decode cX0_countIncrements 32 = .ok (.aload_n 0, 1) := by decide +kernel
theorem dX0_countIncrements_33 : decode cX0_countIncrements 33 = .ok (.getfield 55, 3) := by decide +kernel
theorem dX0_countIncrements_36 : decode cX0_countIncrements 36 = .ok (.i2l, 1) := by decide +kernel
theorem dX0_countIncrements_37 : decode cX0_countIncrements 37 = .ok (.lload_n 3, 1) := by decide +kernel
theorem dX0_countIncrements_38 : decode cX0_countIncrements 38 = .ok (.aload_n 0, 1) := by decide +kernel
theorem dX0_countIncrements_39 : decode cX0_countIncrements 39 = .ok (.getfield 93, 3) := by decide +kernel
theorem dX0_countIncrements_42 : decode cX0_countIncrements 42 = .ok (.lsub, 1) := by decide +kernel
theorem dX0_countIncrements_43 : decode cX0_countIncrements 43 = .ok (.lmul, 1) := by decide +kernel
theorem dX0_countIncrements_44 : decode cX0_countIncrements 44 = .ok (.ladd, 1) := by decide +kernel
theorem dX0_countIncrements_45 : decode cX0_countIncrements 45 = .ok (.ladd, 1) := by decide +kernel
theorem dX0_countIncrements_46 : decode cX0_countIncrements 46 = .ok (.putfield 87, 3) := by decide +kernel
theorem dX0_countIncrements_49 : decode cX0_countIncrements 49 = .ok (.goto 9, 3) := by decide +kernel
theorem dX0_countIncrements_52 : decode cX0_countIncrements 52 = .ok (.aload_n 0, 1) := by decide +kernel
theorem dX0_countIncrements_53 : decode cX0_countIncrements 53 = .ok (.lload 5, 2) := by decide +kernel
theorem dX0_countIncrements_55 : decode cX0_countIncrements 55 = .ok (.putfield 87, 3) := by decide +kernel
theorem dX0_countIncrements_58 : decode cX0_countIncrements 58 = .ok (.aload_n 0, 1) := by decide +kernel
theorem dX0_countIncrements_59 : decode cX0_countIncrements 59 = .ok (.lload_n 1, 1) := by decide +kernel
theorem dX0_countIncrements_60 : decode cX0_countIncrements 60 = .ok (.putfield 90, 3) := by decide +kernel
theorem dX0_countIncrements_63 : decode cX0_countIncrements 63 = .ok (.aload_n 0, 1) := by decide +kernel
theorem dX0_countIncrements_64 : decode cX0_countIncrements 64 = .ok (.lload_n 3, 1) := by decide +kernel
theorem dX0_countIncrements_65 : decode cX0_countIncrements 65 = .ok (.putfield 93, 3) := by decide +kernel
theorem dX0_countIncrements_68 : decode cX0_countIncrements 68 = .ok (.aload_n 0, 1) := by decide +kernel
theorem dX0_countIncrements_69 : decode cX0_countIncrements 69 = .ok (.iconst 1, 1) := by decide +kernel
theorem dX0_countIncrements_70 : decode cX0_countIncrements 70 = .ok (.putfield 63, 3) := by decide +kernel
theorem dX0_countIncrements_73 : decode cX0_countIncrements 73 = .ok (.return_, 1) := by decide +kernel
theorem dX0_guardAgainstWindup_0 : decode cX0_guardAgainstWindup 0 = .ok (.aload_n 0, 1) := by decide +kernel
theorem dX0_guardAgainstWindup_1 : decode cX0_guardAgainstWindup 1 = .ok (.getfield 96, 3) := by decide +kernel
theorem dX0_guardAgainstWindup_4 : decode cX0_guardAgainstWindup 4 = .ok (.iconst 1, 1) := by decide +kernel
theorem dX0_guardAgainstWindup_5 : decode cX0_guardAgainstWindup 5 = .ok (.if_icmp .ne 66, 3) := by decide +kernel
theorem dX0_guardAgainstWindup_8 : decode cX0_guardAgainstWindup 8 = .ok (.lload_n 3, 1) := by decide +kernel
theorem dX0_guardAgainstWindup_9 : decode cX0_guardAgainstWindup 9 = .ok (.aload_n 0, 1) := by decide +kernel
theorem dX0_guardAgainstWindup_10 : decode cX0_guardAgainstWindup 10 = .ok (.getfield 17, 3) := by decide +kernel
theorem dX0_guardAgainstWindup_13 : decode cX0_guardAgainstWindup 13 = .ok (.i2l, 1) := by decide +kernel
theorem dX0_guardAgainstWindup_14 : decode cX0_guardAgainstWindup 14 = .ok (.lcmp, 1) := by decide +kernel
theorem dX0_guardAgainstWindup_15 : decode cX0_guardAgainstWindup 15 = .ok (.ifCond .le 9, 3) := by decide +kernel
theorem dX0_guardAgainstWindup_18 : decode cX0_guardAgainstWindup 18 = .ok (.lload_n 1, 1) := by decide +kernel
theorem dX0_guardAgainstWindup_19 : decode cX0_guardAgainstWindup 19 = .ok (.lconst 0, 1) := by decide +kernel
theorem dX0_guardAgainstWindup_20 : decode cX0_guardAgainstWindup 20 = .ok (.lcmp, 1) := by decide +kernel
theorem dX0_guardAgainstWindup_21 : decode cX0_guardAgainstWindup 21 = .ok (.ifCond .gt 19, 3) := by decide +kernel
theorem dX0_guardAgainstWindup_24 : decode cX0_guardAgainstWindup 24 = .ok (.lload_n 3, 1) := by decide +kernel
theorem dX0_guardAgainstWindup_25 : decode cX0_guardAgainstWindup 25 = .ok (.aload_n 0, 1) := by decide +kernel
theorem dX0_guardAgainstWindup_26 : decode cX0_guardAgainstWindup 26 = .ok (.getfield 39, 3) := by decide +kernel
theorem dX0_guardAgainstWindup_29 : decode cX0_guardAgainstWindup 29 = .ok (.i2l, 1) := by decide +kernel
theorem dX0_guardAgainstWindup_30 : decode cX0_guardAgainstWindup 30 = .ok (.lcmp, 1) := by decide +kernel
theorem dX0_guardAgainstWindup_31 : decode cX0_guardAgainstWindup 31 = .ok (.ifCond .ge 13, 3) := by decide +kernel
theorem dX0_guardAgainstWindup_34 : decode cX0_guardAgainstWindup 34 = .ok (.lload_n 1, 1) := by decide +kernel
theorem dX0_guardAgainstWindup_35 : decode cX0_guardAgainstWindup 35 = .ok (.lconst 0, 1) := by decide +kernel
theorem dX0_guardAgainstWindup_36 : decode cX0_guardAgainstWindup 36 = .ok (.lcmp, 1) := by decide +kernel
theorem dX0_guardAgainstWindup_37 : decode cX0_guardAgainstWindup 37 = .ok (.ifCond .ge 7, 3) := by decide +kernel
theorem dX0_guardAgainstWindup_40 : decode cX0_guardAgainstWindup 40 = .ok (.iconst 1, 1) := by decide +kernel
theorem dX0_guardAgainstWindup_41 : decode cX0_guardAgainstWindup 41 = .ok (.goto 4, 3) := by decide +kernel
theorem dX0_guardAgainstWindup_44 : decode cX0_guardAgainstWindup 44 = .ok (.iconst 0, 1) := by decide +kernel
theorem dX0_guardAgainstWindup_45 : decode cX0_guardAgainstWindup 45 = .ok (.istore 7, 2) := by decide +kernel
theorem dX0_guardAgainstWindup_47 : decode cX0_guardAgainstWindup 47 = .ok (.iload 7, 2) := by decide +kernel
theorem dX0_guardAgainstWindup_49 : decode cX0_guardAgainstWindup 49 = .ok (.ifCond .eq 19, 3) := by decide +kernel
theorem dX0_guardAgainstWindup_52 : decode cX0_guardAgainstWindup 52 = .ok (.aload_n 0, 1) := by decide +kernel
theorem dX0_guardAgainstWindup_53 : decode cX0_guardAgainstWindup 53 = .ok (.dup, 1) := by decide +kernel
theorem dX0_guardAgainstWindup_54 : decode cX0_guardAgainstWindup 54 = .ok (.getfield 48, 3) := by decide +kernel
theorem dX0_guardAgainstWindup_57 : decode cX0_guardAgainstWindup 57 = .ok (.aload_n 0, 1) := by decide +kernel
theorem dX0_guardAgainstWindup_58 : decode cX0_guardAgainstWindup 58 = .ok (.getfield 13, 3) := by decide +kernel
theorem dX0_guardAgainstWindup_61 : decode cX0_guardAgainstWindup 61 = .ok (.i2l, 1) := by decide +kernel
theorem dX0_guardAgainstWindup_62 : decode cX0_guardAgainstWindup 62 = .ok (.lload_n 1, 1) := by decide +kernel
theorem dX0_guardAgainstWindup_63 : decode cX0_guardAgainstWindup 63 = .ok (.lmul, 1) := by decide +kernel
theorem dX0_guardAgainstWindup_64 : decode cX0_guardAgainstWindup 64 = .ok (.lsub, 1) := by decide +kernel
theorem dX0_guardAgainstWindup_65 : decode cX0_guardAgainstWindup 65 = .ok (.putfield 48, 3) := by decide +kernel
theorem dX0_guardAgainstWindup_68 : decode cX0_guardAgainstWindup 68 = .ok (.goto 30, 3) := by decide +kernel
theorem dX0_guardAgainstWindup_71 : decode cX0_guardAgainstWindup 71 = .ok (.aload_n 0, 1) := by decide +kernel
theorem dX0_guardAgainstWindup_72 : decode cX0_guardAgainstWindup 72 = .ok (.getfield 96, 3) := by decide +kernel
theorem dX0_guardAgainstWindup_75 : decode cX0_guardAgainstWindup 75 = .ok (.iconst 2, 1) := by decide +kernel
theorem dX0_guardAgainstWindup_76 : decode cX0_guardAgainstWindup 76 = .ok (.if_icmp .ne 22, 3) := by decide +kernel
theorem dX0_guardAgainstWindup_79 : decode cX0_guardAgainstWindup 79 = .ok (.aload_n 0, 1) := by decide +kernel
theorem dX0_guardAgainstWindup_80 : decode cX0_guardAgainstWindup 80 = .ok (.dup, 1) := by decide +kernel
theorem dX0_guardAgainstWindup_81 : decode cX0_guardAgainstWindup 81 = .ok (.getfield 48, 3) := by decide +kernel
theorem dX0_guardAgainstWindup_84 : decode cX0_guardAgainstWindup 84 = .ok (.aload_n 0, 1) := by decide +kernel
theorem dX0_guardAgainstWindup_85 : decode cX0_guardAgainstWindup 85 = .ok (.getfield 20, 3) := by decide +kernel
theorem dX0_guardAgainstWindup_88 : decode cX0_guardAgainstWindup 88 = .ok (.i2l, 1) := by decide +kernel
theorem dX0_guardAgainstWindup_89 : decode cX0_guardAgainstWindup 89 = .ok (.lload 5, 2) := by decide +kernel
theorem dX0_guardAgainstWindup_91 : decode cX0_guardAgainstWindup 91 = .ok (.lload_n 3, 1) := by decide +kernel
theorem dX0_guardAgainstWindup_92 : decode cX0_guardAgainstWindup 92 = .ok (.lsub, 1) := by decide +kernel
theorem dX0_guardAgainstWindup_93 : decode cX0_guardAgainstWindup 93 = .ok (.lmul, 1) := by decide +kernel
theorem dX0_guardAgainstWindup_94 : decode cX0_guardAgainstWindup 94 = .ok (.ladd, 1) := by decide +kernel
theorem dX0_guardAgainstWindup_95 : decode cX0_guardAgainstWindup 95 = .ok (.putfield 48, 3) := by decide +kernel
theorem dX0_guardAgainstWindup_98 : decode cX0_guardAgainstWindup 98 = .ok (.return_, 1) := by decide +kernel
set_option maxRecDepth 20000 in
theorem ggX1_init_X2_init : GoodIn wsX1_init wsX2_init := goodIn_r _ [22, 23, 2, 3, 24, 25, 26, 27, 49, 50, 51, 52, 53, 54, 55, 56, 57] (by decide +kernel) (by decide +kernel)
set_option maxRecDepth 20000 in
theorem gX1_init_X2_init_n11 : GoodIn wsX1_init (wsX2_init) := ggX1_init_X2_init
set_option maxRecDepth 20000 in
theorem ggX1_init_X0_init : GoodIn wsX1_init wsX0_init := goodIn_r _ [30, 31, 2, 3, 32, 33, 34, 35, 36, 37, 68, 69, 70, 71, 72, 73, 74, 75, 76, 77, 78, 79, 80, 81, 82] (by decide +kernel) (by decide +kernel)
set_option maxRecDepth 20000 in
theorem gX1_init_X0_init : GoodIn wsX1_init (wsX0_init) := ggX1_init_X0_init
set_option maxRecDepth 20000 in
theorem ggX1_init_X4_init : GoodIn wsX1_init wsX4_init := goodIn_r _ [39, 40, 2, 3, 41, 42, 43, 44, 45, 83, 84, 85, 86, 87] (by decide +kernel) (by decide +kernel)
set_option maxRecDepth 20000 in
theorem gX1_init_X4_init_n29 : GoodIn wsX1_init (wsX4_init) := ggX1_init_X4_init
set_option maxRecDepth 20000 in
theorem ggX1_init_X3_init : GoodIn wsX1_init wsX3_init := goodIn_r _ [47, 48, 2, 3] (by decide +kernel) (by decide +kernel)
set_option maxRecDepth 20000 in
theorem gX1_init_X3_init_n36 : GoodIn wsX1_init (wsX3_init) := ggX1_init_X3_init
theorem dX1_init_0 : decode cX1_init 0 = .ok (.aload_n 0, 1) := by decide +kernel
theorem dX1_init_1 : decode cX1_init 1 = .ok (.invokespecial 3, 3) := by decide +kernel
theorem dX1_init_4 : decode cX1_init 4 = .ok (.aload_n 0, 1) := by decide +kernel
theorem dX1_init_5 : decode cX1_init 5 = .ok (.new 9, 3) := by decide +kernel
theorem dX1_init_8 : decode cX1_init 8 = .ok (.dup, 1) := by decide +kernel
theorem dX1_init_9 : decode cX1_init 9 = .ok (.invokespecial 11, 3) := by decide +kernel
theorem dX1_init_12 : decode cX1_init 12 = .ok (.putfield 12, 3) := by decide +kernel
theorem dX1_init_15 : decode cX1_init 15 = .ok (.aload_n 0, 1) := by decide +kernel
theorem dX1_init_16 : decode cX1_init 16 = .ok (.new 18, 3) := by decide +kernel
theorem dX1_init_19 : decode cX1_init 19 = .ok (.dup, 1) := by decide +kernel
theorem dX1_init_20 : decode cX1_init 20 = .ok (.aload_n 0, 1) := by decide +kernel
theorem dX1_init_21 : decode cX1_init 21 = .ok (.getfield 12, 3) := by decide +kernel
theorem dX1_init_24 : decode cX1_init 24 = .ok (.invokespecial 20, 3) := by decide +kernel
theorem dX1_init_27 : decode cX1_init 27 = .ok (.putfield 23, 3) := by decide +kernel
theorem dX1_init_30 : decode cX1_init 30 = .ok (.aload_n 0, 1) := by decide +kernel
theorem dX1_init_31 : decode cX1_init 31 = .ok (.new 27, 3) := by decide +kernel
theorem dX1_init_34 : decode cX1_init 34 = .ok (.dup, 1) := by decide +kernel
theorem dX1_init_35 : decode cX1_init 35 = .ok (.invokespecial 29, 3) := by decide +kernel
theorem dX1_init_38 : decode cX1_init 38 = .ok (.putfield 30, 3) := by decide +kernel
theorem dX1_init_41 : decode cX1_init 41 = .ok (.aload_n 0, 1) := by decide +kernel
theorem dX1_init_42 : decode cX1_init 42 = .ok (.new 34, 3) := by decide +kernel
theorem dX1_init_45 : decode cX1_init 45 = .ok (.dup, 1) := by decide +kernel
theorem dX1_init_46 : decode cX1_init 46 = .ok (.invokespecial 36, 3) := by decide +kernel
theorem dX1_init_49 : decode cX1_init 49 = .ok (.putfield 37, 3) := by decide +kernel
theorem dX1_init_52 : decode cX1_init 52 = .ok (.aload_n 0, 1) := by decide +kernel
theorem dX1_init_53 : decode cX1_init 53 = .ok (.iconst 0, 1) := by decide +kernel
theorem dX1_init_54 : decode cX1_init 54 = .ok (.putfield 41, 3) := by decide +kernel
theorem dX1_init_57 : decode cX1_init 57 = .ok (.return_, 1) := by decide +kernel
set_option maxRecDepth 20000 in
theorem ggX1_changeMode_X1_goToHand : GoodIn wsX1_changeMode wsX1_goToHand := goodIn_r _ [8, 3, 9, 1, 10, 11, 12, 13, 14, 15, 16, 39, 40, 41, 42, 43, 44, 45, 46, 47, 48, 49, 50, 51, 52, 53, 54, 55, 56, 57, 58, 59, 60] (by decide +kernel) (by decide +kernel)
set_option maxRecDepth 20000 in
theorem gX1_changeMode_X1_goToHand : GoodIn wsX1_changeMode (wsV RX1 45 RX1 yX1_goToHand wsX1_goToHand) := goodIn_app (goodIn_of _ (by decide +kernel)) ggX1_changeMode_X1_goToHand
set_option maxRecDepth 20000 in
theorem ggX1_changeMode_X0_settle : GoodIn wsX1_changeMode wsX0_settle := goodIn_r _ [21, 22, 23, 24, 25, 26, 27, 28, 29, 20, 30, 31, 32, 33, 34, 35, 36, 37, 38, 61, 62, 63, 64, 65, 66, 67, 68, 69, 70, 71, 72, 73, 74, 75, 76, 77, 78, 79, 80, 81, 82, 83, 84] (by decide +kernel) (by decide +kernel)
set_option maxRecDepth 20000 in
theorem gX1_changeMode_X0_settle : GoodIn wsX1_changeMode (wsV RX1 52 RX0 yX0_settle wsX0_settle) := goodIn_app (goodIn_of _ (by decide +kernel)) ggX1_changeMode_X0_settle
theorem dX1_changeMode_0 : decode cX1_changeMode 0 = .ok (.iload_n 1, 1) := by decide +kernel
theorem dX1_changeMode_1 : decode cX1_changeMode 1 = .ok (.aload_n 0, 1) := by decide +kernel
theorem dX1_changeMode_2 : decode cX1_changeMode 2 = .ok (.getfield 41, 3) := by decide +kernel
theorem dX1_changeMode_5 : decode cX1_changeMode 5 = .ok (.if_icmp .ne 4, 3) := by decide +kernel
theorem dX1_changeMode_8 : decode cX1_changeMode 8 = .ok (.return_, 1) := by decide +kernel
theorem dX1_changeMode_9 : decode cX1_changeMode 9 = .ok (.iload_n 1, 1) := by decide +kernel
theorem dX1_changeMode_10 : decode cX1_changeMode 10 = .ok (.ifCond .ne 10, 3) := by decide +kernel
theorem dX1_changeMode_13 : decode cX1_changeMode 13 = .ok (.aload_n 0, 1) := by decide +kernel
theorem dX1_changeMode_14 : decode cX1_changeMode 14 = .ok (.invokevirtual 45, 3) := by decide +kernel
theorem dX1_changeMode_17 : decode cX1_changeMode 17 = .ok (.goto 21, 3) := by decide +kernel
theorem dX1_changeMode_20 : decode cX1_changeMode 20 = .ok (.aload_n 0, 1) := by decide +kernel
theorem dX1_changeMode_21 : decode cX1_changeMode 21 = .ok (.getfield 41, 3) := by decide +kernel
theorem dX1_changeMode_24 : decode cX1_changeMode 24 = .ok (.ifCond .ne 14, 3) := by decide +kernel
theorem dX1_changeMode_27 : decode cX1_changeMode 27 = .ok (.aload_n 0, 1) := by decide +kernel
theorem dX1_changeMode_28 : decode cX1_changeMode 28 = .ok (.getfield 23, 3) := by decide +kernel
theorem dX1_changeMode_31 : decode cX1_changeMode 31 = .ok (.aload_n 0, 1) := by decide +kernel
theorem dX1_changeMode_32 : decode cX1_changeMode 32 = .ok (.getfield 48, 3) := by decide +kernel
theorem dX1_changeMode_35 : decode cX1_changeMode 35 = .ok (.invokevirtual 52, 3) := by decide +kernel
theorem dX1_changeMode_38 : decode cX1_changeMode 38 = .ok (.aload_n 0, 1) := by decide +kernel
theorem dX1_changeMode_39 : decode cX1_changeMode 39 = .ok (.iload_n 1, 1) := by decide +kernel
theorem dX1_changeMode_40 : decode cX1_changeMode 40 = .ok (.putfield 41, 3) := by decide +kernel
theorem dX1_changeMode_43 : decode cX1_changeMode 43 = .ok (.return_, 1) := by decide +kernel
set_option maxRecDepth 20000 in
theorem ggX1_goToHand_X3_giveUp : GoodIn wsX1_goToHand wsX3_giveUp := goodIn_r _ [9, 10, 21, 22, 23, 24, 25, 26, 27, 28, 29, 30, 31, 32] (by decide +kernel) (by decide +kernel)
set_option maxRecDepth 20000 in
theorem gX1_goToHand_X3_giveUp : GoodIn wsX1_goToHand (wsV RX1 59 RX3 yX3_giveUp wsX3_giveUp) := goodIn_app (goodIn_of _ (by decide +kernel)) ggX1_goToHand_X3_giveUp
theorem dX1_goToHand_0 : decode cX1_goToHand 0 = .ok (.aload_n 0, 1) := by decide +kernel
theorem dX1_goToHand_1 : decode cX1_goToHand 1 = .ok (.aload_n 0, 1) := by decide +kernel
theorem dX1_goToHand_2 : decode cX1_goToHand 2 = .ok (.getfield 48, 3) := by decide +kernel
theorem dX1_goToHand_5 : decode cX1_goToHand 5 = .ok (.putfield 56, 3) := by decide +kernel
theorem dX1_goToHand_8 : decode cX1_goToHand 8 = .ok (.aload_n 0, 1) := by decide +kernel
theorem dX1_goToHand_9 : decode cX1_goToHand 9 = .ok (.getfield 41, 3) := by decide +kernel
theorem dX1_goToHand_12 : decode cX1_goToHand 12 = .ok (.iconst 3, 1) := by decide +kernel
theorem dX1_goToHand_13 : decode cX1_goToHand 13 = .ok (.if_icmp .ne 10, 3) := by decide +kernel
theorem dX1_goToHand_16 : decode cX1_goToHand 16 = .ok (.aload_n 0, 1) := by decide +kernel
theorem dX1_goToHand_17 : decode cX1_goToHand 17 = .ok (.getfield 37, 3) := by decide +kernel
theorem dX1_goToHand_20 : decode cX1_goToHand 20 = .ok (.invokevirtual 59, 3) := by decide +kernel
theorem dX1_goToHand_23 : decode cX1_goToHand 23 = .ok (.return_, 1) := by decide +kernel
theorem dX1_isStarvedBy_0 : decode cX1_isStarvedBy 0 = .ok (.aload_n 0, 1) := by decide +kernel
theorem dX1_isStarvedBy_1 : decode cX1_isStarvedBy 1 = .ok (.getfield 41, 3) := by decide +kernel
theorem dX1_isStarvedBy_4 : decode cX1_isStarvedBy 4 = .ok (.iconst 1, 1) := by decide +kernel
theorem dX1_isStarvedBy_5 : decode cX1_isStarvedBy 5 = .ok (.if_icmp .eq 11, 3) := by decide +kernel
theorem dX1_isStarvedBy_8 : decode cX1_isStarvedBy 8 = .ok (.aload_n 0, 1) := by decide +kernel
theorem dX1_isStarvedBy_9 : decode cX1_isStarvedBy 9 = .ok (.getfield 41, 3) := by decide +kernel
theorem dX1_isStarvedBy_12 : decode cX1_isStarvedBy 12 = .ok (.iconst 2, 1) := by decide +kernel
theorem dX1_isStarvedBy_13 : decode cX1_isStarvedBy 13 = .ok (.if_icmp .ne 7, 3) := by decide +kernel
theorem dX1_isStarvedBy_16 : decode cX1_isStarvedBy 16 = .ok (.iconst 1, 1) := by decide +kernel
theorem dX1_isStarvedBy_17 : decode cX1_isStarvedBy 17 = .ok (.goto 4, 3) := by decide +kernel
theorem dX1_isStarvedBy_20 : decode cX1_isStarvedBy 20 = .ok (.iconst 0, 1) := by decide +kernel
theorem dX1_isStarvedBy_21 : decode cX1_isStarvedBy 21 = .ok (.istore_n 2, 1) := by decide +kernel
theorem dX1_isStarvedBy_22 : decode cX1_isStarvedBy 22 = .ok (.iload_n 2, 1) := by decide +kernel
theorem dX1_isStarvedBy_23 : decode cX1_isStarvedBy 23 = .ok (.ifCond .eq 22, 3) := by decide +kernel
theorem dX1_isStarvedBy_26 : decode cX1_isStarvedBy 26 = .ok (.aload_n 1, 1) := by decide +kernel
theorem dX1_isStarvedBy_27 : decode cX1_isStarvedBy 27 = .ok (.getfield 62, 3) := by decide +kernel
theorem dX1_isStarvedBy_30 : decode cX1_isStarvedBy 30 = .ok (.ifCond .eq 15, 3) := by decide +kernel
theorem dX1_isStarvedBy_33 : decode cX1_isStarvedBy 33 = .ok (.aload_n 1, 1) := by decide +kernel
theorem dX1_isStarvedBy_34 : decode cX1_isStarvedBy 34 = .ok (.getfield 41, 3) := by decide +kernel
theorem dX1_isStarvedBy_37 : decode cX1_isStarvedBy 37 = .ok (.iconst 2, 1) := by decide +kernel
theorem dX1_isStarvedBy_38 : decode cX1_isStarvedBy 38 = .ok (.if_icmp .eq 7, 3) := by decide +kernel
theorem dX1_isStarvedBy_41 : decode cX1_isStarvedBy 41 = .ok (.iconst 1, 1) := by decide +kernel
theorem dX1_isStarvedBy_42 : decode cX1_isStarvedBy 42 = .ok (.goto 4, 3) := by decide +kernel
theorem dX1_isStarvedBy_45 : decode cX1_isStarvedBy 45 = .ok (.iconst 0, 1) := by decide +kernel
theorem dX1_isStarvedBy_46 : decode cX1_isStarvedBy 46 = .ok (.ireturn, 1) := by decide +kernel
set_option maxRecDepth 20000 in
theorem ggX1_giveWay_X0_withinLimits : GoodIn wsX1_giveWay wsX0_withinLimits := goodIn_r _ [8, 9, 10, 11, 12, 13, 14, 15, 16, 17, 18, 19, 20, 52, 53, 54, 55, 56, 57, 58, 59, 60, 61, 62, 63, 64, 65, 66] (by decide +kernel) (by decide +kernel)
set_option maxRecDepth 20000 in
theorem gX1_giveWay_X0_withinLimits : GoodIn wsX1_giveWay (wsV RX1 69 RX0 yX0_withinLimits wsX0_withinLimits) := goodIn_app (goodIn_of _ (by decide +kernel)) ggX1_giveWay_X0_withinLimits
set_option maxRecDepth 20000 in
theorem ggX1_giveWay_X0_settle : GoodIn wsX1_giveWay wsX0_settle := goodIn_r _ [24, 25, 26, 27, 28, 29, 30, 31, 32, 7, 33, 34, 35, 36, 37, 38, 39, 40, 41, 52, 53, 54, 55, 56, 57, 58, 59, 60, 61, 62, 63, 64, 65, 66, 67, 68, 69, 70, 71, 72, 73, 74, 75] (by decide +kernel) (by decide +kernel)
set_option maxRecDepth 20000 in
theorem gX1_giveWay_X0_settle : GoodIn wsX1_giveWay (wsV RX1 52 RX0 yX0_settle wsX0_settle) := goodIn_app (goodIn_of _ (by decide +kernel)) ggX1_giveWay_X0_settle
theorem dX1_giveWay_0 : decode cX1_giveWay 0 = .ok (.aload_n 0, 1) := by decide +kernel
theorem dX1_giveWay_1 : decode cX1_giveWay 1 = .ok (.iconst 1, 1) := by decide +kernel
theorem dX1_giveWay_2 : decode cX1_giveWay 2 = .ok (.putfield 66, 3) := by decide +kernel
theorem dX1_giveWay_5 : decode cX1_giveWay 5 = .ok (.aload_n 0, 1) := by decide +kernel
theorem dX1_giveWay_6 : decode cX1_giveWay 6 = .ok (.aload_n 0, 1) := by decide +kernel
theorem dX1_giveWay_7 : decode cX1_giveWay 7 = .ok (.getfield 23, 3) := by decide +kernel
theorem dX1_giveWay_10 : decode cX1_giveWay 10 = .ok (.lload_n 1, 1) := by decide +kernel
theorem dX1_giveWay_11 : decode cX1_giveWay 11 = .ok (.invokevirtual 69, 3) := by decide +kernel
theorem dX1_giveWay_14 : decode cX1_giveWay 14 = .ok (.putfield 48, 3) := by decide +kernel
theorem dX1_giveWay_17 : decode cX1_giveWay 17 = .ok (.aload_n 0, 1) := by decide +kernel
theorem dX1_giveWay_18 : decode cX1_giveWay 18 = .ok (.getfield 23, 3) := by decide +kernel
theorem dX1_giveWay_21 : decode cX1_giveWay 21 = .ok (.aload_n 0, 1) := by decide +kernel
theorem dX1_giveWay_22 : decode cX1_giveWay 22 = .ok (.getfield 48, 3) := by decide +kernel
theorem dX1_giveWay_25 : decode cX1_giveWay 25 = .ok (.invokevirtual 52, 3) := by decide +kernel
theorem dX1_giveWay_28 : decode cX1_giveWay 28 = .ok (.return_, 1) := by decide +kernel
set_option maxRecDepth 20000 in
theorem ggX1_actByHand_X0_withinLimits : GoodIn wsX1_actByHand wsX0_withinLimits := goodIn_r _ [12, 13, 14, 15, 16, 17, 18, 19, 20, 21, 22, 23, 24, 44, 45, 46, 47, 48, 49, 50, 51, 52, 53, 54, 55, 56, 57, 58] (by decide +kernel) (by decide +kernel)
set_option maxRecDepth 20000 in
theorem gX1_actByHand_X0_withinLimits : GoodIn wsX1_actByHand (wsV RX1 69 RX0 yX0_withinLimits wsX0_withinLimits) := goodIn_app (goodIn_of _ (by decide +kernel)) ggX1_actByHand_X0_withinLimits
theorem dX1_actByHand_0 : decode cX1_actByHand 0 = .ok (.aload_n 0, 1) := by decide +kernel
theorem dX1_actByHand_1 : decode cX1_actByHand 1 = .ok (.getfield 73, 3) := by decide +kernel
theorem dX1_actByHand_4 : decode cX1_actByHand 4 = .ok (.ifCond .eq 17, 3) := by decide +kernel
theorem dX1_actByHand_7 : decode cX1_actByHand 7 = .ok (.aload_n 0, 1) := by decide +kernel
theorem dX1_actByHand_8 : decode cX1_actByHand 8 = .ok (.getfield 23, 3) := by decide +kernel
theorem dX1_actByHand_11 : decode cX1_actByHand 11 = .ok (.aload_n 0, 1) := by decide +kernel
theorem dX1_actByHand_12 : decode cX1_actByHand 12 = .ok (.getfield 12, 3) := by decide +kernel
theorem dX1_actByHand_15 : decode cX1_actByHand 15 = .ok (.getfield 76, 3) := by decide +kernel
theorem dX1_actByHand_18 : decode cX1_actByHand 18 = .ok (.putfield 79, 3) := by decide +kernel
theorem dX1_actByHand_21 : decode cX1_actByHand 21 = .ok (.aload_n 0, 1) := by decide +kernel
theorem dX1_actByHand_22 : decode cX1_actByHand 22 = .ok (.aload_n 0, 1) := by decide +kernel
theorem dX1_actByHand_23 : decode cX1_actByHand 23 = .ok (.getfield 23, 3) := by decide +kernel
theorem dX1_actByHand_26 : decode cX1_actByHand 26 = .ok (.aload_n 0, 1) := by decide +kernel
theorem dX1_actByHand_27 : decode cX1_actByHand 27 = .ok (.getfield 56, 3) := by decide +kernel
theorem dX1_actByHand_30 : decode cX1_actByHand 30 = .ok (.invokevirtual 69, 3) := by decide +kernel
theorem dX1_actByHand_33 : decode cX1_actByHand 33 = .ok (.putfield 48, 3) := by decide +kernel
theorem dX1_actByHand_36 : decode cX1_actByHand 36 = .ok (.return_, 1) := by decide +kernel
set_option maxRecDepth 20000 in
theorem ggX1_actAutomatically_X4_hasPoints : GoodIn wsX1_actAutomatically wsX4_hasPoints := goodIn_r _ [10, 11, 120, 121, 122, 123, 124] (by decide +kernel) (by decide +kernel)
set_option maxRecDepth 20000 in
theorem gX1_actAutomatically_X4_hasPoints : GoodIn wsX1_actAutomatically (wsV RX1 82 RX4 yX4_hasPoints wsX4_hasPoints) := goodIn_app (goodIn_of _ (by decide +kernel)) ggX1_actAutomatically_X4_hasPoints
set_option maxRecDepth 20000 in
theorem ggX1_actAutomatically_X4_pointsReached : GoodIn wsX1_actAutomatically wsX4_pointsReached := goodIn_r _ [15, 11, 16, 120, 121, 122, 123, 124] (by decide +kernel) (by decide +kernel)
set_option maxRecDepth 20000 in
theorem gX1_actAutomatically_X4_pointsReached : GoodIn wsX1_actAutomatically (wsV RX1 86 RX4 yX4_pointsReached wsX4_pointsReached) := goodIn_app (goodIn_of _ (by decide +kernel)) ggX1_actAutomatically_X4_pointsReached
set_option maxRecDepth 20000 in
theorem ggX1_actAutomatically_X4_pAt : GoodIn wsX1_actAutomatically wsX4_pAt := goodIn_r _ [20, 21, 22, 23, 24, 9, 25, 11, 26, 27, 28, 29, 16, 30, 31, 32, 33, 120, 121, 122, 123, 124] (by decide +kernel) (by decide +kernel)
set_option maxRecDepth 20000 in
theorem gX1_actAutomatically_X4_pAt : GoodIn wsX1_actAutomatically (wsV RX1 90 RX4 yX4_pAt wsX4_pAt) := goodIn_app (goodIn_of _ (by decide +kernel)) ggX1_actAutomatically_X4_pAt
set_option maxRecDepth 20000 in
theorem ggX1_actAutomatically_X4_iAt : GoodIn wsX1_actAutomatically wsX4_iAt := goodIn_r _ [37, 38, 22, 23, 24, 9, 25, 11, 26, 27, 28, 29, 16, 30, 31, 32, 33, 120, 121, 122, 123, 124] (by decide +kernel) (by decide +kernel)
set_option maxRecDepth 20000 in
theorem gX1_actAutomatically_X4_iAt : GoodIn wsX1_actAutomatically (wsV RX1 94 RX4 yX4_iAt wsX4_iAt) := goodIn_app (goodIn_of _ (by decide +kernel)) ggX1_actAutomatically_X4_iAt
set_option maxRecDepth 20000 in
theorem ggX1_actAutomatically_X4_dAt : GoodIn wsX1_actAutomatically wsX4_dAt := goodIn_r _ [42, 43, 22, 23, 24, 9, 25, 11, 26, 27, 28, 29, 16, 30, 31, 32, 33, 120, 121, 122, 123, 124] (by decide +kernel) (by decide +kernel)
set_option maxRecDepth 20000 in
theorem gX1_actAutomatically_X4_dAt : GoodIn wsX1_actAutomatically (wsV RX1 97 RX4 yX4_dAt wsX4_dAt) := goodIn_app (goodIn_of _ (by decide +kernel)) ggX1_actAutomatically_X4_dAt
set_option maxRecDepth 20000 in
theorem ggX1_actAutomatically_X0_changeGains : GoodIn wsX1_actAutomatically wsX0_changeGains := goodIn_r _ [48, 49, 50, 51, 52, 53, 54, 55, 47, 56, 57, 58, 59, 60, 61, 62, 63, 64, 125, 126, 127, 128, 129, 130, 131, 132, 133, 134, 135, 136, 137, 138, 139, 111, 112, 113, 114, 115, 116, 117, 118, 119] (by decide +kernel) (by decide +kernel)
set_option maxRecDepth 20000 in
theorem gX1_actAutomatically_X0_changeGains : GoodIn wsX1_actAutomatically (wsV RX1 100 RX0 yX0_changeGains wsX0_changeGains) := goodIn_app (goodIn_of _ (by decide +kernel)) ggX1_actAutomatically_X0_changeGains
set_option maxRecDepth 20000 in
theorem ggX1_actAutomatically_X0_automaticSample : GoodIn wsX1_actAutomatically wsX0_automaticSample := goodIn_r _ [68, 49, 52, 50, 51, 69, 70, 53, 54, 55, 47, 56, 57, 58, 59, 60, 61, 62, 63, 64, 71, 72, 73, 74, 75, 76, 77, 78, 79, 31, 32, 33, 80, 81, 82, 83, 84, 85, 86, 87, 88, 89, 90, 28, 91, 92, 93, 94, 95, 96, 97, 98, 99, 100, 125, 126, 127, 128, 129, 130, 131, 132, 133, 134, 135, 136, 137, 138, 139, 111, 112, 113, 114, 115, 116, 117, 118, 119] (by decide +kernel) (by decide +kernel)
set_option maxRecDepth 20000 in
theorem gX1_actAutomatically_X0_automaticSample : GoodIn wsX1_actAutomatically (wsV RX1 104 RX0 yX0_automaticSample wsX0_automaticSample) := goodIn_app (goodIn_of _ (by decide +kernel)) ggX1_actAutomatically_X0_automaticSample
theorem dX1_actAutomatically_0 : decode cX1_actAutomatically 0 = .ok (.aload_n 0, 1) := by decide +kernel
theorem dX1_actAutomatically_1 : decode cX1_actAutomatically 1 = .ok (.getfield 30, 3) := by decide +kernel
theorem dX1_actAutomatically_4 : decode cX1_actAutomatically 4 = .ok (.invokevirtual 82, 3) := by decide +kernel
theorem dX1_actAutomatically_7 : decode cX1_actAutomatically 7 = .ok (.ifCond .eq 54, 3) := by decide +kernel
theorem dX1_actAutomatically_10 : decode cX1_actAutomatically 10 = .ok (.aload_n 0, 1) := by decide +kernel
theorem dX1_actAutomatically_11 : decode cX1_actAutomatically 11 = .ok (.getfield 12, 3) := by decide +kernel
theorem dX1_actAutomatically_14 : decode cX1_actAutomatically 14 = .ok (.getfield 76, 3) := by decide +kernel
theorem dX1_actAutomatically_17 : decode cX1_actAutomatically 17 = .ok (.lstore_n 1, 1) := by decide +kernel
theorem dX1_actAutomatically_18 : decode cX1_actAutomatically 18 = .ok (.aload_n 0, 1) := by decide +kernel
theorem dX1_actAutomatically_19 : decode cX1_actAutomatically 19 = .ok (.getfield 30, 3) := by decide +kernel
theorem dX1_actAutomatically_22 : decode cX1_actAutomatically 22 = .ok (.lload_n 1, 1) := by decide +kernel
theorem dX1_actAutomatically_23 : decode cX1_actAutomatically 23 = .ok (.invokevirtual 86, 3) := by decide +kernel
theorem dX1_actAutomatically_26 : decode cX1_actAutomatically 26 = .ok (.istore_n 3, 1) := by decide +kernel
theorem dX1_actAutomatically_27 : decode cX1_actAutomatically 27 = .ok (.aload_n 0, 1) := by decide +kernel
theorem dX1_actAutomatically_28 : decode cX1_actAutomatically 28 = .ok (.getfield 23, 3) := by decide +kernel
theorem dX1_actAutomatically_31 : decode cX1_actAutomatically 31 = .ok (.aload_n 0, 1) := by decide +kernel
theorem dX1_actAutomatically_32 : decode cX1_actAutomatically 32 = .ok (.getfield 30, 3) := by decide +kernel
theorem dX1_actAutomatically_35 : decode cX1_actAutomatically 35 = .ok (.iload_n 3, 1) := by decide +kernel
theorem dX1_actAutomatically_36 : decode cX1_actAutomatically 36 = .ok (.lload_n 1, 1) := by decide +kernel
theorem dX1_actAutomatically_37 : decode cX1_actAutomatically 37 = .ok (.invokevirtual 90, 3) := by decide +kernel
theorem dX1_actAutomatically_40 : decode cX1_actAutomatically 40 = .ok (.aload_n 0, 1) := by decide +kernel
theorem dX1_actAutomatically_41 : decode cX1_actAutomatically 41 = .ok (.getfield 30, 3) := by decide +kernel
theorem dX1_actAutomatically_44 : decode cX1_actAutomatically 44 = .ok (.iload_n 3, 1) := by decide +kernel
theorem dX1_actAutomatically_45 : decode cX1_actAutomatically 45 = .ok (.lload_n 1, 1) := by decide +kernel
theorem dX1_actAutomatically_46 : decode cX1_actAutomatically 46 = .ok (.invokevirtual 94, 3) := by decide +kernel
theorem dX1_actAutomatically_49 : decode cX1_actAutomatically 49 = .ok (.aload_n 0, 1) := by decide +kernel
theorem dX1_actAutomatically_50 : decode cX1_actAutomatically 50 = .ok (.getfield 30, 3) := by decide +kernel
theorem dX1_actAutomatically_53 : decode cX1_actAutomatically 53 = .ok (.iload_n 3, 1) := by decide +kernel
theorem dX1_actAutomatically_54 : decode cX1_actAutomatically 54 = .ok (.lload_n 1, 1) := by decide +kernel
theorem dX1_actAutomatically_55 : decode cX1_actAutomatically 55 = .ok (.invokevirtual 97, 3) := by decide +kernel
theorem dX1_actAutomatically_58 : decode cX1_actAutomatically 58 = .ok (.invokevirtual 100, 3) := by decide +kernel
theorem dX1_actAutomatically_61 : decode cX1_actAutomatically 61 = .ok (.aload_n 0, 1) := by decide +kernel
theorem dX1_actAutomatically_62 : decode cX1_actAutomatically 62 = .ok (.aload_n 0, 1) := by decide +kernel
theorem dX1_actAutomatically_63 : decode cX1_actAutomatically 63 = .ok (.getfield 23, 3) := by decide +kernel
theorem dX1_actAutomatically_66 : decode cX1_actAutomatically 66 = .ok (.invokevirtual 104, 3) := by decide +kernel
theorem dX1_actAutomatically_69 : decode cX1_actAutomatically 69 = .ok (.putfield 48, 3) := by decide +kernel
theorem dX1_actAutomatically_72 : decode cX1_actAutomatically 72 = .ok (.return_, 1) := by decide +kernel
set_option maxRecDepth 20000 in
theorem ggX1_actAsRelay_X0_error : GoodIn wsX1_actAsRelay wsX0_error := goodIn_r _ [13, 14, 15, 16, 106, 107, 108, 109, 110, 111, 112, 113, 114, 115, 116, 117, 118, 119, 120, 85, 86, 87, 88, 89, 90, 91, 92, 93] (by decide +kernel) (by decide +kernel)
set_option maxRecDepth 20000 in
theorem gX1_actAsRelay_X0_error : GoodIn wsX1_actAsRelay (wsV RX1 108 RX0 yX0_error wsX0_error) := goodIn_app (goodIn_of _ (by decide +kernel)) ggX1_actAsRelay_X0_error
set_option maxRecDepth 20000 in
theorem ggX1_actAsRelay_X3_sample : GoodIn wsX1_actAsRelay wsX3_sample := goodIn_r _ [21, 22, 23, 24, 25, 26, 27, 28, 29, 30, 31, 32, 33, 34, 35, 36, 37, 20, 38, 39, 40, 41, 42, 94, 95, 96, 97, 98, 99, 100, 101, 102, 103, 104, 105] (by decide +kernel) (by decide +kernel)
set_option maxRecDepth 20000 in
theorem gX1_actAsRelay_X3_sample : GoodIn wsX1_actAsRelay (wsV RX1 111 RX3 yX3_sample wsX3_sample) := goodIn_app (goodIn_of _ (by decide +kernel)) ggX1_actAsRelay_X3_sample
set_option maxRecDepth 20000 in
theorem ggX1_actAsRelay_X3_wanted : GoodIn wsX1_actAsRelay wsX3_wanted := goodIn_r _ [46, 23, 47, 48, 94, 95, 96, 97, 98, 99, 100, 101, 102, 103, 104, 105] (by decide +kernel) (by decide +kernel)
set_option maxRecDepth 20000 in
theorem gX1_actAsRelay_X3_wanted : GoodIn wsX1_actAsRelay (wsV RX1 115 RX3 yX3_wanted wsX3_wanted) := goodIn_app (goodIn_of _ (by decide +kernel)) ggX1_actAsRelay_X3_wanted
set_option maxRecDepth 20000 in
theorem ggX1_actAsRelay_X0_withinLimits : GoodIn wsX1_actAsRelay wsX0_withinLimits := goodIn_r _ [52, 53, 54, 55, 56, 57, 58, 32, 28, 33, 59, 27, 29, 106, 107, 108, 109, 110, 111, 112, 113, 114, 115, 116, 117, 118, 119, 120] (by decide +kernel) (by decide +kernel)
set_option maxRecDepth 20000 in
theorem gX1_actAsRelay_X0_withinLimits : GoodIn wsX1_actAsRelay (wsV RX1 69 RX0 yX0_withinLimits wsX0_withinLimits) := goodIn_app (goodIn_of _ (by decide +kernel)) ggX1_actAsRelay_X0_withinLimits
set_option maxRecDepth 20000 in
theorem ggX1_actAsRelay_X0_settle : GoodIn wsX1_actAsRelay wsX0_settle := goodIn_r _ [63, 64, 65, 66, 67, 68, 69, 10, 11, 12, 13, 14, 15, 16, 70, 71, 72, 73, 74, 106, 107, 108, 109, 110, 111, 112, 113, 114, 115, 116, 117, 118, 119, 120, 85, 86, 87, 88, 89, 90, 91, 92, 93] (by decide +kernel) (by decide +kernel)
set_option maxRecDepth 20000 in
theorem gX1_actAsRelay_X0_settle : GoodIn wsX1_actAsRelay (wsV RX1 52 RX0 yX0_settle wsX0_settle) := goodIn_app (goodIn_of _ (by decide +kernel)) ggX1_actAsRelay_X0_settle
theorem dX1_actAsRelay_0 : decode cX1_actAsRelay 0 = .ok (.aload_n 0, 1) := by decide +kernel
theorem dX1_actAsRelay_1 : decode cX1_actAsRelay 1 = .ok (.getfield 37, 3) := by decide +kernel
theorem dX1_actAsRelay_4 : decode cX1_actAsRelay 4 = .ok (.aload_n 0, 1) := by decide +kernel
theorem dX1_actAsRelay_5 : decode cX1_actAsRelay 5 = .ok (.getfield 23, 3) := by decide +kernel
theorem dX1_actAsRelay_8 : decode cX1_actAsRelay 8 = .ok (.invokevirtual 108, 3) := by decide +kernel
theorem dX1_actAsRelay_11 : decode cX1_actAsRelay 11 = .ok (.aload_n 0, 1) := by decide +kernel
theorem dX1_actAsRelay_12 : decode cX1_actAsRelay 12 = .ok (.getfield 12, 3) := by decide +kernel
theorem dX1_actAsRelay_15 : decode cX1_actAsRelay 15 = .ok (.getfield 76, 3) := by decide +kernel
theorem dX1_actAsRelay_18 : decode cX1_actAsRelay 18 = .ok (.invokevirtual 111, 3) := by decide +kernel
theorem dX1_actAsRelay_21 : decode cX1_actAsRelay 21 = .ok (.aload_n 0, 1) := by decide +kernel
theorem dX1_actAsRelay_22 : decode cX1_actAsRelay 22 = .ok (.aload_n 0, 1) := by decide +kernel
theorem dX1_actAsRelay_23 : decode cX1_actAsRelay 23 = .ok (.getfield 23, 3) := by decide +kernel
theorem dX1_actAsRelay_26 : decode cX1_actAsRelay 26 = .ok (.aload_n 0, 1) := by decide +kernel
theorem dX1_actAsRelay_27 : decode cX1_actAsRelay 27 = .ok (.getfield 37, 3) := by decide +kernel
theorem dX1_actAsRelay_30 : decode cX1_actAsRelay 30 = .ok (.invokevirtual 115, 3) := by decide +kernel
theorem dX1_actAsRelay_33 : decode cX1_actAsRelay 33 = .ok (.invokevirtual 69, 3) := by decide +kernel
theorem dX1_actAsRelay_36 : decode cX1_actAsRelay 36 = .ok (.putfield 48, 3) := by decide +kernel
theorem dX1_actAsRelay_39 : decode cX1_actAsRelay 39 = .ok (.aload_n 0, 1) := by decide +kernel
theorem dX1_actAsRelay_40 : decode cX1_actAsRelay 40 = .ok (.getfield 37, 3) := by decide +kernel
theorem dX1_actAsRelay_43 : decode cX1_actAsRelay 43 = .ok (.getfield 118, 3) := by decide +kernel
theorem dX1_actAsRelay_46 : decode cX1_actAsRelay 46 = .ok (.iconst 1, 1) := by decide +kernel
theorem dX1_actAsRelay_47 : decode cX1_actAsRelay 47 = .ok (.if_icmp .eq 22, 3) := by decide +kernel
theorem dX1_actAsRelay_50 : decode cX1_actAsRelay 50 = .ok (.aload_n 0, 1) := by decide +kernel
theorem dX1_actAsRelay_51 : decode cX1_actAsRelay 51 = .ok (.getfield 23, 3) := by decide +kernel
theorem dX1_actAsRelay_54 : decode cX1_actAsRelay 54 = .ok (.aload_n 0, 1) := by decide +kernel
theorem dX1_actAsRelay_55 : decode cX1_actAsRelay 55 = .ok (.getfield 37, 3) := by decide +kernel
theorem dX1_actAsRelay_58 : decode cX1_actAsRelay 58 = .ok (.getfield 121, 3) := by decide +kernel
theorem dX1_actAsRelay_61 : decode cX1_actAsRelay 61 = .ok (.invokevirtual 52, 3) := by decide +kernel
theorem dX1_actAsRelay_64 : decode cX1_actAsRelay 64 = .ok (.aload_n 0, 1) := by decide +kernel
theorem dX1_actAsRelay_65 : decode cX1_actAsRelay 65 = .ok (.iconst 1, 1) := by decide +kernel
theorem dX1_actAsRelay_66 : decode cX1_actAsRelay 66 = .ok (.putfield 41, 3) := by decide +kernel
theorem dX1_actAsRelay_69 : decode cX1_actAsRelay 69 = .ok (.return_, 1) := by decide +kernel
theorem dX2_init_0 : decode cX2_init 0 = .ok (.aload_n 0, 1) := by decide +kernel
theorem dX2_init_1 : decode cX2_init 1 = .ok (.invokespecial 3, 3) := by decide +kernel
theorem dX2_init_4 : decode cX2_init 4 = .ok (.aload_n 0, 1) := by decide +kernel
theorem dX2_init_5 : decode cX2_init 5 = .ok (.sipush 800, 3) := by decide +kernel
theorem dX2_init_8 : decode cX2_init 8 = .ok (.putfield 9, 3) := by decide +kernel
theorem dX2_init_11 : decode cX2_init 11 = .ok (.aload_n 0, 1) := by decide +kernel
theorem dX2_init_12 : decode cX2_init 12 = .ok (.sipush 200, 3) := by decide +kernel
theorem dX2_init_15 : decode cX2_init 15 = .ok (.putfield 15, 3) := by decide +kernel
theorem dX2_init_18 : decode cX2_init 18 = .ok (.aload_n 0, 1) := by decide +kernel
theorem dX2_init_19 : decode cX2_init 19 = .ok (.bipush 11, 2) := by decide +kernel
theorem dX2_init_21 : decode cX2_init 21 = .ok (.newarray .long, 2) := by decide +kernel
theorem dX2_init_23 : decode cX2_init 23 = .ok (.putfield 18, 3) := by decide +kernel
theorem dX2_init_26 : decode cX2_init 26 = .ok (.return_, 1) := by decide +kernel
set_option maxRecDepth 20000 in
theorem ggX2_goOn_J9_floorMod_7cf53 : GoodIn wsX2_goOn wsJ9_floorMod_7cf53 := goodIn_r _ [16] (by decide +kernel) (by decide +kernel)
set_option maxRecDepth 20000 in
theorem gX2_goOn_J9_floorMod_7cf53 : GoodIn wsX2_goOn (va_wsS RX2 25 yJ9_floorMod_7cf53 wsJ9_floorMod_7cf53) := goodIn_app (goodIn_of _ (by decide +kernel)) ggX2_goOn_J9_floorMod_7cf53
set_option maxRecDepth 20000 in
theorem ggX2_goOn_J9_floorDiv_f86c9 : GoodIn wsX2_goOn wsJ9_floorDiv_f86c9 := goodIn_r _ [19] (by decide +kernel) (by decide +kernel)
set_option maxRecDepth 20000 in
theorem gX2_goOn_J9_floorDiv_f86c9 : GoodIn wsX2_goOn (va_wsS RX2 46 yJ9_floorDiv_f86c9 wsJ9_floorDiv_f86c9) := goodIn_app (goodIn_of _ (by decide +kernel)) ggX2_goOn_J9_floorDiv_f86c9
set_option maxRecDepth 20000 in
theorem ggX2_goOn_X5_hold : GoodIn wsX2_goOn wsX5_hold := goodIn_r _ [22, 23, 24, 25, 26, 27, 28, 29] (by decide +kernel) (by decide +kernel)
set_option maxRecDepth 20000 in
theorem gX2_goOn_X5_hold_n57 : GoodIn wsX2_goOn (wsX5_hold) := ggX2_goOn_X5_hold
theorem dX2_goOn_0 : decode cX2_goOn 0 = .ok (.aload_n 0, 1) := by decide +kernel
theorem dX2_goOn_1 : decode cX2_goOn 1 = .ok (.aload_n 0, 1) := by decide +kernel
theorem dX2_goOn_2 : decode cX2_goOn 2 = .ok (.getfield 22, 3) := by decide +kernel
theorem dX2_goOn_5 : decode cX2_goOn 5 = .ok (.iconst 1, 1) := by decide +kernel
theorem dX2_goOn_6 : decode cX2_goOn 6 = .ok (.iadd, 1) := by decide +kernel
theorem dX2_goOn_7 : decode cX2_goOn 7 = .ok (.bipush 11, 2) := by decide +kernel
theorem dX2_goOn_9 : decode cX2_goOn 9 = .ok (.invokestatic 25, 3) := by decide +kernel
theorem dX2_goOn_12 : decode cX2_goOn 12 = .ok (.putfield 22, 3) := by decide +kernel
theorem dX2_goOn_15 : decode cX2_goOn 15 = .ok (.aload_n 0, 1) := by decide +kernel
theorem dX2_goOn_16 : decode cX2_goOn 16 = .ok (.getfield 18, 3) := by decide +kernel
theorem dX2_goOn_19 : decode cX2_goOn 19 = .ok (.aload_n 0, 1) := by decide +kernel
theorem dX2_goOn_20 : decode cX2_goOn 20 = .ok (.getfield 22, 3) := by decide +kernel
theorem dX2_goOn_23 : decode cX2_goOn 23 = .ok (.lload_n 1, 1) := by decide +kernel
theorem dX2_goOn_24 : decode cX2_goOn 24 = .ok (.lastore, 1) := by decide +kernel
theorem dX2_goOn_25 : decode cX2_goOn 25 = .ok (.aload_n 0, 1) := by decide +kernel
theorem dX2_goOn_26 : decode cX2_goOn 26 = .ok (.getfield 18, 3) := by decide +kernel
theorem dX2_goOn_29 : decode cX2_goOn 29 = .ok (.aload_n 0, 1) := by decide +kernel
theorem dX2_goOn_30 : decode cX2_goOn 30 = .ok (.getfield 22, 3) := by decide +kernel
theorem dX2_goOn_33 : decode cX2_goOn 33 = .ok (.aload_n 0, 1) := by decide +kernel
theorem dX2_goOn_34 : decode cX2_goOn 34 = .ok (.getfield 31, 3) := by decide +kernel
theorem dX2_goOn_37 : decode cX2_goOn 37 = .ok (.isub, 1) := by decide +kernel
theorem dX2_goOn_38 : decode cX2_goOn 38 = .ok (.bipush 11, 2) := by decide +kernel
theorem dX2_goOn_40 : decode cX2_goOn 40 = .ok (.invokestatic 25, 3) := by decide +kernel
theorem dX2_goOn_43 : decode cX2_goOn 43 = .ok (.laload, 1) := by decide +kernel
theorem dX2_goOn_44 : decode cX2_goOn 44 = .ok (.lstore_n 3, 1) := by decide +kernel
theorem dX2_goOn_45 : decode cX2_goOn 45 = .ok (.aload_n 0, 1) := by decide +kernel
theorem dX2_goOn_46 : decode cX2_goOn 46 = .ok (.getfield 9, 3) := by decide +kernel
theorem dX2_goOn_49 : decode cX2_goOn 49 = .ok (.i2l, 1) := by decide +kernel
theorem dX2_goOn_50 : decode cX2_goOn 50 = .ok (.aload_n 0, 1) := by decide +kernel
theorem dX2_goOn_51 : decode cX2_goOn 51 = .ok (.getfield 34, 3) := by decide +kernel
theorem dX2_goOn_54 : decode cX2_goOn 54 = .ok (.lmul, 1) := by decide +kernel
theorem dX2_goOn_55 : decode cX2_goOn 55 = .ok (.aload_n 0, 1) := by decide +kernel
theorem dX2_goOn_56 : decode cX2_goOn 56 = .ok (.getfield 38, 3) := by decide +kernel
theorem dX2_goOn_59 : decode cX2_goOn 59 = .ok (.i2l, 1) := by decide +kernel
theorem dX2_goOn_60 : decode cX2_goOn 60 = .ok (.aload_n 0, 1) := by decide +kernel
theorem dX2_goOn_61 : decode cX2_goOn 61 = .ok (.getfield 41, 3) := by decide +kernel
theorem dX2_goOn_64 : decode cX2_goOn 64 = .ok (.lmul, 1) := by decide +kernel
theorem dX2_goOn_65 : decode cX2_goOn 65 = .ok (.ladd, 1) := by decide +kernel
theorem dX2_goOn_66 : decode cX2_goOn 66 = .ok (.aload_n 0, 1) := by decide +kernel
theorem dX2_goOn_67 : decode cX2_goOn 67 = .ok (.getfield 15, 3) := by decide +kernel
theorem dX2_goOn_70 : decode cX2_goOn 70 = .ok (.i2l, 1) := by decide +kernel
theorem dX2_goOn_71 : decode cX2_goOn 71 = .ok (.lload_n 3, 1) := by decide +kernel
theorem dX2_goOn_72 : decode cX2_goOn 72 = .ok (.lmul, 1) := by decide +kernel
theorem dX2_goOn_73 : decode cX2_goOn 73 = .ok (.ladd, 1) := by decide +kernel
theorem dX2_goOn_74 : decode cX2_goOn 74 = .ok (.ldc2_w 44, 3) := by decide +kernel
theorem dX2_goOn_77 : decode cX2_goOn 77 = .ok (.invokestatic 46, 3) := by decide +kernel
theorem dX2_goOn_80 : decode cX2_goOn 80 = .ok (.lstore 5, 2) := by decide +kernel
theorem dX2_goOn_82 : decode cX2_goOn 82 = .ok (.aload_n 0, 1) := by decide +kernel
theorem dX2_goOn_83 : decode cX2_goOn 83 = .ok (.aload_n 0, 1) := by decide +kernel
theorem dX2_goOn_84 : decode cX2_goOn 84 = .ok (.getfield 34, 3) := by decide +kernel
theorem dX2_goOn_87 : decode cX2_goOn 87 = .ok (.putfield 41, 3) := by decide +kernel
theorem dX2_goOn_90 : decode cX2_goOn 90 = .ok (.aload_n 0, 1) := by decide +kernel
theorem dX2_goOn_91 : decode cX2_goOn 91 = .ok (.lload 5, 2) := by decide +kernel
theorem dX2_goOn_93 : decode cX2_goOn 93 = .ok (.aload_n 0, 1) := by decide +kernel
theorem dX2_goOn_94 : decode cX2_goOn 94 = .ok (.getfield 50, 3) := by decide +kernel
theorem dX2_goOn_97 : decode cX2_goOn 97 = .ok (.i2l, 1) := by decide +kernel
theorem dX2_goOn_98 : decode cX2_goOn 98 = .ok (.ladd, 1) := by decide +kernel
theorem dX2_goOn_99 : decode cX2_goOn 99 = .ok (.ldc2_w 53, 3) := by decide +kernel
theorem dX2_goOn_102 : decode cX2_goOn 102 = .ok (.ldc2_w 55, 3) := by decide +kernel
theorem dX2_goOn_105 : decode cX2_goOn 105 = .ok (.invokestatic 57, 3) := by decide +kernel
theorem dX2_goOn_108 : decode cX2_goOn 108 = .ok (.putfield 34, 3) := by decide +kernel
theorem dX2_goOn_111 : decode cX2_goOn 111 = .ok (.return_, 1) := by decide +kernel
theorem dX3_init_0 : decode cX3_init 0 = .ok (.aload_n 0, 1) := by decide +kernel
theorem dX3_init_1 : decode cX3_init 1 = .ok (.invokespecial 1, 3) := by decide +kernel
theorem dX3_init_4 : decode cX3_init 4 = .ok (.return_, 1) := by decide +kernel
theorem dX3_begin_0 : decode cX3_begin 0 = .ok (.aload_n 0, 1) := by decide +kernel
theorem dX3_begin_1 : decode cX3_begin 1 = .ok (.iconst 1, 1) := by decide +kernel
theorem dX3_begin_2 : decode cX3_begin 2 = .ok (.putfield 9, 3) := by decide +kernel
theorem dX3_begin_5 : decode cX3_begin 5 = .ok (.aload_n 0, 1) := by decide +kernel
theorem dX3_begin_6 : decode cX3_begin 6 = .ok (.lload_n 1, 1) := by decide +kernel
theorem dX3_begin_7 : decode cX3_begin 7 = .ok (.putfield 13, 3) := by decide +kernel
theorem dX3_begin_10 : decode cX3_begin 10 = .ok (.aload_n 0, 1) := by decide +kernel
theorem dX3_begin_11 : decode cX3_begin 11 = .ok (.iload_n 3, 1) := by decide +kernel
theorem dX3_begin_12 : decode cX3_begin 12 = .ok (.putfield 17, 3) := by decide +kernel
theorem dX3_begin_15 : decode cX3_begin 15 = .ok (.aload_n 0, 1) := by decide +kernel
theorem dX3_begin_16 : decode cX3_begin 16 = .ok (.iload 4, 2) := by decide +kernel
theorem dX3_begin_18 : decode cX3_begin 18 = .ok (.putfield 20, 3) := by decide +kernel
theorem dX3_begin_21 : decode cX3_begin 21 = .ok (.aload_n 0, 1) := by decide +kernel
theorem dX3_begin_22 : decode cX3_begin 22 = .ok (.iconst 1, 1) := by decide +kernel
theorem dX3_begin_23 : decode cX3_begin 23 = .ok (.putfield 23, 3) := by decide +kernel
theorem dX3_begin_26 : decode cX3_begin 26 = .ok (.aload_n 0, 1) := by decide +kernel
theorem dX3_begin_27 : decode cX3_begin 27 = .ok (.iconst 0, 1) := by decide +kernel
theorem dX3_begin_28 : decode cX3_begin 28 = .ok (.putfield 27, 3) := by decide +kernel
theorem dX3_begin_31 : decode cX3_begin 31 = .ok (.aload_n 0, 1) := by decide +kernel
theorem dX3_begin_32 : decode cX3_begin 32 = .ok (.iconst 0, 1) := by decide +kernel
theorem dX3_begin_33 : decode cX3_begin 33 = .ok (.putfield 30, 3) := by decide +kernel
theorem dX3_begin_36 : decode cX3_begin 36 = .ok (.return_, 1) := by decide +kernel
theorem dX3_giveUp_0 : decode cX3_giveUp 0 = .ok (.aload_n 0, 1) := by decide +kernel
theorem dX3_giveUp_1 : decode cX3_giveUp 1 = .ok (.iconst 0, 1) := by decide +kernel
theorem dX3_giveUp_2 : decode cX3_giveUp 2 = .ok (.putfield 9, 3) := by decide +kernel
theorem dX3_giveUp_5 : decode cX3_giveUp 5 = .ok (.return_, 1) := by decide +kernel
theorem dX3_wanted_0 : decode cX3_wanted 0 = .ok (.aload_n 0, 1) := by decide +kernel
theorem dX3_wanted_1 : decode cX3_wanted 1 = .ok (.getfield 23, 3) := by decide +kernel
theorem dX3_wanted_4 : decode cX3_wanted 4 = .ok (.ifCond .eq 16, 3) := by decide +kernel
theorem dX3_wanted_7 : decode cX3_wanted 7 = .ok (.aload_n 0, 1) := by decide +kernel
theorem dX3_wanted_8 : decode cX3_wanted 8 = .ok (.getfield 13, 3) := by decide +kernel
theorem dX3_wanted_11 : decode cX3_wanted 11 = .ok (.aload_n 0, 1) := by decide +kernel
theorem dX3_wanted_12 : decode cX3_wanted 12 = .ok (.getfield 17, 3) := by decide +kernel
theorem dX3_wanted_15 : decode cX3_wanted 15 = .ok (.i2l, 1) := by decide +kernel
theorem dX3_wanted_16 : decode cX3_wanted 16 = .ok (.ladd, 1) := by decide +kernel
theorem dX3_wanted_17 : decode cX3_wanted 17 = .ok (.goto 13, 3) := by decide +kernel
theorem dX3_wanted_20 : decode cX3_wanted 20 = .ok (.aload_n 0, 1) := by decide +kernel
theorem dX3_wanted_21 : decode cX3_wanted 21 = .ok (.getfield 13, 3) := by decide +kernel
theorem dX3_wanted_24 : decode cX3_wanted 24 = .ok (.aload_n 0, 1) := by decide +kernel
theorem dX3_wanted_25 : decode cX3_wanted 25 = .ok (.getfield 17, 3) := by decide +kernel
theorem dX3_wanted_28 : decode cX3_wanted 28 = .ok (.i2l, 1) := by decide +kernel
theorem dX3_wanted_29 : decode cX3_wanted 29 = .ok (.lsub, 1) := by decide +kernel
theorem dX3_wanted_30 : decode cX3_wanted 30 = .ok (.lreturn, 1) := by decide +kernel
set_option maxRecDepth 20000 in
theorem ggX3_sample_X3_noteRise : GoodIn wsX3_sample wsX3_noteRise := goodIn_r _ [18, 19, 1, 20, 21, 4, 9, 22, 13, 23, 24, 25, 26, 27, 28, 29, 30, 31, 32, 33, 34] (by decide +kernel) (by decide +kernel)
set_option maxRecDepth 20000 in
theorem gX3_sample_X3_noteRise : GoodIn wsX3_sample (wsV RX3 33 RX3 yX3_noteRise wsX3_noteRise) := goodIn_app (goodIn_of _ (by decide +kernel)) ggX3_sample_X3_noteRise
theorem dX3_sample_0 : decode cX3_sample 0 = .ok (.aload_n 0, 1) := by decide +kernel
theorem dX3_sample_1 : decode cX3_sample 1 = .ok (.dup, 1) := by decide +kernel
theorem dX3_sample_2 : decode cX3_sample 2 = .ok (.getfield 27, 3) := by decide +kernel
theorem dX3_sample_5 : decode cX3_sample 5 = .ok (.iconst 1, 1) := by decide +kernel
theorem dX3_sample_6 : decode cX3_sample 6 = .ok (.iadd, 1) := by decide +kernel
theorem dX3_sample_7 : decode cX3_sample 7 = .ok (.putfield 27, 3) := by decide +kernel
theorem dX3_sample_10 : decode cX3_sample 10 = .ok (.aload_n 0, 1) := by decide +kernel
theorem dX3_sample_11 : decode cX3_sample 11 = .ok (.getfield 23, 3) := by decide +kernel
theorem dX3_sample_14 : decode cX3_sample 14 = .ok (.istore 5, 2) := by decide +kernel
theorem dX3_sample_16 : decode cX3_sample 16 = .ok (.lload_n 1, 1) := by decide +kernel
theorem dX3_sample_17 : decode cX3_sample 17 = .ok (.aload_n 0, 1) := by decide +kernel
theorem dX3_sample_18 : decode cX3_sample 18 = .ok (.getfield 20, 3) := by decide +kernel
theorem dX3_sample_21 : decode cX3_sample 21 = .ok (.i2l, 1) := by decide +kernel
theorem dX3_sample_22 : decode cX3_sample 22 = .ok (.lcmp, 1) := by decide +kernel
theorem dX3_sample_23 : decode cX3_sample 23 = .ok (.ifCond .le 11, 3) := by decide +kernel
theorem dX3_sample_26 : decode cX3_sample 26 = .ok (.aload_n 0, 1) := by decide +kernel
theorem dX3_sample_27 : decode cX3_sample 27 = .ok (.iconst 1, 1) := by decide +kernel
theorem dX3_sample_28 : decode cX3_sample 28 = .ok (.putfield 23, 3) := by decide +kernel
theorem dX3_sample_31 : decode cX3_sample 31 = .ok (.goto 19, 3) := by decide +kernel
theorem dX3_sample_34 : decode cX3_sample 34 = .ok (.lload_n 1, 1) := by decide +kernel
theorem dX3_sample_35 : decode cX3_sample 35 = .ok (.aload_n 0, 1) := by decide +kernel
theorem dX3_sample_36 : decode cX3_sample 36 = .ok (.getfield 20, 3) := by decide +kernel
theorem dX3_sample_39 : decode cX3_sample 39 = .ok (.ineg, 1) := by decide +kernel
theorem dX3_sample_40 : decode cX3_sample 40 = .ok (.i2l, 1) := by decide +kernel
theorem dX3_sample_41 : decode cX3_sample 41 = .ok (.lcmp, 1) := by decide +kernel
theorem dX3_sample_42 : decode cX3_sample 42 = .ok (.ifCond .ge 8, 3) := by decide +kernel
theorem dX3_sample_45 : decode cX3_sample 45 = .ok (.aload_n 0, 1) := by decide +kernel
theorem dX3_sample_46 : decode cX3_sample 46 = .ok (.iconst 0, 1) := by decide +kernel
theorem dX3_sample_47 : decode cX3_sample 47 = .ok (.putfield 23, 3) := by decide +kernel
theorem dX3_sample_50 : decode cX3_sample 50 = .ok (.aload_n 0, 1) := by decide +kernel
theorem dX3_sample_51 : decode cX3_sample 51 = .ok (.getfield 23, 3) := by decide +kernel
theorem dX3_sample_54 : decode cX3_sample 54 = .ok (.ifCond .eq 16, 3) := by decide +kernel
theorem dX3_sample_57 : decode cX3_sample 57 = .ok (.iload 5, 2) := by decide +kernel
theorem dX3_sample_59 : decode cX3_sample 59 = .ok (.ifCond .ne 11, 3) := by decide +kernel
theorem dX3_sample_62 : decode cX3_sample 62 = .ok (.aload_n 0, 1) := by decide +kernel
theorem dX3_sample_63 : decode cX3_sample 63 = .ok (.lload_n 3, 1) := by decide +kernel
theorem dX3_sample_64 : decode cX3_sample 64 = .ok (.invokevirtual 33, 3) := by decide +kernel
theorem dX3_sample_67 : decode cX3_sample 67 = .ok (.goto 27, 3) := by decide +kernel
theorem dX3_sample_70 : decode cX3_sample 70 = .ok (.aload_n 0, 1) := by decide +kernel
theorem dX3_sample_71 : decode cX3_sample 71 = .ok (.aload_n 0, 1) := by decide +kernel
theorem dX3_sample_72 : decode cX3_sample 72 = .ok (.getfield 37, 3) := by decide +kernel
theorem dX3_sample_75 : decode cX3_sample 75 = .ok (.lload_n 3, 1) := by decide +kernel
theorem dX3_sample_76 : decode cX3_sample 76 = .ok (.invokestatic 40, 3) := by decide +kernel
theorem dX3_sample_79 : decode cX3_sample 79 = .ok (.putfield 37, 3) := by decide +kernel
theorem dX3_sample_82 : decode cX3_sample 82 = .ok (.aload_n 0, 1) := by decide +kernel
theorem dX3_sample_83 : decode cX3_sample 83 = .ok (.aload_n 0, 1) := by decide +kernel
theorem dX3_sample_84 : decode cX3_sample 84 = .ok (.getfield 46, 3) := by decide +kernel
theorem dX3_sample_87 : decode cX3_sample 87 = .ok (.lload_n 3, 1) := by decide +kernel
theorem dX3_sample_88 : decode cX3_sample 88 = .ok (.invokestatic 49, 3) := by decide +kernel
theorem dX3_sample_91 : decode cX3_sample 91 = .ok (.putfield 46, 3) := by decide +kernel
theorem dX3_sample_94 : decode cX3_sample 94 = .ok (.aload_n 0, 1) := by decide +kernel
theorem dX3_sample_95 : decode cX3_sample 95 = .ok (.getfield 9, 3) := by decide +kernel
theorem dX3_sample_98 : decode cX3_sample 98 = .ok (.iconst 1, 1) := by decide +kernel
theorem dX3_sample_99 : decode cX3_sample 99 = .ok (.if_icmp .ne 18, 3) := by decide +kernel
theorem dX3_sample_102 : decode cX3_sample 102 = .ok (.aload_n 0, 1) := by decide +kernel
theorem dX3_sample_103 : decode cX3_sample 103 = .ok (.getfield 27, 3) := by decide +kernel
theorem dX3_sample_106 : decode cX3_sample 106 = .ok (.sipush 400, 3) := by decide +kernel
theorem dX3_sample_109 : decode cX3_sample 109 = .ok (.if_icmp .lt 8, 3) := by decide +kernel
theorem dX3_sample_112 : decode cX3_sample 112 = .ok (.aload_n 0, 1) := by decide +kernel
theorem dX3_sample_113 : decode cX3_sample 113 = .ok (.iconst 3, 1) := by decide +kernel
theorem dX3_sample_114 : decode cX3_sample 114 = .ok (.putfield 9, 3) := by decide +kernel
theorem dX3_sample_117 : decode cX3_sample 117 = .ok (.return_, 1) := by decide +kernel
theorem dX3_noteRise_0 : decode cX3_noteRise 0 = .ok (.aload_n 0, 1) := by decide +kernel
theorem dX3_noteRise_1 : decode cX3_noteRise 1 = .ok (.dup, 1) := by decide +kernel
theorem dX3_noteRise_2 : decode cX3_noteRise 2 = .ok (.getfield 30, 3) := by decide +kernel
theorem dX3_noteRise_5 : decode cX3_noteRise 5 = .ok (.iconst 1, 1) := by decide +kernel
theorem dX3_noteRise_6 : decode cX3_noteRise 6 = .ok (.iadd, 1) := by decide +kernel
theorem dX3_noteRise_7 : decode cX3_noteRise 7 = .ok (.putfield 30, 3) := by decide +kernel
theorem dX3_noteRise_10 : decode cX3_noteRise 10 = .ok (.aload_n 0, 1) := by decide +kernel
theorem dX3_noteRise_11 : decode cX3_noteRise 11 = .ok (.getfield 30, 3) := by decide +kernel
theorem dX3_noteRise_14 : decode cX3_noteRise 14 = .ok (.iconst 2, 1) := by decide +kernel
theorem dX3_noteRise_15 : decode cX3_noteRise 15 = .ok (.if_icmp .ne 11, 3) := by decide +kernel
theorem dX3_noteRise_18 : decode cX3_noteRise 18 = .ok (.aload_n 0, 1) := by decide +kernel
theorem dX3_noteRise_19 : decode cX3_noteRise 19 = .ok (.aload_n 0, 1) := by decide +kernel
theorem dX3_noteRise_20 : decode cX3_noteRise 20 = .ok (.getfield 27, 3) := by decide +kernel
theorem dX3_noteRise_23 : decode cX3_noteRise 23 = .ok (.putfield 52, 3) := by decide +kernel
theorem dX3_noteRise_26 : decode cX3_noteRise 26 = .ok (.aload_n 0, 1) := by decide +kernel
theorem dX3_noteRise_27 : decode cX3_noteRise 27 = .ok (.getfield 30, 3) := by decide +kernel
theorem dX3_noteRise_30 : decode cX3_noteRise 30 = .ok (.iconst 4, 1) := by decide +kernel
theorem dX3_noteRise_31 : decode cX3_noteRise 31 = .ok (.if_icmp .lt 36, 3) := by decide +kernel
theorem dX3_noteRise_34 : decode cX3_noteRise 34 = .ok (.aload_n 0, 1) := by decide +kernel
theorem dX3_noteRise_35 : decode cX3_noteRise 35 = .ok (.aload_n 0, 1) := by decide +kernel
theorem dX3_noteRise_36 : decode cX3_noteRise 36 = .ok (.getfield 27, 3) := by decide +kernel
theorem dX3_noteRise_39 : decode cX3_noteRise 39 = .ok (.aload_n 0, 1) := by decide +kernel
theorem dX3_noteRise_40 : decode cX3_noteRise 40 = .ok (.getfield 52, 3) := by decide +kernel
theorem dX3_noteRise_43 : decode cX3_noteRise 43 = .ok (.isub, 1) := by decide +kernel
theorem dX3_noteRise_44 : decode cX3_noteRise 44 = .ok (.iconst 2, 1) := by decide +kernel
theorem dX3_noteRise_45 : decode cX3_noteRise 45 = .ok (.idiv, 1) := by decide +kernel
theorem dX3_noteRise_46 : decode cX3_noteRise 46 = .ok (.putfield 55, 3) := by decide +kernel
theorem dX3_noteRise_49 : decode cX3_noteRise 49 = .ok (.aload_n 0, 1) := by decide +kernel
theorem dX3_noteRise_50 : decode cX3_noteRise 50 = .ok (.aload_n 0, 1) := by decide +kernel
theorem dX3_noteRise_51 : decode cX3_noteRise 51 = .ok (.getfield 37, 3) := by decide +kernel
theorem dX3_noteRise_54 : decode cX3_noteRise 54 = .ok (.aload_n 0, 1) := by decide +kernel
theorem dX3_noteRise_55 : decode cX3_noteRise 55 = .ok (.getfield 46, 3) := by decide +kernel
theorem dX3_noteRise_58 : decode cX3_noteRise 58 = .ok (.lsub, 1) := by decide +kernel
theorem dX3_noteRise_59 : decode cX3_noteRise 59 = .ok (.putfield 58, 3) := by decide +kernel
theorem dX3_noteRise_62 : decode cX3_noteRise 62 = .ok (.aload_n 0, 1) := by decide +kernel
theorem dX3_noteRise_63 : decode cX3_noteRise 63 = .ok (.iconst 2, 1) := by decide +kernel
theorem dX3_noteRise_64 : decode cX3_noteRise 64 = .ok (.putfield 9, 3) := by decide +kernel
theorem dX3_noteRise_67 : decode cX3_noteRise 67 = .ok (.aload_n 0, 1) := by decide +kernel
theorem dX3_noteRise_68 : decode cX3_noteRise 68 = .ok (.lload_n 1, 1) := by decide +kernel
theorem dX3_noteRise_69 : decode cX3_noteRise 69 = .ok (.putfield 37, 3) := by decide +kernel
theorem dX3_noteRise_72 : decode cX3_noteRise 72 = .ok (.aload_n 0, 1) := by decide +kernel
theorem dX3_noteRise_73 : decode cX3_noteRise 73 = .ok (.lload_n 1, 1) := by decide +kernel
theorem dX3_noteRise_74 : decode cX3_noteRise 74 = .ok (.putfield 46, 3) := by decide +kernel
theorem dX3_noteRise_77 : decode cX3_noteRise 77 = .ok (.return_, 1) := by decide +kernel
set_option maxRecDepth 20000 in
theorem ggX3_gainAtTheEdge_J9_floorDiv_f86c9 : GoodIn wsX3_gainAtTheEdge wsJ9_floorDiv_f86c9 := goodIn_r _ [8] (by decide +kernel) (by decide +kernel)
set_option maxRecDepth 20000 in
theorem gX3_gainAtTheEdge_J9_floorDiv_f86c9 : GoodIn wsX3_gainAtTheEdge (va_wsS RX3 65 yJ9_floorDiv_f86c9 wsJ9_floorDiv_f86c9) := goodIn_app (goodIn_of _ (by decide +kernel)) ggX3_gainAtTheEdge_J9_floorDiv_f86c9
theorem dX3_gainAtTheEdge_0 : decode cX3_gainAtTheEdge 0 = .ok (.aload_n 0, 1) := by decide +kernel
theorem dX3_gainAtTheEdge_1 : decode cX3_gainAtTheEdge 1 = .ok (.getfield 58, 3) := by decide +kernel
theorem dX3_gainAtTheEdge_4 : decode cX3_gainAtTheEdge 4 = .ok (.lconst 0, 1) := by decide +kernel
theorem dX3_gainAtTheEdge_5 : decode cX3_gainAtTheEdge 5 = .ok (.lcmp, 1) := by decide +kernel
theorem dX3_gainAtTheEdge_6 : decode cX3_gainAtTheEdge 6 = .ok (.ifCond .le 26, 3) := by decide +kernel
theorem dX3_gainAtTheEdge_9 : decode cX3_gainAtTheEdge 9 = .ok (.ldc2_w 61, 3) := by decide +kernel
theorem dX3_gainAtTheEdge_12 : decode cX3_gainAtTheEdge 12 = .ok (.aload_n 0, 1) := by decide +kernel
theorem dX3_gainAtTheEdge_13 : decode cX3_gainAtTheEdge 13 = .ok (.getfield 17, 3) := by decide +kernel
theorem dX3_gainAtTheEdge_16 : decode cX3_gainAtTheEdge 16 = .ok (.i2l, 1) := by decide +kernel
theorem dX3_gainAtTheEdge_17 : decode cX3_gainAtTheEdge 17 = .ok (.lmul, 1) := by decide +kernel
theorem dX3_gainAtTheEdge_18 : decode cX3_gainAtTheEdge 18 = .ok (.ldc2_w 63, 3) := by decide +kernel
theorem dX3_gainAtTheEdge_21 : decode cX3_gainAtTheEdge 21 = .ok (.aload_n 0, 1) := by decide +kernel
theorem dX3_gainAtTheEdge_22 : decode cX3_gainAtTheEdge 22 = .ok (.getfield 58, 3) := by decide +kernel
theorem dX3_gainAtTheEdge_25 : decode cX3_gainAtTheEdge 25 = .ok (.lmul, 1) := by decide +kernel
theorem dX3_gainAtTheEdge_26 : decode cX3_gainAtTheEdge 26 = .ok (.invokestatic 65, 3) := by decide +kernel
theorem dX3_gainAtTheEdge_29 : decode cX3_gainAtTheEdge 29 = .ok (.goto 4, 3) := by decide +kernel
theorem dX3_gainAtTheEdge_32 : decode cX3_gainAtTheEdge 32 = .ok (.lconst 0, 1) := by decide +kernel
theorem dX3_gainAtTheEdge_33 : decode cX3_gainAtTheEdge 33 = .ok (.lreturn, 1) := by decide +kernel
set_option maxRecDepth 20000 in
theorem ggX3_proposedP_X3_gainAtTheEdge : GoodIn wsX3_proposedP wsX3_gainAtTheEdge := goodIn_r _ [8, 9, 10, 11, 12, 13, 14, 15, 16, 17, 18, 19, 20, 21, 22, 23, 24, 25, 26, 27, 28] (by decide +kernel) (by decide +kernel)
set_option maxRecDepth 20000 in
theorem gX3_proposedP_X3_gainAtTheEdge : GoodIn wsX3_proposedP (wsV RX3 68 RX3 yX3_gainAtTheEdge wsX3_gainAtTheEdge) := goodIn_app (goodIn_of _ (by decide +kernel)) ggX3_proposedP_X3_gainAtTheEdge
theorem dX3_proposedP_0 : decode cX3_proposedP 0 = .ok (.aload_n 0, 1) := by decide +kernel
theorem dX3_proposedP_1 : decode cX3_proposedP 1 = .ok (.invokevirtual 68, 3) := by decide +kernel
theorem dX3_proposedP_4 : decode cX3_proposedP 4 = .ok (.lstore_n 2, 1) := by decide +kernel
theorem dX3_proposedP_5 : decode cX3_proposedP 5 = .ok (.iload_n 1, 1) := by decide +kernel
theorem dX3_proposedP_6 : decode cX3_proposedP 6 = .ok (.ifCond .ne 15, 3) := by decide +kernel
theorem dX3_proposedP_9 : decode cX3_proposedP 9 = .ok (.ldc2_w 72, 3) := by decide +kernel
theorem dX3_proposedP_12 : decode cX3_proposedP 12 = .ok (.lload_n 2, 1) := by decide +kernel
theorem dX3_proposedP_13 : decode cX3_proposedP 13 = .ok (.lmul, 1) := by decide +kernel
theorem dX3_proposedP_14 : decode cX3_proposedP 14 = .ok (.ldc2_w 74, 3) := by decide +kernel
theorem dX3_proposedP_17 : decode cX3_proposedP 17 = .ok (.ldiv, 1) := by decide +kernel
theorem dX3_proposedP_18 : decode cX3_proposedP 18 = .ok (.goto 12, 3) := by decide +kernel
theorem dX3_proposedP_21 : decode cX3_proposedP 21 = .ok (.ldc2_w 74, 3) := by decide +kernel
theorem dX3_proposedP_24 : decode cX3_proposedP 24 = .ok (.lload_n 2, 1) := by decide +kernel
theorem dX3_proposedP_25 : decode cX3_proposedP 25 = .ok (.lmul, 1) := by decide +kernel
theorem dX3_proposedP_26 : decode cX3_proposedP 26 = .ok (.ldc2_w 76, 3) := by decide +kernel
theorem dX3_proposedP_29 : decode cX3_proposedP 29 = .ok (.ldiv, 1) := by decide +kernel
theorem dX3_proposedP_30 : decode cX3_proposedP 30 = .ok (.lreturn, 1) := by decide +kernel
set_option maxRecDepth 20000 in
theorem ggX3_proposedI_X3_gainAtTheEdge : GoodIn wsX3_proposedI wsX3_gainAtTheEdge := goodIn_r _ [10, 11, 12, 13, 14, 15, 16, 17, 18, 19, 20, 21, 22, 23, 24, 25, 26, 27, 28, 29, 30] (by decide +kernel) (by decide +kernel)
set_option maxRecDepth 20000 in
theorem gX3_proposedI_X3_gainAtTheEdge : GoodIn wsX3_proposedI (wsV RX3 68 RX3 yX3_gainAtTheEdge wsX3_gainAtTheEdge) := goodIn_app (goodIn_of _ (by decide +kernel)) ggX3_proposedI_X3_gainAtTheEdge
theorem dX3_proposedI_0 : decode cX3_proposedI 0 = .ok (.aload_n 0, 1) := by decide +kernel
theorem dX3_proposedI_1 : decode cX3_proposedI 1 = .ok (.invokevirtual 68, 3) := by decide +kernel
theorem dX3_proposedI_4 : decode cX3_proposedI 4 = .ok (.lstore_n 2, 1) := by decide +kernel
theorem dX3_proposedI_5 : decode cX3_proposedI 5 = .ok (.aload_n 0, 1) := by decide +kernel
theorem dX3_proposedI_6 : decode cX3_proposedI 6 = .ok (.getfield 55, 3) := by decide +kernel
theorem dX3_proposedI_9 : decode cX3_proposedI 9 = .ok (.ifCond .gt 5, 3) := by decide +kernel
theorem dX3_proposedI_12 : decode cX3_proposedI 12 = .ok (.lconst 0, 1) := by decide +kernel
theorem dX3_proposedI_13 : decode cX3_proposedI 13 = .ok (.lreturn, 1) := by decide +kernel
theorem dX3_proposedI_14 : decode cX3_proposedI 14 = .ok (.iload_n 1, 1) := by decide +kernel
theorem dX3_proposedI_15 : decode cX3_proposedI 15 = .ok (.ifCond .ne 21, 3) := by decide +kernel
theorem dX3_proposedI_18 : decode cX3_proposedI 18 = .ok (.ldc2_w 78, 3) := by decide +kernel
theorem dX3_proposedI_21 : decode cX3_proposedI 21 = .ok (.lload_n 2, 1) := by decide +kernel
theorem dX3_proposedI_22 : decode cX3_proposedI 22 = .ok (.lmul, 1) := by decide +kernel
theorem dX3_proposedI_23 : decode cX3_proposedI 23 = .ok (.ldc2_w 74, 3) := by decide +kernel
theorem dX3_proposedI_26 : decode cX3_proposedI 26 = .ok (.aload_n 0, 1) := by decide +kernel
theorem dX3_proposedI_27 : decode cX3_proposedI 27 = .ok (.getfield 55, 3) := by decide +kernel
theorem dX3_proposedI_30 : decode cX3_proposedI 30 = .ok (.i2l, 1) := by decide +kernel
theorem dX3_proposedI_31 : decode cX3_proposedI 31 = .ok (.lmul, 1) := by decide +kernel
theorem dX3_proposedI_32 : decode cX3_proposedI 32 = .ok (.ldiv, 1) := by decide +kernel
theorem dX3_proposedI_33 : decode cX3_proposedI 33 = .ok (.goto 18, 3) := by decide +kernel
theorem dX3_proposedI_36 : decode cX3_proposedI 36 = .ok (.ldc2_w 80, 3) := by decide +kernel
theorem dX3_proposedI_39 : decode cX3_proposedI 39 = .ok (.lload_n 2, 1) := by decide +kernel
theorem dX3_proposedI_40 : decode cX3_proposedI 40 = .ok (.lmul, 1) := by decide +kernel
theorem dX3_proposedI_41 : decode cX3_proposedI 41 = .ok (.ldc2_w 82, 3) := by decide +kernel
theorem dX3_proposedI_44 : decode cX3_proposedI 44 = .ok (.aload_n 0, 1) := by decide +kernel
theorem dX3_proposedI_45 : decode cX3_proposedI 45 = .ok (.getfield 55, 3) := by decide +kernel
theorem dX3_proposedI_48 : decode cX3_proposedI 48 = .ok (.i2l, 1) := by decide +kernel
theorem dX3_proposedI_49 : decode cX3_proposedI 49 = .ok (.lmul, 1) := by decide +kernel
theorem dX3_proposedI_50 : decode cX3_proposedI 50 = .ok (.ldiv, 1) := by decide +kernel
theorem dX3_proposedI_51 : decode cX3_proposedI 51 = .ok (.lreturn, 1) := by decide +kernel
set_option maxRecDepth 20000 in
theorem ggX3_proposedD_X3_gainAtTheEdge : GoodIn wsX3_proposedD wsX3_gainAtTheEdge := goodIn_r _ [10, 11, 12, 13, 14, 15, 16, 17, 18, 19, 20, 21, 22, 23, 24, 25, 26, 27, 28, 29, 30] (by decide +kernel) (by decide +kernel)
set_option maxRecDepth 20000 in
theorem gX3_proposedD_X3_gainAtTheEdge : GoodIn wsX3_proposedD (wsV RX3 68 RX3 yX3_gainAtTheEdge wsX3_gainAtTheEdge) := goodIn_app (goodIn_of _ (by decide +kernel)) ggX3_proposedD_X3_gainAtTheEdge
theorem dX3_proposedD_0 : decode cX3_proposedD 0 = .ok (.aload_n 0, 1) := by decide +kernel
theorem dX3_proposedD_1 : decode cX3_proposedD 1 = .ok (.invokevirtual 68, 3) := by decide +kernel
theorem dX3_proposedD_4 : decode cX3_proposedD 4 = .ok (.lstore_n 2, 1) := by decide +kernel
theorem dX3_proposedD_5 : decode cX3_proposedD 5 = .ok (.iload_n 1, 1) := by decide +kernel
theorem dX3_proposedD_6 : decode cX3_proposedD 6 = .ok (.ifCond .ne 21, 3) := by decide +kernel
theorem dX3_proposedD_9 : decode cX3_proposedD 9 = .ok (.ldc2_w 84, 3) := by decide +kernel
theorem dX3_proposedD_12 : decode cX3_proposedD 12 = .ok (.lload_n 2, 1) := by decide +kernel
theorem dX3_proposedD_13 : decode cX3_proposedD 13 = .ok (.lmul, 1) := by decide +kernel
theorem dX3_proposedD_14 : decode cX3_proposedD 14 = .ok (.aload_n 0, 1) := by decide +kernel
theorem dX3_proposedD_15 : decode cX3_proposedD 15 = .ok (.getfield 55, 3) := by decide +kernel
theorem dX3_proposedD_18 : decode cX3_proposedD 18 = .ok (.i2l, 1) := by decide +kernel
theorem dX3_proposedD_19 : decode cX3_proposedD 19 = .ok (.lmul, 1) := by decide +kernel
theorem dX3_proposedD_20 : decode cX3_proposedD 20 = .ok (.ldc2_w 86, 3) := by decide +kernel
theorem dX3_proposedD_23 : decode cX3_proposedD 23 = .ok (.ldiv, 1) := by decide +kernel
theorem dX3_proposedD_24 : decode cX3_proposedD 24 = .ok (.goto 18, 3) := by decide +kernel
theorem dX3_proposedD_27 : decode cX3_proposedD 27 = .ok (.ldc2_w 80, 3) := by decide +kernel
theorem dX3_proposedD_30 : decode cX3_proposedD 30 = .ok (.lload_n 2, 1) := by decide +kernel
theorem dX3_proposedD_31 : decode cX3_proposedD 31 = .ok (.lmul, 1) := by decide +kernel
theorem dX3_proposedD_32 : decode cX3_proposedD 32 = .ok (.aload_n 0, 1) := by decide +kernel
theorem dX3_proposedD_33 : decode cX3_proposedD 33 = .ok (.getfield 55, 3) := by decide +kernel
theorem dX3_proposedD_36 : decode cX3_proposedD 36 = .ok (.i2l, 1) := by decide +kernel
theorem dX3_proposedD_37 : decode cX3_proposedD 37 = .ok (.lmul, 1) := by decide +kernel
theorem dX3_proposedD_38 : decode cX3_proposedD 38 = .ok (.ldc2_w 88, 3) := by decide +kernel
theorem dX3_proposedD_41 : decode cX3_proposedD 41 = .ok (.ldiv, 1) := by decide +kernel
theorem dX3_proposedD_42 : decode cX3_proposedD 42 = .ok (.lreturn, 1) := by decide +kernel
theorem dX4_init_0 : decode cX4_init 0 = .ok (.aload_n 0, 1) := by decide +kernel
theorem dX4_init_1 : decode cX4_init 1 = .ok (.invokespecial 1, 3) := by decide +kernel
theorem dX4_init_4 : decode cX4_init 4 = .ok (.aload_n 0, 1) := by decide +kernel
theorem dX4_init_5 : decode cX4_init 5 = .ok (.iconst 5, 1) := by decide +kernel
theorem dX4_init_6 : decode cX4_init 6 = .ok (.newarray .int, 2) := by decide +kernel
theorem dX4_init_8 : decode cX4_init 8 = .ok (.putfield 9, 3) := by decide +kernel
theorem dX4_init_11 : decode cX4_init 11 = .ok (.aload_n 0, 1) := by decide +kernel
theorem dX4_init_12 : decode cX4_init 12 = .ok (.iconst 5, 1) := by decide +kernel
theorem dX4_init_13 : decode cX4_init 13 = .ok (.newarray .int, 2) := by decide +kernel
theorem dX4_init_15 : decode cX4_init 15 = .ok (.putfield 13, 3) := by decide +kernel
theorem dX4_init_18 : decode cX4_init 18 = .ok (.aload_n 0, 1) := by decide +kernel
theorem dX4_init_19 : decode cX4_init 19 = .ok (.iconst 5, 1) := by decide +kernel
theorem dX4_init_20 : decode cX4_init 20 = .ok (.newarray .int, 2) := by decide +kernel
theorem dX4_init_22 : decode cX4_init 22 = .ok (.putfield 16, 3) := by decide +kernel
theorem dX4_init_25 : decode cX4_init 25 = .ok (.aload_n 0, 1) := by decide +kernel
theorem dX4_init_26 : decode cX4_init 26 = .ok (.iconst 5, 1) := by decide +kernel
theorem dX4_init_27 : decode cX4_init 27 = .ok (.newarray .int, 2) := by decide +kernel
theorem dX4_init_29 : decode cX4_init 29 = .ok (.putfield 19, 3) := by decide +kernel
theorem dX4_init_32 : decode cX4_init 32 = .ok (.return_, 1) := by decide +kernel
theorem dX4_hasPoints_0 : decode cX4_hasPoints 0 = .ok (.aload_n 0, 1) := by decide +kernel
theorem dX4_hasPoints_1 : decode cX4_hasPoints 1 = .ok (.getfield 22, 3) := by decide +kernel
theorem dX4_hasPoints_4 : decode cX4_hasPoints 4 = .ok (.ifCond .le 7, 3) := by decide +kernel
theorem dX4_hasPoints_7 : decode cX4_hasPoints 7 = .ok (.iconst 1, 1) := by decide +kernel
theorem dX4_hasPoints_8 : decode cX4_hasPoints 8 = .ok (.goto 4, 3) := by decide +kernel
theorem dX4_hasPoints_11 : decode cX4_hasPoints 11 = .ok (.iconst 0, 1) := by decide +kernel
theorem dX4_hasPoints_12 : decode cX4_hasPoints 12 = .ok (.ireturn, 1) := by decide +kernel
theorem dX4_isFull_0 : decode cX4_isFull 0 = .ok (.aload_n 0, 1) := by decide +kernel
theorem dX4_isFull_1 : decode cX4_isFull 1 = .ok (.getfield 22, 3) := by decide +kernel
theorem dX4_isFull_4 : decode cX4_isFull 4 = .ok (.iconst 5, 1) := by decide +kernel
theorem dX4_isFull_5 : decode cX4_isFull 5 = .ok (.if_icmp .lt 7, 3) := by decide +kernel
theorem dX4_isFull_8 : decode cX4_isFull 8 = .ok (.iconst 1, 1) := by decide +kernel
theorem dX4_isFull_9 : decode cX4_isFull 9 = .ok (.goto 4, 3) := by decide +kernel
theorem dX4_isFull_12 : decode cX4_isFull 12 = .ok (.iconst 0, 1) := by decide +kernel
theorem dX4_isFull_13 : decode cX4_isFull 13 = .ok (.ireturn, 1) := by decide +kernel
theorem dX4_endsBelow_0 : decode cX4_endsBelow 0 = .ok (.aload_n 0, 1) := by decide +kernel
theorem dX4_endsBelow_1 : decode cX4_endsBelow 1 = .ok (.getfield 22, 3) := by decide +kernel
theorem dX4_endsBelow_4 : decode cX4_endsBelow 4 = .ok (.ifCond .le 26, 3) := by decide +kernel
theorem dX4_endsBelow_7 : decode cX4_endsBelow 7 = .ok (.aload_n 0, 1) := by decide +kernel
theorem dX4_endsBelow_8 : decode cX4_endsBelow 8 = .ok (.getfield 22, 3) := by decide +kernel
theorem dX4_endsBelow_11 : decode cX4_endsBelow 11 = .ok (.iconst 5, 1) := by decide +kernel
theorem dX4_endsBelow_12 : decode cX4_endsBelow 12 = .ok (.if_icmp .gt 18, 3) := by decide +kernel
theorem dX4_endsBelow_15 : decode cX4_endsBelow 15 = .ok (.aload_n 0, 1) := by decide +kernel
theorem dX4_endsBelow_16 : decode cX4_endsBelow 16 = .ok (.getfield 9, 3) := by decide +kernel
theorem dX4_endsBelow_19 : decode cX4_endsBelow 19 = .ok (.aload_n 0, 1) := by decide +kernel
theorem dX4_endsBelow_20 : decode cX4_endsBelow 20 = .ok (.getfield 22, 3) := by decide +kernel
theorem dX4_endsBelow_23 : decode cX4_endsBelow 23 = .ok (.iconst 1, 1) := by decide +kernel
theorem dX4_endsBelow_24 : decode cX4_endsBelow 24 = .ok (.isub, 1) := by decide +kernel
theorem dX4_endsBelow_25 : decode cX4_endsBelow 25 = .ok (.iaload, 1) := by decide +kernel
theorem dX4_endsBelow_26 : decode cX4_endsBelow 26 = .ok (.iload_n 1, 1) := by decide +kernel
theorem dX4_endsBelow_27 : decode cX4_endsBelow 27 = .ok (.if_icmp .ge 7, 3) := by decide +kernel
theorem dX4_endsBelow_30 : decode cX4_endsBelow 30 = .ok (.iconst 1, 1) := by decide +kernel
theorem dX4_endsBelow_31 : decode cX4_endsBelow 31 = .ok (.goto 4, 3) := by decide +kernel
theorem dX4_endsBelow_34 : decode cX4_endsBelow 34 = .ok (.iconst 0, 1) := by decide +kernel
theorem dX4_endsBelow_35 : decode cX4_endsBelow 35 = .ok (.ireturn, 1) := by decide +kernel
theorem dX4_addLast_0 : decode cX4_addLast 0 = .ok (.aload_n 0, 1) := by decide +kernel
theorem dX4_addLast_1 : decode cX4_addLast 1 = .ok (.getfield 22, 3) := by decide +kernel
theorem dX4_addLast_4 : decode cX4_addLast 4 = .ok (.ifCond .lt 62, 3) := by decide +kernel
theorem dX4_addLast_7 : decode cX4_addLast 7 = .ok (.aload_n 0, 1) := by decide +kernel
theorem dX4_addLast_8 : decode cX4_addLast 8 = .ok (.getfield 22, 3) := by decide +kernel
theorem dX4_addLast_11 : decode cX4_addLast 11 = .ok (.iconst 5, 1) := by decide +kernel
theorem dX4_addLast_12 : decode cX4_addLast 12 = .ok (.if_icmp .ge 54, 3) := by decide +kernel
theorem dX4_addLast_15 : decode cX4_addLast 15 = .ok (.aload_n 0, 1) := by decide +kernel
theorem dX4_addLast_16 : decode cX4_addLast 16 = .ok (.getfield 9, 3) := by decide +kernel
theorem dX4_addLast_19 : decode cX4_addLast 19 = .ok (.aload_n 0, 1) := by decide +kernel
theorem dX4_addLast_20 : decode cX4_addLast 20 = .ok (.getfield 22, 3) := by decide +kernel
theorem dX4_addLast_23 : decode cX4_addLast 23 = .ok (.iload_n 1, 1) := by decide +kernel
theorem dX4_addLast_24 : decode cX4_addLast 24 = .ok (.iastore, 1) := by decide +kernel
theorem dX4_addLast_25 : decode cX4_addLast 25 = .ok (.aload_n 0, 1) := by decide +kernel
theorem dX4_addLast_26 : decode cX4_addLast 26 = .ok (.getfield 13, 3) := by decide +kernel
theorem dX4_addLast_29 : decode cX4_addLast 29 = .ok (.aload_n 0, 1) := by decide +kernel
theorem dX4_addLast_30 : decode cX4_addLast 30 = .ok (.getfield 22, 3) := by decide +kernel
theorem dX4_addLast_33 : decode cX4_addLast 33 = .ok (.iload_n 2, 1) := by decide +kernel
theorem dX4_addLast_34 : decode cX4_addLast 34 = .ok (.iastore, 1) := by decide +kernel
theorem dX4_addLast_35 : decode cX4_addLast 35 = .ok (.aload_n 0, 1) := by decide +kernel
theorem dX4_addLast_36 : decode cX4_addLast 36 = .ok (.getfield 16, 3) := by decide +kernel
theorem dX4_addLast_39 : decode cX4_addLast 39 = .ok (.aload_n 0, 1) := by decide +kernel
theorem dX4_addLast_40 : decode cX4_addLast 40 = .ok (.getfield 22, 3) := by decide +kernel
theorem dX4_addLast_43 : decode cX4_addLast 43 = .ok (.iload_n 3, 1) := by decide +kernel
theorem dX4_addLast_44 : decode cX4_addLast 44 = .ok (.iastore, 1) := by decide +kernel
theorem dX4_addLast_45 : decode cX4_addLast 45 = .ok (.aload_n 0, 1) := by decide +kernel
theorem dX4_addLast_46 : decode cX4_addLast 46 = .ok (.getfield 19, 3) := by decide +kernel
theorem dX4_addLast_49 : decode cX4_addLast 49 = .ok (.aload_n 0, 1) := by decide +kernel
theorem dX4_addLast_50 : decode cX4_addLast 50 = .ok (.getfield 22, 3) := by decide +kernel
theorem dX4_addLast_53 : decode cX4_addLast 53 = .ok (.iload 4, 2) := by decide +kernel
theorem dX4_addLast_55 : decode cX4_addLast 55 = .ok (.iastore, 1) := by decide +kernel
theorem dX4_addLast_56 : decode cX4_addLast 56 = .ok (.aload_n 0, 1) := by decide +kernel
theorem dX4_addLast_57 : decode cX4_addLast 57 = .ok (.dup, 1) := by decide +kernel
theorem dX4_addLast_58 : decode cX4_addLast 58 = .ok (.getfield 22, 3) := by decide +kernel
theorem dX4_addLast_61 : decode cX4_addLast 61 = .ok (.iconst 1, 1) := by decide +kernel
theorem dX4_addLast_62 : decode cX4_addLast 62 = .ok (.iadd, 1) := by decide +kernel
theorem dX4_addLast_63 : decode cX4_addLast 63 = .ok (.putfield 22, 3) := by decide +kernel
theorem dX4_addLast_66 : decode cX4_addLast 66 = .ok (.aload_n 0, 1) := by decide +kernel
theorem dX4_addLast_67 : decode cX4_addLast 67 = .ok (.getfield 22, 3) := by decide +kernel
theorem dX4_addLast_70 : decode cX4_addLast 70 = .ok (.ireturn, 1) := by decide +kernel
theorem dX4_takeAway_0 : decode cX4_takeAway 0 = .ok (.aload_n 0, 1) := by decide +kernel
theorem dX4_takeAway_1 : decode cX4_takeAway 1 = .ok (.getfield 22, 3) := by decide +kernel
theorem dX4_takeAway_4 : decode cX4_takeAway 4 = .ok (.istore_n 1, 1) := by decide +kernel
theorem dX4_takeAway_5 : decode cX4_takeAway 5 = .ok (.aload_n 0, 1) := by decide +kernel
theorem dX4_takeAway_6 : decode cX4_takeAway 6 = .ok (.iconst 0, 1) := by decide +kernel
theorem dX4_takeAway_7 : decode cX4_takeAway 7 = .ok (.putfield 22, 3) := by decide +kernel
theorem dX4_takeAway_10 : decode cX4_takeAway 10 = .ok (.iload_n 1, 1) := by decide +kernel
theorem dX4_takeAway_11 : decode cX4_takeAway 11 = .ok (.ireturn, 1) := by decide +kernel
theorem dX4_pointsReached_0 : decode cX4_pointsReached 0 = .ok (.iconst 0, 1) := by decide +kernel
theorem dX4_pointsReached_1 : decode cX4_pointsReached 1 = .ok (.istore_n 3, 1) := by decide +kernel
theorem dX4_pointsReached_2 : decode cX4_pointsReached 2 = .ok (.iload_n 3, 1) := by decide +kernel
theorem dX4_pointsReached_3 : decode cX4_pointsReached 3 = .ok (.aload_n 0, 1) := by decide +kernel
theorem dX4_pointsReached_4 : decode cX4_pointsReached 4 = .ok (.getfield 22, 3) := by decide +kernel
theorem dX4_pointsReached_7 : decode cX4_pointsReached 7 = .ok (.if_icmp .ge 26, 3) := by decide +kernel
theorem dX4_pointsReached_10 : decode cX4_pointsReached 10 = .ok (.iload_n 3, 1) := by decide +kernel
theorem dX4_pointsReached_11 : decode cX4_pointsReached 11 = .ok (.iconst 5, 1) := by decide +kernel
theorem dX4_pointsReached_12 : decode cX4_pointsReached 12 = .ok (.if_icmp .ge 21, 3) := by decide +kernel
theorem dX4_pointsReached_15 : decode cX4_pointsReached 15 = .ok (.aload_n 0, 1) := by decide +kernel
theorem dX4_pointsReached_16 : decode cX4_pointsReached 16 = .ok (.getfield 9, 3) := by decide +kernel
theorem dX4_pointsReached_19 : decode cX4_pointsReached 19 = .ok (.iload_n 3, 1) := by decide +kernel
theorem dX4_pointsReached_20 : decode cX4_pointsReached 20 = .ok (.iaload, 1) := by decide +kernel
theorem dX4_pointsReached_21 : decode cX4_pointsReached 21 = .ok (.i2l, 1) := by decide +kernel
theorem dX4_pointsReached_22 : decode cX4_pointsReached 22 = .ok (.lload_n 1, 1) := by decide +kernel
theorem dX4_pointsReached_23 : decode cX4_pointsReached 23 = .ok (.lcmp, 1) := by decide +kernel
theorem dX4_pointsReached_24 : decode cX4_pointsReached 24 = .ok (.ifCond .gt 9, 3) := by decide +kernel
theorem dX4_pointsReached_27 : decode cX4_pointsReached 27 = .ok (.iinc 3 1, 3) := by decide +kernel
theorem dX4_pointsReached_30 : decode cX4_pointsReached 30 = .ok (.goto (-28), 3) := by decide +kernel
theorem dX4_pointsReached_33 : decode cX4_pointsReached 33 = .ok (.iload_n 3, 1) := by decide +kernel
theorem dX4_pointsReached_34 : decode cX4_pointsReached 34 = .ok (.ireturn, 1) := by decide +kernel
set_option maxRecDepth 20000 in
theorem ggX4_pAt_X4_gainAt : GoodIn wsX4_pAt wsX4_gainAt := goodIn_r _ [6, 7, 8, 9, 10, 11, 12, 13, 14, 15, 16, 17, 18, 19, 20, 21] (by decide +kernel) (by decide +kernel)
set_option maxRecDepth 20000 in
theorem gX4_pAt_X4_gainAt : GoodIn wsX4_pAt (wsV RX4 26 RX4 yX4_gainAt wsX4_gainAt) := goodIn_app (goodIn_of _ (by decide +kernel)) ggX4_pAt_X4_gainAt
theorem dX4_pAt_0 : decode cX4_pAt 0 = .ok (.aload_n 0, 1) := by decide +kernel
theorem dX4_pAt_1 : decode cX4_pAt 1 = .ok (.aload_n 0, 1) := by decide +kernel
theorem dX4_pAt_2 : decode cX4_pAt 2 = .ok (.getfield 13, 3) := by decide +kernel
theorem dX4_pAt_5 : decode cX4_pAt 5 = .ok (.iload_n 1, 1) := by decide +kernel
theorem dX4_pAt_6 : decode cX4_pAt 6 = .ok (.lload_n 2, 1) := by decide +kernel
theorem dX4_pAt_7 : decode cX4_pAt 7 = .ok (.invokevirtual 26, 3) := by decide +kernel
theorem dX4_pAt_10 : decode cX4_pAt 10 = .ok (.ireturn, 1) := by decide +kernel
set_option maxRecDepth 20000 in
theorem ggX4_iAt_X4_gainAt : GoodIn wsX4_iAt wsX4_gainAt := goodIn_r _ [6, 7, 8, 9, 10, 11, 12, 13, 14, 15, 16, 17, 18, 19, 20, 21] (by decide +kernel) (by decide +kernel)
set_option maxRecDepth 20000 in
theorem gX4_iAt_X4_gainAt : GoodIn wsX4_iAt (wsV RX4 26 RX4 yX4_gainAt wsX4_gainAt) := goodIn_app (goodIn_of _ (by decide +kernel)) ggX4_iAt_X4_gainAt
theorem dX4_iAt_0 : decode cX4_iAt 0 = .ok (.aload_n 0, 1) := by decide +kernel
theorem dX4_iAt_1 : decode cX4_iAt 1 = .ok (.aload_n 0, 1) := by decide +kernel
theorem dX4_iAt_2 : decode cX4_iAt 2 = .ok (.getfield 16, 3) := by decide +kernel
theorem dX4_iAt_5 : decode cX4_iAt 5 = .ok (.iload_n 1, 1) := by decide +kernel
theorem dX4_iAt_6 : decode cX4_iAt 6 = .ok (.lload_n 2, 1) := by decide +kernel
theorem dX4_iAt_7 : decode cX4_iAt 7 = .ok (.invokevirtual 26, 3) := by decide +kernel
theorem dX4_iAt_10 : decode cX4_iAt 10 = .ok (.ireturn, 1) := by decide +kernel
set_option maxRecDepth 20000 in
theorem ggX4_dAt_X4_gainAt : GoodIn wsX4_dAt wsX4_gainAt := goodIn_r _ [6, 7, 8, 9, 10, 11, 12, 13, 14, 15, 16, 17, 18, 19, 20, 21] (by decide +kernel) (by decide +kernel)
set_option maxRecDepth 20000 in
theorem gX4_dAt_X4_gainAt : GoodIn wsX4_dAt (wsV RX4 26 RX4 yX4_gainAt wsX4_gainAt) := goodIn_app (goodIn_of _ (by decide +kernel)) ggX4_dAt_X4_gainAt
theorem dX4_dAt_0 : decode cX4_dAt 0 = .ok (.aload_n 0, 1) := by decide +kernel
theorem dX4_dAt_1 : decode cX4_dAt 1 = .ok (.aload_n 0, 1) := by decide +kernel
theorem dX4_dAt_2 : decode cX4_dAt 2 = .ok (.getfield 19, 3) := by decide +kernel
theorem dX4_dAt_5 : decode cX4_dAt 5 = .ok (.iload_n 1, 1) := by decide +kernel
theorem dX4_dAt_6 : decode cX4_dAt 6 = .ok (.lload_n 2, 1) := by decide +kernel
theorem dX4_dAt_7 : decode cX4_dAt 7 = .ok (.invokevirtual 26, 3) := by decide +kernel
theorem dX4_dAt_10 : decode cX4_dAt 10 = .ok (.ireturn, 1) := by decide +kernel
set_option maxRecDepth 20000 in
theorem ggX4_gainAt_J9_floorDiv_f86c9 : GoodIn wsX4_gainAt wsJ9_floorDiv_f86c9 := goodIn_r _ [10] (by decide +kernel) (by decide +kernel)
set_option maxRecDepth 20000 in
theorem gX4_gainAt_J9_floorDiv_f86c9 : GoodIn wsX4_gainAt (va_wsS RX4 36 yJ9_floorDiv_f86c9 wsJ9_floorDiv_f86c9) := goodIn_app (goodIn_of _ (by decide +kernel)) ggX4_gainAt_J9_floorDiv_f86c9
theorem dX4_gainAt_0 : decode cX4_gainAt 0 = .ok (.iload_n 2, 1) := by decide +kernel
theorem dX4_gainAt_1 : decode cX4_gainAt 1 = .ok (.ifCond .gt 7, 3) := by decide +kernel
theorem dX4_gainAt_4 : decode cX4_gainAt 4 = .ok (.aload_n 1, 1) := by decide +kernel
theorem dX4_gainAt_5 : decode cX4_gainAt 5 = .ok (.iconst 0, 1) := by decide +kernel
theorem dX4_gainAt_6 : decode cX4_gainAt 6 = .ok (.iaload, 1) := by decide +kernel
theorem dX4_gainAt_7 : decode cX4_gainAt 7 = .ok (.ireturn, 1) := by decide +kernel
theorem dX4_gainAt_8 : decode cX4_gainAt 8 = .ok (.iload_n 2, 1) := by decide +kernel
theorem dX4_gainAt_9 : decode cX4_gainAt 9 = .ok (.iconst 1, 1) := by decide +kernel
theorem dX4_gainAt_10 : decode cX4_gainAt 10 = .ok (.isub, 1) := by decide +kernel
theorem dX4_gainAt_11 : decode cX4_gainAt 11 = .ok (.istore 5, 2) := by decide +kernel
theorem dX4_gainAt_13 : decode cX4_gainAt 13 = .ok (.iload_n 2, 1) := by decide +kernel
theorem dX4_gainAt_14 : decode cX4_gainAt 14 = .ok (.aload_n 0, 1) := by decide +kernel
theorem dX4_gainAt_15 : decode cX4_gainAt 15 = .ok (.getfield 22, 3) := by decide +kernel
theorem dX4_gainAt_18 : decode cX4_gainAt 18 = .ok (.if_icmp .ge 8, 3) := by decide +kernel
theorem dX4_gainAt_21 : decode cX4_gainAt 21 = .ok (.iload_n 2, 1) := by decide +kernel
theorem dX4_gainAt_22 : decode cX4_gainAt 22 = .ok (.iconst 5, 1) := by decide +kernel
theorem dX4_gainAt_23 : decode cX4_gainAt 23 = .ok (.if_icmp .lt 12, 3) := by decide +kernel
theorem dX4_gainAt_26 : decode cX4_gainAt 26 = .ok (.aload_n 1, 1) := by decide +kernel
theorem dX4_gainAt_27 : decode cX4_gainAt 27 = .ok (.iload 5, 2) := by decide +kernel
theorem dX4_gainAt_29 : decode cX4_gainAt 29 = .ok (.iconst 4, 1) := by decide +kernel
theorem dX4_gainAt_30 : decode cX4_gainAt 30 = .ok (.invokestatic 30, 3) := by decide +kernel
theorem dX4_gainAt_33 : decode cX4_gainAt 33 = .ok (.iaload, 1) := by decide +kernel
theorem dX4_gainAt_34 : decode cX4_gainAt 34 = .ok (.ireturn, 1) := by decide +kernel
theorem dX4_gainAt_35 : decode cX4_gainAt 35 = .ok (.aload_n 0, 1) := by decide +kernel
theorem dX4_gainAt_36 : decode cX4_gainAt 36 = .ok (.getfield 9, 3) := by decide +kernel
theorem dX4_gainAt_39 : decode cX4_gainAt 39 = .ok (.iload_n 2, 1) := by decide +kernel
theorem dX4_gainAt_40 : decode cX4_gainAt 40 = .ok (.iaload, 1) := by decide +kernel
theorem dX4_gainAt_41 : decode cX4_gainAt 41 = .ok (.i2l, 1) := by decide +kernel
theorem dX4_gainAt_42 : decode cX4_gainAt 42 = .ok (.aload_n 0, 1) := by decide +kernel
theorem dX4_gainAt_43 : decode cX4_gainAt 43 = .ok (.getfield 9, 3) := by decide +kernel
theorem dX4_gainAt_46 : decode cX4_gainAt 46 = .ok (.iload 5, 2) := by decide +kernel
theorem dX4_gainAt_48 : decode cX4_gainAt 48 = .ok (.iaload, 1) := by decide +kernel
theorem dX4_gainAt_49 : decode cX4_gainAt 49 = .ok (.i2l, 1) := by decide +kernel
theorem dX4_gainAt_50 : decode cX4_gainAt 50 = .ok (.lsub, 1) := by decide +kernel
theorem dX4_gainAt_51 : decode cX4_gainAt 51 = .ok (.lstore 6, 2) := by decide +kernel
theorem dX4_gainAt_53 : decode cX4_gainAt 53 = .ok (.aload_n 1, 1) := by decide +kernel
theorem dX4_gainAt_54 : decode cX4_gainAt 54 = .ok (.iload_n 2, 1) := by decide +kernel
theorem dX4_gainAt_55 : decode cX4_gainAt 55 = .ok (.iaload, 1) := by decide +kernel
theorem dX4_gainAt_56 : decode cX4_gainAt 56 = .ok (.i2l, 1) := by decide +kernel
theorem dX4_gainAt_57 : decode cX4_gainAt 57 = .ok (.aload_n 1, 1) := by decide +kernel
theorem dX4_gainAt_58 : decode cX4_gainAt 58 = .ok (.iload 5, 2) := by decide +kernel
theorem dX4_gainAt_60 : decode cX4_gainAt 60 = .ok (.iaload, 1) := by decide +kernel
theorem dX4_gainAt_61 : decode cX4_gainAt 61 = .ok (.i2l, 1) := by decide +kernel
theorem dX4_gainAt_62 : decode cX4_gainAt 62 = .ok (.lsub, 1) := by decide +kernel
theorem dX4_gainAt_63 : decode cX4_gainAt 63 = .ok (.lstore 8, 2) := by decide +kernel
theorem dX4_gainAt_65 : decode cX4_gainAt 65 = .ok (.lload 6, 2) := by decide +kernel
theorem dX4_gainAt_67 : decode cX4_gainAt 67 = .ok (.lconst 0, 1) := by decide +kernel
theorem dX4_gainAt_68 : decode cX4_gainAt 68 = .ok (.lcmp, 1) := by decide +kernel
theorem dX4_gainAt_69 : decode cX4_gainAt 69 = .ok (.ifCond .gt 7, 3) := by decide +kernel
theorem dX4_gainAt_72 : decode cX4_gainAt 72 = .ok (.aload_n 1, 1) := by decide +kernel
theorem dX4_gainAt_73 : decode cX4_gainAt 73 = .ok (.iload_n 2, 1) := by decide +kernel
theorem dX4_gainAt_74 : decode cX4_gainAt 74 = .ok (.iaload, 1) := by decide +kernel
theorem dX4_gainAt_75 : decode cX4_gainAt 75 = .ok (.ireturn, 1) := by decide +kernel
theorem dX4_gainAt_76 : decode cX4_gainAt 76 = .ok (.aload_n 1, 1) := by decide +kernel
theorem dX4_gainAt_77 : decode cX4_gainAt 77 = .ok (.iload 5, 2) := by decide +kernel
theorem dX4_gainAt_79 : decode cX4_gainAt 79 = .ok (.iaload, 1) := by decide +kernel
theorem dX4_gainAt_80 : decode cX4_gainAt 80 = .ok (.lload 8, 2) := by decide +kernel
theorem dX4_gainAt_82 : decode cX4_gainAt 82 = .ok (.lload_n 3, 1) := by decide +kernel
theorem dX4_gainAt_83 : decode cX4_gainAt 83 = .ok (.aload_n 0, 1) := by decide +kernel
theorem dX4_gainAt_84 : decode cX4_gainAt 84 = .ok (.getfield 9, 3) := by decide +kernel
theorem dX4_gainAt_87 : decode cX4_gainAt 87 = .ok (.iload 5, 2) := by decide +kernel
theorem dX4_gainAt_89 : decode cX4_gainAt 89 = .ok (.iaload, 1) := by decide +kernel
theorem dX4_gainAt_90 : decode cX4_gainAt 90 = .ok (.i2l, 1) := by decide +kernel
theorem dX4_gainAt_91 : decode cX4_gainAt 91 = .ok (.lsub, 1) := by decide +kernel
theorem dX4_gainAt_92 : decode cX4_gainAt 92 = .ok (.lmul, 1) := by decide +kernel
theorem dX4_gainAt_93 : decode cX4_gainAt 93 = .ok (.lload 6, 2) := by decide +kernel
theorem dX4_gainAt_95 : decode cX4_gainAt 95 = .ok (.invokestatic 36, 3) := by decide +kernel
theorem dX4_gainAt_98 : decode cX4_gainAt 98 = .ok (.l2i, 1) := by decide +kernel
theorem dX4_gainAt_99 : decode cX4_gainAt 99 = .ok (.iadd, 1) := by decide +kernel
theorem dX4_gainAt_100 : decode cX4_gainAt 100 = .ok (.ireturn, 1) := by decide +kernel
set_option maxRecDepth 20000 in
theorem ggX5_init_X1_init : GoodIn wsX5_init wsX1_init := goodIn_r _ [9, 10, 2, 3, 11, 12, 13, 14, 15, 16, 17, 18, 19, 20, 21, 22, 23, 24, 25, 26, 27, 28, 29, 30, 31, 32, 33, 34, 35, 36, 37, 38, 39, 40, 41, 42, 43, 44, 45, 46, 47, 48, 49, 50, 51, 52, 53, 54, 55, 68, 69, 70, 71, 72, 73, 74, 75, 76, 58, 59, 60, 61, 62, 63, 64, 65, 66, 67, 77, 78, 79, 80, 81, 82, 83, 84, 85, 86, 87, 88, 89, 90, 91, 92, 93, 94, 95, 96, 97, 98, 99, 100, 101, 102, 103, 104, 105, 106, 107, 108] (by decide +kernel) (by decide +kernel)
set_option maxRecDepth 20000 in
theorem gX5_init_X1_init_n15 : GoodIn wsX5_init (wsX1_init) := ggX5_init_X1_init
theorem dX5_init_0 : decode cX5_init 0 = .ok (.aload_n 0, 1) := by decide +kernel
theorem dX5_init_1 : decode cX5_init 1 = .ok (.invokespecial 1, 3) := by decide +kernel
theorem dX5_init_4 : decode cX5_init 4 = .ok (.aload_n 0, 1) := by decide +kernel
theorem dX5_init_5 : decode cX5_init 5 = .ok (.iconst 3, 1) := by decide +kernel
theorem dX5_init_6 : decode cX5_init 6 = .ok (.anewarray 9, 3) := by decide +kernel
theorem dX5_init_9 : decode cX5_init 9 = .ok (.putfield 11, 3) := by decide +kernel
theorem dX5_init_12 : decode cX5_init 12 = .ok (.iconst 0, 1) := by decide +kernel
theorem dX5_init_13 : decode cX5_init 13 = .ok (.istore_n 1, 1) := by decide +kernel
theorem dX5_init_14 : decode cX5_init 14 = .ok (.iload_n 1, 1) := by decide +kernel
theorem dX5_init_15 : decode cX5_init 15 = .ok (.aload_n 0, 1) := by decide +kernel
theorem dX5_init_16 : decode cX5_init 16 = .ok (.getfield 11, 3) := by decide +kernel
theorem dX5_init_19 : decode cX5_init 19 = .ok (.arraylength, 1) := by decide +kernel
theorem dX5_init_20 : decode cX5_init 20 = .ok (.if_icmp .ge 22, 3) := by decide +kernel
theorem dX5_init_23 : decode cX5_init 23 = .ok (.aload_n 0, 1) := by decide +kernel
theorem dX5_init_24 : decode cX5_init 24 = .ok (.getfield 11, 3) := by decide +kernel
theorem dX5_init_27 : decode cX5_init 27 = .ok (.iload_n 1, 1) := by decide +kernel
theorem dX5_init_28 : decode cX5_init 28 = .ok (.new 9, 3) := by decide +kernel
theorem dX5_init_31 : decode cX5_init 31 = .ok (.dup, 1) := by decide +kernel
theorem dX5_init_32 : decode cX5_init 32 = .ok (.invokespecial 15, 3) := by decide +kernel
theorem dX5_init_35 : decode cX5_init 35 = .ok (.aastore, 1) := by decide +kernel
theorem dX5_init_36 : decode cX5_init 36 = .ok (.iinc 1 1, 3) := by decide +kernel
theorem dX5_init_39 : decode cX5_init 39 = .ok (.goto (-25), 3) := by decide +kernel
theorem dX5_init_42 : decode cX5_init 42 = .ok (.return_, 1) := by decide +kernel
set_option maxRecDepth 20000 in
theorem ggX5_setPlant_X5_loopAt : GoodIn wsX5_setPlant wsX5_loopAt := goodIn_ca (goodIn_r _ [10, 11, 12, 13, 41, 42] (by decide +kernel) (by decide +kernel)) (goodIn_sub (fun _ h => List.mem_cons_of_mem _ (List.mem_append_left _ (List.mem_append_right _ h))) (by decide +kernel))
set_option maxRecDepth 20000 in
theorem gX5_setPlant_X5_loopAt : GoodIn wsX5_setPlant (wsV RX5 16 RX5 yX5_loopAt wsX5_loopAt) := goodIn_app (goodIn_of _ (by decide +kernel)) ggX5_setPlant_X5_loopAt
set_option maxRecDepth 20000 in
theorem ggX5_setPlant_X5_requireWithin : GoodIn wsX5_setPlant wsX5_requireWithin := goodIn_ca (goodIn_r _ [16, 17, 18, 9, 19, 20, 21] (by decide +kernel) (by decide +kernel)) (goodIn_sub (fun _ h => List.mem_cons_of_mem _ (List.mem_append_right _ h)) (by decide +kernel))
set_option maxRecDepth 20000 in
theorem gX5_setPlant_X5_requireWithin : GoodIn wsX5_setPlant (va_wsS RX5 24 yX5_requireWithin wsX5_requireWithin) := goodIn_app (goodIn_of _ (by decide +kernel)) ggX5_setPlant_X5_requireWithin
theorem dX5_setPlant_0 : decode cX5_setPlant 0 = .ok (.aload_n 0, 1) := by decide +kernel
theorem dX5_setPlant_1 : decode cX5_setPlant 1 = .ok (.iload_n 1, 1) := by decide +kernel
theorem dX5_setPlant_2 : decode cX5_setPlant 2 = .ok (.invokevirtual 16, 3) := by decide +kernel
theorem dX5_setPlant_5 : decode cX5_setPlant 5 = .ok (.getfield 20, 3) := by decide +kernel
theorem dX5_setPlant_8 : decode cX5_setPlant 8 = .ok (.astore 6, 2) := by decide +kernel
theorem dX5_setPlant_10 : decode cX5_setPlant 10 = .ok (.iload_n 2, 1) := by decide +kernel
theorem dX5_setPlant_11 : decode cX5_setPlant 11 = .ok (.sipush (-2000), 3) := by decide +kernel
theorem dX5_setPlant_14 : decode cX5_setPlant 14 = .ok (.sipush 2000, 3) := by decide +kernel
theorem dX5_setPlant_17 : decode cX5_setPlant 17 = .ok (.invokestatic 24, 3) := by decide +kernel
theorem dX5_setPlant_20 : decode cX5_setPlant 20 = .ok (.iload_n 3, 1) := by decide +kernel
theorem dX5_setPlant_21 : decode cX5_setPlant 21 = .ok (.sipush (-1000), 3) := by decide +kernel
theorem dX5_setPlant_24 : decode cX5_setPlant 24 = .ok (.sipush 1000, 3) := by decide +kernel
theorem dX5_setPlant_27 : decode cX5_setPlant 27 = .ok (.invokestatic 24, 3) := by decide +kernel
theorem dX5_setPlant_30 : decode cX5_setPlant 30 = .ok (.iload 4, 2) := by decide +kernel
theorem dX5_setPlant_32 : decode cX5_setPlant 32 = .ok (.sipush (-2000), 3) := by decide +kernel
theorem dX5_setPlant_35 : decode cX5_setPlant 35 = .ok (.sipush 2000, 3) := by decide +kernel
theorem dX5_setPlant_38 : decode cX5_setPlant 38 = .ok (.invokestatic 24, 3) := by decide +kernel
theorem dX5_setPlant_41 : decode cX5_setPlant 41 = .ok (.iload 5, 2) := by decide +kernel
theorem dX5_setPlant_43 : decode cX5_setPlant 43 = .ok (.iconst 0, 1) := by decide +kernel
theorem dX5_setPlant_44 : decode cX5_setPlant 44 = .ok (.bipush 10, 2) := by decide +kernel
theorem dX5_setPlant_46 : decode cX5_setPlant 46 = .ok (.invokestatic 24, 3) := by decide +kernel
theorem dX5_setPlant_49 : decode cX5_setPlant 49 = .ok (.aload 6, 2) := by decide +kernel
theorem dX5_setPlant_51 : decode cX5_setPlant 51 = .ok (.iload_n 2, 1) := by decide +kernel
theorem dX5_setPlant_52 : decode cX5_setPlant 52 = .ok (.putfield 30, 3) := by decide +kernel
theorem dX5_setPlant_55 : decode cX5_setPlant 55 = .ok (.aload 6, 2) := by decide +kernel
theorem dX5_setPlant_57 : decode cX5_setPlant 57 = .ok (.iload_n 3, 1) := by decide +kernel
theorem dX5_setPlant_58 : decode cX5_setPlant 58 = .ok (.putfield 34, 3) := by decide +kernel
theorem dX5_setPlant_61 : decode cX5_setPlant 61 = .ok (.aload 6, 2) := by decide +kernel
theorem dX5_setPlant_63 : decode cX5_setPlant 63 = .ok (.iload 4, 2) := by decide +kernel
theorem dX5_setPlant_65 : decode cX5_setPlant 65 = .ok (.putfield 37, 3) := by decide +kernel
theorem dX5_setPlant_68 : decode cX5_setPlant 68 = .ok (.aload 6, 2) := by decide +kernel
theorem dX5_setPlant_70 : decode cX5_setPlant 70 = .ok (.iload 5, 2) := by decide +kernel
theorem dX5_setPlant_72 : decode cX5_setPlant 72 = .ok (.putfield 40, 3) := by decide +kernel
theorem dX5_setPlant_75 : decode cX5_setPlant 75 = .ok (.return_, 1) := by decide +kernel
set_option maxRecDepth 20000 in
theorem ggX5_setLoad_X5_loopAt : GoodIn wsX5_setLoad wsX5_loopAt := goodIn_ca (goodIn_r _ [7, 8, 9, 10, 38, 39] (by decide +kernel) (by decide +kernel)) (goodIn_sub (fun _ h => List.mem_cons_of_mem _ (List.mem_append_left _ (List.mem_append_right _ h))) (by decide +kernel))
set_option maxRecDepth 20000 in
theorem gX5_setLoad_X5_loopAt : GoodIn wsX5_setLoad (wsV RX5 16 RX5 yX5_loopAt wsX5_loopAt) := goodIn_app (goodIn_of _ (by decide +kernel)) ggX5_setLoad_X5_loopAt
set_option maxRecDepth 20000 in
theorem ggX5_setLoad_X5_requireWithin : GoodIn wsX5_setLoad wsX5_requireWithin := goodIn_ca (goodIn_r _ [13, 14, 15, 6, 16, 17, 18] (by decide +kernel) (by decide +kernel)) (goodIn_sub (fun _ h => List.mem_cons_of_mem _ (List.mem_append_right _ h)) (by decide +kernel))
set_option maxRecDepth 20000 in
theorem gX5_setLoad_X5_requireWithin : GoodIn wsX5_setLoad (va_wsS RX5 24 yX5_requireWithin wsX5_requireWithin) := goodIn_app (goodIn_of _ (by decide +kernel)) ggX5_setLoad_X5_requireWithin
theorem dX5_setLoad_0 : decode cX5_setLoad 0 = .ok (.aload_n 0, 1) := by decide +kernel
theorem dX5_setLoad_1 : decode cX5_setLoad 1 = .ok (.iload_n 1, 1) := by decide +kernel
theorem dX5_setLoad_2 : decode cX5_setLoad 2 = .ok (.invokevirtual 16, 3) := by decide +kernel
theorem dX5_setLoad_5 : decode cX5_setLoad 5 = .ok (.getfield 20, 3) := by decide +kernel
theorem dX5_setLoad_8 : decode cX5_setLoad 8 = .ok (.astore_n 3, 1) := by decide +kernel
theorem dX5_setLoad_9 : decode cX5_setLoad 9 = .ok (.iload_n 2, 1) := by decide +kernel
theorem dX5_setLoad_10 : decode cX5_setLoad 10 = .ok (.sipush (-10000), 3) := by decide +kernel
theorem dX5_setLoad_13 : decode cX5_setLoad 13 = .ok (.sipush 10000, 3) := by decide +kernel
theorem dX5_setLoad_16 : decode cX5_setLoad 16 = .ok (.invokestatic 24, 3) := by decide +kernel
theorem dX5_setLoad_19 : decode cX5_setLoad 19 = .ok (.aload_n 3, 1) := by decide +kernel
theorem dX5_setLoad_20 : decode cX5_setLoad 20 = .ok (.getfield 43, 3) := by decide +kernel
theorem dX5_setLoad_23 : decode cX5_setLoad 23 = .ok (.istore 4, 2) := by decide +kernel
theorem dX5_setLoad_25 : decode cX5_setLoad 25 = .ok (.aload_n 3, 1) := by decide +kernel
theorem dX5_setLoad_26 : decode cX5_setLoad 26 = .ok (.iload_n 2, 1) := by decide +kernel
theorem dX5_setLoad_27 : decode cX5_setLoad 27 = .ok (.putfield 43, 3) := by decide +kernel
theorem dX5_setLoad_30 : decode cX5_setLoad 30 = .ok (.iload 4, 2) := by decide +kernel
theorem dX5_setLoad_32 : decode cX5_setLoad 32 = .ok (.ireturn, 1) := by decide +kernel
set_option maxRecDepth 20000 in
theorem ggX5_setGains_X5_loopAt : GoodIn wsX5_setGains wsX5_loopAt := goodIn_ca (goodIn_r _ [8, 9, 10, 11, 67, 68] (by decide +kernel) (by decide +kernel)) (goodIn_sub (fun _ h => List.mem_cons_of_mem _ (List.mem_append_left _ (List.mem_append_left _ (List.mem_append_right _ h)))) (by decide +kernel))
set_option maxRecDepth 20000 in
theorem gX5_setGains_X5_loopAt : GoodIn wsX5_setGains (wsV RX5 16 RX5 yX5_loopAt wsX5_loopAt) := goodIn_app (goodIn_of _ (by decide +kernel)) ggX5_setGains_X5_loopAt
set_option maxRecDepth 20000 in
theorem ggX5_setGains_X5_requireGains : GoodIn wsX5_setGains wsX5_requireGains := goodIn_ca (goodIn_r _ [14, 15, 16, 17, 18, 7, 19, 20, 21, 22, 23, 24] (by decide +kernel) (by decide +kernel)) (goodIn_sub (fun _ h => List.mem_cons_of_mem _ (List.mem_append_left _ (List.mem_append_right _ h))) (by decide +kernel))
set_option maxRecDepth 20000 in
theorem gX5_setGains_X5_requireGains : GoodIn wsX5_setGains (va_wsS RX5 46 yX5_requireGains wsX5_requireGains) := goodIn_app (goodIn_of _ (by decide +kernel)) ggX5_setGains_X5_requireGains
set_option maxRecDepth 20000 in
theorem ggX5_setGains_X5_requireState : GoodIn wsX5_setGains wsX5_requireState := goodIn_ca (goodIn_r _ [27, 28, 29] (by decide +kernel) (by decide +kernel)) (goodIn_sub (fun _ h => List.mem_cons_of_mem _ (List.mem_append_right _ h)) (by decide +kernel))
set_option maxRecDepth 20000 in
theorem gX5_setGains_X5_requireState : GoodIn wsX5_setGains (va_wsS RX5 52 yX5_requireState wsX5_requireState) := goodIn_app (goodIn_of _ (by decide +kernel)) ggX5_setGains_X5_requireState
set_option maxRecDepth 20000 in
theorem ggX5_setGains_X0_changeGains : GoodIn wsX5_setGains wsX0_changeGains := goodIn_r _ [34, 35, 36, 37, 38, 39, 40, 41, 33, 42, 43, 44, 45, 46, 47, 48, 49, 50, 69, 70, 71, 72, 73, 74, 75, 76, 77, 78, 79, 80, 81, 82, 83, 84, 85, 86, 87, 88, 89, 90, 91, 92] (by decide +kernel) (by decide +kernel)
set_option maxRecDepth 20000 in
theorem gX5_setGains_X0_changeGains : GoodIn wsX5_setGains (wsV RX5 60 RX0 yX0_changeGains wsX0_changeGains) := goodIn_app (goodIn_of _ (by decide +kernel)) ggX5_setGains_X0_changeGains
set_option maxRecDepth 20000 in
theorem ggX5_setGains_X4_takeAway : GoodIn wsX5_setGains wsX4_takeAway := goodIn_r _ [55, 56, 93, 94, 95, 96, 97] (by decide +kernel) (by decide +kernel)
set_option maxRecDepth 20000 in
theorem gX5_setGains_X4_takeAway : GoodIn wsX5_setGains (wsV RX5 69 RX4 yX4_takeAway wsX4_takeAway) := goodIn_app (goodIn_of _ (by decide +kernel)) ggX5_setGains_X4_takeAway
theorem dX5_setGains_0 : decode cX5_setGains 0 = .ok (.aload_n 0, 1) := by decide +kernel
theorem dX5_setGains_1 : decode cX5_setGains 1 = .ok (.iload_n 1, 1) := by decide +kernel
theorem dX5_setGains_2 : decode cX5_setGains 2 = .ok (.invokevirtual 16, 3) := by decide +kernel
theorem dX5_setGains_5 : decode cX5_setGains 5 = .ok (.astore 5, 2) := by decide +kernel
theorem dX5_setGains_7 : decode cX5_setGains 7 = .ok (.iload_n 2, 1) := by decide +kernel
theorem dX5_setGains_8 : decode cX5_setGains 8 = .ok (.iload_n 3, 1) := by decide +kernel
theorem dX5_setGains_9 : decode cX5_setGains 9 = .ok (.iload 4, 2) := by decide +kernel
theorem dX5_setGains_11 : decode cX5_setGains 11 = .ok (.invokestatic 46, 3) := by decide +kernel
theorem dX5_setGains_14 : decode cX5_setGains 14 = .ok (.aload 5, 2) := by decide +kernel
theorem dX5_setGains_16 : decode cX5_setGains 16 = .ok (.getfield 49, 3) := by decide +kernel
theorem dX5_setGains_19 : decode cX5_setGains 19 = .ok (.iconst 3, 1) := by decide +kernel
theorem dX5_setGains_20 : decode cX5_setGains 20 = .ok (.if_icmp .eq 7, 3) := by decide +kernel
theorem dX5_setGains_23 : decode cX5_setGains 23 = .ok (.iconst 1, 1) := by decide +kernel
theorem dX5_setGains_24 : decode cX5_setGains 24 = .ok (.goto 4, 3) := by decide +kernel
theorem dX5_setGains_27 : decode cX5_setGains 27 = .ok (.iconst 0, 1) := by decide +kernel
theorem dX5_setGains_28 : decode cX5_setGains 28 = .ok (.invokestatic 52, 3) := by decide +kernel
theorem dX5_setGains_31 : decode cX5_setGains 31 = .ok (.aload 5, 2) := by decide +kernel
theorem dX5_setGains_33 : decode cX5_setGains 33 = .ok (.getfield 56, 3) := by decide +kernel
theorem dX5_setGains_36 : decode cX5_setGains 36 = .ok (.iload_n 2, 1) := by decide +kernel
theorem dX5_setGains_37 : decode cX5_setGains 37 = .ok (.iload_n 3, 1) := by decide +kernel
theorem dX5_setGains_38 : decode cX5_setGains 38 = .ok (.iload 4, 2) := by decide +kernel
theorem dX5_setGains_40 : decode cX5_setGains 40 = .ok (.invokevirtual 60, 3) := by decide +kernel
theorem dX5_setGains_43 : decode cX5_setGains 43 = .ok (.aload 5, 2) := by decide +kernel
theorem dX5_setGains_45 : decode cX5_setGains 45 = .ok (.getfield 65, 3) := by decide +kernel
theorem dX5_setGains_48 : decode cX5_setGains 48 = .ok (.invokevirtual 69, 3) := by decide +kernel
theorem dX5_setGains_51 : decode cX5_setGains 51 = .ok (.ireturn, 1) := by decide +kernel
set_option maxRecDepth 20000 in
theorem ggX5_addPoint_X5_loopAt : GoodIn wsX5_addPoint wsX5_loopAt := goodIn_ca (goodIn_r _ [8, 9, 10, 11, 58, 59] (by decide +kernel) (by decide +kernel)) (goodIn_sub (fun _ h => List.mem_cons_of_mem _ (List.mem_append_left _ (List.mem_append_left _ (List.mem_append_right _ h)))) (by decide +kernel))
set_option maxRecDepth 20000 in
theorem gX5_addPoint_X5_loopAt : GoodIn wsX5_addPoint (wsV RX5 16 RX5 yX5_loopAt wsX5_loopAt) := goodIn_app (goodIn_of _ (by decide +kernel)) ggX5_addPoint_X5_loopAt
set_option maxRecDepth 20000 in
theorem ggX5_addPoint_X5_requireWithin : GoodIn wsX5_addPoint wsX5_requireWithin := goodIn_ca (goodIn_r _ [14, 15, 16, 7, 17, 18, 19] (by decide +kernel) (by decide +kernel)) (goodIn_sub (fun _ h => List.mem_cons_of_mem _ (List.mem_append_left _ (List.mem_append_right _ h))) (by decide +kernel))
set_option maxRecDepth 20000 in
theorem gX5_addPoint_X5_requireWithin : GoodIn wsX5_addPoint (va_wsS RX5 24 yX5_requireWithin wsX5_requireWithin) := goodIn_app (goodIn_of _ (by decide +kernel)) ggX5_addPoint_X5_requireWithin
set_option maxRecDepth 20000 in
theorem ggX5_addPoint_X5_requireGains : GoodIn wsX5_addPoint wsX5_requireGains := goodIn_ca (goodIn_r _ [22, 23, 24, 12, 13, 7, 14, 15, 16, 17, 18, 19] (by decide +kernel) (by decide +kernel)) (goodIn_sub (fun _ h => List.mem_cons_of_mem _ (List.mem_append_left _ (List.mem_append_right _ h))) (by decide +kernel))
set_option maxRecDepth 20000 in
theorem gX5_addPoint_X5_requireGains : GoodIn wsX5_addPoint (va_wsS RX5 46 yX5_requireGains wsX5_requireGains) := goodIn_app (goodIn_of _ (by decide +kernel)) ggX5_addPoint_X5_requireGains
set_option maxRecDepth 20000 in
theorem ggX5_addPoint_X4_endsBelow : GoodIn wsX5_addPoint wsX4_endsBelow := goodIn_r _ [29, 30, 31, 60, 61, 62, 63, 64] (by decide +kernel) (by decide +kernel)
set_option maxRecDepth 20000 in
theorem gX5_addPoint_X4_endsBelow : GoodIn wsX5_addPoint (wsV RX5 77 RX4 yX4_endsBelow wsX4_endsBelow) := goodIn_app (goodIn_of _ (by decide +kernel)) ggX5_addPoint_X4_endsBelow
set_option maxRecDepth 20000 in
theorem ggX5_addPoint_X5_requireArgument : GoodIn wsX5_addPoint wsX5_requireArgument := goodIn_ca (goodIn_r _ [17, 18, 19] (by decide +kernel) (by decide +kernel)) (goodIn_sub (fun _ h => List.mem_cons_of_mem _ (List.mem_append_left _ (List.mem_append_right _ h))) (by decide +kernel))
set_option maxRecDepth 20000 in
theorem gX5_addPoint_X5_requireArgument : GoodIn wsX5_addPoint (va_wsS RX5 81 yX5_requireArgument wsX5_requireArgument) := goodIn_app (goodIn_of _ (by decide +kernel)) ggX5_addPoint_X5_requireArgument
set_option maxRecDepth 20000 in
theorem ggX5_addPoint_X4_isFull : GoodIn wsX5_addPoint wsX4_isFull := goodIn_r _ [35, 30, 60, 61, 62, 63, 64] (by decide +kernel) (by decide +kernel)
set_option maxRecDepth 20000 in
theorem gX5_addPoint_X4_isFull : GoodIn wsX5_addPoint (wsV RX5 84 RX4 yX4_isFull wsX4_isFull) := goodIn_app (goodIn_of _ (by decide +kernel)) ggX5_addPoint_X4_isFull
set_option maxRecDepth 20000 in
theorem ggX5_addPoint_X5_requireState : GoodIn wsX5_addPoint wsX5_requireState := goodIn_ca (goodIn_r _ [38, 39, 40] (by decide +kernel) (by decide +kernel)) (goodIn_sub (fun _ h => List.mem_cons_of_mem _ (List.mem_append_right _ h)) (by decide +kernel))
set_option maxRecDepth 20000 in
theorem gX5_addPoint_X5_requireState : GoodIn wsX5_addPoint (va_wsS RX5 52 yX5_requireState wsX5_requireState) := goodIn_app (goodIn_of _ (by decide +kernel)) ggX5_addPoint_X5_requireState
set_option maxRecDepth 20000 in
theorem ggX5_addPoint_X4_addLast : GoodIn wsX5_addPoint wsX4_addLast := goodIn_r _ [44, 30, 31, 45, 46, 47, 60, 61, 62, 63, 64] (by decide +kernel) (by decide +kernel)
set_option maxRecDepth 20000 in
theorem gX5_addPoint_X4_addLast : GoodIn wsX5_addPoint (wsV RX5 88 RX4 yX4_addLast wsX4_addLast) := goodIn_app (goodIn_of _ (by decide +kernel)) ggX5_addPoint_X4_addLast
theorem dX5_addPoint_0 : decode cX5_addPoint 0 = .ok (.aload_n 0, 1) := by decide +kernel
theorem dX5_addPoint_1 : decode cX5_addPoint 1 = .ok (.iload_n 1, 1) := by decide +kernel
theorem dX5_addPoint_2 : decode cX5_addPoint 2 = .ok (.invokevirtual 16, 3) := by decide +kernel
theorem dX5_addPoint_5 : decode cX5_addPoint 5 = .ok (.getfield 65, 3) := by decide +kernel
theorem dX5_addPoint_8 : decode cX5_addPoint 8 = .ok (.astore 6, 2) := by decide +kernel
theorem dX5_addPoint_10 : decode cX5_addPoint 10 = .ok (.iload_n 2, 1) := by decide +kernel
theorem dX5_addPoint_11 : decode cX5_addPoint 11 = .ok (.ldc 75, 2) := by decide +kernel
theorem dX5_addPoint_13 : decode cX5_addPoint 13 = .ok (.ldc 76, 2) := by decide +kernel
theorem dX5_addPoint_15 : decode cX5_addPoint 15 = .ok (.invokestatic 24, 3) := by decide +kernel
theorem dX5_addPoint_18 : decode cX5_addPoint 18 = .ok (.iload_n 3, 1) := by decide +kernel
theorem dX5_addPoint_19 : decode cX5_addPoint 19 = .ok (.iload 4, 2) := by decide +kernel
theorem dX5_addPoint_21 : decode cX5_addPoint 21 = .ok (.iload 5, 2) := by decide +kernel
theorem dX5_addPoint_23 : decode cX5_addPoint 23 = .ok (.invokestatic 46, 3) := by decide +kernel
theorem dX5_addPoint_26 : decode cX5_addPoint 26 = .ok (.aload 6, 2) := by decide +kernel
theorem dX5_addPoint_28 : decode cX5_addPoint 28 = .ok (.iload_n 2, 1) := by decide +kernel
theorem dX5_addPoint_29 : decode cX5_addPoint 29 = .ok (.invokevirtual 77, 3) := by decide +kernel
theorem dX5_addPoint_32 : decode cX5_addPoint 32 = .ok (.invokestatic 81, 3) := by decide +kernel
theorem dX5_addPoint_35 : decode cX5_addPoint 35 = .ok (.aload 6, 2) := by decide +kernel
theorem dX5_addPoint_37 : decode cX5_addPoint 37 = .ok (.invokevirtual 84, 3) := by decide +kernel
theorem dX5_addPoint_40 : decode cX5_addPoint 40 = .ok (.ifCond .ne 7, 3) := by decide +kernel
theorem dX5_addPoint_43 : decode cX5_addPoint 43 = .ok (.iconst 1, 1) := by decide +kernel
theorem dX5_addPoint_44 : decode cX5_addPoint 44 = .ok (.goto 4, 3) := by decide +kernel
theorem dX5_addPoint_47 : decode cX5_addPoint 47 = .ok (.iconst 0, 1) := by decide +kernel
theorem dX5_addPoint_48 : decode cX5_addPoint 48 = .ok (.invokestatic 52, 3) := by decide +kernel
theorem dX5_addPoint_51 : decode cX5_addPoint 51 = .ok (.aload 6, 2) := by decide +kernel
theorem dX5_addPoint_53 : decode cX5_addPoint 53 = .ok (.iload_n 2, 1) := by decide +kernel
theorem dX5_addPoint_54 : decode cX5_addPoint 54 = .ok (.iload_n 3, 1) := by decide +kernel
theorem dX5_addPoint_55 : decode cX5_addPoint 55 = .ok (.iload 4, 2) := by decide +kernel
theorem dX5_addPoint_57 : decode cX5_addPoint 57 = .ok (.iload 5, 2) := by decide +kernel
theorem dX5_addPoint_59 : decode cX5_addPoint 59 = .ok (.invokevirtual 88, 3) := by decide +kernel
theorem dX5_addPoint_62 : decode cX5_addPoint 62 = .ok (.ireturn, 1) := by decide +kernel
set_option maxRecDepth 20000 in
theorem ggX5_setLimits_X5_loopAt : GoodIn wsX5_setLimits wsX5_loopAt := goodIn_ca (goodIn_r _ [10, 11, 12, 13, 47, 48] (by decide +kernel) (by decide +kernel)) (goodIn_sub (fun _ h => List.mem_cons_of_mem _ (List.mem_append_left _ (List.mem_append_right _ h))) (by decide +kernel))
set_option maxRecDepth 20000 in
theorem gX5_setLimits_X5_loopAt : GoodIn wsX5_setLimits (wsV RX5 16 RX5 yX5_loopAt wsX5_loopAt) := goodIn_app (goodIn_of _ (by decide +kernel)) ggX5_setLimits_X5_loopAt
set_option maxRecDepth 20000 in
theorem ggX5_setLimits_X5_requireWithin : GoodIn wsX5_setLimits wsX5_requireWithin := goodIn_ca (goodIn_r _ [16, 17, 18, 9, 19, 20, 21] (by decide +kernel) (by decide +kernel)) (goodIn_sub (fun _ h => List.mem_cons_of_mem _ (List.mem_append_right _ h)) (by decide +kernel))
set_option maxRecDepth 20000 in
theorem gX5_setLimits_X5_requireWithin : GoodIn wsX5_setLimits (va_wsS RX5 24 yX5_requireWithin wsX5_requireWithin) := goodIn_app (goodIn_of _ (by decide +kernel)) ggX5_setLimits_X5_requireWithin
theorem dX5_setLimits_0 : decode cX5_setLimits 0 = .ok (.aload_n 0, 1) := by decide +kernel
theorem dX5_setLimits_1 : decode cX5_setLimits 1 = .ok (.iload_n 1, 1) := by decide +kernel
theorem dX5_setLimits_2 : decode cX5_setLimits 2 = .ok (.invokevirtual 16, 3) := by decide +kernel
theorem dX5_setLimits_5 : decode cX5_setLimits 5 = .ok (.getfield 56, 3) := by decide +kernel
theorem dX5_setLimits_8 : decode cX5_setLimits 8 = .ok (.astore 4, 2) := by decide +kernel
theorem dX5_setLimits_10 : decode cX5_setLimits 10 = .ok (.iload_n 2, 1) := by decide +kernel
theorem dX5_setLimits_11 : decode cX5_setLimits 11 = .ok (.ldc 75, 2) := by decide +kernel
theorem dX5_setLimits_13 : decode cX5_setLimits 13 = .ok (.ldc 76, 2) := by decide +kernel
theorem dX5_setLimits_15 : decode cX5_setLimits 15 = .ok (.invokestatic 24, 3) := by decide +kernel
theorem dX5_setLimits_18 : decode cX5_setLimits 18 = .ok (.iload_n 3, 1) := by decide +kernel
theorem dX5_setLimits_19 : decode cX5_setLimits 19 = .ok (.iload_n 2, 1) := by decide +kernel
theorem dX5_setLimits_20 : decode cX5_setLimits 20 = .ok (.ldc 76, 2) := by decide +kernel
theorem dX5_setLimits_22 : decode cX5_setLimits 22 = .ok (.invokestatic 24, 3) := by decide +kernel
theorem dX5_setLimits_25 : decode cX5_setLimits 25 = .ok (.aload 4, 2) := by decide +kernel
theorem dX5_setLimits_27 : decode cX5_setLimits 27 = .ok (.iload_n 2, 1) := by decide +kernel
theorem dX5_setLimits_28 : decode cX5_setLimits 28 = .ok (.putfield 92, 3) := by decide +kernel
theorem dX5_setLimits_31 : decode cX5_setLimits 31 = .ok (.aload 4, 2) := by decide +kernel
theorem dX5_setLimits_33 : decode cX5_setLimits 33 = .ok (.iload_n 3, 1) := by decide +kernel
theorem dX5_setLimits_34 : decode cX5_setLimits 34 = .ok (.putfield 95, 3) := by decide +kernel
theorem dX5_setLimits_37 : decode cX5_setLimits 37 = .ok (.return_, 1) := by decide +kernel
set_option maxRecDepth 20000 in
theorem ggX5_setGuard_X5_loopAt : GoodIn wsX5_setGuard wsX5_loopAt := goodIn_ca (goodIn_r _ [8, 9, 10, 11, 45, 46] (by decide +kernel) (by decide +kernel)) (goodIn_sub (fun _ h => List.mem_cons_of_mem _ (List.mem_append_left _ (List.mem_append_right _ h))) (by decide +kernel))
set_option maxRecDepth 20000 in
theorem gX5_setGuard_X5_loopAt : GoodIn wsX5_setGuard (wsV RX5 16 RX5 yX5_loopAt wsX5_loopAt) := goodIn_app (goodIn_of _ (by decide +kernel)) ggX5_setGuard_X5_loopAt
set_option maxRecDepth 20000 in
theorem ggX5_setGuard_X5_requireWithin : GoodIn wsX5_setGuard wsX5_requireWithin := goodIn_ca (goodIn_r _ [14, 15, 16, 7, 17, 18, 19] (by decide +kernel) (by decide +kernel)) (goodIn_sub (fun _ h => List.mem_cons_of_mem _ (List.mem_append_right _ h)) (by decide +kernel))
set_option maxRecDepth 20000 in
theorem gX5_setGuard_X5_requireWithin : GoodIn wsX5_setGuard (va_wsS RX5 24 yX5_requireWithin wsX5_requireWithin) := goodIn_app (goodIn_of _ (by decide +kernel)) ggX5_setGuard_X5_requireWithin
theorem dX5_setGuard_0 : decode cX5_setGuard 0 = .ok (.aload_n 0, 1) := by decide +kernel
theorem dX5_setGuard_1 : decode cX5_setGuard 1 = .ok (.iload_n 1, 1) := by decide +kernel
theorem dX5_setGuard_2 : decode cX5_setGuard 2 = .ok (.invokevirtual 16, 3) := by decide +kernel
theorem dX5_setGuard_5 : decode cX5_setGuard 5 = .ok (.getfield 56, 3) := by decide +kernel
theorem dX5_setGuard_8 : decode cX5_setGuard 8 = .ok (.astore 4, 2) := by decide +kernel
theorem dX5_setGuard_10 : decode cX5_setGuard 10 = .ok (.iload_n 2, 1) := by decide +kernel
theorem dX5_setGuard_11 : decode cX5_setGuard 11 = .ok (.iconst 0, 1) := by decide +kernel
theorem dX5_setGuard_12 : decode cX5_setGuard 12 = .ok (.iconst 2, 1) := by decide +kernel
theorem dX5_setGuard_13 : decode cX5_setGuard 13 = .ok (.invokestatic 24, 3) := by decide +kernel
theorem dX5_setGuard_16 : decode cX5_setGuard 16 = .ok (.iload_n 3, 1) := by decide +kernel
theorem dX5_setGuard_17 : decode cX5_setGuard 17 = .ok (.iconst 0, 1) := by decide +kernel
theorem dX5_setGuard_18 : decode cX5_setGuard 18 = .ok (.sipush 1000, 3) := by decide +kernel
theorem dX5_setGuard_21 : decode cX5_setGuard 21 = .ok (.invokestatic 24, 3) := by decide +kernel
theorem dX5_setGuard_24 : decode cX5_setGuard 24 = .ok (.aload 4, 2) := by decide +kernel
theorem dX5_setGuard_26 : decode cX5_setGuard 26 = .ok (.getfield 98, 3) := by decide +kernel
theorem dX5_setGuard_29 : decode cX5_setGuard 29 = .ok (.istore 5, 2) := by decide +kernel
theorem dX5_setGuard_31 : decode cX5_setGuard 31 = .ok (.aload 4, 2) := by decide +kernel
theorem dX5_setGuard_33 : decode cX5_setGuard 33 = .ok (.iload_n 2, 1) := by decide +kernel
theorem dX5_setGuard_34 : decode cX5_setGuard 34 = .ok (.putfield 98, 3) := by decide +kernel
theorem dX5_setGuard_37 : decode cX5_setGuard 37 = .ok (.aload 4, 2) := by decide +kernel
theorem dX5_setGuard_39 : decode cX5_setGuard 39 = .ok (.iload_n 3, 1) := by decide +kernel
theorem dX5_setGuard_40 : decode cX5_setGuard 40 = .ok (.putfield 101, 3) := by decide +kernel
theorem dX5_setGuard_43 : decode cX5_setGuard 43 = .ok (.iload 5, 2) := by decide +kernel
theorem dX5_setGuard_45 : decode cX5_setGuard 45 = .ok (.ireturn, 1) := by decide +kernel
set_option maxRecDepth 20000 in
theorem ggX5_setSetpoint_X5_loopAt : GoodIn wsX5_setSetpoint wsX5_loopAt := goodIn_ca (goodIn_r _ [10, 11, 12, 13, 52, 53] (by decide +kernel) (by decide +kernel)) (goodIn_sub (fun _ h => List.mem_cons_of_mem _ (List.mem_append_left _ (List.mem_append_left _ (List.mem_append_right _ h)))) (by decide +kernel))
set_option maxRecDepth 20000 in
theorem gX5_setSetpoint_X5_loopAt : GoodIn wsX5_setSetpoint (wsV RX5 16 RX5 yX5_loopAt wsX5_loopAt) := goodIn_app (goodIn_of _ (by decide +kernel)) ggX5_setSetpoint_X5_loopAt
set_option maxRecDepth 20000 in
theorem ggX5_setSetpoint_X5_requireWithin : GoodIn wsX5_setSetpoint wsX5_requireWithin := goodIn_ca (goodIn_r _ [16, 17, 18, 9, 19, 20, 21] (by decide +kernel) (by decide +kernel)) (goodIn_sub (fun _ h => List.mem_cons_of_mem _ (List.mem_append_left _ (List.mem_append_right _ h))) (by decide +kernel))
set_option maxRecDepth 20000 in
theorem gX5_setSetpoint_X5_requireWithin : GoodIn wsX5_setSetpoint (va_wsS RX5 24 yX5_requireWithin wsX5_requireWithin) := goodIn_app (goodIn_of _ (by decide +kernel)) ggX5_setSetpoint_X5_requireWithin
set_option maxRecDepth 20000 in
theorem ggX5_setSetpoint_X5_requireState : GoodIn wsX5_setSetpoint wsX5_requireState := goodIn_ca (goodIn_r _ [24, 25, 26] (by decide +kernel) (by decide +kernel)) (goodIn_sub (fun _ h => List.mem_cons_of_mem _ (List.mem_append_right _ h)) (by decide +kernel))
set_option maxRecDepth 20000 in
theorem gX5_setSetpoint_X5_requireState : GoodIn wsX5_setSetpoint (va_wsS RX5 52 yX5_requireState wsX5_requireState) := goodIn_app (goodIn_of _ (by decide +kernel)) ggX5_setSetpoint_X5_requireState
theorem dX5_setSetpoint_0 : decode cX5_setSetpoint 0 = .ok (.aload_n 0, 1) := by decide +kernel
theorem dX5_setSetpoint_1 : decode cX5_setSetpoint 1 = .ok (.iload_n 1, 1) := by decide +kernel
theorem dX5_setSetpoint_2 : decode cX5_setSetpoint 2 = .ok (.invokevirtual 16, 3) := by decide +kernel
theorem dX5_setSetpoint_5 : decode cX5_setSetpoint 5 = .ok (.astore_n 3, 1) := by decide +kernel
theorem dX5_setSetpoint_6 : decode cX5_setSetpoint 6 = .ok (.iload_n 2, 1) := by decide +kernel
theorem dX5_setSetpoint_7 : decode cX5_setSetpoint 7 = .ok (.ldc 75, 2) := by decide +kernel
theorem dX5_setSetpoint_9 : decode cX5_setSetpoint 9 = .ok (.ldc 76, 2) := by decide +kernel
theorem dX5_setSetpoint_11 : decode cX5_setSetpoint 11 = .ok (.invokestatic 24, 3) := by decide +kernel
theorem dX5_setSetpoint_14 : decode cX5_setSetpoint 14 = .ok (.aload_n 3, 1) := by decide +kernel
theorem dX5_setSetpoint_15 : decode cX5_setSetpoint 15 = .ok (.getfield 49, 3) := by decide +kernel
theorem dX5_setSetpoint_18 : decode cX5_setSetpoint 18 = .ok (.iconst 2, 1) := by decide +kernel
theorem dX5_setSetpoint_19 : decode cX5_setSetpoint 19 = .ok (.if_icmp .eq 7, 3) := by decide +kernel
theorem dX5_setSetpoint_22 : decode cX5_setSetpoint 22 = .ok (.iconst 1, 1) := by decide +kernel
theorem dX5_setSetpoint_23 : decode cX5_setSetpoint 23 = .ok (.goto 4, 3) := by decide +kernel
theorem dX5_setSetpoint_26 : decode cX5_setSetpoint 26 = .ok (.iconst 0, 1) := by decide +kernel
theorem dX5_setSetpoint_27 : decode cX5_setSetpoint 27 = .ok (.invokestatic 52, 3) := by decide +kernel
theorem dX5_setSetpoint_30 : decode cX5_setSetpoint 30 = .ok (.aload_n 3, 1) := by decide +kernel
theorem dX5_setSetpoint_31 : decode cX5_setSetpoint 31 = .ok (.getfield 56, 3) := by decide +kernel
theorem dX5_setSetpoint_34 : decode cX5_setSetpoint 34 = .ok (.getfield 104, 3) := by decide +kernel
theorem dX5_setSetpoint_37 : decode cX5_setSetpoint 37 = .ok (.lstore 4, 2) := by decide +kernel
theorem dX5_setSetpoint_39 : decode cX5_setSetpoint 39 = .ok (.aload_n 3, 1) := by decide +kernel
theorem dX5_setSetpoint_40 : decode cX5_setSetpoint 40 = .ok (.getfield 56, 3) := by decide +kernel
theorem dX5_setSetpoint_43 : decode cX5_setSetpoint 43 = .ok (.iload_n 2, 1) := by decide +kernel
theorem dX5_setSetpoint_44 : decode cX5_setSetpoint 44 = .ok (.i2l, 1) := by decide +kernel
theorem dX5_setSetpoint_45 : decode cX5_setSetpoint 45 = .ok (.putfield 104, 3) := by decide +kernel
theorem dX5_setSetpoint_48 : decode cX5_setSetpoint 48 = .ok (.lload 4, 2) := by decide +kernel
theorem dX5_setSetpoint_50 : decode cX5_setSetpoint 50 = .ok (.l2i, 1) := by decide +kernel
theorem dX5_setSetpoint_51 : decode cX5_setSetpoint 51 = .ok (.ireturn, 1) := by decide +kernel
set_option maxRecDepth 20000 in
theorem ggX5_setHand_X5_loopAt : GoodIn wsX5_setHand wsX5_loopAt := goodIn_ca (goodIn_r _ [9, 10, 11, 12, 36, 37] (by decide +kernel) (by decide +kernel)) (goodIn_sub (fun _ h => List.mem_cons_of_mem _ (List.mem_append_left _ (List.mem_append_left _ (List.mem_append_right _ h)))) (by decide +kernel))
set_option maxRecDepth 20000 in
theorem gX5_setHand_X5_loopAt : GoodIn wsX5_setHand (wsV RX5 16 RX5 yX5_loopAt wsX5_loopAt) := goodIn_app (goodIn_of _ (by decide +kernel)) ggX5_setHand_X5_loopAt
set_option maxRecDepth 20000 in
theorem ggX5_setHand_X5_requireWithin : GoodIn wsX5_setHand wsX5_requireWithin := goodIn_ca (goodIn_r _ [15, 16, 17, 8, 18, 19, 20] (by decide +kernel) (by decide +kernel)) (goodIn_sub (fun _ h => List.mem_cons_of_mem _ (List.mem_append_left _ (List.mem_append_right _ h))) (by decide +kernel))
set_option maxRecDepth 20000 in
theorem gX5_setHand_X5_requireWithin : GoodIn wsX5_setHand (va_wsS RX5 24 yX5_requireWithin wsX5_requireWithin) := goodIn_app (goodIn_of _ (by decide +kernel)) ggX5_setHand_X5_requireWithin
set_option maxRecDepth 20000 in
theorem ggX5_setHand_X5_requireState : GoodIn wsX5_setHand wsX5_requireState := goodIn_ca (goodIn_r _ [23, 24, 25] (by decide +kernel) (by decide +kernel)) (goodIn_sub (fun _ h => List.mem_cons_of_mem _ (List.mem_append_right _ h)) (by decide +kernel))
set_option maxRecDepth 20000 in
theorem gX5_setHand_X5_requireState : GoodIn wsX5_setHand (va_wsS RX5 52 yX5_requireState wsX5_requireState) := goodIn_app (goodIn_of _ (by decide +kernel)) ggX5_setHand_X5_requireState
theorem dX5_setHand_0 : decode cX5_setHand 0 = .ok (.aload_n 0, 1) := by decide +kernel
theorem dX5_setHand_1 : decode cX5_setHand 1 = .ok (.iload_n 1, 1) := by decide +kernel
theorem dX5_setHand_2 : decode cX5_setHand 2 = .ok (.invokevirtual 16, 3) := by decide +kernel
theorem dX5_setHand_5 : decode cX5_setHand 5 = .ok (.astore_n 3, 1) := by decide +kernel
theorem dX5_setHand_6 : decode cX5_setHand 6 = .ok (.iload_n 2, 1) := by decide +kernel
theorem dX5_setHand_7 : decode cX5_setHand 7 = .ok (.ldc 75, 2) := by decide +kernel
theorem dX5_setHand_9 : decode cX5_setHand 9 = .ok (.ldc 76, 2) := by decide +kernel
theorem dX5_setHand_11 : decode cX5_setHand 11 = .ok (.invokestatic 24, 3) := by decide +kernel
theorem dX5_setHand_14 : decode cX5_setHand 14 = .ok (.aload_n 3, 1) := by decide +kernel
theorem dX5_setHand_15 : decode cX5_setHand 15 = .ok (.getfield 49, 3) := by decide +kernel
theorem dX5_setHand_18 : decode cX5_setHand 18 = .ok (.ifCond .ne 7, 3) := by decide +kernel
theorem dX5_setHand_21 : decode cX5_setHand 21 = .ok (.iconst 1, 1) := by decide +kernel
theorem dX5_setHand_22 : decode cX5_setHand 22 = .ok (.goto 4, 3) := by decide +kernel
theorem dX5_setHand_25 : decode cX5_setHand 25 = .ok (.iconst 0, 1) := by decide +kernel
theorem dX5_setHand_26 : decode cX5_setHand 26 = .ok (.invokestatic 52, 3) := by decide +kernel
theorem dX5_setHand_29 : decode cX5_setHand 29 = .ok (.aload_n 3, 1) := by decide +kernel
theorem dX5_setHand_30 : decode cX5_setHand 30 = .ok (.getfield 108, 3) := by decide +kernel
theorem dX5_setHand_33 : decode cX5_setHand 33 = .ok (.lstore 4, 2) := by decide +kernel
theorem dX5_setHand_35 : decode cX5_setHand 35 = .ok (.aload_n 3, 1) := by decide +kernel
theorem dX5_setHand_36 : decode cX5_setHand 36 = .ok (.iload_n 2, 1) := by decide +kernel
theorem dX5_setHand_37 : decode cX5_setHand 37 = .ok (.i2l, 1) := by decide +kernel
theorem dX5_setHand_38 : decode cX5_setHand 38 = .ok (.putfield 108, 3) := by decide +kernel
theorem dX5_setHand_41 : decode cX5_setHand 41 = .ok (.lload 4, 2) := by decide +kernel
theorem dX5_setHand_43 : decode cX5_setHand 43 = .ok (.l2i, 1) := by decide +kernel
theorem dX5_setHand_44 : decode cX5_setHand 44 = .ok (.ireturn, 1) := by decide +kernel
set_option maxRecDepth 20000 in
theorem ggX5_setTies_X5_loopAt : GoodIn wsX5_setTies wsX5_loopAt := goodIn_ca (goodIn_r _ [8, 9, 10, 11, 32, 33] (by decide +kernel) (by decide +kernel)) (goodIn_sub (fun _ h => List.mem_cons_of_mem _ (List.mem_append_left _ (List.mem_append_left _ (List.mem_append_right _ h)))) (by decide +kernel))
set_option maxRecDepth 20000 in
theorem gX5_setTies_X5_loopAt : GoodIn wsX5_setTies (wsV RX5 16 RX5 yX5_loopAt wsX5_loopAt) := goodIn_app (goodIn_of _ (by decide +kernel)) ggX5_setTies_X5_loopAt
set_option maxRecDepth 20000 in
theorem ggX5_setTies_X5_requireArgument : GoodIn wsX5_setTies wsX5_requireArgument := goodIn_ca (goodIn_r _ [14, 15, 16] (by decide +kernel) (by decide +kernel)) (goodIn_sub (fun _ h => List.mem_cons_of_mem _ (List.mem_append_left _ (List.mem_append_right _ h))) (by decide +kernel))
set_option maxRecDepth 20000 in
theorem gX5_setTies_X5_requireArgument : GoodIn wsX5_setTies (va_wsS RX5 81 yX5_requireArgument wsX5_requireArgument) := goodIn_app (goodIn_of _ (by decide +kernel)) ggX5_setTies_X5_requireArgument
set_option maxRecDepth 20000 in
theorem ggX5_setTies_X5_requireState : GoodIn wsX5_setTies wsX5_requireState := goodIn_ca (goodIn_r _ [19, 20, 21] (by decide +kernel) (by decide +kernel)) (goodIn_sub (fun _ h => List.mem_cons_of_mem _ (List.mem_append_right _ h)) (by decide +kernel))
set_option maxRecDepth 20000 in
theorem gX5_setTies_X5_requireState : GoodIn wsX5_setTies (va_wsS RX5 52 yX5_requireState wsX5_requireState) := goodIn_app (goodIn_of _ (by decide +kernel)) ggX5_setTies_X5_requireState
theorem dX5_setTies_0 : decode cX5_setTies 0 = .ok (.aload_n 0, 1) := by decide +kernel
theorem dX5_setTies_1 : decode cX5_setTies 1 = .ok (.iload_n 1, 1) := by decide +kernel
theorem dX5_setTies_2 : decode cX5_setTies 2 = .ok (.invokevirtual 16, 3) := by decide +kernel
theorem dX5_setTies_5 : decode cX5_setTies 5 = .ok (.astore 4, 2) := by decide +kernel
theorem dX5_setTies_7 : decode cX5_setTies 7 = .ok (.iload_n 1, 1) := by decide +kernel
theorem dX5_setTies_8 : decode cX5_setTies 8 = .ok (.ifCond .ne 7, 3) := by decide +kernel
theorem dX5_setTies_11 : decode cX5_setTies 11 = .ok (.iload_n 3, 1) := by decide +kernel
theorem dX5_setTies_12 : decode cX5_setTies 12 = .ok (.ifCond .ne 7, 3) := by decide +kernel
theorem dX5_setTies_15 : decode cX5_setTies 15 = .ok (.iconst 1, 1) := by decide +kernel
theorem dX5_setTies_16 : decode cX5_setTies 16 = .ok (.goto 4, 3) := by decide +kernel
theorem dX5_setTies_19 : decode cX5_setTies 19 = .ok (.iconst 0, 1) := by decide +kernel
theorem dX5_setTies_20 : decode cX5_setTies 20 = .ok (.invokestatic 81, 3) := by decide +kernel
theorem dX5_setTies_23 : decode cX5_setTies 23 = .ok (.iload_n 3, 1) := by decide +kernel
theorem dX5_setTies_24 : decode cX5_setTies 24 = .ok (.ifCond .ne 12, 3) := by decide +kernel
theorem dX5_setTies_27 : decode cX5_setTies 27 = .ok (.aload 4, 2) := by decide +kernel
theorem dX5_setTies_29 : decode cX5_setTies 29 = .ok (.getfield 49, 3) := by decide +kernel
theorem dX5_setTies_32 : decode cX5_setTies 32 = .ok (.iconst 2, 1) := by decide +kernel
theorem dX5_setTies_33 : decode cX5_setTies 33 = .ok (.if_icmp .eq 7, 3) := by decide +kernel
theorem dX5_setTies_36 : decode cX5_setTies 36 = .ok (.iconst 1, 1) := by decide +kernel
theorem dX5_setTies_37 : decode cX5_setTies 37 = .ok (.goto 4, 3) := by decide +kernel
theorem dX5_setTies_40 : decode cX5_setTies 40 = .ok (.iconst 0, 1) := by decide +kernel
theorem dX5_setTies_41 : decode cX5_setTies 41 = .ok (.invokestatic 52, 3) := by decide +kernel
theorem dX5_setTies_44 : decode cX5_setTies 44 = .ok (.aload 4, 2) := by decide +kernel
theorem dX5_setTies_46 : decode cX5_setTies 46 = .ok (.iload_n 2, 1) := by decide +kernel
theorem dX5_setTies_47 : decode cX5_setTies 47 = .ok (.putfield 111, 3) := by decide +kernel
theorem dX5_setTies_50 : decode cX5_setTies 50 = .ok (.aload 4, 2) := by decide +kernel
theorem dX5_setTies_52 : decode cX5_setTies 52 = .ok (.iload_n 3, 1) := by decide +kernel
theorem dX5_setTies_53 : decode cX5_setTies 53 = .ok (.putfield 115, 3) := by decide +kernel
theorem dX5_setTies_56 : decode cX5_setTies 56 = .ok (.return_, 1) := by decide +kernel
set_option maxRecDepth 20000 in
theorem ggX5_setMode_X5_loopAt : GoodIn wsX5_setMode wsX5_loopAt := goodIn_ca (goodIn_r _ [7, 8, 9, 10, 76, 77] (by decide +kernel) (by decide +kernel)) (goodIn_sub (fun _ h => List.mem_cons_of_mem _ (List.mem_append_left _ (List.mem_append_left _ (List.mem_append_right _ h)))) (by decide +kernel))
set_option maxRecDepth 20000 in
theorem gX5_setMode_X5_loopAt : GoodIn wsX5_setMode (wsV RX5 16 RX5 yX5_loopAt wsX5_loopAt) := goodIn_app (goodIn_of _ (by decide +kernel)) ggX5_setMode_X5_loopAt
set_option maxRecDepth 20000 in
theorem ggX5_setMode_X5_requireWithin : GoodIn wsX5_setMode wsX5_requireWithin := goodIn_ca (goodIn_r _ [13, 14, 15, 6, 16, 17, 18] (by decide +kernel) (by decide +kernel)) (goodIn_sub (fun _ h => List.mem_cons_of_mem _ (List.mem_append_left _ (List.mem_append_right _ h))) (by decide +kernel))
set_option maxRecDepth 20000 in
theorem gX5_setMode_X5_requireWithin : GoodIn wsX5_setMode (va_wsS RX5 24 yX5_requireWithin wsX5_requireWithin) := goodIn_app (goodIn_of _ (by decide +kernel)) ggX5_setMode_X5_requireWithin
set_option maxRecDepth 20000 in
theorem ggX5_setMode_X5_requireState : GoodIn wsX5_setMode wsX5_requireState := goodIn_ca (goodIn_r _ [21, 22, 23] (by decide +kernel) (by decide +kernel)) (goodIn_sub (fun _ h => List.mem_cons_of_mem _ (List.mem_append_right _ h)) (by decide +kernel))
set_option maxRecDepth 20000 in
theorem gX5_setMode_X5_requireState : GoodIn wsX5_setMode (va_wsS RX5 52 yX5_requireState wsX5_requireState) := goodIn_app (goodIn_of _ (by decide +kernel)) ggX5_setMode_X5_requireState
set_option maxRecDepth 20000 in
theorem ggX5_setMode_X1_changeMode : GoodIn wsX5_setMode wsX1_changeMode := goodIn_r _ [28, 29, 30, 31, 32, 33, 34, 27, 35, 36, 37, 38, 39, 40, 41, 42, 43, 44, 45, 46, 47, 48, 49, 50, 51, 52, 53, 54, 55, 56, 57, 58, 59, 60, 61, 62, 63, 64, 65, 66, 67, 68, 69, 70, 71, 72, 73, 74, 75, 78, 79, 80, 81, 82, 83, 84, 85, 86, 87, 88, 89, 90, 91, 92, 93, 94, 95, 96, 97, 98, 99, 100, 101, 102, 103, 104, 105, 106, 107, 108, 109, 110, 111, 112, 113] (by decide +kernel) (by decide +kernel)
set_option maxRecDepth 20000 in
theorem gX5_setMode_X1_changeMode : GoodIn wsX5_setMode (wsV RX5 118 RX1 yX1_changeMode wsX1_changeMode) := goodIn_app (goodIn_of _ (by decide +kernel)) ggX5_setMode_X1_changeMode
theorem dX5_setMode_0 : decode cX5_setMode 0 = .ok (.aload_n 0, 1) := by decide +kernel
theorem dX5_setMode_1 : decode cX5_setMode 1 = .ok (.iload_n 1, 1) := by decide +kernel
theorem dX5_setMode_2 : decode cX5_setMode 2 = .ok (.invokevirtual 16, 3) := by decide +kernel
theorem dX5_setMode_5 : decode cX5_setMode 5 = .ok (.astore_n 3, 1) := by decide +kernel
theorem dX5_setMode_6 : decode cX5_setMode 6 = .ok (.iload_n 2, 1) := by decide +kernel
theorem dX5_setMode_7 : decode cX5_setMode 7 = .ok (.iconst 0, 1) := by decide +kernel
theorem dX5_setMode_8 : decode cX5_setMode 8 = .ok (.iconst 2, 1) := by decide +kernel
theorem dX5_setMode_9 : decode cX5_setMode 9 = .ok (.invokestatic 24, 3) := by decide +kernel
theorem dX5_setMode_12 : decode cX5_setMode 12 = .ok (.aload_n 3, 1) := by decide +kernel
theorem dX5_setMode_13 : decode cX5_setMode 13 = .ok (.getfield 49, 3) := by decide +kernel
theorem dX5_setMode_16 : decode cX5_setMode 16 = .ok (.iconst 3, 1) := by decide +kernel
theorem dX5_setMode_17 : decode cX5_setMode 17 = .ok (.if_icmp .ne 7, 3) := by decide +kernel
theorem dX5_setMode_20 : decode cX5_setMode 20 = .ok (.iload_n 2, 1) := by decide +kernel
theorem dX5_setMode_21 : decode cX5_setMode 21 = .ok (.ifCond .ne 7, 3) := by decide +kernel
theorem dX5_setMode_24 : decode cX5_setMode 24 = .ok (.iconst 1, 1) := by decide +kernel
theorem dX5_setMode_25 : decode cX5_setMode 25 = .ok (.goto 4, 3) := by decide +kernel
theorem dX5_setMode_28 : decode cX5_setMode 28 = .ok (.iconst 0, 1) := by decide +kernel
theorem dX5_setMode_29 : decode cX5_setMode 29 = .ok (.invokestatic 52, 3) := by decide +kernel
theorem dX5_setMode_32 : decode cX5_setMode 32 = .ok (.iload_n 2, 1) := by decide +kernel
theorem dX5_setMode_33 : decode cX5_setMode 33 = .ok (.iconst 2, 1) := by decide +kernel
theorem dX5_setMode_34 : decode cX5_setMode 34 = .ok (.if_icmp .ne 10, 3) := by decide +kernel
theorem dX5_setMode_37 : decode cX5_setMode 37 = .ok (.aload_n 3, 1) := by decide +kernel
theorem dX5_setMode_38 : decode cX5_setMode 38 = .ok (.getfield 115, 3) := by decide +kernel
theorem dX5_setMode_41 : decode cX5_setMode 41 = .ok (.ifCond .eq 7, 3) := by decide +kernel
theorem dX5_setMode_44 : decode cX5_setMode 44 = .ok (.iconst 1, 1) := by decide +kernel
theorem dX5_setMode_45 : decode cX5_setMode 45 = .ok (.goto 4, 3) := by decide +kernel
theorem dX5_setMode_48 : decode cX5_setMode 48 = .ok (.iconst 0, 1) := by decide +kernel
theorem dX5_setMode_49 : decode cX5_setMode 49 = .ok (.invokestatic 52, 3) := by decide +kernel
theorem dX5_setMode_52 : decode cX5_setMode 52 = .ok (.aload_n 3, 1) := by decide +kernel
theorem dX5_setMode_53 : decode cX5_setMode 53 = .ok (.getfield 49, 3) := by decide +kernel
theorem dX5_setMode_56 : decode cX5_setMode 56 = .ok (.istore 4, 2) := by decide +kernel
theorem dX5_setMode_58 : decode cX5_setMode 58 = .ok (.aload_n 3, 1) := by decide +kernel
theorem dX5_setMode_59 : decode cX5_setMode 59 = .ok (.iload_n 2, 1) := by decide +kernel
theorem dX5_setMode_60 : decode cX5_setMode 60 = .ok (.invokevirtual 118, 3) := by decide +kernel
theorem dX5_setMode_63 : decode cX5_setMode 63 = .ok (.iload 4, 2) := by decide +kernel
theorem dX5_setMode_65 : decode cX5_setMode 65 = .ok (.ireturn, 1) := by decide +kernel
set_option maxRecDepth 20000 in
theorem ggX5_run_X5_requireWithin : GoodIn wsX5_run wsX5_requireWithin := goodIn_ca (goodIn_r _ [5, 6, 7, 4, 8, 9, 10] (by decide +kernel) (by decide +kernel)) (goodIn_sub (fun _ h => List.mem_cons_of_mem _ (List.mem_append_right _ h)) (by decide +kernel))
set_option maxRecDepth 20000 in
theorem gX5_run_X5_requireWithin : GoodIn wsX5_run (va_wsS RX5 24 yX5_requireWithin wsX5_requireWithin) := goodIn_app (goodIn_of _ (by decide +kernel)) ggX5_run_X5_requireWithin
set_option maxRecDepth 20000 in
theorem ggX5_run_X5_letOneSampleGoBy : GoodIn wsX5_run wsX5_letOneSampleGoBy := goodIn_r _ [14, 15, 16, 17, 18, 19, 20, 4, 21, 22, 23, 24, 25, 26, 27, 28, 29, 30, 31, 32, 33, 34, 35, 36, 37, 38, 39, 40, 41, 42, 43, 44, 45, 46, 47, 48, 49, 50, 51, 52, 53, 54, 55, 56, 57, 58, 59, 60, 61, 62, 63, 64, 65, 66, 67, 68, 69, 70, 71, 72, 73, 74, 75, 76, 77, 78, 79, 80, 81, 82, 83, 84, 85, 86, 87, 88, 89, 90, 91, 92, 93, 94, 95, 96, 97, 98, 99, 100, 101, 102, 103, 104, 105, 106, 107, 108, 109, 110, 111, 112, 113, 114, 115, 116, 117, 118, 119, 120, 121, 122, 123, 124, 125, 126, 127, 128, 129, 130, 131, 132, 133, 134, 135, 136, 137, 138, 139, 140, 141, 142, 143, 144, 145, 146, 147, 148, 149, 150, 151, 152, 153, 154, 155, 156, 157, 158, 159, 160, 161, 162, 163, 164, 165, 166, 167, 168, 169, 170, 171, 172, 173, 174, 175, 176, 177, 178, 179, 180, 181, 182, 183, 184, 185, 186, 187, 188, 189, 190, 191, 192, 193, 194, 195, 196, 197, 198, 199, 200, 201, 202, 203, 204, 205, 206, 207, 208, 209, 210, 211, 212, 213, 214, 215, 216, 217, 218, 219, 220, 221, 222, 223, 224, 225, 226, 227, 228, 229, 230, 231, 232, 233, 234, 235, 236, 237, 238, 239, 240, 241, 242, 243, 244, 245, 246, 247, 248, 249, 250, 251, 252, 253, 254, 255, 256, 257, 258, 259, 260, 261] (by decide +kernel) (by decide +kernel)
set_option maxRecDepth 20000 in
theorem gX5_run_X5_letOneSampleGoBy : GoodIn wsX5_run (wsV RX5 122 RX5 yX5_letOneSampleGoBy wsX5_letOneSampleGoBy) := goodIn_app (goodIn_of _ (by decide +kernel)) ggX5_run_X5_letOneSampleGoBy
theorem dX5_run_0 : decode cX5_run 0 = .ok (.iload_n 1, 1) := by decide +kernel
theorem dX5_run_1 : decode cX5_run 1 = .ok (.iconst 1, 1) := by decide +kernel
theorem dX5_run_2 : decode cX5_run 2 = .ok (.sipush 200, 3) := by decide +kernel
theorem dX5_run_5 : decode cX5_run 5 = .ok (.invokestatic 24, 3) := by decide +kernel
theorem dX5_run_8 : decode cX5_run 8 = .ok (.iconst 0, 1) := by decide +kernel
theorem dX5_run_9 : decode cX5_run 9 = .ok (.istore_n 2, 1) := by decide +kernel
theorem dX5_run_10 : decode cX5_run 10 = .ok (.iload_n 2, 1) := by decide +kernel
theorem dX5_run_11 : decode cX5_run 11 = .ok (.iload_n 1, 1) := by decide +kernel
theorem dX5_run_12 : decode cX5_run 12 = .ok (.if_icmp .ge 13, 3) := by decide +kernel
theorem dX5_run_15 : decode cX5_run 15 = .ok (.aload_n 0, 1) := by decide +kernel
theorem dX5_run_16 : decode cX5_run 16 = .ok (.invokevirtual 122, 3) := by decide +kernel
theorem dX5_run_19 : decode cX5_run 19 = .ok (.iinc 2 1, 3) := by decide +kernel
theorem dX5_run_22 : decode cX5_run 22 = .ok (.goto (-12), 3) := by decide +kernel
theorem dX5_run_25 : decode cX5_run 25 = .ok (.aload_n 0, 1) := by decide +kernel
theorem dX5_run_26 : decode cX5_run 26 = .ok (.dup, 1) := by decide +kernel
theorem dX5_run_27 : decode cX5_run 27 = .ok (.getfield 125, 3) := by decide +kernel
theorem dX5_run_30 : decode cX5_run 30 = .ok (.iload_n 1, 1) := by decide +kernel
theorem dX5_run_31 : decode cX5_run 31 = .ok (.iadd, 1) := by decide +kernel
theorem dX5_run_32 : decode cX5_run 32 = .ok (.putfield 125, 3) := by decide +kernel
theorem dX5_run_35 : decode cX5_run 35 = .ok (.aload_n 0, 1) := by decide +kernel
theorem dX5_run_36 : decode cX5_run 36 = .ok (.getfield 125, 3) := by decide +kernel
theorem dX5_run_39 : decode cX5_run 39 = .ok (.ireturn, 1) := by decide +kernel
set_option maxRecDepth 20000 in
theorem ggX5_measure_X5_loopAt : GoodIn wsX5_measure wsX5_loopAt := goodIn_ca (goodIn_r _ [7, 8, 9, 10, 30, 31] (by decide +kernel) (by decide +kernel)) (goodIn_sub (fun _ h => List.mem_cons_of_mem _ (List.mem_append_right _ h)) (by decide +kernel))
set_option maxRecDepth 20000 in
theorem gX5_measure_X5_loopAt : GoodIn wsX5_measure (wsV RX5 16 RX5 yX5_loopAt wsX5_loopAt) := goodIn_app (goodIn_of _ (by decide +kernel)) ggX5_measure_X5_loopAt
theorem dX5_measure_0 : decode cX5_measure 0 = .ok (.aload_n 0, 1) := by decide +kernel
theorem dX5_measure_1 : decode cX5_measure 1 = .ok (.iload_n 1, 1) := by decide +kernel
theorem dX5_measure_2 : decode cX5_measure 2 = .ok (.invokevirtual 16, 3) := by decide +kernel
theorem dX5_measure_5 : decode cX5_measure 5 = .ok (.getfield 20, 3) := by decide +kernel
theorem dX5_measure_8 : decode cX5_measure 8 = .ok (.getfield 128, 3) := by decide +kernel
theorem dX5_measure_11 : decode cX5_measure 11 = .ok (.lreturn, 1) := by decide +kernel
set_option maxRecDepth 20000 in
theorem ggX5_output_X5_loopAt : GoodIn wsX5_output wsX5_loopAt := goodIn_ca (goodIn_r _ [6, 7, 8, 9, 20, 21] (by decide +kernel) (by decide +kernel)) (goodIn_sub (fun _ h => List.mem_cons_of_mem _ (List.mem_append_right _ h)) (by decide +kernel))
set_option maxRecDepth 20000 in
theorem gX5_output_X5_loopAt : GoodIn wsX5_output (wsV RX5 16 RX5 yX5_loopAt wsX5_loopAt) := goodIn_app (goodIn_of _ (by decide +kernel)) ggX5_output_X5_loopAt
theorem dX5_output_0 : decode cX5_output 0 = .ok (.aload_n 0, 1) := by decide +kernel
theorem dX5_output_1 : decode cX5_output 1 = .ok (.iload_n 1, 1) := by decide +kernel
theorem dX5_output_2 : decode cX5_output 2 = .ok (.invokevirtual 16, 3) := by decide +kernel
theorem dX5_output_5 : decode cX5_output 5 = .ok (.getfield 131, 3) := by decide +kernel
theorem dX5_output_8 : decode cX5_output 8 = .ok (.lreturn, 1) := by decide +kernel
set_option maxRecDepth 20000 in
theorem ggX5_outputByIncrements_X5_loopAt : GoodIn wsX5_outputByIncrements wsX5_loopAt := goodIn_ca (goodIn_r _ [8, 9, 10, 11, 41, 42] (by decide +kernel) (by decide +kernel)) (goodIn_sub (fun _ h => List.mem_cons_of_mem _ (List.mem_append_right _ h)) (by decide +kernel))
set_option maxRecDepth 20000 in
theorem gX5_outputByIncrements_X5_loopAt : GoodIn wsX5_outputByIncrements (wsV RX5 16 RX5 yX5_loopAt wsX5_loopAt) := goodIn_app (goodIn_of _ (by decide +kernel)) ggX5_outputByIncrements_X5_loopAt
set_option maxRecDepth 20000 in
theorem ggX5_outputByIncrements_J9_floorDiv_f86c9 : GoodIn wsX5_outputByIncrements wsJ9_floorDiv_f86c9 := goodIn_r _ [15] (by decide +kernel) (by decide +kernel)
set_option maxRecDepth 20000 in
theorem gX5_outputByIncrements_J9_floorDiv_f86c9 : GoodIn wsX5_outputByIncrements (va_wsS RX5 139 yJ9_floorDiv_f86c9 wsJ9_floorDiv_f86c9) := goodIn_app (goodIn_of _ (by decide +kernel)) ggX5_outputByIncrements_J9_floorDiv_f86c9
theorem dX5_outputByIncrements_0 : decode cX5_outputByIncrements 0 = .ok (.aload_n 0, 1) := by decide +kernel
theorem dX5_outputByIncrements_1 : decode cX5_outputByIncrements 1 = .ok (.iload_n 1, 1) := by decide +kernel
theorem dX5_outputByIncrements_2 : decode cX5_outputByIncrements 2 = .ok (.invokevirtual 16, 3) := by decide +kernel
theorem dX5_outputByIncrements_5 : decode cX5_outputByIncrements 5 = .ok (.getfield 56, 3) := by decide +kernel
theorem dX5_outputByIncrements_8 : decode cX5_outputByIncrements 8 = .ok (.getfield 134, 3) := by decide +kernel
theorem dX5_outputByIncrements_11 : decode cX5_outputByIncrements 11 = .ok (.ldc2_w 137, 3) := by decide +kernel
theorem dX5_outputByIncrements_14 : decode cX5_outputByIncrements 14 = .ok (.invokestatic 139, 3) := by decide +kernel
theorem dX5_outputByIncrements_17 : decode cX5_outputByIncrements 17 = .ok (.lreturn, 1) := by decide +kernel
set_option maxRecDepth 20000 in
theorem ggX5_setpoint_X5_loopAt : GoodIn wsX5_setpoint wsX5_loopAt := goodIn_ca (goodIn_r _ [7, 8, 9, 10, 36, 37] (by decide +kernel) (by decide +kernel)) (goodIn_sub (fun _ h => List.mem_cons_of_mem _ (List.mem_append_right _ h)) (by decide +kernel))
set_option maxRecDepth 20000 in
theorem gX5_setpoint_X5_loopAt : GoodIn wsX5_setpoint (wsV RX5 16 RX5 yX5_loopAt wsX5_loopAt) := goodIn_app (goodIn_of _ (by decide +kernel)) ggX5_setpoint_X5_loopAt
theorem dX5_setpoint_0 : decode cX5_setpoint 0 = .ok (.aload_n 0, 1) := by decide +kernel
theorem dX5_setpoint_1 : decode cX5_setpoint 1 = .ok (.iload_n 1, 1) := by decide +kernel
theorem dX5_setpoint_2 : decode cX5_setpoint 2 = .ok (.invokevirtual 16, 3) := by decide +kernel
theorem dX5_setpoint_5 : decode cX5_setpoint 5 = .ok (.getfield 56, 3) := by decide +kernel
theorem dX5_setpoint_8 : decode cX5_setpoint 8 = .ok (.getfield 104, 3) := by decide +kernel
theorem dX5_setpoint_11 : decode cX5_setpoint 11 = .ok (.lreturn, 1) := by decide +kernel
set_option maxRecDepth 20000 in
theorem ggX5_integral_X5_loopAt : GoodIn wsX5_integral wsX5_loopAt := goodIn_ca (goodIn_r _ [7, 8, 9, 10, 36, 37] (by decide +kernel) (by decide +kernel)) (goodIn_sub (fun _ h => List.mem_cons_of_mem _ (List.mem_append_right _ h)) (by decide +kernel))
set_option maxRecDepth 20000 in
theorem gX5_integral_X5_loopAt : GoodIn wsX5_integral (wsV RX5 16 RX5 yX5_loopAt wsX5_loopAt) := goodIn_app (goodIn_of _ (by decide +kernel)) ggX5_integral_X5_loopAt
theorem dX5_integral_0 : decode cX5_integral 0 = .ok (.aload_n 0, 1) := by decide +kernel
theorem dX5_integral_1 : decode cX5_integral 1 = .ok (.iload_n 1, 1) := by decide +kernel
theorem dX5_integral_2 : decode cX5_integral 2 = .ok (.invokevirtual 16, 3) := by decide +kernel
theorem dX5_integral_5 : decode cX5_integral 5 = .ok (.getfield 56, 3) := by decide +kernel
theorem dX5_integral_8 : decode cX5_integral 8 = .ok (.getfield 145, 3) := by decide +kernel
theorem dX5_integral_11 : decode cX5_integral 11 = .ok (.lreturn, 1) := by decide +kernel
set_option maxRecDepth 20000 in
theorem ggX5_gain_X5_loopAt : GoodIn wsX5_gain wsX5_loopAt := goodIn_ca (goodIn_r _ [9, 10, 11, 12, 41, 42] (by decide +kernel) (by decide +kernel)) (goodIn_sub (fun _ h => List.mem_cons_of_mem _ (List.mem_append_right _ h)) (by decide +kernel))
set_option maxRecDepth 20000 in
theorem gX5_gain_X5_loopAt : GoodIn wsX5_gain (wsV RX5 16 RX5 yX5_loopAt wsX5_loopAt) := goodIn_app (goodIn_of _ (by decide +kernel)) ggX5_gain_X5_loopAt
set_option maxRecDepth 20000 in
theorem ggX5_gain_X5_requireGainNumber : GoodIn wsX5_gain wsX5_requireGainNumber := goodIn_ca (goodIn_r _ [15, 10, 11] (by decide +kernel) (by decide +kernel)) (goodIn_sub (fun _ h => List.mem_cons_of_mem _ (List.mem_append_right _ h)) (by decide +kernel))
set_option maxRecDepth 20000 in
theorem gX5_gain_X5_requireGainNumber : GoodIn wsX5_gain (va_wsS RX5 148 yX5_requireGainNumber wsX5_requireGainNumber) := goodIn_app (goodIn_of _ (by decide +kernel)) ggX5_gain_X5_requireGainNumber
theorem dX5_gain_0 : decode cX5_gain 0 = .ok (.aload_n 0, 1) := by decide +kernel
theorem dX5_gain_1 : decode cX5_gain 1 = .ok (.iload_n 1, 1) := by decide +kernel
theorem dX5_gain_2 : decode cX5_gain 2 = .ok (.invokevirtual 16, 3) := by decide +kernel
theorem dX5_gain_5 : decode cX5_gain 5 = .ok (.getfield 56, 3) := by decide +kernel
theorem dX5_gain_8 : decode cX5_gain 8 = .ok (.astore_n 3, 1) := by decide +kernel
theorem dX5_gain_9 : decode cX5_gain 9 = .ok (.iload_n 2, 1) := by decide +kernel
theorem dX5_gain_10 : decode cX5_gain 10 = .ok (.invokestatic 148, 3) := by decide +kernel
theorem dX5_gain_13 : decode cX5_gain 13 = .ok (.iload_n 2, 1) := by decide +kernel
theorem dX5_gain_14 : decode cX5_gain 14 = .ok (.ifCond .ne 8, 3) := by decide +kernel
theorem dX5_gain_17 : decode cX5_gain 17 = .ok (.aload_n 3, 1) := by decide +kernel
theorem dX5_gain_18 : decode cX5_gain 18 = .ok (.getfield 151, 3) := by decide +kernel
theorem dX5_gain_21 : decode cX5_gain 21 = .ok (.ireturn, 1) := by decide +kernel
theorem dX5_gain_22 : decode cX5_gain 22 = .ok (.iload_n 2, 1) := by decide +kernel
theorem dX5_gain_23 : decode cX5_gain 23 = .ok (.iconst 1, 1) := by decide +kernel
theorem dX5_gain_24 : decode cX5_gain 24 = .ok (.if_icmp .ne 10, 3) := by decide +kernel
theorem dX5_gain_27 : decode cX5_gain 27 = .ok (.aload_n 3, 1) := by decide +kernel
theorem dX5_gain_28 : decode cX5_gain 28 = .ok (.getfield 154, 3) := by decide +kernel
theorem dX5_gain_31 : decode cX5_gain 31 = .ok (.goto 7, 3) := by decide +kernel
theorem dX5_gain_34 : decode cX5_gain 34 = .ok (.aload_n 3, 1) := by decide +kernel
theorem dX5_gain_35 : decode cX5_gain 35 = .ok (.getfield 157, 3) := by decide +kernel
theorem dX5_gain_38 : decode cX5_gain 38 = .ok (.ireturn, 1) := by decide +kernel
set_option maxRecDepth 20000 in
theorem ggX5_mode_X5_loopAt : GoodIn wsX5_mode wsX5_loopAt := goodIn_ca (goodIn_r _ [6, 7, 8, 9, 20, 21] (by decide +kernel) (by decide +kernel)) (goodIn_sub (fun _ h => List.mem_cons_of_mem _ (List.mem_append_right _ h)) (by decide +kernel))
set_option maxRecDepth 20000 in
theorem gX5_mode_X5_loopAt : GoodIn wsX5_mode (wsV RX5 16 RX5 yX5_loopAt wsX5_loopAt) := goodIn_app (goodIn_of _ (by decide +kernel)) ggX5_mode_X5_loopAt
theorem dX5_mode_0 : decode cX5_mode 0 = .ok (.aload_n 0, 1) := by decide +kernel
theorem dX5_mode_1 : decode cX5_mode 1 = .ok (.iload_n 1, 1) := by decide +kernel
theorem dX5_mode_2 : decode cX5_mode 2 = .ok (.invokevirtual 16, 3) := by decide +kernel
theorem dX5_mode_5 : decode cX5_mode 5 = .ok (.getfield 49, 3) := by decide +kernel
theorem dX5_mode_8 : decode cX5_mode 8 = .ok (.ireturn, 1) := by decide +kernel
set_option maxRecDepth 20000 in
theorem ggX5_wasStarved_X5_loopAt : GoodIn wsX5_wasStarved wsX5_loopAt := goodIn_ca (goodIn_r _ [6, 7, 8, 9, 20, 21] (by decide +kernel) (by decide +kernel)) (goodIn_sub (fun _ h => List.mem_cons_of_mem _ (List.mem_append_right _ h)) (by decide +kernel))
set_option maxRecDepth 20000 in
theorem gX5_wasStarved_X5_loopAt : GoodIn wsX5_wasStarved (wsV RX5 16 RX5 yX5_loopAt wsX5_loopAt) := goodIn_app (goodIn_of _ (by decide +kernel)) ggX5_wasStarved_X5_loopAt
theorem dX5_wasStarved_0 : decode cX5_wasStarved 0 = .ok (.aload_n 0, 1) := by decide +kernel
theorem dX5_wasStarved_1 : decode cX5_wasStarved 1 = .ok (.iload_n 1, 1) := by decide +kernel
theorem dX5_wasStarved_2 : decode cX5_wasStarved 2 = .ok (.invokevirtual 16, 3) := by decide +kernel
theorem dX5_wasStarved_5 : decode cX5_wasStarved 5 = .ok (.getfield 160, 3) := by decide +kernel
theorem dX5_wasStarved_8 : decode cX5_wasStarved 8 = .ok (.ireturn, 1) := by decide +kernel
set_option maxRecDepth 20000 in
theorem ggX5_held_X5_loopAt : GoodIn wsX5_held wsX5_loopAt := goodIn_ca (goodIn_r _ [7, 8, 9, 10, 36, 37] (by decide +kernel) (by decide +kernel)) (goodIn_sub (fun _ h => List.mem_cons_of_mem _ (List.mem_append_right _ h)) (by decide +kernel))
set_option maxRecDepth 20000 in
theorem gX5_held_X5_loopAt : GoodIn wsX5_held (wsV RX5 16 RX5 yX5_loopAt wsX5_loopAt) := goodIn_app (goodIn_of _ (by decide +kernel)) ggX5_held_X5_loopAt
theorem dX5_held_0 : decode cX5_held 0 = .ok (.aload_n 0, 1) := by decide +kernel
theorem dX5_held_1 : decode cX5_held 1 = .ok (.iload_n 1, 1) := by decide +kernel
theorem dX5_held_2 : decode cX5_held 2 = .ok (.invokevirtual 16, 3) := by decide +kernel
theorem dX5_held_5 : decode cX5_held 5 = .ok (.getfield 56, 3) := by decide +kernel
theorem dX5_held_8 : decode cX5_held 8 = .ok (.getfield 163, 3) := by decide +kernel
theorem dX5_held_11 : decode cX5_held 11 = .ok (.ireturn, 1) := by decide +kernel
set_option maxRecDepth 20000 in
theorem ggX5_startRelay_X5_loopAt : GoodIn wsX5_startRelay wsX5_loopAt := goodIn_ca (goodIn_r _ [9, 10, 11, 12, 48, 49] (by decide +kernel) (by decide +kernel)) (goodIn_sub (fun _ h => List.mem_cons_of_mem _ (List.mem_append_left _ (List.mem_append_left _ (List.mem_append_right _ h)))) (by decide +kernel))
set_option maxRecDepth 20000 in
theorem gX5_startRelay_X5_loopAt : GoodIn wsX5_startRelay (wsV RX5 16 RX5 yX5_loopAt wsX5_loopAt) := goodIn_app (goodIn_of _ (by decide +kernel)) ggX5_startRelay_X5_loopAt
set_option maxRecDepth 20000 in
theorem ggX5_startRelay_X5_requireWithin : GoodIn wsX5_startRelay wsX5_requireWithin := goodIn_ca (goodIn_r _ [15, 16, 17, 8, 18, 19, 20] (by decide +kernel) (by decide +kernel)) (goodIn_sub (fun _ h => List.mem_cons_of_mem _ (List.mem_append_left _ (List.mem_append_right _ h))) (by decide +kernel))
set_option maxRecDepth 20000 in
theorem gX5_startRelay_X5_requireWithin : GoodIn wsX5_startRelay (va_wsS RX5 24 yX5_requireWithin wsX5_requireWithin) := goodIn_app (goodIn_of _ (by decide +kernel)) ggX5_startRelay_X5_requireWithin
set_option maxRecDepth 20000 in
theorem ggX5_startRelay_X5_requireState : GoodIn wsX5_startRelay wsX5_requireState := goodIn_ca (goodIn_r _ [23, 24, 25] (by decide +kernel) (by decide +kernel)) (goodIn_sub (fun _ h => List.mem_cons_of_mem _ (List.mem_append_right _ h)) (by decide +kernel))
set_option maxRecDepth 20000 in
theorem gX5_startRelay_X5_requireState : GoodIn wsX5_startRelay (va_wsS RX5 52 yX5_requireState wsX5_requireState) := goodIn_app (goodIn_of _ (by decide +kernel)) ggX5_startRelay_X5_requireState
set_option maxRecDepth 20000 in
theorem ggX5_startRelay_X3_begin : GoodIn wsX5_startRelay wsX3_begin := goodIn_r _ [30, 31, 32, 33, 34, 35, 36, 37, 50, 51, 52, 53, 54, 55, 56, 57, 58, 59, 60, 61] (by decide +kernel) (by decide +kernel)
set_option maxRecDepth 20000 in
theorem gX5_startRelay_X3_begin : GoodIn wsX5_startRelay (wsV RX5 171 RX3 yX3_begin wsX3_begin) := goodIn_app (goodIn_of _ (by decide +kernel)) ggX5_startRelay_X3_begin
theorem dX5_startRelay_0 : decode cX5_startRelay 0 = .ok (.aload_n 0, 1) := by decide +kernel
theorem dX5_startRelay_1 : decode cX5_startRelay 1 = .ok (.iload_n 1, 1) := by decide +kernel
theorem dX5_startRelay_2 : decode cX5_startRelay 2 = .ok (.invokevirtual 16, 3) := by decide +kernel
theorem dX5_startRelay_5 : decode cX5_startRelay 5 = .ok (.astore 4, 2) := by decide +kernel
theorem dX5_startRelay_7 : decode cX5_startRelay 7 = .ok (.iload_n 2, 1) := by decide +kernel
theorem dX5_startRelay_8 : decode cX5_startRelay 8 = .ok (.iconst 1, 1) := by decide +kernel
theorem dX5_startRelay_9 : decode cX5_startRelay 9 = .ok (.ldc 166, 2) := by decide +kernel
theorem dX5_startRelay_11 : decode cX5_startRelay 11 = .ok (.invokestatic 24, 3) := by decide +kernel
theorem dX5_startRelay_14 : decode cX5_startRelay 14 = .ok (.iload_n 3, 1) := by decide +kernel
theorem dX5_startRelay_15 : decode cX5_startRelay 15 = .ok (.iconst 0, 1) := by decide +kernel
theorem dX5_startRelay_16 : decode cX5_startRelay 16 = .ok (.ldc 166, 2) := by decide +kernel
theorem dX5_startRelay_18 : decode cX5_startRelay 18 = .ok (.invokestatic 24, 3) := by decide +kernel
theorem dX5_startRelay_21 : decode cX5_startRelay 21 = .ok (.aload 4, 2) := by decide +kernel
theorem dX5_startRelay_23 : decode cX5_startRelay 23 = .ok (.getfield 49, 3) := by decide +kernel
theorem dX5_startRelay_26 : decode cX5_startRelay 26 = .ok (.iconst 1, 1) := by decide +kernel
theorem dX5_startRelay_27 : decode cX5_startRelay 27 = .ok (.if_icmp .ne 7, 3) := by decide +kernel
theorem dX5_startRelay_30 : decode cX5_startRelay 30 = .ok (.iconst 1, 1) := by decide +kernel
theorem dX5_startRelay_31 : decode cX5_startRelay 31 = .ok (.goto 4, 3) := by decide +kernel
theorem dX5_startRelay_34 : decode cX5_startRelay 34 = .ok (.iconst 0, 1) := by decide +kernel
theorem dX5_startRelay_35 : decode cX5_startRelay 35 = .ok (.invokestatic 52, 3) := by decide +kernel
theorem dX5_startRelay_38 : decode cX5_startRelay 38 = .ok (.aload 4, 2) := by decide +kernel
theorem dX5_startRelay_40 : decode cX5_startRelay 40 = .ok (.getfield 167, 3) := by decide +kernel
theorem dX5_startRelay_43 : decode cX5_startRelay 43 = .ok (.aload 4, 2) := by decide +kernel
theorem dX5_startRelay_45 : decode cX5_startRelay 45 = .ok (.getfield 131, 3) := by decide +kernel
theorem dX5_startRelay_48 : decode cX5_startRelay 48 = .ok (.iload_n 2, 1) := by decide +kernel
theorem dX5_startRelay_49 : decode cX5_startRelay 49 = .ok (.iload_n 3, 1) := by decide +kernel
theorem dX5_startRelay_50 : decode cX5_startRelay 50 = .ok (.invokevirtual 171, 3) := by decide +kernel
theorem dX5_startRelay_53 : decode cX5_startRelay 53 = .ok (.aload 4, 2) := by decide +kernel
theorem dX5_startRelay_55 : decode cX5_startRelay 55 = .ok (.iconst 3, 1) := by decide +kernel
theorem dX5_startRelay_56 : decode cX5_startRelay 56 = .ok (.putfield 49, 3) := by decide +kernel
theorem dX5_startRelay_59 : decode cX5_startRelay 59 = .ok (.return_, 1) := by decide +kernel
set_option maxRecDepth 20000 in
theorem ggX5_experiment_X5_loopAt : GoodIn wsX5_experiment wsX5_loopAt := goodIn_ca (goodIn_r _ [7, 8, 9, 10, 33, 34] (by decide +kernel) (by decide +kernel)) (goodIn_sub (fun _ h => List.mem_cons_of_mem _ (List.mem_append_right _ h)) (by decide +kernel))
set_option maxRecDepth 20000 in
theorem gX5_experiment_X5_loopAt : GoodIn wsX5_experiment (wsV RX5 16 RX5 yX5_loopAt wsX5_loopAt) := goodIn_app (goodIn_of _ (by decide +kernel)) ggX5_experiment_X5_loopAt
theorem dX5_experiment_0 : decode cX5_experiment 0 = .ok (.aload_n 0, 1) := by decide +kernel
theorem dX5_experiment_1 : decode cX5_experiment 1 = .ok (.iload_n 1, 1) := by decide +kernel
theorem dX5_experiment_2 : decode cX5_experiment 2 = .ok (.invokevirtual 16, 3) := by decide +kernel
theorem dX5_experiment_5 : decode cX5_experiment 5 = .ok (.getfield 167, 3) := by decide +kernel
theorem dX5_experiment_8 : decode cX5_experiment 8 = .ok (.getfield 177, 3) := by decide +kernel
theorem dX5_experiment_11 : decode cX5_experiment 11 = .ok (.ireturn, 1) := by decide +kernel
set_option maxRecDepth 20000 in
theorem ggX5_period_X5_loopAt : GoodIn wsX5_period wsX5_loopAt := goodIn_ca (goodIn_r _ [8, 9, 10, 11, 39, 40] (by decide +kernel) (by decide +kernel)) (goodIn_sub (fun _ h => List.mem_cons_of_mem _ (List.mem_append_left _ (List.mem_append_right _ h))) (by decide +kernel))
set_option maxRecDepth 20000 in
theorem gX5_period_X5_loopAt : GoodIn wsX5_period (wsV RX5 16 RX5 yX5_loopAt wsX5_loopAt) := goodIn_app (goodIn_of _ (by decide +kernel)) ggX5_period_X5_loopAt
set_option maxRecDepth 20000 in
theorem ggX5_period_X5_requireState : GoodIn wsX5_period wsX5_requireState := goodIn_ca (goodIn_r _ [14, 15, 16] (by decide +kernel) (by decide +kernel)) (goodIn_sub (fun _ h => List.mem_cons_of_mem _ (List.mem_append_right _ h)) (by decide +kernel))
set_option maxRecDepth 20000 in
theorem gX5_period_X5_requireState : GoodIn wsX5_period (va_wsS RX5 52 yX5_requireState wsX5_requireState) := goodIn_app (goodIn_of _ (by decide +kernel)) ggX5_period_X5_requireState
theorem dX5_period_0 : decode cX5_period 0 = .ok (.aload_n 0, 1) := by decide +kernel
theorem dX5_period_1 : decode cX5_period 1 = .ok (.iload_n 1, 1) := by decide +kernel
theorem dX5_period_2 : decode cX5_period 2 = .ok (.invokevirtual 16, 3) := by decide +kernel
theorem dX5_period_5 : decode cX5_period 5 = .ok (.getfield 167, 3) := by decide +kernel
theorem dX5_period_8 : decode cX5_period 8 = .ok (.astore_n 2, 1) := by decide +kernel
theorem dX5_period_9 : decode cX5_period 9 = .ok (.aload_n 2, 1) := by decide +kernel
theorem dX5_period_10 : decode cX5_period 10 = .ok (.getfield 177, 3) := by decide +kernel
theorem dX5_period_13 : decode cX5_period 13 = .ok (.iconst 2, 1) := by decide +kernel
theorem dX5_period_14 : decode cX5_period 14 = .ok (.if_icmp .ne 7, 3) := by decide +kernel
theorem dX5_period_17 : decode cX5_period 17 = .ok (.iconst 1, 1) := by decide +kernel
theorem dX5_period_18 : decode cX5_period 18 = .ok (.goto 4, 3) := by decide +kernel
theorem dX5_period_21 : decode cX5_period 21 = .ok (.iconst 0, 1) := by decide +kernel
theorem dX5_period_22 : decode cX5_period 22 = .ok (.invokestatic 52, 3) := by decide +kernel
theorem dX5_period_25 : decode cX5_period 25 = .ok (.aload_n 2, 1) := by decide +kernel
theorem dX5_period_26 : decode cX5_period 26 = .ok (.getfield 180, 3) := by decide +kernel
theorem dX5_period_29 : decode cX5_period 29 = .ok (.ireturn, 1) := by decide +kernel
set_option maxRecDepth 20000 in
theorem ggX5_swing_X5_loopAt : GoodIn wsX5_swing wsX5_loopAt := goodIn_ca (goodIn_r _ [8, 9, 10, 11, 39, 40] (by decide +kernel) (by decide +kernel)) (goodIn_sub (fun _ h => List.mem_cons_of_mem _ (List.mem_append_left _ (List.mem_append_right _ h))) (by decide +kernel))
set_option maxRecDepth 20000 in
theorem gX5_swing_X5_loopAt : GoodIn wsX5_swing (wsV RX5 16 RX5 yX5_loopAt wsX5_loopAt) := goodIn_app (goodIn_of _ (by decide +kernel)) ggX5_swing_X5_loopAt
set_option maxRecDepth 20000 in
theorem ggX5_swing_X5_requireState : GoodIn wsX5_swing wsX5_requireState := goodIn_ca (goodIn_r _ [14, 15, 16] (by decide +kernel) (by decide +kernel)) (goodIn_sub (fun _ h => List.mem_cons_of_mem _ (List.mem_append_right _ h)) (by decide +kernel))
set_option maxRecDepth 20000 in
theorem gX5_swing_X5_requireState : GoodIn wsX5_swing (va_wsS RX5 52 yX5_requireState wsX5_requireState) := goodIn_app (goodIn_of _ (by decide +kernel)) ggX5_swing_X5_requireState
theorem dX5_swing_0 : decode cX5_swing 0 = .ok (.aload_n 0, 1) := by decide +kernel
theorem dX5_swing_1 : decode cX5_swing 1 = .ok (.iload_n 1, 1) := by decide +kernel
theorem dX5_swing_2 : decode cX5_swing 2 = .ok (.invokevirtual 16, 3) := by decide +kernel
theorem dX5_swing_5 : decode cX5_swing 5 = .ok (.getfield 167, 3) := by decide +kernel
theorem dX5_swing_8 : decode cX5_swing 8 = .ok (.astore_n 2, 1) := by decide +kernel
theorem dX5_swing_9 : decode cX5_swing 9 = .ok (.aload_n 2, 1) := by decide +kernel
theorem dX5_swing_10 : decode cX5_swing 10 = .ok (.getfield 177, 3) := by decide +kernel
theorem dX5_swing_13 : decode cX5_swing 13 = .ok (.iconst 2, 1) := by decide +kernel
theorem dX5_swing_14 : decode cX5_swing 14 = .ok (.if_icmp .ne 7, 3) := by decide +kernel
theorem dX5_swing_17 : decode cX5_swing 17 = .ok (.iconst 1, 1) := by decide +kernel
theorem dX5_swing_18 : decode cX5_swing 18 = .ok (.goto 4, 3) := by decide +kernel
theorem dX5_swing_21 : decode cX5_swing 21 = .ok (.iconst 0, 1) := by decide +kernel
theorem dX5_swing_22 : decode cX5_swing 22 = .ok (.invokestatic 52, 3) := by decide +kernel
theorem dX5_swing_25 : decode cX5_swing 25 = .ok (.aload_n 2, 1) := by decide +kernel
theorem dX5_swing_26 : decode cX5_swing 26 = .ok (.getfield 183, 3) := by decide +kernel
theorem dX5_swing_29 : decode cX5_swing 29 = .ok (.lreturn, 1) := by decide +kernel
set_option maxRecDepth 20000 in
theorem ggX5_ultimateGain_X5_loopAt : GoodIn wsX5_ultimateGain wsX5_loopAt := goodIn_ca (goodIn_r _ [8, 9, 10, 11, 52, 53] (by decide +kernel) (by decide +kernel)) (goodIn_sub (fun _ h => List.mem_cons_of_mem _ (List.mem_append_left _ (List.mem_append_right _ h))) (by decide +kernel))
set_option maxRecDepth 20000 in
theorem gX5_ultimateGain_X5_loopAt : GoodIn wsX5_ultimateGain (wsV RX5 16 RX5 yX5_loopAt wsX5_loopAt) := goodIn_app (goodIn_of _ (by decide +kernel)) ggX5_ultimateGain_X5_loopAt
set_option maxRecDepth 20000 in
theorem ggX5_ultimateGain_X5_requireState : GoodIn wsX5_ultimateGain wsX5_requireState := goodIn_ca (goodIn_r _ [14, 15, 16] (by decide +kernel) (by decide +kernel)) (goodIn_sub (fun _ h => List.mem_cons_of_mem _ (List.mem_append_right _ h)) (by decide +kernel))
set_option maxRecDepth 20000 in
theorem gX5_ultimateGain_X5_requireState : GoodIn wsX5_ultimateGain (va_wsS RX5 52 yX5_requireState wsX5_requireState) := goodIn_app (goodIn_of _ (by decide +kernel)) ggX5_ultimateGain_X5_requireState
set_option maxRecDepth 20000 in
theorem ggX5_ultimateGain_X3_gainAtTheEdge : GoodIn wsX5_ultimateGain wsX3_gainAtTheEdge := goodIn_r _ [21, 22, 23, 24, 25, 26, 27, 28, 29, 40, 41, 42, 43, 44, 45, 46, 47, 48, 49, 50, 51] (by decide +kernel) (by decide +kernel)
set_option maxRecDepth 20000 in
theorem gX5_ultimateGain_X3_gainAtTheEdge : GoodIn wsX5_ultimateGain (wsV RX5 186 RX3 yX3_gainAtTheEdge wsX3_gainAtTheEdge) := goodIn_app (goodIn_of _ (by decide +kernel)) ggX5_ultimateGain_X3_gainAtTheEdge
theorem dX5_ultimateGain_0 : decode cX5_ultimateGain 0 = .ok (.aload_n 0, 1) := by decide +kernel
theorem dX5_ultimateGain_1 : decode cX5_ultimateGain 1 = .ok (.iload_n 1, 1) := by decide +kernel
theorem dX5_ultimateGain_2 : decode cX5_ultimateGain 2 = .ok (.invokevirtual 16, 3) := by decide +kernel
theorem dX5_ultimateGain_5 : decode cX5_ultimateGain 5 = .ok (.getfield 167, 3) := by decide +kernel
theorem dX5_ultimateGain_8 : decode cX5_ultimateGain 8 = .ok (.astore_n 2, 1) := by decide +kernel
theorem dX5_ultimateGain_9 : decode cX5_ultimateGain 9 = .ok (.aload_n 2, 1) := by decide +kernel
theorem dX5_ultimateGain_10 : decode cX5_ultimateGain 10 = .ok (.getfield 177, 3) := by decide +kernel
theorem dX5_ultimateGain_13 : decode cX5_ultimateGain 13 = .ok (.iconst 2, 1) := by decide +kernel
theorem dX5_ultimateGain_14 : decode cX5_ultimateGain 14 = .ok (.if_icmp .ne 16, 3) := by decide +kernel
theorem dX5_ultimateGain_17 : decode cX5_ultimateGain 17 = .ok (.aload_n 2, 1) := by decide +kernel
theorem dX5_ultimateGain_18 : decode cX5_ultimateGain 18 = .ok (.getfield 183, 3) := by decide +kernel
theorem dX5_ultimateGain_21 : decode cX5_ultimateGain 21 = .ok (.lconst 0, 1) := by decide +kernel
theorem dX5_ultimateGain_22 : decode cX5_ultimateGain 22 = .ok (.lcmp, 1) := by decide +kernel
theorem dX5_ultimateGain_23 : decode cX5_ultimateGain 23 = .ok (.ifCond .le 7, 3) := by decide +kernel
theorem dX5_ultimateGain_26 : decode cX5_ultimateGain 26 = .ok (.iconst 1, 1) := by decide +kernel
theorem dX5_ultimateGain_27 : decode cX5_ultimateGain 27 = .ok (.goto 4, 3) := by decide +kernel
theorem dX5_ultimateGain_30 : decode cX5_ultimateGain 30 = .ok (.iconst 0, 1) := by decide +kernel
theorem dX5_ultimateGain_31 : decode cX5_ultimateGain 31 = .ok (.invokestatic 52, 3) := by decide +kernel
theorem dX5_ultimateGain_34 : decode cX5_ultimateGain 34 = .ok (.aload_n 2, 1) := by decide +kernel
theorem dX5_ultimateGain_35 : decode cX5_ultimateGain 35 = .ok (.invokevirtual 186, 3) := by decide +kernel
theorem dX5_ultimateGain_38 : decode cX5_ultimateGain 38 = .ok (.l2i, 1) := by decide +kernel
theorem dX5_ultimateGain_39 : decode cX5_ultimateGain 39 = .ok (.ireturn, 1) := by decide +kernel
set_option maxRecDepth 20000 in
theorem ggX5_proposed_X5_loopAt : GoodIn wsX5_proposed wsX5_loopAt := goodIn_ca (goodIn_r _ [16, 17, 18, 19, 93, 94] (by decide +kernel) (by decide +kernel)) (goodIn_sub (fun _ h => List.mem_cons_of_mem _ (List.mem_append_left _ (List.mem_append_left _ (List.mem_append_right _ h)))) (by decide +kernel))
set_option maxRecDepth 20000 in
theorem gX5_proposed_X5_loopAt : GoodIn wsX5_proposed (wsV RX5 16 RX5 yX5_loopAt wsX5_loopAt) := goodIn_app (goodIn_of _ (by decide +kernel)) ggX5_proposed_X5_loopAt
set_option maxRecDepth 20000 in
theorem ggX5_proposed_X5_requireGainNumber : GoodIn wsX5_proposed wsX5_requireGainNumber := goodIn_ca (goodIn_r _ [22, 17, 18] (by decide +kernel) (by decide +kernel)) (goodIn_sub (fun _ h => List.mem_cons_of_mem _ (List.mem_append_left _ (List.mem_append_left _ (List.mem_append_right _ h)))) (by decide +kernel))
set_option maxRecDepth 20000 in
theorem gX5_proposed_X5_requireGainNumber : GoodIn wsX5_proposed (va_wsS RX5 148 yX5_requireGainNumber wsX5_requireGainNumber) := goodIn_app (goodIn_of _ (by decide +kernel)) ggX5_proposed_X5_requireGainNumber
set_option maxRecDepth 20000 in
theorem ggX5_proposed_X5_requireWithin : GoodIn wsX5_proposed wsX5_requireWithin := goodIn_ca (goodIn_r _ [25, 26, 27, 15, 28, 29, 30] (by decide +kernel) (by decide +kernel)) (goodIn_sub (fun _ h => List.mem_cons_of_mem _ (List.mem_append_left _ (List.mem_append_right _ h))) (by decide +kernel))
set_option maxRecDepth 20000 in
theorem gX5_proposed_X5_requireWithin : GoodIn wsX5_proposed (va_wsS RX5 24 yX5_requireWithin wsX5_requireWithin) := goodIn_app (goodIn_of _ (by decide +kernel)) ggX5_proposed_X5_requireWithin
set_option maxRecDepth 20000 in
theorem ggX5_proposed_X5_requireState : GoodIn wsX5_proposed wsX5_requireState := goodIn_ca (goodIn_r _ [33, 34, 35] (by decide +kernel) (by decide +kernel)) (goodIn_sub (fun _ h => List.mem_cons_of_mem _ (List.mem_append_right _ h)) (by decide +kernel))
set_option maxRecDepth 20000 in
theorem gX5_proposed_X5_requireState : GoodIn wsX5_proposed (va_wsS RX5 52 yX5_requireState wsX5_requireState) := goodIn_app (goodIn_of _ (by decide +kernel)) ggX5_proposed_X5_requireState
set_option maxRecDepth 20000 in
theorem ggX5_proposed_X3_proposedP : GoodIn wsX5_proposed wsX3_proposedP := goodIn_r _ [40, 41, 42, 43, 44, 45, 46, 39, 47, 48, 49, 50, 51, 52, 53, 54, 55, 81, 82, 83, 84, 85, 86, 87, 88, 89, 90, 91, 92] (by decide +kernel) (by decide +kernel)
set_option maxRecDepth 20000 in
theorem gX5_proposed_X3_proposedP : GoodIn wsX5_proposed (wsV RX5 190 RX3 yX3_proposedP wsX3_proposedP) := goodIn_app (goodIn_of _ (by decide +kernel)) ggX5_proposed_X3_proposedP
set_option maxRecDepth 20000 in
theorem ggX5_proposed_X3_proposedI : GoodIn wsX5_proposed wsX3_proposedI := goodIn_r _ [59, 60, 61, 42, 62, 63, 44, 45, 46, 39, 47, 48, 49, 50, 51, 52, 53, 54, 55, 81, 82, 83, 84, 85, 86, 87, 88, 89, 90, 91, 92] (by decide +kernel) (by decide +kernel)
set_option maxRecDepth 20000 in
theorem gX5_proposed_X3_proposedI : GoodIn wsX5_proposed (wsV RX5 199 RX3 yX3_proposedI wsX3_proposedI) := goodIn_app (goodIn_of _ (by decide +kernel)) ggX5_proposed_X3_proposedI
set_option maxRecDepth 20000 in
theorem ggX5_proposed_X3_proposedD : GoodIn wsX5_proposed wsX3_proposedD := goodIn_r _ [67, 68, 60, 69, 62, 70, 44, 45, 46, 39, 47, 48, 49, 50, 51, 52, 53, 54, 55, 81, 82, 83, 84, 85, 86, 87, 88, 89, 90, 91, 92] (by decide +kernel) (by decide +kernel)
set_option maxRecDepth 20000 in
theorem gX5_proposed_X3_proposedD : GoodIn wsX5_proposed (wsV RX5 204 RX3 yX3_proposedD wsX3_proposedD) := goodIn_app (goodIn_of _ (by decide +kernel)) ggX5_proposed_X3_proposedD
theorem dX5_proposed_0 : decode cX5_proposed 0 = .ok (.aload_n 0, 1) := by decide +kernel
theorem dX5_proposed_1 : decode cX5_proposed 1 = .ok (.iload_n 1, 1) := by decide +kernel
theorem dX5_proposed_2 : decode cX5_proposed 2 = .ok (.invokevirtual 16, 3) := by decide +kernel
theorem dX5_proposed_5 : decode cX5_proposed 5 = .ok (.getfield 167, 3) := by decide +kernel
theorem dX5_proposed_8 : decode cX5_proposed 8 = .ok (.astore 4, 2) := by decide +kernel
theorem dX5_proposed_10 : decode cX5_proposed 10 = .ok (.iload_n 3, 1) := by decide +kernel
theorem dX5_proposed_11 : decode cX5_proposed 11 = .ok (.invokestatic 148, 3) := by decide +kernel
theorem dX5_proposed_14 : decode cX5_proposed 14 = .ok (.iload_n 2, 1) := by decide +kernel
theorem dX5_proposed_15 : decode cX5_proposed 15 = .ok (.iconst 0, 1) := by decide +kernel
theorem dX5_proposed_16 : decode cX5_proposed 16 = .ok (.iconst 1, 1) := by decide +kernel
theorem dX5_proposed_17 : decode cX5_proposed 17 = .ok (.invokestatic 24, 3) := by decide +kernel
theorem dX5_proposed_20 : decode cX5_proposed 20 = .ok (.aload 4, 2) := by decide +kernel
theorem dX5_proposed_22 : decode cX5_proposed 22 = .ok (.getfield 177, 3) := by decide +kernel
theorem dX5_proposed_25 : decode cX5_proposed 25 = .ok (.iconst 2, 1) := by decide +kernel
theorem dX5_proposed_26 : decode cX5_proposed 26 = .ok (.if_icmp .ne 25, 3) := by decide +kernel
theorem dX5_proposed_29 : decode cX5_proposed 29 = .ok (.aload 4, 2) := by decide +kernel
theorem dX5_proposed_31 : decode cX5_proposed 31 = .ok (.getfield 183, 3) := by decide +kernel
theorem dX5_proposed_34 : decode cX5_proposed 34 = .ok (.lconst 0, 1) := by decide +kernel
theorem dX5_proposed_35 : decode cX5_proposed 35 = .ok (.lcmp, 1) := by decide +kernel
theorem dX5_proposed_36 : decode cX5_proposed 36 = .ok (.ifCond .le 15, 3) := by decide +kernel
theorem dX5_proposed_39 : decode cX5_proposed 39 = .ok (.aload 4, 2) := by decide +kernel
theorem dX5_proposed_41 : decode cX5_proposed 41 = .ok (.getfield 180, 3) := by decide +kernel
theorem dX5_proposed_44 : decode cX5_proposed 44 = .ok (.ifCond .le 7, 3) := by decide +kernel
theorem dX5_proposed_47 : decode cX5_proposed 47 = .ok (.iconst 1, 1) := by decide +kernel
theorem dX5_proposed_48 : decode cX5_proposed 48 = .ok (.goto 4, 3) := by decide +kernel
theorem dX5_proposed_51 : decode cX5_proposed 51 = .ok (.iconst 0, 1) := by decide +kernel
theorem dX5_proposed_52 : decode cX5_proposed 52 = .ok (.invokestatic 52, 3) := by decide +kernel
theorem dX5_proposed_55 : decode cX5_proposed 55 = .ok (.iload_n 3, 1) := by decide +kernel
theorem dX5_proposed_56 : decode cX5_proposed 56 = .ok (.ifCond .ne 17, 3) := by decide +kernel
theorem dX5_proposed_59 : decode cX5_proposed 59 = .ok (.aload 4, 2) := by decide +kernel
theorem dX5_proposed_61 : decode cX5_proposed 61 = .ok (.iload_n 2, 1) := by decide +kernel
theorem dX5_proposed_62 : decode cX5_proposed 62 = .ok (.invokevirtual 190, 3) := by decide +kernel
theorem dX5_proposed_65 : decode cX5_proposed 65 = .ok (.ldc2_w 194, 3) := by decide +kernel
theorem dX5_proposed_68 : decode cX5_proposed 68 = .ok (.invokestatic 196, 3) := by decide +kernel
theorem dX5_proposed_71 : decode cX5_proposed 71 = .ok (.l2i, 1) := by decide +kernel
theorem dX5_proposed_72 : decode cX5_proposed 72 = .ok (.ireturn, 1) := by decide +kernel
theorem dX5_proposed_73 : decode cX5_proposed 73 = .ok (.iload_n 3, 1) := by decide +kernel
theorem dX5_proposed_74 : decode cX5_proposed 74 = .ok (.iconst 1, 1) := by decide +kernel
theorem dX5_proposed_75 : decode cX5_proposed 75 = .ok (.if_icmp .ne 17, 3) := by decide +kernel
theorem dX5_proposed_78 : decode cX5_proposed 78 = .ok (.aload 4, 2) := by decide +kernel
theorem dX5_proposed_80 : decode cX5_proposed 80 = .ok (.iload_n 2, 1) := by decide +kernel
theorem dX5_proposed_81 : decode cX5_proposed 81 = .ok (.invokevirtual 199, 3) := by decide +kernel
theorem dX5_proposed_84 : decode cX5_proposed 84 = .ok (.ldc2_w 202, 3) := by decide +kernel
theorem dX5_proposed_87 : decode cX5_proposed 87 = .ok (.invokestatic 196, 3) := by decide +kernel
theorem dX5_proposed_90 : decode cX5_proposed 90 = .ok (.l2i, 1) := by decide +kernel
theorem dX5_proposed_91 : decode cX5_proposed 91 = .ok (.ireturn, 1) := by decide +kernel
theorem dX5_proposed_92 : decode cX5_proposed 92 = .ok (.aload 4, 2) := by decide +kernel
theorem dX5_proposed_94 : decode cX5_proposed 94 = .ok (.iload_n 2, 1) := by decide +kernel
theorem dX5_proposed_95 : decode cX5_proposed 95 = .ok (.invokevirtual 204, 3) := by decide +kernel
theorem dX5_proposed_98 : decode cX5_proposed 98 = .ok (.ldc2_w 207, 3) := by decide +kernel
theorem dX5_proposed_101 : decode cX5_proposed 101 = .ok (.invokestatic 196, 3) := by decide +kernel
theorem dX5_proposed_104 : decode cX5_proposed 104 = .ok (.l2i, 1) := by decide +kernel
theorem dX5_proposed_105 : decode cX5_proposed 105 = .ok (.ireturn, 1) := by decide +kernel
theorem dX5_loopAt_0 : decode cX5_loopAt 0 = .ok (.iload_n 1, 1) := by decide +kernel
theorem dX5_loopAt_1 : decode cX5_loopAt 1 = .ok (.ifCond .lt 12, 3) := by decide +kernel
theorem dX5_loopAt_4 : decode cX5_loopAt 4 = .ok (.iload_n 1, 1) := by decide +kernel
theorem dX5_loopAt_5 : decode cX5_loopAt 5 = .ok (.aload_n 0, 1) := by decide +kernel
theorem dX5_loopAt_6 : decode cX5_loopAt 6 = .ok (.getfield 11, 3) := by decide +kernel
theorem dX5_loopAt_9 : decode cX5_loopAt 9 = .ok (.arraylength, 1) := by decide +kernel
theorem dX5_loopAt_10 : decode cX5_loopAt 10 = .ok (.if_icmp .lt 13, 3) := by decide +kernel
theorem dX5_loopAt_13 : decode cX5_loopAt 13 = .ok (.new 209, 3) := by decide +kernel
theorem dX5_loopAt_16 : decode cX5_loopAt 16 = .ok (.dup, 1) := by decide +kernel
theorem dX5_loopAt_17 : decode cX5_loopAt 17 = .ok (.ldc 211, 2) := by decide +kernel
theorem dX5_loopAt_19 : decode cX5_loopAt 19 = .ok (.invokespecial 213, 3) := by decide +kernel
theorem dX5_loopAt_22 : decode cX5_loopAt 22 = .ok (.athrow, 1) := by decide +kernel
theorem dX5_loopAt_23 : decode cX5_loopAt 23 = .ok (.aload_n 0, 1) := by decide +kernel
theorem dX5_loopAt_24 : decode cX5_loopAt 24 = .ok (.getfield 11, 3) := by decide +kernel
theorem dX5_loopAt_27 : decode cX5_loopAt 27 = .ok (.iload_n 1, 1) := by decide +kernel
theorem dX5_loopAt_28 : decode cX5_loopAt 28 = .ok (.aaload, 1) := by decide +kernel
theorem dX5_loopAt_29 : decode cX5_loopAt 29 = .ok (.areturn, 1) := by decide +kernel
theorem dX5_requireGainNumber_0 : decode cX5_requireGainNumber 0 = .ok (.iload_n 0, 1) := by decide +kernel
theorem dX5_requireGainNumber_1 : decode cX5_requireGainNumber 1 = .ok (.ifCond .lt 8, 3) := by decide +kernel
theorem dX5_requireGainNumber_4 : decode cX5_requireGainNumber 4 = .ok (.iload_n 0, 1) := by decide +kernel
theorem dX5_requireGainNumber_5 : decode cX5_requireGainNumber 5 = .ok (.iconst 2, 1) := by decide +kernel
theorem dX5_requireGainNumber_6 : decode cX5_requireGainNumber 6 = .ok (.if_icmp .le 13, 3) := by decide +kernel
theorem dX5_requireGainNumber_9 : decode cX5_requireGainNumber 9 = .ok (.new 209, 3) := by decide +kernel
theorem dX5_requireGainNumber_12 : decode cX5_requireGainNumber 12 = .ok (.dup, 1) := by decide +kernel
theorem dX5_requireGainNumber_13 : decode cX5_requireGainNumber 13 = .ok (.ldc 216, 2) := by decide +kernel
theorem dX5_requireGainNumber_15 : decode cX5_requireGainNumber 15 = .ok (.invokespecial 213, 3) := by decide +kernel
theorem dX5_requireGainNumber_18 : decode cX5_requireGainNumber 18 = .ok (.athrow, 1) := by decide +kernel
theorem dX5_requireGainNumber_19 : decode cX5_requireGainNumber 19 = .ok (.return_, 1) := by decide +kernel
set_option maxRecDepth 20000 in
theorem ggX5_requireGains_X5_requireWithin : GoodIn wsX5_requireGains wsX5_requireWithin := goodIn_ca (goodIn_r _ [6, 7, 8, 5, 9, 10, 11] (by decide +kernel) (by decide +kernel)) (goodIn_sub (fun _ h => List.mem_cons_of_mem _ (List.mem_append_right _ h)) (by decide +kernel))
set_option maxRecDepth 20000 in
theorem gX5_requireGains_X5_requireWithin : GoodIn wsX5_requireGains (va_wsS RX5 24 yX5_requireWithin wsX5_requireWithin) := goodIn_app (goodIn_of _ (by decide +kernel)) ggX5_requireGains_X5_requireWithin
theorem dX5_requireGains_0 : decode cX5_requireGains 0 = .ok (.iload_n 0, 1) := by decide +kernel
theorem dX5_requireGains_1 : decode cX5_requireGains 1 = .ok (.sipush (-20000), 3) := by decide +kernel
theorem dX5_requireGains_4 : decode cX5_requireGains 4 = .ok (.sipush 20000, 3) := by decide +kernel
theorem dX5_requireGains_7 : decode cX5_requireGains 7 = .ok (.invokestatic 24, 3) := by decide +kernel
theorem dX5_requireGains_10 : decode cX5_requireGains 10 = .ok (.iload_n 1, 1) := by decide +kernel
theorem dX5_requireGains_11 : decode cX5_requireGains 11 = .ok (.sipush (-5000), 3) := by decide +kernel
theorem dX5_requireGains_14 : decode cX5_requireGains 14 = .ok (.sipush 5000, 3) := by decide +kernel
theorem dX5_requireGains_17 : decode cX5_requireGains 17 = .ok (.invokestatic 24, 3) := by decide +kernel
theorem dX5_requireGains_20 : decode cX5_requireGains 20 = .ok (.iload_n 2, 1) := by decide +kernel
theorem dX5_requireGains_21 : decode cX5_requireGains 21 = .ok (.ldc 218, 2) := by decide +kernel
theorem dX5_requireGains_23 : decode cX5_requireGains 23 = .ok (.ldc 219, 2) := by decide +kernel
theorem dX5_requireGains_25 : decode cX5_requireGains 25 = .ok (.invokestatic 24, 3) := by decide +kernel
theorem dX5_requireGains_28 : decode cX5_requireGains 28 = .ok (.return_, 1) := by decide +kernel
set_option maxRecDepth 20000 in
theorem ggX5_requireWithin_X5_requireArgument : GoodIn wsX5_requireWithin wsX5_requireArgument := goodIn_ca (goodIn_r _ [4, 5, 6] (by decide +kernel) (by decide +kernel)) (goodIn_sub (fun _ h => List.mem_cons_of_mem _ (List.mem_append_right _ h)) (by decide +kernel))
set_option maxRecDepth 20000 in
theorem gX5_requireWithin_X5_requireArgument : GoodIn wsX5_requireWithin (va_wsS RX5 81 yX5_requireArgument wsX5_requireArgument) := goodIn_app (goodIn_of _ (by decide +kernel)) ggX5_requireWithin_X5_requireArgument
theorem dX5_requireWithin_0 : decode cX5_requireWithin 0 = .ok (.iload_n 0, 1) := by decide +kernel
theorem dX5_requireWithin_1 : decode cX5_requireWithin 1 = .ok (.iload_n 1, 1) := by decide +kernel
theorem dX5_requireWithin_2 : decode cX5_requireWithin 2 = .ok (.if_icmp .lt 12, 3) := by decide +kernel
theorem dX5_requireWithin_5 : decode cX5_requireWithin 5 = .ok (.iload_n 0, 1) := by decide +kernel
theorem dX5_requireWithin_6 : decode cX5_requireWithin 6 = .ok (.iload_n 2, 1) := by decide +kernel
theorem dX5_requireWithin_7 : decode cX5_requireWithin 7 = .ok (.if_icmp .gt 7, 3) := by decide +kernel
theorem dX5_requireWithin_10 : decode cX5_requireWithin 10 = .ok (.iconst 1, 1) := by decide +kernel
theorem dX5_requireWithin_11 : decode cX5_requireWithin 11 = .ok (.goto 4, 3) := by decide +kernel
theorem dX5_requireWithin_14 : decode cX5_requireWithin 14 = .ok (.iconst 0, 1) := by decide +kernel
theorem dX5_requireWithin_15 : decode cX5_requireWithin 15 = .ok (.invokestatic 81, 3) := by decide +kernel
theorem dX5_requireWithin_18 : decode cX5_requireWithin 18 = .ok (.return_, 1) := by decide +kernel
theorem dX5_requireArgument_0 : decode cX5_requireArgument 0 = .ok (.iload_n 0, 1) := by decide +kernel
theorem dX5_requireArgument_1 : decode cX5_requireArgument 1 = .ok (.ifCond .ne 13, 3) := by decide +kernel
theorem dX5_requireArgument_4 : decode cX5_requireArgument 4 = .ok (.new 220, 3) := by decide +kernel
theorem dX5_requireArgument_7 : decode cX5_requireArgument 7 = .ok (.dup, 1) := by decide +kernel
theorem dX5_requireArgument_8 : decode cX5_requireArgument 8 = .ok (.ldc 222, 2) := by decide +kernel
theorem dX5_requireArgument_10 : decode cX5_requireArgument 10 = .ok (.invokespecial 224, 3) := by decide +kernel
theorem dX5_requireArgument_13 : decode cX5_requireArgument 13 = .ok (.athrow, 1) := by decide +kernel
theorem dX5_requireArgument_14 : decode cX5_requireArgument 14 = .ok (.return_, 1) := by decide +kernel
theorem dX5_requireState_0 : decode cX5_requireState 0 = .ok (.iload_n 0, 1) := by decide +kernel
theorem dX5_requireState_1 : decode cX5_requireState 1 = .ok (.ifCond .ne 13, 3) := by decide +kernel
theorem dX5_requireState_4 : decode cX5_requireState 4 = .ok (.new 225, 3) := by decide +kernel
theorem dX5_requireState_7 : decode cX5_requireState 7 = .ok (.dup, 1) := by decide +kernel
theorem dX5_requireState_8 : decode cX5_requireState 8 = .ok (.ldc 227, 2) := by decide +kernel
theorem dX5_requireState_10 : decode cX5_requireState 10 = .ok (.invokespecial 229, 3) := by decide +kernel
theorem dX5_requireState_13 : decode cX5_requireState 13 = .ok (.athrow, 1) := by decide +kernel
theorem dX5_requireState_14 : decode cX5_requireState 14 = .ok (.return_, 1) := by decide +kernel
set_option maxRecDepth 20000 in
theorem ggX5_letOneSampleGoBy_X5_takeTurn : GoodIn wsX5_letOneSampleGoBy wsX5_takeTurn := goodIn_r _ [8, 1, 9, 10, 3, 11, 12, 13, 14, 15, 16, 17, 18, 19, 20, 21, 22, 23, 24, 25, 26, 27, 28, 29, 30, 31, 32, 33, 34, 7, 35, 36, 37, 38, 39, 40, 41, 42, 43, 44, 45, 46, 47, 48, 49, 50, 51, 52, 53, 54, 55, 56, 57, 58, 59, 60, 61, 62, 63, 64, 65, 66, 67, 68, 69, 70, 71, 72, 73, 74, 75, 76, 77, 78, 79, 80, 81, 82, 83, 84, 85, 86, 87, 88, 89, 90, 91, 92, 93, 94, 95, 96, 97, 98, 99, 100, 101, 102, 103, 104, 105, 106, 107, 108, 109, 110, 111, 112, 113, 114, 115, 116, 117, 118, 119, 120, 121, 122, 123, 124, 125, 126, 127, 128, 129, 130, 131, 132, 133, 134, 135, 136, 137, 138, 139, 140, 141, 142, 143, 144, 145, 146, 147, 148, 149, 150, 151, 152, 153, 154, 155, 156, 157, 158, 159, 160, 161, 162, 163, 164, 165, 166, 167, 168, 169, 170, 171, 172, 173, 174, 196, 197, 198, 199, 200, 201, 202, 203, 204, 205, 206, 207, 208, 209, 210, 211, 212, 213, 214, 215, 216, 217, 218, 219, 220, 221, 222, 223, 224, 225, 226, 227, 228, 229, 230, 231, 232, 233, 234, 235, 236, 237, 238, 239, 240, 241, 242, 243, 244, 245, 246, 247, 248] (by decide +kernel) (by decide +kernel)
set_option maxRecDepth 20000 in
theorem gX5_letOneSampleGoBy_X5_takeTurn : GoodIn wsX5_letOneSampleGoBy (wsV RX5 230 RX5 yX5_takeTurn wsX5_takeTurn) := goodIn_app (goodIn_of _ (by decide +kernel)) ggX5_letOneSampleGoBy_X5_takeTurn
set_option maxRecDepth 20000 in
theorem ggX5_letOneSampleGoBy_X2_goOn : GoodIn wsX5_letOneSampleGoBy wsX2_goOn := goodIn_r _ [179, 180, 181, 182, 183, 184, 185, 186, 187, 188, 189, 190, 191, 192, 193, 138, 194, 195, 137, 139, 34, 7, 35, 36, 37, 38, 39, 40, 41, 42, 223, 224, 225, 226, 227, 228, 229, 230, 231] (by decide +kernel) (by decide +kernel)
set_option maxRecDepth 20000 in
theorem gX5_letOneSampleGoBy_X2_goOn : GoodIn wsX5_letOneSampleGoBy (wsV RX5 233 RX2 yX2_goOn wsX2_goOn) := goodIn_app (goodIn_of _ (by decide +kernel)) ggX5_letOneSampleGoBy_X2_goOn
theorem dX5_letOneSampleGoBy_0 : decode cX5_letOneSampleGoBy 0 = .ok (.iconst 0, 1) := by decide +kernel
theorem dX5_letOneSampleGoBy_1 : decode cX5_letOneSampleGoBy 1 = .ok (.istore_n 1, 1) := by decide +kernel
theorem dX5_letOneSampleGoBy_2 : decode cX5_letOneSampleGoBy 2 = .ok (.iload_n 1, 1) := by decide +kernel
theorem dX5_letOneSampleGoBy_3 : decode cX5_letOneSampleGoBy 3 = .ok (.aload_n 0, 1) := by decide +kernel
theorem dX5_letOneSampleGoBy_4 : decode cX5_letOneSampleGoBy 4 = .ok (.getfield 11, 3) := by decide +kernel
theorem dX5_letOneSampleGoBy_7 : decode cX5_letOneSampleGoBy 7 = .ok (.arraylength, 1) := by decide +kernel
theorem dX5_letOneSampleGoBy_8 : decode cX5_letOneSampleGoBy 8 = .ok (.if_icmp .ge 14, 3) := by decide +kernel
theorem dX5_letOneSampleGoBy_11 : decode cX5_letOneSampleGoBy 11 = .ok (.aload_n 0, 1) := by decide +kernel
theorem dX5_letOneSampleGoBy_12 : decode cX5_letOneSampleGoBy 12 = .ok (.iload_n 1, 1) := by decide +kernel
theorem dX5_letOneSampleGoBy_13 : decode cX5_letOneSampleGoBy 13 = .ok (.invokevirtual 230, 3) := by decide +kernel
theorem dX5_letOneSampleGoBy_16 : decode cX5_letOneSampleGoBy 16 = .ok (.iinc 1 1, 3) := by decide +kernel
theorem dX5_letOneSampleGoBy_19 : decode cX5_letOneSampleGoBy 19 = .ok (.goto (-17), 3) := by decide +kernel
theorem dX5_letOneSampleGoBy_22 : decode cX5_letOneSampleGoBy 22 = .ok (.iconst 0, 1) := by decide +kernel
theorem dX5_letOneSampleGoBy_23 : decode cX5_letOneSampleGoBy 23 = .ok (.istore_n 1, 1) := by decide +kernel
theorem dX5_letOneSampleGoBy_24 : decode cX5_letOneSampleGoBy 24 = .ok (.iload_n 1, 1) := by decide +kernel
theorem dX5_letOneSampleGoBy_25 : decode cX5_letOneSampleGoBy 25 = .ok (.aload_n 0, 1) := by decide +kernel
theorem dX5_letOneSampleGoBy_26 : decode cX5_letOneSampleGoBy 26 = .ok (.getfield 11, 3) := by decide +kernel
theorem dX5_letOneSampleGoBy_29 : decode cX5_letOneSampleGoBy 29 = .ok (.arraylength, 1) := by decide +kernel
theorem dX5_letOneSampleGoBy_30 : decode cX5_letOneSampleGoBy 30 = .ok (.if_icmp .ge 30, 3) := by decide +kernel
theorem dX5_letOneSampleGoBy_33 : decode cX5_letOneSampleGoBy 33 = .ok (.aload_n 0, 1) := by decide +kernel
theorem dX5_letOneSampleGoBy_34 : decode cX5_letOneSampleGoBy 34 = .ok (.getfield 11, 3) := by decide +kernel
theorem dX5_letOneSampleGoBy_37 : decode cX5_letOneSampleGoBy 37 = .ok (.iload_n 1, 1) := by decide +kernel
theorem dX5_letOneSampleGoBy_38 : decode cX5_letOneSampleGoBy 38 = .ok (.aaload, 1) := by decide +kernel
theorem dX5_letOneSampleGoBy_39 : decode cX5_letOneSampleGoBy 39 = .ok (.getfield 20, 3) := by decide +kernel
theorem dX5_letOneSampleGoBy_42 : decode cX5_letOneSampleGoBy 42 = .ok (.aload_n 0, 1) := by decide +kernel
theorem dX5_letOneSampleGoBy_43 : decode cX5_letOneSampleGoBy 43 = .ok (.getfield 11, 3) := by decide +kernel
theorem dX5_letOneSampleGoBy_46 : decode cX5_letOneSampleGoBy 46 = .ok (.iload_n 1, 1) := by decide +kernel
theorem dX5_letOneSampleGoBy_47 : decode cX5_letOneSampleGoBy 47 = .ok (.aaload, 1) := by decide +kernel
theorem dX5_letOneSampleGoBy_48 : decode cX5_letOneSampleGoBy 48 = .ok (.getfield 131, 3) := by decide +kernel
theorem dX5_letOneSampleGoBy_51 : decode cX5_letOneSampleGoBy 51 = .ok (.invokevirtual 233, 3) := by decide +kernel
theorem dX5_letOneSampleGoBy_54 : decode cX5_letOneSampleGoBy 54 = .ok (.iinc 1 1, 3) := by decide +kernel
theorem dX5_letOneSampleGoBy_57 : decode cX5_letOneSampleGoBy 57 = .ok (.goto (-33), 3) := by decide +kernel
theorem dX5_letOneSampleGoBy_60 : decode cX5_letOneSampleGoBy 60 = .ok (.return_, 1) := by decide +kernel
set_option maxRecDepth 20000 in
theorem ggX5_takeTurn_X1_isStarvedBy : GoodIn wsX5_takeTurn wsX1_isStarvedBy := goodIn_r _ [11, 12, 13, 172, 173, 174, 175, 176, 177, 178, 179, 180, 181] (by decide +kernel) (by decide +kernel)
set_option maxRecDepth 20000 in
theorem gX5_takeTurn_X1_isStarvedBy : GoodIn wsX5_takeTurn (wsV RX5 237 RX1 yX1_isStarvedBy wsX1_isStarvedBy) := goodIn_app (goodIn_of _ (by decide +kernel)) ggX5_takeTurn_X1_isStarvedBy
set_option maxRecDepth 20000 in
theorem ggX5_takeTurn_X1_giveWay : GoodIn wsX5_takeTurn wsX1_giveWay := goodIn_r _ [17, 18, 19, 20, 21, 22, 23, 24, 25, 26, 27, 28, 29, 30, 31, 32, 33, 34, 35, 36, 37, 38, 39, 40, 41, 42, 43, 44, 45, 46, 47, 48, 49, 50, 51, 52, 53, 54, 55, 56, 57, 58, 172, 173, 174, 175, 176, 177, 178, 179, 180, 181, 182, 183, 184, 185, 186, 187, 188, 189, 190, 191, 192, 193, 194, 195, 196, 197, 198, 199, 200, 201, 202, 203, 204, 205] (by decide +kernel) (by decide +kernel)
set_option maxRecDepth 20000 in
theorem gX5_takeTurn_X1_giveWay : GoodIn wsX5_takeTurn (wsV RX5 241 RX1 yX1_giveWay wsX1_giveWay) := goodIn_app (goodIn_of _ (by decide +kernel)) ggX5_takeTurn_X1_giveWay
set_option maxRecDepth 20000 in
theorem ggX5_takeTurn_X1_actByHand : GoodIn wsX5_takeTurn wsX1_actByHand := goodIn_r _ [62, 63, 19, 64, 65, 66, 67, 20, 21, 22, 23, 24, 25, 26, 27, 28, 29, 30, 31, 32, 33, 34, 35, 36, 37, 172, 173, 174, 175, 176, 177, 178, 179, 180, 181, 197, 198, 199, 200, 201, 202, 203, 204, 205, 182, 183, 184, 185, 186, 187, 188, 189, 190, 191, 192, 193, 194, 195, 196] (by decide +kernel) (by decide +kernel)
set_option maxRecDepth 20000 in
theorem gX5_takeTurn_X1_actByHand : GoodIn wsX5_takeTurn (wsV RX5 244 RX1 yX1_actByHand wsX1_actByHand) := goodIn_app (goodIn_of _ (by decide +kernel)) ggX5_takeTurn_X1_actByHand
set_option maxRecDepth 20000 in
theorem ggX5_takeTurn_X1_actAsRelay : GoodIn wsX5_takeTurn wsX1_actAsRelay := goodIn_r _ [71, 72, 19, 64, 65, 20, 73, 74, 12, 75, 48, 49, 24, 50, 51, 52, 53, 76, 77, 78, 79, 80, 81, 82, 83, 84, 85, 36, 33, 37, 86, 87, 32, 34, 88, 89, 90, 91, 92, 93, 94, 95, 96, 97, 98, 99, 100, 101, 102, 21, 22, 23, 25, 26, 27, 28, 29, 30, 31, 35, 38, 39, 40, 41, 42, 43, 44, 45, 46, 47, 54, 55, 56, 57, 58, 172, 173, 174, 175, 176, 177, 178, 179, 180, 181, 197, 198, 199, 200, 201, 202, 203, 204, 205, 206, 207, 208, 209, 210, 211, 212, 213, 214, 215, 216, 217, 182, 183, 184, 185, 186, 187, 188, 189, 190, 191, 192, 193, 194, 195, 196] (by decide +kernel) (by decide +kernel)
set_option maxRecDepth 20000 in
theorem gX5_takeTurn_X1_actAsRelay : GoodIn wsX5_takeTurn (wsV RX5 247 RX1 yX1_actAsRelay wsX1_actAsRelay) := goodIn_app (goodIn_of _ (by decide +kernel)) ggX5_takeTurn_X1_actAsRelay
set_option maxRecDepth 20000 in
theorem ggX5_takeTurn_X1_actAutomatically : GoodIn wsX5_takeTurn wsX1_actAutomatically := goodIn_r _ [106, 107, 64, 65, 19, 20, 108, 109, 110, 111, 112, 113, 114, 115, 116, 117, 118, 119, 120, 121, 122, 123, 124, 125, 126, 127, 128, 129, 33, 130, 131, 132, 133, 134, 135, 136, 137, 138, 139, 140, 141, 142, 143, 144, 145, 146, 147, 24, 148, 45, 43, 44, 149, 47, 48, 49, 50, 51, 52, 53, 54, 55, 56, 57, 58, 150, 151, 152, 153, 42, 154, 155, 156, 157, 158, 46, 159, 160, 161, 162, 163, 22, 23, 25, 26, 27, 28, 29, 30, 31, 32, 34, 35, 36, 37, 164, 165, 166, 167, 168, 169, 172, 173, 174, 175, 176, 177, 178, 179, 180, 181, 197, 198, 199, 200, 201, 202, 203, 204, 205, 218, 219, 220, 221, 222, 182, 183, 184, 185, 186, 187, 188, 189, 190, 191, 192, 193, 194, 195, 196] (by decide +kernel) (by decide +kernel)
set_option maxRecDepth 20000 in
theorem gX5_takeTurn_X1_actAutomatically : GoodIn wsX5_takeTurn (wsV RX5 250 RX1 yX1_actAutomatically wsX1_actAutomatically) := goodIn_app (goodIn_of _ (by decide +kernel)) ggX5_takeTurn_X1_actAutomatically
theorem dX5_takeTurn_0 : decode cX5_takeTurn 0 = .ok (.iload_n 1, 1) := by decide +kernel
theorem dX5_takeTurn_1 : decode cX5_takeTurn 1 = .ok (.ifCond .lt 12, 3) := by decide +kernel
theorem dX5_takeTurn_4 : decode cX5_takeTurn 4 = .ok (.iload_n 1, 1) := by decide +kernel
theorem dX5_takeTurn_5 : decode cX5_takeTurn 5 = .ok (.aload_n 0, 1) := by decide +kernel
theorem dX5_takeTurn_6 : decode cX5_takeTurn 6 = .ok (.getfield 11, 3) := by decide +kernel
theorem dX5_takeTurn_9 : decode cX5_takeTurn 9 = .ok (.arraylength, 1) := by decide +kernel
theorem dX5_takeTurn_10 : decode cX5_takeTurn 10 = .ok (.if_icmp .lt 4, 3) := by decide +kernel
theorem dX5_takeTurn_13 : decode cX5_takeTurn 13 = .ok (.return_, 1) := by decide +kernel
theorem dX5_takeTurn_14 : decode cX5_takeTurn 14 = .ok (.aload_n 0, 1) := by decide +kernel
theorem dX5_takeTurn_15 : decode cX5_takeTurn 15 = .ok (.getfield 11, 3) := by decide +kernel
theorem dX5_takeTurn_18 : decode cX5_takeTurn 18 = .ok (.iload_n 1, 1) := by decide +kernel
theorem dX5_takeTurn_19 : decode cX5_takeTurn 19 = .ok (.aaload, 1) := by decide +kernel
theorem dX5_takeTurn_20 : decode cX5_takeTurn 20 = .ok (.astore_n 2, 1) := by decide +kernel
theorem dX5_takeTurn_21 : decode cX5_takeTurn 21 = .ok (.aload_n 2, 1) := by decide +kernel
theorem dX5_takeTurn_22 : decode cX5_takeTurn 22 = .ok (.getfield 49, 3) := by decide +kernel
theorem dX5_takeTurn_25 : decode cX5_takeTurn 25 = .ok (.iconst 2, 1) := by decide +kernel
theorem dX5_takeTurn_26 : decode cX5_takeTurn 26 = .ok (.if_icmp .ne 25, 3) := by decide +kernel
theorem dX5_takeTurn_29 : decode cX5_takeTurn 29 = .ok (.iload_n 1, 1) := by decide +kernel
theorem dX5_takeTurn_30 : decode cX5_takeTurn 30 = .ok (.ifCond .le 21, 3) := by decide +kernel
theorem dX5_takeTurn_33 : decode cX5_takeTurn 33 = .ok (.aload_n 2, 1) := by decide +kernel
theorem dX5_takeTurn_34 : decode cX5_takeTurn 34 = .ok (.getfield 56, 3) := by decide +kernel
theorem dX5_takeTurn_37 : decode cX5_takeTurn 37 = .ok (.aload_n 0, 1) := by decide +kernel
theorem dX5_takeTurn_38 : decode cX5_takeTurn 38 = .ok (.getfield 11, 3) := by decide +kernel
theorem dX5_takeTurn_41 : decode cX5_takeTurn 41 = .ok (.iload_n 1, 1) := by decide +kernel
theorem dX5_takeTurn_42 : decode cX5_takeTurn 42 = .ok (.iconst 1, 1) := by decide +kernel
theorem dX5_takeTurn_43 : decode cX5_takeTurn 43 = .ok (.isub, 1) := by decide +kernel
theorem dX5_takeTurn_44 : decode cX5_takeTurn 44 = .ok (.aaload, 1) := by decide +kernel
theorem dX5_takeTurn_45 : decode cX5_takeTurn 45 = .ok (.getfield 131, 3) := by decide +kernel
theorem dX5_takeTurn_48 : decode cX5_takeTurn 48 = .ok (.putfield 104, 3) := by decide +kernel
theorem dX5_takeTurn_51 : decode cX5_takeTurn 51 = .ok (.aload_n 2, 1) := by decide +kernel
theorem dX5_takeTurn_52 : decode cX5_takeTurn 52 = .ok (.iconst 0, 1) := by decide +kernel
theorem dX5_takeTurn_53 : decode cX5_takeTurn 53 = .ok (.putfield 160, 3) := by decide +kernel
theorem dX5_takeTurn_56 : decode cX5_takeTurn 56 = .ok (.iload_n 1, 1) := by decide +kernel
theorem dX5_takeTurn_57 : decode cX5_takeTurn 57 = .ok (.iconst 1, 1) := by decide +kernel
theorem dX5_takeTurn_58 : decode cX5_takeTurn 58 = .ok (.iadd, 1) := by decide +kernel
theorem dX5_takeTurn_59 : decode cX5_takeTurn 59 = .ok (.aload_n 0, 1) := by decide +kernel
theorem dX5_takeTurn_60 : decode cX5_takeTurn 60 = .ok (.getfield 11, 3) := by decide +kernel
theorem dX5_takeTurn_63 : decode cX5_takeTurn 63 = .ok (.arraylength, 1) := by decide +kernel
theorem dX5_takeTurn_64 : decode cX5_takeTurn 64 = .ok (.if_icmp .ge 39, 3) := by decide +kernel
theorem dX5_takeTurn_67 : decode cX5_takeTurn 67 = .ok (.aload_n 2, 1) := by decide +kernel
theorem dX5_takeTurn_68 : decode cX5_takeTurn 68 = .ok (.aload_n 0, 1) := by decide +kernel
theorem dX5_takeTurn_69 : decode cX5_takeTurn 69 = .ok (.getfield 11, 3) := by decide +kernel
theorem dX5_takeTurn_72 : decode cX5_takeTurn 72 = .ok (.iload_n 1, 1) := by decide +kernel
theorem dX5_takeTurn_73 : decode cX5_takeTurn 73 = .ok (.iconst 1, 1) := by decide +kernel
theorem dX5_takeTurn_74 : decode cX5_takeTurn 74 = .ok (.iadd, 1) := by decide +kernel
theorem dX5_takeTurn_75 : decode cX5_takeTurn 75 = .ok (.aaload, 1) := by decide +kernel
theorem dX5_takeTurn_76 : decode cX5_takeTurn 76 = .ok (.invokevirtual 237, 3) := by decide +kernel
theorem dX5_takeTurn_79 : decode cX5_takeTurn 79 = .ok (.ifCond .eq 24, 3) := by decide +kernel
theorem dX5_takeTurn_82 : decode cX5_takeTurn 82 = .ok (.aload_n 2, 1) := by decide +kernel
theorem dX5_takeTurn_83 : decode cX5_takeTurn 83 = .ok (.aload_n 0, 1) := by decide +kernel
theorem dX5_takeTurn_84 : decode cX5_takeTurn 84 = .ok (.getfield 11, 3) := by decide +kernel
theorem dX5_takeTurn_87 : decode cX5_takeTurn 87 = .ok (.iload_n 1, 1) := by decide +kernel
theorem dX5_takeTurn_88 : decode cX5_takeTurn 88 = .ok (.iconst 1, 1) := by decide +kernel
theorem dX5_takeTurn_89 : decode cX5_takeTurn 89 = .ok (.iadd, 1) := by decide +kernel
theorem dX5_takeTurn_90 : decode cX5_takeTurn 90 = .ok (.aaload, 1) := by decide +kernel
theorem dX5_takeTurn_91 : decode cX5_takeTurn 91 = .ok (.getfield 56, 3) := by decide +kernel
theorem dX5_takeTurn_94 : decode cX5_takeTurn 94 = .ok (.getfield 104, 3) := by decide +kernel
theorem dX5_takeTurn_97 : decode cX5_takeTurn 97 = .ok (.invokevirtual 241, 3) := by decide +kernel
theorem dX5_takeTurn_100 : decode cX5_takeTurn 100 = .ok (.goto 36, 3) := by decide +kernel
theorem dX5_takeTurn_103 : decode cX5_takeTurn 103 = .ok (.aload_n 2, 1) := by decide +kernel
theorem dX5_takeTurn_104 : decode cX5_takeTurn 104 = .ok (.getfield 49, 3) := by decide +kernel
theorem dX5_takeTurn_107 : decode cX5_takeTurn 107 = .ok (.ifCond .ne 10, 3) := by decide +kernel
theorem dX5_takeTurn_110 : decode cX5_takeTurn 110 = .ok (.aload_n 2, 1) := by decide +kernel
theorem dX5_takeTurn_111 : decode cX5_takeTurn 111 = .ok (.invokevirtual 244, 3) := by decide +kernel
theorem dX5_takeTurn_114 : decode cX5_takeTurn 114 = .ok (.goto 22, 3) := by decide +kernel
theorem dX5_takeTurn_117 : decode cX5_takeTurn 117 = .ok (.aload_n 2, 1) := by decide +kernel
theorem dX5_takeTurn_118 : decode cX5_takeTurn 118 = .ok (.getfield 49, 3) := by decide +kernel
theorem dX5_takeTurn_121 : decode cX5_takeTurn 121 = .ok (.iconst 3, 1) := by decide +kernel
theorem dX5_takeTurn_122 : decode cX5_takeTurn 122 = .ok (.if_icmp .ne 10, 3) := by decide +kernel
theorem dX5_takeTurn_125 : decode cX5_takeTurn 125 = .ok (.aload_n 2, 1) := by decide +kernel
theorem dX5_takeTurn_126 : decode cX5_takeTurn 126 = .ok (.invokevirtual 247, 3) := by decide +kernel
theorem dX5_takeTurn_129 : decode cX5_takeTurn 129 = .ok (.goto 7, 3) := by decide +kernel
theorem dX5_takeTurn_132 : decode cX5_takeTurn 132 = .ok (.aload_n 2, 1) := by decide +kernel
theorem dX5_takeTurn_133 : decode cX5_takeTurn 133 = .ok (.invokevirtual 250, 3) := by decide +kernel
theorem dX5_takeTurn_136 : decode cX5_takeTurn 136 = .ok (.return_, 1) := by decide +kernel
theorem dX5_hold_0 : decode cX5_hold 0 = .ok (.lload_n 2, 1) := by decide +kernel
theorem dX5_hold_1 : decode cX5_hold 1 = .ok (.lload 4, 2) := by decide +kernel
theorem dX5_hold_3 : decode cX5_hold 3 = .ok (.lload_n 0, 1) := by decide +kernel
theorem dX5_hold_4 : decode cX5_hold 4 = .ok (.invokestatic 196, 3) := by decide +kernel
theorem dX5_hold_7 : decode cX5_hold 7 = .ok (.invokestatic 253, 3) := by decide +kernel
theorem dX5_hold_10 : decode cX5_hold 10 = .ok (.lreturn, 1) := by decide +kernel
theorem dX6_init_0 : decode cX6_init 0 = .ok (.aload_n 0, 1) := by decide +kernel
theorem dX6_init_1 : decode cX6_init 1 = .ok (.invokespecial 1, 3) := by decide +kernel
theorem dX6_init_4 : decode cX6_init 4 = .ok (.aload_n 0, 1) := by decide +kernel
theorem dX6_init_5 : decode cX6_init 5 = .ok (.iconst 3, 1) := by decide +kernel
theorem dX6_init_6 : decode cX6_init 6 = .ok (.newarray .long, 2) := by decide +kernel
theorem dX6_init_8 : decode cX6_init 8 = .ok (.putfield 7, 3) := by decide +kernel
theorem dX6_init_11 : decode cX6_init 11 = .ok (.aload_n 0, 1) := by decide +kernel
theorem dX6_init_12 : decode cX6_init 12 = .ok (.iconst 3, 1) := by decide +kernel
theorem dX6_init_13 : decode cX6_init 13 = .ok (.newarray .long, 2) := by decide +kernel
theorem dX6_init_15 : decode cX6_init 15 = .ok (.putfield 13, 3) := by decide +kernel
theorem dX6_init_18 : decode cX6_init 18 = .ok (.aload_n 0, 1) := by decide +kernel
theorem dX6_init_19 : decode cX6_init 19 = .ok (.iconst 3, 1) := by decide +kernel
theorem dX6_init_20 : decode cX6_init 20 = .ok (.newarray .long, 2) := by decide +kernel
theorem dX6_init_22 : decode cX6_init 22 = .ok (.putfield 16, 3) := by decide +kernel
theorem dX6_init_25 : decode cX6_init 25 = .ok (.aload_n 0, 1) := by decide +kernel
theorem dX6_init_26 : decode cX6_init 26 = .ok (.iconst 3, 1) := by decide +kernel
theorem dX6_init_27 : decode cX6_init 27 = .ok (.newarray .int, 2) := by decide +kernel
theorem dX6_init_29 : decode cX6_init 29 = .ok (.putfield 19, 3) := by decide +kernel
theorem dX6_init_32 : decode cX6_init 32 = .ok (.aload_n 0, 1) := by decide +kernel
theorem dX6_init_33 : decode cX6_init 33 = .ok (.iconst 3, 1) := by decide +kernel
theorem dX6_init_34 : decode cX6_init 34 = .ok (.newarray .int, 2) := by decide +kernel
theorem dX6_init_36 : decode cX6_init 36 = .ok (.putfield 23, 3) := by decide +kernel
theorem dX6_init_39 : decode cX6_init 39 = .ok (.aload_n 0, 1) := by decide +kernel
theorem dX6_init_40 : decode cX6_init 40 = .ok (.iconst 3, 1) := by decide +kernel
theorem dX6_init_41 : decode cX6_init 41 = .ok (.newarray .long, 2) := by decide +kernel
theorem dX6_init_43 : decode cX6_init 43 = .ok (.putfield 26, 3) := by decide +kernel
theorem dX6_init_46 : decode cX6_init 46 = .ok (.aload_n 0, 1) := by decide +kernel
theorem dX6_init_47 : decode cX6_init 47 = .ok (.iconst 3, 1) := by decide +kernel
theorem dX6_init_48 : decode cX6_init 48 = .ok (.newarray .long, 2) := by decide +kernel
theorem dX6_init_50 : decode cX6_init 50 = .ok (.putfield 29, 3) := by decide +kernel
theorem dX6_init_53 : decode cX6_init 53 = .ok (.aload_n 0, 1) := by decide +kernel
theorem dX6_init_54 : decode cX6_init 54 = .ok (.bipush 33, 2) := by decide +kernel
theorem dX6_init_56 : decode cX6_init 56 = .ok (.newarray .long, 2) := by decide +kernel
theorem dX6_init_58 : decode cX6_init 58 = .ok (.putfield 32, 3) := by decide +kernel
theorem dX6_init_61 : decode cX6_init 61 = .ok (.aload_n 0, 1) := by decide +kernel
theorem dX6_init_62 : decode cX6_init 62 = .ok (.bipush 9, 2) := by decide +kernel
theorem dX6_init_64 : decode cX6_init 64 = .ok (.newarray .long, 2) := by decide +kernel
theorem dX6_init_66 : decode cX6_init 66 = .ok (.putfield 35, 3) := by decide +kernel
theorem dX6_init_69 : decode cX6_init 69 = .ok (.aload_n 0, 1) := by decide +kernel
theorem dX6_init_70 : decode cX6_init 70 = .ok (.iconst 3, 1) := by decide +kernel
theorem dX6_init_71 : decode cX6_init 71 = .ok (.newarray .long, 2) := by decide +kernel
theorem dX6_init_73 : decode cX6_init 73 = .ok (.putfield 38, 3) := by decide +kernel
theorem dX6_init_76 : decode cX6_init 76 = .ok (.aload_n 0, 1) := by decide +kernel
theorem dX6_init_77 : decode cX6_init 77 = .ok (.iconst 3, 1) := by decide +kernel
theorem dX6_init_78 : decode cX6_init 78 = .ok (.newarray .long, 2) := by decide +kernel
theorem dX6_init_80 : decode cX6_init 80 = .ok (.putfield 41, 3) := by decide +kernel
theorem dX6_init_83 : decode cX6_init 83 = .ok (.aload_n 0, 1) := by decide +kernel
theorem dX6_init_84 : decode cX6_init 84 = .ok (.iconst 3, 1) := by decide +kernel
theorem dX6_init_85 : decode cX6_init 85 = .ok (.newarray .long, 2) := by decide +kernel
theorem dX6_init_87 : decode cX6_init 87 = .ok (.putfield 44, 3) := by decide +kernel
theorem dX6_init_90 : decode cX6_init 90 = .ok (.aload_n 0, 1) := by decide +kernel
theorem dX6_init_91 : decode cX6_init 91 = .ok (.iconst 3, 1) := by decide +kernel
theorem dX6_init_92 : decode cX6_init 92 = .ok (.newarray .long, 2) := by decide +kernel
theorem dX6_init_94 : decode cX6_init 94 = .ok (.putfield 47, 3) := by decide +kernel
theorem dX6_init_97 : decode cX6_init 97 = .ok (.aload_n 0, 1) := by decide +kernel
theorem dX6_init_98 : decode cX6_init 98 = .ok (.iconst 3, 1) := by decide +kernel
theorem dX6_init_99 : decode cX6_init 99 = .ok (.newarray .int, 2) := by decide +kernel
theorem dX6_init_101 : decode cX6_init 101 = .ok (.putfield 50, 3) := by decide +kernel
theorem dX6_init_104 : decode cX6_init 104 = .ok (.aload_n 0, 1) := by decide +kernel
theorem dX6_init_105 : decode cX6_init 105 = .ok (.iconst 3, 1) := by decide +kernel
theorem dX6_init_106 : decode cX6_init 106 = .ok (.newarray .int, 2) := by decide +kernel
theorem dX6_init_108 : decode cX6_init 108 = .ok (.putfield 53, 3) := by decide +kernel
theorem dX6_init_111 : decode cX6_init 111 = .ok (.aload_n 0, 1) := by decide +kernel
theorem dX6_init_112 : decode cX6_init 112 = .ok (.iconst 3, 1) := by decide +kernel
theorem dX6_init_113 : decode cX6_init 113 = .ok (.newarray .int, 2) := by decide +kernel
theorem dX6_init_115 : decode cX6_init 115 = .ok (.putfield 56, 3) := by decide +kernel
theorem dX6_init_118 : decode cX6_init 118 = .ok (.aload_n 0, 1) := by decide +kernel
theorem dX6_init_119 : decode cX6_init 119 = .ok (.iconst 3, 1) := by decide +kernel
theorem dX6_init_120 : decode cX6_init 120 = .ok (.newarray .long, 2) := by decide +kernel
theorem dX6_init_122 : decode cX6_init 122 = .ok (.putfield 59, 3) := by decide +kernel
theorem dX6_init_125 : decode cX6_init 125 = .ok (.aload_n 0, 1) := by decide +kernel
theorem dX6_init_126 : decode cX6_init 126 = .ok (.iconst 3, 1) := by decide +kernel
theorem dX6_init_127 : decode cX6_init 127 = .ok (.newarray .boolean, 2) := by decide +kernel
theorem dX6_init_129 : decode cX6_init 129 = .ok (.putfield 62, 3) := by decide +kernel
theorem dX6_init_132 : decode cX6_init 132 = .ok (.aload_n 0, 1) := by decide +kernel
theorem dX6_init_133 : decode cX6_init 133 = .ok (.iconst 3, 1) := by decide +kernel
theorem dX6_init_134 : decode cX6_init 134 = .ok (.newarray .boolean, 2) := by decide +kernel
theorem dX6_init_136 : decode cX6_init 136 = .ok (.putfield 66, 3) := by decide +kernel
theorem dX6_init_139 : decode cX6_init 139 = .ok (.aload_n 0, 1) := by decide +kernel
theorem dX6_init_140 : decode cX6_init 140 = .ok (.iconst 3, 1) := by decide +kernel
theorem dX6_init_141 : decode cX6_init 141 = .ok (.newarray .boolean, 2) := by decide +kernel
theorem dX6_init_143 : decode cX6_init 143 = .ok (.putfield 69, 3) := by decide +kernel
theorem dX6_init_146 : decode cX6_init 146 = .ok (.aload_n 0, 1) := by decide +kernel
theorem dX6_init_147 : decode cX6_init 147 = .ok (.iconst 3, 1) := by decide +kernel
theorem dX6_init_148 : decode cX6_init 148 = .ok (.newarray .int, 2) := by decide +kernel
theorem dX6_init_150 : decode cX6_init 150 = .ok (.putfield 72, 3) := by decide +kernel
theorem dX6_init_153 : decode cX6_init 153 = .ok (.aload_n 0, 1) := by decide +kernel
theorem dX6_init_154 : decode cX6_init 154 = .ok (.iconst 3, 1) := by decide +kernel
theorem dX6_init_155 : decode cX6_init 155 = .ok (.newarray .long, 2) := by decide +kernel
theorem dX6_init_157 : decode cX6_init 157 = .ok (.putfield 75, 3) := by decide +kernel
theorem dX6_init_160 : decode cX6_init 160 = .ok (.aload_n 0, 1) := by decide +kernel
theorem dX6_init_161 : decode cX6_init 161 = .ok (.iconst 3, 1) := by decide +kernel
theorem dX6_init_162 : decode cX6_init 162 = .ok (.newarray .long, 2) := by decide +kernel
theorem dX6_init_164 : decode cX6_init 164 = .ok (.putfield 78, 3) := by decide +kernel
theorem dX6_init_167 : decode cX6_init 167 = .ok (.aload_n 0, 1) := by decide +kernel
theorem dX6_init_168 : decode cX6_init 168 = .ok (.iconst 3, 1) := by decide +kernel
theorem dX6_init_169 : decode cX6_init 169 = .ok (.newarray .long, 2) := by decide +kernel
theorem dX6_init_171 : decode cX6_init 171 = .ok (.putfield 81, 3) := by decide +kernel
theorem dX6_init_174 : decode cX6_init 174 = .ok (.aload_n 0, 1) := by decide +kernel
theorem dX6_init_175 : decode cX6_init 175 = .ok (.iconst 3, 1) := by decide +kernel
theorem dX6_init_176 : decode cX6_init 176 = .ok (.newarray .boolean, 2) := by decide +kernel
theorem dX6_init_178 : decode cX6_init 178 = .ok (.putfield 84, 3) := by decide +kernel
theorem dX6_init_181 : decode cX6_init 181 = .ok (.aload_n 0, 1) := by decide +kernel
theorem dX6_init_182 : decode cX6_init 182 = .ok (.iconst 3, 1) := by decide +kernel
theorem dX6_init_183 : decode cX6_init 183 = .ok (.newarray .int, 2) := by decide +kernel
theorem dX6_init_185 : decode cX6_init 185 = .ok (.putfield 87, 3) := by decide +kernel
theorem dX6_init_188 : decode cX6_init 188 = .ok (.aload_n 0, 1) := by decide +kernel
theorem dX6_init_189 : decode cX6_init 189 = .ok (.bipush 15, 2) := by decide +kernel
theorem dX6_init_191 : decode cX6_init 191 = .ok (.newarray .long, 2) := by decide +kernel
theorem dX6_init_193 : decode cX6_init 193 = .ok (.putfield 90, 3) := by decide +kernel
theorem dX6_init_196 : decode cX6_init 196 = .ok (.aload_n 0, 1) := by decide +kernel
theorem dX6_init_197 : decode cX6_init 197 = .ok (.bipush 45, 2) := by decide +kernel
theorem dX6_init_199 : decode cX6_init 199 = .ok (.newarray .long, 2) := by decide +kernel
theorem dX6_init_201 : decode cX6_init 201 = .ok (.putfield 93, 3) := by decide +kernel
theorem dX6_init_204 : decode cX6_init 204 = .ok (.aload_n 0, 1) := by decide +kernel
theorem dX6_init_205 : decode cX6_init 205 = .ok (.iconst 3, 1) := by decide +kernel
theorem dX6_init_206 : decode cX6_init 206 = .ok (.newarray .int, 2) := by decide +kernel
theorem dX6_init_208 : decode cX6_init 208 = .ok (.putfield 96, 3) := by decide +kernel
theorem dX6_init_211 : decode cX6_init 211 = .ok (.aload_n 0, 1) := by decide +kernel
theorem dX6_init_212 : decode cX6_init 212 = .ok (.iconst 3, 1) := by decide +kernel
theorem dX6_init_213 : decode cX6_init 213 = .ok (.newarray .long, 2) := by decide +kernel
theorem dX6_init_215 : decode cX6_init 215 = .ok (.putfield 99, 3) := by decide +kernel
theorem dX6_init_218 : decode cX6_init 218 = .ok (.aload_n 0, 1) := by decide +kernel
theorem dX6_init_219 : decode cX6_init 219 = .ok (.iconst 3, 1) := by decide +kernel
theorem dX6_init_220 : decode cX6_init 220 = .ok (.newarray .int, 2) := by decide +kernel
theorem dX6_init_222 : decode cX6_init 222 = .ok (.putfield 102, 3) := by decide +kernel
theorem dX6_init_225 : decode cX6_init 225 = .ok (.aload_n 0, 1) := by decide +kernel
theorem dX6_init_226 : decode cX6_init 226 = .ok (.iconst 3, 1) := by decide +kernel
theorem dX6_init_227 : decode cX6_init 227 = .ok (.newarray .int, 2) := by decide +kernel
theorem dX6_init_229 : decode cX6_init 229 = .ok (.putfield 105, 3) := by decide +kernel
theorem dX6_init_232 : decode cX6_init 232 = .ok (.aload_n 0, 1) := by decide +kernel
theorem dX6_init_233 : decode cX6_init 233 = .ok (.iconst 3, 1) := by decide +kernel
theorem dX6_init_234 : decode cX6_init 234 = .ok (.newarray .boolean, 2) := by decide +kernel
theorem dX6_init_236 : decode cX6_init 236 = .ok (.putfield 108, 3) := by decide +kernel
theorem dX6_init_239 : decode cX6_init 239 = .ok (.aload_n 0, 1) := by decide +kernel
theorem dX6_init_240 : decode cX6_init 240 = .ok (.iconst 3, 1) := by decide +kernel
theorem dX6_init_241 : decode cX6_init 241 = .ok (.newarray .int, 2) := by decide +kernel
theorem dX6_init_243 : decode cX6_init 243 = .ok (.putfield 111, 3) := by decide +kernel
theorem dX6_init_246 : decode cX6_init 246 = .ok (.aload_n 0, 1) := by decide +kernel
theorem dX6_init_247 : decode cX6_init 247 = .ok (.iconst 3, 1) := by decide +kernel
theorem dX6_init_248 : decode cX6_init 248 = .ok (.newarray .int, 2) := by decide +kernel
theorem dX6_init_250 : decode cX6_init 250 = .ok (.putfield 114, 3) := by decide +kernel
theorem dX6_init_253 : decode cX6_init 253 = .ok (.aload_n 0, 1) := by decide +kernel
theorem dX6_init_254 : decode cX6_init 254 = .ok (.iconst 3, 1) := by decide +kernel
theorem dX6_init_255 : decode cX6_init 255 = .ok (.newarray .int, 2) := by decide +kernel
theorem dX6_init_257 : decode cX6_init 257 = .ok (.putfield 117, 3) := by decide +kernel
theorem dX6_init_260 : decode cX6_init 260 = .ok (.aload_n 0, 1) := by decide +kernel
theorem dX6_init_261 : decode cX6_init 261 = .ok (.iconst 3, 1) := by decide +kernel
theorem dX6_init_262 : decode cX6_init 262 = .ok (.newarray .long, 2) := by decide +kernel
theorem dX6_init_264 : decode cX6_init 264 = .ok (.putfield 120, 3) := by decide +kernel
theorem dX6_init_267 : decode cX6_init 267 = .ok (.aload_n 0, 1) := by decide +kernel
theorem dX6_init_268 : decode cX6_init 268 = .ok (.iconst 3, 1) := by decide +kernel
theorem dX6_init_269 : decode cX6_init 269 = .ok (.newarray .long, 2) := by decide +kernel
theorem dX6_init_271 : decode cX6_init 271 = .ok (.putfield 123, 3) := by decide +kernel
theorem dX6_init_274 : decode cX6_init 274 = .ok (.aload_n 0, 1) := by decide +kernel
theorem dX6_init_275 : decode cX6_init 275 = .ok (.iconst 3, 1) := by decide +kernel
theorem dX6_init_276 : decode cX6_init 276 = .ok (.newarray .int, 2) := by decide +kernel
theorem dX6_init_278 : decode cX6_init 278 = .ok (.putfield 126, 3) := by decide +kernel
theorem dX6_init_281 : decode cX6_init 281 = .ok (.aload_n 0, 1) := by decide +kernel
theorem dX6_init_282 : decode cX6_init 282 = .ok (.iconst 3, 1) := by decide +kernel
theorem dX6_init_283 : decode cX6_init 283 = .ok (.newarray .long, 2) := by decide +kernel
theorem dX6_init_285 : decode cX6_init 285 = .ok (.putfield 129, 3) := by decide +kernel
theorem dX6_init_288 : decode cX6_init 288 = .ok (.iconst 0, 1) := by decide +kernel
theorem dX6_init_289 : decode cX6_init 289 = .ok (.istore_n 1, 1) := by decide +kernel
theorem dX6_init_290 : decode cX6_init 290 = .ok (.iload_n 1, 1) := by decide +kernel
theorem dX6_init_291 : decode cX6_init 291 = .ok (.iconst 3, 1) := by decide +kernel
theorem dX6_init_292 : decode cX6_init 292 = .ok (.if_icmp .ge 69, 3) := by decide +kernel
theorem dX6_init_295 : decode cX6_init 295 = .ok (.aload_n 0, 1) := by decide +kernel
theorem dX6_init_296 : decode cX6_init 296 = .ok (.getfield 7, 3) := by decide +kernel
theorem dX6_init_299 : decode cX6_init 299 = .ok (.iload_n 1, 1) := by decide +kernel
theorem dX6_init_300 : decode cX6_init 300 = .ok (.ldc2_w 132, 3) := by decide +kernel
theorem dX6_init_303 : decode cX6_init 303 = .ok (.lastore, 1) := by decide +kernel
theorem dX6_init_304 : decode cX6_init 304 = .ok (.aload_n 0, 1) := by decide +kernel
theorem dX6_init_305 : decode cX6_init 305 = .ok (.getfield 16, 3) := by decide +kernel
theorem dX6_init_308 : decode cX6_init 308 = .ok (.iload_n 1, 1) := by decide +kernel
theorem dX6_init_309 : decode cX6_init 309 = .ok (.ldc2_w 134, 3) := by decide +kernel
theorem dX6_init_312 : decode cX6_init 312 = .ok (.lastore, 1) := by decide +kernel
theorem dX6_init_313 : decode cX6_init 313 = .ok (.aload_n 0, 1) := by decide +kernel
theorem dX6_init_314 : decode cX6_init 314 = .ok (.getfield 35, 3) := by decide +kernel
theorem dX6_init_317 : decode cX6_init 317 = .ok (.iconst 3, 1) := by decide +kernel
theorem dX6_init_318 : decode cX6_init 318 = .ok (.iload_n 1, 1) := by decide +kernel
theorem dX6_init_319 : decode cX6_init 319 = .ok (.imul, 1) := by decide +kernel
theorem dX6_init_320 : decode cX6_init 320 = .ok (.ldc2_w 136, 3) := by decide +kernel
theorem dX6_init_323 : decode cX6_init 323 = .ok (.lastore, 1) := by decide +kernel
theorem dX6_init_324 : decode cX6_init 324 = .ok (.aload_n 0, 1) := by decide +kernel
theorem dX6_init_325 : decode cX6_init 325 = .ok (.getfield 35, 3) := by decide +kernel
theorem dX6_init_328 : decode cX6_init 328 = .ok (.iconst 3, 1) := by decide +kernel
theorem dX6_init_329 : decode cX6_init 329 = .ok (.iload_n 1, 1) := by decide +kernel
theorem dX6_init_330 : decode cX6_init 330 = .ok (.imul, 1) := by decide +kernel
theorem dX6_init_331 : decode cX6_init 331 = .ok (.iconst 1, 1) := by decide +kernel
theorem dX6_init_332 : decode cX6_init 332 = .ok (.iadd, 1) := by decide +kernel
theorem dX6_init_333 : decode cX6_init 333 = .ok (.ldc2_w 138, 3) := by decide +kernel
theorem dX6_init_336 : decode cX6_init 336 = .ok (.lastore, 1) := by decide +kernel
theorem dX6_init_337 : decode cX6_init 337 = .ok (.aload_n 0, 1) := by decide +kernel
theorem dX6_init_338 : decode cX6_init 338 = .ok (.getfield 41, 3) := by decide +kernel
theorem dX6_init_341 : decode cX6_init 341 = .ok (.iload_n 1, 1) := by decide +kernel
theorem dX6_init_342 : decode cX6_init 342 = .ok (.ldc2_w 140, 3) := by decide +kernel
theorem dX6_init_345 : decode cX6_init 345 = .ok (.lastore, 1) := by decide +kernel
theorem dX6_init_346 : decode cX6_init 346 = .ok (.aload_n 0, 1) := by decide +kernel
theorem dX6_init_347 : decode cX6_init 347 = .ok (.getfield 53, 3) := by decide +kernel
theorem dX6_init_350 : decode cX6_init 350 = .ok (.iload_n 1, 1) := by decide +kernel
theorem dX6_init_351 : decode cX6_init 351 = .ok (.sipush 500, 3) := by decide +kernel
theorem dX6_init_354 : decode cX6_init 354 = .ok (.iastore, 1) := by decide +kernel
theorem dX6_init_355 : decode cX6_init 355 = .ok (.iinc 1 1, 3) := by decide +kernel
theorem dX6_init_358 : decode cX6_init 358 = .ok (.goto (-68), 3) := by decide +kernel
theorem dX6_init_361 : decode cX6_init 361 = .ok (.return_, 1) := by decide +kernel
theorem dX6_thrown_0 : decode cX6_thrown 0 = .ok (.aload_n 0, 1) := by decide +kernel
theorem dX6_thrown_1 : decode cX6_thrown 1 = .ok (.getfield 142, 3) := by decide +kernel
theorem dX6_thrown_4 : decode cX6_thrown 4 = .ok (.ireturn, 1) := by decide +kernel
theorem dX6_can_0 : decode cX6_can 0 = .ok (.aload_n 0, 1) := by decide +kernel
theorem dX6_can_1 : decode cX6_can 1 = .ok (.iload_n 1, 1) := by decide +kernel
theorem dX6_can_2 : decode cX6_can 2 = .ok (.putfield 142, 3) := by decide +kernel
theorem dX6_can_5 : decode cX6_can 5 = .ok (.iload_n 1, 1) := by decide +kernel
theorem dX6_can_6 : decode cX6_can 6 = .ok (.ifCond .ne 7, 3) := by decide +kernel
theorem dX6_can_9 : decode cX6_can 9 = .ok (.iconst 1, 1) := by decide +kernel
theorem dX6_can_10 : decode cX6_can 10 = .ok (.goto 4, 3) := by decide +kernel
theorem dX6_can_13 : decode cX6_can 13 = .ok (.iconst 0, 1) := by decide +kernel
theorem dX6_can_14 : decode cX6_can 14 = .ok (.ireturn, 1) := by decide +kernel
theorem dX6_isLoop_0 : decode cX6_isLoop 0 = .ok (.iload_n 0, 1) := by decide +kernel
theorem dX6_isLoop_1 : decode cX6_isLoop 1 = .ok (.ifCond .lt 12, 3) := by decide +kernel
theorem dX6_isLoop_4 : decode cX6_isLoop 4 = .ok (.iload_n 0, 1) := by decide +kernel
theorem dX6_isLoop_5 : decode cX6_isLoop 5 = .ok (.iconst 3, 1) := by decide +kernel
theorem dX6_isLoop_6 : decode cX6_isLoop 6 = .ok (.if_icmp .ge 7, 3) := by decide +kernel
theorem dX6_isLoop_9 : decode cX6_isLoop 9 = .ok (.iconst 1, 1) := by decide +kernel
theorem dX6_isLoop_10 : decode cX6_isLoop 10 = .ok (.goto 4, 3) := by decide +kernel
theorem dX6_isLoop_13 : decode cX6_isLoop 13 = .ok (.iconst 0, 1) := by decide +kernel
theorem dX6_isLoop_14 : decode cX6_isLoop 14 = .ok (.ireturn, 1) := by decide +kernel
theorem dX6_isIn_0 : decode cX6_isIn 0 = .ok (.iload_n 0, 1) := by decide +kernel
theorem dX6_isIn_1 : decode cX6_isIn 1 = .ok (.iload_n 1, 1) := by decide +kernel
theorem dX6_isIn_2 : decode cX6_isIn 2 = .ok (.if_icmp .lt 12, 3) := by decide +kernel
theorem dX6_isIn_5 : decode cX6_isIn 5 = .ok (.iload_n 0, 1) := by decide +kernel
theorem dX6_isIn_6 : decode cX6_isIn 6 = .ok (.iload_n 2, 1) := by decide +kernel
theorem dX6_isIn_7 : decode cX6_isIn 7 = .ok (.if_icmp .gt 7, 3) := by decide +kernel
theorem dX6_isIn_10 : decode cX6_isIn 10 = .ok (.iconst 1, 1) := by decide +kernel
theorem dX6_isIn_11 : decode cX6_isIn 11 = .ok (.goto 4, 3) := by decide +kernel
theorem dX6_isIn_14 : decode cX6_isIn 14 = .ok (.iconst 0, 1) := by decide +kernel
theorem dX6_isIn_15 : decode cX6_isIn 15 = .ok (.ireturn, 1) := by decide +kernel
theorem dX6_floor_0 : decode cX6_floor 0 = .ok (.lload_n 0, 1) := by decide +kernel
theorem dX6_floor_1 : decode cX6_floor 1 = .ok (.lload_n 2, 1) := by decide +kernel
theorem dX6_floor_2 : decode cX6_floor 2 = .ok (.ldiv, 1) := by decide +kernel
theorem dX6_floor_3 : decode cX6_floor 3 = .ok (.lstore 4, 2) := by decide +kernel
theorem dX6_floor_5 : decode cX6_floor 5 = .ok (.lload 4, 2) := by decide +kernel
theorem dX6_floor_7 : decode cX6_floor 7 = .ok (.lload_n 2, 1) := by decide +kernel
theorem dX6_floor_8 : decode cX6_floor 8 = .ok (.lmul, 1) := by decide +kernel
theorem dX6_floor_9 : decode cX6_floor 9 = .ok (.lload_n 0, 1) := by decide +kernel
theorem dX6_floor_10 : decode cX6_floor 10 = .ok (.lcmp, 1) := by decide +kernel
theorem dX6_floor_11 : decode cX6_floor 11 = .ok (.ifCond .le 10, 3) := by decide +kernel
theorem dX6_floor_14 : decode cX6_floor 14 = .ok (.lload 4, 2) := by decide +kernel
theorem dX6_floor_16 : decode cX6_floor 16 = .ok (.lconst 1, 1) := by decide +kernel
theorem dX6_floor_17 : decode cX6_floor 17 = .ok (.lsub, 1) := by decide +kernel
theorem dX6_floor_18 : decode cX6_floor 18 = .ok (.goto 5, 3) := by decide +kernel
theorem dX6_floor_21 : decode cX6_floor 21 = .ok (.lload 4, 2) := by decide +kernel
theorem dX6_floor_23 : decode cX6_floor 23 = .ok (.lreturn, 1) := by decide +kernel
theorem dX6_within_0 : decode cX6_within 0 = .ok (.lload_n 0, 1) := by decide +kernel
theorem dX6_within_1 : decode cX6_within 1 = .ok (.lload_n 2, 1) := by decide +kernel
theorem dX6_within_2 : decode cX6_within 2 = .ok (.lcmp, 1) := by decide +kernel
theorem dX6_within_3 : decode cX6_within 3 = .ok (.ifCond .ge 7, 3) := by decide +kernel
theorem dX6_within_6 : decode cX6_within 6 = .ok (.lload_n 2, 1) := by decide +kernel
theorem dX6_within_7 : decode cX6_within 7 = .ok (.goto 16, 3) := by decide +kernel
theorem dX6_within_10 : decode cX6_within 10 = .ok (.lload_n 0, 1) := by decide +kernel
theorem dX6_within_11 : decode cX6_within 11 = .ok (.lload 4, 2) := by decide +kernel
theorem dX6_within_13 : decode cX6_within 13 = .ok (.lcmp, 1) := by decide +kernel
theorem dX6_within_14 : decode cX6_within 14 = .ok (.ifCond .le 8, 3) := by decide +kernel
theorem dX6_within_17 : decode cX6_within 17 = .ok (.lload 4, 2) := by decide +kernel
theorem dX6_within_19 : decode cX6_within 19 = .ok (.goto 4, 3) := by decide +kernel
theorem dX6_within_22 : decode cX6_within 22 = .ok (.lload_n 0, 1) := by decide +kernel
theorem dX6_within_23 : decode cX6_within 23 = .ok (.lreturn, 1) := by decide +kernel
set_option maxRecDepth 20000 in
theorem ggX6_areGains_X6_isIn : GoodIn wsX6_areGains wsX6_isIn := goodIn_r _ [6] (by decide +kernel) (by decide +kernel)
set_option maxRecDepth 20000 in
theorem gX6_areGains_X6_isIn : GoodIn wsX6_areGains (va_wsS RX6 146 yX6_isIn wsX6_isIn) := goodIn_app (goodIn_of _ (by decide +kernel)) ggX6_areGains_X6_isIn
theorem dX6_areGains_0 : decode cX6_areGains 0 = .ok (.iload_n 0, 1) := by decide +kernel
theorem dX6_areGains_1 : decode cX6_areGains 1 = .ok (.sipush (-20000), 3) := by decide +kernel
theorem dX6_areGains_4 : decode cX6_areGains 4 = .ok (.sipush 20000, 3) := by decide +kernel
theorem dX6_areGains_7 : decode cX6_areGains 7 = .ok (.invokestatic 146, 3) := by decide +kernel
theorem dX6_areGains_10 : decode cX6_areGains 10 = .ok (.ifCond .eq 31, 3) := by decide +kernel
theorem dX6_areGains_13 : decode cX6_areGains 13 = .ok (.iload_n 1, 1) := by decide +kernel
theorem dX6_areGains_14 : decode cX6_areGains 14 = .ok (.sipush (-5000), 3) := by decide +kernel
theorem dX6_areGains_17 : decode cX6_areGains 17 = .ok (.sipush 5000, 3) := by decide +kernel
theorem dX6_areGains_20 : decode cX6_areGains 20 = .ok (.invokestatic 146, 3) := by decide +kernel
theorem dX6_areGains_23 : decode cX6_areGains 23 = .ok (.ifCond .eq 18, 3) := by decide +kernel
theorem dX6_areGains_26 : decode cX6_areGains 26 = .ok (.iload_n 2, 1) := by decide +kernel
theorem dX6_areGains_27 : decode cX6_areGains 27 = .ok (.ldc 150, 2) := by decide +kernel
theorem dX6_areGains_29 : decode cX6_areGains 29 = .ok (.ldc 151, 2) := by decide +kernel
theorem dX6_areGains_31 : decode cX6_areGains 31 = .ok (.invokestatic 146, 3) := by decide +kernel
theorem dX6_areGains_34 : decode cX6_areGains 34 = .ok (.ifCond .eq 7, 3) := by decide +kernel
theorem dX6_areGains_37 : decode cX6_areGains 37 = .ok (.iconst 1, 1) := by decide +kernel
theorem dX6_areGains_38 : decode cX6_areGains 38 = .ok (.goto 4, 3) := by decide +kernel
theorem dX6_areGains_41 : decode cX6_areGains 41 = .ok (.iconst 0, 1) := by decide +kernel
theorem dX6_areGains_42 : decode cX6_areGains 42 = .ok (.ireturn, 1) := by decide +kernel
theorem dX6_error_0 : decode cX6_error 0 = .ok (.aload_n 0, 1) := by decide +kernel
theorem dX6_error_1 : decode cX6_error 1 = .ok (.getfield 44, 3) := by decide +kernel
theorem dX6_error_4 : decode cX6_error 4 = .ok (.iload_n 1, 1) := by decide +kernel
theorem dX6_error_5 : decode cX6_error 5 = .ok (.laload, 1) := by decide +kernel
theorem dX6_error_6 : decode cX6_error 6 = .ok (.aload_n 0, 1) := by decide +kernel
theorem dX6_error_7 : decode cX6_error 7 = .ok (.getfield 26, 3) := by decide +kernel
theorem dX6_error_10 : decode cX6_error 10 = .ok (.iload_n 1, 1) := by decide +kernel
theorem dX6_error_11 : decode cX6_error 11 = .ok (.laload, 1) := by decide +kernel
theorem dX6_error_12 : decode cX6_error 12 = .ok (.lsub, 1) := by decide +kernel
theorem dX6_error_13 : decode cX6_error 13 = .ok (.lreturn, 1) := by decide +kernel
theorem dX6_rate_0 : decode cX6_rate 0 = .ok (.aload_n 0, 1) := by decide +kernel
theorem dX6_rate_1 : decode cX6_rate 1 = .ok (.getfield 29, 3) := by decide +kernel
theorem dX6_rate_4 : decode cX6_rate 4 = .ok (.iload_n 1, 1) := by decide +kernel
theorem dX6_rate_5 : decode cX6_rate 5 = .ok (.laload, 1) := by decide +kernel
theorem dX6_rate_6 : decode cX6_rate 6 = .ok (.aload_n 0, 1) := by decide +kernel
theorem dX6_rate_7 : decode cX6_rate 7 = .ok (.getfield 26, 3) := by decide +kernel
theorem dX6_rate_10 : decode cX6_rate 10 = .ok (.iload_n 1, 1) := by decide +kernel
theorem dX6_rate_11 : decode cX6_rate 11 = .ok (.laload, 1) := by decide +kernel
theorem dX6_rate_12 : decode cX6_rate 12 = .ok (.lsub, 1) := by decide +kernel
theorem dX6_rate_13 : decode cX6_rate 13 = .ok (.lreturn, 1) := by decide +kernel
theorem dX6_latest_0 : decode cX6_latest 0 = .ok (.aload_n 0, 1) := by decide +kernel
theorem dX6_latest_1 : decode cX6_latest 1 = .ok (.getfield 32, 3) := by decide +kernel
theorem dX6_latest_4 : decode cX6_latest 4 = .ok (.bipush 11, 2) := by decide +kernel
theorem dX6_latest_6 : decode cX6_latest 6 = .ok (.iload_n 1, 1) := by decide +kernel
theorem dX6_latest_7 : decode cX6_latest 7 = .ok (.imul, 1) := by decide +kernel
theorem dX6_latest_8 : decode cX6_latest 8 = .ok (.laload, 1) := by decide +kernel
theorem dX6_latest_9 : decode cX6_latest 9 = .ok (.lreturn, 1) := by decide +kernel
set_option maxRecDepth 20000 in
theorem ggX6_setPlant_X6_isIn : GoodIn wsX6_setPlant wsX6_isIn := goodIn_r _ [8] (by decide +kernel) (by decide +kernel)
set_option maxRecDepth 20000 in
theorem gX6_setPlant_X6_isIn : GoodIn wsX6_setPlant (va_wsS RX6 146 yX6_isIn wsX6_isIn) := goodIn_app (goodIn_of _ (by decide +kernel)) ggX6_setPlant_X6_isIn
set_option maxRecDepth 20000 in
theorem ggX6_setPlant_X6_isLoop : GoodIn wsX6_setPlant wsX6_isLoop := goodIn_r _ [11] (by decide +kernel) (by decide +kernel)
set_option maxRecDepth 20000 in
theorem gX6_setPlant_X6_isLoop : GoodIn wsX6_setPlant (va_wsS RX6 152 yX6_isLoop wsX6_isLoop) := goodIn_app (goodIn_of _ (by decide +kernel)) ggX6_setPlant_X6_isLoop
set_option maxRecDepth 20000 in
theorem ggX6_setPlant_X6_can : GoodIn wsX6_setPlant wsX6_can := goodIn_r _ [15, 16, 17, 18, 19, 20, 21, 22, 23, 24, 25, 26, 27, 28, 29, 30, 31, 32, 33, 34, 35, 36, 37, 38, 39, 40, 41, 42, 43, 44, 45, 46, 47, 48, 49, 50, 51, 52, 53, 54, 55, 56, 57, 58] (by decide +kernel) (by decide +kernel)
set_option maxRecDepth 20000 in
theorem gX6_setPlant_X6_can : GoodIn wsX6_setPlant (wsV RX6 156 RX6 yX6_can wsX6_can) := goodIn_app (goodIn_of _ (by decide +kernel)) ggX6_setPlant_X6_can
theorem dX6_setPlant_0 : decode cX6_setPlant 0 = .ok (.iload_n 2, 1) := by decide +kernel
theorem dX6_setPlant_1 : decode cX6_setPlant 1 = .ok (.sipush (-2000), 3) := by decide +kernel
theorem dX6_setPlant_4 : decode cX6_setPlant 4 = .ok (.sipush 2000, 3) := by decide +kernel
theorem dX6_setPlant_7 : decode cX6_setPlant 7 = .ok (.invokestatic 146, 3) := by decide +kernel
theorem dX6_setPlant_10 : decode cX6_setPlant 10 = .ok (.ifCond .eq 45, 3) := by decide +kernel
theorem dX6_setPlant_13 : decode cX6_setPlant 13 = .ok (.iload_n 3, 1) := by decide +kernel
theorem dX6_setPlant_14 : decode cX6_setPlant 14 = .ok (.sipush (-1000), 3) := by decide +kernel
theorem dX6_setPlant_17 : decode cX6_setPlant 17 = .ok (.sipush 1000, 3) := by decide +kernel
theorem dX6_setPlant_20 : decode cX6_setPlant 20 = .ok (.invokestatic 146, 3) := by decide +kernel
theorem dX6_setPlant_23 : decode cX6_setPlant 23 = .ok (.ifCond .eq 32, 3) := by decide +kernel
theorem dX6_setPlant_26 : decode cX6_setPlant 26 = .ok (.iload 4, 2) := by decide +kernel
theorem dX6_setPlant_28 : decode cX6_setPlant 28 = .ok (.sipush (-2000), 3) := by decide +kernel
theorem dX6_setPlant_31 : decode cX6_setPlant 31 = .ok (.sipush 2000, 3) := by decide +kernel
theorem dX6_setPlant_34 : decode cX6_setPlant 34 = .ok (.invokestatic 146, 3) := by decide +kernel
theorem dX6_setPlant_37 : decode cX6_setPlant 37 = .ok (.ifCond .eq 18, 3) := by decide +kernel
theorem dX6_setPlant_40 : decode cX6_setPlant 40 = .ok (.iload 5, 2) := by decide +kernel
theorem dX6_setPlant_42 : decode cX6_setPlant 42 = .ok (.iconst 0, 1) := by decide +kernel
theorem dX6_setPlant_43 : decode cX6_setPlant 43 = .ok (.bipush 10, 2) := by decide +kernel
theorem dX6_setPlant_45 : decode cX6_setPlant 45 = .ok (.invokestatic 146, 3) := by decide +kernel
theorem dX6_setPlant_48 : decode cX6_setPlant 48 = .ok (.ifCond .eq 7, 3) := by decide +kernel
theorem dX6_setPlant_51 : decode cX6_setPlant 51 = .ok (.iconst 1, 1) := by decide +kernel
theorem dX6_setPlant_52 : decode cX6_setPlant 52 = .ok (.goto 4, 3) := by decide +kernel
theorem dX6_setPlant_55 : decode cX6_setPlant 55 = .ok (.iconst 0, 1) := by decide +kernel
theorem dX6_setPlant_56 : decode cX6_setPlant 56 = .ok (.istore 6, 2) := by decide +kernel
theorem dX6_setPlant_58 : decode cX6_setPlant 58 = .ok (.aload_n 0, 1) := by decide +kernel
theorem dX6_setPlant_59 : decode cX6_setPlant 59 = .ok (.iload_n 1, 1) := by decide +kernel
theorem dX6_setPlant_60 : decode cX6_setPlant 60 = .ok (.invokestatic 152, 3) := by decide +kernel
theorem dX6_setPlant_63 : decode cX6_setPlant 63 = .ok (.ifCond .ne 7, 3) := by decide +kernel
theorem dX6_setPlant_66 : decode cX6_setPlant 66 = .ok (.iconst 1, 1) := by decide +kernel
theorem dX6_setPlant_67 : decode cX6_setPlant 67 = .ok (.goto 13, 3) := by decide +kernel
theorem dX6_setPlant_70 : decode cX6_setPlant 70 = .ok (.iload 6, 2) := by decide +kernel
theorem dX6_setPlant_72 : decode cX6_setPlant 72 = .ok (.ifCond .eq 7, 3) := by decide +kernel
theorem dX6_setPlant_75 : decode cX6_setPlant 75 = .ok (.iconst 0, 1) := by decide +kernel
theorem dX6_setPlant_76 : decode cX6_setPlant 76 = .ok (.goto 4, 3) := by decide +kernel
theorem dX6_setPlant_79 : decode cX6_setPlant 79 = .ok (.iconst 2, 1) := by decide +kernel
theorem dX6_setPlant_80 : decode cX6_setPlant 80 = .ok (.invokevirtual 156, 3) := by decide +kernel
theorem dX6_setPlant_83 : decode cX6_setPlant 83 = .ok (.ifCond .eq 36, 3) := by decide +kernel
theorem dX6_setPlant_86 : decode cX6_setPlant 86 = .ok (.aload_n 0, 1) := by decide +kernel
theorem dX6_setPlant_87 : decode cX6_setPlant 87 = .ok (.getfield 7, 3) := by decide +kernel
theorem dX6_setPlant_90 : decode cX6_setPlant 90 = .ok (.iload_n 1, 1) := by decide +kernel
theorem dX6_setPlant_91 : decode cX6_setPlant 91 = .ok (.iload_n 2, 1) := by decide +kernel
theorem dX6_setPlant_92 : decode cX6_setPlant 92 = .ok (.i2l, 1) := by decide +kernel
theorem dX6_setPlant_93 : decode cX6_setPlant 93 = .ok (.lastore, 1) := by decide +kernel
theorem dX6_setPlant_94 : decode cX6_setPlant 94 = .ok (.aload_n 0, 1) := by decide +kernel
theorem dX6_setPlant_95 : decode cX6_setPlant 95 = .ok (.getfield 13, 3) := by decide +kernel
theorem dX6_setPlant_98 : decode cX6_setPlant 98 = .ok (.iload_n 1, 1) := by decide +kernel
theorem dX6_setPlant_99 : decode cX6_setPlant 99 = .ok (.iload_n 3, 1) := by decide +kernel
theorem dX6_setPlant_100 : decode cX6_setPlant 100 = .ok (.i2l, 1) := by decide +kernel
theorem dX6_setPlant_101 : decode cX6_setPlant 101 = .ok (.lastore, 1) := by decide +kernel
theorem dX6_setPlant_102 : decode cX6_setPlant 102 = .ok (.aload_n 0, 1) := by decide +kernel
theorem dX6_setPlant_103 : decode cX6_setPlant 103 = .ok (.getfield 16, 3) := by decide +kernel
theorem dX6_setPlant_106 : decode cX6_setPlant 106 = .ok (.iload_n 1, 1) := by decide +kernel
theorem dX6_setPlant_107 : decode cX6_setPlant 107 = .ok (.iload 4, 2) := by decide +kernel
theorem dX6_setPlant_109 : decode cX6_setPlant 109 = .ok (.i2l, 1) := by decide +kernel
theorem dX6_setPlant_110 : decode cX6_setPlant 110 = .ok (.lastore, 1) := by decide +kernel
theorem dX6_setPlant_111 : decode cX6_setPlant 111 = .ok (.aload_n 0, 1) := by decide +kernel
theorem dX6_setPlant_112 : decode cX6_setPlant 112 = .ok (.getfield 19, 3) := by decide +kernel
theorem dX6_setPlant_115 : decode cX6_setPlant 115 = .ok (.iload_n 1, 1) := by decide +kernel
theorem dX6_setPlant_116 : decode cX6_setPlant 116 = .ok (.iload 5, 2) := by decide +kernel
theorem dX6_setPlant_118 : decode cX6_setPlant 118 = .ok (.iastore, 1) := by decide +kernel
theorem dX6_setPlant_119 : decode cX6_setPlant 119 = .ok (.return_, 1) := by decide +kernel
set_option maxRecDepth 20000 in
theorem ggX6_setLoad_X6_isLoop : GoodIn wsX6_setLoad wsX6_isLoop := goodIn_r _ [5] (by decide +kernel) (by decide +kernel)
set_option maxRecDepth 20000 in
theorem gX6_setLoad_X6_isLoop : GoodIn wsX6_setLoad (va_wsS RX6 152 yX6_isLoop wsX6_isLoop) := goodIn_app (goodIn_of _ (by decide +kernel)) ggX6_setLoad_X6_isLoop
set_option maxRecDepth 20000 in
theorem ggX6_setLoad_X6_isIn : GoodIn wsX6_setLoad wsX6_isIn := goodIn_r _ [8] (by decide +kernel) (by decide +kernel)
set_option maxRecDepth 20000 in
theorem gX6_setLoad_X6_isIn : GoodIn wsX6_setLoad (va_wsS RX6 146 yX6_isIn wsX6_isIn) := goodIn_app (goodIn_of _ (by decide +kernel)) ggX6_setLoad_X6_isIn
set_option maxRecDepth 20000 in
theorem ggX6_setLoad_X6_can : GoodIn wsX6_setLoad wsX6_can := goodIn_r _ [12, 13, 14, 15, 16, 17, 18, 19, 20, 21, 22, 23, 24, 25, 26, 27, 28, 29, 30, 31, 32, 33, 34, 35, 36, 37, 38, 39, 40, 41, 42, 43, 44, 45, 46, 47, 48, 49, 50, 51, 52, 53, 54, 55] (by decide +kernel) (by decide +kernel)
set_option maxRecDepth 20000 in
theorem gX6_setLoad_X6_can : GoodIn wsX6_setLoad (wsV RX6 156 RX6 yX6_can wsX6_can) := goodIn_app (goodIn_of _ (by decide +kernel)) ggX6_setLoad_X6_can
theorem dX6_setLoad_0 : decode cX6_setLoad 0 = .ok (.aload_n 0, 1) := by decide +kernel
theorem dX6_setLoad_1 : decode cX6_setLoad 1 = .ok (.iload_n 1, 1) := by decide +kernel
theorem dX6_setLoad_2 : decode cX6_setLoad 2 = .ok (.invokestatic 152, 3) := by decide +kernel
theorem dX6_setLoad_5 : decode cX6_setLoad 5 = .ok (.ifCond .ne 7, 3) := by decide +kernel
theorem dX6_setLoad_8 : decode cX6_setLoad 8 = .ok (.iconst 1, 1) := by decide +kernel
theorem dX6_setLoad_9 : decode cX6_setLoad 9 = .ok (.goto 21, 3) := by decide +kernel
theorem dX6_setLoad_12 : decode cX6_setLoad 12 = .ok (.iload_n 2, 1) := by decide +kernel
theorem dX6_setLoad_13 : decode cX6_setLoad 13 = .ok (.sipush (-10000), 3) := by decide +kernel
theorem dX6_setLoad_16 : decode cX6_setLoad 16 = .ok (.sipush 10000, 3) := by decide +kernel
theorem dX6_setLoad_19 : decode cX6_setLoad 19 = .ok (.invokestatic 146, 3) := by decide +kernel
theorem dX6_setLoad_22 : decode cX6_setLoad 22 = .ok (.ifCond .eq 7, 3) := by decide +kernel
theorem dX6_setLoad_25 : decode cX6_setLoad 25 = .ok (.iconst 0, 1) := by decide +kernel
theorem dX6_setLoad_26 : decode cX6_setLoad 26 = .ok (.goto 4, 3) := by decide +kernel
theorem dX6_setLoad_29 : decode cX6_setLoad 29 = .ok (.iconst 2, 1) := by decide +kernel
theorem dX6_setLoad_30 : decode cX6_setLoad 30 = .ok (.invokevirtual 156, 3) := by decide +kernel
theorem dX6_setLoad_33 : decode cX6_setLoad 33 = .ok (.ifCond .ne 5, 3) := by decide +kernel
theorem dX6_setLoad_36 : decode cX6_setLoad 36 = .ok (.iconst 0, 1) := by decide +kernel
theorem dX6_setLoad_37 : decode cX6_setLoad 37 = .ok (.ireturn, 1) := by decide +kernel
theorem dX6_setLoad_38 : decode cX6_setLoad 38 = .ok (.aload_n 0, 1) := by decide +kernel
theorem dX6_setLoad_39 : decode cX6_setLoad 39 = .ok (.getfield 23, 3) := by decide +kernel
theorem dX6_setLoad_42 : decode cX6_setLoad 42 = .ok (.iload_n 1, 1) := by decide +kernel
theorem dX6_setLoad_43 : decode cX6_setLoad 43 = .ok (.iaload, 1) := by decide +kernel
theorem dX6_setLoad_44 : decode cX6_setLoad 44 = .ok (.istore_n 3, 1) := by decide +kernel
theorem dX6_setLoad_45 : decode cX6_setLoad 45 = .ok (.aload_n 0, 1) := by decide +kernel
theorem dX6_setLoad_46 : decode cX6_setLoad 46 = .ok (.getfield 23, 3) := by decide +kernel
theorem dX6_setLoad_49 : decode cX6_setLoad 49 = .ok (.iload_n 1, 1) := by decide +kernel
theorem dX6_setLoad_50 : decode cX6_setLoad 50 = .ok (.iload_n 2, 1) := by decide +kernel
theorem dX6_setLoad_51 : decode cX6_setLoad 51 = .ok (.iastore, 1) := by decide +kernel
theorem dX6_setLoad_52 : decode cX6_setLoad 52 = .ok (.iload_n 3, 1) := by decide +kernel
theorem dX6_setLoad_53 : decode cX6_setLoad 53 = .ok (.ireturn, 1) := by decide +kernel
set_option maxRecDepth 20000 in
theorem ggX6_changes_X6_error : GoodIn wsX6_changes wsX6_error := goodIn_r _ [7, 8, 9, 15, 16, 17, 18, 19, 20, 21, 22, 23, 24, 25, 26, 27, 28, 29, 30, 31, 32, 33, 34, 35, 36, 37, 38, 39, 40, 41, 42, 43, 44, 45, 46, 47, 48, 49, 50, 51, 52, 53, 54, 55, 56] (by decide +kernel) (by decide +kernel)
set_option maxRecDepth 20000 in
theorem gX6_changes_X6_error : GoodIn wsX6_changes (wsV RX6 159 RX6 yX6_error wsX6_error) := goodIn_app (goodIn_of _ (by decide +kernel)) ggX6_changes_X6_error
set_option maxRecDepth 20000 in
theorem ggX6_changes_X6_rate : GoodIn wsX6_changes wsX6_rate := goodIn_r _ [13, 14, 9, 15, 16, 17, 18, 19, 20, 21, 22, 23, 24, 25, 26, 27, 28, 29, 30, 31, 32, 33, 34, 35, 36, 37, 38, 39, 40, 41, 42, 43, 44, 45, 46, 47, 48, 49, 50, 51, 52, 53, 54, 55, 56] (by decide +kernel) (by decide +kernel)
set_option maxRecDepth 20000 in
theorem gX6_changes_X6_rate : GoodIn wsX6_changes (wsV RX6 163 RX6 yX6_rate wsX6_rate) := goodIn_app (goodIn_of _ (by decide +kernel)) ggX6_changes_X6_rate
theorem dX6_changes_0 : decode cX6_changes 0 = .ok (.aload_n 0, 1) := by decide +kernel
theorem dX6_changes_1 : decode cX6_changes 1 = .ok (.getfield 47, 3) := by decide +kernel
theorem dX6_changes_4 : decode cX6_changes 4 = .ok (.iload_n 1, 1) := by decide +kernel
theorem dX6_changes_5 : decode cX6_changes 5 = .ok (.dup2, 1) := by decide +kernel
theorem dX6_changes_6 : decode cX6_changes 6 = .ok (.laload, 1) := by decide +kernel
theorem dX6_changes_7 : decode cX6_changes 7 = .ok (.aload_n 0, 1) := by decide +kernel
theorem dX6_changes_8 : decode cX6_changes 8 = .ok (.getfield 35, 3) := by decide +kernel
theorem dX6_changes_11 : decode cX6_changes 11 = .ok (.iconst 3, 1) := by decide +kernel
theorem dX6_changes_12 : decode cX6_changes 12 = .ok (.iload_n 1, 1) := by decide +kernel
theorem dX6_changes_13 : decode cX6_changes 13 = .ok (.imul, 1) := by decide +kernel
theorem dX6_changes_14 : decode cX6_changes 14 = .ok (.laload, 1) := by decide +kernel
theorem dX6_changes_15 : decode cX6_changes 15 = .ok (.lload_n 2, 1) := by decide +kernel
theorem dX6_changes_16 : decode cX6_changes 16 = .ok (.lsub, 1) := by decide +kernel
theorem dX6_changes_17 : decode cX6_changes 17 = .ok (.aload_n 0, 1) := by decide +kernel
theorem dX6_changes_18 : decode cX6_changes 18 = .ok (.iload_n 1, 1) := by decide +kernel
theorem dX6_changes_19 : decode cX6_changes 19 = .ok (.invokevirtual 159, 3) := by decide +kernel
theorem dX6_changes_22 : decode cX6_changes 22 = .ok (.lmul, 1) := by decide +kernel
theorem dX6_changes_23 : decode cX6_changes 23 = .ok (.aload_n 0, 1) := by decide +kernel
theorem dX6_changes_24 : decode cX6_changes 24 = .ok (.getfield 35, 3) := by decide +kernel
theorem dX6_changes_27 : decode cX6_changes 27 = .ok (.iconst 3, 1) := by decide +kernel
theorem dX6_changes_28 : decode cX6_changes 28 = .ok (.iload_n 1, 1) := by decide +kernel
theorem dX6_changes_29 : decode cX6_changes 29 = .ok (.imul, 1) := by decide +kernel
theorem dX6_changes_30 : decode cX6_changes 30 = .ok (.iconst 2, 1) := by decide +kernel
theorem dX6_changes_31 : decode cX6_changes 31 = .ok (.iadd, 1) := by decide +kernel
theorem dX6_changes_32 : decode cX6_changes 32 = .ok (.laload, 1) := by decide +kernel
theorem dX6_changes_33 : decode cX6_changes 33 = .ok (.lload 6, 2) := by decide +kernel
theorem dX6_changes_35 : decode cX6_changes 35 = .ok (.lsub, 1) := by decide +kernel
theorem dX6_changes_36 : decode cX6_changes 36 = .ok (.aload_n 0, 1) := by decide +kernel
theorem dX6_changes_37 : decode cX6_changes 37 = .ok (.iload_n 1, 1) := by decide +kernel
theorem dX6_changes_38 : decode cX6_changes 38 = .ok (.invokevirtual 163, 3) := by decide +kernel
theorem dX6_changes_41 : decode cX6_changes 41 = .ok (.lmul, 1) := by decide +kernel
theorem dX6_changes_42 : decode cX6_changes 42 = .ok (.ladd, 1) := by decide +kernel
theorem dX6_changes_43 : decode cX6_changes 43 = .ok (.ladd, 1) := by decide +kernel
theorem dX6_changes_44 : decode cX6_changes 44 = .ok (.lastore, 1) := by decide +kernel
theorem dX6_changes_45 : decode cX6_changes 45 = .ok (.aload_n 0, 1) := by decide +kernel
theorem dX6_changes_46 : decode cX6_changes 46 = .ok (.getfield 35, 3) := by decide +kernel
theorem dX6_changes_49 : decode cX6_changes 49 = .ok (.iconst 3, 1) := by decide +kernel
theorem dX6_changes_50 : decode cX6_changes 50 = .ok (.iload_n 1, 1) := by decide +kernel
theorem dX6_changes_51 : decode cX6_changes 51 = .ok (.imul, 1) := by decide +kernel
theorem dX6_changes_52 : decode cX6_changes 52 = .ok (.lload_n 2, 1) := by decide +kernel
theorem dX6_changes_53 : decode cX6_changes 53 = .ok (.lastore, 1) := by decide +kernel
theorem dX6_changes_54 : decode cX6_changes 54 = .ok (.aload_n 0, 1) := by decide +kernel
theorem dX6_changes_55 : decode cX6_changes 55 = .ok (.getfield 35, 3) := by decide +kernel
theorem dX6_changes_58 : decode cX6_changes 58 = .ok (.iconst 3, 1) := by decide +kernel
theorem dX6_changes_59 : decode cX6_changes 59 = .ok (.iload_n 1, 1) := by decide +kernel
theorem dX6_changes_60 : decode cX6_changes 60 = .ok (.imul, 1) := by decide +kernel
theorem dX6_changes_61 : decode cX6_changes 61 = .ok (.iconst 1, 1) := by decide +kernel
theorem dX6_changes_62 : decode cX6_changes 62 = .ok (.iadd, 1) := by decide +kernel
theorem dX6_changes_63 : decode cX6_changes 63 = .ok (.lload 4, 2) := by decide +kernel
theorem dX6_changes_65 : decode cX6_changes 65 = .ok (.lastore, 1) := by decide +kernel
theorem dX6_changes_66 : decode cX6_changes 66 = .ok (.aload_n 0, 1) := by decide +kernel
theorem dX6_changes_67 : decode cX6_changes 67 = .ok (.getfield 35, 3) := by decide +kernel
theorem dX6_changes_70 : decode cX6_changes 70 = .ok (.iconst 3, 1) := by decide +kernel
theorem dX6_changes_71 : decode cX6_changes 71 = .ok (.iload_n 1, 1) := by decide +kernel
theorem dX6_changes_72 : decode cX6_changes 72 = .ok (.imul, 1) := by decide +kernel
theorem dX6_changes_73 : decode cX6_changes 73 = .ok (.iconst 2, 1) := by decide +kernel
theorem dX6_changes_74 : decode cX6_changes 74 = .ok (.iadd, 1) := by decide +kernel
theorem dX6_changes_75 : decode cX6_changes 75 = .ok (.lload 6, 2) := by decide +kernel
theorem dX6_changes_77 : decode cX6_changes 77 = .ok (.lastore, 1) := by decide +kernel
theorem dX6_changes_78 : decode cX6_changes 78 = .ok (.return_, 1) := by decide +kernel
set_option maxRecDepth 20000 in
theorem ggX6_setGains_X6_isLoop : GoodIn wsX6_setGains wsX6_isLoop := goodIn_r _ [6] (by decide +kernel) (by decide +kernel)
set_option maxRecDepth 20000 in
theorem gX6_setGains_X6_isLoop : GoodIn wsX6_setGains (va_wsS RX6 152 yX6_isLoop wsX6_isLoop) := goodIn_app (goodIn_of _ (by decide +kernel)) ggX6_setGains_X6_isLoop
set_option maxRecDepth 20000 in
theorem ggX6_setGains_X6_areGains : GoodIn wsX6_setGains wsX6_areGains := goodIn_r _ [9, 10, 11, 12, 13, 5, 14] (by decide +kernel) (by decide +kernel)
set_option maxRecDepth 20000 in
theorem gX6_setGains_X6_areGains : GoodIn wsX6_setGains (va_wsS RX6 166 yX6_areGains wsX6_areGains) := goodIn_app (goodIn_of _ (by decide +kernel)) ggX6_setGains_X6_areGains
set_option maxRecDepth 20000 in
theorem ggX6_setGains_X6_can : GoodIn wsX6_setGains wsX6_can := goodIn_r _ [18, 19, 37, 38, 39, 40, 41, 42, 43, 44, 45, 46, 47, 48, 49, 50, 51, 52, 53, 54, 55, 56, 57, 58, 59, 60, 61, 62, 63, 64, 65, 66, 67, 68, 69, 70, 71, 72, 73, 74, 75, 76, 77, 78] (by decide +kernel) (by decide +kernel)
set_option maxRecDepth 20000 in
theorem gX6_setGains_X6_can : GoodIn wsX6_setGains (wsV RX6 156 RX6 yX6_can wsX6_can) := goodIn_app (goodIn_of _ (by decide +kernel)) ggX6_setGains_X6_can
set_option maxRecDepth 20000 in
theorem ggX6_setGains_X6_changes : GoodIn wsX6_setGains wsX6_changes := goodIn_r _ [23, 24, 25, 26, 27, 28, 5, 29, 30, 31, 32, 33, 34, 35, 36, 37, 38, 39, 40, 41, 42, 43, 44, 45, 46, 47, 48, 49, 50, 51, 52, 53, 54, 55, 56, 57, 58, 59, 60, 61, 62, 63, 64, 65, 66, 67, 68, 69, 70, 71, 72, 73, 74, 75, 76, 77, 78] (by decide +kernel) (by decide +kernel)
set_option maxRecDepth 20000 in
theorem gX6_setGains_X6_changes : GoodIn wsX6_setGains (wsV RX6 169 RX6 yX6_changes wsX6_changes) := goodIn_app (goodIn_of _ (by decide +kernel)) ggX6_setGains_X6_changes
theorem dX6_setGains_0 : decode cX6_setGains 0 = .ok (.aload_n 0, 1) := by decide +kernel
theorem dX6_setGains_1 : decode cX6_setGains 1 = .ok (.iload_n 1, 1) := by decide +kernel
theorem dX6_setGains_2 : decode cX6_setGains 2 = .ok (.invokestatic 152, 3) := by decide +kernel
theorem dX6_setGains_5 : decode cX6_setGains 5 = .ok (.ifCond .ne 7, 3) := by decide +kernel
theorem dX6_setGains_8 : decode cX6_setGains 8 = .ok (.iconst 1, 1) := by decide +kernel
theorem dX6_setGains_9 : decode cX6_setGains 9 = .ok (.goto 32, 3) := by decide +kernel
theorem dX6_setGains_12 : decode cX6_setGains 12 = .ok (.iload_n 2, 1) := by decide +kernel
theorem dX6_setGains_13 : decode cX6_setGains 13 = .ok (.iload_n 3, 1) := by decide +kernel
theorem dX6_setGains_14 : decode cX6_setGains 14 = .ok (.iload 4, 2) := by decide +kernel
theorem dX6_setGains_16 : decode cX6_setGains 16 = .ok (.invokestatic 166, 3) := by decide +kernel
theorem dX6_setGains_19 : decode cX6_setGains 19 = .ok (.ifCond .ne 7, 3) := by decide +kernel
theorem dX6_setGains_22 : decode cX6_setGains 22 = .ok (.iconst 2, 1) := by decide +kernel
theorem dX6_setGains_23 : decode cX6_setGains 23 = .ok (.goto 18, 3) := by decide +kernel
theorem dX6_setGains_26 : decode cX6_setGains 26 = .ok (.aload_n 0, 1) := by decide +kernel
theorem dX6_setGains_27 : decode cX6_setGains 27 = .ok (.getfield 56, 3) := by decide +kernel
theorem dX6_setGains_30 : decode cX6_setGains 30 = .ok (.iload_n 1, 1) := by decide +kernel
theorem dX6_setGains_31 : decode cX6_setGains 31 = .ok (.iaload, 1) := by decide +kernel
theorem dX6_setGains_32 : decode cX6_setGains 32 = .ok (.iconst 3, 1) := by decide +kernel
theorem dX6_setGains_33 : decode cX6_setGains 33 = .ok (.if_icmp .ne 7, 3) := by decide +kernel
theorem dX6_setGains_36 : decode cX6_setGains 36 = .ok (.iconst 3, 1) := by decide +kernel
theorem dX6_setGains_37 : decode cX6_setGains 37 = .ok (.goto 4, 3) := by decide +kernel
theorem dX6_setGains_40 : decode cX6_setGains 40 = .ok (.iconst 0, 1) := by decide +kernel
theorem dX6_setGains_41 : decode cX6_setGains 41 = .ok (.invokevirtual 156, 3) := by decide +kernel
theorem dX6_setGains_44 : decode cX6_setGains 44 = .ok (.ifCond .ne 5, 3) := by decide +kernel
theorem dX6_setGains_47 : decode cX6_setGains 47 = .ok (.iconst 0, 1) := by decide +kernel
theorem dX6_setGains_48 : decode cX6_setGains 48 = .ok (.ireturn, 1) := by decide +kernel
theorem dX6_setGains_49 : decode cX6_setGains 49 = .ok (.aload_n 0, 1) := by decide +kernel
theorem dX6_setGains_50 : decode cX6_setGains 50 = .ok (.getfield 87, 3) := by decide +kernel
theorem dX6_setGains_53 : decode cX6_setGains 53 = .ok (.iload_n 1, 1) := by decide +kernel
theorem dX6_setGains_54 : decode cX6_setGains 54 = .ok (.iaload, 1) := by decide +kernel
theorem dX6_setGains_55 : decode cX6_setGains 55 = .ok (.istore 5, 2) := by decide +kernel
theorem dX6_setGains_57 : decode cX6_setGains 57 = .ok (.aload_n 0, 1) := by decide +kernel
theorem dX6_setGains_58 : decode cX6_setGains 58 = .ok (.getfield 87, 3) := by decide +kernel
theorem dX6_setGains_61 : decode cX6_setGains 61 = .ok (.iload_n 1, 1) := by decide +kernel
theorem dX6_setGains_62 : decode cX6_setGains 62 = .ok (.iconst 0, 1) := by decide +kernel
theorem dX6_setGains_63 : decode cX6_setGains 63 = .ok (.iastore, 1) := by decide +kernel
theorem dX6_setGains_64 : decode cX6_setGains 64 = .ok (.aload_n 0, 1) := by decide +kernel
theorem dX6_setGains_65 : decode cX6_setGains 65 = .ok (.iload_n 1, 1) := by decide +kernel
theorem dX6_setGains_66 : decode cX6_setGains 66 = .ok (.iload_n 2, 1) := by decide +kernel
theorem dX6_setGains_67 : decode cX6_setGains 67 = .ok (.i2l, 1) := by decide +kernel
theorem dX6_setGains_68 : decode cX6_setGains 68 = .ok (.iload_n 3, 1) := by decide +kernel
theorem dX6_setGains_69 : decode cX6_setGains 69 = .ok (.i2l, 1) := by decide +kernel
theorem dX6_setGains_70 : decode cX6_setGains 70 = .ok (.iload 4, 2) := by decide +kernel
theorem dX6_setGains_72 : decode cX6_setGains 72 = .ok (.i2l, 1) := by decide +kernel
theorem dX6_setGains_73 : decode cX6_setGains 73 = .ok (.invokevirtual 169, 3) := by decide +kernel
theorem dX6_setGains_76 : decode cX6_setGains 76 = .ok (.iload 5, 2) := by decide +kernel
theorem dX6_setGains_78 : decode cX6_setGains 78 = .ok (.ireturn, 1) := by decide +kernel
set_option maxRecDepth 20000 in
theorem ggX6_addPoint_X6_isLoop : GoodIn wsX6_addPoint wsX6_isLoop := goodIn_r _ [9] (by decide +kernel) (by decide +kernel)
set_option maxRecDepth 20000 in
theorem gX6_addPoint_X6_isLoop : GoodIn wsX6_addPoint (va_wsS RX6 152 yX6_isLoop wsX6_isLoop) := goodIn_app (goodIn_of _ (by decide +kernel)) ggX6_addPoint_X6_isLoop
set_option maxRecDepth 20000 in
theorem ggX6_addPoint_X6_areGains : GoodIn wsX6_addPoint wsX6_areGains := goodIn_r _ [12, 13, 14, 15, 16, 8, 17] (by decide +kernel) (by decide +kernel)
set_option maxRecDepth 20000 in
theorem gX6_addPoint_X6_areGains : GoodIn wsX6_addPoint (va_wsS RX6 166 yX6_areGains wsX6_areGains) := goodIn_app (goodIn_of _ (by decide +kernel)) ggX6_addPoint_X6_areGains
set_option maxRecDepth 20000 in
theorem ggX6_addPoint_X6_isIn : GoodIn wsX6_addPoint wsX6_isIn := goodIn_r _ [17] (by decide +kernel) (by decide +kernel)
set_option maxRecDepth 20000 in
theorem gX6_addPoint_X6_isIn : GoodIn wsX6_addPoint (va_wsS RX6 146 yX6_isIn wsX6_isIn) := goodIn_app (goodIn_of _ (by decide +kernel)) ggX6_addPoint_X6_isIn
set_option maxRecDepth 20000 in
theorem ggX6_addPoint_X6_can : GoodIn wsX6_addPoint wsX6_can := goodIn_r _ [21, 22, 23, 24, 25, 26, 27, 28, 29, 30, 31, 32, 33, 34, 35, 36, 37, 38, 39, 40, 41, 42, 43, 44, 45, 46, 47, 48, 49, 50, 51, 52, 53, 54, 55, 56, 57, 58, 59, 60, 61, 62, 63, 64] (by decide +kernel) (by decide +kernel)
set_option maxRecDepth 20000 in
theorem gX6_addPoint_X6_can : GoodIn wsX6_addPoint (wsV RX6 156 RX6 yX6_can wsX6_can) := goodIn_app (goodIn_of _ (by decide +kernel)) ggX6_addPoint_X6_can
theorem dX6_addPoint_0 : decode cX6_addPoint 0 = .ok (.iload_n 1, 1) := by decide +kernel
theorem dX6_addPoint_1 : decode cX6_addPoint 1 = .ok (.invokestatic 152, 3) := by decide +kernel
theorem dX6_addPoint_4 : decode cX6_addPoint 4 = .ok (.ifCond .eq 61, 3) := by decide +kernel
theorem dX6_addPoint_7 : decode cX6_addPoint 7 = .ok (.iload_n 3, 1) := by decide +kernel
theorem dX6_addPoint_8 : decode cX6_addPoint 8 = .ok (.iload 4, 2) := by decide +kernel
theorem dX6_addPoint_10 : decode cX6_addPoint 10 = .ok (.iload 5, 2) := by decide +kernel
theorem dX6_addPoint_12 : decode cX6_addPoint 12 = .ok (.invokestatic 166, 3) := by decide +kernel
theorem dX6_addPoint_15 : decode cX6_addPoint 15 = .ok (.ifCond .eq 50, 3) := by decide +kernel
theorem dX6_addPoint_18 : decode cX6_addPoint 18 = .ok (.iload_n 2, 1) := by decide +kernel
theorem dX6_addPoint_19 : decode cX6_addPoint 19 = .ok (.ldc 173, 2) := by decide +kernel
theorem dX6_addPoint_21 : decode cX6_addPoint 21 = .ok (.ldc 174, 2) := by decide +kernel
theorem dX6_addPoint_23 : decode cX6_addPoint 23 = .ok (.invokestatic 146, 3) := by decide +kernel
theorem dX6_addPoint_26 : decode cX6_addPoint 26 = .ok (.ifCond .eq 39, 3) := by decide +kernel
theorem dX6_addPoint_29 : decode cX6_addPoint 29 = .ok (.aload_n 0, 1) := by decide +kernel
theorem dX6_addPoint_30 : decode cX6_addPoint 30 = .ok (.getfield 87, 3) := by decide +kernel
theorem dX6_addPoint_33 : decode cX6_addPoint 33 = .ok (.iload_n 1, 1) := by decide +kernel
theorem dX6_addPoint_34 : decode cX6_addPoint 34 = .ok (.iaload, 1) := by decide +kernel
theorem dX6_addPoint_35 : decode cX6_addPoint 35 = .ok (.ifCond .eq 26, 3) := by decide +kernel
theorem dX6_addPoint_38 : decode cX6_addPoint 38 = .ok (.iload_n 2, 1) := by decide +kernel
theorem dX6_addPoint_39 : decode cX6_addPoint 39 = .ok (.i2l, 1) := by decide +kernel
theorem dX6_addPoint_40 : decode cX6_addPoint 40 = .ok (.aload_n 0, 1) := by decide +kernel
theorem dX6_addPoint_41 : decode cX6_addPoint 41 = .ok (.getfield 90, 3) := by decide +kernel
theorem dX6_addPoint_44 : decode cX6_addPoint 44 = .ok (.iconst 5, 1) := by decide +kernel
theorem dX6_addPoint_45 : decode cX6_addPoint 45 = .ok (.iload_n 1, 1) := by decide +kernel
theorem dX6_addPoint_46 : decode cX6_addPoint 46 = .ok (.imul, 1) := by decide +kernel
theorem dX6_addPoint_47 : decode cX6_addPoint 47 = .ok (.aload_n 0, 1) := by decide +kernel
theorem dX6_addPoint_48 : decode cX6_addPoint 48 = .ok (.getfield 87, 3) := by decide +kernel
theorem dX6_addPoint_51 : decode cX6_addPoint 51 = .ok (.iload_n 1, 1) := by decide +kernel
theorem dX6_addPoint_52 : decode cX6_addPoint 52 = .ok (.iaload, 1) := by decide +kernel
theorem dX6_addPoint_53 : decode cX6_addPoint 53 = .ok (.iadd, 1) := by decide +kernel
theorem dX6_addPoint_54 : decode cX6_addPoint 54 = .ok (.iconst 1, 1) := by decide +kernel
theorem dX6_addPoint_55 : decode cX6_addPoint 55 = .ok (.isub, 1) := by decide +kernel
theorem dX6_addPoint_56 : decode cX6_addPoint 56 = .ok (.laload, 1) := by decide +kernel
theorem dX6_addPoint_57 : decode cX6_addPoint 57 = .ok (.lcmp, 1) := by decide +kernel
theorem dX6_addPoint_58 : decode cX6_addPoint 58 = .ok (.ifCond .le 7, 3) := by decide +kernel
theorem dX6_addPoint_61 : decode cX6_addPoint 61 = .ok (.iconst 1, 1) := by decide +kernel
theorem dX6_addPoint_62 : decode cX6_addPoint 62 = .ok (.goto 4, 3) := by decide +kernel
theorem dX6_addPoint_65 : decode cX6_addPoint 65 = .ok (.iconst 0, 1) := by decide +kernel
theorem dX6_addPoint_66 : decode cX6_addPoint 66 = .ok (.istore 6, 2) := by decide +kernel
theorem dX6_addPoint_68 : decode cX6_addPoint 68 = .ok (.aload_n 0, 1) := by decide +kernel
theorem dX6_addPoint_69 : decode cX6_addPoint 69 = .ok (.iload_n 1, 1) := by decide +kernel
theorem dX6_addPoint_70 : decode cX6_addPoint 70 = .ok (.invokestatic 152, 3) := by decide +kernel
theorem dX6_addPoint_73 : decode cX6_addPoint 73 = .ok (.ifCond .ne 7, 3) := by decide +kernel
theorem dX6_addPoint_76 : decode cX6_addPoint 76 = .ok (.iconst 1, 1) := by decide +kernel
theorem dX6_addPoint_77 : decode cX6_addPoint 77 = .ok (.goto 27, 3) := by decide +kernel
theorem dX6_addPoint_80 : decode cX6_addPoint 80 = .ok (.iload 6, 2) := by decide +kernel
theorem dX6_addPoint_82 : decode cX6_addPoint 82 = .ok (.ifCond .ne 7, 3) := by decide +kernel
theorem dX6_addPoint_85 : decode cX6_addPoint 85 = .ok (.iconst 2, 1) := by decide +kernel
theorem dX6_addPoint_86 : decode cX6_addPoint 86 = .ok (.goto 18, 3) := by decide +kernel
theorem dX6_addPoint_89 : decode cX6_addPoint 89 = .ok (.aload_n 0, 1) := by decide +kernel
theorem dX6_addPoint_90 : decode cX6_addPoint 90 = .ok (.getfield 87, 3) := by decide +kernel
theorem dX6_addPoint_93 : decode cX6_addPoint 93 = .ok (.iload_n 1, 1) := by decide +kernel
theorem dX6_addPoint_94 : decode cX6_addPoint 94 = .ok (.iaload, 1) := by decide +kernel
theorem dX6_addPoint_95 : decode cX6_addPoint 95 = .ok (.iconst 5, 1) := by decide +kernel
theorem dX6_addPoint_96 : decode cX6_addPoint 96 = .ok (.if_icmp .ne 7, 3) := by decide +kernel
theorem dX6_addPoint_99 : decode cX6_addPoint 99 = .ok (.iconst 3, 1) := by decide +kernel
theorem dX6_addPoint_100 : decode cX6_addPoint 100 = .ok (.goto 4, 3) := by decide +kernel
theorem dX6_addPoint_103 : decode cX6_addPoint 103 = .ok (.iconst 0, 1) := by decide +kernel
theorem dX6_addPoint_104 : decode cX6_addPoint 104 = .ok (.invokevirtual 156, 3) := by decide +kernel
theorem dX6_addPoint_107 : decode cX6_addPoint 107 = .ok (.ifCond .ne 5, 3) := by decide +kernel
theorem dX6_addPoint_110 : decode cX6_addPoint 110 = .ok (.iconst 0, 1) := by decide +kernel
theorem dX6_addPoint_111 : decode cX6_addPoint 111 = .ok (.ireturn, 1) := by decide +kernel
theorem dX6_addPoint_112 : decode cX6_addPoint 112 = .ok (.iconst 5, 1) := by decide +kernel
theorem dX6_addPoint_113 : decode cX6_addPoint 113 = .ok (.iload_n 1, 1) := by decide +kernel
theorem dX6_addPoint_114 : decode cX6_addPoint 114 = .ok (.imul, 1) := by decide +kernel
theorem dX6_addPoint_115 : decode cX6_addPoint 115 = .ok (.aload_n 0, 1) := by decide +kernel
theorem dX6_addPoint_116 : decode cX6_addPoint 116 = .ok (.getfield 87, 3) := by decide +kernel
theorem dX6_addPoint_119 : decode cX6_addPoint 119 = .ok (.iload_n 1, 1) := by decide +kernel
theorem dX6_addPoint_120 : decode cX6_addPoint 120 = .ok (.iaload, 1) := by decide +kernel
theorem dX6_addPoint_121 : decode cX6_addPoint 121 = .ok (.iadd, 1) := by decide +kernel
theorem dX6_addPoint_122 : decode cX6_addPoint 122 = .ok (.istore 7, 2) := by decide +kernel
theorem dX6_addPoint_124 : decode cX6_addPoint 124 = .ok (.aload_n 0, 1) := by decide +kernel
theorem dX6_addPoint_125 : decode cX6_addPoint 125 = .ok (.getfield 90, 3) := by decide +kernel
theorem dX6_addPoint_128 : decode cX6_addPoint 128 = .ok (.iload 7, 2) := by decide +kernel
theorem dX6_addPoint_130 : decode cX6_addPoint 130 = .ok (.iload_n 2, 1) := by decide +kernel
theorem dX6_addPoint_131 : decode cX6_addPoint 131 = .ok (.i2l, 1) := by decide +kernel
theorem dX6_addPoint_132 : decode cX6_addPoint 132 = .ok (.lastore, 1) := by decide +kernel
theorem dX6_addPoint_133 : decode cX6_addPoint 133 = .ok (.aload_n 0, 1) := by decide +kernel
theorem dX6_addPoint_134 : decode cX6_addPoint 134 = .ok (.getfield 93, 3) := by decide +kernel
theorem dX6_addPoint_137 : decode cX6_addPoint 137 = .ok (.iconst 3, 1) := by decide +kernel
theorem dX6_addPoint_138 : decode cX6_addPoint 138 = .ok (.iload 7, 2) := by decide +kernel
theorem dX6_addPoint_140 : decode cX6_addPoint 140 = .ok (.imul, 1) := by decide +kernel
theorem dX6_addPoint_141 : decode cX6_addPoint 141 = .ok (.iload_n 3, 1) := by decide +kernel
theorem dX6_addPoint_142 : decode cX6_addPoint 142 = .ok (.i2l, 1) := by decide +kernel
theorem dX6_addPoint_143 : decode cX6_addPoint 143 = .ok (.lastore, 1) := by decide +kernel
theorem dX6_addPoint_144 : decode cX6_addPoint 144 = .ok (.aload_n 0, 1) := by decide +kernel
theorem dX6_addPoint_145 : decode cX6_addPoint 145 = .ok (.getfield 93, 3) := by decide +kernel
theorem dX6_addPoint_148 : decode cX6_addPoint 148 = .ok (.iconst 3, 1) := by decide +kernel
theorem dX6_addPoint_149 : decode cX6_addPoint 149 = .ok (.iload 7, 2) := by decide +kernel
theorem dX6_addPoint_151 : decode cX6_addPoint 151 = .ok (.imul, 1) := by decide +kernel
theorem dX6_addPoint_152 : decode cX6_addPoint 152 = .ok (.iconst 1, 1) := by decide +kernel
theorem dX6_addPoint_153 : decode cX6_addPoint 153 = .ok (.iadd, 1) := by decide +kernel
theorem dX6_addPoint_154 : decode cX6_addPoint 154 = .ok (.iload 4, 2) := by decide +kernel
theorem dX6_addPoint_156 : decode cX6_addPoint 156 = .ok (.i2l, 1) := by decide +kernel
theorem dX6_addPoint_157 : decode cX6_addPoint 157 = .ok (.lastore, 1) := by decide +kernel
theorem dX6_addPoint_158 : decode cX6_addPoint 158 = .ok (.aload_n 0, 1) := by decide +kernel
theorem dX6_addPoint_159 : decode cX6_addPoint 159 = .ok (.getfield 93, 3) := by decide +kernel
theorem dX6_addPoint_162 : decode cX6_addPoint 162 = .ok (.iconst 3, 1) := by decide +kernel
theorem dX6_addPoint_163 : decode cX6_addPoint 163 = .ok (.iload 7, 2) := by decide +kernel
theorem dX6_addPoint_165 : decode cX6_addPoint 165 = .ok (.imul, 1) := by decide +kernel
theorem dX6_addPoint_166 : decode cX6_addPoint 166 = .ok (.iconst 2, 1) := by decide +kernel
theorem dX6_addPoint_167 : decode cX6_addPoint 167 = .ok (.iadd, 1) := by decide +kernel
theorem dX6_addPoint_168 : decode cX6_addPoint 168 = .ok (.iload 5, 2) := by decide +kernel
theorem dX6_addPoint_170 : decode cX6_addPoint 170 = .ok (.i2l, 1) := by decide +kernel
theorem dX6_addPoint_171 : decode cX6_addPoint 171 = .ok (.lastore, 1) := by decide +kernel
theorem dX6_addPoint_172 : decode cX6_addPoint 172 = .ok (.aload_n 0, 1) := by decide +kernel
theorem dX6_addPoint_173 : decode cX6_addPoint 173 = .ok (.getfield 87, 3) := by decide +kernel
theorem dX6_addPoint_176 : decode cX6_addPoint 176 = .ok (.iload_n 1, 1) := by decide +kernel
theorem dX6_addPoint_177 : decode cX6_addPoint 177 = .ok (.dup2, 1) := by decide +kernel
theorem dX6_addPoint_178 : decode cX6_addPoint 178 = .ok (.iaload, 1) := by decide +kernel
theorem dX6_addPoint_179 : decode cX6_addPoint 179 = .ok (.iconst 1, 1) := by decide +kernel
theorem dX6_addPoint_180 : decode cX6_addPoint 180 = .ok (.iadd, 1) := by decide +kernel
theorem dX6_addPoint_181 : decode cX6_addPoint 181 = .ok (.iastore, 1) := by decide +kernel
theorem dX6_addPoint_182 : decode cX6_addPoint 182 = .ok (.aload_n 0, 1) := by decide +kernel
theorem dX6_addPoint_183 : decode cX6_addPoint 183 = .ok (.getfield 87, 3) := by decide +kernel
theorem dX6_addPoint_186 : decode cX6_addPoint 186 = .ok (.iload_n 1, 1) := by decide +kernel
theorem dX6_addPoint_187 : decode cX6_addPoint 187 = .ok (.iaload, 1) := by decide +kernel
theorem dX6_addPoint_188 : decode cX6_addPoint 188 = .ok (.ireturn, 1) := by decide +kernel
set_option maxRecDepth 20000 in
theorem ggX6_setLimits_X6_isLoop : GoodIn wsX6_setLimits wsX6_isLoop := goodIn_r _ [8] (by decide +kernel) (by decide +kernel)
set_option maxRecDepth 20000 in
theorem gX6_setLimits_X6_isLoop : GoodIn wsX6_setLimits (va_wsS RX6 152 yX6_isLoop wsX6_isLoop) := goodIn_app (goodIn_of _ (by decide +kernel)) ggX6_setLimits_X6_isLoop
set_option maxRecDepth 20000 in
theorem ggX6_setLimits_X6_isIn : GoodIn wsX6_setLimits wsX6_isIn := goodIn_r _ [11] (by decide +kernel) (by decide +kernel)
set_option maxRecDepth 20000 in
theorem gX6_setLimits_X6_isIn : GoodIn wsX6_setLimits (va_wsS RX6 146 yX6_isIn wsX6_isIn) := goodIn_app (goodIn_of _ (by decide +kernel)) ggX6_setLimits_X6_isIn
set_option maxRecDepth 20000 in
theorem ggX6_setLimits_X6_can : GoodIn wsX6_setLimits wsX6_can := goodIn_r _ [15, 16, 17, 18, 19, 20, 21, 22, 23, 24, 25, 26, 27, 28, 29, 30, 31, 32, 33, 34, 35, 36, 37, 38, 39, 40, 41, 42, 43, 44, 45, 46, 47, 48, 49, 50, 51, 52, 53, 54, 55, 56, 57, 58] (by decide +kernel) (by decide +kernel)
set_option maxRecDepth 20000 in
theorem gX6_setLimits_X6_can : GoodIn wsX6_setLimits (wsV RX6 156 RX6 yX6_can wsX6_can) := goodIn_app (goodIn_of _ (by decide +kernel)) ggX6_setLimits_X6_can
theorem dX6_setLimits_0 : decode cX6_setLimits 0 = .ok (.aload_n 0, 1) := by decide +kernel
theorem dX6_setLimits_1 : decode cX6_setLimits 1 = .ok (.iload_n 1, 1) := by decide +kernel
theorem dX6_setLimits_2 : decode cX6_setLimits 2 = .ok (.invokestatic 152, 3) := by decide +kernel
theorem dX6_setLimits_5 : decode cX6_setLimits 5 = .ok (.ifCond .ne 7, 3) := by decide +kernel
theorem dX6_setLimits_8 : decode cX6_setLimits 8 = .ok (.iconst 1, 1) := by decide +kernel
theorem dX6_setLimits_9 : decode cX6_setLimits 9 = .ok (.goto 29, 3) := by decide +kernel
theorem dX6_setLimits_12 : decode cX6_setLimits 12 = .ok (.iload_n 2, 1) := by decide +kernel
theorem dX6_setLimits_13 : decode cX6_setLimits 13 = .ok (.ldc 173, 2) := by decide +kernel
theorem dX6_setLimits_15 : decode cX6_setLimits 15 = .ok (.ldc 174, 2) := by decide +kernel
theorem dX6_setLimits_17 : decode cX6_setLimits 17 = .ok (.invokestatic 146, 3) := by decide +kernel
theorem dX6_setLimits_20 : decode cX6_setLimits 20 = .ok (.ifCond .eq 17, 3) := by decide +kernel
theorem dX6_setLimits_23 : decode cX6_setLimits 23 = .ok (.iload_n 3, 1) := by decide +kernel
theorem dX6_setLimits_24 : decode cX6_setLimits 24 = .ok (.iload_n 2, 1) := by decide +kernel
theorem dX6_setLimits_25 : decode cX6_setLimits 25 = .ok (.ldc 174, 2) := by decide +kernel
theorem dX6_setLimits_27 : decode cX6_setLimits 27 = .ok (.invokestatic 146, 3) := by decide +kernel
theorem dX6_setLimits_30 : decode cX6_setLimits 30 = .ok (.ifCond .eq 7, 3) := by decide +kernel
theorem dX6_setLimits_33 : decode cX6_setLimits 33 = .ok (.iconst 0, 1) := by decide +kernel
theorem dX6_setLimits_34 : decode cX6_setLimits 34 = .ok (.goto 4, 3) := by decide +kernel
theorem dX6_setLimits_37 : decode cX6_setLimits 37 = .ok (.iconst 2, 1) := by decide +kernel
theorem dX6_setLimits_38 : decode cX6_setLimits 38 = .ok (.invokevirtual 156, 3) := by decide +kernel
theorem dX6_setLimits_41 : decode cX6_setLimits 41 = .ok (.ifCond .eq 19, 3) := by decide +kernel
theorem dX6_setLimits_44 : decode cX6_setLimits 44 = .ok (.aload_n 0, 1) := by decide +kernel
theorem dX6_setLimits_45 : decode cX6_setLimits 45 = .ok (.getfield 38, 3) := by decide +kernel
theorem dX6_setLimits_48 : decode cX6_setLimits 48 = .ok (.iload_n 1, 1) := by decide +kernel
theorem dX6_setLimits_49 : decode cX6_setLimits 49 = .ok (.iload_n 2, 1) := by decide +kernel
theorem dX6_setLimits_50 : decode cX6_setLimits 50 = .ok (.i2l, 1) := by decide +kernel
theorem dX6_setLimits_51 : decode cX6_setLimits 51 = .ok (.lastore, 1) := by decide +kernel
theorem dX6_setLimits_52 : decode cX6_setLimits 52 = .ok (.aload_n 0, 1) := by decide +kernel
theorem dX6_setLimits_53 : decode cX6_setLimits 53 = .ok (.getfield 41, 3) := by decide +kernel
theorem dX6_setLimits_56 : decode cX6_setLimits 56 = .ok (.iload_n 1, 1) := by decide +kernel
theorem dX6_setLimits_57 : decode cX6_setLimits 57 = .ok (.iload_n 3, 1) := by decide +kernel
theorem dX6_setLimits_58 : decode cX6_setLimits 58 = .ok (.i2l, 1) := by decide +kernel
theorem dX6_setLimits_59 : decode cX6_setLimits 59 = .ok (.lastore, 1) := by decide +kernel
theorem dX6_setLimits_60 : decode cX6_setLimits 60 = .ok (.return_, 1) := by decide +kernel
set_option maxRecDepth 20000 in
theorem ggX6_setGuard_X6_isLoop : GoodIn wsX6_setGuard wsX6_isLoop := goodIn_r _ [6] (by decide +kernel) (by decide +kernel)
set_option maxRecDepth 20000 in
theorem gX6_setGuard_X6_isLoop : GoodIn wsX6_setGuard (va_wsS RX6 152 yX6_isLoop wsX6_isLoop) := goodIn_app (goodIn_of _ (by decide +kernel)) ggX6_setGuard_X6_isLoop
set_option maxRecDepth 20000 in
theorem ggX6_setGuard_X6_isIn : GoodIn wsX6_setGuard wsX6_isIn := goodIn_r _ [9] (by decide +kernel) (by decide +kernel)
set_option maxRecDepth 20000 in
theorem gX6_setGuard_X6_isIn : GoodIn wsX6_setGuard (va_wsS RX6 146 yX6_isIn wsX6_isIn) := goodIn_app (goodIn_of _ (by decide +kernel)) ggX6_setGuard_X6_isIn
set_option maxRecDepth 20000 in
theorem ggX6_setGuard_X6_can : GoodIn wsX6_setGuard wsX6_can := goodIn_r _ [13, 14, 15, 16, 17, 18, 19, 20, 21, 22, 23, 24, 25, 26, 27, 28, 29, 30, 31, 32, 33, 34, 35, 36, 37, 38, 39, 40, 41, 42, 43, 44, 45, 46, 47, 48, 49, 50, 51, 52, 53, 54, 55, 56] (by decide +kernel) (by decide +kernel)
set_option maxRecDepth 20000 in
theorem gX6_setGuard_X6_can : GoodIn wsX6_setGuard (wsV RX6 156 RX6 yX6_can wsX6_can) := goodIn_app (goodIn_of _ (by decide +kernel)) ggX6_setGuard_X6_can
theorem dX6_setGuard_0 : decode cX6_setGuard 0 = .ok (.aload_n 0, 1) := by decide +kernel
theorem dX6_setGuard_1 : decode cX6_setGuard 1 = .ok (.iload_n 1, 1) := by decide +kernel
theorem dX6_setGuard_2 : decode cX6_setGuard 2 = .ok (.invokestatic 152, 3) := by decide +kernel
theorem dX6_setGuard_5 : decode cX6_setGuard 5 = .ok (.ifCond .ne 7, 3) := by decide +kernel
theorem dX6_setGuard_8 : decode cX6_setGuard 8 = .ok (.iconst 1, 1) := by decide +kernel
theorem dX6_setGuard_9 : decode cX6_setGuard 9 = .ok (.goto 28, 3) := by decide +kernel
theorem dX6_setGuard_12 : decode cX6_setGuard 12 = .ok (.iload_n 2, 1) := by decide +kernel
theorem dX6_setGuard_13 : decode cX6_setGuard 13 = .ok (.iconst 0, 1) := by decide +kernel
theorem dX6_setGuard_14 : decode cX6_setGuard 14 = .ok (.iconst 2, 1) := by decide +kernel
theorem dX6_setGuard_15 : decode cX6_setGuard 15 = .ok (.invokestatic 146, 3) := by decide +kernel
theorem dX6_setGuard_18 : decode cX6_setGuard 18 = .ok (.ifCond .eq 18, 3) := by decide +kernel
theorem dX6_setGuard_21 : decode cX6_setGuard 21 = .ok (.iload_n 3, 1) := by decide +kernel
theorem dX6_setGuard_22 : decode cX6_setGuard 22 = .ok (.iconst 0, 1) := by decide +kernel
theorem dX6_setGuard_23 : decode cX6_setGuard 23 = .ok (.sipush 1000, 3) := by decide +kernel
theorem dX6_setGuard_26 : decode cX6_setGuard 26 = .ok (.invokestatic 146, 3) := by decide +kernel
theorem dX6_setGuard_29 : decode cX6_setGuard 29 = .ok (.ifCond .eq 7, 3) := by decide +kernel
theorem dX6_setGuard_32 : decode cX6_setGuard 32 = .ok (.iconst 0, 1) := by decide +kernel
theorem dX6_setGuard_33 : decode cX6_setGuard 33 = .ok (.goto 4, 3) := by decide +kernel
theorem dX6_setGuard_36 : decode cX6_setGuard 36 = .ok (.iconst 2, 1) := by decide +kernel
theorem dX6_setGuard_37 : decode cX6_setGuard 37 = .ok (.invokevirtual 156, 3) := by decide +kernel
theorem dX6_setGuard_40 : decode cX6_setGuard 40 = .ok (.ifCond .ne 5, 3) := by decide +kernel
theorem dX6_setGuard_43 : decode cX6_setGuard 43 = .ok (.iconst 0, 1) := by decide +kernel
theorem dX6_setGuard_44 : decode cX6_setGuard 44 = .ok (.ireturn, 1) := by decide +kernel
theorem dX6_setGuard_45 : decode cX6_setGuard 45 = .ok (.aload_n 0, 1) := by decide +kernel
theorem dX6_setGuard_46 : decode cX6_setGuard 46 = .ok (.getfield 50, 3) := by decide +kernel
theorem dX6_setGuard_49 : decode cX6_setGuard 49 = .ok (.iload_n 1, 1) := by decide +kernel
theorem dX6_setGuard_50 : decode cX6_setGuard 50 = .ok (.iaload, 1) := by decide +kernel
theorem dX6_setGuard_51 : decode cX6_setGuard 51 = .ok (.istore 4, 2) := by decide +kernel
theorem dX6_setGuard_53 : decode cX6_setGuard 53 = .ok (.aload_n 0, 1) := by decide +kernel
theorem dX6_setGuard_54 : decode cX6_setGuard 54 = .ok (.getfield 50, 3) := by decide +kernel
theorem dX6_setGuard_57 : decode cX6_setGuard 57 = .ok (.iload_n 1, 1) := by decide +kernel
theorem dX6_setGuard_58 : decode cX6_setGuard 58 = .ok (.iload_n 2, 1) := by decide +kernel
theorem dX6_setGuard_59 : decode cX6_setGuard 59 = .ok (.iastore, 1) := by decide +kernel
theorem dX6_setGuard_60 : decode cX6_setGuard 60 = .ok (.aload_n 0, 1) := by decide +kernel
theorem dX6_setGuard_61 : decode cX6_setGuard 61 = .ok (.getfield 53, 3) := by decide +kernel
theorem dX6_setGuard_64 : decode cX6_setGuard 64 = .ok (.iload_n 1, 1) := by decide +kernel
theorem dX6_setGuard_65 : decode cX6_setGuard 65 = .ok (.iload_n 3, 1) := by decide +kernel
theorem dX6_setGuard_66 : decode cX6_setGuard 66 = .ok (.iastore, 1) := by decide +kernel
theorem dX6_setGuard_67 : decode cX6_setGuard 67 = .ok (.iload 4, 2) := by decide +kernel
theorem dX6_setGuard_69 : decode cX6_setGuard 69 = .ok (.ireturn, 1) := by decide +kernel
set_option maxRecDepth 20000 in
theorem ggX6_setSetpoint_X6_isLoop : GoodIn wsX6_setSetpoint wsX6_isLoop := goodIn_r _ [8] (by decide +kernel) (by decide +kernel)
set_option maxRecDepth 20000 in
theorem gX6_setSetpoint_X6_isLoop : GoodIn wsX6_setSetpoint (va_wsS RX6 152 yX6_isLoop wsX6_isLoop) := goodIn_app (goodIn_of _ (by decide +kernel)) ggX6_setSetpoint_X6_isLoop
set_option maxRecDepth 20000 in
theorem ggX6_setSetpoint_X6_isIn : GoodIn wsX6_setSetpoint wsX6_isIn := goodIn_r _ [11] (by decide +kernel) (by decide +kernel)
set_option maxRecDepth 20000 in
theorem gX6_setSetpoint_X6_isIn : GoodIn wsX6_setSetpoint (va_wsS RX6 146 yX6_isIn wsX6_isIn) := goodIn_app (goodIn_of _ (by decide +kernel)) ggX6_setSetpoint_X6_isIn
set_option maxRecDepth 20000 in
theorem ggX6_setSetpoint_X6_can : GoodIn wsX6_setSetpoint wsX6_can := goodIn_r _ [15, 16, 17, 18, 19, 20, 21, 22, 23, 24, 25, 26, 27, 28, 29, 30, 31, 32, 33, 34, 35, 36, 37, 38, 39, 40, 41, 42, 43, 44, 45, 46, 47, 48, 49, 50, 51, 52, 53, 54, 55, 56, 57, 58] (by decide +kernel) (by decide +kernel)
set_option maxRecDepth 20000 in
theorem gX6_setSetpoint_X6_can : GoodIn wsX6_setSetpoint (wsV RX6 156 RX6 yX6_can wsX6_can) := goodIn_app (goodIn_of _ (by decide +kernel)) ggX6_setSetpoint_X6_can
theorem dX6_setSetpoint_0 : decode cX6_setSetpoint 0 = .ok (.aload_n 0, 1) := by decide +kernel
theorem dX6_setSetpoint_1 : decode cX6_setSetpoint 1 = .ok (.iload_n 1, 1) := by decide +kernel
theorem dX6_setSetpoint_2 : decode cX6_setSetpoint 2 = .ok (.invokestatic 152, 3) := by decide +kernel
theorem dX6_setSetpoint_5 : decode cX6_setSetpoint 5 = .ok (.ifCond .ne 7, 3) := by decide +kernel
theorem dX6_setSetpoint_8 : decode cX6_setSetpoint 8 = .ok (.iconst 1, 1) := by decide +kernel
theorem dX6_setSetpoint_9 : decode cX6_setSetpoint 9 = .ok (.goto 33, 3) := by decide +kernel
theorem dX6_setSetpoint_12 : decode cX6_setSetpoint 12 = .ok (.iload_n 2, 1) := by decide +kernel
theorem dX6_setSetpoint_13 : decode cX6_setSetpoint 13 = .ok (.ldc 173, 2) := by decide +kernel
theorem dX6_setSetpoint_15 : decode cX6_setSetpoint 15 = .ok (.ldc 174, 2) := by decide +kernel
theorem dX6_setSetpoint_17 : decode cX6_setSetpoint 17 = .ok (.invokestatic 146, 3) := by decide +kernel
theorem dX6_setSetpoint_20 : decode cX6_setSetpoint 20 = .ok (.ifCond .ne 7, 3) := by decide +kernel
theorem dX6_setSetpoint_23 : decode cX6_setSetpoint 23 = .ok (.iconst 2, 1) := by decide +kernel
theorem dX6_setSetpoint_24 : decode cX6_setSetpoint 24 = .ok (.goto 18, 3) := by decide +kernel
theorem dX6_setSetpoint_27 : decode cX6_setSetpoint 27 = .ok (.aload_n 0, 1) := by decide +kernel
theorem dX6_setSetpoint_28 : decode cX6_setSetpoint 28 = .ok (.getfield 56, 3) := by decide +kernel
theorem dX6_setSetpoint_31 : decode cX6_setSetpoint 31 = .ok (.iload_n 1, 1) := by decide +kernel
theorem dX6_setSetpoint_32 : decode cX6_setSetpoint 32 = .ok (.iaload, 1) := by decide +kernel
theorem dX6_setSetpoint_33 : decode cX6_setSetpoint 33 = .ok (.iconst 2, 1) := by decide +kernel
theorem dX6_setSetpoint_34 : decode cX6_setSetpoint 34 = .ok (.if_icmp .ne 7, 3) := by decide +kernel
theorem dX6_setSetpoint_37 : decode cX6_setSetpoint 37 = .ok (.iconst 3, 1) := by decide +kernel
theorem dX6_setSetpoint_38 : decode cX6_setSetpoint 38 = .ok (.goto 4, 3) := by decide +kernel
theorem dX6_setSetpoint_41 : decode cX6_setSetpoint 41 = .ok (.iconst 0, 1) := by decide +kernel
theorem dX6_setSetpoint_42 : decode cX6_setSetpoint 42 = .ok (.invokevirtual 156, 3) := by decide +kernel
theorem dX6_setSetpoint_45 : decode cX6_setSetpoint 45 = .ok (.ifCond .ne 5, 3) := by decide +kernel
theorem dX6_setSetpoint_48 : decode cX6_setSetpoint 48 = .ok (.iconst 0, 1) := by decide +kernel
theorem dX6_setSetpoint_49 : decode cX6_setSetpoint 49 = .ok (.ireturn, 1) := by decide +kernel
theorem dX6_setSetpoint_50 : decode cX6_setSetpoint 50 = .ok (.aload_n 0, 1) := by decide +kernel
theorem dX6_setSetpoint_51 : decode cX6_setSetpoint 51 = .ok (.getfield 44, 3) := by decide +kernel
theorem dX6_setSetpoint_54 : decode cX6_setSetpoint 54 = .ok (.iload_n 1, 1) := by decide +kernel
theorem dX6_setSetpoint_55 : decode cX6_setSetpoint 55 = .ok (.laload, 1) := by decide +kernel
theorem dX6_setSetpoint_56 : decode cX6_setSetpoint 56 = .ok (.l2i, 1) := by decide +kernel
theorem dX6_setSetpoint_57 : decode cX6_setSetpoint 57 = .ok (.istore_n 3, 1) := by decide +kernel
theorem dX6_setSetpoint_58 : decode cX6_setSetpoint 58 = .ok (.aload_n 0, 1) := by decide +kernel
theorem dX6_setSetpoint_59 : decode cX6_setSetpoint 59 = .ok (.getfield 44, 3) := by decide +kernel
theorem dX6_setSetpoint_62 : decode cX6_setSetpoint 62 = .ok (.iload_n 1, 1) := by decide +kernel
theorem dX6_setSetpoint_63 : decode cX6_setSetpoint 63 = .ok (.iload_n 2, 1) := by decide +kernel
theorem dX6_setSetpoint_64 : decode cX6_setSetpoint 64 = .ok (.i2l, 1) := by decide +kernel
theorem dX6_setSetpoint_65 : decode cX6_setSetpoint 65 = .ok (.lastore, 1) := by decide +kernel
theorem dX6_setSetpoint_66 : decode cX6_setSetpoint 66 = .ok (.iload_n 3, 1) := by decide +kernel
theorem dX6_setSetpoint_67 : decode cX6_setSetpoint 67 = .ok (.ireturn, 1) := by decide +kernel
set_option maxRecDepth 20000 in
theorem ggX6_setHand_X6_isLoop : GoodIn wsX6_setHand wsX6_isLoop := goodIn_r _ [8] (by decide +kernel) (by decide +kernel)
set_option maxRecDepth 20000 in
theorem gX6_setHand_X6_isLoop : GoodIn wsX6_setHand (va_wsS RX6 152 yX6_isLoop wsX6_isLoop) := goodIn_app (goodIn_of _ (by decide +kernel)) ggX6_setHand_X6_isLoop
set_option maxRecDepth 20000 in
theorem ggX6_setHand_X6_isIn : GoodIn wsX6_setHand wsX6_isIn := goodIn_r _ [11] (by decide +kernel) (by decide +kernel)
set_option maxRecDepth 20000 in
theorem gX6_setHand_X6_isIn : GoodIn wsX6_setHand (va_wsS RX6 146 yX6_isIn wsX6_isIn) := goodIn_app (goodIn_of _ (by decide +kernel)) ggX6_setHand_X6_isIn
set_option maxRecDepth 20000 in
theorem ggX6_setHand_X6_can : GoodIn wsX6_setHand wsX6_can := goodIn_r _ [15, 16, 17, 18, 19, 20, 21, 22, 23, 24, 25, 26, 27, 28, 29, 30, 31, 32, 33, 34, 35, 36, 37, 38, 39, 40, 41, 42, 43, 44, 45, 46, 47, 48, 49, 50, 51, 52, 53, 54, 55, 56, 57, 58] (by decide +kernel) (by decide +kernel)
set_option maxRecDepth 20000 in
theorem gX6_setHand_X6_can : GoodIn wsX6_setHand (wsV RX6 156 RX6 yX6_can wsX6_can) := goodIn_app (goodIn_of _ (by decide +kernel)) ggX6_setHand_X6_can
theorem dX6_setHand_0 : decode cX6_setHand 0 = .ok (.aload_n 0, 1) := by decide +kernel
theorem dX6_setHand_1 : decode cX6_setHand 1 = .ok (.iload_n 1, 1) := by decide +kernel
theorem dX6_setHand_2 : decode cX6_setHand 2 = .ok (.invokestatic 152, 3) := by decide +kernel
theorem dX6_setHand_5 : decode cX6_setHand 5 = .ok (.ifCond .ne 7, 3) := by decide +kernel
theorem dX6_setHand_8 : decode cX6_setHand 8 = .ok (.iconst 1, 1) := by decide +kernel
theorem dX6_setHand_9 : decode cX6_setHand 9 = .ok (.goto 32, 3) := by decide +kernel
theorem dX6_setHand_12 : decode cX6_setHand 12 = .ok (.iload_n 2, 1) := by decide +kernel
theorem dX6_setHand_13 : decode cX6_setHand 13 = .ok (.ldc 173, 2) := by decide +kernel
theorem dX6_setHand_15 : decode cX6_setHand 15 = .ok (.ldc 174, 2) := by decide +kernel
theorem dX6_setHand_17 : decode cX6_setHand 17 = .ok (.invokestatic 146, 3) := by decide +kernel
theorem dX6_setHand_20 : decode cX6_setHand 20 = .ok (.ifCond .ne 7, 3) := by decide +kernel
theorem dX6_setHand_23 : decode cX6_setHand 23 = .ok (.iconst 2, 1) := by decide +kernel
theorem dX6_setHand_24 : decode cX6_setHand 24 = .ok (.goto 17, 3) := by decide +kernel
theorem dX6_setHand_27 : decode cX6_setHand 27 = .ok (.aload_n 0, 1) := by decide +kernel
theorem dX6_setHand_28 : decode cX6_setHand 28 = .ok (.getfield 56, 3) := by decide +kernel
theorem dX6_setHand_31 : decode cX6_setHand 31 = .ok (.iload_n 1, 1) := by decide +kernel
theorem dX6_setHand_32 : decode cX6_setHand 32 = .ok (.iaload, 1) := by decide +kernel
theorem dX6_setHand_33 : decode cX6_setHand 33 = .ok (.ifCond .eq 7, 3) := by decide +kernel
theorem dX6_setHand_36 : decode cX6_setHand 36 = .ok (.iconst 3, 1) := by decide +kernel
theorem dX6_setHand_37 : decode cX6_setHand 37 = .ok (.goto 4, 3) := by decide +kernel
theorem dX6_setHand_40 : decode cX6_setHand 40 = .ok (.iconst 0, 1) := by decide +kernel
theorem dX6_setHand_41 : decode cX6_setHand 41 = .ok (.invokevirtual 156, 3) := by decide +kernel
theorem dX6_setHand_44 : decode cX6_setHand 44 = .ok (.ifCond .ne 5, 3) := by decide +kernel
theorem dX6_setHand_47 : decode cX6_setHand 47 = .ok (.iconst 0, 1) := by decide +kernel
theorem dX6_setHand_48 : decode cX6_setHand 48 = .ok (.ireturn, 1) := by decide +kernel
theorem dX6_setHand_49 : decode cX6_setHand 49 = .ok (.aload_n 0, 1) := by decide +kernel
theorem dX6_setHand_50 : decode cX6_setHand 50 = .ok (.getfield 59, 3) := by decide +kernel
theorem dX6_setHand_53 : decode cX6_setHand 53 = .ok (.iload_n 1, 1) := by decide +kernel
theorem dX6_setHand_54 : decode cX6_setHand 54 = .ok (.laload, 1) := by decide +kernel
theorem dX6_setHand_55 : decode cX6_setHand 55 = .ok (.l2i, 1) := by decide +kernel
theorem dX6_setHand_56 : decode cX6_setHand 56 = .ok (.istore_n 3, 1) := by decide +kernel
theorem dX6_setHand_57 : decode cX6_setHand 57 = .ok (.aload_n 0, 1) := by decide +kernel
theorem dX6_setHand_58 : decode cX6_setHand 58 = .ok (.getfield 59, 3) := by decide +kernel
theorem dX6_setHand_61 : decode cX6_setHand 61 = .ok (.iload_n 1, 1) := by decide +kernel
theorem dX6_setHand_62 : decode cX6_setHand 62 = .ok (.iload_n 2, 1) := by decide +kernel
theorem dX6_setHand_63 : decode cX6_setHand 63 = .ok (.i2l, 1) := by decide +kernel
theorem dX6_setHand_64 : decode cX6_setHand 64 = .ok (.lastore, 1) := by decide +kernel
theorem dX6_setHand_65 : decode cX6_setHand 65 = .ok (.iload_n 3, 1) := by decide +kernel
theorem dX6_setHand_66 : decode cX6_setHand 66 = .ok (.ireturn, 1) := by decide +kernel
set_option maxRecDepth 20000 in
theorem ggX6_setTies_X6_isLoop : GoodIn wsX6_setTies wsX6_isLoop := goodIn_r _ [7] (by decide +kernel) (by decide +kernel)
set_option maxRecDepth 20000 in
theorem gX6_setTies_X6_isLoop : GoodIn wsX6_setTies (va_wsS RX6 152 yX6_isLoop wsX6_isLoop) := goodIn_app (goodIn_of _ (by decide +kernel)) ggX6_setTies_X6_isLoop
set_option maxRecDepth 20000 in
theorem ggX6_setTies_X6_can : GoodIn wsX6_setTies wsX6_can := goodIn_r _ [11, 12, 13, 14, 15, 16, 17, 18, 19, 20, 21, 22, 23, 24, 25, 26, 27, 28, 29, 30, 31, 32, 33, 34, 35, 36, 37, 38, 39, 40, 41, 42, 43, 44, 45, 46, 47, 48, 49, 50, 51, 52, 53, 54] (by decide +kernel) (by decide +kernel)
set_option maxRecDepth 20000 in
theorem gX6_setTies_X6_can : GoodIn wsX6_setTies (wsV RX6 156 RX6 yX6_can wsX6_can) := goodIn_app (goodIn_of _ (by decide +kernel)) ggX6_setTies_X6_can
theorem dX6_setTies_0 : decode cX6_setTies 0 = .ok (.aload_n 0, 1) := by decide +kernel
theorem dX6_setTies_1 : decode cX6_setTies 1 = .ok (.iload_n 1, 1) := by decide +kernel
theorem dX6_setTies_2 : decode cX6_setTies 2 = .ok (.invokestatic 152, 3) := by decide +kernel
theorem dX6_setTies_5 : decode cX6_setTies 5 = .ok (.ifCond .ne 7, 3) := by decide +kernel
theorem dX6_setTies_8 : decode cX6_setTies 8 = .ok (.iconst 1, 1) := by decide +kernel
theorem dX6_setTies_9 : decode cX6_setTies 9 = .ok (.goto 34, 3) := by decide +kernel
theorem dX6_setTies_12 : decode cX6_setTies 12 = .ok (.iload_n 3, 1) := by decide +kernel
theorem dX6_setTies_13 : decode cX6_setTies 13 = .ok (.ifCond .eq 11, 3) := by decide +kernel
theorem dX6_setTies_16 : decode cX6_setTies 16 = .ok (.iload_n 1, 1) := by decide +kernel
theorem dX6_setTies_17 : decode cX6_setTies 17 = .ok (.ifCond .ne 7, 3) := by decide +kernel
theorem dX6_setTies_20 : decode cX6_setTies 20 = .ok (.iconst 2, 1) := by decide +kernel
theorem dX6_setTies_21 : decode cX6_setTies 21 = .ok (.goto 22, 3) := by decide +kernel
theorem dX6_setTies_24 : decode cX6_setTies 24 = .ok (.iload_n 3, 1) := by decide +kernel
theorem dX6_setTies_25 : decode cX6_setTies 25 = .ok (.ifCond .ne 17, 3) := by decide +kernel
theorem dX6_setTies_28 : decode cX6_setTies 28 = .ok (.aload_n 0, 1) := by decide +kernel
theorem dX6_setTies_29 : decode cX6_setTies 29 = .ok (.getfield 56, 3) := by decide +kernel
theorem dX6_setTies_32 : decode cX6_setTies 32 = .ok (.iload_n 1, 1) := by decide +kernel
theorem dX6_setTies_33 : decode cX6_setTies 33 = .ok (.iaload, 1) := by decide +kernel
theorem dX6_setTies_34 : decode cX6_setTies 34 = .ok (.iconst 2, 1) := by decide +kernel
theorem dX6_setTies_35 : decode cX6_setTies 35 = .ok (.if_icmp .ne 7, 3) := by decide +kernel
theorem dX6_setTies_38 : decode cX6_setTies 38 = .ok (.iconst 3, 1) := by decide +kernel
theorem dX6_setTies_39 : decode cX6_setTies 39 = .ok (.goto 4, 3) := by decide +kernel
theorem dX6_setTies_42 : decode cX6_setTies 42 = .ok (.iconst 0, 1) := by decide +kernel
theorem dX6_setTies_43 : decode cX6_setTies 43 = .ok (.invokevirtual 156, 3) := by decide +kernel
theorem dX6_setTies_46 : decode cX6_setTies 46 = .ok (.ifCond .eq 17, 3) := by decide +kernel
theorem dX6_setTies_49 : decode cX6_setTies 49 = .ok (.aload_n 0, 1) := by decide +kernel
theorem dX6_setTies_50 : decode cX6_setTies 50 = .ok (.getfield 62, 3) := by decide +kernel
theorem dX6_setTies_53 : decode cX6_setTies 53 = .ok (.iload_n 1, 1) := by decide +kernel
theorem dX6_setTies_54 : decode cX6_setTies 54 = .ok (.iload_n 2, 1) := by decide +kernel
theorem dX6_setTies_55 : decode cX6_setTies 55 = .ok (.bastore, 1) := by decide +kernel
theorem dX6_setTies_56 : decode cX6_setTies 56 = .ok (.aload_n 0, 1) := by decide +kernel
theorem dX6_setTies_57 : decode cX6_setTies 57 = .ok (.getfield 66, 3) := by decide +kernel
theorem dX6_setTies_60 : decode cX6_setTies 60 = .ok (.iload_n 1, 1) := by decide +kernel
theorem dX6_setTies_61 : decode cX6_setTies 61 = .ok (.iload_n 3, 1) := by decide +kernel
theorem dX6_setTies_62 : decode cX6_setTies 62 = .ok (.bastore, 1) := by decide +kernel
theorem dX6_setTies_63 : decode cX6_setTies 63 = .ok (.return_, 1) := by decide +kernel
set_option maxRecDepth 20000 in
theorem ggX6_settle_X6_error : GoodIn wsX6_settle wsX6_error := goodIn_r _ [9, 10, 11, 17, 18, 19, 20, 21, 22, 23, 24, 25, 26, 27, 28, 29, 30, 31, 32, 33, 34, 35, 36, 37, 38, 39, 40, 41, 42, 43, 44, 45, 46, 47, 48, 49, 50, 51, 52, 53, 54, 55, 56, 57, 58] (by decide +kernel) (by decide +kernel)
set_option maxRecDepth 20000 in
theorem gX6_settle_X6_error : GoodIn wsX6_settle (wsV RX6 159 RX6 yX6_error wsX6_error) := goodIn_app (goodIn_of _ (by decide +kernel)) ggX6_settle_X6_error
set_option maxRecDepth 20000 in
theorem ggX6_settle_X6_rate : GoodIn wsX6_settle wsX6_rate := goodIn_r _ [15, 16, 11, 17, 18, 19, 20, 21, 22, 23, 24, 25, 26, 27, 28, 29, 30, 31, 32, 33, 34, 35, 36, 37, 38, 39, 40, 41, 42, 43, 44, 45, 46, 47, 48, 49, 50, 51, 52, 53, 54, 55, 56, 57, 58] (by decide +kernel) (by decide +kernel)
set_option maxRecDepth 20000 in
theorem gX6_settle_X6_rate : GoodIn wsX6_settle (wsV RX6 163 RX6 yX6_rate wsX6_rate) := goodIn_app (goodIn_of _ (by decide +kernel)) ggX6_settle_X6_rate
theorem dX6_settle_0 : decode cX6_settle 0 = .ok (.aload_n 0, 1) := by decide +kernel
theorem dX6_settle_1 : decode cX6_settle 1 = .ok (.getfield 47, 3) := by decide +kernel
theorem dX6_settle_4 : decode cX6_settle 4 = .ok (.iload_n 1, 1) := by decide +kernel
theorem dX6_settle_5 : decode cX6_settle 5 = .ok (.ldc2_w 136, 3) := by decide +kernel
theorem dX6_settle_8 : decode cX6_settle 8 = .ok (.lload_n 2, 1) := by decide +kernel
theorem dX6_settle_9 : decode cX6_settle 9 = .ok (.lmul, 1) := by decide +kernel
theorem dX6_settle_10 : decode cX6_settle 10 = .ok (.aload_n 0, 1) := by decide +kernel
theorem dX6_settle_11 : decode cX6_settle 11 = .ok (.getfield 35, 3) := by decide +kernel
theorem dX6_settle_14 : decode cX6_settle 14 = .ok (.iconst 3, 1) := by decide +kernel
theorem dX6_settle_15 : decode cX6_settle 15 = .ok (.iload_n 1, 1) := by decide +kernel
theorem dX6_settle_16 : decode cX6_settle 16 = .ok (.imul, 1) := by decide +kernel
theorem dX6_settle_17 : decode cX6_settle 17 = .ok (.laload, 1) := by decide +kernel
theorem dX6_settle_18 : decode cX6_settle 18 = .ok (.aload_n 0, 1) := by decide +kernel
theorem dX6_settle_19 : decode cX6_settle 19 = .ok (.iload_n 1, 1) := by decide +kernel
theorem dX6_settle_20 : decode cX6_settle 20 = .ok (.invokevirtual 159, 3) := by decide +kernel
theorem dX6_settle_23 : decode cX6_settle 23 = .ok (.lmul, 1) := by decide +kernel
theorem dX6_settle_24 : decode cX6_settle 24 = .ok (.lsub, 1) := by decide +kernel
theorem dX6_settle_25 : decode cX6_settle 25 = .ok (.aload_n 0, 1) := by decide +kernel
theorem dX6_settle_26 : decode cX6_settle 26 = .ok (.getfield 35, 3) := by decide +kernel
theorem dX6_settle_29 : decode cX6_settle 29 = .ok (.iconst 3, 1) := by decide +kernel
theorem dX6_settle_30 : decode cX6_settle 30 = .ok (.iload_n 1, 1) := by decide +kernel
theorem dX6_settle_31 : decode cX6_settle 31 = .ok (.imul, 1) := by decide +kernel
theorem dX6_settle_32 : decode cX6_settle 32 = .ok (.iconst 2, 1) := by decide +kernel
theorem dX6_settle_33 : decode cX6_settle 33 = .ok (.iadd, 1) := by decide +kernel
theorem dX6_settle_34 : decode cX6_settle 34 = .ok (.laload, 1) := by decide +kernel
theorem dX6_settle_35 : decode cX6_settle 35 = .ok (.aload_n 0, 1) := by decide +kernel
theorem dX6_settle_36 : decode cX6_settle 36 = .ok (.iload_n 1, 1) := by decide +kernel
theorem dX6_settle_37 : decode cX6_settle 37 = .ok (.invokevirtual 163, 3) := by decide +kernel
theorem dX6_settle_40 : decode cX6_settle 40 = .ok (.lmul, 1) := by decide +kernel
theorem dX6_settle_41 : decode cX6_settle 41 = .ok (.lsub, 1) := by decide +kernel
theorem dX6_settle_42 : decode cX6_settle 42 = .ok (.lastore, 1) := by decide +kernel
theorem dX6_settle_43 : decode cX6_settle 43 = .ok (.aload_n 0, 1) := by decide +kernel
theorem dX6_settle_44 : decode cX6_settle 44 = .ok (.getfield 84, 3) := by decide +kernel
theorem dX6_settle_47 : decode cX6_settle 47 = .ok (.iload_n 1, 1) := by decide +kernel
theorem dX6_settle_48 : decode cX6_settle 48 = .ok (.iconst 0, 1) := by decide +kernel
theorem dX6_settle_49 : decode cX6_settle 49 = .ok (.bastore, 1) := by decide +kernel
theorem dX6_settle_50 : decode cX6_settle 50 = .ok (.return_, 1) := by decide +kernel
set_option maxRecDepth 20000 in
theorem ggX6_setMode_X6_isLoop : GoodIn wsX6_setMode wsX6_isLoop := goodIn_r _ [8] (by decide +kernel) (by decide +kernel)
set_option maxRecDepth 20000 in
theorem gX6_setMode_X6_isLoop : GoodIn wsX6_setMode (va_wsS RX6 152 yX6_isLoop wsX6_isLoop) := goodIn_app (goodIn_of _ (by decide +kernel)) ggX6_setMode_X6_isLoop
set_option maxRecDepth 20000 in
theorem ggX6_setMode_X6_isIn : GoodIn wsX6_setMode wsX6_isIn := goodIn_r _ [11] (by decide +kernel) (by decide +kernel)
set_option maxRecDepth 20000 in
theorem gX6_setMode_X6_isIn : GoodIn wsX6_setMode (va_wsS RX6 146 yX6_isIn wsX6_isIn) := goodIn_app (goodIn_of _ (by decide +kernel)) ggX6_setMode_X6_isIn
set_option maxRecDepth 20000 in
theorem ggX6_setMode_X6_can : GoodIn wsX6_setMode wsX6_can := goodIn_r _ [15, 16, 41, 42, 43, 44, 45, 46, 47, 48, 49, 50, 51, 52, 53, 54, 55, 56, 57, 58, 59, 60, 61, 62, 63, 64, 65, 66, 67, 68, 69, 70, 71, 72, 73, 74, 75, 76, 77, 78, 79, 80, 81, 82] (by decide +kernel) (by decide +kernel)
set_option maxRecDepth 20000 in
theorem gX6_setMode_X6_can : GoodIn wsX6_setMode (wsV RX6 156 RX6 yX6_can wsX6_can) := goodIn_app (goodIn_of _ (by decide +kernel)) ggX6_setMode_X6_can
set_option maxRecDepth 20000 in
theorem ggX6_setMode_X6_latest : GoodIn wsX6_setMode wsX6_latest := goodIn_r _ [20, 21, 41, 42, 43, 44, 45, 46, 47, 48, 49, 50, 51, 52, 53, 54, 55, 56, 57, 58, 59, 60, 61, 62, 63, 64, 65, 66, 67, 68, 69, 70, 71, 72, 73, 74, 75, 76, 77, 78, 79, 80, 81, 82] (by decide +kernel) (by decide +kernel)
set_option maxRecDepth 20000 in
theorem gX6_setMode_X6_latest : GoodIn wsX6_setMode (wsV RX6 175 RX6 yX6_latest wsX6_latest) := goodIn_app (goodIn_of _ (by decide +kernel)) ggX6_setMode_X6_latest
set_option maxRecDepth 20000 in
theorem ggX6_setMode_X6_settle : GoodIn wsX6_setMode wsX6_settle := goodIn_r _ [25, 26, 27, 28, 29, 30, 31, 32, 7, 33, 34, 35, 36, 37, 38, 39, 40, 41, 42, 43, 44, 45, 46, 47, 48, 49, 50, 51, 52, 53, 54, 55, 56, 57, 58, 59, 60, 61, 62, 63, 64, 65, 66, 67, 68, 69, 70, 71, 72, 73, 74, 75, 76, 77, 78, 79, 80, 81, 82] (by decide +kernel) (by decide +kernel)
set_option maxRecDepth 20000 in
theorem gX6_setMode_X6_settle : GoodIn wsX6_setMode (wsV RX6 178 RX6 yX6_settle wsX6_settle) := goodIn_app (goodIn_of _ (by decide +kernel)) ggX6_setMode_X6_settle
theorem dX6_setMode_0 : decode cX6_setMode 0 = .ok (.aload_n 0, 1) := by decide +kernel
theorem dX6_setMode_1 : decode cX6_setMode 1 = .ok (.iload_n 1, 1) := by decide +kernel
theorem dX6_setMode_2 : decode cX6_setMode 2 = .ok (.invokestatic 152, 3) := by decide +kernel
theorem dX6_setMode_5 : decode cX6_setMode 5 = .ok (.ifCond .ne 7, 3) := by decide +kernel
theorem dX6_setMode_8 : decode cX6_setMode 8 = .ok (.iconst 1, 1) := by decide +kernel
theorem dX6_setMode_9 : decode cX6_setMode 9 = .ok (.goto 49, 3) := by decide +kernel
theorem dX6_setMode_12 : decode cX6_setMode 12 = .ok (.iload_n 2, 1) := by decide +kernel
theorem dX6_setMode_13 : decode cX6_setMode 13 = .ok (.iconst 0, 1) := by decide +kernel
theorem dX6_setMode_14 : decode cX6_setMode 14 = .ok (.iconst 2, 1) := by decide +kernel
theorem dX6_setMode_15 : decode cX6_setMode 15 = .ok (.invokestatic 146, 3) := by decide +kernel
theorem dX6_setMode_18 : decode cX6_setMode 18 = .ok (.ifCond .ne 7, 3) := by decide +kernel
theorem dX6_setMode_21 : decode cX6_setMode 21 = .ok (.iconst 2, 1) := by decide +kernel
theorem dX6_setMode_22 : decode cX6_setMode 22 = .ok (.goto 36, 3) := by decide +kernel
theorem dX6_setMode_25 : decode cX6_setMode 25 = .ok (.aload_n 0, 1) := by decide +kernel
theorem dX6_setMode_26 : decode cX6_setMode 26 = .ok (.getfield 56, 3) := by decide +kernel
theorem dX6_setMode_29 : decode cX6_setMode 29 = .ok (.iload_n 1, 1) := by decide +kernel
theorem dX6_setMode_30 : decode cX6_setMode 30 = .ok (.iaload, 1) := by decide +kernel
theorem dX6_setMode_31 : decode cX6_setMode 31 = .ok (.iconst 3, 1) := by decide +kernel
theorem dX6_setMode_32 : decode cX6_setMode 32 = .ok (.if_icmp .ne 7, 3) := by decide +kernel
theorem dX6_setMode_35 : decode cX6_setMode 35 = .ok (.iload_n 2, 1) := by decide +kernel
theorem dX6_setMode_36 : decode cX6_setMode 36 = .ok (.ifCond .ne 17, 3) := by decide +kernel
theorem dX6_setMode_39 : decode cX6_setMode 39 = .ok (.iload_n 2, 1) := by decide +kernel
theorem dX6_setMode_40 : decode cX6_setMode 40 = .ok (.iconst 2, 1) := by decide +kernel
theorem dX6_setMode_41 : decode cX6_setMode 41 = .ok (.if_icmp .ne 16, 3) := by decide +kernel
theorem dX6_setMode_44 : decode cX6_setMode 44 = .ok (.aload_n 0, 1) := by decide +kernel
theorem dX6_setMode_45 : decode cX6_setMode 45 = .ok (.getfield 66, 3) := by decide +kernel
theorem dX6_setMode_48 : decode cX6_setMode 48 = .ok (.iload_n 1, 1) := by decide +kernel
theorem dX6_setMode_49 : decode cX6_setMode 49 = .ok (.baload, 1) := by decide +kernel
theorem dX6_setMode_50 : decode cX6_setMode 50 = .ok (.ifCond .ne 7, 3) := by decide +kernel
theorem dX6_setMode_53 : decode cX6_setMode 53 = .ok (.iconst 3, 1) := by decide +kernel
theorem dX6_setMode_54 : decode cX6_setMode 54 = .ok (.goto 4, 3) := by decide +kernel
theorem dX6_setMode_57 : decode cX6_setMode 57 = .ok (.iconst 0, 1) := by decide +kernel
theorem dX6_setMode_58 : decode cX6_setMode 58 = .ok (.invokevirtual 156, 3) := by decide +kernel
theorem dX6_setMode_61 : decode cX6_setMode 61 = .ok (.ifCond .ne 5, 3) := by decide +kernel
theorem dX6_setMode_64 : decode cX6_setMode 64 = .ok (.iconst 0, 1) := by decide +kernel
theorem dX6_setMode_65 : decode cX6_setMode 65 = .ok (.ireturn, 1) := by decide +kernel
theorem dX6_setMode_66 : decode cX6_setMode 66 = .ok (.aload_n 0, 1) := by decide +kernel
theorem dX6_setMode_67 : decode cX6_setMode 67 = .ok (.getfield 56, 3) := by decide +kernel
theorem dX6_setMode_70 : decode cX6_setMode 70 = .ok (.iload_n 1, 1) := by decide +kernel
theorem dX6_setMode_71 : decode cX6_setMode 71 = .ok (.iaload, 1) := by decide +kernel
theorem dX6_setMode_72 : decode cX6_setMode 72 = .ok (.istore_n 3, 1) := by decide +kernel
theorem dX6_setMode_73 : decode cX6_setMode 73 = .ok (.iload_n 3, 1) := by decide +kernel
theorem dX6_setMode_74 : decode cX6_setMode 74 = .ok (.iload_n 2, 1) := by decide +kernel
theorem dX6_setMode_75 : decode cX6_setMode 75 = .ok (.if_icmp .eq 60, 3) := by decide +kernel
theorem dX6_setMode_78 : decode cX6_setMode 78 = .ok (.iload_n 3, 1) := by decide +kernel
theorem dX6_setMode_79 : decode cX6_setMode 79 = .ok (.ifCond .ne 13, 3) := by decide +kernel
theorem dX6_setMode_82 : decode cX6_setMode 82 = .ok (.aload_n 0, 1) := by decide +kernel
theorem dX6_setMode_83 : decode cX6_setMode 83 = .ok (.iload_n 1, 1) := by decide +kernel
theorem dX6_setMode_84 : decode cX6_setMode 84 = .ok (.aload_n 0, 1) := by decide +kernel
theorem dX6_setMode_85 : decode cX6_setMode 85 = .ok (.iload_n 1, 1) := by decide +kernel
theorem dX6_setMode_86 : decode cX6_setMode 86 = .ok (.invokevirtual 175, 3) := by decide +kernel
theorem dX6_setMode_89 : decode cX6_setMode 89 = .ok (.invokevirtual 178, 3) := by decide +kernel
theorem dX6_setMode_92 : decode cX6_setMode 92 = .ok (.iload_n 2, 1) := by decide +kernel
theorem dX6_setMode_93 : decode cX6_setMode 93 = .ok (.ifCond .ne 35, 3) := by decide +kernel
theorem dX6_setMode_96 : decode cX6_setMode 96 = .ok (.aload_n 0, 1) := by decide +kernel
theorem dX6_setMode_97 : decode cX6_setMode 97 = .ok (.getfield 59, 3) := by decide +kernel
theorem dX6_setMode_100 : decode cX6_setMode 100 = .ok (.iload_n 1, 1) := by decide +kernel
theorem dX6_setMode_101 : decode cX6_setMode 101 = .ok (.aload_n 0, 1) := by decide +kernel
theorem dX6_setMode_102 : decode cX6_setMode 102 = .ok (.iload_n 1, 1) := by decide +kernel
theorem dX6_setMode_103 : decode cX6_setMode 103 = .ok (.invokevirtual 175, 3) := by decide +kernel
theorem dX6_setMode_106 : decode cX6_setMode 106 = .ok (.lastore, 1) := by decide +kernel
theorem dX6_setMode_107 : decode cX6_setMode 107 = .ok (.aload_n 0, 1) := by decide +kernel
theorem dX6_setMode_108 : decode cX6_setMode 108 = .ok (.getfield 96, 3) := by decide +kernel
theorem dX6_setMode_111 : decode cX6_setMode 111 = .ok (.iload_n 1, 1) := by decide +kernel
theorem dX6_setMode_112 : decode cX6_setMode 112 = .ok (.iload_n 3, 1) := by decide +kernel
theorem dX6_setMode_113 : decode cX6_setMode 113 = .ok (.iconst 3, 1) := by decide +kernel
theorem dX6_setMode_114 : decode cX6_setMode 114 = .ok (.if_icmp .ne 7, 3) := by decide +kernel
theorem dX6_setMode_117 : decode cX6_setMode 117 = .ok (.iconst 0, 1) := by decide +kernel
theorem dX6_setMode_118 : decode cX6_setMode 118 = .ok (.goto 9, 3) := by decide +kernel
theorem dX6_setMode_121 : decode cX6_setMode 121 = .ok (.aload_n 0, 1) := by decide +kernel
theorem dX6_setMode_122 : decode cX6_setMode 122 = .ok (.getfield 96, 3) := by decide +kernel
theorem dX6_setMode_125 : decode cX6_setMode 125 = .ok (.iload_n 1, 1) := by decide +kernel
theorem dX6_setMode_126 : decode cX6_setMode 126 = .ok (.iaload, 1) := by decide +kernel
theorem dX6_setMode_127 : decode cX6_setMode 127 = .ok (.iastore, 1) := by decide +kernel
theorem dX6_setMode_128 : decode cX6_setMode 128 = .ok (.aload_n 0, 1) := by decide +kernel
theorem dX6_setMode_129 : decode cX6_setMode 129 = .ok (.getfield 56, 3) := by decide +kernel
theorem dX6_setMode_132 : decode cX6_setMode 132 = .ok (.iload_n 1, 1) := by decide +kernel
theorem dX6_setMode_133 : decode cX6_setMode 133 = .ok (.iload_n 2, 1) := by decide +kernel
theorem dX6_setMode_134 : decode cX6_setMode 134 = .ok (.iastore, 1) := by decide +kernel
theorem dX6_setMode_135 : decode cX6_setMode 135 = .ok (.iload_n 3, 1) := by decide +kernel
theorem dX6_setMode_136 : decode cX6_setMode 136 = .ok (.ireturn, 1) := by decide +kernel
set_option maxRecDepth 20000 in
theorem ggX6_schedules_X6_floor : GoodIn wsX6_schedules wsX6_floor := goodIn_r _ [8] (by decide +kernel) (by decide +kernel)
set_option maxRecDepth 20000 in
theorem gX6_schedules_X6_floor : GoodIn wsX6_schedules (va_wsS RX6 182 yX6_floor wsX6_floor) := goodIn_app (goodIn_of _ (by decide +kernel)) ggX6_schedules_X6_floor
set_option maxRecDepth 20000 in
theorem ggX6_schedules_X6_changes : GoodIn wsX6_schedules wsX6_changes := goodIn_r _ [12, 13, 14, 15, 16, 17, 7, 18, 19, 3, 20, 21, 22, 23, 24, 25, 26, 27, 28, 29, 30, 31, 32, 33, 34, 35, 36, 37, 38, 39, 40, 41, 42, 43, 44, 45, 46, 47, 48, 49, 50, 51, 52, 53, 54, 55, 56, 57, 58, 59, 60, 61, 62, 63, 64, 65, 66] (by decide +kernel) (by decide +kernel)
set_option maxRecDepth 20000 in
theorem gX6_schedules_X6_changes : GoodIn wsX6_schedules (wsV RX6 169 RX6 yX6_changes wsX6_changes) := goodIn_app (goodIn_of _ (by decide +kernel)) ggX6_schedules_X6_changes
theorem dX6_schedules_0 : decode cX6_schedules 0 = .ok (.aload_n 0, 1) := by decide +kernel
theorem dX6_schedules_1 : decode cX6_schedules 1 = .ok (.getfield 87, 3) := by decide +kernel
theorem dX6_schedules_4 : decode cX6_schedules 4 = .ok (.iload_n 1, 1) := by decide +kernel
theorem dX6_schedules_5 : decode cX6_schedules 5 = .ok (.iaload, 1) := by decide +kernel
theorem dX6_schedules_6 : decode cX6_schedules 6 = .ok (.iconst 1, 1) := by decide +kernel
theorem dX6_schedules_7 : decode cX6_schedules 7 = .ok (.isub, 1) := by decide +kernel
theorem dX6_schedules_8 : decode cX6_schedules 8 = .ok (.istore_n 2, 1) := by decide +kernel
theorem dX6_schedules_9 : decode cX6_schedules 9 = .ok (.iload_n 2, 1) := by decide +kernel
theorem dX6_schedules_10 : decode cX6_schedules 10 = .ok (.ifCond .ge 4, 3) := by decide +kernel
theorem dX6_schedules_13 : decode cX6_schedules 13 = .ok (.return_, 1) := by decide +kernel
theorem dX6_schedules_14 : decode cX6_schedules 14 = .ok (.iconst 0, 1) := by decide +kernel
theorem dX6_schedules_15 : decode cX6_schedules 15 = .ok (.istore_n 3, 1) := by decide +kernel
theorem dX6_schedules_16 : decode cX6_schedules 16 = .ok (.iload_n 3, 1) := by decide +kernel
theorem dX6_schedules_17 : decode cX6_schedules 17 = .ok (.iload_n 2, 1) := by decide +kernel
theorem dX6_schedules_18 : decode cX6_schedules 18 = .ok (.if_icmp .ge 31, 3) := by decide +kernel
theorem dX6_schedules_21 : decode cX6_schedules 21 = .ok (.aload_n 0, 1) := by decide +kernel
theorem dX6_schedules_22 : decode cX6_schedules 22 = .ok (.getfield 90, 3) := by decide +kernel
theorem dX6_schedules_25 : decode cX6_schedules 25 = .ok (.iconst 5, 1) := by decide +kernel
theorem dX6_schedules_26 : decode cX6_schedules 26 = .ok (.iload_n 1, 1) := by decide +kernel
theorem dX6_schedules_27 : decode cX6_schedules 27 = .ok (.imul, 1) := by decide +kernel
theorem dX6_schedules_28 : decode cX6_schedules 28 = .ok (.iload_n 3, 1) := by decide +kernel
theorem dX6_schedules_29 : decode cX6_schedules 29 = .ok (.iadd, 1) := by decide +kernel
theorem dX6_schedules_30 : decode cX6_schedules 30 = .ok (.iconst 1, 1) := by decide +kernel
theorem dX6_schedules_31 : decode cX6_schedules 31 = .ok (.iadd, 1) := by decide +kernel
theorem dX6_schedules_32 : decode cX6_schedules 32 = .ok (.laload, 1) := by decide +kernel
theorem dX6_schedules_33 : decode cX6_schedules 33 = .ok (.aload_n 0, 1) := by decide +kernel
theorem dX6_schedules_34 : decode cX6_schedules 34 = .ok (.getfield 26, 3) := by decide +kernel
theorem dX6_schedules_37 : decode cX6_schedules 37 = .ok (.iload_n 1, 1) := by decide +kernel
theorem dX6_schedules_38 : decode cX6_schedules 38 = .ok (.laload, 1) := by decide +kernel
theorem dX6_schedules_39 : decode cX6_schedules 39 = .ok (.lcmp, 1) := by decide +kernel
theorem dX6_schedules_40 : decode cX6_schedules 40 = .ok (.ifCond .gt 9, 3) := by decide +kernel
theorem dX6_schedules_43 : decode cX6_schedules 43 = .ok (.iinc 3 1, 3) := by decide +kernel
theorem dX6_schedules_46 : decode cX6_schedules 46 = .ok (.goto (-30), 3) := by decide +kernel
theorem dX6_schedules_49 : decode cX6_schedules 49 = .ok (.iconst 3, 1) := by decide +kernel
theorem dX6_schedules_50 : decode cX6_schedules 50 = .ok (.iconst 5, 1) := by decide +kernel
theorem dX6_schedules_51 : decode cX6_schedules 51 = .ok (.iload_n 1, 1) := by decide +kernel
theorem dX6_schedules_52 : decode cX6_schedules 52 = .ok (.imul, 1) := by decide +kernel
theorem dX6_schedules_53 : decode cX6_schedules 53 = .ok (.iload_n 3, 1) := by decide +kernel
theorem dX6_schedules_54 : decode cX6_schedules 54 = .ok (.iadd, 1) := by decide +kernel
theorem dX6_schedules_55 : decode cX6_schedules 55 = .ok (.imul, 1) := by decide +kernel
theorem dX6_schedules_56 : decode cX6_schedules 56 = .ok (.istore 4, 2) := by decide +kernel
theorem dX6_schedules_58 : decode cX6_schedules 58 = .ok (.iload_n 3, 1) := by decide +kernel
theorem dX6_schedules_59 : decode cX6_schedules 59 = .ok (.iload_n 2, 1) := by decide +kernel
theorem dX6_schedules_60 : decode cX6_schedules 60 = .ok (.if_icmp .ge 27, 3) := by decide +kernel
theorem dX6_schedules_63 : decode cX6_schedules 63 = .ok (.aload_n 0, 1) := by decide +kernel
theorem dX6_schedules_64 : decode cX6_schedules 64 = .ok (.getfield 26, 3) := by decide +kernel
theorem dX6_schedules_67 : decode cX6_schedules 67 = .ok (.iload_n 1, 1) := by decide +kernel
theorem dX6_schedules_68 : decode cX6_schedules 68 = .ok (.laload, 1) := by decide +kernel
theorem dX6_schedules_69 : decode cX6_schedules 69 = .ok (.aload_n 0, 1) := by decide +kernel
theorem dX6_schedules_70 : decode cX6_schedules 70 = .ok (.getfield 90, 3) := by decide +kernel
theorem dX6_schedules_73 : decode cX6_schedules 73 = .ok (.iconst 5, 1) := by decide +kernel
theorem dX6_schedules_74 : decode cX6_schedules 74 = .ok (.iload_n 1, 1) := by decide +kernel
theorem dX6_schedules_75 : decode cX6_schedules 75 = .ok (.imul, 1) := by decide +kernel
theorem dX6_schedules_76 : decode cX6_schedules 76 = .ok (.iload_n 3, 1) := by decide +kernel
theorem dX6_schedules_77 : decode cX6_schedules 77 = .ok (.iadd, 1) := by decide +kernel
theorem dX6_schedules_78 : decode cX6_schedules 78 = .ok (.laload, 1) := by decide +kernel
theorem dX6_schedules_79 : decode cX6_schedules 79 = .ok (.lcmp, 1) := by decide +kernel
theorem dX6_schedules_80 : decode cX6_schedules 80 = .ok (.ifCond .le 7, 3) := by decide +kernel
theorem dX6_schedules_83 : decode cX6_schedules 83 = .ok (.iconst 1, 1) := by decide +kernel
theorem dX6_schedules_84 : decode cX6_schedules 84 = .ok (.goto 4, 3) := by decide +kernel
theorem dX6_schedules_87 : decode cX6_schedules 87 = .ok (.iconst 0, 1) := by decide +kernel
theorem dX6_schedules_88 : decode cX6_schedules 88 = .ok (.istore 5, 2) := by decide +kernel
theorem dX6_schedules_90 : decode cX6_schedules 90 = .ok (.iload 5, 2) := by decide +kernel
theorem dX6_schedules_92 : decode cX6_schedules 92 = .ok (.ifCond .eq 23, 3) := by decide +kernel
theorem dX6_schedules_95 : decode cX6_schedules 95 = .ok (.aload_n 0, 1) := by decide +kernel
theorem dX6_schedules_96 : decode cX6_schedules 96 = .ok (.getfield 26, 3) := by decide +kernel
theorem dX6_schedules_99 : decode cX6_schedules 99 = .ok (.iload_n 1, 1) := by decide +kernel
theorem dX6_schedules_100 : decode cX6_schedules 100 = .ok (.laload, 1) := by decide +kernel
theorem dX6_schedules_101 : decode cX6_schedules 101 = .ok (.aload_n 0, 1) := by decide +kernel
theorem dX6_schedules_102 : decode cX6_schedules 102 = .ok (.getfield 90, 3) := by decide +kernel
theorem dX6_schedules_105 : decode cX6_schedules 105 = .ok (.iconst 5, 1) := by decide +kernel
theorem dX6_schedules_106 : decode cX6_schedules 106 = .ok (.iload_n 1, 1) := by decide +kernel
theorem dX6_schedules_107 : decode cX6_schedules 107 = .ok (.imul, 1) := by decide +kernel
theorem dX6_schedules_108 : decode cX6_schedules 108 = .ok (.iload_n 3, 1) := by decide +kernel
theorem dX6_schedules_109 : decode cX6_schedules 109 = .ok (.iadd, 1) := by decide +kernel
theorem dX6_schedules_110 : decode cX6_schedules 110 = .ok (.laload, 1) := by decide +kernel
theorem dX6_schedules_111 : decode cX6_schedules 111 = .ok (.lsub, 1) := by decide +kernel
theorem dX6_schedules_112 : decode cX6_schedules 112 = .ok (.goto 4, 3) := by decide +kernel
theorem dX6_schedules_115 : decode cX6_schedules 115 = .ok (.lconst 0, 1) := by decide +kernel
theorem dX6_schedules_116 : decode cX6_schedules 116 = .ok (.lstore 6, 2) := by decide +kernel
theorem dX6_schedules_118 : decode cX6_schedules 118 = .ok (.iload 5, 2) := by decide +kernel
theorem dX6_schedules_120 : decode cX6_schedules 120 = .ok (.ifCond .eq 29, 3) := by decide +kernel
theorem dX6_schedules_123 : decode cX6_schedules 123 = .ok (.aload_n 0, 1) := by decide +kernel
theorem dX6_schedules_124 : decode cX6_schedules 124 = .ok (.getfield 90, 3) := by decide +kernel
theorem dX6_schedules_127 : decode cX6_schedules 127 = .ok (.iconst 5, 1) := by decide +kernel
theorem dX6_schedules_128 : decode cX6_schedules 128 = .ok (.iload_n 1, 1) := by decide +kernel
theorem dX6_schedules_129 : decode cX6_schedules 129 = .ok (.imul, 1) := by decide +kernel
theorem dX6_schedules_130 : decode cX6_schedules 130 = .ok (.iload_n 3, 1) := by decide +kernel
theorem dX6_schedules_131 : decode cX6_schedules 131 = .ok (.iadd, 1) := by decide +kernel
theorem dX6_schedules_132 : decode cX6_schedules 132 = .ok (.iconst 1, 1) := by decide +kernel
theorem dX6_schedules_133 : decode cX6_schedules 133 = .ok (.iadd, 1) := by decide +kernel
theorem dX6_schedules_134 : decode cX6_schedules 134 = .ok (.laload, 1) := by decide +kernel
theorem dX6_schedules_135 : decode cX6_schedules 135 = .ok (.aload_n 0, 1) := by decide +kernel
theorem dX6_schedules_136 : decode cX6_schedules 136 = .ok (.getfield 90, 3) := by decide +kernel
theorem dX6_schedules_139 : decode cX6_schedules 139 = .ok (.iconst 5, 1) := by decide +kernel
theorem dX6_schedules_140 : decode cX6_schedules 140 = .ok (.iload_n 1, 1) := by decide +kernel
theorem dX6_schedules_141 : decode cX6_schedules 141 = .ok (.imul, 1) := by decide +kernel
theorem dX6_schedules_142 : decode cX6_schedules 142 = .ok (.iload_n 3, 1) := by decide +kernel
theorem dX6_schedules_143 : decode cX6_schedules 143 = .ok (.iadd, 1) := by decide +kernel
theorem dX6_schedules_144 : decode cX6_schedules 144 = .ok (.laload, 1) := by decide +kernel
theorem dX6_schedules_145 : decode cX6_schedules 145 = .ok (.lsub, 1) := by decide +kernel
theorem dX6_schedules_146 : decode cX6_schedules 146 = .ok (.goto 4, 3) := by decide +kernel
theorem dX6_schedules_149 : decode cX6_schedules 149 = .ok (.lconst 1, 1) := by decide +kernel
theorem dX6_schedules_150 : decode cX6_schedules 150 = .ok (.lstore 8, 2) := by decide +kernel
theorem dX6_schedules_152 : decode cX6_schedules 152 = .ok (.iload 5, 2) := by decide +kernel
theorem dX6_schedules_154 : decode cX6_schedules 154 = .ok (.ifCond .eq 10, 3) := by decide +kernel
theorem dX6_schedules_157 : decode cX6_schedules 157 = .ok (.iload 4, 2) := by decide +kernel
theorem dX6_schedules_159 : decode cX6_schedules 159 = .ok (.iconst 3, 1) := by decide +kernel
theorem dX6_schedules_160 : decode cX6_schedules 160 = .ok (.iadd, 1) := by decide +kernel
theorem dX6_schedules_161 : decode cX6_schedules 161 = .ok (.goto 5, 3) := by decide +kernel
theorem dX6_schedules_164 : decode cX6_schedules 164 = .ok (.iload 4, 2) := by decide +kernel
theorem dX6_schedules_166 : decode cX6_schedules 166 = .ok (.istore 10, 2) := by decide +kernel
theorem dX6_schedules_168 : decode cX6_schedules 168 = .ok (.aload_n 0, 1) := by decide +kernel
theorem dX6_schedules_169 : decode cX6_schedules 169 = .ok (.iload_n 1, 1) := by decide +kernel
theorem dX6_schedules_170 : decode cX6_schedules 170 = .ok (.aload_n 0, 1) := by decide +kernel
theorem dX6_schedules_171 : decode cX6_schedules 171 = .ok (.getfield 93, 3) := by decide +kernel
theorem dX6_schedules_174 : decode cX6_schedules 174 = .ok (.iload 4, 2) := by decide +kernel
theorem dX6_schedules_176 : decode cX6_schedules 176 = .ok (.laload, 1) := by decide +kernel
theorem dX6_schedules_177 : decode cX6_schedules 177 = .ok (.aload_n 0, 1) := by decide +kernel
theorem dX6_schedules_178 : decode cX6_schedules 178 = .ok (.getfield 93, 3) := by decide +kernel
theorem dX6_schedules_181 : decode cX6_schedules 181 = .ok (.iload 10, 2) := by decide +kernel
theorem dX6_schedules_183 : decode cX6_schedules 183 = .ok (.laload, 1) := by decide +kernel
theorem dX6_schedules_184 : decode cX6_schedules 184 = .ok (.aload_n 0, 1) := by decide +kernel
theorem dX6_schedules_185 : decode cX6_schedules 185 = .ok (.getfield 93, 3) := by decide +kernel
theorem dX6_schedules_188 : decode cX6_schedules 188 = .ok (.iload 4, 2) := by decide +kernel
theorem dX6_schedules_190 : decode cX6_schedules 190 = .ok (.laload, 1) := by decide +kernel
theorem dX6_schedules_191 : decode cX6_schedules 191 = .ok (.lsub, 1) := by decide +kernel
theorem dX6_schedules_192 : decode cX6_schedules 192 = .ok (.lload 6, 2) := by decide +kernel
theorem dX6_schedules_194 : decode cX6_schedules 194 = .ok (.lmul, 1) := by decide +kernel
theorem dX6_schedules_195 : decode cX6_schedules 195 = .ok (.lload 8, 2) := by decide +kernel
theorem dX6_schedules_197 : decode cX6_schedules 197 = .ok (.invokestatic 182, 3) := by decide +kernel
theorem dX6_schedules_200 : decode cX6_schedules 200 = .ok (.ladd, 1) := by decide +kernel
theorem dX6_schedules_201 : decode cX6_schedules 201 = .ok (.aload_n 0, 1) := by decide +kernel
theorem dX6_schedules_202 : decode cX6_schedules 202 = .ok (.getfield 93, 3) := by decide +kernel
theorem dX6_schedules_205 : decode cX6_schedules 205 = .ok (.iload 4, 2) := by decide +kernel
theorem dX6_schedules_207 : decode cX6_schedules 207 = .ok (.iconst 1, 1) := by decide +kernel
theorem dX6_schedules_208 : decode cX6_schedules 208 = .ok (.iadd, 1) := by decide +kernel
theorem dX6_schedules_209 : decode cX6_schedules 209 = .ok (.laload, 1) := by decide +kernel
theorem dX6_schedules_210 : decode cX6_schedules 210 = .ok (.aload_n 0, 1) := by decide +kernel
theorem dX6_schedules_211 : decode cX6_schedules 211 = .ok (.getfield 93, 3) := by decide +kernel
theorem dX6_schedules_214 : decode cX6_schedules 214 = .ok (.iload 10, 2) := by decide +kernel
theorem dX6_schedules_216 : decode cX6_schedules 216 = .ok (.iconst 1, 1) := by decide +kernel
theorem dX6_schedules_217 : decode cX6_schedules 217 = .ok (.iadd, 1) := by decide +kernel
theorem dX6_schedules_218 : decode cX6_schedules 218 = .ok (.laload, 1) := by decide +kernel
theorem dX6_schedules_219 : decode cX6_schedules 219 = .ok (.aload_n 0, 1) := by decide +kernel
theorem dX6_schedules_220 : decode cX6_schedules 220 = .ok (.getfield 93, 3) := by decide +kernel
theorem dX6_schedules_223 : decode cX6_schedules 223 = .ok (.iload 4, 2) := by decide +kernel
theorem dX6_schedules_225 : decode cX6_schedules 225 = .ok (.iconst 1, 1) := by decide +kernel
theorem dX6_schedules_226 : decode cX6_schedules 226 = .ok (.iadd, 1) := by decide +kernel
theorem dX6_schedules_227 : decode cX6_schedules 227 = .ok (.laload, 1) := by decide +kernel
theorem dX6_schedules_228 : decode cX6_schedules 228 = .ok (.lsub, 1) := by decide +kernel
theorem dX6_schedules_229 : decode cX6_schedules 229 = .ok (.lload 6, 2) := by decide +kernel
theorem dX6_schedules_231 : decode cX6_schedules 231 = .ok (.lmul, 1) := by decide +kernel
theorem dX6_schedules_232 : decode cX6_schedules 232 = .ok (.lload 8, 2) := by decide +kernel
theorem dX6_schedules_234 : decode cX6_schedules 234 = .ok (.invokestatic 182, 3) := by decide +kernel
theorem dX6_schedules_237 : decode cX6_schedules 237 = .ok (.ladd, 1) := by decide +kernel
theorem dX6_schedules_238 : decode cX6_schedules 238 = .ok (.aload_n 0, 1) := by decide +kernel
theorem dX6_schedules_239 : decode cX6_schedules 239 = .ok (.getfield 93, 3) := by decide +kernel
theorem dX6_schedules_242 : decode cX6_schedules 242 = .ok (.iload 4, 2) := by decide +kernel
theorem dX6_schedules_244 : decode cX6_schedules 244 = .ok (.iconst 2, 1) := by decide +kernel
theorem dX6_schedules_245 : decode cX6_schedules 245 = .ok (.iadd, 1) := by decide +kernel
theorem dX6_schedules_246 : decode cX6_schedules 246 = .ok (.laload, 1) := by decide +kernel
theorem dX6_schedules_247 : decode cX6_schedules 247 = .ok (.aload_n 0, 1) := by decide +kernel
theorem dX6_schedules_248 : decode cX6_schedules 248 = .ok (.getfield 93, 3) := by decide +kernel
theorem dX6_schedules_251 : decode cX6_schedules 251 = .ok (.iload 10, 2) := by decide +kernel
theorem dX6_schedules_253 : decode cX6_schedules 253 = .ok (.iconst 2, 1) := by decide +kernel
theorem dX6_schedules_254 : decode cX6_schedules 254 = .ok (.iadd, 1) := by decide +kernel
theorem dX6_schedules_255 : decode cX6_schedules 255 = .ok (.laload, 1) := by decide +kernel
theorem dX6_schedules_256 : decode cX6_schedules 256 = .ok (.aload_n 0, 1) := by decide +kernel
theorem dX6_schedules_257 : decode cX6_schedules 257 = .ok (.getfield 93, 3) := by decide +kernel
theorem dX6_schedules_260 : decode cX6_schedules 260 = .ok (.iload 4, 2) := by decide +kernel
theorem dX6_schedules_262 : decode cX6_schedules 262 = .ok (.iconst 2, 1) := by decide +kernel
theorem dX6_schedules_263 : decode cX6_schedules 263 = .ok (.iadd, 1) := by decide +kernel
theorem dX6_schedules_264 : decode cX6_schedules 264 = .ok (.laload, 1) := by decide +kernel
theorem dX6_schedules_265 : decode cX6_schedules 265 = .ok (.lsub, 1) := by decide +kernel
theorem dX6_schedules_266 : decode cX6_schedules 266 = .ok (.lload 6, 2) := by decide +kernel
theorem dX6_schedules_268 : decode cX6_schedules 268 = .ok (.lmul, 1) := by decide +kernel
theorem dX6_schedules_269 : decode cX6_schedules 269 = .ok (.lload 8, 2) := by decide +kernel
theorem dX6_schedules_271 : decode cX6_schedules 271 = .ok (.invokestatic 182, 3) := by decide +kernel
theorem dX6_schedules_274 : decode cX6_schedules 274 = .ok (.ladd, 1) := by decide +kernel
theorem dX6_schedules_275 : decode cX6_schedules 275 = .ok (.invokevirtual 169, 3) := by decide +kernel
theorem dX6_schedules_278 : decode cX6_schedules 278 = .ok (.return_, 1) := by decide +kernel
set_option maxRecDepth 20000 in
theorem ggX6_controls_X6_schedules : GoodIn wsX6_controls wsX6_schedules := goodIn_r _ [17, 18, 19, 20, 21, 22, 23, 16, 24, 25, 26, 27, 28, 2, 1, 29, 30, 31, 32, 33, 34, 35, 36, 37, 38, 42, 43, 44, 45, 46, 47, 48, 49, 50, 51, 52, 53, 54, 55, 56, 57, 58, 59, 60, 61, 62, 63, 64, 65, 66, 67, 68, 69, 70, 71, 72, 73, 74, 75, 76, 77, 78, 79, 80, 81, 82, 83] (by decide +kernel) (by decide +kernel)
set_option maxRecDepth 20000 in
theorem gX6_controls_X6_schedules : GoodIn wsX6_controls (wsV RX6 186 RX6 yX6_schedules wsX6_schedules) := goodIn_app (goodIn_of _ (by decide +kernel)) ggX6_controls_X6_schedules
set_option maxRecDepth 20000 in
theorem ggX6_controls_X6_error : GoodIn wsX6_controls wsX6_error := goodIn_r _ [32, 33, 20, 42, 43, 44, 45, 46, 47, 48, 49, 50, 51, 52, 53, 54, 55, 56, 57, 58, 59, 60, 61, 62, 63, 64, 65, 66, 67, 68, 69, 70, 71, 72, 73, 74, 75, 76, 77, 78, 79, 80, 81, 82, 83] (by decide +kernel) (by decide +kernel)
set_option maxRecDepth 20000 in
theorem gX6_controls_X6_error : GoodIn wsX6_controls (wsV RX6 159 RX6 yX6_error wsX6_error) := goodIn_app (goodIn_of _ (by decide +kernel)) ggX6_controls_X6_error
set_option maxRecDepth 20000 in
theorem ggX6_controls_X6_rate : GoodIn wsX6_controls wsX6_rate := goodIn_r _ [37, 38, 20, 42, 43, 44, 45, 46, 47, 48, 49, 50, 51, 52, 53, 54, 55, 56, 57, 58, 59, 60, 61, 62, 63, 64, 65, 66, 67, 68, 69, 70, 71, 72, 73, 74, 75, 76, 77, 78, 79, 80, 81, 82, 83] (by decide +kernel) (by decide +kernel)
set_option maxRecDepth 20000 in
theorem gX6_controls_X6_rate : GoodIn wsX6_controls (wsV RX6 163 RX6 yX6_rate wsX6_rate) := goodIn_app (goodIn_of _ (by decide +kernel)) ggX6_controls_X6_rate
set_option maxRecDepth 20000 in
theorem ggX6_controls_X6_floor : GoodIn wsX6_controls wsX6_floor := goodIn_r _ [24] (by decide +kernel) (by decide +kernel)
set_option maxRecDepth 20000 in
theorem gX6_controls_X6_floor : GoodIn wsX6_controls (va_wsS RX6 182 yX6_floor wsX6_floor) := goodIn_app (goodIn_of _ (by decide +kernel)) ggX6_controls_X6_floor
set_option maxRecDepth 20000 in
theorem ggX6_controls_X6_within : GoodIn wsX6_controls wsX6_within := goodIn_r _ [41] (by decide +kernel) (by decide +kernel)
set_option maxRecDepth 20000 in
theorem gX6_controls_X6_within : GoodIn wsX6_controls (va_wsS RX6 190 yX6_within wsX6_within) := goodIn_app (goodIn_of _ (by decide +kernel)) ggX6_controls_X6_within
theorem dX6_controls_0 : decode cX6_controls 0 = .ok (.aload_n 0, 1) := by decide +kernel
theorem dX6_controls_1 : decode cX6_controls 1 = .ok (.iload_n 1, 1) := by decide +kernel
theorem dX6_controls_2 : decode cX6_controls 2 = .ok (.invokevirtual 186, 3) := by decide +kernel
theorem dX6_controls_5 : decode cX6_controls 5 = .ok (.aload_n 0, 1) := by decide +kernel
theorem dX6_controls_6 : decode cX6_controls 6 = .ok (.iload_n 1, 1) := by decide +kernel
theorem dX6_controls_7 : decode cX6_controls 7 = .ok (.invokevirtual 159, 3) := by decide +kernel
theorem dX6_controls_10 : decode cX6_controls 10 = .ok (.lstore_n 2, 1) := by decide +kernel
theorem dX6_controls_11 : decode cX6_controls 11 = .ok (.aload_n 0, 1) := by decide +kernel
theorem dX6_controls_12 : decode cX6_controls 12 = .ok (.iload_n 1, 1) := by decide +kernel
theorem dX6_controls_13 : decode cX6_controls 13 = .ok (.invokevirtual 163, 3) := by decide +kernel
theorem dX6_controls_16 : decode cX6_controls 16 = .ok (.lstore 4, 2) := by decide +kernel
theorem dX6_controls_18 : decode cX6_controls 18 = .ok (.aload_n 0, 1) := by decide +kernel
theorem dX6_controls_19 : decode cX6_controls 19 = .ok (.getfield 35, 3) := by decide +kernel
theorem dX6_controls_22 : decode cX6_controls 22 = .ok (.iconst 3, 1) := by decide +kernel
theorem dX6_controls_23 : decode cX6_controls 23 = .ok (.iload_n 1, 1) := by decide +kernel
theorem dX6_controls_24 : decode cX6_controls 24 = .ok (.imul, 1) := by decide +kernel
theorem dX6_controls_25 : decode cX6_controls 25 = .ok (.laload, 1) := by decide +kernel
theorem dX6_controls_26 : decode cX6_controls 26 = .ok (.lstore 6, 2) := by decide +kernel
theorem dX6_controls_28 : decode cX6_controls 28 = .ok (.aload_n 0, 1) := by decide +kernel
theorem dX6_controls_29 : decode cX6_controls 29 = .ok (.getfield 35, 3) := by decide +kernel
theorem dX6_controls_32 : decode cX6_controls 32 = .ok (.iconst 3, 1) := by decide +kernel
theorem dX6_controls_33 : decode cX6_controls 33 = .ok (.iload_n 1, 1) := by decide +kernel
theorem dX6_controls_34 : decode cX6_controls 34 = .ok (.imul, 1) := by decide +kernel
theorem dX6_controls_35 : decode cX6_controls 35 = .ok (.iconst 1, 1) := by decide +kernel
theorem dX6_controls_36 : decode cX6_controls 36 = .ok (.iadd, 1) := by decide +kernel
theorem dX6_controls_37 : decode cX6_controls 37 = .ok (.laload, 1) := by decide +kernel
theorem dX6_controls_38 : decode cX6_controls 38 = .ok (.lstore 8, 2) := by decide +kernel
theorem dX6_controls_40 : decode cX6_controls 40 = .ok (.aload_n 0, 1) := by decide +kernel
theorem dX6_controls_41 : decode cX6_controls 41 = .ok (.getfield 35, 3) := by decide +kernel
theorem dX6_controls_44 : decode cX6_controls 44 = .ok (.iconst 3, 1) := by decide +kernel
theorem dX6_controls_45 : decode cX6_controls 45 = .ok (.iload_n 1, 1) := by decide +kernel
theorem dX6_controls_46 : decode cX6_controls 46 = .ok (.imul, 1) := by decide +kernel
theorem dX6_controls_47 : decode cX6_controls 47 = .ok (.iconst 2, 1) := by decide +kernel
theorem dX6_controls_48 : decode cX6_controls 48 = .ok (.iadd, 1) := by decide +kernel
theorem dX6_controls_49 : decode cX6_controls 49 = .ok (.laload, 1) := by decide +kernel
theorem dX6_controls_50 : decode cX6_controls 50 = .ok (.lstore 10, 2) := by decide +kernel
theorem dX6_controls_52 : decode cX6_controls 52 = .ok (.aload_n 0, 1) := by decide +kernel
theorem dX6_controls_53 : decode cX6_controls 53 = .ok (.getfield 47, 3) := by decide +kernel
theorem dX6_controls_56 : decode cX6_controls 56 = .ok (.iload_n 1, 1) := by decide +kernel
theorem dX6_controls_57 : decode cX6_controls 57 = .ok (.dup2, 1) := by decide +kernel
theorem dX6_controls_58 : decode cX6_controls 58 = .ok (.laload, 1) := by decide +kernel
theorem dX6_controls_59 : decode cX6_controls 59 = .ok (.lload 8, 2) := by decide +kernel
theorem dX6_controls_61 : decode cX6_controls 61 = .ok (.lload_n 2, 1) := by decide +kernel
theorem dX6_controls_62 : decode cX6_controls 62 = .ok (.lmul, 1) := by decide +kernel
theorem dX6_controls_63 : decode cX6_controls 63 = .ok (.ladd, 1) := by decide +kernel
theorem dX6_controls_64 : decode cX6_controls 64 = .ok (.lastore, 1) := by decide +kernel
theorem dX6_controls_65 : decode cX6_controls 65 = .ok (.lload 6, 2) := by decide +kernel
theorem dX6_controls_67 : decode cX6_controls 67 = .ok (.lload_n 2, 1) := by decide +kernel
theorem dX6_controls_68 : decode cX6_controls 68 = .ok (.lmul, 1) := by decide +kernel
theorem dX6_controls_69 : decode cX6_controls 69 = .ok (.aload_n 0, 1) := by decide +kernel
theorem dX6_controls_70 : decode cX6_controls 70 = .ok (.getfield 47, 3) := by decide +kernel
theorem dX6_controls_73 : decode cX6_controls 73 = .ok (.iload_n 1, 1) := by decide +kernel
theorem dX6_controls_74 : decode cX6_controls 74 = .ok (.laload, 1) := by decide +kernel
theorem dX6_controls_75 : decode cX6_controls 75 = .ok (.ladd, 1) := by decide +kernel
theorem dX6_controls_76 : decode cX6_controls 76 = .ok (.lload 10, 2) := by decide +kernel
theorem dX6_controls_78 : decode cX6_controls 78 = .ok (.lload 4, 2) := by decide +kernel
theorem dX6_controls_80 : decode cX6_controls 80 = .ok (.lmul, 1) := by decide +kernel
theorem dX6_controls_81 : decode cX6_controls 81 = .ok (.ladd, 1) := by decide +kernel
theorem dX6_controls_82 : decode cX6_controls 82 = .ok (.lstore 12, 2) := by decide +kernel
theorem dX6_controls_84 : decode cX6_controls 84 = .ok (.lload 12, 2) := by decide +kernel
theorem dX6_controls_86 : decode cX6_controls 86 = .ok (.ldc2_w 136, 3) := by decide +kernel
theorem dX6_controls_89 : decode cX6_controls 89 = .ok (.invokestatic 182, 3) := by decide +kernel
theorem dX6_controls_92 : decode cX6_controls 92 = .ok (.lstore 14, 2) := by decide +kernel
theorem dX6_controls_94 : decode cX6_controls 94 = .ok (.lload 14, 2) := by decide +kernel
theorem dX6_controls_96 : decode cX6_controls 96 = .ok (.aload_n 0, 1) := by decide +kernel
theorem dX6_controls_97 : decode cX6_controls 97 = .ok (.getfield 38, 3) := by decide +kernel
theorem dX6_controls_100 : decode cX6_controls 100 = .ok (.iload_n 1, 1) := by decide +kernel
theorem dX6_controls_101 : decode cX6_controls 101 = .ok (.laload, 1) := by decide +kernel
theorem dX6_controls_102 : decode cX6_controls 102 = .ok (.aload_n 0, 1) := by decide +kernel
theorem dX6_controls_103 : decode cX6_controls 103 = .ok (.getfield 41, 3) := by decide +kernel
theorem dX6_controls_106 : decode cX6_controls 106 = .ok (.iload_n 1, 1) := by decide +kernel
theorem dX6_controls_107 : decode cX6_controls 107 = .ok (.laload, 1) := by decide +kernel
theorem dX6_controls_108 : decode cX6_controls 108 = .ok (.invokestatic 190, 3) := by decide +kernel
theorem dX6_controls_111 : decode cX6_controls 111 = .ok (.lstore 16, 2) := by decide +kernel
theorem dX6_controls_113 : decode cX6_controls 113 = .ok (.aload_n 0, 1) := by decide +kernel
theorem dX6_controls_114 : decode cX6_controls 114 = .ok (.getfield 50, 3) := by decide +kernel
theorem dX6_controls_117 : decode cX6_controls 117 = .ok (.iload_n 1, 1) := by decide +kernel
theorem dX6_controls_118 : decode cX6_controls 118 = .ok (.iaload, 1) := by decide +kernel
theorem dX6_controls_119 : decode cX6_controls 119 = .ok (.iconst 1, 1) := by decide +kernel
theorem dX6_controls_120 : decode cX6_controls 120 = .ok (.if_icmp .ne 52, 3) := by decide +kernel
theorem dX6_controls_123 : decode cX6_controls 123 = .ok (.lload 14, 2) := by decide +kernel
theorem dX6_controls_125 : decode cX6_controls 125 = .ok (.aload_n 0, 1) := by decide +kernel
theorem dX6_controls_126 : decode cX6_controls 126 = .ok (.getfield 41, 3) := by decide +kernel
theorem dX6_controls_129 : decode cX6_controls 129 = .ok (.iload_n 1, 1) := by decide +kernel
theorem dX6_controls_130 : decode cX6_controls 130 = .ok (.laload, 1) := by decide +kernel
theorem dX6_controls_131 : decode cX6_controls 131 = .ok (.lcmp, 1) := by decide +kernel
theorem dX6_controls_132 : decode cX6_controls 132 = .ok (.ifCond .le 9, 3) := by decide +kernel
theorem dX6_controls_135 : decode cX6_controls 135 = .ok (.lload_n 2, 1) := by decide +kernel
theorem dX6_controls_136 : decode cX6_controls 136 = .ok (.lconst 0, 1) := by decide +kernel
theorem dX6_controls_137 : decode cX6_controls 137 = .ok (.lcmp, 1) := by decide +kernel
theorem dX6_controls_138 : decode cX6_controls 138 = .ok (.ifCond .gt 21, 3) := by decide +kernel
theorem dX6_controls_141 : decode cX6_controls 141 = .ok (.lload 14, 2) := by decide +kernel
theorem dX6_controls_143 : decode cX6_controls 143 = .ok (.aload_n 0, 1) := by decide +kernel
theorem dX6_controls_144 : decode cX6_controls 144 = .ok (.getfield 38, 3) := by decide +kernel
theorem dX6_controls_147 : decode cX6_controls 147 = .ok (.iload_n 1, 1) := by decide +kernel
theorem dX6_controls_148 : decode cX6_controls 148 = .ok (.laload, 1) := by decide +kernel
theorem dX6_controls_149 : decode cX6_controls 149 = .ok (.lcmp, 1) := by decide +kernel
theorem dX6_controls_150 : decode cX6_controls 150 = .ok (.ifCond .ge 22, 3) := by decide +kernel
theorem dX6_controls_153 : decode cX6_controls 153 = .ok (.lload_n 2, 1) := by decide +kernel
theorem dX6_controls_154 : decode cX6_controls 154 = .ok (.lconst 0, 1) := by decide +kernel
theorem dX6_controls_155 : decode cX6_controls 155 = .ok (.lcmp, 1) := by decide +kernel
theorem dX6_controls_156 : decode cX6_controls 156 = .ok (.ifCond .ge 16, 3) := by decide +kernel
theorem dX6_controls_159 : decode cX6_controls 159 = .ok (.aload_n 0, 1) := by decide +kernel
theorem dX6_controls_160 : decode cX6_controls 160 = .ok (.getfield 47, 3) := by decide +kernel
theorem dX6_controls_163 : decode cX6_controls 163 = .ok (.iload_n 1, 1) := by decide +kernel
theorem dX6_controls_164 : decode cX6_controls 164 = .ok (.dup2, 1) := by decide +kernel
theorem dX6_controls_165 : decode cX6_controls 165 = .ok (.laload, 1) := by decide +kernel
theorem dX6_controls_166 : decode cX6_controls 166 = .ok (.lload 8, 2) := by decide +kernel
theorem dX6_controls_168 : decode cX6_controls 168 = .ok (.lload_n 2, 1) := by decide +kernel
theorem dX6_controls_169 : decode cX6_controls 169 = .ok (.lmul, 1) := by decide +kernel
theorem dX6_controls_170 : decode cX6_controls 170 = .ok (.lsub, 1) := by decide +kernel
theorem dX6_controls_171 : decode cX6_controls 171 = .ok (.lastore, 1) := by decide +kernel
theorem dX6_controls_172 : decode cX6_controls 172 = .ok (.aload_n 0, 1) := by decide +kernel
theorem dX6_controls_173 : decode cX6_controls 173 = .ok (.getfield 50, 3) := by decide +kernel
theorem dX6_controls_176 : decode cX6_controls 176 = .ok (.iload_n 1, 1) := by decide +kernel
theorem dX6_controls_177 : decode cX6_controls 177 = .ok (.iaload, 1) := by decide +kernel
theorem dX6_controls_178 : decode cX6_controls 178 = .ok (.iconst 2, 1) := by decide +kernel
theorem dX6_controls_179 : decode cX6_controls 179 = .ok (.if_icmp .ne 25, 3) := by decide +kernel
theorem dX6_controls_182 : decode cX6_controls 182 = .ok (.aload_n 0, 1) := by decide +kernel
theorem dX6_controls_183 : decode cX6_controls 183 = .ok (.getfield 47, 3) := by decide +kernel
theorem dX6_controls_186 : decode cX6_controls 186 = .ok (.iload_n 1, 1) := by decide +kernel
theorem dX6_controls_187 : decode cX6_controls 187 = .ok (.dup2, 1) := by decide +kernel
theorem dX6_controls_188 : decode cX6_controls 188 = .ok (.laload, 1) := by decide +kernel
theorem dX6_controls_189 : decode cX6_controls 189 = .ok (.aload_n 0, 1) := by decide +kernel
theorem dX6_controls_190 : decode cX6_controls 190 = .ok (.getfield 53, 3) := by decide +kernel
theorem dX6_controls_193 : decode cX6_controls 193 = .ok (.iload_n 1, 1) := by decide +kernel
theorem dX6_controls_194 : decode cX6_controls 194 = .ok (.iaload, 1) := by decide +kernel
theorem dX6_controls_195 : decode cX6_controls 195 = .ok (.i2l, 1) := by decide +kernel
theorem dX6_controls_196 : decode cX6_controls 196 = .ok (.lload 16, 2) := by decide +kernel
theorem dX6_controls_198 : decode cX6_controls 198 = .ok (.lload 14, 2) := by decide +kernel
theorem dX6_controls_200 : decode cX6_controls 200 = .ok (.lsub, 1) := by decide +kernel
theorem dX6_controls_201 : decode cX6_controls 201 = .ok (.lmul, 1) := by decide +kernel
theorem dX6_controls_202 : decode cX6_controls 202 = .ok (.ladd, 1) := by decide +kernel
theorem dX6_controls_203 : decode cX6_controls 203 = .ok (.lastore, 1) := by decide +kernel
theorem dX6_controls_204 : decode cX6_controls 204 = .ok (.aload_n 0, 1) := by decide +kernel
theorem dX6_controls_205 : decode cX6_controls 205 = .ok (.getfield 75, 3) := by decide +kernel
theorem dX6_controls_208 : decode cX6_controls 208 = .ok (.iload_n 1, 1) := by decide +kernel
theorem dX6_controls_209 : decode cX6_controls 209 = .ok (.aload_n 0, 1) := by decide +kernel
theorem dX6_controls_210 : decode cX6_controls 210 = .ok (.getfield 84, 3) := by decide +kernel
theorem dX6_controls_213 : decode cX6_controls 213 = .ok (.iload_n 1, 1) := by decide +kernel
theorem dX6_controls_214 : decode cX6_controls 214 = .ok (.baload, 1) := by decide +kernel
theorem dX6_controls_215 : decode cX6_controls 215 = .ok (.ifCond .eq 42, 3) := by decide +kernel
theorem dX6_controls_218 : decode cX6_controls 218 = .ok (.aload_n 0, 1) := by decide +kernel
theorem dX6_controls_219 : decode cX6_controls 219 = .ok (.getfield 75, 3) := by decide +kernel
theorem dX6_controls_222 : decode cX6_controls 222 = .ok (.iload_n 1, 1) := by decide +kernel
theorem dX6_controls_223 : decode cX6_controls 223 = .ok (.laload, 1) := by decide +kernel
theorem dX6_controls_224 : decode cX6_controls 224 = .ok (.lload 6, 2) := by decide +kernel
theorem dX6_controls_226 : decode cX6_controls 226 = .ok (.lload_n 2, 1) := by decide +kernel
theorem dX6_controls_227 : decode cX6_controls 227 = .ok (.aload_n 0, 1) := by decide +kernel
theorem dX6_controls_228 : decode cX6_controls 228 = .ok (.getfield 78, 3) := by decide +kernel
theorem dX6_controls_231 : decode cX6_controls 231 = .ok (.iload_n 1, 1) := by decide +kernel
theorem dX6_controls_232 : decode cX6_controls 232 = .ok (.laload, 1) := by decide +kernel
theorem dX6_controls_233 : decode cX6_controls 233 = .ok (.lsub, 1) := by decide +kernel
theorem dX6_controls_234 : decode cX6_controls 234 = .ok (.lmul, 1) := by decide +kernel
theorem dX6_controls_235 : decode cX6_controls 235 = .ok (.ladd, 1) := by decide +kernel
theorem dX6_controls_236 : decode cX6_controls 236 = .ok (.lload 8, 2) := by decide +kernel
theorem dX6_controls_238 : decode cX6_controls 238 = .ok (.lload_n 2, 1) := by decide +kernel
theorem dX6_controls_239 : decode cX6_controls 239 = .ok (.lmul, 1) := by decide +kernel
theorem dX6_controls_240 : decode cX6_controls 240 = .ok (.ladd, 1) := by decide +kernel
theorem dX6_controls_241 : decode cX6_controls 241 = .ok (.lload 10, 2) := by decide +kernel
theorem dX6_controls_243 : decode cX6_controls 243 = .ok (.lload 4, 2) := by decide +kernel
theorem dX6_controls_245 : decode cX6_controls 245 = .ok (.aload_n 0, 1) := by decide +kernel
theorem dX6_controls_246 : decode cX6_controls 246 = .ok (.getfield 81, 3) := by decide +kernel
theorem dX6_controls_249 : decode cX6_controls 249 = .ok (.iload_n 1, 1) := by decide +kernel
theorem dX6_controls_250 : decode cX6_controls 250 = .ok (.laload, 1) := by decide +kernel
theorem dX6_controls_251 : decode cX6_controls 251 = .ok (.lsub, 1) := by decide +kernel
theorem dX6_controls_252 : decode cX6_controls 252 = .ok (.lmul, 1) := by decide +kernel
theorem dX6_controls_253 : decode cX6_controls 253 = .ok (.ladd, 1) := by decide +kernel
theorem dX6_controls_254 : decode cX6_controls 254 = .ok (.goto 5, 3) := by decide +kernel
theorem dX6_controls_257 : decode cX6_controls 257 = .ok (.lload 12, 2) := by decide +kernel
theorem dX6_controls_259 : decode cX6_controls 259 = .ok (.lastore, 1) := by decide +kernel
theorem dX6_controls_260 : decode cX6_controls 260 = .ok (.aload_n 0, 1) := by decide +kernel
theorem dX6_controls_261 : decode cX6_controls 261 = .ok (.getfield 78, 3) := by decide +kernel
theorem dX6_controls_264 : decode cX6_controls 264 = .ok (.iload_n 1, 1) := by decide +kernel
theorem dX6_controls_265 : decode cX6_controls 265 = .ok (.lload_n 2, 1) := by decide +kernel
theorem dX6_controls_266 : decode cX6_controls 266 = .ok (.lastore, 1) := by decide +kernel
theorem dX6_controls_267 : decode cX6_controls 267 = .ok (.aload_n 0, 1) := by decide +kernel
theorem dX6_controls_268 : decode cX6_controls 268 = .ok (.getfield 81, 3) := by decide +kernel
theorem dX6_controls_271 : decode cX6_controls 271 = .ok (.iload_n 1, 1) := by decide +kernel
theorem dX6_controls_272 : decode cX6_controls 272 = .ok (.lload 4, 2) := by decide +kernel
theorem dX6_controls_274 : decode cX6_controls 274 = .ok (.lastore, 1) := by decide +kernel
theorem dX6_controls_275 : decode cX6_controls 275 = .ok (.aload_n 0, 1) := by decide +kernel
theorem dX6_controls_276 : decode cX6_controls 276 = .ok (.getfield 84, 3) := by decide +kernel
theorem dX6_controls_279 : decode cX6_controls 279 = .ok (.iload_n 1, 1) := by decide +kernel
theorem dX6_controls_280 : decode cX6_controls 280 = .ok (.iconst 1, 1) := by decide +kernel
theorem dX6_controls_281 : decode cX6_controls 281 = .ok (.bastore, 1) := by decide +kernel
theorem dX6_controls_282 : decode cX6_controls 282 = .ok (.aload_n 0, 1) := by decide +kernel
theorem dX6_controls_283 : decode cX6_controls 283 = .ok (.getfield 72, 3) := by decide +kernel
theorem dX6_controls_286 : decode cX6_controls 286 = .ok (.iload_n 1, 1) := by decide +kernel
theorem dX6_controls_287 : decode cX6_controls 287 = .ok (.dup2, 1) := by decide +kernel
theorem dX6_controls_288 : decode cX6_controls 288 = .ok (.iaload, 1) := by decide +kernel
theorem dX6_controls_289 : decode cX6_controls 289 = .ok (.lload 16, 2) := by decide +kernel
theorem dX6_controls_291 : decode cX6_controls 291 = .ok (.lload 14, 2) := by decide +kernel
theorem dX6_controls_293 : decode cX6_controls 293 = .ok (.lcmp, 1) := by decide +kernel
theorem dX6_controls_294 : decode cX6_controls 294 = .ok (.ifCond .ne 7, 3) := by decide +kernel
theorem dX6_controls_297 : decode cX6_controls 297 = .ok (.iconst 0, 1) := by decide +kernel
theorem dX6_controls_298 : decode cX6_controls 298 = .ok (.goto 4, 3) := by decide +kernel
theorem dX6_controls_301 : decode cX6_controls 301 = .ok (.iconst 1, 1) := by decide +kernel
theorem dX6_controls_302 : decode cX6_controls 302 = .ok (.iadd, 1) := by decide +kernel
theorem dX6_controls_303 : decode cX6_controls 303 = .ok (.iastore, 1) := by decide +kernel
theorem dX6_controls_304 : decode cX6_controls 304 = .ok (.lload 16, 2) := by decide +kernel
theorem dX6_controls_306 : decode cX6_controls 306 = .ok (.lreturn, 1) := by decide +kernel
set_option maxRecDepth 20000 in
theorem ggX6_relays_X6_error : GoodIn wsX6_relays wsX6_error := goodIn_r _ [21, 22, 11, 39, 40, 41, 42, 43, 44, 45, 46, 47, 48, 49, 50, 51, 52, 53, 54, 55, 56, 57, 58, 59, 60, 61, 62, 63, 64, 65, 66, 67, 68, 69, 70, 71, 72, 73, 74, 75, 76, 77, 78, 79, 80] (by decide +kernel) (by decide +kernel)
set_option maxRecDepth 20000 in
theorem gX6_relays_X6_error : GoodIn wsX6_relays (wsV RX6 159 RX6 yX6_error wsX6_error) := goodIn_app (goodIn_of _ (by decide +kernel)) ggX6_relays_X6_error
set_option maxRecDepth 20000 in
theorem ggX6_relays_X6_settle : GoodIn wsX6_relays wsX6_settle := goodIn_r _ [26, 27, 28, 29, 30, 17, 18, 19, 20, 21, 22, 11, 31, 32, 33, 34, 35, 39, 40, 41, 42, 43, 44, 45, 46, 47, 48, 49, 50, 51, 52, 53, 54, 55, 56, 57, 58, 59, 60, 61, 62, 63, 64, 65, 66, 67, 68, 69, 70, 71, 72, 73, 74, 75, 76, 77, 78, 79, 80] (by decide +kernel) (by decide +kernel)
set_option maxRecDepth 20000 in
theorem gX6_relays_X6_settle : GoodIn wsX6_relays (wsV RX6 178 RX6 yX6_settle wsX6_settle) := goodIn_app (goodIn_of _ (by decide +kernel)) ggX6_relays_X6_settle
set_option maxRecDepth 20000 in
theorem ggX6_relays_X6_within : GoodIn wsX6_relays wsX6_within := goodIn_r _ [38] (by decide +kernel) (by decide +kernel)
set_option maxRecDepth 20000 in
theorem gX6_relays_X6_within : GoodIn wsX6_relays (va_wsS RX6 190 yX6_within wsX6_within) := goodIn_app (goodIn_of _ (by decide +kernel)) ggX6_relays_X6_within
theorem dX6_relays_0 : decode cX6_relays 0 = .ok (.aload_n 0, 1) := by decide +kernel
theorem dX6_relays_1 : decode cX6_relays 1 = .ok (.iload_n 1, 1) := by decide +kernel
theorem dX6_relays_2 : decode cX6_relays 2 = .ok (.invokevirtual 159, 3) := by decide +kernel
theorem dX6_relays_5 : decode cX6_relays 5 = .ok (.lstore_n 2, 1) := by decide +kernel
theorem dX6_relays_6 : decode cX6_relays 6 = .ok (.aload_n 0, 1) := by decide +kernel
theorem dX6_relays_7 : decode cX6_relays 7 = .ok (.getfield 108, 3) := by decide +kernel
theorem dX6_relays_10 : decode cX6_relays 10 = .ok (.iload_n 1, 1) := by decide +kernel
theorem dX6_relays_11 : decode cX6_relays 11 = .ok (.baload, 1) := by decide +kernel
theorem dX6_relays_12 : decode cX6_relays 12 = .ok (.istore 4, 2) := by decide +kernel
theorem dX6_relays_14 : decode cX6_relays 14 = .ok (.aload_n 0, 1) := by decide +kernel
theorem dX6_relays_15 : decode cX6_relays 15 = .ok (.getfield 108, 3) := by decide +kernel
theorem dX6_relays_18 : decode cX6_relays 18 = .ok (.iload_n 1, 1) := by decide +kernel
theorem dX6_relays_19 : decode cX6_relays 19 = .ok (.lload_n 2, 1) := by decide +kernel
theorem dX6_relays_20 : decode cX6_relays 20 = .ok (.aload_n 0, 1) := by decide +kernel
theorem dX6_relays_21 : decode cX6_relays 21 = .ok (.getfield 105, 3) := by decide +kernel
theorem dX6_relays_24 : decode cX6_relays 24 = .ok (.iload_n 1, 1) := by decide +kernel
theorem dX6_relays_25 : decode cX6_relays 25 = .ok (.iaload, 1) := by decide +kernel
theorem dX6_relays_26 : decode cX6_relays 26 = .ok (.i2l, 1) := by decide +kernel
theorem dX6_relays_27 : decode cX6_relays 27 = .ok (.lcmp, 1) := by decide +kernel
theorem dX6_relays_28 : decode cX6_relays 28 = .ok (.ifCond .gt 21, 3) := by decide +kernel
theorem dX6_relays_31 : decode cX6_relays 31 = .ok (.lload_n 2, 1) := by decide +kernel
theorem dX6_relays_32 : decode cX6_relays 32 = .ok (.aload_n 0, 1) := by decide +kernel
theorem dX6_relays_33 : decode cX6_relays 33 = .ok (.getfield 105, 3) := by decide +kernel
theorem dX6_relays_36 : decode cX6_relays 36 = .ok (.iload_n 1, 1) := by decide +kernel
theorem dX6_relays_37 : decode cX6_relays 37 = .ok (.iaload, 1) := by decide +kernel
theorem dX6_relays_38 : decode cX6_relays 38 = .ok (.ineg, 1) := by decide +kernel
theorem dX6_relays_39 : decode cX6_relays 39 = .ok (.i2l, 1) := by decide +kernel
theorem dX6_relays_40 : decode cX6_relays 40 = .ok (.lcmp, 1) := by decide +kernel
theorem dX6_relays_41 : decode cX6_relays 41 = .ok (.ifCond .lt 12, 3) := by decide +kernel
theorem dX6_relays_44 : decode cX6_relays 44 = .ok (.iload 4, 2) := by decide +kernel
theorem dX6_relays_46 : decode cX6_relays 46 = .ok (.ifCond .eq 7, 3) := by decide +kernel
theorem dX6_relays_49 : decode cX6_relays 49 = .ok (.iconst 1, 1) := by decide +kernel
theorem dX6_relays_50 : decode cX6_relays 50 = .ok (.goto 4, 3) := by decide +kernel
theorem dX6_relays_53 : decode cX6_relays 53 = .ok (.iconst 0, 1) := by decide +kernel
theorem dX6_relays_54 : decode cX6_relays 54 = .ok (.bastore, 1) := by decide +kernel
theorem dX6_relays_55 : decode cX6_relays 55 = .ok (.aload_n 0, 1) := by decide +kernel
theorem dX6_relays_56 : decode cX6_relays 56 = .ok (.getfield 111, 3) := by decide +kernel
theorem dX6_relays_59 : decode cX6_relays 59 = .ok (.iload_n 1, 1) := by decide +kernel
theorem dX6_relays_60 : decode cX6_relays 60 = .ok (.dup2, 1) := by decide +kernel
theorem dX6_relays_61 : decode cX6_relays 61 = .ok (.iaload, 1) := by decide +kernel
theorem dX6_relays_62 : decode cX6_relays 62 = .ok (.iconst 1, 1) := by decide +kernel
theorem dX6_relays_63 : decode cX6_relays 63 = .ok (.iadd, 1) := by decide +kernel
theorem dX6_relays_64 : decode cX6_relays 64 = .ok (.iastore, 1) := by decide +kernel
theorem dX6_relays_65 : decode cX6_relays 65 = .ok (.aload_n 0, 1) := by decide +kernel
theorem dX6_relays_66 : decode cX6_relays 66 = .ok (.getfield 108, 3) := by decide +kernel
theorem dX6_relays_69 : decode cX6_relays 69 = .ok (.iload_n 1, 1) := by decide +kernel
theorem dX6_relays_70 : decode cX6_relays 70 = .ok (.baload, 1) := by decide +kernel
theorem dX6_relays_71 : decode cX6_relays 71 = .ok (.ifCond .eq 130, 3) := by decide +kernel
theorem dX6_relays_74 : decode cX6_relays 74 = .ok (.iload 4, 2) := by decide +kernel
theorem dX6_relays_76 : decode cX6_relays 76 = .ok (.ifCond .ne 125, 3) := by decide +kernel
theorem dX6_relays_79 : decode cX6_relays 79 = .ok (.aload_n 0, 1) := by decide +kernel
theorem dX6_relays_80 : decode cX6_relays 80 = .ok (.getfield 114, 3) := by decide +kernel
theorem dX6_relays_83 : decode cX6_relays 83 = .ok (.iload_n 1, 1) := by decide +kernel
theorem dX6_relays_84 : decode cX6_relays 84 = .ok (.dup2, 1) := by decide +kernel
theorem dX6_relays_85 : decode cX6_relays 85 = .ok (.iaload, 1) := by decide +kernel
theorem dX6_relays_86 : decode cX6_relays 86 = .ok (.iconst 1, 1) := by decide +kernel
theorem dX6_relays_87 : decode cX6_relays 87 = .ok (.iadd, 1) := by decide +kernel
theorem dX6_relays_88 : decode cX6_relays 88 = .ok (.iastore, 1) := by decide +kernel
theorem dX6_relays_89 : decode cX6_relays 89 = .ok (.aload_n 0, 1) := by decide +kernel
theorem dX6_relays_90 : decode cX6_relays 90 = .ok (.getfield 117, 3) := by decide +kernel
theorem dX6_relays_93 : decode cX6_relays 93 = .ok (.iload_n 1, 1) := by decide +kernel
theorem dX6_relays_94 : decode cX6_relays 94 = .ok (.aload_n 0, 1) := by decide +kernel
theorem dX6_relays_95 : decode cX6_relays 95 = .ok (.getfield 114, 3) := by decide +kernel
theorem dX6_relays_98 : decode cX6_relays 98 = .ok (.iload_n 1, 1) := by decide +kernel
theorem dX6_relays_99 : decode cX6_relays 99 = .ok (.iaload, 1) := by decide +kernel
theorem dX6_relays_100 : decode cX6_relays 100 = .ok (.iconst 2, 1) := by decide +kernel
theorem dX6_relays_101 : decode cX6_relays 101 = .ok (.if_icmp .ne 12, 3) := by decide +kernel
theorem dX6_relays_104 : decode cX6_relays 104 = .ok (.aload_n 0, 1) := by decide +kernel
theorem dX6_relays_105 : decode cX6_relays 105 = .ok (.getfield 111, 3) := by decide +kernel
theorem dX6_relays_108 : decode cX6_relays 108 = .ok (.iload_n 1, 1) := by decide +kernel
theorem dX6_relays_109 : decode cX6_relays 109 = .ok (.iaload, 1) := by decide +kernel
theorem dX6_relays_110 : decode cX6_relays 110 = .ok (.goto 9, 3) := by decide +kernel
theorem dX6_relays_113 : decode cX6_relays 113 = .ok (.aload_n 0, 1) := by decide +kernel
theorem dX6_relays_114 : decode cX6_relays 114 = .ok (.getfield 117, 3) := by decide +kernel
theorem dX6_relays_117 : decode cX6_relays 117 = .ok (.iload_n 1, 1) := by decide +kernel
theorem dX6_relays_118 : decode cX6_relays 118 = .ok (.iaload, 1) := by decide +kernel
theorem dX6_relays_119 : decode cX6_relays 119 = .ok (.iastore, 1) := by decide +kernel
theorem dX6_relays_120 : decode cX6_relays 120 = .ok (.aload_n 0, 1) := by decide +kernel
theorem dX6_relays_121 : decode cX6_relays 121 = .ok (.getfield 114, 3) := by decide +kernel
theorem dX6_relays_124 : decode cX6_relays 124 = .ok (.iload_n 1, 1) := by decide +kernel
theorem dX6_relays_125 : decode cX6_relays 125 = .ok (.iaload, 1) := by decide +kernel
theorem dX6_relays_126 : decode cX6_relays 126 = .ok (.iconst 4, 1) := by decide +kernel
theorem dX6_relays_127 : decode cX6_relays 127 = .ok (.if_icmp .ne 50, 3) := by decide +kernel
theorem dX6_relays_130 : decode cX6_relays 130 = .ok (.aload_n 0, 1) := by decide +kernel
theorem dX6_relays_131 : decode cX6_relays 131 = .ok (.getfield 96, 3) := by decide +kernel
theorem dX6_relays_134 : decode cX6_relays 134 = .ok (.iload_n 1, 1) := by decide +kernel
theorem dX6_relays_135 : decode cX6_relays 135 = .ok (.iconst 2, 1) := by decide +kernel
theorem dX6_relays_136 : decode cX6_relays 136 = .ok (.iastore, 1) := by decide +kernel
theorem dX6_relays_137 : decode cX6_relays 137 = .ok (.aload_n 0, 1) := by decide +kernel
theorem dX6_relays_138 : decode cX6_relays 138 = .ok (.getfield 126, 3) := by decide +kernel
theorem dX6_relays_141 : decode cX6_relays 141 = .ok (.iload_n 1, 1) := by decide +kernel
theorem dX6_relays_142 : decode cX6_relays 142 = .ok (.aload_n 0, 1) := by decide +kernel
theorem dX6_relays_143 : decode cX6_relays 143 = .ok (.getfield 111, 3) := by decide +kernel
theorem dX6_relays_146 : decode cX6_relays 146 = .ok (.iload_n 1, 1) := by decide +kernel
theorem dX6_relays_147 : decode cX6_relays 147 = .ok (.iaload, 1) := by decide +kernel
theorem dX6_relays_148 : decode cX6_relays 148 = .ok (.aload_n 0, 1) := by decide +kernel
theorem dX6_relays_149 : decode cX6_relays 149 = .ok (.getfield 117, 3) := by decide +kernel
theorem dX6_relays_152 : decode cX6_relays 152 = .ok (.iload_n 1, 1) := by decide +kernel
theorem dX6_relays_153 : decode cX6_relays 153 = .ok (.iaload, 1) := by decide +kernel
theorem dX6_relays_154 : decode cX6_relays 154 = .ok (.isub, 1) := by decide +kernel
theorem dX6_relays_155 : decode cX6_relays 155 = .ok (.iconst 2, 1) := by decide +kernel
theorem dX6_relays_156 : decode cX6_relays 156 = .ok (.idiv, 1) := by decide +kernel
theorem dX6_relays_157 : decode cX6_relays 157 = .ok (.iastore, 1) := by decide +kernel
theorem dX6_relays_158 : decode cX6_relays 158 = .ok (.aload_n 0, 1) := by decide +kernel
theorem dX6_relays_159 : decode cX6_relays 159 = .ok (.getfield 129, 3) := by decide +kernel
theorem dX6_relays_162 : decode cX6_relays 162 = .ok (.iload_n 1, 1) := by decide +kernel
theorem dX6_relays_163 : decode cX6_relays 163 = .ok (.aload_n 0, 1) := by decide +kernel
theorem dX6_relays_164 : decode cX6_relays 164 = .ok (.getfield 120, 3) := by decide +kernel
theorem dX6_relays_167 : decode cX6_relays 167 = .ok (.iload_n 1, 1) := by decide +kernel
theorem dX6_relays_168 : decode cX6_relays 168 = .ok (.laload, 1) := by decide +kernel
theorem dX6_relays_169 : decode cX6_relays 169 = .ok (.aload_n 0, 1) := by decide +kernel
theorem dX6_relays_170 : decode cX6_relays 170 = .ok (.getfield 123, 3) := by decide +kernel
theorem dX6_relays_173 : decode cX6_relays 173 = .ok (.iload_n 1, 1) := by decide +kernel
theorem dX6_relays_174 : decode cX6_relays 174 = .ok (.laload, 1) := by decide +kernel
theorem dX6_relays_175 : decode cX6_relays 175 = .ok (.lsub, 1) := by decide +kernel
theorem dX6_relays_176 : decode cX6_relays 176 = .ok (.lastore, 1) := by decide +kernel
theorem dX6_relays_177 : decode cX6_relays 177 = .ok (.aload_n 0, 1) := by decide +kernel
theorem dX6_relays_178 : decode cX6_relays 178 = .ok (.getfield 120, 3) := by decide +kernel
theorem dX6_relays_181 : decode cX6_relays 181 = .ok (.iload_n 1, 1) := by decide +kernel
theorem dX6_relays_182 : decode cX6_relays 182 = .ok (.aload_n 0, 1) := by decide +kernel
theorem dX6_relays_183 : decode cX6_relays 183 = .ok (.getfield 26, 3) := by decide +kernel
theorem dX6_relays_186 : decode cX6_relays 186 = .ok (.iload_n 1, 1) := by decide +kernel
theorem dX6_relays_187 : decode cX6_relays 187 = .ok (.laload, 1) := by decide +kernel
theorem dX6_relays_188 : decode cX6_relays 188 = .ok (.lastore, 1) := by decide +kernel
theorem dX6_relays_189 : decode cX6_relays 189 = .ok (.aload_n 0, 1) := by decide +kernel
theorem dX6_relays_190 : decode cX6_relays 190 = .ok (.getfield 123, 3) := by decide +kernel
theorem dX6_relays_193 : decode cX6_relays 193 = .ok (.iload_n 1, 1) := by decide +kernel
theorem dX6_relays_194 : decode cX6_relays 194 = .ok (.aload_n 0, 1) := by decide +kernel
theorem dX6_relays_195 : decode cX6_relays 195 = .ok (.getfield 26, 3) := by decide +kernel
theorem dX6_relays_198 : decode cX6_relays 198 = .ok (.iload_n 1, 1) := by decide +kernel
theorem dX6_relays_199 : decode cX6_relays 199 = .ok (.laload, 1) := by decide +kernel
theorem dX6_relays_200 : decode cX6_relays 200 = .ok (.lastore, 1) := by decide +kernel
theorem dX6_relays_201 : decode cX6_relays 201 = .ok (.aload_n 0, 1) := by decide +kernel
theorem dX6_relays_202 : decode cX6_relays 202 = .ok (.getfield 120, 3) := by decide +kernel
theorem dX6_relays_205 : decode cX6_relays 205 = .ok (.iload_n 1, 1) := by decide +kernel
theorem dX6_relays_206 : decode cX6_relays 206 = .ok (.aload_n 0, 1) := by decide +kernel
theorem dX6_relays_207 : decode cX6_relays 207 = .ok (.getfield 26, 3) := by decide +kernel
theorem dX6_relays_210 : decode cX6_relays 210 = .ok (.iload_n 1, 1) := by decide +kernel
theorem dX6_relays_211 : decode cX6_relays 211 = .ok (.laload, 1) := by decide +kernel
theorem dX6_relays_212 : decode cX6_relays 212 = .ok (.aload_n 0, 1) := by decide +kernel
theorem dX6_relays_213 : decode cX6_relays 213 = .ok (.getfield 120, 3) := by decide +kernel
theorem dX6_relays_216 : decode cX6_relays 216 = .ok (.iload_n 1, 1) := by decide +kernel
theorem dX6_relays_217 : decode cX6_relays 217 = .ok (.laload, 1) := by decide +kernel
theorem dX6_relays_218 : decode cX6_relays 218 = .ok (.lcmp, 1) := by decide +kernel
theorem dX6_relays_219 : decode cX6_relays 219 = .ok (.ifCond .le 12, 3) := by decide +kernel
theorem dX6_relays_222 : decode cX6_relays 222 = .ok (.aload_n 0, 1) := by decide +kernel
theorem dX6_relays_223 : decode cX6_relays 223 = .ok (.getfield 26, 3) := by decide +kernel
theorem dX6_relays_226 : decode cX6_relays 226 = .ok (.iload_n 1, 1) := by decide +kernel
theorem dX6_relays_227 : decode cX6_relays 227 = .ok (.laload, 1) := by decide +kernel
theorem dX6_relays_228 : decode cX6_relays 228 = .ok (.goto 9, 3) := by decide +kernel
theorem dX6_relays_231 : decode cX6_relays 231 = .ok (.aload_n 0, 1) := by decide +kernel
theorem dX6_relays_232 : decode cX6_relays 232 = .ok (.getfield 120, 3) := by decide +kernel
theorem dX6_relays_235 : decode cX6_relays 235 = .ok (.iload_n 1, 1) := by decide +kernel
theorem dX6_relays_236 : decode cX6_relays 236 = .ok (.laload, 1) := by decide +kernel
theorem dX6_relays_237 : decode cX6_relays 237 = .ok (.lastore, 1) := by decide +kernel
theorem dX6_relays_238 : decode cX6_relays 238 = .ok (.aload_n 0, 1) := by decide +kernel
theorem dX6_relays_239 : decode cX6_relays 239 = .ok (.getfield 123, 3) := by decide +kernel
theorem dX6_relays_242 : decode cX6_relays 242 = .ok (.iload_n 1, 1) := by decide +kernel
theorem dX6_relays_243 : decode cX6_relays 243 = .ok (.aload_n 0, 1) := by decide +kernel
theorem dX6_relays_244 : decode cX6_relays 244 = .ok (.getfield 26, 3) := by decide +kernel
theorem dX6_relays_247 : decode cX6_relays 247 = .ok (.iload_n 1, 1) := by decide +kernel
theorem dX6_relays_248 : decode cX6_relays 248 = .ok (.laload, 1) := by decide +kernel
theorem dX6_relays_249 : decode cX6_relays 249 = .ok (.aload_n 0, 1) := by decide +kernel
theorem dX6_relays_250 : decode cX6_relays 250 = .ok (.getfield 123, 3) := by decide +kernel
theorem dX6_relays_253 : decode cX6_relays 253 = .ok (.iload_n 1, 1) := by decide +kernel
theorem dX6_relays_254 : decode cX6_relays 254 = .ok (.laload, 1) := by decide +kernel
theorem dX6_relays_255 : decode cX6_relays 255 = .ok (.lcmp, 1) := by decide +kernel
theorem dX6_relays_256 : decode cX6_relays 256 = .ok (.ifCond .ge 12, 3) := by decide +kernel
theorem dX6_relays_259 : decode cX6_relays 259 = .ok (.aload_n 0, 1) := by decide +kernel
theorem dX6_relays_260 : decode cX6_relays 260 = .ok (.getfield 26, 3) := by decide +kernel
theorem dX6_relays_263 : decode cX6_relays 263 = .ok (.iload_n 1, 1) := by decide +kernel
theorem dX6_relays_264 : decode cX6_relays 264 = .ok (.laload, 1) := by decide +kernel
theorem dX6_relays_265 : decode cX6_relays 265 = .ok (.goto 9, 3) := by decide +kernel
theorem dX6_relays_268 : decode cX6_relays 268 = .ok (.aload_n 0, 1) := by decide +kernel
theorem dX6_relays_269 : decode cX6_relays 269 = .ok (.getfield 123, 3) := by decide +kernel
theorem dX6_relays_272 : decode cX6_relays 272 = .ok (.iload_n 1, 1) := by decide +kernel
theorem dX6_relays_273 : decode cX6_relays 273 = .ok (.laload, 1) := by decide +kernel
theorem dX6_relays_274 : decode cX6_relays 274 = .ok (.lastore, 1) := by decide +kernel
theorem dX6_relays_275 : decode cX6_relays 275 = .ok (.aload_n 0, 1) := by decide +kernel
theorem dX6_relays_276 : decode cX6_relays 276 = .ok (.getfield 111, 3) := by decide +kernel
theorem dX6_relays_279 : decode cX6_relays 279 = .ok (.iload_n 1, 1) := by decide +kernel
theorem dX6_relays_280 : decode cX6_relays 280 = .ok (.iaload, 1) := by decide +kernel
theorem dX6_relays_281 : decode cX6_relays 281 = .ok (.sipush 400, 3) := by decide +kernel
theorem dX6_relays_284 : decode cX6_relays 284 = .ok (.if_icmp .ne 20, 3) := by decide +kernel
theorem dX6_relays_287 : decode cX6_relays 287 = .ok (.aload_n 0, 1) := by decide +kernel
theorem dX6_relays_288 : decode cX6_relays 288 = .ok (.getfield 96, 3) := by decide +kernel
theorem dX6_relays_291 : decode cX6_relays 291 = .ok (.iload_n 1, 1) := by decide +kernel
theorem dX6_relays_292 : decode cX6_relays 292 = .ok (.iaload, 1) := by decide +kernel
theorem dX6_relays_293 : decode cX6_relays 293 = .ok (.iconst 1, 1) := by decide +kernel
theorem dX6_relays_294 : decode cX6_relays 294 = .ok (.if_icmp .ne 10, 3) := by decide +kernel
theorem dX6_relays_297 : decode cX6_relays 297 = .ok (.aload_n 0, 1) := by decide +kernel
theorem dX6_relays_298 : decode cX6_relays 298 = .ok (.getfield 96, 3) := by decide +kernel
theorem dX6_relays_301 : decode cX6_relays 301 = .ok (.iload_n 1, 1) := by decide +kernel
theorem dX6_relays_302 : decode cX6_relays 302 = .ok (.iconst 3, 1) := by decide +kernel
theorem dX6_relays_303 : decode cX6_relays 303 = .ok (.iastore, 1) := by decide +kernel
theorem dX6_relays_304 : decode cX6_relays 304 = .ok (.aload_n 0, 1) := by decide +kernel
theorem dX6_relays_305 : decode cX6_relays 305 = .ok (.getfield 96, 3) := by decide +kernel
theorem dX6_relays_308 : decode cX6_relays 308 = .ok (.iload_n 1, 1) := by decide +kernel
theorem dX6_relays_309 : decode cX6_relays 309 = .ok (.iaload, 1) := by decide +kernel
theorem dX6_relays_310 : decode cX6_relays 310 = .ok (.iconst 1, 1) := by decide +kernel
theorem dX6_relays_311 : decode cX6_relays 311 = .ok (.if_icmp .eq 21, 3) := by decide +kernel
theorem dX6_relays_314 : decode cX6_relays 314 = .ok (.aload_n 0, 1) := by decide +kernel
theorem dX6_relays_315 : decode cX6_relays 315 = .ok (.iload_n 1, 1) := by decide +kernel
theorem dX6_relays_316 : decode cX6_relays 316 = .ok (.aload_n 0, 1) := by decide +kernel
theorem dX6_relays_317 : decode cX6_relays 317 = .ok (.getfield 99, 3) := by decide +kernel
theorem dX6_relays_320 : decode cX6_relays 320 = .ok (.iload_n 1, 1) := by decide +kernel
theorem dX6_relays_321 : decode cX6_relays 321 = .ok (.laload, 1) := by decide +kernel
theorem dX6_relays_322 : decode cX6_relays 322 = .ok (.invokevirtual 178, 3) := by decide +kernel
theorem dX6_relays_325 : decode cX6_relays 325 = .ok (.aload_n 0, 1) := by decide +kernel
theorem dX6_relays_326 : decode cX6_relays 326 = .ok (.getfield 56, 3) := by decide +kernel
theorem dX6_relays_329 : decode cX6_relays 329 = .ok (.iload_n 1, 1) := by decide +kernel
theorem dX6_relays_330 : decode cX6_relays 330 = .ok (.iconst 1, 1) := by decide +kernel
theorem dX6_relays_331 : decode cX6_relays 331 = .ok (.iastore, 1) := by decide +kernel
theorem dX6_relays_332 : decode cX6_relays 332 = .ok (.aload_n 0, 1) := by decide +kernel
theorem dX6_relays_333 : decode cX6_relays 333 = .ok (.getfield 99, 3) := by decide +kernel
theorem dX6_relays_336 : decode cX6_relays 336 = .ok (.iload_n 1, 1) := by decide +kernel
theorem dX6_relays_337 : decode cX6_relays 337 = .ok (.laload, 1) := by decide +kernel
theorem dX6_relays_338 : decode cX6_relays 338 = .ok (.aload_n 0, 1) := by decide +kernel
theorem dX6_relays_339 : decode cX6_relays 339 = .ok (.getfield 108, 3) := by decide +kernel
theorem dX6_relays_342 : decode cX6_relays 342 = .ok (.iload_n 1, 1) := by decide +kernel
theorem dX6_relays_343 : decode cX6_relays 343 = .ok (.baload, 1) := by decide +kernel
theorem dX6_relays_344 : decode cX6_relays 344 = .ok (.ifCond .eq 12, 3) := by decide +kernel
theorem dX6_relays_347 : decode cX6_relays 347 = .ok (.aload_n 0, 1) := by decide +kernel
theorem dX6_relays_348 : decode cX6_relays 348 = .ok (.getfield 102, 3) := by decide +kernel
theorem dX6_relays_351 : decode cX6_relays 351 = .ok (.iload_n 1, 1) := by decide +kernel
theorem dX6_relays_352 : decode cX6_relays 352 = .ok (.iaload, 1) := by decide +kernel
theorem dX6_relays_353 : decode cX6_relays 353 = .ok (.goto 10, 3) := by decide +kernel
theorem dX6_relays_356 : decode cX6_relays 356 = .ok (.aload_n 0, 1) := by decide +kernel
theorem dX6_relays_357 : decode cX6_relays 357 = .ok (.getfield 102, 3) := by decide +kernel
theorem dX6_relays_360 : decode cX6_relays 360 = .ok (.iload_n 1, 1) := by decide +kernel
theorem dX6_relays_361 : decode cX6_relays 361 = .ok (.iaload, 1) := by decide +kernel
theorem dX6_relays_362 : decode cX6_relays 362 = .ok (.ineg, 1) := by decide +kernel
theorem dX6_relays_363 : decode cX6_relays 363 = .ok (.i2l, 1) := by decide +kernel
theorem dX6_relays_364 : decode cX6_relays 364 = .ok (.ladd, 1) := by decide +kernel
theorem dX6_relays_365 : decode cX6_relays 365 = .ok (.aload_n 0, 1) := by decide +kernel
theorem dX6_relays_366 : decode cX6_relays 366 = .ok (.getfield 38, 3) := by decide +kernel
theorem dX6_relays_369 : decode cX6_relays 369 = .ok (.iload_n 1, 1) := by decide +kernel
theorem dX6_relays_370 : decode cX6_relays 370 = .ok (.laload, 1) := by decide +kernel
theorem dX6_relays_371 : decode cX6_relays 371 = .ok (.aload_n 0, 1) := by decide +kernel
theorem dX6_relays_372 : decode cX6_relays 372 = .ok (.getfield 41, 3) := by decide +kernel
theorem dX6_relays_375 : decode cX6_relays 375 = .ok (.iload_n 1, 1) := by decide +kernel
theorem dX6_relays_376 : decode cX6_relays 376 = .ok (.laload, 1) := by decide +kernel
theorem dX6_relays_377 : decode cX6_relays 377 = .ok (.invokestatic 190, 3) := by decide +kernel
theorem dX6_relays_380 : decode cX6_relays 380 = .ok (.lreturn, 1) := by decide +kernel
theorem dX6_starves_0 : decode cX6_starves 0 = .ok (.iload_n 1, 1) := by decide +kernel
theorem dX6_starves_1 : decode cX6_starves 1 = .ok (.iconst 1, 1) := by decide +kernel
theorem dX6_starves_2 : decode cX6_starves 2 = .ok (.iadd, 1) := by decide +kernel
theorem dX6_starves_3 : decode cX6_starves 3 = .ok (.iconst 3, 1) := by decide +kernel
theorem dX6_starves_4 : decode cX6_starves 4 = .ok (.if_icmp .ge 30, 3) := by decide +kernel
theorem dX6_starves_7 : decode cX6_starves 7 = .ok (.aload_n 0, 1) := by decide +kernel
theorem dX6_starves_8 : decode cX6_starves 8 = .ok (.getfield 66, 3) := by decide +kernel
theorem dX6_starves_11 : decode cX6_starves 11 = .ok (.iload_n 1, 1) := by decide +kernel
theorem dX6_starves_12 : decode cX6_starves 12 = .ok (.iconst 1, 1) := by decide +kernel
theorem dX6_starves_13 : decode cX6_starves 13 = .ok (.iadd, 1) := by decide +kernel
theorem dX6_starves_14 : decode cX6_starves 14 = .ok (.baload, 1) := by decide +kernel
theorem dX6_starves_15 : decode cX6_starves 15 = .ok (.ifCond .eq 19, 3) := by decide +kernel
theorem dX6_starves_18 : decode cX6_starves 18 = .ok (.aload_n 0, 1) := by decide +kernel
theorem dX6_starves_19 : decode cX6_starves 19 = .ok (.getfield 56, 3) := by decide +kernel
theorem dX6_starves_22 : decode cX6_starves 22 = .ok (.iload_n 1, 1) := by decide +kernel
theorem dX6_starves_23 : decode cX6_starves 23 = .ok (.iconst 1, 1) := by decide +kernel
theorem dX6_starves_24 : decode cX6_starves 24 = .ok (.iadd, 1) := by decide +kernel
theorem dX6_starves_25 : decode cX6_starves 25 = .ok (.iaload, 1) := by decide +kernel
theorem dX6_starves_26 : decode cX6_starves 26 = .ok (.iconst 2, 1) := by decide +kernel
theorem dX6_starves_27 : decode cX6_starves 27 = .ok (.if_icmp .eq 7, 3) := by decide +kernel
theorem dX6_starves_30 : decode cX6_starves 30 = .ok (.iconst 1, 1) := by decide +kernel
theorem dX6_starves_31 : decode cX6_starves 31 = .ok (.goto 4, 3) := by decide +kernel
theorem dX6_starves_34 : decode cX6_starves 34 = .ok (.iconst 0, 1) := by decide +kernel
theorem dX6_starves_35 : decode cX6_starves 35 = .ok (.ireturn, 1) := by decide +kernel
set_option maxRecDepth 20000 in
theorem ggX6_puts_X6_within : GoodIn wsX6_puts wsX6_within := goodIn_r _ [13] (by decide +kernel) (by decide +kernel)
set_option maxRecDepth 20000 in
theorem gX6_puts_X6_within : GoodIn wsX6_puts (va_wsS RX6 190 yX6_within wsX6_within) := goodIn_app (goodIn_of _ (by decide +kernel)) ggX6_puts_X6_within
set_option maxRecDepth 20000 in
theorem ggX6_puts_X6_relays : GoodIn wsX6_puts wsX6_relays := goodIn_r _ [17, 18, 19, 20, 21, 22, 23, 24, 25, 26, 27, 5, 28, 2, 29, 8, 9, 30, 31, 32, 12, 33, 3, 34, 35, 36, 37, 38, 39, 40, 6, 41, 42, 43, 44, 45, 10, 11, 13, 75, 76, 77, 78, 79, 80, 81, 82, 83, 84, 85, 86, 87, 88, 89, 90, 91, 92, 93, 94, 95, 96, 97, 98, 99, 100, 101, 102, 103, 104, 105, 106, 107, 108, 109, 110, 111, 112, 113, 114, 115, 116] (by decide +kernel) (by decide +kernel)
set_option maxRecDepth 20000 in
theorem gX6_puts_X6_relays : GoodIn wsX6_puts (wsV RX6 194 RX6 yX6_relays wsX6_relays) := goodIn_app (goodIn_of _ (by decide +kernel)) ggX6_puts_X6_relays
set_option maxRecDepth 20000 in
theorem ggX6_puts_X6_starves : GoodIn wsX6_puts wsX6_starves := goodIn_r _ [49, 50, 2, 75, 76, 77, 78, 79, 80, 81, 82, 83, 84, 85, 86, 87, 88, 89, 90, 91, 92, 93, 94, 95, 96, 97, 98, 99, 100, 101, 102, 103, 104, 105, 106, 107, 108, 109, 110, 111, 112, 113, 114, 115, 116] (by decide +kernel) (by decide +kernel)
set_option maxRecDepth 20000 in
theorem gX6_puts_X6_starves : GoodIn wsX6_puts (wsV RX6 197 RX6 yX6_starves wsX6_starves) := goodIn_app (goodIn_of _ (by decide +kernel)) ggX6_puts_X6_starves
set_option maxRecDepth 20000 in
theorem ggX6_puts_X6_controls : GoodIn wsX6_puts wsX6_controls := goodIn_r _ [54, 40, 38, 39, 8, 9, 55, 56, 57, 6, 58, 59, 60, 61, 62, 63, 12, 64, 65, 66, 5, 67, 68, 69, 70, 71, 72, 73, 74, 30, 31, 32, 33, 3, 41, 42, 43, 44, 45, 10, 11, 13, 75, 76, 77, 78, 79, 80, 81, 82, 83, 84, 85, 86, 87, 88, 89, 90, 91, 92, 93, 94, 95, 96, 97, 98, 99, 100, 101, 102, 103, 104, 105, 106, 107, 108, 109, 110, 111, 112, 113, 114, 115, 116] (by decide +kernel) (by decide +kernel)
set_option maxRecDepth 20000 in
theorem gX6_puts_X6_controls : GoodIn wsX6_puts (wsV RX6 200 RX6 yX6_controls wsX6_controls) := goodIn_app (goodIn_of _ (by decide +kernel)) ggX6_puts_X6_controls
set_option maxRecDepth 20000 in
theorem ggX6_puts_X6_settle : GoodIn wsX6_puts wsX6_settle := goodIn_r _ [37, 38, 39, 40, 6, 30, 31, 32, 12, 33, 3, 5, 41, 42, 43, 44, 45, 75, 76, 77, 78, 79, 80, 81, 82, 83, 84, 85, 86, 87, 88, 89, 90, 91, 92, 93, 94, 95, 96, 97, 98, 99, 100, 101, 102, 103, 104, 105, 106, 107, 108, 109, 110, 111, 112, 113, 114, 115, 116] (by decide +kernel) (by decide +kernel)
set_option maxRecDepth 20000 in
theorem gX6_puts_X6_settle : GoodIn wsX6_puts (wsV RX6 178 RX6 yX6_settle wsX6_settle) := goodIn_app (goodIn_of _ (by decide +kernel)) ggX6_puts_X6_settle
theorem dX6_puts_0 : decode cX6_puts 0 = .ok (.aload_n 0, 1) := by decide +kernel
theorem dX6_puts_1 : decode cX6_puts 1 = .ok (.getfield 69, 3) := by decide +kernel
theorem dX6_puts_4 : decode cX6_puts 4 = .ok (.iload_n 1, 1) := by decide +kernel
theorem dX6_puts_5 : decode cX6_puts 5 = .ok (.iconst 0, 1) := by decide +kernel
theorem dX6_puts_6 : decode cX6_puts 6 = .ok (.bastore, 1) := by decide +kernel
theorem dX6_puts_7 : decode cX6_puts 7 = .ok (.aload_n 0, 1) := by decide +kernel
theorem dX6_puts_8 : decode cX6_puts 8 = .ok (.getfield 56, 3) := by decide +kernel
theorem dX6_puts_11 : decode cX6_puts 11 = .ok (.iload_n 1, 1) := by decide +kernel
theorem dX6_puts_12 : decode cX6_puts 12 = .ok (.iaload, 1) := by decide +kernel
theorem dX6_puts_13 : decode cX6_puts 13 = .ok (.ifCond .ne 62, 3) := by decide +kernel
theorem dX6_puts_16 : decode cX6_puts 16 = .ok (.aload_n 0, 1) := by decide +kernel
theorem dX6_puts_17 : decode cX6_puts 17 = .ok (.getfield 44, 3) := by decide +kernel
theorem dX6_puts_20 : decode cX6_puts 20 = .ok (.iload_n 1, 1) := by decide +kernel
theorem dX6_puts_21 : decode cX6_puts 21 = .ok (.aload_n 0, 1) := by decide +kernel
theorem dX6_puts_22 : decode cX6_puts 22 = .ok (.getfield 62, 3) := by decide +kernel
theorem dX6_puts_25 : decode cX6_puts 25 = .ok (.iload_n 1, 1) := by decide +kernel
theorem dX6_puts_26 : decode cX6_puts 26 = .ok (.baload, 1) := by decide +kernel
theorem dX6_puts_27 : decode cX6_puts 27 = .ok (.ifCond .eq 12, 3) := by decide +kernel
theorem dX6_puts_30 : decode cX6_puts 30 = .ok (.aload_n 0, 1) := by decide +kernel
theorem dX6_puts_31 : decode cX6_puts 31 = .ok (.getfield 26, 3) := by decide +kernel
theorem dX6_puts_34 : decode cX6_puts 34 = .ok (.iload_n 1, 1) := by decide +kernel
theorem dX6_puts_35 : decode cX6_puts 35 = .ok (.laload, 1) := by decide +kernel
theorem dX6_puts_36 : decode cX6_puts 36 = .ok (.goto 9, 3) := by decide +kernel
theorem dX6_puts_39 : decode cX6_puts 39 = .ok (.aload_n 0, 1) := by decide +kernel
theorem dX6_puts_40 : decode cX6_puts 40 = .ok (.getfield 44, 3) := by decide +kernel
theorem dX6_puts_43 : decode cX6_puts 43 = .ok (.iload_n 1, 1) := by decide +kernel
theorem dX6_puts_44 : decode cX6_puts 44 = .ok (.laload, 1) := by decide +kernel
theorem dX6_puts_45 : decode cX6_puts 45 = .ok (.lastore, 1) := by decide +kernel
theorem dX6_puts_46 : decode cX6_puts 46 = .ok (.aload_n 0, 1) := by decide +kernel
theorem dX6_puts_47 : decode cX6_puts 47 = .ok (.getfield 84, 3) := by decide +kernel
theorem dX6_puts_50 : decode cX6_puts 50 = .ok (.iload_n 1, 1) := by decide +kernel
theorem dX6_puts_51 : decode cX6_puts 51 = .ok (.iconst 0, 1) := by decide +kernel
theorem dX6_puts_52 : decode cX6_puts 52 = .ok (.bastore, 1) := by decide +kernel
theorem dX6_puts_53 : decode cX6_puts 53 = .ok (.aload_n 0, 1) := by decide +kernel
theorem dX6_puts_54 : decode cX6_puts 54 = .ok (.getfield 59, 3) := by decide +kernel
theorem dX6_puts_57 : decode cX6_puts 57 = .ok (.iload_n 1, 1) := by decide +kernel
theorem dX6_puts_58 : decode cX6_puts 58 = .ok (.laload, 1) := by decide +kernel
theorem dX6_puts_59 : decode cX6_puts 59 = .ok (.aload_n 0, 1) := by decide +kernel
theorem dX6_puts_60 : decode cX6_puts 60 = .ok (.getfield 38, 3) := by decide +kernel
theorem dX6_puts_63 : decode cX6_puts 63 = .ok (.iload_n 1, 1) := by decide +kernel
theorem dX6_puts_64 : decode cX6_puts 64 = .ok (.laload, 1) := by decide +kernel
theorem dX6_puts_65 : decode cX6_puts 65 = .ok (.aload_n 0, 1) := by decide +kernel
theorem dX6_puts_66 : decode cX6_puts 66 = .ok (.getfield 41, 3) := by decide +kernel
theorem dX6_puts_69 : decode cX6_puts 69 = .ok (.iload_n 1, 1) := by decide +kernel
theorem dX6_puts_70 : decode cX6_puts 70 = .ok (.laload, 1) := by decide +kernel
theorem dX6_puts_71 : decode cX6_puts 71 = .ok (.invokestatic 190, 3) := by decide +kernel
theorem dX6_puts_74 : decode cX6_puts 74 = .ok (.lreturn, 1) := by decide +kernel
theorem dX6_puts_75 : decode cX6_puts 75 = .ok (.aload_n 0, 1) := by decide +kernel
theorem dX6_puts_76 : decode cX6_puts 76 = .ok (.getfield 56, 3) := by decide +kernel
theorem dX6_puts_79 : decode cX6_puts 79 = .ok (.iload_n 1, 1) := by decide +kernel
theorem dX6_puts_80 : decode cX6_puts 80 = .ok (.iaload, 1) := by decide +kernel
theorem dX6_puts_81 : decode cX6_puts 81 = .ok (.iconst 3, 1) := by decide +kernel
theorem dX6_puts_82 : decode cX6_puts 82 = .ok (.if_icmp .ne 16, 3) := by decide +kernel
theorem dX6_puts_85 : decode cX6_puts 85 = .ok (.aload_n 0, 1) := by decide +kernel
theorem dX6_puts_86 : decode cX6_puts 86 = .ok (.getfield 84, 3) := by decide +kernel
theorem dX6_puts_89 : decode cX6_puts 89 = .ok (.iload_n 1, 1) := by decide +kernel
theorem dX6_puts_90 : decode cX6_puts 90 = .ok (.iconst 0, 1) := by decide +kernel
theorem dX6_puts_91 : decode cX6_puts 91 = .ok (.bastore, 1) := by decide +kernel
theorem dX6_puts_92 : decode cX6_puts 92 = .ok (.aload_n 0, 1) := by decide +kernel
theorem dX6_puts_93 : decode cX6_puts 93 = .ok (.iload_n 1, 1) := by decide +kernel
theorem dX6_puts_94 : decode cX6_puts 94 = .ok (.invokevirtual 194, 3) := by decide +kernel
theorem dX6_puts_97 : decode cX6_puts 97 = .ok (.lreturn, 1) := by decide +kernel
theorem dX6_puts_98 : decode cX6_puts 98 = .ok (.aload_n 0, 1) := by decide +kernel
theorem dX6_puts_99 : decode cX6_puts 99 = .ok (.getfield 44, 3) := by decide +kernel
theorem dX6_puts_102 : decode cX6_puts 102 = .ok (.iload_n 1, 1) := by decide +kernel
theorem dX6_puts_103 : decode cX6_puts 103 = .ok (.aload_n 0, 1) := by decide +kernel
theorem dX6_puts_104 : decode cX6_puts 104 = .ok (.getfield 56, 3) := by decide +kernel
theorem dX6_puts_107 : decode cX6_puts 107 = .ok (.iload_n 1, 1) := by decide +kernel
theorem dX6_puts_108 : decode cX6_puts 108 = .ok (.iaload, 1) := by decide +kernel
theorem dX6_puts_109 : decode cX6_puts 109 = .ok (.iconst 2, 1) := by decide +kernel
theorem dX6_puts_110 : decode cX6_puts 110 = .ok (.if_icmp .ne 7, 3) := by decide +kernel
theorem dX6_puts_113 : decode cX6_puts 113 = .ok (.lload_n 2, 1) := by decide +kernel
theorem dX6_puts_114 : decode cX6_puts 114 = .ok (.goto 9, 3) := by decide +kernel
theorem dX6_puts_117 : decode cX6_puts 117 = .ok (.aload_n 0, 1) := by decide +kernel
theorem dX6_puts_118 : decode cX6_puts 118 = .ok (.getfield 44, 3) := by decide +kernel
theorem dX6_puts_121 : decode cX6_puts 121 = .ok (.iload_n 1, 1) := by decide +kernel
theorem dX6_puts_122 : decode cX6_puts 122 = .ok (.laload, 1) := by decide +kernel
theorem dX6_puts_123 : decode cX6_puts 123 = .ok (.lastore, 1) := by decide +kernel
theorem dX6_puts_124 : decode cX6_puts 124 = .ok (.aload_n 0, 1) := by decide +kernel
theorem dX6_puts_125 : decode cX6_puts 125 = .ok (.iload_n 1, 1) := by decide +kernel
theorem dX6_puts_126 : decode cX6_puts 126 = .ok (.invokevirtual 197, 3) := by decide +kernel
theorem dX6_puts_129 : decode cX6_puts 129 = .ok (.ifCond .ne 9, 3) := by decide +kernel
theorem dX6_puts_132 : decode cX6_puts 132 = .ok (.aload_n 0, 1) := by decide +kernel
theorem dX6_puts_133 : decode cX6_puts 133 = .ok (.iload_n 1, 1) := by decide +kernel
theorem dX6_puts_134 : decode cX6_puts 134 = .ok (.invokevirtual 200, 3) := by decide +kernel
theorem dX6_puts_137 : decode cX6_puts 137 = .ok (.lreturn, 1) := by decide +kernel
theorem dX6_puts_138 : decode cX6_puts 138 = .ok (.aload_n 0, 1) := by decide +kernel
theorem dX6_puts_139 : decode cX6_puts 139 = .ok (.getfield 69, 3) := by decide +kernel
theorem dX6_puts_142 : decode cX6_puts 142 = .ok (.iload_n 1, 1) := by decide +kernel
theorem dX6_puts_143 : decode cX6_puts 143 = .ok (.iconst 1, 1) := by decide +kernel
theorem dX6_puts_144 : decode cX6_puts 144 = .ok (.bastore, 1) := by decide +kernel
theorem dX6_puts_145 : decode cX6_puts 145 = .ok (.aload_n 0, 1) := by decide +kernel
theorem dX6_puts_146 : decode cX6_puts 146 = .ok (.getfield 44, 3) := by decide +kernel
theorem dX6_puts_149 : decode cX6_puts 149 = .ok (.iload_n 1, 1) := by decide +kernel
theorem dX6_puts_150 : decode cX6_puts 150 = .ok (.iconst 1, 1) := by decide +kernel
theorem dX6_puts_151 : decode cX6_puts 151 = .ok (.iadd, 1) := by decide +kernel
theorem dX6_puts_152 : decode cX6_puts 152 = .ok (.laload, 1) := by decide +kernel
theorem dX6_puts_153 : decode cX6_puts 153 = .ok (.aload_n 0, 1) := by decide +kernel
theorem dX6_puts_154 : decode cX6_puts 154 = .ok (.getfield 38, 3) := by decide +kernel
theorem dX6_puts_157 : decode cX6_puts 157 = .ok (.iload_n 1, 1) := by decide +kernel
theorem dX6_puts_158 : decode cX6_puts 158 = .ok (.laload, 1) := by decide +kernel
theorem dX6_puts_159 : decode cX6_puts 159 = .ok (.aload_n 0, 1) := by decide +kernel
theorem dX6_puts_160 : decode cX6_puts 160 = .ok (.getfield 41, 3) := by decide +kernel
theorem dX6_puts_163 : decode cX6_puts 163 = .ok (.iload_n 1, 1) := by decide +kernel
theorem dX6_puts_164 : decode cX6_puts 164 = .ok (.laload, 1) := by decide +kernel
theorem dX6_puts_165 : decode cX6_puts 165 = .ok (.invokestatic 190, 3) := by decide +kernel
theorem dX6_puts_168 : decode cX6_puts 168 = .ok (.lstore 4, 2) := by decide +kernel
theorem dX6_puts_170 : decode cX6_puts 170 = .ok (.aload_n 0, 1) := by decide +kernel
theorem dX6_puts_171 : decode cX6_puts 171 = .ok (.iload_n 1, 1) := by decide +kernel
theorem dX6_puts_172 : decode cX6_puts 172 = .ok (.lload 4, 2) := by decide +kernel
theorem dX6_puts_174 : decode cX6_puts 174 = .ok (.invokevirtual 178, 3) := by decide +kernel
theorem dX6_puts_177 : decode cX6_puts 177 = .ok (.lload 4, 2) := by decide +kernel
theorem dX6_puts_179 : decode cX6_puts 179 = .ok (.lreturn, 1) := by decide +kernel
set_option maxRecDepth 20000 in
theorem ggX6_sample_X6_puts : GoodIn wsX6_sample wsX6_puts := goodIn_r _ [17, 18, 19, 20, 21, 3, 22, 23, 24, 25, 26, 27, 16, 28, 29, 30, 31, 32, 33, 34, 35, 36, 37, 38, 39, 40, 41, 42, 43, 44, 45, 46, 47, 48, 49, 50, 51, 52, 53, 8, 54, 55, 56, 57, 58, 5, 59, 60, 61, 62, 63, 64, 65, 66, 67, 68, 69, 70, 71, 72, 73, 74, 75, 76, 77, 78, 79, 80, 81, 82, 83, 84, 85, 86, 87, 88, 89, 90, 91, 92, 93, 94, 95, 96, 97, 98, 99, 100, 101, 102, 103, 104, 105, 106, 107, 108, 109, 110, 111, 112, 113, 114, 115, 116, 117, 118, 119, 120, 121, 122, 123, 124, 125, 126, 127, 128, 129] (by decide +kernel) (by decide +kernel)
set_option maxRecDepth 20000 in
theorem gX6_sample_X6_puts : GoodIn wsX6_sample (wsV RX6 203 RX6 yX6_puts wsX6_puts) := goodIn_app (goodIn_of _ (by decide +kernel)) ggX6_sample_X6_puts
set_option maxRecDepth 20000 in
theorem ggX6_sample_X6_floor : GoodIn wsX6_sample wsX6_floor := goodIn_r _ [83] (by decide +kernel) (by decide +kernel)
set_option maxRecDepth 20000 in
theorem gX6_sample_X6_floor : GoodIn wsX6_sample (va_wsS RX6 182 yX6_floor wsX6_floor) := goodIn_app (goodIn_of _ (by decide +kernel)) ggX6_sample_X6_floor
set_option maxRecDepth 20000 in
theorem ggX6_sample_X6_within : GoodIn wsX6_sample wsX6_within := goodIn_r _ [28] (by decide +kernel) (by decide +kernel)
set_option maxRecDepth 20000 in
theorem gX6_sample_X6_within : GoodIn wsX6_sample (va_wsS RX6 190 yX6_within wsX6_within) := goodIn_app (goodIn_of _ (by decide +kernel)) ggX6_sample_X6_within
theorem dX6_sample_0 : decode cX6_sample 0 = .ok (.lconst 0, 1) := by decide +kernel
theorem dX6_sample_1 : decode cX6_sample 1 = .ok (.lstore_n 1, 1) := by decide +kernel
theorem dX6_sample_2 : decode cX6_sample 2 = .ok (.iconst 0, 1) := by decide +kernel
theorem dX6_sample_3 : decode cX6_sample 3 = .ok (.istore_n 3, 1) := by decide +kernel
theorem dX6_sample_4 : decode cX6_sample 4 = .ok (.iload_n 3, 1) := by decide +kernel
theorem dX6_sample_5 : decode cX6_sample 5 = .ok (.iconst 3, 1) := by decide +kernel
theorem dX6_sample_6 : decode cX6_sample 6 = .ok (.if_icmp .ge 68, 3) := by decide +kernel
theorem dX6_sample_9 : decode cX6_sample 9 = .ok (.aload_n 0, 1) := by decide +kernel
theorem dX6_sample_10 : decode cX6_sample 10 = .ok (.iload_n 3, 1) := by decide +kernel
theorem dX6_sample_11 : decode cX6_sample 11 = .ok (.lload_n 1, 1) := by decide +kernel
theorem dX6_sample_12 : decode cX6_sample 12 = .ok (.invokevirtual 203, 3) := by decide +kernel
theorem dX6_sample_15 : decode cX6_sample 15 = .ok (.lstore_n 1, 1) := by decide +kernel
theorem dX6_sample_16 : decode cX6_sample 16 = .ok (.bipush 11, 2) := by decide +kernel
theorem dX6_sample_18 : decode cX6_sample 18 = .ok (.iload_n 3, 1) := by decide +kernel
theorem dX6_sample_19 : decode cX6_sample 19 = .ok (.imul, 1) := by decide +kernel
theorem dX6_sample_20 : decode cX6_sample 20 = .ok (.bipush 11, 2) := by decide +kernel
theorem dX6_sample_22 : decode cX6_sample 22 = .ok (.iadd, 1) := by decide +kernel
theorem dX6_sample_23 : decode cX6_sample 23 = .ok (.iconst 1, 1) := by decide +kernel
theorem dX6_sample_24 : decode cX6_sample 24 = .ok (.isub, 1) := by decide +kernel
theorem dX6_sample_25 : decode cX6_sample 25 = .ok (.istore 4, 2) := by decide +kernel
theorem dX6_sample_27 : decode cX6_sample 27 = .ok (.iload 4, 2) := by decide +kernel
theorem dX6_sample_29 : decode cX6_sample 29 = .ok (.bipush 11, 2) := by decide +kernel
theorem dX6_sample_31 : decode cX6_sample 31 = .ok (.iload_n 3, 1) := by decide +kernel
theorem dX6_sample_32 : decode cX6_sample 32 = .ok (.imul, 1) := by decide +kernel
theorem dX6_sample_33 : decode cX6_sample 33 = .ok (.if_icmp .le 25, 3) := by decide +kernel
theorem dX6_sample_36 : decode cX6_sample 36 = .ok (.aload_n 0, 1) := by decide +kernel
theorem dX6_sample_37 : decode cX6_sample 37 = .ok (.getfield 32, 3) := by decide +kernel
theorem dX6_sample_40 : decode cX6_sample 40 = .ok (.iload 4, 2) := by decide +kernel
theorem dX6_sample_42 : decode cX6_sample 42 = .ok (.aload_n 0, 1) := by decide +kernel
theorem dX6_sample_43 : decode cX6_sample 43 = .ok (.getfield 32, 3) := by decide +kernel
theorem dX6_sample_46 : decode cX6_sample 46 = .ok (.iload 4, 2) := by decide +kernel
theorem dX6_sample_48 : decode cX6_sample 48 = .ok (.iconst 1, 1) := by decide +kernel
theorem dX6_sample_49 : decode cX6_sample 49 = .ok (.isub, 1) := by decide +kernel
theorem dX6_sample_50 : decode cX6_sample 50 = .ok (.laload, 1) := by decide +kernel
theorem dX6_sample_51 : decode cX6_sample 51 = .ok (.lastore, 1) := by decide +kernel
theorem dX6_sample_52 : decode cX6_sample 52 = .ok (.iinc 4 (-1), 3) := by decide +kernel
theorem dX6_sample_55 : decode cX6_sample 55 = .ok (.goto (-28), 3) := by decide +kernel
theorem dX6_sample_58 : decode cX6_sample 58 = .ok (.aload_n 0, 1) := by decide +kernel
theorem dX6_sample_59 : decode cX6_sample 59 = .ok (.getfield 32, 3) := by decide +kernel
theorem dX6_sample_62 : decode cX6_sample 62 = .ok (.bipush 11, 2) := by decide +kernel
theorem dX6_sample_64 : decode cX6_sample 64 = .ok (.iload_n 3, 1) := by decide +kernel
theorem dX6_sample_65 : decode cX6_sample 65 = .ok (.imul, 1) := by decide +kernel
theorem dX6_sample_66 : decode cX6_sample 66 = .ok (.lload_n 1, 1) := by decide +kernel
theorem dX6_sample_67 : decode cX6_sample 67 = .ok (.lastore, 1) := by decide +kernel
theorem dX6_sample_68 : decode cX6_sample 68 = .ok (.iinc 3 1, 3) := by decide +kernel
theorem dX6_sample_71 : decode cX6_sample 71 = .ok (.goto (-67), 3) := by decide +kernel
theorem dX6_sample_74 : decode cX6_sample 74 = .ok (.iconst 0, 1) := by decide +kernel
theorem dX6_sample_75 : decode cX6_sample 75 = .ok (.istore_n 3, 1) := by decide +kernel
theorem dX6_sample_76 : decode cX6_sample 76 = .ok (.iload_n 3, 1) := by decide +kernel
theorem dX6_sample_77 : decode cX6_sample 77 = .ok (.iconst 3, 1) := by decide +kernel
theorem dX6_sample_78 : decode cX6_sample 78 = .ok (.if_icmp .ge 105, 3) := by decide +kernel
theorem dX6_sample_81 : decode cX6_sample 81 = .ok (.aload_n 0, 1) := by decide +kernel
theorem dX6_sample_82 : decode cX6_sample 82 = .ok (.getfield 7, 3) := by decide +kernel
theorem dX6_sample_85 : decode cX6_sample 85 = .ok (.iload_n 3, 1) := by decide +kernel
theorem dX6_sample_86 : decode cX6_sample 86 = .ok (.laload, 1) := by decide +kernel
theorem dX6_sample_87 : decode cX6_sample 87 = .ok (.aload_n 0, 1) := by decide +kernel
theorem dX6_sample_88 : decode cX6_sample 88 = .ok (.getfield 26, 3) := by decide +kernel
theorem dX6_sample_91 : decode cX6_sample 91 = .ok (.iload_n 3, 1) := by decide +kernel
theorem dX6_sample_92 : decode cX6_sample 92 = .ok (.laload, 1) := by decide +kernel
theorem dX6_sample_93 : decode cX6_sample 93 = .ok (.lmul, 1) := by decide +kernel
theorem dX6_sample_94 : decode cX6_sample 94 = .ok (.aload_n 0, 1) := by decide +kernel
theorem dX6_sample_95 : decode cX6_sample 95 = .ok (.getfield 13, 3) := by decide +kernel
theorem dX6_sample_98 : decode cX6_sample 98 = .ok (.iload_n 3, 1) := by decide +kernel
theorem dX6_sample_99 : decode cX6_sample 99 = .ok (.laload, 1) := by decide +kernel
theorem dX6_sample_100 : decode cX6_sample 100 = .ok (.aload_n 0, 1) := by decide +kernel
theorem dX6_sample_101 : decode cX6_sample 101 = .ok (.getfield 29, 3) := by decide +kernel
theorem dX6_sample_104 : decode cX6_sample 104 = .ok (.iload_n 3, 1) := by decide +kernel
theorem dX6_sample_105 : decode cX6_sample 105 = .ok (.laload, 1) := by decide +kernel
theorem dX6_sample_106 : decode cX6_sample 106 = .ok (.lmul, 1) := by decide +kernel
theorem dX6_sample_107 : decode cX6_sample 107 = .ok (.ladd, 1) := by decide +kernel
theorem dX6_sample_108 : decode cX6_sample 108 = .ok (.aload_n 0, 1) := by decide +kernel
theorem dX6_sample_109 : decode cX6_sample 109 = .ok (.getfield 16, 3) := by decide +kernel
theorem dX6_sample_112 : decode cX6_sample 112 = .ok (.iload_n 3, 1) := by decide +kernel
theorem dX6_sample_113 : decode cX6_sample 113 = .ok (.laload, 1) := by decide +kernel
theorem dX6_sample_114 : decode cX6_sample 114 = .ok (.aload_n 0, 1) := by decide +kernel
theorem dX6_sample_115 : decode cX6_sample 115 = .ok (.getfield 32, 3) := by decide +kernel
theorem dX6_sample_118 : decode cX6_sample 118 = .ok (.bipush 11, 2) := by decide +kernel
theorem dX6_sample_120 : decode cX6_sample 120 = .ok (.iload_n 3, 1) := by decide +kernel
theorem dX6_sample_121 : decode cX6_sample 121 = .ok (.imul, 1) := by decide +kernel
theorem dX6_sample_122 : decode cX6_sample 122 = .ok (.aload_n 0, 1) := by decide +kernel
theorem dX6_sample_123 : decode cX6_sample 123 = .ok (.getfield 19, 3) := by decide +kernel
theorem dX6_sample_126 : decode cX6_sample 126 = .ok (.iload_n 3, 1) := by decide +kernel
theorem dX6_sample_127 : decode cX6_sample 127 = .ok (.iaload, 1) := by decide +kernel
theorem dX6_sample_128 : decode cX6_sample 128 = .ok (.iadd, 1) := by decide +kernel
theorem dX6_sample_129 : decode cX6_sample 129 = .ok (.laload, 1) := by decide +kernel
theorem dX6_sample_130 : decode cX6_sample 130 = .ok (.lmul, 1) := by decide +kernel
theorem dX6_sample_131 : decode cX6_sample 131 = .ok (.ladd, 1) := by decide +kernel
theorem dX6_sample_132 : decode cX6_sample 132 = .ok (.lstore 4, 2) := by decide +kernel
theorem dX6_sample_134 : decode cX6_sample 134 = .ok (.aload_n 0, 1) := by decide +kernel
theorem dX6_sample_135 : decode cX6_sample 135 = .ok (.getfield 29, 3) := by decide +kernel
theorem dX6_sample_138 : decode cX6_sample 138 = .ok (.iload_n 3, 1) := by decide +kernel
theorem dX6_sample_139 : decode cX6_sample 139 = .ok (.aload_n 0, 1) := by decide +kernel
theorem dX6_sample_140 : decode cX6_sample 140 = .ok (.getfield 26, 3) := by decide +kernel
theorem dX6_sample_143 : decode cX6_sample 143 = .ok (.iload_n 3, 1) := by decide +kernel
theorem dX6_sample_144 : decode cX6_sample 144 = .ok (.laload, 1) := by decide +kernel
theorem dX6_sample_145 : decode cX6_sample 145 = .ok (.lastore, 1) := by decide +kernel
theorem dX6_sample_146 : decode cX6_sample 146 = .ok (.aload_n 0, 1) := by decide +kernel
theorem dX6_sample_147 : decode cX6_sample 147 = .ok (.getfield 26, 3) := by decide +kernel
theorem dX6_sample_150 : decode cX6_sample 150 = .ok (.iload_n 3, 1) := by decide +kernel
theorem dX6_sample_151 : decode cX6_sample 151 = .ok (.lload 4, 2) := by decide +kernel
theorem dX6_sample_153 : decode cX6_sample 153 = .ok (.ldc2_w 136, 3) := by decide +kernel
theorem dX6_sample_156 : decode cX6_sample 156 = .ok (.invokestatic 182, 3) := by decide +kernel
theorem dX6_sample_159 : decode cX6_sample 159 = .ok (.aload_n 0, 1) := by decide +kernel
theorem dX6_sample_160 : decode cX6_sample 160 = .ok (.getfield 23, 3) := by decide +kernel
theorem dX6_sample_163 : decode cX6_sample 163 = .ok (.iload_n 3, 1) := by decide +kernel
theorem dX6_sample_164 : decode cX6_sample 164 = .ok (.iaload, 1) := by decide +kernel
theorem dX6_sample_165 : decode cX6_sample 165 = .ok (.i2l, 1) := by decide +kernel
theorem dX6_sample_166 : decode cX6_sample 166 = .ok (.ladd, 1) := by decide +kernel
theorem dX6_sample_167 : decode cX6_sample 167 = .ok (.ldc2_w 207, 3) := by decide +kernel
theorem dX6_sample_170 : decode cX6_sample 170 = .ok (.ldc2_w 209, 3) := by decide +kernel
theorem dX6_sample_173 : decode cX6_sample 173 = .ok (.invokestatic 190, 3) := by decide +kernel
theorem dX6_sample_176 : decode cX6_sample 176 = .ok (.lastore, 1) := by decide +kernel
theorem dX6_sample_177 : decode cX6_sample 177 = .ok (.iinc 3 1, 3) := by decide +kernel
theorem dX6_sample_180 : decode cX6_sample 180 = .ok (.goto (-104), 3) := by decide +kernel
theorem dX6_sample_183 : decode cX6_sample 183 = .ok (.aload_n 0, 1) := by decide +kernel
theorem dX6_sample_184 : decode cX6_sample 184 = .ok (.dup, 1) := by decide +kernel
theorem dX6_sample_185 : decode cX6_sample 185 = .ok (.getfield 211, 3) := by decide +kernel
theorem dX6_sample_188 : decode cX6_sample 188 = .ok (.iconst 1, 1) := by decide +kernel
theorem dX6_sample_189 : decode cX6_sample 189 = .ok (.iadd, 1) := by decide +kernel
theorem dX6_sample_190 : decode cX6_sample 190 = .ok (.putfield 211, 3) := by decide +kernel
theorem dX6_sample_193 : decode cX6_sample 193 = .ok (.return_, 1) := by decide +kernel
set_option maxRecDepth 20000 in
theorem ggX6_run_X6_isIn : GoodIn wsX6_run wsX6_isIn := goodIn_r _ [5] (by decide +kernel) (by decide +kernel)
set_option maxRecDepth 20000 in
theorem gX6_run_X6_isIn : GoodIn wsX6_run (va_wsS RX6 146 yX6_isIn wsX6_isIn) := goodIn_app (goodIn_of _ (by decide +kernel)) ggX6_run_X6_isIn
set_option maxRecDepth 20000 in
theorem ggX6_run_X6_can : GoodIn wsX6_run wsX6_can := goodIn_r _ [9, 10, 100, 101, 102, 103, 104, 105, 106, 107, 108, 109, 110, 111, 112, 113, 114, 115, 116, 117, 118, 119, 120, 121, 122, 123, 124, 125, 126, 127, 128, 129, 130, 131, 132, 133, 134, 135, 136, 137, 138, 139, 140, 141] (by decide +kernel) (by decide +kernel)
set_option maxRecDepth 20000 in
theorem gX6_run_X6_can : GoodIn wsX6_run (wsV RX6 156 RX6 yX6_can wsX6_can) := goodIn_app (goodIn_of _ (by decide +kernel)) ggX6_run_X6_can
set_option maxRecDepth 20000 in
theorem ggX6_run_X6_sample : GoodIn wsX6_run wsX6_sample := goodIn_r _ [14, 15, 16, 17, 18, 19, 20, 21, 22, 23, 24, 25, 1, 26, 27, 28, 4, 29, 30, 31, 32, 33, 34, 35, 36, 37, 38, 39, 40, 41, 42, 43, 44, 45, 46, 47, 48, 49, 50, 51, 52, 53, 54, 55, 56, 57, 58, 59, 60, 61, 62, 63, 64, 65, 66, 67, 68, 69, 70, 71, 72, 73, 74, 75, 76, 77, 78, 79, 80, 81, 82, 83, 84, 85, 86, 87, 88, 89, 90, 91, 92, 93, 94, 95, 96, 97, 98, 99, 100, 101, 102, 103, 104, 105, 106, 107, 108, 109, 110, 111, 112, 113, 114, 115, 116, 117, 118, 119, 120, 121, 122, 123, 124, 125, 126, 127, 128, 129, 130, 131, 132, 133, 134, 135, 136, 137, 138, 139, 140, 141] (by decide +kernel) (by decide +kernel)
set_option maxRecDepth 20000 in
theorem gX6_run_X6_sample : GoodIn wsX6_run (wsV RX6 214 RX6 yX6_sample wsX6_sample) := goodIn_app (goodIn_of _ (by decide +kernel)) ggX6_run_X6_sample
theorem dX6_run_0 : decode cX6_run 0 = .ok (.aload_n 0, 1) := by decide +kernel
theorem dX6_run_1 : decode cX6_run 1 = .ok (.iload_n 1, 1) := by decide +kernel
theorem dX6_run_2 : decode cX6_run 2 = .ok (.iconst 1, 1) := by decide +kernel
theorem dX6_run_3 : decode cX6_run 3 = .ok (.sipush 200, 3) := by decide +kernel
theorem dX6_run_6 : decode cX6_run 6 = .ok (.invokestatic 146, 3) := by decide +kernel
theorem dX6_run_9 : decode cX6_run 9 = .ok (.ifCond .eq 7, 3) := by decide +kernel
theorem dX6_run_12 : decode cX6_run 12 = .ok (.iconst 0, 1) := by decide +kernel
theorem dX6_run_13 : decode cX6_run 13 = .ok (.goto 4, 3) := by decide +kernel
theorem dX6_run_16 : decode cX6_run 16 = .ok (.iconst 1, 1) := by decide +kernel
theorem dX6_run_17 : decode cX6_run 17 = .ok (.invokevirtual 156, 3) := by decide +kernel
theorem dX6_run_20 : decode cX6_run 20 = .ok (.ifCond .ne 5, 3) := by decide +kernel
theorem dX6_run_23 : decode cX6_run 23 = .ok (.iconst 0, 1) := by decide +kernel
theorem dX6_run_24 : decode cX6_run 24 = .ok (.ireturn, 1) := by decide +kernel
theorem dX6_run_25 : decode cX6_run 25 = .ok (.iconst 0, 1) := by decide +kernel
theorem dX6_run_26 : decode cX6_run 26 = .ok (.istore_n 2, 1) := by decide +kernel
theorem dX6_run_27 : decode cX6_run 27 = .ok (.iload_n 2, 1) := by decide +kernel
theorem dX6_run_28 : decode cX6_run 28 = .ok (.iload_n 1, 1) := by decide +kernel
theorem dX6_run_29 : decode cX6_run 29 = .ok (.if_icmp .ge 13, 3) := by decide +kernel
theorem dX6_run_32 : decode cX6_run 32 = .ok (.aload_n 0, 1) := by decide +kernel
theorem dX6_run_33 : decode cX6_run 33 = .ok (.invokevirtual 214, 3) := by decide +kernel
theorem dX6_run_36 : decode cX6_run 36 = .ok (.iinc 2 1, 3) := by decide +kernel
theorem dX6_run_39 : decode cX6_run 39 = .ok (.goto (-12), 3) := by decide +kernel
theorem dX6_run_42 : decode cX6_run 42 = .ok (.aload_n 0, 1) := by decide +kernel
theorem dX6_run_43 : decode cX6_run 43 = .ok (.getfield 211, 3) := by decide +kernel
theorem dX6_run_46 : decode cX6_run 46 = .ok (.ireturn, 1) := by decide +kernel
set_option maxRecDepth 20000 in
theorem ggX6_isAsked_X6_isLoop : GoodIn wsX6_isAsked wsX6_isLoop := goodIn_r _ [4] (by decide +kernel) (by decide +kernel)
set_option maxRecDepth 20000 in
theorem gX6_isAsked_X6_isLoop : GoodIn wsX6_isAsked (va_wsS RX6 152 yX6_isLoop wsX6_isLoop) := goodIn_app (goodIn_of _ (by decide +kernel)) ggX6_isAsked_X6_isLoop
set_option maxRecDepth 20000 in
theorem ggX6_isAsked_X6_can : GoodIn wsX6_isAsked wsX6_can := goodIn_r _ [8, 9, 10, 11, 12, 13, 14, 15, 16, 17, 18, 19, 20, 21, 22, 23, 24, 25, 26, 27, 28, 29, 30, 31, 32, 33, 34, 35, 36, 37, 38, 39, 40, 41, 42, 43, 44, 45, 46, 47, 48, 49, 50, 51] (by decide +kernel) (by decide +kernel)
set_option maxRecDepth 20000 in
theorem gX6_isAsked_X6_can : GoodIn wsX6_isAsked (wsV RX6 156 RX6 yX6_can wsX6_can) := goodIn_app (goodIn_of _ (by decide +kernel)) ggX6_isAsked_X6_can
theorem dX6_isAsked_0 : decode cX6_isAsked 0 = .ok (.aload_n 0, 1) := by decide +kernel
theorem dX6_isAsked_1 : decode cX6_isAsked 1 = .ok (.iload_n 1, 1) := by decide +kernel
theorem dX6_isAsked_2 : decode cX6_isAsked 2 = .ok (.invokestatic 152, 3) := by decide +kernel
theorem dX6_isAsked_5 : decode cX6_isAsked 5 = .ok (.ifCond .eq 7, 3) := by decide +kernel
theorem dX6_isAsked_8 : decode cX6_isAsked 8 = .ok (.iconst 0, 1) := by decide +kernel
theorem dX6_isAsked_9 : decode cX6_isAsked 9 = .ok (.goto 4, 3) := by decide +kernel
theorem dX6_isAsked_12 : decode cX6_isAsked 12 = .ok (.iconst 1, 1) := by decide +kernel
theorem dX6_isAsked_13 : decode cX6_isAsked 13 = .ok (.invokevirtual 156, 3) := by decide +kernel
theorem dX6_isAsked_16 : decode cX6_isAsked 16 = .ok (.ireturn, 1) := by decide +kernel
set_option maxRecDepth 20000 in
theorem ggX6_measure_X6_isAsked : GoodIn wsX6_measure wsX6_isAsked := goodIn_r _ [6, 7, 8, 5, 9, 10, 11, 12, 13, 14, 15, 16, 17, 18, 19, 20, 21, 22, 23, 24, 25, 26, 27, 28, 29, 30, 31, 32, 33, 34, 35, 36, 37, 38, 39, 40, 41, 42, 43, 44, 45, 46, 47, 48, 49, 50, 51, 52, 53, 54, 55, 56] (by decide +kernel) (by decide +kernel)
set_option maxRecDepth 20000 in
theorem gX6_measure_X6_isAsked : GoodIn wsX6_measure (wsV RX6 217 RX6 yX6_isAsked wsX6_isAsked) := goodIn_app (goodIn_of _ (by decide +kernel)) ggX6_measure_X6_isAsked
theorem dX6_measure_0 : decode cX6_measure 0 = .ok (.aload_n 0, 1) := by decide +kernel
theorem dX6_measure_1 : decode cX6_measure 1 = .ok (.iload_n 1, 1) := by decide +kernel
theorem dX6_measure_2 : decode cX6_measure 2 = .ok (.invokevirtual 217, 3) := by decide +kernel
theorem dX6_measure_5 : decode cX6_measure 5 = .ok (.ifCond .eq 12, 3) := by decide +kernel
theorem dX6_measure_8 : decode cX6_measure 8 = .ok (.aload_n 0, 1) := by decide +kernel
theorem dX6_measure_9 : decode cX6_measure 9 = .ok (.getfield 26, 3) := by decide +kernel
theorem dX6_measure_12 : decode cX6_measure 12 = .ok (.iload_n 1, 1) := by decide +kernel
theorem dX6_measure_13 : decode cX6_measure 13 = .ok (.laload, 1) := by decide +kernel
theorem dX6_measure_14 : decode cX6_measure 14 = .ok (.goto 4, 3) := by decide +kernel
theorem dX6_measure_17 : decode cX6_measure 17 = .ok (.lconst 0, 1) := by decide +kernel
theorem dX6_measure_18 : decode cX6_measure 18 = .ok (.lreturn, 1) := by decide +kernel
set_option maxRecDepth 20000 in
theorem ggX6_output_X6_isAsked : GoodIn wsX6_output wsX6_isAsked := goodIn_r _ [5, 6, 7, 4, 8, 9, 10, 11, 12, 13, 19, 20, 21, 22, 23, 24, 25, 26, 27, 28, 29, 30, 31, 32, 33, 34, 35, 36, 37, 38, 39, 40, 41, 42, 43, 44, 45, 46, 47, 48, 49, 50, 51, 52, 53, 54, 55, 56, 57, 58, 59, 60] (by decide +kernel) (by decide +kernel)
set_option maxRecDepth 20000 in
theorem gX6_output_X6_isAsked : GoodIn wsX6_output (wsV RX6 217 RX6 yX6_isAsked wsX6_isAsked) := goodIn_app (goodIn_of _ (by decide +kernel)) ggX6_output_X6_isAsked
set_option maxRecDepth 20000 in
theorem ggX6_output_X6_latest : GoodIn wsX6_output wsX6_latest := goodIn_r _ [17, 18, 19, 20, 21, 22, 23, 24, 25, 26, 27, 28, 29, 30, 31, 32, 33, 34, 35, 36, 37, 38, 39, 40, 41, 42, 43, 44, 45, 46, 47, 48, 49, 50, 51, 52, 53, 54, 55, 56, 57, 58, 59, 60] (by decide +kernel) (by decide +kernel)
set_option maxRecDepth 20000 in
theorem gX6_output_X6_latest : GoodIn wsX6_output (wsV RX6 175 RX6 yX6_latest wsX6_latest) := goodIn_app (goodIn_of _ (by decide +kernel)) ggX6_output_X6_latest
theorem dX6_output_0 : decode cX6_output 0 = .ok (.aload_n 0, 1) := by decide +kernel
theorem dX6_output_1 : decode cX6_output 1 = .ok (.iload_n 1, 1) := by decide +kernel
theorem dX6_output_2 : decode cX6_output 2 = .ok (.invokevirtual 217, 3) := by decide +kernel
theorem dX6_output_5 : decode cX6_output 5 = .ok (.ifCond .eq 11, 3) := by decide +kernel
theorem dX6_output_8 : decode cX6_output 8 = .ok (.aload_n 0, 1) := by decide +kernel
theorem dX6_output_9 : decode cX6_output 9 = .ok (.iload_n 1, 1) := by decide +kernel
theorem dX6_output_10 : decode cX6_output 10 = .ok (.invokevirtual 175, 3) := by decide +kernel
theorem dX6_output_13 : decode cX6_output 13 = .ok (.goto 4, 3) := by decide +kernel
theorem dX6_output_16 : decode cX6_output 16 = .ok (.lconst 0, 1) := by decide +kernel
theorem dX6_output_17 : decode cX6_output 17 = .ok (.lreturn, 1) := by decide +kernel
set_option maxRecDepth 20000 in
theorem ggX6_outputByIncrements_X6_isAsked : GoodIn wsX6_outputByIncrements wsX6_isAsked := goodIn_r _ [7, 8, 9, 6, 10, 11, 12, 13, 14, 15, 19, 20, 21, 22, 23, 24, 25, 26, 27, 28, 29, 30, 31, 32, 33, 34, 35, 36, 37, 38, 39, 40, 41, 42, 43, 44, 45, 46, 47, 48, 49, 50, 51, 52, 53, 54, 55, 56, 57, 58, 59, 60] (by decide +kernel) (by decide +kernel)
set_option maxRecDepth 20000 in
theorem gX6_outputByIncrements_X6_isAsked : GoodIn wsX6_outputByIncrements (wsV RX6 217 RX6 yX6_isAsked wsX6_isAsked) := goodIn_app (goodIn_of _ (by decide +kernel)) ggX6_outputByIncrements_X6_isAsked
set_option maxRecDepth 20000 in
theorem ggX6_outputByIncrements_X6_floor : GoodIn wsX6_outputByIncrements wsX6_floor := goodIn_r _ [18] (by decide +kernel) (by decide +kernel)
set_option maxRecDepth 20000 in
theorem gX6_outputByIncrements_X6_floor : GoodIn wsX6_outputByIncrements (va_wsS RX6 182 yX6_floor wsX6_floor) := goodIn_app (goodIn_of _ (by decide +kernel)) ggX6_outputByIncrements_X6_floor
theorem dX6_outputByIncrements_0 : decode cX6_outputByIncrements 0 = .ok (.aload_n 0, 1) := by decide +kernel
theorem dX6_outputByIncrements_1 : decode cX6_outputByIncrements 1 = .ok (.iload_n 1, 1) := by decide +kernel
theorem dX6_outputByIncrements_2 : decode cX6_outputByIncrements 2 = .ok (.invokevirtual 217, 3) := by decide +kernel
theorem dX6_outputByIncrements_5 : decode cX6_outputByIncrements 5 = .ok (.ifCond .eq 18, 3) := by decide +kernel
theorem dX6_outputByIncrements_8 : decode cX6_outputByIncrements 8 = .ok (.aload_n 0, 1) := by decide +kernel
theorem dX6_outputByIncrements_9 : decode cX6_outputByIncrements 9 = .ok (.getfield 75, 3) := by decide +kernel
theorem dX6_outputByIncrements_12 : decode cX6_outputByIncrements 12 = .ok (.iload_n 1, 1) := by decide +kernel
theorem dX6_outputByIncrements_13 : decode cX6_outputByIncrements 13 = .ok (.laload, 1) := by decide +kernel
theorem dX6_outputByIncrements_14 : decode cX6_outputByIncrements 14 = .ok (.ldc2_w 136, 3) := by decide +kernel
theorem dX6_outputByIncrements_17 : decode cX6_outputByIncrements 17 = .ok (.invokestatic 182, 3) := by decide +kernel
theorem dX6_outputByIncrements_20 : decode cX6_outputByIncrements 20 = .ok (.goto 4, 3) := by decide +kernel
theorem dX6_outputByIncrements_23 : decode cX6_outputByIncrements 23 = .ok (.lconst 0, 1) := by decide +kernel
theorem dX6_outputByIncrements_24 : decode cX6_outputByIncrements 24 = .ok (.lreturn, 1) := by decide +kernel
set_option maxRecDepth 20000 in
theorem ggX6_setpoint_X6_isAsked : GoodIn wsX6_setpoint wsX6_isAsked := goodIn_r _ [6, 7, 8, 5, 9, 10, 11, 12, 13, 14, 15, 16, 17, 18, 19, 20, 21, 22, 23, 24, 25, 26, 27, 28, 29, 30, 31, 32, 33, 34, 35, 36, 37, 38, 39, 40, 41, 42, 43, 44, 45, 46, 47, 48, 49, 50, 51, 52, 53, 54, 55, 56] (by decide +kernel) (by decide +kernel)
set_option maxRecDepth 20000 in
theorem gX6_setpoint_X6_isAsked : GoodIn wsX6_setpoint (wsV RX6 217 RX6 yX6_isAsked wsX6_isAsked) := goodIn_app (goodIn_of _ (by decide +kernel)) ggX6_setpoint_X6_isAsked
theorem dX6_setpoint_0 : decode cX6_setpoint 0 = .ok (.aload_n 0, 1) := by decide +kernel
theorem dX6_setpoint_1 : decode cX6_setpoint 1 = .ok (.iload_n 1, 1) := by decide +kernel
theorem dX6_setpoint_2 : decode cX6_setpoint 2 = .ok (.invokevirtual 217, 3) := by decide +kernel
theorem dX6_setpoint_5 : decode cX6_setpoint 5 = .ok (.ifCond .eq 12, 3) := by decide +kernel
theorem dX6_setpoint_8 : decode cX6_setpoint 8 = .ok (.aload_n 0, 1) := by decide +kernel
theorem dX6_setpoint_9 : decode cX6_setpoint 9 = .ok (.getfield 44, 3) := by decide +kernel
theorem dX6_setpoint_12 : decode cX6_setpoint 12 = .ok (.iload_n 1, 1) := by decide +kernel
theorem dX6_setpoint_13 : decode cX6_setpoint 13 = .ok (.laload, 1) := by decide +kernel
theorem dX6_setpoint_14 : decode cX6_setpoint 14 = .ok (.goto 4, 3) := by decide +kernel
theorem dX6_setpoint_17 : decode cX6_setpoint 17 = .ok (.lconst 0, 1) := by decide +kernel
theorem dX6_setpoint_18 : decode cX6_setpoint 18 = .ok (.lreturn, 1) := by decide +kernel
set_option maxRecDepth 20000 in
theorem ggX6_integral_X6_isAsked : GoodIn wsX6_integral wsX6_isAsked := goodIn_r _ [6, 7, 8, 5, 9, 10, 11, 12, 13, 14, 15, 16, 17, 18, 19, 20, 21, 22, 23, 24, 25, 26, 27, 28, 29, 30, 31, 32, 33, 34, 35, 36, 37, 38, 39, 40, 41, 42, 43, 44, 45, 46, 47, 48, 49, 50, 51, 52, 53, 54, 55, 56] (by decide +kernel) (by decide +kernel)
set_option maxRecDepth 20000 in
theorem gX6_integral_X6_isAsked : GoodIn wsX6_integral (wsV RX6 217 RX6 yX6_isAsked wsX6_isAsked) := goodIn_app (goodIn_of _ (by decide +kernel)) ggX6_integral_X6_isAsked
theorem dX6_integral_0 : decode cX6_integral 0 = .ok (.aload_n 0, 1) := by decide +kernel
theorem dX6_integral_1 : decode cX6_integral 1 = .ok (.iload_n 1, 1) := by decide +kernel
theorem dX6_integral_2 : decode cX6_integral 2 = .ok (.invokevirtual 217, 3) := by decide +kernel
theorem dX6_integral_5 : decode cX6_integral 5 = .ok (.ifCond .eq 12, 3) := by decide +kernel
theorem dX6_integral_8 : decode cX6_integral 8 = .ok (.aload_n 0, 1) := by decide +kernel
theorem dX6_integral_9 : decode cX6_integral 9 = .ok (.getfield 47, 3) := by decide +kernel
theorem dX6_integral_12 : decode cX6_integral 12 = .ok (.iload_n 1, 1) := by decide +kernel
theorem dX6_integral_13 : decode cX6_integral 13 = .ok (.laload, 1) := by decide +kernel
theorem dX6_integral_14 : decode cX6_integral 14 = .ok (.goto 4, 3) := by decide +kernel
theorem dX6_integral_17 : decode cX6_integral 17 = .ok (.lconst 0, 1) := by decide +kernel
theorem dX6_integral_18 : decode cX6_integral 18 = .ok (.lreturn, 1) := by decide +kernel
set_option maxRecDepth 20000 in
theorem ggX6_gain_X6_isLoop : GoodIn wsX6_gain wsX6_isLoop := goodIn_r _ [5] (by decide +kernel) (by decide +kernel)
set_option maxRecDepth 20000 in
theorem gX6_gain_X6_isLoop : GoodIn wsX6_gain (va_wsS RX6 152 yX6_isLoop wsX6_isLoop) := goodIn_app (goodIn_of _ (by decide +kernel)) ggX6_gain_X6_isLoop
set_option maxRecDepth 20000 in
theorem ggX6_gain_X6_isIn : GoodIn wsX6_gain wsX6_isIn := goodIn_r _ [8] (by decide +kernel) (by decide +kernel)
set_option maxRecDepth 20000 in
theorem gX6_gain_X6_isIn : GoodIn wsX6_gain (va_wsS RX6 146 yX6_isIn wsX6_isIn) := goodIn_app (goodIn_of _ (by decide +kernel)) ggX6_gain_X6_isIn
set_option maxRecDepth 20000 in
theorem ggX6_gain_X6_can : GoodIn wsX6_gain wsX6_can := goodIn_r _ [12, 13, 14, 15, 16, 17, 18, 19, 20, 21, 22, 23, 24, 25, 26, 27, 28, 29, 30, 31, 32, 33, 34, 35, 36, 37, 38, 39, 40, 41, 42, 43, 44, 45, 46, 47, 48, 49, 50, 51, 52, 53, 54, 55] (by decide +kernel) (by decide +kernel)
set_option maxRecDepth 20000 in
theorem gX6_gain_X6_can : GoodIn wsX6_gain (wsV RX6 156 RX6 yX6_can wsX6_can) := goodIn_app (goodIn_of _ (by decide +kernel)) ggX6_gain_X6_can
theorem dX6_gain_0 : decode cX6_gain 0 = .ok (.aload_n 0, 1) := by decide +kernel
theorem dX6_gain_1 : decode cX6_gain 1 = .ok (.iload_n 1, 1) := by decide +kernel
theorem dX6_gain_2 : decode cX6_gain 2 = .ok (.invokestatic 152, 3) := by decide +kernel
theorem dX6_gain_5 : decode cX6_gain 5 = .ok (.ifCond .eq 16, 3) := by decide +kernel
theorem dX6_gain_8 : decode cX6_gain 8 = .ok (.iload_n 2, 1) := by decide +kernel
theorem dX6_gain_9 : decode cX6_gain 9 = .ok (.iconst 0, 1) := by decide +kernel
theorem dX6_gain_10 : decode cX6_gain 10 = .ok (.iconst 2, 1) := by decide +kernel
theorem dX6_gain_11 : decode cX6_gain 11 = .ok (.invokestatic 146, 3) := by decide +kernel
theorem dX6_gain_14 : decode cX6_gain 14 = .ok (.ifCond .eq 7, 3) := by decide +kernel
theorem dX6_gain_17 : decode cX6_gain 17 = .ok (.iconst 0, 1) := by decide +kernel
theorem dX6_gain_18 : decode cX6_gain 18 = .ok (.goto 4, 3) := by decide +kernel
theorem dX6_gain_21 : decode cX6_gain 21 = .ok (.iconst 1, 1) := by decide +kernel
theorem dX6_gain_22 : decode cX6_gain 22 = .ok (.invokevirtual 156, 3) := by decide +kernel
theorem dX6_gain_25 : decode cX6_gain 25 = .ok (.ifCond .eq 17, 3) := by decide +kernel
theorem dX6_gain_28 : decode cX6_gain 28 = .ok (.aload_n 0, 1) := by decide +kernel
theorem dX6_gain_29 : decode cX6_gain 29 = .ok (.getfield 35, 3) := by decide +kernel
theorem dX6_gain_32 : decode cX6_gain 32 = .ok (.iconst 3, 1) := by decide +kernel
theorem dX6_gain_33 : decode cX6_gain 33 = .ok (.iload_n 1, 1) := by decide +kernel
theorem dX6_gain_34 : decode cX6_gain 34 = .ok (.imul, 1) := by decide +kernel
theorem dX6_gain_35 : decode cX6_gain 35 = .ok (.iload_n 2, 1) := by decide +kernel
theorem dX6_gain_36 : decode cX6_gain 36 = .ok (.iadd, 1) := by decide +kernel
theorem dX6_gain_37 : decode cX6_gain 37 = .ok (.laload, 1) := by decide +kernel
theorem dX6_gain_38 : decode cX6_gain 38 = .ok (.l2i, 1) := by decide +kernel
theorem dX6_gain_39 : decode cX6_gain 39 = .ok (.goto 4, 3) := by decide +kernel
theorem dX6_gain_42 : decode cX6_gain 42 = .ok (.iconst 0, 1) := by decide +kernel
theorem dX6_gain_43 : decode cX6_gain 43 = .ok (.ireturn, 1) := by decide +kernel
set_option maxRecDepth 20000 in
theorem ggX6_mode_X6_isAsked : GoodIn wsX6_mode wsX6_isAsked := goodIn_r _ [6, 7, 8, 5, 9, 10, 11, 12, 13, 14, 15, 16, 17, 18, 19, 20, 21, 22, 23, 24, 25, 26, 27, 28, 29, 30, 31, 32, 33, 34, 35, 36, 37, 38, 39, 40, 41, 42, 43, 44, 45, 46, 47, 48, 49, 50, 51, 52, 53, 54, 55, 56] (by decide +kernel) (by decide +kernel)
set_option maxRecDepth 20000 in
theorem gX6_mode_X6_isAsked : GoodIn wsX6_mode (wsV RX6 217 RX6 yX6_isAsked wsX6_isAsked) := goodIn_app (goodIn_of _ (by decide +kernel)) ggX6_mode_X6_isAsked
theorem dX6_mode_0 : decode cX6_mode 0 = .ok (.aload_n 0, 1) := by decide +kernel
theorem dX6_mode_1 : decode cX6_mode 1 = .ok (.iload_n 1, 1) := by decide +kernel
theorem dX6_mode_2 : decode cX6_mode 2 = .ok (.invokevirtual 217, 3) := by decide +kernel
theorem dX6_mode_5 : decode cX6_mode 5 = .ok (.ifCond .eq 12, 3) := by decide +kernel
theorem dX6_mode_8 : decode cX6_mode 8 = .ok (.aload_n 0, 1) := by decide +kernel
theorem dX6_mode_9 : decode cX6_mode 9 = .ok (.getfield 56, 3) := by decide +kernel
theorem dX6_mode_12 : decode cX6_mode 12 = .ok (.iload_n 1, 1) := by decide +kernel
theorem dX6_mode_13 : decode cX6_mode 13 = .ok (.iaload, 1) := by decide +kernel
theorem dX6_mode_14 : decode cX6_mode 14 = .ok (.goto 4, 3) := by decide +kernel
theorem dX6_mode_17 : decode cX6_mode 17 = .ok (.iconst 0, 1) := by decide +kernel
theorem dX6_mode_18 : decode cX6_mode 18 = .ok (.ireturn, 1) := by decide +kernel
set_option maxRecDepth 20000 in
theorem ggX6_wasStarved_X6_isAsked : GoodIn wsX6_wasStarved wsX6_isAsked := goodIn_r _ [6, 7, 8, 5, 9, 10, 11, 12, 13, 14, 15, 16, 17, 18, 19, 20, 21, 22, 23, 24, 25, 26, 27, 28, 29, 30, 31, 32, 33, 34, 35, 36, 37, 38, 39, 40, 41, 42, 43, 44, 45, 46, 47, 48, 49, 50, 51, 52, 53, 54, 55, 56] (by decide +kernel) (by decide +kernel)
set_option maxRecDepth 20000 in
theorem gX6_wasStarved_X6_isAsked : GoodIn wsX6_wasStarved (wsV RX6 217 RX6 yX6_isAsked wsX6_isAsked) := goodIn_app (goodIn_of _ (by decide +kernel)) ggX6_wasStarved_X6_isAsked
theorem dX6_wasStarved_0 : decode cX6_wasStarved 0 = .ok (.aload_n 0, 1) := by decide +kernel
theorem dX6_wasStarved_1 : decode cX6_wasStarved 1 = .ok (.iload_n 1, 1) := by decide +kernel
theorem dX6_wasStarved_2 : decode cX6_wasStarved 2 = .ok (.invokevirtual 217, 3) := by decide +kernel
theorem dX6_wasStarved_5 : decode cX6_wasStarved 5 = .ok (.ifCond .eq 16, 3) := by decide +kernel
theorem dX6_wasStarved_8 : decode cX6_wasStarved 8 = .ok (.aload_n 0, 1) := by decide +kernel
theorem dX6_wasStarved_9 : decode cX6_wasStarved 9 = .ok (.getfield 69, 3) := by decide +kernel
theorem dX6_wasStarved_12 : decode cX6_wasStarved 12 = .ok (.iload_n 1, 1) := by decide +kernel
theorem dX6_wasStarved_13 : decode cX6_wasStarved 13 = .ok (.baload, 1) := by decide +kernel
theorem dX6_wasStarved_14 : decode cX6_wasStarved 14 = .ok (.ifCond .eq 7, 3) := by decide +kernel
theorem dX6_wasStarved_17 : decode cX6_wasStarved 17 = .ok (.iconst 1, 1) := by decide +kernel
theorem dX6_wasStarved_18 : decode cX6_wasStarved 18 = .ok (.goto 4, 3) := by decide +kernel
theorem dX6_wasStarved_21 : decode cX6_wasStarved 21 = .ok (.iconst 0, 1) := by decide +kernel
theorem dX6_wasStarved_22 : decode cX6_wasStarved 22 = .ok (.ireturn, 1) := by decide +kernel
set_option maxRecDepth 20000 in
theorem ggX6_held_X6_isAsked : GoodIn wsX6_held wsX6_isAsked := goodIn_r _ [6, 7, 8, 5, 9, 10, 11, 12, 13, 14, 15, 16, 17, 18, 19, 20, 21, 22, 23, 24, 25, 26, 27, 28, 29, 30, 31, 32, 33, 34, 35, 36, 37, 38, 39, 40, 41, 42, 43, 44, 45, 46, 47, 48, 49, 50, 51, 52, 53, 54, 55, 56] (by decide +kernel) (by decide +kernel)
set_option maxRecDepth 20000 in
theorem gX6_held_X6_isAsked : GoodIn wsX6_held (wsV RX6 217 RX6 yX6_isAsked wsX6_isAsked) := goodIn_app (goodIn_of _ (by decide +kernel)) ggX6_held_X6_isAsked
theorem dX6_held_0 : decode cX6_held 0 = .ok (.aload_n 0, 1) := by decide +kernel
theorem dX6_held_1 : decode cX6_held 1 = .ok (.iload_n 1, 1) := by decide +kernel
theorem dX6_held_2 : decode cX6_held 2 = .ok (.invokevirtual 217, 3) := by decide +kernel
theorem dX6_held_5 : decode cX6_held 5 = .ok (.ifCond .eq 12, 3) := by decide +kernel
theorem dX6_held_8 : decode cX6_held 8 = .ok (.aload_n 0, 1) := by decide +kernel
theorem dX6_held_9 : decode cX6_held 9 = .ok (.getfield 72, 3) := by decide +kernel
theorem dX6_held_12 : decode cX6_held 12 = .ok (.iload_n 1, 1) := by decide +kernel
theorem dX6_held_13 : decode cX6_held 13 = .ok (.iaload, 1) := by decide +kernel
theorem dX6_held_14 : decode cX6_held 14 = .ok (.goto 4, 3) := by decide +kernel
theorem dX6_held_17 : decode cX6_held 17 = .ok (.iconst 0, 1) := by decide +kernel
theorem dX6_held_18 : decode cX6_held 18 = .ok (.ireturn, 1) := by decide +kernel
set_option maxRecDepth 20000 in
theorem ggX6_startRelay_X6_isLoop : GoodIn wsX6_startRelay wsX6_isLoop := goodIn_r _ [13] (by decide +kernel) (by decide +kernel)
set_option maxRecDepth 20000 in
theorem gX6_startRelay_X6_isLoop : GoodIn wsX6_startRelay (va_wsS RX6 152 yX6_isLoop wsX6_isLoop) := goodIn_app (goodIn_of _ (by decide +kernel)) ggX6_startRelay_X6_isLoop
set_option maxRecDepth 20000 in
theorem ggX6_startRelay_X6_isIn : GoodIn wsX6_startRelay wsX6_isIn := goodIn_r _ [16] (by decide +kernel) (by decide +kernel)
set_option maxRecDepth 20000 in
theorem gX6_startRelay_X6_isIn : GoodIn wsX6_startRelay (va_wsS RX6 146 yX6_isIn wsX6_isIn) := goodIn_app (goodIn_of _ (by decide +kernel)) ggX6_startRelay_X6_isIn
set_option maxRecDepth 20000 in
theorem ggX6_startRelay_X6_can : GoodIn wsX6_startRelay wsX6_can := goodIn_r _ [20, 21, 27, 28, 29, 30, 31, 32, 33, 34, 35, 36, 37, 38, 39, 40, 41, 42, 43, 44, 45, 46, 47, 48, 49, 50, 51, 52, 53, 54, 55, 56, 57, 58, 59, 60, 61, 62, 63, 64, 65, 66, 67, 68] (by decide +kernel) (by decide +kernel)
set_option maxRecDepth 20000 in
theorem gX6_startRelay_X6_can : GoodIn wsX6_startRelay (wsV RX6 156 RX6 yX6_can wsX6_can) := goodIn_app (goodIn_of _ (by decide +kernel)) ggX6_startRelay_X6_can
set_option maxRecDepth 20000 in
theorem ggX6_startRelay_X6_latest : GoodIn wsX6_startRelay wsX6_latest := goodIn_r _ [25, 26, 27, 28, 29, 30, 31, 32, 33, 34, 35, 36, 37, 38, 39, 40, 41, 42, 43, 44, 45, 46, 47, 48, 49, 50, 51, 52, 53, 54, 55, 56, 57, 58, 59, 60, 61, 62, 63, 64, 65, 66, 67, 68] (by decide +kernel) (by decide +kernel)
set_option maxRecDepth 20000 in
theorem gX6_startRelay_X6_latest : GoodIn wsX6_startRelay (wsV RX6 175 RX6 yX6_latest wsX6_latest) := goodIn_app (goodIn_of _ (by decide +kernel)) ggX6_startRelay_X6_latest
theorem dX6_startRelay_0 : decode cX6_startRelay 0 = .ok (.aload_n 0, 1) := by decide +kernel
theorem dX6_startRelay_1 : decode cX6_startRelay 1 = .ok (.iload_n 1, 1) := by decide +kernel
theorem dX6_startRelay_2 : decode cX6_startRelay 2 = .ok (.invokestatic 152, 3) := by decide +kernel
theorem dX6_startRelay_5 : decode cX6_startRelay 5 = .ok (.ifCond .ne 7, 3) := by decide +kernel
theorem dX6_startRelay_8 : decode cX6_startRelay 8 = .ok (.iconst 1, 1) := by decide +kernel
theorem dX6_startRelay_9 : decode cX6_startRelay 9 = .ok (.goto 42, 3) := by decide +kernel
theorem dX6_startRelay_12 : decode cX6_startRelay 12 = .ok (.iload_n 2, 1) := by decide +kernel
theorem dX6_startRelay_13 : decode cX6_startRelay 13 = .ok (.iconst 1, 1) := by decide +kernel
theorem dX6_startRelay_14 : decode cX6_startRelay 14 = .ok (.ldc 220, 2) := by decide +kernel
theorem dX6_startRelay_16 : decode cX6_startRelay 16 = .ok (.invokestatic 146, 3) := by decide +kernel
theorem dX6_startRelay_19 : decode cX6_startRelay 19 = .ok (.ifCond .eq 13, 3) := by decide +kernel
theorem dX6_startRelay_22 : decode cX6_startRelay 22 = .ok (.iload_n 3, 1) := by decide +kernel
theorem dX6_startRelay_23 : decode cX6_startRelay 23 = .ok (.iconst 0, 1) := by decide +kernel
theorem dX6_startRelay_24 : decode cX6_startRelay 24 = .ok (.ldc 220, 2) := by decide +kernel
theorem dX6_startRelay_26 : decode cX6_startRelay 26 = .ok (.invokestatic 146, 3) := by decide +kernel
theorem dX6_startRelay_29 : decode cX6_startRelay 29 = .ok (.ifCond .ne 7, 3) := by decide +kernel
theorem dX6_startRelay_32 : decode cX6_startRelay 32 = .ok (.iconst 2, 1) := by decide +kernel
theorem dX6_startRelay_33 : decode cX6_startRelay 33 = .ok (.goto 18, 3) := by decide +kernel
theorem dX6_startRelay_36 : decode cX6_startRelay 36 = .ok (.aload_n 0, 1) := by decide +kernel
theorem dX6_startRelay_37 : decode cX6_startRelay 37 = .ok (.getfield 56, 3) := by decide +kernel
theorem dX6_startRelay_40 : decode cX6_startRelay 40 = .ok (.iload_n 1, 1) := by decide +kernel
theorem dX6_startRelay_41 : decode cX6_startRelay 41 = .ok (.iaload, 1) := by decide +kernel
theorem dX6_startRelay_42 : decode cX6_startRelay 42 = .ok (.iconst 1, 1) := by decide +kernel
theorem dX6_startRelay_43 : decode cX6_startRelay 43 = .ok (.if_icmp .eq 7, 3) := by decide +kernel
theorem dX6_startRelay_46 : decode cX6_startRelay 46 = .ok (.iconst 3, 1) := by decide +kernel
theorem dX6_startRelay_47 : decode cX6_startRelay 47 = .ok (.goto 4, 3) := by decide +kernel
theorem dX6_startRelay_50 : decode cX6_startRelay 50 = .ok (.iconst 0, 1) := by decide +kernel
theorem dX6_startRelay_51 : decode cX6_startRelay 51 = .ok (.invokevirtual 156, 3) := by decide +kernel
theorem dX6_startRelay_54 : decode cX6_startRelay 54 = .ok (.ifCond .eq 63, 3) := by decide +kernel
theorem dX6_startRelay_57 : decode cX6_startRelay 57 = .ok (.aload_n 0, 1) := by decide +kernel
theorem dX6_startRelay_58 : decode cX6_startRelay 58 = .ok (.getfield 102, 3) := by decide +kernel
theorem dX6_startRelay_61 : decode cX6_startRelay 61 = .ok (.iload_n 1, 1) := by decide +kernel
theorem dX6_startRelay_62 : decode cX6_startRelay 62 = .ok (.iload_n 2, 1) := by decide +kernel
theorem dX6_startRelay_63 : decode cX6_startRelay 63 = .ok (.iastore, 1) := by decide +kernel
theorem dX6_startRelay_64 : decode cX6_startRelay 64 = .ok (.aload_n 0, 1) := by decide +kernel
theorem dX6_startRelay_65 : decode cX6_startRelay 65 = .ok (.getfield 105, 3) := by decide +kernel
theorem dX6_startRelay_68 : decode cX6_startRelay 68 = .ok (.iload_n 1, 1) := by decide +kernel
theorem dX6_startRelay_69 : decode cX6_startRelay 69 = .ok (.iload_n 3, 1) := by decide +kernel
theorem dX6_startRelay_70 : decode cX6_startRelay 70 = .ok (.iastore, 1) := by decide +kernel
theorem dX6_startRelay_71 : decode cX6_startRelay 71 = .ok (.aload_n 0, 1) := by decide +kernel
theorem dX6_startRelay_72 : decode cX6_startRelay 72 = .ok (.getfield 99, 3) := by decide +kernel
theorem dX6_startRelay_75 : decode cX6_startRelay 75 = .ok (.iload_n 1, 1) := by decide +kernel
theorem dX6_startRelay_76 : decode cX6_startRelay 76 = .ok (.aload_n 0, 1) := by decide +kernel
theorem dX6_startRelay_77 : decode cX6_startRelay 77 = .ok (.iload_n 1, 1) := by decide +kernel
theorem dX6_startRelay_78 : decode cX6_startRelay 78 = .ok (.invokevirtual 175, 3) := by decide +kernel
theorem dX6_startRelay_81 : decode cX6_startRelay 81 = .ok (.lastore, 1) := by decide +kernel
theorem dX6_startRelay_82 : decode cX6_startRelay 82 = .ok (.aload_n 0, 1) := by decide +kernel
theorem dX6_startRelay_83 : decode cX6_startRelay 83 = .ok (.getfield 56, 3) := by decide +kernel
theorem dX6_startRelay_86 : decode cX6_startRelay 86 = .ok (.iload_n 1, 1) := by decide +kernel
theorem dX6_startRelay_87 : decode cX6_startRelay 87 = .ok (.iconst 3, 1) := by decide +kernel
theorem dX6_startRelay_88 : decode cX6_startRelay 88 = .ok (.iastore, 1) := by decide +kernel
theorem dX6_startRelay_89 : decode cX6_startRelay 89 = .ok (.aload_n 0, 1) := by decide +kernel
theorem dX6_startRelay_90 : decode cX6_startRelay 90 = .ok (.getfield 96, 3) := by decide +kernel
theorem dX6_startRelay_93 : decode cX6_startRelay 93 = .ok (.iload_n 1, 1) := by decide +kernel
theorem dX6_startRelay_94 : decode cX6_startRelay 94 = .ok (.iconst 1, 1) := by decide +kernel
theorem dX6_startRelay_95 : decode cX6_startRelay 95 = .ok (.iastore, 1) := by decide +kernel
theorem dX6_startRelay_96 : decode cX6_startRelay 96 = .ok (.aload_n 0, 1) := by decide +kernel
theorem dX6_startRelay_97 : decode cX6_startRelay 97 = .ok (.getfield 108, 3) := by decide +kernel
theorem dX6_startRelay_100 : decode cX6_startRelay 100 = .ok (.iload_n 1, 1) := by decide +kernel
theorem dX6_startRelay_101 : decode cX6_startRelay 101 = .ok (.iconst 1, 1) := by decide +kernel
theorem dX6_startRelay_102 : decode cX6_startRelay 102 = .ok (.bastore, 1) := by decide +kernel
theorem dX6_startRelay_103 : decode cX6_startRelay 103 = .ok (.aload_n 0, 1) := by decide +kernel
theorem dX6_startRelay_104 : decode cX6_startRelay 104 = .ok (.getfield 111, 3) := by decide +kernel
theorem dX6_startRelay_107 : decode cX6_startRelay 107 = .ok (.iload_n 1, 1) := by decide +kernel
theorem dX6_startRelay_108 : decode cX6_startRelay 108 = .ok (.iconst 0, 1) := by decide +kernel
theorem dX6_startRelay_109 : decode cX6_startRelay 109 = .ok (.iastore, 1) := by decide +kernel
theorem dX6_startRelay_110 : decode cX6_startRelay 110 = .ok (.aload_n 0, 1) := by decide +kernel
theorem dX6_startRelay_111 : decode cX6_startRelay 111 = .ok (.getfield 114, 3) := by decide +kernel
theorem dX6_startRelay_114 : decode cX6_startRelay 114 = .ok (.iload_n 1, 1) := by decide +kernel
theorem dX6_startRelay_115 : decode cX6_startRelay 115 = .ok (.iconst 0, 1) := by decide +kernel
theorem dX6_startRelay_116 : decode cX6_startRelay 116 = .ok (.iastore, 1) := by decide +kernel
theorem dX6_startRelay_117 : decode cX6_startRelay 117 = .ok (.return_, 1) := by decide +kernel
set_option maxRecDepth 20000 in
theorem ggX6_experiment_X6_isAsked : GoodIn wsX6_experiment wsX6_isAsked := goodIn_r _ [6, 7, 8, 5, 9, 10, 11, 12, 13, 14, 15, 16, 17, 18, 19, 20, 21, 22, 23, 24, 25, 26, 27, 28, 29, 30, 31, 32, 33, 34, 35, 36, 37, 38, 39, 40, 41, 42, 43, 44, 45, 46, 47, 48, 49, 50, 51, 52, 53, 54, 55, 56] (by decide +kernel) (by decide +kernel)
set_option maxRecDepth 20000 in
theorem gX6_experiment_X6_isAsked : GoodIn wsX6_experiment (wsV RX6 217 RX6 yX6_isAsked wsX6_isAsked) := goodIn_app (goodIn_of _ (by decide +kernel)) ggX6_experiment_X6_isAsked
theorem dX6_experiment_0 : decode cX6_experiment 0 = .ok (.aload_n 0, 1) := by decide +kernel
theorem dX6_experiment_1 : decode cX6_experiment 1 = .ok (.iload_n 1, 1) := by decide +kernel
theorem dX6_experiment_2 : decode cX6_experiment 2 = .ok (.invokevirtual 217, 3) := by decide +kernel
theorem dX6_experiment_5 : decode cX6_experiment 5 = .ok (.ifCond .eq 12, 3) := by decide +kernel
theorem dX6_experiment_8 : decode cX6_experiment 8 = .ok (.aload_n 0, 1) := by decide +kernel
theorem dX6_experiment_9 : decode cX6_experiment 9 = .ok (.getfield 96, 3) := by decide +kernel
theorem dX6_experiment_12 : decode cX6_experiment 12 = .ok (.iload_n 1, 1) := by decide +kernel
theorem dX6_experiment_13 : decode cX6_experiment 13 = .ok (.iaload, 1) := by decide +kernel
theorem dX6_experiment_14 : decode cX6_experiment 14 = .ok (.goto 4, 3) := by decide +kernel
theorem dX6_experiment_17 : decode cX6_experiment 17 = .ok (.iconst 0, 1) := by decide +kernel
theorem dX6_experiment_18 : decode cX6_experiment 18 = .ok (.ireturn, 1) := by decide +kernel
set_option maxRecDepth 20000 in
theorem ggX6_isDone_X6_isLoop : GoodIn wsX6_isDone wsX6_isLoop := goodIn_r _ [5] (by decide +kernel) (by decide +kernel)
set_option maxRecDepth 20000 in
theorem gX6_isDone_X6_isLoop : GoodIn wsX6_isDone (va_wsS RX6 152 yX6_isLoop wsX6_isLoop) := goodIn_app (goodIn_of _ (by decide +kernel)) ggX6_isDone_X6_isLoop
set_option maxRecDepth 20000 in
theorem ggX6_isDone_X6_can : GoodIn wsX6_isDone wsX6_can := goodIn_r _ [9, 10, 11, 12, 13, 14, 15, 16, 17, 18, 19, 20, 21, 22, 23, 24, 25, 26, 27, 28, 29, 30, 31, 32, 33, 34, 35, 36, 37, 38, 39, 40, 41, 42, 43, 44, 45, 46, 47, 48, 49, 50, 51, 52] (by decide +kernel) (by decide +kernel)
set_option maxRecDepth 20000 in
theorem gX6_isDone_X6_can : GoodIn wsX6_isDone (wsV RX6 156 RX6 yX6_can wsX6_can) := goodIn_app (goodIn_of _ (by decide +kernel)) ggX6_isDone_X6_can
theorem dX6_isDone_0 : decode cX6_isDone 0 = .ok (.aload_n 0, 1) := by decide +kernel
theorem dX6_isDone_1 : decode cX6_isDone 1 = .ok (.iload_n 1, 1) := by decide +kernel
theorem dX6_isDone_2 : decode cX6_isDone 2 = .ok (.invokestatic 152, 3) := by decide +kernel
theorem dX6_isDone_5 : decode cX6_isDone 5 = .ok (.ifCond .ne 7, 3) := by decide +kernel
theorem dX6_isDone_8 : decode cX6_isDone 8 = .ok (.iconst 1, 1) := by decide +kernel
theorem dX6_isDone_9 : decode cX6_isDone 9 = .ok (.goto 18, 3) := by decide +kernel
theorem dX6_isDone_12 : decode cX6_isDone 12 = .ok (.aload_n 0, 1) := by decide +kernel
theorem dX6_isDone_13 : decode cX6_isDone 13 = .ok (.getfield 96, 3) := by decide +kernel
theorem dX6_isDone_16 : decode cX6_isDone 16 = .ok (.iload_n 1, 1) := by decide +kernel
theorem dX6_isDone_17 : decode cX6_isDone 17 = .ok (.iaload, 1) := by decide +kernel
theorem dX6_isDone_18 : decode cX6_isDone 18 = .ok (.iconst 2, 1) := by decide +kernel
theorem dX6_isDone_19 : decode cX6_isDone 19 = .ok (.if_icmp .ne 7, 3) := by decide +kernel
theorem dX6_isDone_22 : decode cX6_isDone 22 = .ok (.iconst 0, 1) := by decide +kernel
theorem dX6_isDone_23 : decode cX6_isDone 23 = .ok (.goto 4, 3) := by decide +kernel
theorem dX6_isDone_26 : decode cX6_isDone 26 = .ok (.iconst 2, 1) := by decide +kernel
theorem dX6_isDone_27 : decode cX6_isDone 27 = .ok (.invokevirtual 156, 3) := by decide +kernel
theorem dX6_isDone_30 : decode cX6_isDone 30 = .ok (.ireturn, 1) := by decide +kernel
set_option maxRecDepth 20000 in
theorem ggX6_period_X6_isDone : GoodIn wsX6_period wsX6_isDone := goodIn_r _ [6, 7, 8, 9, 5, 10, 11, 12, 13, 14, 15, 16, 17, 18, 19, 20, 21, 22, 23, 24, 25, 26, 27, 28, 29, 30, 31, 32, 33, 34, 35, 36, 37, 38, 39, 40, 41, 42, 43, 44, 45, 46, 47, 48, 49, 50, 51, 52, 53, 54, 55, 56, 57] (by decide +kernel) (by decide +kernel)
set_option maxRecDepth 20000 in
theorem gX6_period_X6_isDone : GoodIn wsX6_period (wsV RX6 221 RX6 yX6_isDone wsX6_isDone) := goodIn_app (goodIn_of _ (by decide +kernel)) ggX6_period_X6_isDone
theorem dX6_period_0 : decode cX6_period 0 = .ok (.aload_n 0, 1) := by decide +kernel
theorem dX6_period_1 : decode cX6_period 1 = .ok (.iload_n 1, 1) := by decide +kernel
theorem dX6_period_2 : decode cX6_period 2 = .ok (.invokevirtual 221, 3) := by decide +kernel
theorem dX6_period_5 : decode cX6_period 5 = .ok (.ifCond .eq 12, 3) := by decide +kernel
theorem dX6_period_8 : decode cX6_period 8 = .ok (.aload_n 0, 1) := by decide +kernel
theorem dX6_period_9 : decode cX6_period 9 = .ok (.getfield 126, 3) := by decide +kernel
theorem dX6_period_12 : decode cX6_period 12 = .ok (.iload_n 1, 1) := by decide +kernel
theorem dX6_period_13 : decode cX6_period 13 = .ok (.iaload, 1) := by decide +kernel
theorem dX6_period_14 : decode cX6_period 14 = .ok (.goto 4, 3) := by decide +kernel
theorem dX6_period_17 : decode cX6_period 17 = .ok (.iconst 0, 1) := by decide +kernel
theorem dX6_period_18 : decode cX6_period 18 = .ok (.ireturn, 1) := by decide +kernel
set_option maxRecDepth 20000 in
theorem ggX6_swing_X6_isDone : GoodIn wsX6_swing wsX6_isDone := goodIn_r _ [6, 7, 8, 9, 5, 10, 11, 12, 13, 14, 15, 16, 17, 18, 19, 20, 21, 22, 23, 24, 25, 26, 27, 28, 29, 30, 31, 32, 33, 34, 35, 36, 37, 38, 39, 40, 41, 42, 43, 44, 45, 46, 47, 48, 49, 50, 51, 52, 53, 54, 55, 56, 57] (by decide +kernel) (by decide +kernel)
set_option maxRecDepth 20000 in
theorem gX6_swing_X6_isDone : GoodIn wsX6_swing (wsV RX6 221 RX6 yX6_isDone wsX6_isDone) := goodIn_app (goodIn_of _ (by decide +kernel)) ggX6_swing_X6_isDone
theorem dX6_swing_0 : decode cX6_swing 0 = .ok (.aload_n 0, 1) := by decide +kernel
theorem dX6_swing_1 : decode cX6_swing 1 = .ok (.iload_n 1, 1) := by decide +kernel
theorem dX6_swing_2 : decode cX6_swing 2 = .ok (.invokevirtual 221, 3) := by decide +kernel
theorem dX6_swing_5 : decode cX6_swing 5 = .ok (.ifCond .eq 12, 3) := by decide +kernel
theorem dX6_swing_8 : decode cX6_swing 8 = .ok (.aload_n 0, 1) := by decide +kernel
theorem dX6_swing_9 : decode cX6_swing 9 = .ok (.getfield 129, 3) := by decide +kernel
theorem dX6_swing_12 : decode cX6_swing 12 = .ok (.iload_n 1, 1) := by decide +kernel
theorem dX6_swing_13 : decode cX6_swing 13 = .ok (.laload, 1) := by decide +kernel
theorem dX6_swing_14 : decode cX6_swing 14 = .ok (.goto 4, 3) := by decide +kernel
theorem dX6_swing_17 : decode cX6_swing 17 = .ok (.lconst 0, 1) := by decide +kernel
theorem dX6_swing_18 : decode cX6_swing 18 = .ok (.lreturn, 1) := by decide +kernel
theorem dX6_ultimate_0 : decode cX6_ultimate 0 = .ok (.ldc2_w 224, 3) := by decide +kernel
theorem dX6_ultimate_3 : decode cX6_ultimate 3 = .ok (.aload_n 0, 1) := by decide +kernel
theorem dX6_ultimate_4 : decode cX6_ultimate 4 = .ok (.getfield 102, 3) := by decide +kernel
theorem dX6_ultimate_7 : decode cX6_ultimate 7 = .ok (.iload_n 1, 1) := by decide +kernel
theorem dX6_ultimate_8 : decode cX6_ultimate 8 = .ok (.iaload, 1) := by decide +kernel
theorem dX6_ultimate_9 : decode cX6_ultimate 9 = .ok (.i2l, 1) := by decide +kernel
theorem dX6_ultimate_10 : decode cX6_ultimate 10 = .ok (.lmul, 1) := by decide +kernel
theorem dX6_ultimate_11 : decode cX6_ultimate 11 = .ok (.ldc2_w 226, 3) := by decide +kernel
theorem dX6_ultimate_14 : decode cX6_ultimate 14 = .ok (.aload_n 0, 1) := by decide +kernel
theorem dX6_ultimate_15 : decode cX6_ultimate 15 = .ok (.getfield 129, 3) := by decide +kernel
theorem dX6_ultimate_18 : decode cX6_ultimate 18 = .ok (.iload_n 1, 1) := by decide +kernel
theorem dX6_ultimate_19 : decode cX6_ultimate 19 = .ok (.laload, 1) := by decide +kernel
theorem dX6_ultimate_20 : decode cX6_ultimate 20 = .ok (.lmul, 1) := by decide +kernel
theorem dX6_ultimate_21 : decode cX6_ultimate 21 = .ok (.ldiv, 1) := by decide +kernel
theorem dX6_ultimate_22 : decode cX6_ultimate 22 = .ok (.lreturn, 1) := by decide +kernel
set_option maxRecDepth 20000 in
theorem ggX6_ultimateGain_X6_isLoop : GoodIn wsX6_ultimateGain wsX6_isLoop := goodIn_r _ [6] (by decide +kernel) (by decide +kernel)
set_option maxRecDepth 20000 in
theorem gX6_ultimateGain_X6_isLoop : GoodIn wsX6_ultimateGain (va_wsS RX6 152 yX6_isLoop wsX6_isLoop) := goodIn_app (goodIn_of _ (by decide +kernel)) ggX6_ultimateGain_X6_isLoop
set_option maxRecDepth 20000 in
theorem ggX6_ultimateGain_X6_can : GoodIn wsX6_ultimateGain wsX6_can := goodIn_r _ [10, 11, 19, 20, 21, 22, 23, 24, 25, 26, 27, 28, 29, 30, 31, 32, 33, 34, 35, 36, 37, 38, 39, 40, 41, 42, 43, 44, 45, 46, 47, 48, 49, 50, 51, 52, 53, 54, 55, 56, 57, 58, 59, 60] (by decide +kernel) (by decide +kernel)
set_option maxRecDepth 20000 in
theorem gX6_ultimateGain_X6_can : GoodIn wsX6_ultimateGain (wsV RX6 156 RX6 yX6_can wsX6_can) := goodIn_app (goodIn_of _ (by decide +kernel)) ggX6_ultimateGain_X6_can
set_option maxRecDepth 20000 in
theorem ggX6_ultimateGain_X6_ultimate : GoodIn wsX6_ultimateGain wsX6_ultimate := goodIn_r _ [15, 16, 17, 18, 2, 19, 20, 21, 22, 23, 24, 25, 26, 27, 28, 29, 30, 31, 32, 33, 34, 35, 36, 37, 38, 39, 40, 41, 42, 43, 44, 45, 46, 47, 48, 49, 50, 51, 52, 53, 54, 55, 56, 57, 58, 59, 60] (by decide +kernel) (by decide +kernel)
set_option maxRecDepth 20000 in
theorem gX6_ultimateGain_X6_ultimate : GoodIn wsX6_ultimateGain (wsV RX6 228 RX6 yX6_ultimate wsX6_ultimate) := goodIn_app (goodIn_of _ (by decide +kernel)) ggX6_ultimateGain_X6_ultimate
theorem dX6_ultimateGain_0 : decode cX6_ultimateGain 0 = .ok (.aload_n 0, 1) := by decide +kernel
theorem dX6_ultimateGain_1 : decode cX6_ultimateGain 1 = .ok (.iload_n 1, 1) := by decide +kernel
theorem dX6_ultimateGain_2 : decode cX6_ultimateGain 2 = .ok (.invokestatic 152, 3) := by decide +kernel
theorem dX6_ultimateGain_5 : decode cX6_ultimateGain 5 = .ok (.ifCond .ne 7, 3) := by decide +kernel
theorem dX6_ultimateGain_8 : decode cX6_ultimateGain 8 = .ok (.iconst 1, 1) := by decide +kernel
theorem dX6_ultimateGain_9 : decode cX6_ultimateGain 9 = .ok (.goto 29, 3) := by decide +kernel
theorem dX6_ultimateGain_12 : decode cX6_ultimateGain 12 = .ok (.aload_n 0, 1) := by decide +kernel
theorem dX6_ultimateGain_13 : decode cX6_ultimateGain 13 = .ok (.getfield 96, 3) := by decide +kernel
theorem dX6_ultimateGain_16 : decode cX6_ultimateGain 16 = .ok (.iload_n 1, 1) := by decide +kernel
theorem dX6_ultimateGain_17 : decode cX6_ultimateGain 17 = .ok (.iaload, 1) := by decide +kernel
theorem dX6_ultimateGain_18 : decode cX6_ultimateGain 18 = .ok (.iconst 2, 1) := by decide +kernel
theorem dX6_ultimateGain_19 : decode cX6_ultimateGain 19 = .ok (.if_icmp .ne 14, 3) := by decide +kernel
theorem dX6_ultimateGain_22 : decode cX6_ultimateGain 22 = .ok (.aload_n 0, 1) := by decide +kernel
theorem dX6_ultimateGain_23 : decode cX6_ultimateGain 23 = .ok (.getfield 129, 3) := by decide +kernel
theorem dX6_ultimateGain_26 : decode cX6_ultimateGain 26 = .ok (.iload_n 1, 1) := by decide +kernel
theorem dX6_ultimateGain_27 : decode cX6_ultimateGain 27 = .ok (.laload, 1) := by decide +kernel
theorem dX6_ultimateGain_28 : decode cX6_ultimateGain 28 = .ok (.lconst 0, 1) := by decide +kernel
theorem dX6_ultimateGain_29 : decode cX6_ultimateGain 29 = .ok (.lcmp, 1) := by decide +kernel
theorem dX6_ultimateGain_30 : decode cX6_ultimateGain 30 = .ok (.ifCond .ne 7, 3) := by decide +kernel
theorem dX6_ultimateGain_33 : decode cX6_ultimateGain 33 = .ok (.iconst 2, 1) := by decide +kernel
theorem dX6_ultimateGain_34 : decode cX6_ultimateGain 34 = .ok (.goto 4, 3) := by decide +kernel
theorem dX6_ultimateGain_37 : decode cX6_ultimateGain 37 = .ok (.iconst 0, 1) := by decide +kernel
theorem dX6_ultimateGain_38 : decode cX6_ultimateGain 38 = .ok (.invokevirtual 156, 3) := by decide +kernel
theorem dX6_ultimateGain_41 : decode cX6_ultimateGain 41 = .ok (.ifCond .eq 12, 3) := by decide +kernel
theorem dX6_ultimateGain_44 : decode cX6_ultimateGain 44 = .ok (.aload_n 0, 1) := by decide +kernel
theorem dX6_ultimateGain_45 : decode cX6_ultimateGain 45 = .ok (.iload_n 1, 1) := by decide +kernel
theorem dX6_ultimateGain_46 : decode cX6_ultimateGain 46 = .ok (.invokevirtual 228, 3) := by decide +kernel
theorem dX6_ultimateGain_49 : decode cX6_ultimateGain 49 = .ok (.l2i, 1) := by decide +kernel
theorem dX6_ultimateGain_50 : decode cX6_ultimateGain 50 = .ok (.goto 4, 3) := by decide +kernel
theorem dX6_ultimateGain_53 : decode cX6_ultimateGain 53 = .ok (.iconst 0, 1) := by decide +kernel
theorem dX6_ultimateGain_54 : decode cX6_ultimateGain 54 = .ok (.ireturn, 1) := by decide +kernel
set_option maxRecDepth 20000 in
theorem ggX6_proposed_X6_isLoop : GoodIn wsX6_proposed wsX6_isLoop := goodIn_r _ [19] (by decide +kernel) (by decide +kernel)
set_option maxRecDepth 20000 in
theorem gX6_proposed_X6_isLoop : GoodIn wsX6_proposed (va_wsS RX6 152 yX6_isLoop wsX6_isLoop) := goodIn_app (goodIn_of _ (by decide +kernel)) ggX6_proposed_X6_isLoop
set_option maxRecDepth 20000 in
theorem ggX6_proposed_X6_isIn : GoodIn wsX6_proposed wsX6_isIn := goodIn_r _ [22] (by decide +kernel) (by decide +kernel)
set_option maxRecDepth 20000 in
theorem gX6_proposed_X6_isIn : GoodIn wsX6_proposed (va_wsS RX6 146 yX6_isIn wsX6_isIn) := goodIn_app (goodIn_of _ (by decide +kernel)) ggX6_proposed_X6_isIn
set_option maxRecDepth 20000 in
theorem ggX6_proposed_X6_can : GoodIn wsX6_proposed wsX6_can := goodIn_r _ [26, 27, 38, 39, 40, 41, 42, 43, 44, 45, 46, 47, 48, 49, 50, 51, 52, 53, 54, 55, 56, 57, 58, 59, 60, 61, 62, 63, 64, 65, 66, 67, 68, 69, 70, 71, 72, 73, 74, 75, 76, 77, 78, 79] (by decide +kernel) (by decide +kernel)
set_option maxRecDepth 20000 in
theorem gX6_proposed_X6_can : GoodIn wsX6_proposed (wsV RX6 156 RX6 yX6_can wsX6_can) := goodIn_app (goodIn_of _ (by decide +kernel)) ggX6_proposed_X6_can
set_option maxRecDepth 20000 in
theorem ggX6_proposed_X6_ultimate : GoodIn wsX6_proposed wsX6_ultimate := goodIn_r _ [31, 32, 33, 34, 2, 38, 39, 40, 41, 42, 43, 44, 45, 46, 47, 48, 49, 50, 51, 52, 53, 54, 55, 56, 57, 58, 59, 60, 61, 62, 63, 64, 65, 66, 67, 68, 69, 70, 71, 72, 73, 74, 75, 76, 77, 78, 79] (by decide +kernel) (by decide +kernel)
set_option maxRecDepth 20000 in
theorem gX6_proposed_X6_ultimate : GoodIn wsX6_proposed (wsV RX6 228 RX6 yX6_ultimate wsX6_ultimate) := goodIn_app (goodIn_of _ (by decide +kernel)) ggX6_proposed_X6_ultimate
set_option maxRecDepth 20000 in
theorem ggX6_proposed_X6_within : GoodIn wsX6_proposed wsX6_within := goodIn_r _ [37] (by decide +kernel) (by decide +kernel)
set_option maxRecDepth 20000 in
theorem gX6_proposed_X6_within : GoodIn wsX6_proposed (va_wsS RX6 190 yX6_within wsX6_within) := goodIn_app (goodIn_of _ (by decide +kernel)) ggX6_proposed_X6_within
theorem dX6_proposed_0 : decode cX6_proposed 0 = .ok (.aload_n 0, 1) := by decide +kernel
theorem dX6_proposed_1 : decode cX6_proposed 1 = .ok (.iload_n 1, 1) := by decide +kernel
theorem dX6_proposed_2 : decode cX6_proposed 2 = .ok (.invokestatic 152, 3) := by decide +kernel
theorem dX6_proposed_5 : decode cX6_proposed 5 = .ok (.ifCond .eq 12, 3) := by decide +kernel
theorem dX6_proposed_8 : decode cX6_proposed 8 = .ok (.iload_n 3, 1) := by decide +kernel
theorem dX6_proposed_9 : decode cX6_proposed 9 = .ok (.iconst 0, 1) := by decide +kernel
theorem dX6_proposed_10 : decode cX6_proposed 10 = .ok (.iconst 2, 1) := by decide +kernel
theorem dX6_proposed_11 : decode cX6_proposed 11 = .ok (.invokestatic 146, 3) := by decide +kernel
theorem dX6_proposed_14 : decode cX6_proposed 14 = .ok (.ifCond .ne 7, 3) := by decide +kernel
theorem dX6_proposed_17 : decode cX6_proposed 17 = .ok (.iconst 1, 1) := by decide +kernel
theorem dX6_proposed_18 : decode cX6_proposed 18 = .ok (.goto 51, 3) := by decide +kernel
theorem dX6_proposed_21 : decode cX6_proposed 21 = .ok (.iload_n 2, 1) := by decide +kernel
theorem dX6_proposed_22 : decode cX6_proposed 22 = .ok (.iconst 0, 1) := by decide +kernel
theorem dX6_proposed_23 : decode cX6_proposed 23 = .ok (.iconst 1, 1) := by decide +kernel
theorem dX6_proposed_24 : decode cX6_proposed 24 = .ok (.invokestatic 146, 3) := by decide +kernel
theorem dX6_proposed_27 : decode cX6_proposed 27 = .ok (.ifCond .ne 7, 3) := by decide +kernel
theorem dX6_proposed_30 : decode cX6_proposed 30 = .ok (.iconst 2, 1) := by decide +kernel
theorem dX6_proposed_31 : decode cX6_proposed 31 = .ok (.goto 38, 3) := by decide +kernel
theorem dX6_proposed_34 : decode cX6_proposed 34 = .ok (.aload_n 0, 1) := by decide +kernel
theorem dX6_proposed_35 : decode cX6_proposed 35 = .ok (.getfield 96, 3) := by decide +kernel
theorem dX6_proposed_38 : decode cX6_proposed 38 = .ok (.iload_n 1, 1) := by decide +kernel
theorem dX6_proposed_39 : decode cX6_proposed 39 = .ok (.iaload, 1) := by decide +kernel
theorem dX6_proposed_40 : decode cX6_proposed 40 = .ok (.iconst 2, 1) := by decide +kernel
theorem dX6_proposed_41 : decode cX6_proposed 41 = .ok (.if_icmp .ne 23, 3) := by decide +kernel
theorem dX6_proposed_44 : decode cX6_proposed 44 = .ok (.aload_n 0, 1) := by decide +kernel
theorem dX6_proposed_45 : decode cX6_proposed 45 = .ok (.getfield 129, 3) := by decide +kernel
theorem dX6_proposed_48 : decode cX6_proposed 48 = .ok (.iload_n 1, 1) := by decide +kernel
theorem dX6_proposed_49 : decode cX6_proposed 49 = .ok (.laload, 1) := by decide +kernel
theorem dX6_proposed_50 : decode cX6_proposed 50 = .ok (.lconst 0, 1) := by decide +kernel
theorem dX6_proposed_51 : decode cX6_proposed 51 = .ok (.lcmp, 1) := by decide +kernel
theorem dX6_proposed_52 : decode cX6_proposed 52 = .ok (.ifCond .eq 12, 3) := by decide +kernel
theorem dX6_proposed_55 : decode cX6_proposed 55 = .ok (.aload_n 0, 1) := by decide +kernel
theorem dX6_proposed_56 : decode cX6_proposed 56 = .ok (.getfield 126, 3) := by decide +kernel
theorem dX6_proposed_59 : decode cX6_proposed 59 = .ok (.iload_n 1, 1) := by decide +kernel
theorem dX6_proposed_60 : decode cX6_proposed 60 = .ok (.iaload, 1) := by decide +kernel
theorem dX6_proposed_61 : decode cX6_proposed 61 = .ok (.ifCond .ne 7, 3) := by decide +kernel
theorem dX6_proposed_64 : decode cX6_proposed 64 = .ok (.iconst 3, 1) := by decide +kernel
theorem dX6_proposed_65 : decode cX6_proposed 65 = .ok (.goto 4, 3) := by decide +kernel
theorem dX6_proposed_68 : decode cX6_proposed 68 = .ok (.iconst 0, 1) := by decide +kernel
theorem dX6_proposed_69 : decode cX6_proposed 69 = .ok (.invokevirtual 156, 3) := by decide +kernel
theorem dX6_proposed_72 : decode cX6_proposed 72 = .ok (.ifCond .ne 5, 3) := by decide +kernel
theorem dX6_proposed_75 : decode cX6_proposed 75 = .ok (.iconst 0, 1) := by decide +kernel
theorem dX6_proposed_76 : decode cX6_proposed 76 = .ok (.ireturn, 1) := by decide +kernel
theorem dX6_proposed_77 : decode cX6_proposed 77 = .ok (.aload_n 0, 1) := by decide +kernel
theorem dX6_proposed_78 : decode cX6_proposed 78 = .ok (.iload_n 1, 1) := by decide +kernel
theorem dX6_proposed_79 : decode cX6_proposed 79 = .ok (.invokevirtual 228, 3) := by decide +kernel
theorem dX6_proposed_82 : decode cX6_proposed 82 = .ok (.lstore 4, 2) := by decide +kernel
theorem dX6_proposed_84 : decode cX6_proposed 84 = .ok (.aload_n 0, 1) := by decide +kernel
theorem dX6_proposed_85 : decode cX6_proposed 85 = .ok (.getfield 126, 3) := by decide +kernel
theorem dX6_proposed_88 : decode cX6_proposed 88 = .ok (.iload_n 1, 1) := by decide +kernel
theorem dX6_proposed_89 : decode cX6_proposed 89 = .ok (.iaload, 1) := by decide +kernel
theorem dX6_proposed_90 : decode cX6_proposed 90 = .ok (.i2l, 1) := by decide +kernel
theorem dX6_proposed_91 : decode cX6_proposed 91 = .ok (.lstore 6, 2) := by decide +kernel
theorem dX6_proposed_93 : decode cX6_proposed 93 = .ok (.iload_n 3, 1) := by decide +kernel
theorem dX6_proposed_94 : decode cX6_proposed 94 = .ok (.ifCond .ne 39, 3) := by decide +kernel
theorem dX6_proposed_97 : decode cX6_proposed 97 = .ok (.iload_n 2, 1) := by decide +kernel
theorem dX6_proposed_98 : decode cX6_proposed 98 = .ok (.ifCond .ne 16, 3) := by decide +kernel
theorem dX6_proposed_101 : decode cX6_proposed 101 = .ok (.ldc2_w 231, 3) := by decide +kernel
theorem dX6_proposed_104 : decode cX6_proposed 104 = .ok (.lload 4, 2) := by decide +kernel
theorem dX6_proposed_106 : decode cX6_proposed 106 = .ok (.lmul, 1) := by decide +kernel
theorem dX6_proposed_107 : decode cX6_proposed 107 = .ok (.ldc2_w 233, 3) := by decide +kernel
theorem dX6_proposed_110 : decode cX6_proposed 110 = .ok (.ldiv, 1) := by decide +kernel
theorem dX6_proposed_111 : decode cX6_proposed 111 = .ok (.goto 13, 3) := by decide +kernel
theorem dX6_proposed_114 : decode cX6_proposed 114 = .ok (.ldc2_w 233, 3) := by decide +kernel
theorem dX6_proposed_117 : decode cX6_proposed 117 = .ok (.lload 4, 2) := by decide +kernel
theorem dX6_proposed_119 : decode cX6_proposed 119 = .ok (.lmul, 1) := by decide +kernel
theorem dX6_proposed_120 : decode cX6_proposed 120 = .ok (.ldc2_w 235, 3) := by decide +kernel
theorem dX6_proposed_123 : decode cX6_proposed 123 = .ok (.ldiv, 1) := by decide +kernel
theorem dX6_proposed_124 : decode cX6_proposed 124 = .ok (.lconst 0, 1) := by decide +kernel
theorem dX6_proposed_125 : decode cX6_proposed 125 = .ok (.ldc2_w 237, 3) := by decide +kernel
theorem dX6_proposed_128 : decode cX6_proposed 128 = .ok (.invokestatic 190, 3) := by decide +kernel
theorem dX6_proposed_131 : decode cX6_proposed 131 = .ok (.l2i, 1) := by decide +kernel
theorem dX6_proposed_132 : decode cX6_proposed 132 = .ok (.ireturn, 1) := by decide +kernel
theorem dX6_proposed_133 : decode cX6_proposed 133 = .ok (.iload_n 3, 1) := by decide +kernel
theorem dX6_proposed_134 : decode cX6_proposed 134 = .ok (.iconst 1, 1) := by decide +kernel
theorem dX6_proposed_135 : decode cX6_proposed 135 = .ok (.if_icmp .ne 45, 3) := by decide +kernel
theorem dX6_proposed_138 : decode cX6_proposed 138 = .ok (.iload_n 2, 1) := by decide +kernel
theorem dX6_proposed_139 : decode cX6_proposed 139 = .ok (.ifCond .ne 19, 3) := by decide +kernel
theorem dX6_proposed_142 : decode cX6_proposed 142 = .ok (.ldc2_w 239, 3) := by decide +kernel
theorem dX6_proposed_145 : decode cX6_proposed 145 = .ok (.lload 4, 2) := by decide +kernel
theorem dX6_proposed_147 : decode cX6_proposed 147 = .ok (.lmul, 1) := by decide +kernel
theorem dX6_proposed_148 : decode cX6_proposed 148 = .ok (.ldc2_w 233, 3) := by decide +kernel
theorem dX6_proposed_151 : decode cX6_proposed 151 = .ok (.lload 6, 2) := by decide +kernel
theorem dX6_proposed_153 : decode cX6_proposed 153 = .ok (.lmul, 1) := by decide +kernel
theorem dX6_proposed_154 : decode cX6_proposed 154 = .ok (.ldiv, 1) := by decide +kernel
theorem dX6_proposed_155 : decode cX6_proposed 155 = .ok (.goto 16, 3) := by decide +kernel
theorem dX6_proposed_158 : decode cX6_proposed 158 = .ok (.ldc2_w 138, 3) := by decide +kernel
theorem dX6_proposed_161 : decode cX6_proposed 161 = .ok (.lload 4, 2) := by decide +kernel
theorem dX6_proposed_163 : decode cX6_proposed 163 = .ok (.lmul, 1) := by decide +kernel
theorem dX6_proposed_164 : decode cX6_proposed 164 = .ok (.ldc2_w 241, 3) := by decide +kernel
theorem dX6_proposed_167 : decode cX6_proposed 167 = .ok (.lload 6, 2) := by decide +kernel
theorem dX6_proposed_169 : decode cX6_proposed 169 = .ok (.lmul, 1) := by decide +kernel
theorem dX6_proposed_170 : decode cX6_proposed 170 = .ok (.ldiv, 1) := by decide +kernel
theorem dX6_proposed_171 : decode cX6_proposed 171 = .ok (.lconst 0, 1) := by decide +kernel
theorem dX6_proposed_172 : decode cX6_proposed 172 = .ok (.ldc2_w 243, 3) := by decide +kernel
theorem dX6_proposed_175 : decode cX6_proposed 175 = .ok (.invokestatic 190, 3) := by decide +kernel
theorem dX6_proposed_178 : decode cX6_proposed 178 = .ok (.l2i, 1) := by decide +kernel
theorem dX6_proposed_179 : decode cX6_proposed 179 = .ok (.ireturn, 1) := by decide +kernel
theorem dX6_proposed_180 : decode cX6_proposed 180 = .ok (.iload_n 2, 1) := by decide +kernel
theorem dX6_proposed_181 : decode cX6_proposed 181 = .ok (.ifCond .ne 19, 3) := by decide +kernel
theorem dX6_proposed_184 : decode cX6_proposed 184 = .ok (.ldc2_w 245, 3) := by decide +kernel
theorem dX6_proposed_187 : decode cX6_proposed 187 = .ok (.lload 4, 2) := by decide +kernel
theorem dX6_proposed_189 : decode cX6_proposed 189 = .ok (.lmul, 1) := by decide +kernel
theorem dX6_proposed_190 : decode cX6_proposed 190 = .ok (.lload 6, 2) := by decide +kernel
theorem dX6_proposed_192 : decode cX6_proposed 192 = .ok (.lmul, 1) := by decide +kernel
theorem dX6_proposed_193 : decode cX6_proposed 193 = .ok (.ldc2_w 247, 3) := by decide +kernel
theorem dX6_proposed_196 : decode cX6_proposed 196 = .ok (.ldiv, 1) := by decide +kernel
theorem dX6_proposed_197 : decode cX6_proposed 197 = .ok (.goto 16, 3) := by decide +kernel
theorem dX6_proposed_200 : decode cX6_proposed 200 = .ok (.ldc2_w 138, 3) := by decide +kernel
theorem dX6_proposed_203 : decode cX6_proposed 203 = .ok (.lload 4, 2) := by decide +kernel
theorem dX6_proposed_205 : decode cX6_proposed 205 = .ok (.lmul, 1) := by decide +kernel
theorem dX6_proposed_206 : decode cX6_proposed 206 = .ok (.lload 6, 2) := by decide +kernel
theorem dX6_proposed_208 : decode cX6_proposed 208 = .ok (.lmul, 1) := by decide +kernel
theorem dX6_proposed_209 : decode cX6_proposed 209 = .ok (.ldc2_w 249, 3) := by decide +kernel
theorem dX6_proposed_212 : decode cX6_proposed 212 = .ok (.ldiv, 1) := by decide +kernel
theorem dX6_proposed_213 : decode cX6_proposed 213 = .ok (.lconst 0, 1) := by decide +kernel
theorem dX6_proposed_214 : decode cX6_proposed 214 = .ok (.ldc2_w 251, 3) := by decide +kernel
theorem dX6_proposed_217 : decode cX6_proposed 217 = .ok (.invokestatic 190, 3) := by decide +kernel
theorem dX6_proposed_220 : decode cX6_proposed 220 = .ok (.l2i, 1) := by decide +kernel
theorem dX6_proposed_221 : decode cX6_proposed 221 = .ok (.ireturn, 1) := by decide +kernel
theorem dJ9_floorDiv_f86c9_0 : decode cJ9_floorDiv_f86c9 0 = .ok (.lload_n 0, 1) := by decide +kernel
theorem dJ9_floorDiv_f86c9_1 : decode cJ9_floorDiv_f86c9 1 = .ok (.lload_n 2, 1) := by decide +kernel
theorem dJ9_floorDiv_f86c9_2 : decode cJ9_floorDiv_f86c9 2 = .ok (.ldiv, 1) := by decide +kernel
theorem dJ9_floorDiv_f86c9_3 : decode cJ9_floorDiv_f86c9 3 = .ok (.lstore 4, 2) := by decide +kernel
theorem dJ9_floorDiv_f86c9_5 : decode cJ9_floorDiv_f86c9 5 = .ok (.lload_n 0, 1) := by decide +kernel
theorem dJ9_floorDiv_f86c9_6 : decode cJ9_floorDiv_f86c9 6 = .ok (.lload_n 2, 1) := by decide +kernel
theorem dJ9_floorDiv_f86c9_7 : decode cJ9_floorDiv_f86c9 7 = .ok (.lxor, 1) := by decide +kernel
theorem dJ9_floorDiv_f86c9_8 : decode cJ9_floorDiv_f86c9 8 = .ok (.lconst 0, 1) := by decide +kernel
theorem dJ9_floorDiv_f86c9_9 : decode cJ9_floorDiv_f86c9 9 = .ok (.lcmp, 1) := by decide +kernel
theorem dJ9_floorDiv_f86c9_10 : decode cJ9_floorDiv_f86c9 10 = .ok (.ifCond .ge 17, 3) := by decide +kernel
theorem dJ9_floorDiv_f86c9_13 : decode cJ9_floorDiv_f86c9 13 = .ok (.lload 4, 2) := by decide +kernel
theorem dJ9_floorDiv_f86c9_15 : decode cJ9_floorDiv_f86c9 15 = .ok (.lload_n 2, 1) := by decide +kernel
theorem dJ9_floorDiv_f86c9_16 : decode cJ9_floorDiv_f86c9 16 = .ok (.lmul, 1) := by decide +kernel
theorem dJ9_floorDiv_f86c9_17 : decode cJ9_floorDiv_f86c9 17 = .ok (.lload_n 0, 1) := by decide +kernel
theorem dJ9_floorDiv_f86c9_18 : decode cJ9_floorDiv_f86c9 18 = .ok (.lcmp, 1) := by decide +kernel
theorem dJ9_floorDiv_f86c9_19 : decode cJ9_floorDiv_f86c9 19 = .ok (.ifCond .eq 8, 3) := by decide +kernel
theorem dJ9_floorDiv_f86c9_22 : decode cJ9_floorDiv_f86c9 22 = .ok (.lload 4, 2) := by decide +kernel
theorem dJ9_floorDiv_f86c9_24 : decode cJ9_floorDiv_f86c9 24 = .ok (.lconst 1, 1) := by decide +kernel
theorem dJ9_floorDiv_f86c9_25 : decode cJ9_floorDiv_f86c9 25 = .ok (.lsub, 1) := by decide +kernel
theorem dJ9_floorDiv_f86c9_26 : decode cJ9_floorDiv_f86c9 26 = .ok (.lreturn, 1) := by decide +kernel
theorem dJ9_floorDiv_f86c9_27 : decode cJ9_floorDiv_f86c9 27 = .ok (.lload 4, 2) := by decide +kernel
theorem dJ9_floorDiv_f86c9_29 : decode cJ9_floorDiv_f86c9 29 = .ok (.lreturn, 1) := by decide +kernel
theorem dJ9_floorMod_7cf53_0 : decode cJ9_floorMod_7cf53 0 = .ok (.iload_n 0, 1) := by decide +kernel
theorem dJ9_floorMod_7cf53_1 : decode cJ9_floorMod_7cf53 1 = .ok (.iload_n 1, 1) := by decide +kernel
theorem dJ9_floorMod_7cf53_2 : decode cJ9_floorMod_7cf53 2 = .ok (.irem, 1) := by decide +kernel
theorem dJ9_floorMod_7cf53_3 : decode cJ9_floorMod_7cf53 3 = .ok (.istore_n 2, 1) := by decide +kernel
theorem dJ9_floorMod_7cf53_4 : decode cJ9_floorMod_7cf53 4 = .ok (.iload_n 0, 1) := by decide +kernel
theorem dJ9_floorMod_7cf53_5 : decode cJ9_floorMod_7cf53 5 = .ok (.iload_n 1, 1) := by decide +kernel
theorem dJ9_floorMod_7cf53_6 : decode cJ9_floorMod_7cf53 6 = .ok (.ixor, 1) := by decide +kernel
theorem dJ9_floorMod_7cf53_7 : decode cJ9_floorMod_7cf53 7 = .ok (.ifCond .ge 11, 3) := by decide +kernel
theorem dJ9_floorMod_7cf53_10 : decode cJ9_floorMod_7cf53 10 = .ok (.iload_n 2, 1) := by decide +kernel
theorem dJ9_floorMod_7cf53_11 : decode cJ9_floorMod_7cf53 11 = .ok (.ifCond .eq 7, 3) := by decide +kernel
theorem dJ9_floorMod_7cf53_14 : decode cJ9_floorMod_7cf53 14 = .ok (.iload_n 2, 1) := by decide +kernel
theorem dJ9_floorMod_7cf53_15 : decode cJ9_floorMod_7cf53 15 = .ok (.iload_n 1, 1) := by decide +kernel
theorem dJ9_floorMod_7cf53_16 : decode cJ9_floorMod_7cf53 16 = .ok (.iadd, 1) := by decide +kernel
theorem dJ9_floorMod_7cf53_17 : decode cJ9_floorMod_7cf53 17 = .ok (.ireturn, 1) := by decide +kernel
theorem dJ9_floorMod_7cf53_18 : decode cJ9_floorMod_7cf53 18 = .ok (.iload_n 2, 1) := by decide +kernel
theorem dJ9_floorMod_7cf53_19 : decode cJ9_floorMod_7cf53 19 = .ok (.ireturn, 1) := by decide +kernel
theorem dJ9_max_f86c9_0 : decode cJ9_max_f86c9 0 = .ok (.lload_n 0, 1) := by decide +kernel
theorem dJ9_max_f86c9_1 : decode cJ9_max_f86c9 1 = .ok (.lload_n 2, 1) := by decide +kernel
theorem dJ9_max_f86c9_2 : decode cJ9_max_f86c9 2 = .ok (.lcmp, 1) := by decide +kernel
theorem dJ9_max_f86c9_3 : decode cJ9_max_f86c9 3 = .ok (.ifCond .lt 7, 3) := by decide +kernel
theorem dJ9_max_f86c9_6 : decode cJ9_max_f86c9 6 = .ok (.lload_n 0, 1) := by decide +kernel
theorem dJ9_max_f86c9_7 : decode cJ9_max_f86c9 7 = .ok (.goto 4, 3) := by decide +kernel
theorem dJ9_max_f86c9_10 : decode cJ9_max_f86c9 10 = .ok (.lload_n 2, 1) := by decide +kernel
theorem dJ9_max_f86c9_11 : decode cJ9_max_f86c9 11 = .ok (.lreturn, 1) := by decide +kernel
theorem dJ9_min_7cf53_0 : decode cJ9_min_7cf53 0 = .ok (.iload_n 0, 1) := by decide +kernel
theorem dJ9_min_7cf53_1 : decode cJ9_min_7cf53 1 = .ok (.iload_n 1, 1) := by decide +kernel
theorem dJ9_min_7cf53_2 : decode cJ9_min_7cf53 2 = .ok (.if_icmp .gt 7, 3) := by decide +kernel
theorem dJ9_min_7cf53_5 : decode cJ9_min_7cf53 5 = .ok (.iload_n 0, 1) := by decide +kernel
theorem dJ9_min_7cf53_6 : decode cJ9_min_7cf53 6 = .ok (.goto 4, 3) := by decide +kernel
theorem dJ9_min_7cf53_9 : decode cJ9_min_7cf53 9 = .ok (.iload_n 1, 1) := by decide +kernel
theorem dJ9_min_7cf53_10 : decode cJ9_min_7cf53 10 = .ok (.ireturn, 1) := by decide +kernel
theorem dJ9_min_f86c9_0 : decode cJ9_min_f86c9 0 = .ok (.lload_n 0, 1) := by decide +kernel
theorem dJ9_min_f86c9_1 : decode cJ9_min_f86c9 1 = .ok (.lload_n 2, 1) := by decide +kernel
theorem dJ9_min_f86c9_2 : decode cJ9_min_f86c9 2 = .ok (.lcmp, 1) := by decide +kernel
theorem dJ9_min_f86c9_3 : decode cJ9_min_f86c9 3 = .ok (.ifCond .gt 7, 3) := by decide +kernel
theorem dJ9_min_f86c9_6 : decode cJ9_min_f86c9 6 = .ok (.lload_n 0, 1) := by decide +kernel
theorem dJ9_min_f86c9_7 : decode cJ9_min_f86c9 7 = .ok (.goto 4, 3) := by decide +kernel
theorem dJ9_min_f86c9_10 : decode cJ9_min_f86c9 10 = .ok (.lload_n 2, 1) := by decide +kernel
theorem dJ9_min_f86c9_11 : decode cJ9_min_f86c9 11 = .ok (.lreturn, 1) := by decide +kernel
set_option maxRecDepth 20000 in
theorem ggL_setPlant_X5_setPlant : GoodIn wsL_setPlant wsX5_setPlant := goodIn_ca (goodIn_ca (goodIn_r _ [7, 8, 9, 10, 11, 12, 13, 14, 15, 6, 16, 17, 18, 19, 20, 21, 22, 23, 24, 25, 26, 27, 28, 29, 30, 31, 32, 33, 34, 35, 36, 37, 38, 39, 40, 41, 42, 43, 44, 45, 46, 47, 48] (by decide +kernel) (by decide +kernel)) (goodIn_sub (fun _ h => List.mem_cons_of_mem _ (List.mem_append_left _ (List.mem_append_right _ h))) (by decide +kernel))) (goodIn_sub (fun _ h => List.mem_cons_of_mem _ (List.mem_append_right _ h)) (by decide +kernel))
set_option maxRecDepth 20000 in
theorem gL_setPlant_X5_setPlant : GoodIn wsL_setPlant (wsV RL 7 RX5 yX5_setPlant wsX5_setPlant) := goodIn_app (goodIn_of _ (by decide +kernel)) ggL_setPlant_X5_setPlant
theorem dL_setPlant_0 : decode cL_setPlant 0 = .ok (.aload_n 0, 1) := by decide +kernel
theorem dL_setPlant_1 : decode cL_setPlant 1 = .ok (.iload_n 1, 1) := by decide +kernel
theorem dL_setPlant_2 : decode cL_setPlant 2 = .ok (.iload_n 2, 1) := by decide +kernel
theorem dL_setPlant_3 : decode cL_setPlant 3 = .ok (.iload_n 3, 1) := by decide +kernel
theorem dL_setPlant_4 : decode cL_setPlant 4 = .ok (.iload 4, 2) := by decide +kernel
theorem dL_setPlant_6 : decode cL_setPlant 6 = .ok (.iload 5, 2) := by decide +kernel
theorem dL_setPlant_8 : decode cL_setPlant 8 = .ok (.invokevirtual 7, 3) := by decide +kernel
theorem dL_setPlant_11 : decode cL_setPlant 11 = .ok (.goto 11, 3) := by decide +kernel
theorem dL_setPlant_14 : decode cL_setPlant 14 = .ok (.astore 6, 2) := by decide +kernel
theorem dL_setPlant_16 : decode cL_setPlant 16 = .ok (.iconst 1, 1) := by decide +kernel
theorem dL_setPlant_17 : decode cL_setPlant 17 = .ok (.ireturn, 1) := by decide +kernel
theorem dL_setPlant_18 : decode cL_setPlant 18 = .ok (.astore 6, 2) := by decide +kernel
theorem dL_setPlant_20 : decode cL_setPlant 20 = .ok (.iconst 2, 1) := by decide +kernel
theorem dL_setPlant_21 : decode cL_setPlant 21 = .ok (.ireturn, 1) := by decide +kernel
theorem dL_setPlant_22 : decode cL_setPlant 22 = .ok (.iconst 0, 1) := by decide +kernel
theorem dL_setPlant_23 : decode cL_setPlant 23 = .ok (.ireturn, 1) := by decide +kernel
set_option maxRecDepth 20000 in
theorem ggL_setLoad_X5_setLoad : GoodIn wsL_setLoad wsX5_setLoad := goodIn_ca (goodIn_ca (goodIn_r _ [7, 8, 9, 10, 11, 12, 6, 13, 14, 15, 16, 17, 18, 19, 20, 21, 22, 23, 24, 25, 26, 27, 28, 29, 30, 31, 32, 33, 34, 35, 36, 37, 38, 39, 40, 41, 42, 43, 44, 45] (by decide +kernel) (by decide +kernel)) (goodIn_sub (fun _ h => List.mem_cons_of_mem _ (List.mem_append_left _ (List.mem_append_right _ h))) (by decide +kernel))) (goodIn_sub (fun _ h => List.mem_cons_of_mem _ (List.mem_append_right _ h)) (by decide +kernel))
set_option maxRecDepth 20000 in
theorem gL_setLoad_X5_setLoad : GoodIn wsL_setLoad (wsV RL 17 RX5 yX5_setLoad wsX5_setLoad) := goodIn_app (goodIn_of _ (by decide +kernel)) ggL_setLoad_X5_setLoad
theorem dL_setLoad_0 : decode cL_setLoad 0 = .ok (.aload_n 3, 1) := by decide +kernel
theorem dL_setLoad_1 : decode cL_setLoad 1 = .ok (.iconst 0, 1) := by decide +kernel
theorem dL_setLoad_2 : decode cL_setLoad 2 = .ok (.aload_n 0, 1) := by decide +kernel
theorem dL_setLoad_3 : decode cL_setLoad 3 = .ok (.iload_n 1, 1) := by decide +kernel
theorem dL_setLoad_4 : decode cL_setLoad 4 = .ok (.iload_n 2, 1) := by decide +kernel
theorem dL_setLoad_5 : decode cL_setLoad 5 = .ok (.invokevirtual 17, 3) := by decide +kernel
theorem dL_setLoad_8 : decode cL_setLoad 8 = .ok (.i2l, 1) := by decide +kernel
theorem dL_setLoad_9 : decode cL_setLoad 9 = .ok (.lastore, 1) := by decide +kernel
theorem dL_setLoad_10 : decode cL_setLoad 10 = .ok (.goto 11, 3) := by decide +kernel
theorem dL_setLoad_13 : decode cL_setLoad 13 = .ok (.astore 4, 2) := by decide +kernel
theorem dL_setLoad_15 : decode cL_setLoad 15 = .ok (.iconst 1, 1) := by decide +kernel
theorem dL_setLoad_16 : decode cL_setLoad 16 = .ok (.ireturn, 1) := by decide +kernel
theorem dL_setLoad_17 : decode cL_setLoad 17 = .ok (.astore 4, 2) := by decide +kernel
theorem dL_setLoad_19 : decode cL_setLoad 19 = .ok (.iconst 2, 1) := by decide +kernel
theorem dL_setLoad_20 : decode cL_setLoad 20 = .ok (.ireturn, 1) := by decide +kernel
theorem dL_setLoad_21 : decode cL_setLoad 21 = .ok (.iconst 0, 1) := by decide +kernel
theorem dL_setLoad_22 : decode cL_setLoad 22 = .ok (.ireturn, 1) := by decide +kernel
set_option maxRecDepth 20000 in
theorem ggL_setGains_X5_setGains : GoodIn wsL_setGains wsX5_setGains := goodIn_ca (goodIn_ca (goodIn_ca (goodIn_r _ [8, 9, 10, 11, 12, 13, 14, 7, 15, 16, 17, 18, 19, 20, 21, 22, 23, 24, 25, 26, 27, 28, 29, 30, 31, 32, 33, 34, 35, 36, 37, 38, 39, 40, 41, 42, 43, 44, 45, 46, 47, 48, 49, 50, 51, 52, 53, 54, 55, 56, 57, 58, 59, 60, 61, 62, 63, 64, 65, 66, 67, 68, 69, 70, 71, 72, 73, 74, 75, 76, 77, 78, 79, 80, 81, 82, 83, 84, 85, 86, 87, 88, 89, 90, 91, 92, 93, 94, 95, 96, 97, 98, 99, 100, 101, 102, 103, 104] (by decide +kernel) (by decide +kernel)) (goodIn_sub (fun _ h => List.mem_cons_of_mem _ (List.mem_append_left _ (List.mem_append_left _ (List.mem_append_right _ h)))) (by decide +kernel))) (goodIn_sub (fun _ h => List.mem_cons_of_mem _ (List.mem_append_left _ (List.mem_append_right _ h))) (by decide +kernel))) (goodIn_sub (fun _ h => List.mem_cons_of_mem _ (List.mem_append_right _ h)) (by decide +kernel))
set_option maxRecDepth 20000 in
theorem gL_setGains_X5_setGains : GoodIn wsL_setGains (wsV RL 21 RX5 yX5_setGains wsX5_setGains) := goodIn_app (goodIn_of _ (by decide +kernel)) ggL_setGains_X5_setGains
theorem dL_setGains_0 : decode cL_setGains 0 = .ok (.aload 5, 2) := by decide +kernel
theorem dL_setGains_2 : decode cL_setGains 2 = .ok (.iconst 0, 1) := by decide +kernel
theorem dL_setGains_3 : decode cL_setGains 3 = .ok (.aload_n 0, 1) := by decide +kernel
theorem dL_setGains_4 : decode cL_setGains 4 = .ok (.iload_n 1, 1) := by decide +kernel
theorem dL_setGains_5 : decode cL_setGains 5 = .ok (.iload_n 2, 1) := by decide +kernel
theorem dL_setGains_6 : decode cL_setGains 6 = .ok (.iload_n 3, 1) := by decide +kernel
theorem dL_setGains_7 : decode cL_setGains 7 = .ok (.iload 4, 2) := by decide +kernel
theorem dL_setGains_9 : decode cL_setGains 9 = .ok (.invokevirtual 21, 3) := by decide +kernel
theorem dL_setGains_12 : decode cL_setGains 12 = .ok (.i2l, 1) := by decide +kernel
theorem dL_setGains_13 : decode cL_setGains 13 = .ok (.lastore, 1) := by decide +kernel
theorem dL_setGains_14 : decode cL_setGains 14 = .ok (.goto 15, 3) := by decide +kernel
theorem dL_setGains_17 : decode cL_setGains 17 = .ok (.astore 6, 2) := by decide +kernel
theorem dL_setGains_19 : decode cL_setGains 19 = .ok (.iconst 1, 1) := by decide +kernel
theorem dL_setGains_20 : decode cL_setGains 20 = .ok (.ireturn, 1) := by decide +kernel
theorem dL_setGains_21 : decode cL_setGains 21 = .ok (.astore 6, 2) := by decide +kernel
theorem dL_setGains_23 : decode cL_setGains 23 = .ok (.iconst 2, 1) := by decide +kernel
theorem dL_setGains_24 : decode cL_setGains 24 = .ok (.ireturn, 1) := by decide +kernel
theorem dL_setGains_25 : decode cL_setGains 25 = .ok (.astore 6, 2) := by decide +kernel
theorem dL_setGains_27 : decode cL_setGains 27 = .ok (.iconst 3, 1) := by decide +kernel
theorem dL_setGains_28 : decode cL_setGains 28 = .ok (.ireturn, 1) := by decide +kernel
theorem dL_setGains_29 : decode cL_setGains 29 = .ok (.iconst 0, 1) := by decide +kernel
theorem dL_setGains_30 : decode cL_setGains 30 = .ok (.ireturn, 1) := by decide +kernel
set_option maxRecDepth 20000 in
theorem ggL_addPoint_X5_addPoint : GoodIn wsL_addPoint wsX5_addPoint := goodIn_ca (goodIn_ca (goodIn_ca (goodIn_r _ [8, 9, 10, 11, 12, 13, 14, 7, 15, 16, 17, 18, 19, 20, 21, 22, 23, 24, 25, 26, 27, 28, 29, 30, 31, 32, 33, 34, 35, 36, 37, 38, 39, 40, 41, 42, 43, 44, 45, 46, 47, 48, 49, 50, 51, 52, 53, 54, 55, 56, 57, 58, 59, 60, 61, 62, 63, 64, 65, 66, 67, 68, 69, 70, 71] (by decide +kernel) (by decide +kernel)) (goodIn_sub (fun _ h => List.mem_cons_of_mem _ (List.mem_append_left _ (List.mem_append_left _ (List.mem_append_right _ h)))) (by decide +kernel))) (goodIn_sub (fun _ h => List.mem_cons_of_mem _ (List.mem_append_left _ (List.mem_append_right _ h))) (by decide +kernel))) (goodIn_sub (fun _ h => List.mem_cons_of_mem _ (List.mem_append_right _ h)) (by decide +kernel))
set_option maxRecDepth 20000 in
theorem gL_addPoint_X5_addPoint : GoodIn wsL_addPoint (wsV RL 27 RX5 yX5_addPoint wsX5_addPoint) := goodIn_app (goodIn_of _ (by decide +kernel)) ggL_addPoint_X5_addPoint
theorem dL_addPoint_0 : decode cL_addPoint 0 = .ok (.aload 6, 2) := by decide +kernel
theorem dL_addPoint_2 : decode cL_addPoint 2 = .ok (.iconst 0, 1) := by decide +kernel
theorem dL_addPoint_3 : decode cL_addPoint 3 = .ok (.aload_n 0, 1) := by decide +kernel
theorem dL_addPoint_4 : decode cL_addPoint 4 = .ok (.iload_n 1, 1) := by decide +kernel
theorem dL_addPoint_5 : decode cL_addPoint 5 = .ok (.iload_n 2, 1) := by decide +kernel
theorem dL_addPoint_6 : decode cL_addPoint 6 = .ok (.iload_n 3, 1) := by decide +kernel
theorem dL_addPoint_7 : decode cL_addPoint 7 = .ok (.iload 4, 2) := by decide +kernel
theorem dL_addPoint_9 : decode cL_addPoint 9 = .ok (.iload 5, 2) := by decide +kernel
theorem dL_addPoint_11 : decode cL_addPoint 11 = .ok (.invokevirtual 27, 3) := by decide +kernel
theorem dL_addPoint_14 : decode cL_addPoint 14 = .ok (.i2l, 1) := by decide +kernel
theorem dL_addPoint_15 : decode cL_addPoint 15 = .ok (.lastore, 1) := by decide +kernel
theorem dL_addPoint_16 : decode cL_addPoint 16 = .ok (.goto 15, 3) := by decide +kernel
theorem dL_addPoint_19 : decode cL_addPoint 19 = .ok (.astore 7, 2) := by decide +kernel
theorem dL_addPoint_21 : decode cL_addPoint 21 = .ok (.iconst 1, 1) := by decide +kernel
theorem dL_addPoint_22 : decode cL_addPoint 22 = .ok (.ireturn, 1) := by decide +kernel
theorem dL_addPoint_23 : decode cL_addPoint 23 = .ok (.astore 7, 2) := by decide +kernel
theorem dL_addPoint_25 : decode cL_addPoint 25 = .ok (.iconst 2, 1) := by decide +kernel
theorem dL_addPoint_26 : decode cL_addPoint 26 = .ok (.ireturn, 1) := by decide +kernel
theorem dL_addPoint_27 : decode cL_addPoint 27 = .ok (.astore 7, 2) := by decide +kernel
theorem dL_addPoint_29 : decode cL_addPoint 29 = .ok (.iconst 3, 1) := by decide +kernel
theorem dL_addPoint_30 : decode cL_addPoint 30 = .ok (.ireturn, 1) := by decide +kernel
theorem dL_addPoint_31 : decode cL_addPoint 31 = .ok (.iconst 0, 1) := by decide +kernel
theorem dL_addPoint_32 : decode cL_addPoint 32 = .ok (.ireturn, 1) := by decide +kernel
set_option maxRecDepth 20000 in
theorem ggL_setLimits_X5_setLimits : GoodIn wsL_setLimits wsX5_setLimits := goodIn_ca (goodIn_ca (goodIn_r _ [7, 8, 9, 10, 11, 12, 13, 14, 15, 6, 16, 17, 18, 19, 20, 21, 22, 23, 24, 25, 26, 27, 28, 29, 30, 31, 32, 33, 34, 35, 36, 37, 38, 39, 40, 41, 42, 43, 44, 45, 46, 47, 48, 49, 50, 51, 52, 53, 54] (by decide +kernel) (by decide +kernel)) (goodIn_sub (fun _ h => List.mem_cons_of_mem _ (List.mem_append_left _ (List.mem_append_right _ h))) (by decide +kernel))) (goodIn_sub (fun _ h => List.mem_cons_of_mem _ (List.mem_append_right _ h)) (by decide +kernel))
set_option maxRecDepth 20000 in
theorem gL_setLimits_X5_setLimits : GoodIn wsL_setLimits (wsV RL 31 RX5 yX5_setLimits wsX5_setLimits) := goodIn_app (goodIn_of _ (by decide +kernel)) ggL_setLimits_X5_setLimits
theorem dL_setLimits_0 : decode cL_setLimits 0 = .ok (.aload_n 0, 1) := by decide +kernel
theorem dL_setLimits_1 : decode cL_setLimits 1 = .ok (.iload_n 1, 1) := by decide +kernel
theorem dL_setLimits_2 : decode cL_setLimits 2 = .ok (.iload_n 2, 1) := by decide +kernel
theorem dL_setLimits_3 : decode cL_setLimits 3 = .ok (.iload_n 3, 1) := by decide +kernel
theorem dL_setLimits_4 : decode cL_setLimits 4 = .ok (.invokevirtual 31, 3) := by decide +kernel
theorem dL_setLimits_7 : decode cL_setLimits 7 = .ok (.goto 11, 3) := by decide +kernel
theorem dL_setLimits_10 : decode cL_setLimits 10 = .ok (.astore 4, 2) := by decide +kernel
theorem dL_setLimits_12 : decode cL_setLimits 12 = .ok (.iconst 1, 1) := by decide +kernel
theorem dL_setLimits_13 : decode cL_setLimits 13 = .ok (.ireturn, 1) := by decide +kernel
theorem dL_setLimits_14 : decode cL_setLimits 14 = .ok (.astore 4, 2) := by decide +kernel
theorem dL_setLimits_16 : decode cL_setLimits 16 = .ok (.iconst 2, 1) := by decide +kernel
theorem dL_setLimits_17 : decode cL_setLimits 17 = .ok (.ireturn, 1) := by decide +kernel
theorem dL_setLimits_18 : decode cL_setLimits 18 = .ok (.iconst 0, 1) := by decide +kernel
theorem dL_setLimits_19 : decode cL_setLimits 19 = .ok (.ireturn, 1) := by decide +kernel
set_option maxRecDepth 20000 in
theorem ggL_setGuard_X5_setGuard : GoodIn wsL_setGuard wsX5_setGuard := goodIn_ca (goodIn_ca (goodIn_r _ [7, 8, 9, 10, 11, 12, 13, 6, 14, 15, 16, 17, 18, 19, 20, 21, 22, 23, 24, 25, 26, 27, 28, 29, 30, 31, 32, 33, 34, 35, 36, 37, 38, 39, 40, 41, 42, 43, 44, 45, 46, 47, 48, 49, 50, 51, 52] (by decide +kernel) (by decide +kernel)) (goodIn_sub (fun _ h => List.mem_cons_of_mem _ (List.mem_append_left _ (List.mem_append_right _ h))) (by decide +kernel))) (goodIn_sub (fun _ h => List.mem_cons_of_mem _ (List.mem_append_right _ h)) (by decide +kernel))
set_option maxRecDepth 20000 in
theorem gL_setGuard_X5_setGuard : GoodIn wsL_setGuard (wsV RL 35 RX5 yX5_setGuard wsX5_setGuard) := goodIn_app (goodIn_of _ (by decide +kernel)) ggL_setGuard_X5_setGuard
theorem dL_setGuard_0 : decode cL_setGuard 0 = .ok (.aload 4, 2) := by decide +kernel
theorem dL_setGuard_2 : decode cL_setGuard 2 = .ok (.iconst 0, 1) := by decide +kernel
theorem dL_setGuard_3 : decode cL_setGuard 3 = .ok (.aload_n 0, 1) := by decide +kernel
theorem dL_setGuard_4 : decode cL_setGuard 4 = .ok (.iload_n 1, 1) := by decide +kernel
theorem dL_setGuard_5 : decode cL_setGuard 5 = .ok (.iload_n 2, 1) := by decide +kernel
theorem dL_setGuard_6 : decode cL_setGuard 6 = .ok (.iload_n 3, 1) := by decide +kernel
theorem dL_setGuard_7 : decode cL_setGuard 7 = .ok (.invokevirtual 35, 3) := by decide +kernel
theorem dL_setGuard_10 : decode cL_setGuard 10 = .ok (.i2l, 1) := by decide +kernel
theorem dL_setGuard_11 : decode cL_setGuard 11 = .ok (.lastore, 1) := by decide +kernel
theorem dL_setGuard_12 : decode cL_setGuard 12 = .ok (.goto 11, 3) := by decide +kernel
theorem dL_setGuard_15 : decode cL_setGuard 15 = .ok (.astore 5, 2) := by decide +kernel
theorem dL_setGuard_17 : decode cL_setGuard 17 = .ok (.iconst 1, 1) := by decide +kernel
theorem dL_setGuard_18 : decode cL_setGuard 18 = .ok (.ireturn, 1) := by decide +kernel
theorem dL_setGuard_19 : decode cL_setGuard 19 = .ok (.astore 5, 2) := by decide +kernel
theorem dL_setGuard_21 : decode cL_setGuard 21 = .ok (.iconst 2, 1) := by decide +kernel
theorem dL_setGuard_22 : decode cL_setGuard 22 = .ok (.ireturn, 1) := by decide +kernel
theorem dL_setGuard_23 : decode cL_setGuard 23 = .ok (.iconst 0, 1) := by decide +kernel
theorem dL_setGuard_24 : decode cL_setGuard 24 = .ok (.ireturn, 1) := by decide +kernel
set_option maxRecDepth 20000 in
theorem ggL_setSetpoint_X5_setSetpoint : GoodIn wsL_setSetpoint wsX5_setSetpoint := goodIn_ca (goodIn_ca (goodIn_ca (goodIn_r _ [8, 9, 10, 11, 12, 13, 14, 15, 16, 7, 17, 18, 19, 20, 21, 22, 23, 24, 25, 26, 27, 28, 29, 30, 31, 32, 33, 34, 35, 36, 37, 38, 39, 40, 41, 42, 43, 44, 45, 46, 47, 48, 49, 50, 51, 52, 53, 54, 55, 56, 57, 58, 59, 60] (by decide +kernel) (by decide +kernel)) (goodIn_sub (fun _ h => List.mem_cons_of_mem _ (List.mem_append_left _ (List.mem_append_left _ (List.mem_append_right _ h)))) (by decide +kernel))) (goodIn_sub (fun _ h => List.mem_cons_of_mem _ (List.mem_append_left _ (List.mem_append_right _ h))) (by decide +kernel))) (goodIn_sub (fun _ h => List.mem_cons_of_mem _ (List.mem_append_right _ h)) (by decide +kernel))
set_option maxRecDepth 20000 in
theorem gL_setSetpoint_X5_setSetpoint : GoodIn wsL_setSetpoint (wsV RL 39 RX5 yX5_setSetpoint wsX5_setSetpoint) := goodIn_app (goodIn_of _ (by decide +kernel)) ggL_setSetpoint_X5_setSetpoint
theorem dL_setSetpoint_0 : decode cL_setSetpoint 0 = .ok (.aload_n 3, 1) := by decide +kernel
theorem dL_setSetpoint_1 : decode cL_setSetpoint 1 = .ok (.iconst 0, 1) := by decide +kernel
theorem dL_setSetpoint_2 : decode cL_setSetpoint 2 = .ok (.aload_n 0, 1) := by decide +kernel
theorem dL_setSetpoint_3 : decode cL_setSetpoint 3 = .ok (.iload_n 1, 1) := by decide +kernel
theorem dL_setSetpoint_4 : decode cL_setSetpoint 4 = .ok (.iload_n 2, 1) := by decide +kernel
theorem dL_setSetpoint_5 : decode cL_setSetpoint 5 = .ok (.invokevirtual 39, 3) := by decide +kernel
theorem dL_setSetpoint_8 : decode cL_setSetpoint 8 = .ok (.i2l, 1) := by decide +kernel
theorem dL_setSetpoint_9 : decode cL_setSetpoint 9 = .ok (.lastore, 1) := by decide +kernel
theorem dL_setSetpoint_10 : decode cL_setSetpoint 10 = .ok (.goto 15, 3) := by decide +kernel
theorem dL_setSetpoint_13 : decode cL_setSetpoint 13 = .ok (.astore 4, 2) := by decide +kernel
theorem dL_setSetpoint_15 : decode cL_setSetpoint 15 = .ok (.iconst 1, 1) := by decide +kernel
theorem dL_setSetpoint_16 : decode cL_setSetpoint 16 = .ok (.ireturn, 1) := by decide +kernel
theorem dL_setSetpoint_17 : decode cL_setSetpoint 17 = .ok (.astore 4, 2) := by decide +kernel
theorem dL_setSetpoint_19 : decode cL_setSetpoint 19 = .ok (.iconst 2, 1) := by decide +kernel
theorem dL_setSetpoint_20 : decode cL_setSetpoint 20 = .ok (.ireturn, 1) := by decide +kernel
theorem dL_setSetpoint_21 : decode cL_setSetpoint 21 = .ok (.astore 4, 2) := by decide +kernel
theorem dL_setSetpoint_23 : decode cL_setSetpoint 23 = .ok (.iconst 3, 1) := by decide +kernel
theorem dL_setSetpoint_24 : decode cL_setSetpoint 24 = .ok (.ireturn, 1) := by decide +kernel
theorem dL_setSetpoint_25 : decode cL_setSetpoint 25 = .ok (.iconst 0, 1) := by decide +kernel
theorem dL_setSetpoint_26 : decode cL_setSetpoint 26 = .ok (.ireturn, 1) := by decide +kernel
set_option maxRecDepth 20000 in
theorem ggL_setHand_X5_setHand : GoodIn wsL_setHand wsX5_setHand := goodIn_ca (goodIn_ca (goodIn_ca (goodIn_r _ [8, 9, 10, 11, 12, 13, 14, 15, 7, 16, 17, 18, 19, 20, 21, 22, 23, 24, 25, 26, 27, 28, 29, 30, 31, 32, 33, 34, 35, 36, 37, 38, 39, 40, 41, 42, 43, 44] (by decide +kernel) (by decide +kernel)) (goodIn_sub (fun _ h => List.mem_cons_of_mem _ (List.mem_append_left _ (List.mem_append_left _ (List.mem_append_right _ h)))) (by decide +kernel))) (goodIn_sub (fun _ h => List.mem_cons_of_mem _ (List.mem_append_left _ (List.mem_append_right _ h))) (by decide +kernel))) (goodIn_sub (fun _ h => List.mem_cons_of_mem _ (List.mem_append_right _ h)) (by decide +kernel))
set_option maxRecDepth 20000 in
theorem gL_setHand_X5_setHand : GoodIn wsL_setHand (wsV RL 42 RX5 yX5_setHand wsX5_setHand) := goodIn_app (goodIn_of _ (by decide +kernel)) ggL_setHand_X5_setHand
theorem dL_setHand_0 : decode cL_setHand 0 = .ok (.aload_n 3, 1) := by decide +kernel
theorem dL_setHand_1 : decode cL_setHand 1 = .ok (.iconst 0, 1) := by decide +kernel
theorem dL_setHand_2 : decode cL_setHand 2 = .ok (.aload_n 0, 1) := by decide +kernel
theorem dL_setHand_3 : decode cL_setHand 3 = .ok (.iload_n 1, 1) := by decide +kernel
theorem dL_setHand_4 : decode cL_setHand 4 = .ok (.iload_n 2, 1) := by decide +kernel
theorem dL_setHand_5 : decode cL_setHand 5 = .ok (.invokevirtual 42, 3) := by decide +kernel
theorem dL_setHand_8 : decode cL_setHand 8 = .ok (.i2l, 1) := by decide +kernel
theorem dL_setHand_9 : decode cL_setHand 9 = .ok (.lastore, 1) := by decide +kernel
theorem dL_setHand_10 : decode cL_setHand 10 = .ok (.goto 15, 3) := by decide +kernel
theorem dL_setHand_13 : decode cL_setHand 13 = .ok (.astore 4, 2) := by decide +kernel
theorem dL_setHand_15 : decode cL_setHand 15 = .ok (.iconst 1, 1) := by decide +kernel
theorem dL_setHand_16 : decode cL_setHand 16 = .ok (.ireturn, 1) := by decide +kernel
theorem dL_setHand_17 : decode cL_setHand 17 = .ok (.astore 4, 2) := by decide +kernel
theorem dL_setHand_19 : decode cL_setHand 19 = .ok (.iconst 2, 1) := by decide +kernel
theorem dL_setHand_20 : decode cL_setHand 20 = .ok (.ireturn, 1) := by decide +kernel
theorem dL_setHand_21 : decode cL_setHand 21 = .ok (.astore 4, 2) := by decide +kernel
theorem dL_setHand_23 : decode cL_setHand 23 = .ok (.iconst 3, 1) := by decide +kernel
theorem dL_setHand_24 : decode cL_setHand 24 = .ok (.ireturn, 1) := by decide +kernel
theorem dL_setHand_25 : decode cL_setHand 25 = .ok (.iconst 0, 1) := by decide +kernel
theorem dL_setHand_26 : decode cL_setHand 26 = .ok (.ireturn, 1) := by decide +kernel
set_option maxRecDepth 20000 in
theorem ggL_setTies_X5_setTies : GoodIn wsL_setTies wsX5_setTies := goodIn_ca (goodIn_ca (goodIn_ca (goodIn_r _ [8, 9, 10, 11, 12, 13, 14, 7, 15, 16, 17, 18, 19, 20, 21, 22, 23, 24, 25, 26, 27, 28, 29, 30, 31, 32, 33, 34, 35, 36, 37, 38, 39, 40] (by decide +kernel) (by decide +kernel)) (goodIn_sub (fun _ h => List.mem_cons_of_mem _ (List.mem_append_left _ (List.mem_append_left _ (List.mem_append_right _ h)))) (by decide +kernel))) (goodIn_sub (fun _ h => List.mem_cons_of_mem _ (List.mem_append_left _ (List.mem_append_right _ h))) (by decide +kernel))) (goodIn_sub (fun _ h => List.mem_cons_of_mem _ (List.mem_append_right _ h)) (by decide +kernel))
set_option maxRecDepth 20000 in
theorem gL_setTies_X5_setTies : GoodIn wsL_setTies (wsV RL 45 RX5 yX5_setTies wsX5_setTies) := goodIn_app (goodIn_of _ (by decide +kernel)) ggL_setTies_X5_setTies
theorem dL_setTies_0 : decode cL_setTies 0 = .ok (.aload_n 0, 1) := by decide +kernel
theorem dL_setTies_1 : decode cL_setTies 1 = .ok (.iload_n 1, 1) := by decide +kernel
theorem dL_setTies_2 : decode cL_setTies 2 = .ok (.iload_n 2, 1) := by decide +kernel
theorem dL_setTies_3 : decode cL_setTies 3 = .ok (.iload_n 3, 1) := by decide +kernel
theorem dL_setTies_4 : decode cL_setTies 4 = .ok (.invokevirtual 45, 3) := by decide +kernel
theorem dL_setTies_7 : decode cL_setTies 7 = .ok (.goto 15, 3) := by decide +kernel
theorem dL_setTies_10 : decode cL_setTies 10 = .ok (.astore 4, 2) := by decide +kernel
theorem dL_setTies_12 : decode cL_setTies 12 = .ok (.iconst 1, 1) := by decide +kernel
theorem dL_setTies_13 : decode cL_setTies 13 = .ok (.ireturn, 1) := by decide +kernel
theorem dL_setTies_14 : decode cL_setTies 14 = .ok (.astore 4, 2) := by decide +kernel
theorem dL_setTies_16 : decode cL_setTies 16 = .ok (.iconst 2, 1) := by decide +kernel
theorem dL_setTies_17 : decode cL_setTies 17 = .ok (.ireturn, 1) := by decide +kernel
theorem dL_setTies_18 : decode cL_setTies 18 = .ok (.astore 4, 2) := by decide +kernel
theorem dL_setTies_20 : decode cL_setTies 20 = .ok (.iconst 3, 1) := by decide +kernel
theorem dL_setTies_21 : decode cL_setTies 21 = .ok (.ireturn, 1) := by decide +kernel
theorem dL_setTies_22 : decode cL_setTies 22 = .ok (.iconst 0, 1) := by decide +kernel
theorem dL_setTies_23 : decode cL_setTies 23 = .ok (.ireturn, 1) := by decide +kernel
set_option maxRecDepth 20000 in
theorem ggL_setMode_X5_setMode : GoodIn wsL_setMode wsX5_setMode := goodIn_ca (goodIn_ca (goodIn_ca (goodIn_r _ [8, 9, 10, 11, 12, 13, 7, 14, 15, 16, 17, 18, 19, 20, 21, 22, 23, 24, 25, 26, 27, 28, 29, 30, 31, 32, 33, 34, 35, 36, 37, 38, 39, 40, 41, 42, 43, 44, 45, 46, 47, 48, 49, 50, 51, 52, 53, 54, 55, 56, 57, 58, 59, 60, 61, 62, 63, 64, 65, 66, 67, 68, 69, 70, 71, 72, 73, 74, 75, 76, 77, 78, 79, 80, 81, 82, 83, 84, 85, 86, 87, 88, 89, 90, 91, 92, 93, 94, 95, 96, 97, 98, 99, 100, 101, 102, 103, 104, 105, 106, 107, 108, 109, 110, 111, 112, 113, 114, 115, 116, 117, 118, 119, 120] (by decide +kernel) (by decide +kernel)) (goodIn_sub (fun _ h => List.mem_cons_of_mem _ (List.mem_append_left _ (List.mem_append_left _ (List.mem_append_right _ h)))) (by decide +kernel))) (goodIn_sub (fun _ h => List.mem_cons_of_mem _ (List.mem_append_left _ (List.mem_append_right _ h))) (by decide +kernel))) (goodIn_sub (fun _ h => List.mem_cons_of_mem _ (List.mem_append_right _ h)) (by decide +kernel))
set_option maxRecDepth 20000 in
theorem gL_setMode_X5_setMode : GoodIn wsL_setMode (wsV RL 49 RX5 yX5_setMode wsX5_setMode) := goodIn_app (goodIn_of _ (by decide +kernel)) ggL_setMode_X5_setMode
theorem dL_setMode_0 : decode cL_setMode 0 = .ok (.aload_n 3, 1) := by decide +kernel
theorem dL_setMode_1 : decode cL_setMode 1 = .ok (.iconst 0, 1) := by decide +kernel
theorem dL_setMode_2 : decode cL_setMode 2 = .ok (.aload_n 0, 1) := by decide +kernel
theorem dL_setMode_3 : decode cL_setMode 3 = .ok (.iload_n 1, 1) := by decide +kernel
theorem dL_setMode_4 : decode cL_setMode 4 = .ok (.iload_n 2, 1) := by decide +kernel
theorem dL_setMode_5 : decode cL_setMode 5 = .ok (.invokevirtual 49, 3) := by decide +kernel
theorem dL_setMode_8 : decode cL_setMode 8 = .ok (.i2l, 1) := by decide +kernel
theorem dL_setMode_9 : decode cL_setMode 9 = .ok (.lastore, 1) := by decide +kernel
theorem dL_setMode_10 : decode cL_setMode 10 = .ok (.goto 15, 3) := by decide +kernel
theorem dL_setMode_13 : decode cL_setMode 13 = .ok (.astore 4, 2) := by decide +kernel
theorem dL_setMode_15 : decode cL_setMode 15 = .ok (.iconst 1, 1) := by decide +kernel
theorem dL_setMode_16 : decode cL_setMode 16 = .ok (.ireturn, 1) := by decide +kernel
theorem dL_setMode_17 : decode cL_setMode 17 = .ok (.astore 4, 2) := by decide +kernel
theorem dL_setMode_19 : decode cL_setMode 19 = .ok (.iconst 2, 1) := by decide +kernel
theorem dL_setMode_20 : decode cL_setMode 20 = .ok (.ireturn, 1) := by decide +kernel
theorem dL_setMode_21 : decode cL_setMode 21 = .ok (.astore 4, 2) := by decide +kernel
theorem dL_setMode_23 : decode cL_setMode 23 = .ok (.iconst 3, 1) := by decide +kernel
theorem dL_setMode_24 : decode cL_setMode 24 = .ok (.ireturn, 1) := by decide +kernel
theorem dL_setMode_25 : decode cL_setMode 25 = .ok (.iconst 0, 1) := by decide +kernel
theorem dL_setMode_26 : decode cL_setMode 26 = .ok (.ireturn, 1) := by decide +kernel
set_option maxRecDepth 20000 in
theorem ggL_run_X5_run : GoodIn wsL_run wsX5_run := goodIn_ca (goodIn_r _ [6, 7, 8, 9, 5, 10, 11, 12, 13, 14, 15, 16, 17, 18, 19, 20, 21, 22, 23, 24, 25, 26, 27, 28, 29, 30, 31, 32, 33, 34, 35, 36, 37, 38, 39, 40, 41, 42, 43, 44, 45, 46, 47, 48, 49, 50, 51, 52, 53, 54, 55, 56, 57, 58, 59, 60, 61, 62, 63, 64, 65, 66, 67, 68, 69, 70, 71, 72, 73, 74, 75, 76, 77, 78, 79, 80, 81, 82, 83, 84, 85, 86, 87, 88, 89, 90, 91, 92, 93, 94, 95, 96, 97, 98, 99, 100, 101, 102, 103, 104, 105, 106, 107, 108, 109, 110, 111, 112, 113, 114, 115, 116, 117, 118, 119, 120, 121, 122, 123, 124, 125, 126, 127, 128, 129, 130, 131, 132, 133, 134, 135, 136, 137, 138, 139, 140, 141, 142, 143, 144, 145, 146, 147, 148, 149, 150, 151, 152, 153, 154, 155, 156, 157, 158, 159, 160, 161, 162, 163, 164, 165, 166, 167, 168, 169, 170, 171, 172, 173, 174, 175, 176, 177, 178, 179, 180, 181, 182, 183, 184, 185, 186, 187, 188, 189, 190, 191, 192, 193, 194, 195, 196, 197, 198, 199, 200, 201, 202, 203, 204, 205, 206, 207, 208, 209, 210, 211, 212, 213, 214, 215, 216, 217, 218, 219, 220, 221, 222, 223, 224, 225, 226, 227, 228, 229, 230, 231, 232, 233, 234, 235, 236, 237, 238, 239, 240, 241, 242, 243, 244, 245, 246, 247, 248, 249, 250, 251, 252, 253, 254, 255, 256, 257, 258, 259, 260, 261, 262, 263, 264, 265, 266] (by decide +kernel) (by decide +kernel)) (goodIn_sub (fun _ h => List.mem_cons_of_mem _ (List.mem_append_right _ h)) (by decide +kernel))
set_option maxRecDepth 20000 in
theorem gL_run_X5_run : GoodIn wsL_run (wsV RL 52 RX5 yX5_run wsX5_run) := goodIn_app (goodIn_of _ (by decide +kernel)) ggL_run_X5_run
theorem dL_run_0 : decode cL_run 0 = .ok (.aload_n 2, 1) := by decide +kernel
theorem dL_run_1 : decode cL_run 1 = .ok (.iconst 0, 1) := by decide +kernel
theorem dL_run_2 : decode cL_run 2 = .ok (.aload_n 0, 1) := by decide +kernel
theorem dL_run_3 : decode cL_run 3 = .ok (.iload_n 1, 1) := by decide +kernel
theorem dL_run_4 : decode cL_run 4 = .ok (.invokevirtual 52, 3) := by decide +kernel
theorem dL_run_7 : decode cL_run 7 = .ok (.i2l, 1) := by decide +kernel
theorem dL_run_8 : decode cL_run 8 = .ok (.lastore, 1) := by decide +kernel
theorem dL_run_9 : decode cL_run 9 = .ok (.goto 6, 3) := by decide +kernel
theorem dL_run_12 : decode cL_run 12 = .ok (.astore_n 3, 1) := by decide +kernel
theorem dL_run_13 : decode cL_run 13 = .ok (.iconst 1, 1) := by decide +kernel
theorem dL_run_14 : decode cL_run 14 = .ok (.ireturn, 1) := by decide +kernel
theorem dL_run_15 : decode cL_run 15 = .ok (.iconst 0, 1) := by decide +kernel
theorem dL_run_16 : decode cL_run 16 = .ok (.ireturn, 1) := by decide +kernel
set_option maxRecDepth 20000 in
theorem ggL_measure_X5_measure : GoodIn wsL_measure wsX5_measure := goodIn_ca (goodIn_r _ [6, 7, 8, 9, 10, 11, 5, 12, 13, 14, 15, 16, 17, 18, 19, 20, 21, 22, 23, 24, 25, 26, 27, 28, 29, 30, 31, 32, 33, 34, 35, 36] (by decide +kernel) (by decide +kernel)) (goodIn_sub (fun _ h => List.mem_cons_of_mem _ (List.mem_append_right _ h)) (by decide +kernel))
set_option maxRecDepth 20000 in
theorem gL_measure_X5_measure : GoodIn wsL_measure (wsV RL 56 RX5 yX5_measure wsX5_measure) := goodIn_app (goodIn_of _ (by decide +kernel)) ggL_measure_X5_measure
theorem dL_measure_0 : decode cL_measure 0 = .ok (.aload_n 2, 1) := by decide +kernel
theorem dL_measure_1 : decode cL_measure 1 = .ok (.iconst 0, 1) := by decide +kernel
theorem dL_measure_2 : decode cL_measure 2 = .ok (.aload_n 0, 1) := by decide +kernel
theorem dL_measure_3 : decode cL_measure 3 = .ok (.iload_n 1, 1) := by decide +kernel
theorem dL_measure_4 : decode cL_measure 4 = .ok (.invokevirtual 56, 3) := by decide +kernel
theorem dL_measure_7 : decode cL_measure 7 = .ok (.lastore, 1) := by decide +kernel
theorem dL_measure_8 : decode cL_measure 8 = .ok (.goto 6, 3) := by decide +kernel
theorem dL_measure_11 : decode cL_measure 11 = .ok (.astore_n 3, 1) := by decide +kernel
theorem dL_measure_12 : decode cL_measure 12 = .ok (.iconst 1, 1) := by decide +kernel
theorem dL_measure_13 : decode cL_measure 13 = .ok (.ireturn, 1) := by decide +kernel
theorem dL_measure_14 : decode cL_measure 14 = .ok (.iconst 0, 1) := by decide +kernel
theorem dL_measure_15 : decode cL_measure 15 = .ok (.ireturn, 1) := by decide +kernel
set_option maxRecDepth 20000 in
theorem ggL_output_X5_output : GoodIn wsL_output wsX5_output := goodIn_ca (goodIn_r _ [6, 7, 8, 9, 10, 5, 11, 12, 13, 14, 15, 16, 17, 18, 19, 20, 21, 22, 23, 24, 25, 26] (by decide +kernel) (by decide +kernel)) (goodIn_sub (fun _ h => List.mem_cons_of_mem _ (List.mem_append_right _ h)) (by decide +kernel))
set_option maxRecDepth 20000 in
theorem gL_output_X5_output : GoodIn wsL_output (wsV RL 60 RX5 yX5_output wsX5_output) := goodIn_app (goodIn_of _ (by decide +kernel)) ggL_output_X5_output
theorem dL_output_0 : decode cL_output 0 = .ok (.aload_n 2, 1) := by decide +kernel
theorem dL_output_1 : decode cL_output 1 = .ok (.iconst 0, 1) := by decide +kernel
theorem dL_output_2 : decode cL_output 2 = .ok (.aload_n 0, 1) := by decide +kernel
theorem dL_output_3 : decode cL_output 3 = .ok (.iload_n 1, 1) := by decide +kernel
theorem dL_output_4 : decode cL_output 4 = .ok (.invokevirtual 60, 3) := by decide +kernel
theorem dL_output_7 : decode cL_output 7 = .ok (.lastore, 1) := by decide +kernel
theorem dL_output_8 : decode cL_output 8 = .ok (.goto 6, 3) := by decide +kernel
theorem dL_output_11 : decode cL_output 11 = .ok (.astore_n 3, 1) := by decide +kernel
theorem dL_output_12 : decode cL_output 12 = .ok (.iconst 1, 1) := by decide +kernel
theorem dL_output_13 : decode cL_output 13 = .ok (.ireturn, 1) := by decide +kernel
theorem dL_output_14 : decode cL_output 14 = .ok (.iconst 0, 1) := by decide +kernel
theorem dL_output_15 : decode cL_output 15 = .ok (.ireturn, 1) := by decide +kernel
set_option maxRecDepth 20000 in
theorem ggL_outputByIncrements_X5_outputByIncrements : GoodIn wsL_outputByIncrements wsX5_outputByIncrements := goodIn_ca (goodIn_r _ [6, 7, 8, 9, 10, 11, 12, 5, 13, 14, 15, 16, 17, 18, 19, 20, 21, 22, 23, 24, 25, 26, 27, 28, 29, 30, 31, 32, 33, 34, 35, 36, 37, 38, 39, 40, 41, 42, 43, 44, 45, 46, 47] (by decide +kernel) (by decide +kernel)) (goodIn_sub (fun _ h => List.mem_cons_of_mem _ (List.mem_append_right _ h)) (by decide +kernel))
set_option maxRecDepth 20000 in
theorem gL_outputByIncrements_X5_outputByIncrements : GoodIn wsL_outputByIncrements (wsV RL 63 RX5 yX5_outputByIncrements wsX5_outputByIncrements) := goodIn_app (goodIn_of _ (by decide +kernel)) ggL_outputByIncrements_X5_outputByIncrements
theorem dL_outputByIncrements_0 : decode cL_outputByIncrements 0 = .ok (.aload_n 2, 1) := by decide +kernel
theorem dL_outputByIncrements_1 : decode cL_outputByIncrements 1 = .ok (.iconst 0, 1) := by decide +kernel
theorem dL_outputByIncrements_2 : decode cL_outputByIncrements 2 = .ok (.aload_n 0, 1) := by decide +kernel
theorem dL_outputByIncrements_3 : decode cL_outputByIncrements 3 = .ok (.iload_n 1, 1) := by decide +kernel
theorem dL_outputByIncrements_4 : decode cL_outputByIncrements 4 = .ok (.invokevirtual 63, 3) := by decide +kernel
theorem dL_outputByIncrements_7 : decode cL_outputByIncrements 7 = .ok (.lastore, 1) := by decide +kernel
theorem dL_outputByIncrements_8 : decode cL_outputByIncrements 8 = .ok (.goto 6, 3) := by decide +kernel
theorem dL_outputByIncrements_11 : decode cL_outputByIncrements 11 = .ok (.astore_n 3, 1) := by decide +kernel
theorem dL_outputByIncrements_12 : decode cL_outputByIncrements 12 = .ok (.iconst 1, 1) := by decide +kernel
theorem dL_outputByIncrements_13 : decode cL_outputByIncrements 13 = .ok (.ireturn, 1) := by decide +kernel
theorem dL_outputByIncrements_14 : decode cL_outputByIncrements 14 = .ok (.iconst 0, 1) := by decide +kernel
theorem dL_outputByIncrements_15 : decode cL_outputByIncrements 15 = .ok (.ireturn, 1) := by decide +kernel
set_option maxRecDepth 20000 in
theorem ggL_setpoint_X5_setpoint : GoodIn wsL_setpoint wsX5_setpoint := goodIn_ca (goodIn_r _ [6, 7, 8, 9, 10, 11, 5, 12, 13, 14, 15, 16, 17, 18, 19, 20, 21, 22, 23, 24, 25, 26, 27, 28, 29, 30, 31, 32, 33, 34, 35, 36, 37, 38, 39, 40, 41, 42] (by decide +kernel) (by decide +kernel)) (goodIn_sub (fun _ h => List.mem_cons_of_mem _ (List.mem_append_right _ h)) (by decide +kernel))
set_option maxRecDepth 20000 in
theorem gL_setpoint_X5_setpoint : GoodIn wsL_setpoint (wsV RL 66 RX5 yX5_setpoint wsX5_setpoint) := goodIn_app (goodIn_of _ (by decide +kernel)) ggL_setpoint_X5_setpoint
theorem dL_setpoint_0 : decode cL_setpoint 0 = .ok (.aload_n 2, 1) := by decide +kernel
theorem dL_setpoint_1 : decode cL_setpoint 1 = .ok (.iconst 0, 1) := by decide +kernel
theorem dL_setpoint_2 : decode cL_setpoint 2 = .ok (.aload_n 0, 1) := by decide +kernel
theorem dL_setpoint_3 : decode cL_setpoint 3 = .ok (.iload_n 1, 1) := by decide +kernel
theorem dL_setpoint_4 : decode cL_setpoint 4 = .ok (.invokevirtual 66, 3) := by decide +kernel
theorem dL_setpoint_7 : decode cL_setpoint 7 = .ok (.lastore, 1) := by decide +kernel
theorem dL_setpoint_8 : decode cL_setpoint 8 = .ok (.goto 6, 3) := by decide +kernel
theorem dL_setpoint_11 : decode cL_setpoint 11 = .ok (.astore_n 3, 1) := by decide +kernel
theorem dL_setpoint_12 : decode cL_setpoint 12 = .ok (.iconst 1, 1) := by decide +kernel
theorem dL_setpoint_13 : decode cL_setpoint 13 = .ok (.ireturn, 1) := by decide +kernel
theorem dL_setpoint_14 : decode cL_setpoint 14 = .ok (.iconst 0, 1) := by decide +kernel
theorem dL_setpoint_15 : decode cL_setpoint 15 = .ok (.ireturn, 1) := by decide +kernel
set_option maxRecDepth 20000 in
theorem ggL_integral_X5_integral : GoodIn wsL_integral wsX5_integral := goodIn_ca (goodIn_r _ [6, 7, 8, 9, 10, 11, 5, 12, 13, 14, 15, 16, 17, 18, 19, 20, 21, 22, 23, 24, 25, 26, 27, 28, 29, 30, 31, 32, 33, 34, 35, 36, 37, 38, 39, 40, 41, 42] (by decide +kernel) (by decide +kernel)) (goodIn_sub (fun _ h => List.mem_cons_of_mem _ (List.mem_append_right _ h)) (by decide +kernel))
set_option maxRecDepth 20000 in
theorem gL_integral_X5_integral : GoodIn wsL_integral (wsV RL 69 RX5 yX5_integral wsX5_integral) := goodIn_app (goodIn_of _ (by decide +kernel)) ggL_integral_X5_integral
theorem dL_integral_0 : decode cL_integral 0 = .ok (.aload_n 2, 1) := by decide +kernel
theorem dL_integral_1 : decode cL_integral 1 = .ok (.iconst 0, 1) := by decide +kernel
theorem dL_integral_2 : decode cL_integral 2 = .ok (.aload_n 0, 1) := by decide +kernel
theorem dL_integral_3 : decode cL_integral 3 = .ok (.iload_n 1, 1) := by decide +kernel
theorem dL_integral_4 : decode cL_integral 4 = .ok (.invokevirtual 69, 3) := by decide +kernel
theorem dL_integral_7 : decode cL_integral 7 = .ok (.lastore, 1) := by decide +kernel
theorem dL_integral_8 : decode cL_integral 8 = .ok (.goto 6, 3) := by decide +kernel
theorem dL_integral_11 : decode cL_integral 11 = .ok (.astore_n 3, 1) := by decide +kernel
theorem dL_integral_12 : decode cL_integral 12 = .ok (.iconst 1, 1) := by decide +kernel
theorem dL_integral_13 : decode cL_integral 13 = .ok (.ireturn, 1) := by decide +kernel
theorem dL_integral_14 : decode cL_integral 14 = .ok (.iconst 0, 1) := by decide +kernel
theorem dL_integral_15 : decode cL_integral 15 = .ok (.ireturn, 1) := by decide +kernel
set_option maxRecDepth 20000 in
theorem ggL_gain_X5_gain : GoodIn wsL_gain wsX5_gain := goodIn_ca (goodIn_r _ [6, 7, 8, 9, 10, 11, 12, 13, 5, 14, 15, 16, 17, 18, 19, 20, 21, 22, 23, 24, 25, 26, 27, 28, 29, 30, 31, 32, 33, 34, 35, 36, 37, 38, 39, 40, 41, 42, 43, 44, 45, 46, 47] (by decide +kernel) (by decide +kernel)) (goodIn_sub (fun _ h => List.mem_cons_of_mem _ (List.mem_append_right _ h)) (by decide +kernel))
set_option maxRecDepth 20000 in
theorem gL_gain_X5_gain : GoodIn wsL_gain (wsV RL 72 RX5 yX5_gain wsX5_gain) := goodIn_app (goodIn_of _ (by decide +kernel)) ggL_gain_X5_gain
theorem dL_gain_0 : decode cL_gain 0 = .ok (.aload_n 3, 1) := by decide +kernel
theorem dL_gain_1 : decode cL_gain 1 = .ok (.iconst 0, 1) := by decide +kernel
theorem dL_gain_2 : decode cL_gain 2 = .ok (.aload_n 0, 1) := by decide +kernel
theorem dL_gain_3 : decode cL_gain 3 = .ok (.iload_n 1, 1) := by decide +kernel
theorem dL_gain_4 : decode cL_gain 4 = .ok (.iload_n 2, 1) := by decide +kernel
theorem dL_gain_5 : decode cL_gain 5 = .ok (.invokevirtual 72, 3) := by decide +kernel
theorem dL_gain_8 : decode cL_gain 8 = .ok (.i2l, 1) := by decide +kernel
theorem dL_gain_9 : decode cL_gain 9 = .ok (.lastore, 1) := by decide +kernel
theorem dL_gain_10 : decode cL_gain 10 = .ok (.goto 7, 3) := by decide +kernel
theorem dL_gain_13 : decode cL_gain 13 = .ok (.astore 4, 2) := by decide +kernel
theorem dL_gain_15 : decode cL_gain 15 = .ok (.iconst 1, 1) := by decide +kernel
theorem dL_gain_16 : decode cL_gain 16 = .ok (.ireturn, 1) := by decide +kernel
theorem dL_gain_17 : decode cL_gain 17 = .ok (.iconst 0, 1) := by decide +kernel
theorem dL_gain_18 : decode cL_gain 18 = .ok (.ireturn, 1) := by decide +kernel
set_option maxRecDepth 20000 in
theorem ggL_mode_X5_mode : GoodIn wsL_mode wsX5_mode := goodIn_ca (goodIn_r _ [6, 7, 8, 9, 10, 5, 11, 12, 13, 14, 15, 16, 17, 18, 19, 20, 21, 22, 23, 24, 25, 26] (by decide +kernel) (by decide +kernel)) (goodIn_sub (fun _ h => List.mem_cons_of_mem _ (List.mem_append_right _ h)) (by decide +kernel))
set_option maxRecDepth 20000 in
theorem gL_mode_X5_mode : GoodIn wsL_mode (wsV RL 75 RX5 yX5_mode wsX5_mode) := goodIn_app (goodIn_of _ (by decide +kernel)) ggL_mode_X5_mode
theorem dL_mode_0 : decode cL_mode 0 = .ok (.aload_n 2, 1) := by decide +kernel
theorem dL_mode_1 : decode cL_mode 1 = .ok (.iconst 0, 1) := by decide +kernel
theorem dL_mode_2 : decode cL_mode 2 = .ok (.aload_n 0, 1) := by decide +kernel
theorem dL_mode_3 : decode cL_mode 3 = .ok (.iload_n 1, 1) := by decide +kernel
theorem dL_mode_4 : decode cL_mode 4 = .ok (.invokevirtual 75, 3) := by decide +kernel
theorem dL_mode_7 : decode cL_mode 7 = .ok (.i2l, 1) := by decide +kernel
theorem dL_mode_8 : decode cL_mode 8 = .ok (.lastore, 1) := by decide +kernel
theorem dL_mode_9 : decode cL_mode 9 = .ok (.goto 6, 3) := by decide +kernel
theorem dL_mode_12 : decode cL_mode 12 = .ok (.astore_n 3, 1) := by decide +kernel
theorem dL_mode_13 : decode cL_mode 13 = .ok (.iconst 1, 1) := by decide +kernel
theorem dL_mode_14 : decode cL_mode 14 = .ok (.ireturn, 1) := by decide +kernel
theorem dL_mode_15 : decode cL_mode 15 = .ok (.iconst 0, 1) := by decide +kernel
theorem dL_mode_16 : decode cL_mode 16 = .ok (.ireturn, 1) := by decide +kernel
set_option maxRecDepth 20000 in
theorem ggL_wasStarved_X5_wasStarved : GoodIn wsL_wasStarved wsX5_wasStarved := goodIn_ca (goodIn_r _ [6, 7, 8, 9, 10, 5, 11, 12, 13, 14, 15, 16, 17, 18, 19, 20, 21, 22, 23, 24, 25, 26] (by decide +kernel) (by decide +kernel)) (goodIn_sub (fun _ h => List.mem_cons_of_mem _ (List.mem_append_right _ h)) (by decide +kernel))
set_option maxRecDepth 20000 in
theorem gL_wasStarved_X5_wasStarved : GoodIn wsL_wasStarved (wsV RL 78 RX5 yX5_wasStarved wsX5_wasStarved) := goodIn_app (goodIn_of _ (by decide +kernel)) ggL_wasStarved_X5_wasStarved
theorem dL_wasStarved_0 : decode cL_wasStarved 0 = .ok (.aload_n 2, 1) := by decide +kernel
theorem dL_wasStarved_1 : decode cL_wasStarved 1 = .ok (.iconst 0, 1) := by decide +kernel
theorem dL_wasStarved_2 : decode cL_wasStarved 2 = .ok (.aload_n 0, 1) := by decide +kernel
theorem dL_wasStarved_3 : decode cL_wasStarved 3 = .ok (.iload_n 1, 1) := by decide +kernel
theorem dL_wasStarved_4 : decode cL_wasStarved 4 = .ok (.invokevirtual 78, 3) := by decide +kernel
theorem dL_wasStarved_7 : decode cL_wasStarved 7 = .ok (.ifCond .eq 7, 3) := by decide +kernel
theorem dL_wasStarved_10 : decode cL_wasStarved 10 = .ok (.lconst 1, 1) := by decide +kernel
theorem dL_wasStarved_11 : decode cL_wasStarved 11 = .ok (.goto 4, 3) := by decide +kernel
theorem dL_wasStarved_14 : decode cL_wasStarved 14 = .ok (.lconst 0, 1) := by decide +kernel
theorem dL_wasStarved_15 : decode cL_wasStarved 15 = .ok (.lastore, 1) := by decide +kernel
theorem dL_wasStarved_16 : decode cL_wasStarved 16 = .ok (.goto 6, 3) := by decide +kernel
theorem dL_wasStarved_19 : decode cL_wasStarved 19 = .ok (.astore_n 3, 1) := by decide +kernel
theorem dL_wasStarved_20 : decode cL_wasStarved 20 = .ok (.iconst 1, 1) := by decide +kernel
theorem dL_wasStarved_21 : decode cL_wasStarved 21 = .ok (.ireturn, 1) := by decide +kernel
theorem dL_wasStarved_22 : decode cL_wasStarved 22 = .ok (.iconst 0, 1) := by decide +kernel
theorem dL_wasStarved_23 : decode cL_wasStarved 23 = .ok (.ireturn, 1) := by decide +kernel
set_option maxRecDepth 20000 in
theorem ggL_held_X5_held : GoodIn wsL_held wsX5_held := goodIn_ca (goodIn_r _ [6, 7, 8, 9, 10, 11, 5, 12, 13, 14, 15, 16, 17, 18, 19, 20, 21, 22, 23, 24, 25, 26, 27, 28, 29, 30, 31, 32, 33, 34, 35, 36, 37, 38, 39, 40, 41, 42] (by decide +kernel) (by decide +kernel)) (goodIn_sub (fun _ h => List.mem_cons_of_mem _ (List.mem_append_right _ h)) (by decide +kernel))
set_option maxRecDepth 20000 in
theorem gL_held_X5_held : GoodIn wsL_held (wsV RL 82 RX5 yX5_held wsX5_held) := goodIn_app (goodIn_of _ (by decide +kernel)) ggL_held_X5_held
theorem dL_held_0 : decode cL_held 0 = .ok (.aload_n 2, 1) := by decide +kernel
theorem dL_held_1 : decode cL_held 1 = .ok (.iconst 0, 1) := by decide +kernel
theorem dL_held_2 : decode cL_held 2 = .ok (.aload_n 0, 1) := by decide +kernel
theorem dL_held_3 : decode cL_held 3 = .ok (.iload_n 1, 1) := by decide +kernel
theorem dL_held_4 : decode cL_held 4 = .ok (.invokevirtual 82, 3) := by decide +kernel
theorem dL_held_7 : decode cL_held 7 = .ok (.i2l, 1) := by decide +kernel
theorem dL_held_8 : decode cL_held 8 = .ok (.lastore, 1) := by decide +kernel
theorem dL_held_9 : decode cL_held 9 = .ok (.goto 6, 3) := by decide +kernel
theorem dL_held_12 : decode cL_held 12 = .ok (.astore_n 3, 1) := by decide +kernel
theorem dL_held_13 : decode cL_held 13 = .ok (.iconst 1, 1) := by decide +kernel
theorem dL_held_14 : decode cL_held 14 = .ok (.ireturn, 1) := by decide +kernel
theorem dL_held_15 : decode cL_held 15 = .ok (.iconst 0, 1) := by decide +kernel
theorem dL_held_16 : decode cL_held 16 = .ok (.ireturn, 1) := by decide +kernel
set_option maxRecDepth 20000 in
theorem ggL_startRelay_X5_startRelay : GoodIn wsL_startRelay wsX5_startRelay := goodIn_ca (goodIn_ca (goodIn_ca (goodIn_r _ [8, 9, 10, 11, 12, 13, 14, 15, 7, 16, 17, 18, 19, 20, 21, 22, 23, 24, 25, 26, 27, 28, 29, 30, 31, 32, 33, 34, 35, 36, 37, 38, 39, 40, 41, 42, 43, 44, 45, 46, 47, 48, 49, 50, 51, 52, 53, 54, 55, 56, 57, 58, 59, 60, 61, 62, 63, 64, 65, 66, 67, 68] (by decide +kernel) (by decide +kernel)) (goodIn_sub (fun _ h => List.mem_cons_of_mem _ (List.mem_append_left _ (List.mem_append_left _ (List.mem_append_right _ h)))) (by decide +kernel))) (goodIn_sub (fun _ h => List.mem_cons_of_mem _ (List.mem_append_left _ (List.mem_append_right _ h))) (by decide +kernel))) (goodIn_sub (fun _ h => List.mem_cons_of_mem _ (List.mem_append_right _ h)) (by decide +kernel))
set_option maxRecDepth 20000 in
theorem gL_startRelay_X5_startRelay : GoodIn wsL_startRelay (wsV RL 85 RX5 yX5_startRelay wsX5_startRelay) := goodIn_app (goodIn_of _ (by decide +kernel)) ggL_startRelay_X5_startRelay
theorem dL_startRelay_0 : decode cL_startRelay 0 = .ok (.aload_n 0, 1) := by decide +kernel
theorem dL_startRelay_1 : decode cL_startRelay 1 = .ok (.iload_n 1, 1) := by decide +kernel
theorem dL_startRelay_2 : decode cL_startRelay 2 = .ok (.iload_n 2, 1) := by decide +kernel
theorem dL_startRelay_3 : decode cL_startRelay 3 = .ok (.iload_n 3, 1) := by decide +kernel
theorem dL_startRelay_4 : decode cL_startRelay 4 = .ok (.invokevirtual 85, 3) := by decide +kernel
theorem dL_startRelay_7 : decode cL_startRelay 7 = .ok (.goto 15, 3) := by decide +kernel
theorem dL_startRelay_10 : decode cL_startRelay 10 = .ok (.astore 4, 2) := by decide +kernel
theorem dL_startRelay_12 : decode cL_startRelay 12 = .ok (.iconst 1, 1) := by decide +kernel
theorem dL_startRelay_13 : decode cL_startRelay 13 = .ok (.ireturn, 1) := by decide +kernel
theorem dL_startRelay_14 : decode cL_startRelay 14 = .ok (.astore 4, 2) := by decide +kernel
theorem dL_startRelay_16 : decode cL_startRelay 16 = .ok (.iconst 2, 1) := by decide +kernel
theorem dL_startRelay_17 : decode cL_startRelay 17 = .ok (.ireturn, 1) := by decide +kernel
theorem dL_startRelay_18 : decode cL_startRelay 18 = .ok (.astore 4, 2) := by decide +kernel
theorem dL_startRelay_20 : decode cL_startRelay 20 = .ok (.iconst 3, 1) := by decide +kernel
theorem dL_startRelay_21 : decode cL_startRelay 21 = .ok (.ireturn, 1) := by decide +kernel
theorem dL_startRelay_22 : decode cL_startRelay 22 = .ok (.iconst 0, 1) := by decide +kernel
theorem dL_startRelay_23 : decode cL_startRelay 23 = .ok (.ireturn, 1) := by decide +kernel
set_option maxRecDepth 20000 in
theorem ggL_experiment_X5_experiment : GoodIn wsL_experiment wsX5_experiment := goodIn_ca (goodIn_r _ [6, 7, 8, 9, 10, 11, 5, 12, 13, 14, 15, 16, 17, 18, 19, 20, 21, 22, 23, 24, 25, 26, 27, 28, 29, 30, 31, 32, 33, 34, 35, 36, 37, 38, 39] (by decide +kernel) (by decide +kernel)) (goodIn_sub (fun _ h => List.mem_cons_of_mem _ (List.mem_append_right _ h)) (by decide +kernel))
set_option maxRecDepth 20000 in
theorem gL_experiment_X5_experiment : GoodIn wsL_experiment (wsV RL 88 RX5 yX5_experiment wsX5_experiment) := goodIn_app (goodIn_of _ (by decide +kernel)) ggL_experiment_X5_experiment
theorem dL_experiment_0 : decode cL_experiment 0 = .ok (.aload_n 2, 1) := by decide +kernel
theorem dL_experiment_1 : decode cL_experiment 1 = .ok (.iconst 0, 1) := by decide +kernel
theorem dL_experiment_2 : decode cL_experiment 2 = .ok (.aload_n 0, 1) := by decide +kernel
theorem dL_experiment_3 : decode cL_experiment 3 = .ok (.iload_n 1, 1) := by decide +kernel
theorem dL_experiment_4 : decode cL_experiment 4 = .ok (.invokevirtual 88, 3) := by decide +kernel
theorem dL_experiment_7 : decode cL_experiment 7 = .ok (.i2l, 1) := by decide +kernel
theorem dL_experiment_8 : decode cL_experiment 8 = .ok (.lastore, 1) := by decide +kernel
theorem dL_experiment_9 : decode cL_experiment 9 = .ok (.goto 6, 3) := by decide +kernel
theorem dL_experiment_12 : decode cL_experiment 12 = .ok (.astore_n 3, 1) := by decide +kernel
theorem dL_experiment_13 : decode cL_experiment 13 = .ok (.iconst 1, 1) := by decide +kernel
theorem dL_experiment_14 : decode cL_experiment 14 = .ok (.ireturn, 1) := by decide +kernel
theorem dL_experiment_15 : decode cL_experiment 15 = .ok (.iconst 0, 1) := by decide +kernel
theorem dL_experiment_16 : decode cL_experiment 16 = .ok (.ireturn, 1) := by decide +kernel
set_option maxRecDepth 20000 in
theorem ggL_period_X5_period : GoodIn wsL_period wsX5_period := goodIn_ca (goodIn_ca (goodIn_r _ [7, 8, 9, 10, 11, 12, 13, 6, 14, 15, 16, 17, 18, 19, 20, 21, 22, 23, 24, 25, 26, 27, 28, 29, 30, 31, 32, 33, 34, 35, 36, 37, 38, 39, 40, 41, 42, 43, 44, 45, 46] (by decide +kernel) (by decide +kernel)) (goodIn_sub (fun _ h => List.mem_cons_of_mem _ (List.mem_append_left _ (List.mem_append_right _ h))) (by decide +kernel))) (goodIn_sub (fun _ h => List.mem_cons_of_mem _ (List.mem_append_right _ h)) (by decide +kernel))
set_option maxRecDepth 20000 in
theorem gL_period_X5_period : GoodIn wsL_period (wsV RL 91 RX5 yX5_period wsX5_period) := goodIn_app (goodIn_of _ (by decide +kernel)) ggL_period_X5_period
theorem dL_period_0 : decode cL_period 0 = .ok (.aload_n 2, 1) := by decide +kernel
theorem dL_period_1 : decode cL_period 1 = .ok (.iconst 0, 1) := by decide +kernel
theorem dL_period_2 : decode cL_period 2 = .ok (.aload_n 0, 1) := by decide +kernel
theorem dL_period_3 : decode cL_period 3 = .ok (.iload_n 1, 1) := by decide +kernel
theorem dL_period_4 : decode cL_period 4 = .ok (.invokevirtual 91, 3) := by decide +kernel
theorem dL_period_7 : decode cL_period 7 = .ok (.i2l, 1) := by decide +kernel
theorem dL_period_8 : decode cL_period 8 = .ok (.lastore, 1) := by decide +kernel
theorem dL_period_9 : decode cL_period 9 = .ok (.goto 9, 3) := by decide +kernel
theorem dL_period_12 : decode cL_period 12 = .ok (.astore_n 3, 1) := by decide +kernel
theorem dL_period_13 : decode cL_period 13 = .ok (.iconst 1, 1) := by decide +kernel
theorem dL_period_14 : decode cL_period 14 = .ok (.ireturn, 1) := by decide +kernel
theorem dL_period_15 : decode cL_period 15 = .ok (.astore_n 3, 1) := by decide +kernel
theorem dL_period_16 : decode cL_period 16 = .ok (.iconst 2, 1) := by decide +kernel
theorem dL_period_17 : decode cL_period 17 = .ok (.ireturn, 1) := by decide +kernel
theorem dL_period_18 : decode cL_period 18 = .ok (.iconst 0, 1) := by decide +kernel
theorem dL_period_19 : decode cL_period 19 = .ok (.ireturn, 1) := by decide +kernel
set_option maxRecDepth 20000 in
theorem ggL_swing_X5_swing : GoodIn wsL_swing wsX5_swing := goodIn_ca (goodIn_ca (goodIn_r _ [7, 8, 9, 10, 11, 12, 13, 6, 14, 15, 16, 17, 18, 19, 20, 21, 22, 23, 24, 25, 26, 27, 28, 29, 30, 31, 32, 33, 34, 35, 36, 37, 38, 39, 40, 41, 42, 43, 44, 45, 46] (by decide +kernel) (by decide +kernel)) (goodIn_sub (fun _ h => List.mem_cons_of_mem _ (List.mem_append_left _ (List.mem_append_right _ h))) (by decide +kernel))) (goodIn_sub (fun _ h => List.mem_cons_of_mem _ (List.mem_append_right _ h)) (by decide +kernel))
set_option maxRecDepth 20000 in
theorem gL_swing_X5_swing : GoodIn wsL_swing (wsV RL 94 RX5 yX5_swing wsX5_swing) := goodIn_app (goodIn_of _ (by decide +kernel)) ggL_swing_X5_swing
theorem dL_swing_0 : decode cL_swing 0 = .ok (.aload_n 2, 1) := by decide +kernel
theorem dL_swing_1 : decode cL_swing 1 = .ok (.iconst 0, 1) := by decide +kernel
theorem dL_swing_2 : decode cL_swing 2 = .ok (.aload_n 0, 1) := by decide +kernel
theorem dL_swing_3 : decode cL_swing 3 = .ok (.iload_n 1, 1) := by decide +kernel
theorem dL_swing_4 : decode cL_swing 4 = .ok (.invokevirtual 94, 3) := by decide +kernel
theorem dL_swing_7 : decode cL_swing 7 = .ok (.lastore, 1) := by decide +kernel
theorem dL_swing_8 : decode cL_swing 8 = .ok (.goto 9, 3) := by decide +kernel
theorem dL_swing_11 : decode cL_swing 11 = .ok (.astore_n 3, 1) := by decide +kernel
theorem dL_swing_12 : decode cL_swing 12 = .ok (.iconst 1, 1) := by decide +kernel
theorem dL_swing_13 : decode cL_swing 13 = .ok (.ireturn, 1) := by decide +kernel
theorem dL_swing_14 : decode cL_swing 14 = .ok (.astore_n 3, 1) := by decide +kernel
theorem dL_swing_15 : decode cL_swing 15 = .ok (.iconst 2, 1) := by decide +kernel
theorem dL_swing_16 : decode cL_swing 16 = .ok (.ireturn, 1) := by decide +kernel
theorem dL_swing_17 : decode cL_swing 17 = .ok (.iconst 0, 1) := by decide +kernel
theorem dL_swing_18 : decode cL_swing 18 = .ok (.ireturn, 1) := by decide +kernel
set_option maxRecDepth 20000 in
theorem ggL_ultimateGain_X5_ultimateGain : GoodIn wsL_ultimateGain wsX5_ultimateGain := goodIn_ca (goodIn_ca (goodIn_r _ [7, 8, 9, 10, 11, 12, 13, 6, 14, 15, 16, 17, 18, 19, 20, 21, 22, 23, 24, 25, 26, 27, 28, 29, 30, 31, 32, 33, 34, 35, 36, 37, 38, 39, 40, 41, 42, 43, 44, 45, 46, 47, 48, 49, 50, 51, 52, 53, 54, 55, 56, 57, 58, 59] (by decide +kernel) (by decide +kernel)) (goodIn_sub (fun _ h => List.mem_cons_of_mem _ (List.mem_append_left _ (List.mem_append_right _ h))) (by decide +kernel))) (goodIn_sub (fun _ h => List.mem_cons_of_mem _ (List.mem_append_right _ h)) (by decide +kernel))
set_option maxRecDepth 20000 in
theorem gL_ultimateGain_X5_ultimateGain : GoodIn wsL_ultimateGain (wsV RL 97 RX5 yX5_ultimateGain wsX5_ultimateGain) := goodIn_app (goodIn_of _ (by decide +kernel)) ggL_ultimateGain_X5_ultimateGain
theorem dL_ultimateGain_0 : decode cL_ultimateGain 0 = .ok (.aload_n 2, 1) := by decide +kernel
theorem dL_ultimateGain_1 : decode cL_ultimateGain 1 = .ok (.iconst 0, 1) := by decide +kernel
theorem dL_ultimateGain_2 : decode cL_ultimateGain 2 = .ok (.aload_n 0, 1) := by decide +kernel
theorem dL_ultimateGain_3 : decode cL_ultimateGain 3 = .ok (.iload_n 1, 1) := by decide +kernel
theorem dL_ultimateGain_4 : decode cL_ultimateGain 4 = .ok (.invokevirtual 97, 3) := by decide +kernel
theorem dL_ultimateGain_7 : decode cL_ultimateGain 7 = .ok (.i2l, 1) := by decide +kernel
theorem dL_ultimateGain_8 : decode cL_ultimateGain 8 = .ok (.lastore, 1) := by decide +kernel
theorem dL_ultimateGain_9 : decode cL_ultimateGain 9 = .ok (.goto 9, 3) := by decide +kernel
theorem dL_ultimateGain_12 : decode cL_ultimateGain 12 = .ok (.astore_n 3, 1) := by decide +kernel
theorem dL_ultimateGain_13 : decode cL_ultimateGain 13 = .ok (.iconst 1, 1) := by decide +kernel
theorem dL_ultimateGain_14 : decode cL_ultimateGain 14 = .ok (.ireturn, 1) := by decide +kernel
theorem dL_ultimateGain_15 : decode cL_ultimateGain 15 = .ok (.astore_n 3, 1) := by decide +kernel
theorem dL_ultimateGain_16 : decode cL_ultimateGain 16 = .ok (.iconst 2, 1) := by decide +kernel
theorem dL_ultimateGain_17 : decode cL_ultimateGain 17 = .ok (.ireturn, 1) := by decide +kernel
theorem dL_ultimateGain_18 : decode cL_ultimateGain 18 = .ok (.iconst 0, 1) := by decide +kernel
theorem dL_ultimateGain_19 : decode cL_ultimateGain 19 = .ok (.ireturn, 1) := by decide +kernel
set_option maxRecDepth 20000 in
theorem ggL_proposed_X5_proposed : GoodIn wsL_proposed wsX5_proposed := goodIn_ca (goodIn_ca (goodIn_ca (goodIn_r _ [8, 9, 10, 11, 12, 13, 14, 15, 16, 17, 18, 19, 20, 21, 22, 7, 23, 24, 25, 26, 27, 28, 29, 30, 31, 32, 33, 34, 35, 36, 37, 38, 39, 40, 41, 42, 43, 44, 45, 46, 47, 48, 49, 50, 51, 52, 53, 54, 55, 56, 57, 58, 59, 60, 61, 62, 63, 64, 65, 66, 67, 68, 69, 70, 71, 72, 73, 74, 75, 76, 77, 78, 79, 80, 81, 82, 83, 84, 85, 86, 87, 88, 89, 90, 91, 92, 93, 94, 95, 96, 97, 98, 99, 100, 101] (by decide +kernel) (by decide +kernel)) (goodIn_sub (fun _ h => List.mem_cons_of_mem _ (List.mem_append_left _ (List.mem_append_left _ (List.mem_append_right _ h)))) (by decide +kernel))) (goodIn_sub (fun _ h => List.mem_cons_of_mem _ (List.mem_append_left _ (List.mem_append_right _ h))) (by decide +kernel))) (goodIn_sub (fun _ h => List.mem_cons_of_mem _ (List.mem_append_right _ h)) (by decide +kernel))
set_option maxRecDepth 20000 in
theorem gL_proposed_X5_proposed : GoodIn wsL_proposed (wsV RL 100 RX5 yX5_proposed wsX5_proposed) := goodIn_app (goodIn_of _ (by decide +kernel)) ggL_proposed_X5_proposed
theorem dL_proposed_0 : decode cL_proposed 0 = .ok (.aload 4, 2) := by decide +kernel
theorem dL_proposed_2 : decode cL_proposed 2 = .ok (.iconst 0, 1) := by decide +kernel
theorem dL_proposed_3 : decode cL_proposed 3 = .ok (.aload_n 0, 1) := by decide +kernel
theorem dL_proposed_4 : decode cL_proposed 4 = .ok (.iload_n 1, 1) := by decide +kernel
theorem dL_proposed_5 : decode cL_proposed 5 = .ok (.iload_n 2, 1) := by decide +kernel
theorem dL_proposed_6 : decode cL_proposed 6 = .ok (.iload_n 3, 1) := by decide +kernel
theorem dL_proposed_7 : decode cL_proposed 7 = .ok (.invokevirtual 100, 3) := by decide +kernel
theorem dL_proposed_10 : decode cL_proposed 10 = .ok (.i2l, 1) := by decide +kernel
theorem dL_proposed_11 : decode cL_proposed 11 = .ok (.lastore, 1) := by decide +kernel
theorem dL_proposed_12 : decode cL_proposed 12 = .ok (.goto 15, 3) := by decide +kernel
theorem dL_proposed_15 : decode cL_proposed 15 = .ok (.astore 5, 2) := by decide +kernel
theorem dL_proposed_17 : decode cL_proposed 17 = .ok (.iconst 1, 1) := by decide +kernel
theorem dL_proposed_18 : decode cL_proposed 18 = .ok (.ireturn, 1) := by decide +kernel
theorem dL_proposed_19 : decode cL_proposed 19 = .ok (.astore 5, 2) := by decide +kernel
theorem dL_proposed_21 : decode cL_proposed 21 = .ok (.iconst 2, 1) := by decide +kernel
theorem dL_proposed_22 : decode cL_proposed 22 = .ok (.ireturn, 1) := by decide +kernel
theorem dL_proposed_23 : decode cL_proposed 23 = .ok (.astore 5, 2) := by decide +kernel
theorem dL_proposed_25 : decode cL_proposed 25 = .ok (.iconst 3, 1) := by decide +kernel
theorem dL_proposed_26 : decode cL_proposed 26 = .ok (.ireturn, 1) := by decide +kernel
theorem dL_proposed_27 : decode cL_proposed 27 = .ok (.iconst 0, 1) := by decide +kernel
theorem dL_proposed_28 : decode cL_proposed 28 = .ok (.ireturn, 1) := by decide +kernel
set_option maxRecDepth 20000 in
theorem ggL_law_X5_init : GoodIn wsL_law wsX5_init := goodIn_r _ [9, 10, 11, 12, 13, 14, 15, 16, 17, 18, 19, 20, 21, 22, 23, 24, 25, 26, 27, 28, 29, 30, 31, 32, 33, 34, 35, 36, 37, 38, 39, 40, 41, 6, 42, 43, 44, 45, 46, 47, 48, 49, 50, 51, 52, 53, 54, 55, 56, 57, 58, 59, 60, 61, 62, 63, 802, 803, 846, 847, 848, 849, 850, 851, 852, 853, 854, 855, 856, 857, 858, 859, 860, 861, 862, 863, 864, 865, 866, 867, 868, 869, 870, 871, 872, 873, 874, 875, 876, 877, 878, 879, 880, 881, 882, 883, 884, 885, 886, 887, 888, 889, 890, 891, 892, 893, 894, 895, 896] (by decide +kernel) (by decide +kernel)
set_option maxRecDepth 20000 in
theorem gL_law_X5_init : GoodIn wsL_law (wsX5_init) := ggL_law_X5_init
set_option maxRecDepth 20000 in
theorem ggL_law_X6_init : GoodIn wsL_law wsX6_init := goodIn_r _ [66, 67, 11, 12, 6, 68, 69, 70, 56, 71, 72, 73, 74, 75, 76, 77, 78, 79, 80, 81, 82, 83, 84, 85, 86, 87, 88, 89, 90, 91, 92, 93, 94, 95, 96, 97, 98, 99, 100, 101, 102, 103, 104, 105, 106, 107, 108, 109, 110, 111, 112, 113, 804, 805, 806, 807, 808, 809, 810, 811, 812, 813, 814, 815, 816, 817, 818, 819, 820, 821, 822, 823, 824, 825, 826, 827, 828, 829, 830, 831, 832, 833, 834, 835, 836, 837, 838, 839, 840, 841, 842, 843, 844, 845] (by decide +kernel) (by decide +kernel)
set_option maxRecDepth 20000 in
theorem gL_law_X6_init : GoodIn wsL_law (wsX6_init) := ggL_law_X6_init
set_option maxRecDepth 20000 in
theorem ggL_law_L_setPlant : GoodIn wsL_law wsL_setPlant := goodIn_ca (goodIn_ca (goodIn_r _ [117, 118, 119, 120, 121, 122, 2, 123, 124, 125, 126, 127, 128, 129, 130, 131, 132, 133, 134, 14, 135, 136, 137, 138, 139, 140, 141, 142, 846, 847, 848, 849, 850, 851, 852, 853, 854, 855, 856, 857, 858, 859, 860, 861, 862, 863, 864, 802, 803] (by decide +kernel) (by decide +kernel)) (goodIn_sub (fun _ h => List.mem_append_left _ (List.mem_append_left _ (List.mem_append_right _ h))) (by decide +kernel))) (goodIn_sub (fun _ h => List.mem_append_left _ (List.mem_append_right _ h)) (by decide +kernel))
set_option maxRecDepth 20000 in
theorem gL_law_L_setPlant : GoodIn wsL_law (va_wsS RL 107 yL_setPlant wsL_setPlant) := goodIn_app (goodIn_of _ (by decide +kernel)) ggL_law_L_setPlant
set_option maxRecDepth 20000 in
theorem ggL_law_X6_setPlant : GoodIn wsL_law wsX6_setPlant := goodIn_r _ [146, 68, 69, 70, 71, 147, 148, 5, 149, 150, 151, 152, 153, 154, 155, 156, 157, 804, 805, 806, 807, 808, 809, 810, 811, 812, 813, 814, 815, 816, 817, 818, 819, 820, 821, 822, 823, 824, 825, 826, 827, 828, 829, 830, 831, 832, 833, 834, 835, 836, 837, 838, 839, 840, 841, 842, 843, 844, 845] (by decide +kernel) (by decide +kernel)
set_option maxRecDepth 20000 in
theorem gL_law_X6_setPlant : GoodIn wsL_law (wsV RL 112 RX6 yX6_setPlant wsX6_setPlant) := goodIn_app (goodIn_of _ (by decide +kernel)) ggL_law_X6_setPlant
set_option maxRecDepth 20000 in
theorem ggL_law_X6_thrown : GoodIn wsL_law wsX6_thrown := goodIn_r _ [161, 157, 804, 805, 806, 807, 808, 809, 810, 811, 812, 813, 814, 815, 816, 817, 818, 819, 820, 821, 822, 823, 824, 825, 826, 827, 828, 829, 830, 831, 832, 833, 834, 835, 836, 837, 838, 839, 840, 841, 842, 843, 844, 845] (by decide +kernel) (by decide +kernel)
set_option maxRecDepth 20000 in
theorem gL_law_X6_thrown : GoodIn wsL_law (wsV RL 113 RX6 yX6_thrown wsX6_thrown) := goodIn_app (goodIn_of _ (by decide +kernel)) ggL_law_X6_thrown
set_option maxRecDepth 20000 in
theorem ggL_law_L_setLoad : GoodIn wsL_law wsL_setLoad := goodIn_ca (goodIn_ca (goodIn_r _ [164, 118, 119, 165, 166, 167, 2, 168, 124, 169, 129, 130, 131, 132, 133, 134, 14, 135, 136, 137, 138, 139, 140, 141, 142, 846, 847, 848, 849, 850, 851, 852, 853, 854, 855, 856, 857, 858, 859, 860, 861, 862, 863, 864, 802, 803] (by decide +kernel) (by decide +kernel)) (goodIn_sub (fun _ h => List.mem_append_left _ (List.mem_append_left _ (List.mem_append_right _ h))) (by decide +kernel))) (goodIn_sub (fun _ h => List.mem_append_left _ (List.mem_append_right _ h)) (by decide +kernel))
set_option maxRecDepth 20000 in
theorem gL_law_L_setLoad : GoodIn wsL_law (va_wsS RL 117 yL_setLoad wsL_setLoad) := goodIn_app (goodIn_of _ (by decide +kernel)) ggL_law_L_setLoad
set_option maxRecDepth 20000 in
theorem ggL_law_X6_setLoad : GoodIn wsL_law wsX6_setLoad := goodIn_r _ [173, 72, 150, 151, 5, 152, 147, 148, 149, 153, 154, 155, 156, 157, 804, 805, 806, 807, 808, 809, 810, 811, 812, 813, 814, 815, 816, 817, 818, 819, 820, 821, 822, 823, 824, 825, 826, 827, 828, 829, 830, 831, 832, 833, 834, 835, 836, 837, 838, 839, 840, 841, 842, 843, 844, 845] (by decide +kernel) (by decide +kernel)
set_option maxRecDepth 20000 in
theorem gL_law_X6_setLoad : GoodIn wsL_law (wsV RL 120 RX6 yX6_setLoad wsX6_setLoad) := goodIn_app (goodIn_of _ (by decide +kernel)) ggL_law_X6_setLoad
set_option maxRecDepth 20000 in
theorem ggL_law_L_setGains : GoodIn wsL_law wsL_setGains := goodIn_ca (goodIn_ca (goodIn_ca (goodIn_r _ [176, 118, 119, 177, 178, 179, 180, 2, 181, 182, 183, 184, 129, 130, 131, 132, 133, 134, 14, 185, 186, 187, 188, 189, 135, 136, 137, 138, 139, 140, 141, 142, 190, 191, 192, 193, 194, 195, 196, 197, 26, 198, 199, 47, 200, 48, 201, 202, 203, 204, 205, 52, 206, 207, 208, 209, 210, 211, 212, 213, 214, 30, 215, 216, 846, 847, 848, 849, 850, 851, 852, 853, 854, 855, 802, 803, 865, 866, 867, 868, 869, 870, 871, 872, 873, 874, 875, 876, 877, 878, 879, 856, 857, 858, 859, 860, 861, 862, 863, 864, 880, 881, 882, 883, 884] (by decide +kernel) (by decide +kernel)) (goodIn_sub (fun _ h => List.mem_append_left _ (List.mem_append_left _ (List.mem_append_right _ h))) (by decide +kernel))) (goodIn_sub (fun _ h => List.mem_append_left _ (List.mem_append_right _ h)) (by decide +kernel))) (goodIn_sub (fun _ h => List.mem_append_right _ h) (by decide +kernel))
set_option maxRecDepth 20000 in
theorem gL_law_L_setGains : GoodIn wsL_law (va_wsS RL 121 yL_setGains wsL_setGains) := goodIn_app (goodIn_of _ (by decide +kernel)) ggL_law_L_setGains
set_option maxRecDepth 20000 in
theorem ggL_law_X6_setGains : GoodIn wsL_law wsX6_setGains := goodIn_r _ [220, 83, 94, 150, 151, 5, 152, 221, 222, 223, 224, 225, 147, 148, 149, 153, 154, 155, 156, 157, 226, 227, 228, 229, 80, 76, 230, 231, 232, 233, 79, 73, 234, 235, 236, 237, 74, 804, 805, 806, 807, 808, 809, 810, 811, 812, 813, 814, 815, 816, 817, 818, 819, 820, 821, 822, 823, 824, 825, 826, 827, 828, 829, 830, 831, 832, 833, 834, 835, 836, 837, 838, 839, 840, 841, 842, 843, 844, 845] (by decide +kernel) (by decide +kernel)
set_option maxRecDepth 20000 in
theorem gL_law_X6_setGains : GoodIn wsL_law (wsV RL 124 RX6 yX6_setGains wsX6_setGains) := goodIn_app (goodIn_of _ (by decide +kernel)) ggL_law_X6_setGains
set_option maxRecDepth 20000 in
theorem ggL_law_L_addPoint : GoodIn wsL_law wsL_addPoint := goodIn_ca (goodIn_ca (goodIn_ca (goodIn_r _ [240, 118, 119, 177, 241, 242, 243, 2, 244, 184, 245, 246, 129, 130, 131, 132, 133, 134, 14, 135, 136, 137, 138, 139, 140, 141, 142, 185, 186, 187, 188, 189, 247, 248, 249, 30, 250, 216, 57, 251, 252, 253, 254, 190, 191, 192, 193, 194, 255, 256, 257, 258, 58, 59, 60, 846, 847, 848, 849, 850, 851, 852, 853, 854, 855, 802, 803, 880, 881, 882, 883, 884] (by decide +kernel) (by decide +kernel)) (goodIn_sub (fun _ h => List.mem_append_left _ (List.mem_append_left _ (List.mem_append_right _ h))) (by decide +kernel))) (goodIn_sub (fun _ h => List.mem_append_left _ (List.mem_append_right _ h)) (by decide +kernel))) (goodIn_sub (fun _ h => List.mem_append_right _ h) (by decide +kernel))
set_option maxRecDepth 20000 in
theorem gL_law_L_addPoint : GoodIn wsL_law (va_wsS RL 125 yL_addPoint wsL_addPoint) := goodIn_app (goodIn_of _ (by decide +kernel)) ggL_law_L_addPoint
set_option maxRecDepth 20000 in
theorem ggL_law_X6_addPoint : GoodIn wsL_law wsX6_addPoint := goodIn_r _ [262, 263, 264, 94, 95, 96, 150, 151, 5, 152, 221, 222, 223, 224, 225, 147, 148, 149, 153, 154, 155, 156, 157, 804, 805, 806, 807, 808, 809, 810, 811, 812, 813, 814, 815, 816, 817, 818, 819, 820, 821, 822, 823, 824, 825, 826, 827, 828, 829, 830, 831, 832, 833, 834, 835, 836, 837, 838, 839, 840, 841, 842, 843, 844, 845] (by decide +kernel) (by decide +kernel)
set_option maxRecDepth 20000 in
theorem gL_law_X6_addPoint : GoodIn wsL_law (wsV RL 128 RX6 yX6_addPoint wsX6_addPoint) := goodIn_app (goodIn_of _ (by decide +kernel)) ggL_law_X6_addPoint
set_option maxRecDepth 20000 in
theorem ggL_law_L_setLimits : GoodIn wsL_law wsL_setLimits := goodIn_ca (goodIn_ca (goodIn_r _ [267, 118, 119, 268, 269, 270, 2, 271, 183, 245, 246, 272, 273, 129, 130, 131, 132, 133, 134, 14, 135, 136, 137, 138, 139, 140, 141, 142, 846, 847, 848, 849, 850, 851, 852, 853, 854, 855, 865, 866, 867, 868, 869, 870, 871, 872, 873, 874, 875, 876, 877, 878, 879, 802, 803] (by decide +kernel) (by decide +kernel)) (goodIn_sub (fun _ h => List.mem_append_left _ (List.mem_append_left _ (List.mem_append_right _ h))) (by decide +kernel))) (goodIn_sub (fun _ h => List.mem_append_left _ (List.mem_append_right _ h)) (by decide +kernel))
set_option maxRecDepth 20000 in
theorem gL_law_L_setLimits : GoodIn wsL_law (va_wsS RL 129 yL_setLimits wsL_setLimits) := goodIn_app (goodIn_of _ (by decide +kernel)) ggL_law_L_setLimits
set_option maxRecDepth 20000 in
theorem ggL_law_X6_setLimits : GoodIn wsL_law wsX6_setLimits := goodIn_r _ [277, 263, 264, 77, 78, 150, 151, 5, 152, 147, 148, 149, 153, 154, 155, 156, 157, 804, 805, 806, 807, 808, 809, 810, 811, 812, 813, 814, 815, 816, 817, 818, 819, 820, 821, 822, 823, 824, 825, 826, 827, 828, 829, 830, 831, 832, 833, 834, 835, 836, 837, 838, 839, 840, 841, 842, 843, 844, 845] (by decide +kernel) (by decide +kernel)
set_option maxRecDepth 20000 in
theorem gL_law_X6_setLimits : GoodIn wsL_law (wsV RL 132 RX6 yX6_setLimits wsX6_setLimits) := goodIn_app (goodIn_of _ (by decide +kernel)) ggL_law_X6_setLimits
set_option maxRecDepth 20000 in
theorem ggL_law_L_setGuard : GoodIn wsL_law wsL_setGuard := goodIn_ca (goodIn_ca (goodIn_r _ [280, 118, 119, 281, 282, 283, 2, 284, 183, 285, 286, 129, 130, 131, 132, 133, 134, 14, 135, 136, 137, 138, 139, 140, 141, 142, 846, 847, 848, 849, 850, 851, 852, 853, 854, 855, 865, 866, 867, 868, 869, 870, 871, 872, 873, 874, 875, 876, 877, 878, 879, 802, 803] (by decide +kernel) (by decide +kernel)) (goodIn_sub (fun _ h => List.mem_append_left _ (List.mem_append_left _ (List.mem_append_right _ h))) (by decide +kernel))) (goodIn_sub (fun _ h => List.mem_append_left _ (List.mem_append_right _ h)) (by decide +kernel))
set_option maxRecDepth 20000 in
theorem gL_law_L_setGuard : GoodIn wsL_law (va_wsS RL 133 yL_setGuard wsL_setGuard) := goodIn_app (goodIn_of _ (by decide +kernel)) ggL_law_L_setGuard
set_option maxRecDepth 20000 in
theorem ggL_law_X6_setGuard : GoodIn wsL_law wsX6_setGuard := goodIn_r _ [290, 81, 82, 150, 151, 5, 152, 147, 148, 149, 153, 154, 155, 156, 157, 804, 805, 806, 807, 808, 809, 810, 811, 812, 813, 814, 815, 816, 817, 818, 819, 820, 821, 822, 823, 824, 825, 826, 827, 828, 829, 830, 831, 832, 833, 834, 835, 836, 837, 838, 839, 840, 841, 842, 843, 844, 845] (by decide +kernel) (by decide +kernel)
set_option maxRecDepth 20000 in
theorem gL_law_X6_setGuard : GoodIn wsL_law (wsV RL 136 RX6 yX6_setGuard wsX6_setGuard) := goodIn_app (goodIn_of _ (by decide +kernel)) ggL_law_X6_setGuard
set_option maxRecDepth 20000 in
theorem ggL_law_L_setSetpoint : GoodIn wsL_law wsL_setSetpoint := goodIn_ca (goodIn_ca (goodIn_ca (goodIn_r _ [293, 118, 119, 177, 294, 295, 296, 2, 297, 245, 246, 182, 183, 298, 129, 130, 131, 132, 133, 134, 14, 135, 136, 137, 138, 139, 140, 141, 142, 190, 191, 192, 193, 194, 846, 847, 848, 849, 850, 851, 852, 853, 854, 855, 865, 866, 867, 868, 869, 870, 871, 872, 873, 874, 875, 876, 877, 878, 879, 802, 803] (by decide +kernel) (by decide +kernel)) (goodIn_sub (fun _ h => List.mem_append_left _ (List.mem_append_left _ (List.mem_append_right _ h))) (by decide +kernel))) (goodIn_sub (fun _ h => List.mem_append_left _ (List.mem_append_right _ h)) (by decide +kernel))) (goodIn_sub (fun _ h => List.mem_append_right _ h) (by decide +kernel))
set_option maxRecDepth 20000 in
theorem gL_law_L_setSetpoint : GoodIn wsL_law (va_wsS RL 137 yL_setSetpoint wsL_setSetpoint) := goodIn_app (goodIn_of _ (by decide +kernel)) ggL_law_L_setSetpoint
set_option maxRecDepth 20000 in
theorem ggL_law_X6_setSetpoint : GoodIn wsL_law wsX6_setSetpoint := goodIn_r _ [302, 263, 264, 83, 79, 150, 151, 5, 152, 147, 148, 149, 153, 154, 155, 156, 157, 804, 805, 806, 807, 808, 809, 810, 811, 812, 813, 814, 815, 816, 817, 818, 819, 820, 821, 822, 823, 824, 825, 826, 827, 828, 829, 830, 831, 832, 833, 834, 835, 836, 837, 838, 839, 840, 841, 842, 843, 844, 845] (by decide +kernel) (by decide +kernel)
set_option maxRecDepth 20000 in
theorem gL_law_X6_setSetpoint : GoodIn wsL_law (wsV RL 139 RX6 yX6_setSetpoint wsX6_setSetpoint) := goodIn_app (goodIn_of _ (by decide +kernel)) ggL_law_X6_setSetpoint
set_option maxRecDepth 20000 in
theorem ggL_law_L_setHand : GoodIn wsL_law wsL_setHand := goodIn_ca (goodIn_ca (goodIn_ca (goodIn_r _ [305, 118, 119, 177, 306, 307, 308, 2, 309, 245, 246, 182, 310, 129, 130, 131, 132, 133, 134, 14, 135, 136, 137, 138, 139, 140, 141, 142, 190, 191, 192, 193, 194, 846, 847, 848, 849, 850, 851, 852, 853, 854, 855, 802, 803] (by decide +kernel) (by decide +kernel)) (goodIn_sub (fun _ h => List.mem_append_left _ (List.mem_append_left _ (List.mem_append_right _ h))) (by decide +kernel))) (goodIn_sub (fun _ h => List.mem_append_left _ (List.mem_append_right _ h)) (by decide +kernel))) (goodIn_sub (fun _ h => List.mem_append_right _ h) (by decide +kernel))
set_option maxRecDepth 20000 in
theorem gL_law_L_setHand : GoodIn wsL_law (va_wsS RL 140 yL_setHand wsL_setHand) := goodIn_app (goodIn_of _ (by decide +kernel)) ggL_law_L_setHand
set_option maxRecDepth 20000 in
theorem ggL_law_X6_setHand : GoodIn wsL_law wsX6_setHand := goodIn_r _ [314, 263, 264, 83, 84, 150, 151, 5, 152, 147, 148, 149, 153, 154, 155, 156, 157, 804, 805, 806, 807, 808, 809, 810, 811, 812, 813, 814, 815, 816, 817, 818, 819, 820, 821, 822, 823, 824, 825, 826, 827, 828, 829, 830, 831, 832, 833, 834, 835, 836, 837, 838, 839, 840, 841, 842, 843, 844, 845] (by decide +kernel) (by decide +kernel)
set_option maxRecDepth 20000 in
theorem gL_law_X6_setHand : GoodIn wsL_law (wsV RL 142 RX6 yX6_setHand wsX6_setHand) := goodIn_app (goodIn_of _ (by decide +kernel)) ggL_law_X6_setHand
set_option maxRecDepth 20000 in
theorem ggL_law_L_setTies : GoodIn wsL_law wsL_setTies := goodIn_ca (goodIn_ca (goodIn_ca (goodIn_r _ [317, 118, 119, 177, 318, 319, 320, 2, 321, 182, 322, 323, 129, 130, 131, 132, 133, 134, 14, 138, 139, 140, 141, 142, 190, 191, 192, 193, 194, 846, 847, 848, 849, 850, 851, 852, 853, 854, 855, 802, 803] (by decide +kernel) (by decide +kernel)) (goodIn_sub (fun _ h => List.mem_append_left _ (List.mem_append_left _ (List.mem_append_right _ h))) (by decide +kernel))) (goodIn_sub (fun _ h => List.mem_append_left _ (List.mem_append_right _ h)) (by decide +kernel))) (goodIn_sub (fun _ h => List.mem_append_right _ h) (by decide +kernel))
set_option maxRecDepth 20000 in
theorem gL_law_L_setTies : GoodIn wsL_law (va_wsS RL 143 yL_setTies wsL_setTies) := goodIn_app (goodIn_of _ (by decide +kernel)) ggL_law_L_setTies
set_option maxRecDepth 20000 in
theorem ggL_law_X6_setTies : GoodIn wsL_law wsX6_setTies := goodIn_r _ [327, 83, 86, 87, 150, 151, 5, 152, 153, 154, 155, 156, 157, 804, 805, 806, 807, 808, 809, 810, 811, 812, 813, 814, 815, 816, 817, 818, 819, 820, 821, 822, 823, 824, 825, 826, 827, 828, 829, 830, 831, 832, 833, 834, 835, 836, 837, 838, 839, 840, 841, 842, 843, 844, 845] (by decide +kernel) (by decide +kernel)
set_option maxRecDepth 20000 in
theorem gL_law_X6_setTies : GoodIn wsL_law (wsV RL 146 RX6 yX6_setTies wsX6_setTies) := goodIn_app (goodIn_of _ (by decide +kernel)) ggL_law_X6_setTies
set_option maxRecDepth 20000 in
theorem ggL_law_L_setMode : GoodIn wsL_law wsL_setMode := goodIn_ca (goodIn_ca (goodIn_ca (goodIn_r _ [330, 118, 119, 177, 331, 332, 333, 2, 334, 182, 323, 129, 130, 131, 132, 133, 134, 14, 135, 136, 137, 138, 139, 140, 141, 142, 190, 191, 192, 193, 194, 335, 336, 337, 16, 338, 36, 27, 339, 340, 341, 342, 343, 344, 35, 345, 346, 347, 34, 348, 349, 350, 351, 352, 26, 353, 354, 47, 200, 199, 355, 201, 202, 203, 204, 205, 52, 206, 207, 208, 209, 210, 211, 846, 847, 848, 849, 850, 851, 852, 853, 854, 855, 802, 803, 885, 886, 887, 888, 889, 890, 891, 892, 893, 894, 895, 896, 865, 866, 867, 868, 869, 870, 871, 872, 873, 874, 875, 876, 877, 878, 879, 856, 857, 858, 859, 860, 861, 862, 863, 864] (by decide +kernel) (by decide +kernel)) (goodIn_sub (fun _ h => List.mem_append_left _ (List.mem_append_left _ (List.mem_append_right _ h))) (by decide +kernel))) (goodIn_sub (fun _ h => List.mem_append_left _ (List.mem_append_right _ h)) (by decide +kernel))) (goodIn_sub (fun _ h => List.mem_append_right _ h) (by decide +kernel))
set_option maxRecDepth 20000 in
theorem gL_law_L_setMode : GoodIn wsL_law (va_wsS RL 147 yL_setMode wsL_setMode) := goodIn_app (goodIn_of _ (by decide +kernel)) ggL_law_L_setMode
set_option maxRecDepth 20000 in
theorem ggL_law_X6_setMode : GoodIn wsL_law wsX6_setMode := goodIn_r _ [359, 83, 87, 84, 97, 150, 151, 5, 152, 147, 148, 149, 153, 154, 155, 156, 157, 360, 361, 362, 363, 75, 364, 365, 366, 367, 80, 111, 76, 93, 230, 231, 232, 233, 79, 73, 234, 235, 236, 237, 74, 804, 805, 806, 807, 808, 809, 810, 811, 812, 813, 814, 815, 816, 817, 818, 819, 820, 821, 822, 823, 824, 825, 826, 827, 828, 829, 830, 831, 832, 833, 834, 835, 836, 837, 838, 839, 840, 841, 842, 843, 844, 845] (by decide +kernel) (by decide +kernel)
set_option maxRecDepth 20000 in
theorem gL_law_X6_setMode : GoodIn wsL_law (wsV RL 149 RX6 yX6_setMode wsX6_setMode) := goodIn_app (goodIn_of _ (by decide +kernel)) ggL_law_X6_setMode
set_option maxRecDepth 20000 in
theorem ggL_law_L_run : GoodIn wsL_law wsL_run := goodIn_ca (goodIn_r _ [370, 119, 371, 372, 373, 2, 374, 375, 135, 136, 137, 138, 139, 140, 141, 142, 376, 377, 378, 379, 14, 124, 380, 381, 382, 383, 384, 182, 183, 298, 385, 386, 387, 388, 16, 389, 36, 390, 391, 392, 393, 394, 395, 27, 339, 396, 397, 398, 26, 399, 400, 50, 401, 402, 403, 404, 405, 406, 407, 408, 409, 350, 351, 352, 353, 354, 47, 200, 199, 355, 201, 202, 203, 204, 205, 52, 206, 207, 208, 209, 210, 211, 410, 411, 412, 413, 414, 23, 415, 416, 344, 417, 418, 419, 420, 35, 421, 422, 423, 424, 425, 426, 34, 427, 428, 429, 430, 431, 432, 433, 434, 349, 435, 436, 437, 438, 439, 440, 441, 442, 443, 444, 445, 446, 447, 448, 449, 450, 451, 452, 31, 453, 454, 455, 30, 456, 216, 457, 458, 459, 460, 57, 461, 462, 463, 464, 58, 465, 466, 467, 468, 469, 470, 471, 472, 473, 474, 475, 476, 477, 478, 479, 59, 480, 481, 482, 483, 60, 484, 196, 197, 198, 48, 485, 486, 487, 488, 489, 490, 491, 492, 493, 494, 495, 496, 497, 498, 499, 500, 501, 502, 503, 51, 504, 505, 506, 22, 507, 508, 42, 509, 40, 510, 511, 512, 41, 513, 514, 515, 516, 517, 518, 519, 520, 802, 803, 846, 847, 848, 849, 850, 851, 852, 853, 854, 855, 865, 866, 867, 868, 869, 870, 871, 872, 873, 874, 875, 876, 877, 878, 879, 856, 857, 858, 859, 860, 861, 862, 863, 864, 885, 886, 887, 888, 889, 890, 891, 892, 893, 894, 895, 896, 880, 881, 882, 883, 884] (by decide +kernel) (by decide +kernel)) (goodIn_sub (fun _ h => List.mem_append_left _ (List.mem_append_right _ h)) (by decide +kernel))
set_option maxRecDepth 20000 in
theorem gL_law_L_run : GoodIn wsL_law (va_wsS RL 150 yL_run wsL_run) := goodIn_app (goodIn_of _ (by decide +kernel)) ggL_law_L_run
set_option maxRecDepth 20000 in
theorem ggL_law_X6_run : GoodIn wsL_law wsX6_run := goodIn_r _ [524, 525, 147, 148, 5, 149, 153, 154, 155, 156, 157, 526, 527, 528, 529, 75, 68, 73, 69, 74, 70, 71, 111, 72, 530, 531, 532, 533, 534, 535, 88, 83, 79, 86, 93, 84, 77, 78, 536, 537, 538, 539, 540, 541, 542, 101, 100, 102, 103, 104, 97, 107, 108, 105, 106, 98, 99, 230, 231, 232, 233, 364, 365, 366, 367, 80, 76, 234, 235, 236, 237, 543, 544, 545, 546, 87, 547, 548, 549, 550, 81, 82, 90, 91, 92, 89, 551, 552, 553, 554, 94, 95, 96, 555, 556, 557, 226, 227, 228, 229, 804, 805, 806, 807, 808, 809, 810, 811, 812, 813, 814, 815, 816, 817, 818, 819, 820, 821, 822, 823, 824, 825, 826, 827, 828, 829, 830, 831, 832, 833, 834, 835, 836, 837, 838, 839, 840, 841, 842, 843, 844, 845] (by decide +kernel) (by decide +kernel)
set_option maxRecDepth 20000 in
theorem gL_law_X6_run : GoodIn wsL_law (wsV RL 153 RX6 yX6_run wsX6_run) := goodIn_app (goodIn_of _ (by decide +kernel)) ggL_law_X6_run
set_option maxRecDepth 20000 in
theorem ggL_law_L_measure : GoodIn wsL_law wsL_measure := goodIn_ca (goodIn_r _ [560, 118, 561, 562, 563, 2, 564, 124, 565, 129, 130, 131, 132, 133, 134, 14, 846, 847, 848, 849, 850, 851, 852, 853, 854, 855, 856, 857, 858, 859, 860, 861, 862, 863, 864, 802, 803] (by decide +kernel) (by decide +kernel)) (goodIn_sub (fun _ h => List.mem_append_left _ (List.mem_append_left _ (List.mem_append_right _ h))) (by decide +kernel))
set_option maxRecDepth 20000 in
theorem gL_law_L_measure : GoodIn wsL_law (va_wsS RL 154 yL_measure wsL_measure) := goodIn_app (goodIn_of _ (by decide +kernel)) ggL_law_L_measure
set_option maxRecDepth 20000 in
theorem ggL_law_X6_measure : GoodIn wsL_law wsX6_measure := goodIn_r _ [569, 73, 570, 571, 572, 5, 573, 150, 151, 152, 153, 154, 155, 156, 157, 804, 805, 806, 807, 808, 809, 810, 811, 812, 813, 814, 815, 816, 817, 818, 819, 820, 821, 822, 823, 824, 825, 826, 827, 828, 829, 830, 831, 832, 833, 834, 835, 836, 837, 838, 839, 840, 841, 842, 843, 844, 845] (by decide +kernel) (by decide +kernel)
set_option maxRecDepth 20000 in
theorem gL_law_X6_measure : GoodIn wsL_law (wsV RL 156 RX6 yX6_measure wsX6_measure) := goodIn_app (goodIn_of _ (by decide +kernel)) ggL_law_X6_measure
set_option maxRecDepth 20000 in
theorem ggL_law_L_output : GoodIn wsL_law wsL_output := goodIn_ca (goodIn_r _ [576, 118, 577, 578, 579, 2, 580, 380, 129, 130, 131, 132, 133, 134, 14, 846, 847, 848, 849, 850, 851, 852, 853, 854, 855, 802, 803] (by decide +kernel) (by decide +kernel)) (goodIn_sub (fun _ h => List.mem_append_left _ (List.mem_append_left _ (List.mem_append_right _ h))) (by decide +kernel))
set_option maxRecDepth 20000 in
theorem gL_law_L_output : GoodIn wsL_law (va_wsS RL 157 yL_output wsL_output) := goodIn_app (goodIn_of _ (by decide +kernel)) ggL_law_L_output
set_option maxRecDepth 20000 in
theorem ggL_law_X6_output : GoodIn wsL_law wsX6_output := goodIn_r _ [584, 570, 571, 572, 5, 573, 150, 151, 152, 153, 154, 155, 156, 157, 360, 361, 362, 363, 75, 804, 805, 806, 807, 808, 809, 810, 811, 812, 813, 814, 815, 816, 817, 818, 819, 820, 821, 822, 823, 824, 825, 826, 827, 828, 829, 830, 831, 832, 833, 834, 835, 836, 837, 838, 839, 840, 841, 842, 843, 844, 845] (by decide +kernel) (by decide +kernel)
set_option maxRecDepth 20000 in
theorem gL_law_X6_output : GoodIn wsL_law (wsV RL 159 RX6 yX6_output wsX6_output) := goodIn_app (goodIn_of _ (by decide +kernel)) ggL_law_X6_output
set_option maxRecDepth 20000 in
theorem ggL_law_L_outputByIncrements : GoodIn wsL_law wsL_outputByIncrements := goodIn_ca (goodIn_r _ [587, 118, 588, 589, 590, 2, 591, 183, 592, 593, 129, 130, 131, 132, 133, 134, 14, 594, 473, 474, 475, 846, 847, 848, 849, 850, 851, 852, 853, 854, 855, 865, 866, 867, 868, 869, 870, 871, 872, 873, 874, 875, 876, 877, 878, 879, 802, 803] (by decide +kernel) (by decide +kernel)) (goodIn_sub (fun _ h => List.mem_append_left _ (List.mem_append_left _ (List.mem_append_right _ h))) (by decide +kernel))
set_option maxRecDepth 20000 in
theorem gL_law_L_outputByIncrements : GoodIn wsL_law (va_wsS RL 160 yL_outputByIncrements wsL_outputByIncrements) := goodIn_app (goodIn_of _ (by decide +kernel)) ggL_law_L_outputByIncrements
set_option maxRecDepth 20000 in
theorem ggL_law_X6_outputByIncrements : GoodIn wsL_law wsX6_outputByIncrements := goodIn_r _ [598, 90, 111, 570, 571, 572, 5, 573, 150, 151, 152, 153, 154, 155, 156, 157, 555, 556, 557, 804, 805, 806, 807, 808, 809, 810, 811, 812, 813, 814, 815, 816, 817, 818, 819, 820, 821, 822, 823, 824, 825, 826, 827, 828, 829, 830, 831, 832, 833, 834, 835, 836, 837, 838, 839, 840, 841, 842, 843, 844, 845] (by decide +kernel) (by decide +kernel)
set_option maxRecDepth 20000 in
theorem gL_law_X6_outputByIncrements : GoodIn wsL_law (wsV RL 162 RX6 yX6_outputByIncrements wsX6_outputByIncrements) := goodIn_app (goodIn_of _ (by decide +kernel)) ggL_law_X6_outputByIncrements
set_option maxRecDepth 20000 in
theorem ggL_law_L_setpoint : GoodIn wsL_law wsL_setpoint := goodIn_ca (goodIn_r _ [601, 118, 602, 603, 604, 2, 605, 183, 298, 129, 130, 131, 132, 133, 134, 14, 846, 847, 848, 849, 850, 851, 852, 853, 854, 855, 865, 866, 867, 868, 869, 870, 871, 872, 873, 874, 875, 876, 877, 878, 879, 802, 803] (by decide +kernel) (by decide +kernel)) (goodIn_sub (fun _ h => List.mem_append_left _ (List.mem_append_left _ (List.mem_append_right _ h))) (by decide +kernel))
set_option maxRecDepth 20000 in
theorem gL_law_L_setpoint : GoodIn wsL_law (va_wsS RL 163 yL_setpoint wsL_setpoint) := goodIn_app (goodIn_of _ (by decide +kernel)) ggL_law_L_setpoint
set_option maxRecDepth 20000 in
theorem ggL_law_X6_setpoint : GoodIn wsL_law wsX6_setpoint := goodIn_r _ [609, 79, 570, 571, 572, 5, 573, 150, 151, 152, 153, 154, 155, 156, 157, 804, 805, 806, 807, 808, 809, 810, 811, 812, 813, 814, 815, 816, 817, 818, 819, 820, 821, 822, 823, 824, 825, 826, 827, 828, 829, 830, 831, 832, 833, 834, 835, 836, 837, 838, 839, 840, 841, 842, 843, 844, 845] (by decide +kernel) (by decide +kernel)
set_option maxRecDepth 20000 in
theorem gL_law_X6_setpoint : GoodIn wsL_law (wsV RL 165 RX6 yX6_setpoint wsX6_setpoint) := goodIn_app (goodIn_of _ (by decide +kernel)) ggL_law_X6_setpoint
set_option maxRecDepth 20000 in
theorem ggL_law_L_integral : GoodIn wsL_law wsL_integral := goodIn_ca (goodIn_r _ [612, 118, 613, 614, 615, 2, 616, 183, 617, 129, 130, 131, 132, 133, 134, 14, 846, 847, 848, 849, 850, 851, 852, 853, 854, 855, 865, 866, 867, 868, 869, 870, 871, 872, 873, 874, 875, 876, 877, 878, 879, 802, 803] (by decide +kernel) (by decide +kernel)) (goodIn_sub (fun _ h => List.mem_append_left _ (List.mem_append_left _ (List.mem_append_right _ h))) (by decide +kernel))
set_option maxRecDepth 20000 in
theorem gL_law_L_integral : GoodIn wsL_law (va_wsS RL 166 yL_integral wsL_integral) := goodIn_app (goodIn_of _ (by decide +kernel)) ggL_law_L_integral
set_option maxRecDepth 20000 in
theorem ggL_law_X6_integral : GoodIn wsL_law wsX6_integral := goodIn_r _ [621, 80, 570, 571, 572, 5, 573, 150, 151, 152, 153, 154, 155, 156, 157, 804, 805, 806, 807, 808, 809, 810, 811, 812, 813, 814, 815, 816, 817, 818, 819, 820, 821, 822, 823, 824, 825, 826, 827, 828, 829, 830, 831, 832, 833, 834, 835, 836, 837, 838, 839, 840, 841, 842, 843, 844, 845] (by decide +kernel) (by decide +kernel)
set_option maxRecDepth 20000 in
theorem gL_law_X6_integral : GoodIn wsL_law (wsV RL 168 RX6 yX6_integral wsX6_integral) := goodIn_app (goodIn_of _ (by decide +kernel)) ggL_law_X6_integral
set_option maxRecDepth 20000 in
theorem ggL_law_L_gain : GoodIn wsL_law wsL_gain := goodIn_ca (goodIn_r _ [624, 118, 625, 626, 627, 2, 628, 183, 629, 630, 631, 129, 130, 131, 132, 133, 134, 14, 632, 633, 634, 846, 847, 848, 849, 850, 851, 852, 853, 854, 855, 865, 866, 867, 868, 869, 870, 871, 872, 873, 874, 875, 876, 877, 878, 879, 802, 803] (by decide +kernel) (by decide +kernel)) (goodIn_sub (fun _ h => List.mem_append_left _ (List.mem_append_left _ (List.mem_append_right _ h))) (by decide +kernel))
set_option maxRecDepth 20000 in
theorem gL_law_L_gain : GoodIn wsL_law (va_wsS RL 169 yL_gain wsL_gain) := goodIn_app (goodIn_of _ (by decide +kernel)) ggL_law_L_gain
set_option maxRecDepth 20000 in
theorem ggL_law_X6_gain : GoodIn wsL_law wsX6_gain := goodIn_r _ [638, 76, 150, 151, 5, 152, 147, 148, 149, 153, 154, 155, 156, 157, 804, 805, 806, 807, 808, 809, 810, 811, 812, 813, 814, 815, 816, 817, 818, 819, 820, 821, 822, 823, 824, 825, 826, 827, 828, 829, 830, 831, 832, 833, 834, 835, 836, 837, 838, 839, 840, 841, 842, 843, 844, 845] (by decide +kernel) (by decide +kernel)
set_option maxRecDepth 20000 in
theorem gL_law_X6_gain : GoodIn wsL_law (wsV RL 171 RX6 yX6_gain wsX6_gain) := goodIn_app (goodIn_of _ (by decide +kernel)) ggL_law_X6_gain
set_option maxRecDepth 20000 in
theorem ggL_law_L_mode : GoodIn wsL_law wsL_mode := goodIn_ca (goodIn_r _ [641, 118, 642, 643, 644, 2, 645, 182, 129, 130, 131, 132, 133, 134, 14, 846, 847, 848, 849, 850, 851, 852, 853, 854, 855, 802, 803] (by decide +kernel) (by decide +kernel)) (goodIn_sub (fun _ h => List.mem_append_left _ (List.mem_append_left _ (List.mem_append_right _ h))) (by decide +kernel))
set_option maxRecDepth 20000 in
theorem gL_law_L_mode : GoodIn wsL_law (va_wsS RL 172 yL_mode wsL_mode) := goodIn_app (goodIn_of _ (by decide +kernel)) ggL_law_L_mode
set_option maxRecDepth 20000 in
theorem ggL_law_X6_mode : GoodIn wsL_law wsX6_mode := goodIn_r _ [649, 83, 570, 571, 572, 5, 573, 150, 151, 152, 153, 154, 155, 156, 157, 804, 805, 806, 807, 808, 809, 810, 811, 812, 813, 814, 815, 816, 817, 818, 819, 820, 821, 822, 823, 824, 825, 826, 827, 828, 829, 830, 831, 832, 833, 834, 835, 836, 837, 838, 839, 840, 841, 842, 843, 844, 845] (by decide +kernel) (by decide +kernel)
set_option maxRecDepth 20000 in
theorem gL_law_X6_mode : GoodIn wsL_law (wsV RL 174 RX6 yX6_mode wsX6_mode) := goodIn_app (goodIn_of _ (by decide +kernel)) ggL_law_X6_mode
set_option maxRecDepth 20000 in
theorem ggL_law_L_wasStarved : GoodIn wsL_law wsL_wasStarved := goodIn_ca (goodIn_r _ [652, 118, 653, 654, 655, 2, 656, 385, 129, 130, 131, 132, 133, 134, 14, 846, 847, 848, 849, 850, 851, 852, 853, 854, 855, 802, 803] (by decide +kernel) (by decide +kernel)) (goodIn_sub (fun _ h => List.mem_append_left _ (List.mem_append_left _ (List.mem_append_right _ h))) (by decide +kernel))
set_option maxRecDepth 20000 in
theorem gL_law_L_wasStarved : GoodIn wsL_law (va_wsS RL 175 yL_wasStarved wsL_wasStarved) := goodIn_app (goodIn_of _ (by decide +kernel)) ggL_law_L_wasStarved
set_option maxRecDepth 20000 in
theorem ggL_law_X6_wasStarved : GoodIn wsL_law wsX6_wasStarved := goodIn_r _ [660, 88, 570, 571, 572, 5, 573, 150, 151, 152, 153, 154, 155, 156, 157, 804, 805, 806, 807, 808, 809, 810, 811, 812, 813, 814, 815, 816, 817, 818, 819, 820, 821, 822, 823, 824, 825, 826, 827, 828, 829, 830, 831, 832, 833, 834, 835, 836, 837, 838, 839, 840, 841, 842, 843, 844, 845] (by decide +kernel) (by decide +kernel)
set_option maxRecDepth 20000 in
theorem gL_law_X6_wasStarved : GoodIn wsL_law (wsV RL 177 RX6 yX6_wasStarved wsX6_wasStarved) := goodIn_app (goodIn_of _ (by decide +kernel)) ggL_law_X6_wasStarved
set_option maxRecDepth 20000 in
theorem ggL_law_L_held : GoodIn wsL_law wsL_held := goodIn_ca (goodIn_r _ [663, 118, 664, 665, 666, 2, 667, 183, 668, 129, 130, 131, 132, 133, 134, 14, 846, 847, 848, 849, 850, 851, 852, 853, 854, 855, 865, 866, 867, 868, 869, 870, 871, 872, 873, 874, 875, 876, 877, 878, 879, 802, 803] (by decide +kernel) (by decide +kernel)) (goodIn_sub (fun _ h => List.mem_append_left _ (List.mem_append_left _ (List.mem_append_right _ h))) (by decide +kernel))
set_option maxRecDepth 20000 in
theorem gL_law_L_held : GoodIn wsL_law (va_wsS RL 178 yL_held wsL_held) := goodIn_app (goodIn_of _ (by decide +kernel)) ggL_law_L_held
set_option maxRecDepth 20000 in
theorem ggL_law_X6_held : GoodIn wsL_law wsX6_held := goodIn_r _ [672, 89, 570, 571, 572, 5, 573, 150, 151, 152, 153, 154, 155, 156, 157, 804, 805, 806, 807, 808, 809, 810, 811, 812, 813, 814, 815, 816, 817, 818, 819, 820, 821, 822, 823, 824, 825, 826, 827, 828, 829, 830, 831, 832, 833, 834, 835, 836, 837, 838, 839, 840, 841, 842, 843, 844, 845] (by decide +kernel) (by decide +kernel)
set_option maxRecDepth 20000 in
theorem gL_law_X6_held : GoodIn wsL_law (wsV RL 180 RX6 yX6_held wsX6_held) := goodIn_app (goodIn_of _ (by decide +kernel)) ggL_law_X6_held
set_option maxRecDepth 20000 in
theorem ggL_law_L_startRelay : GoodIn wsL_law wsL_startRelay := goodIn_ca (goodIn_ca (goodIn_ca (goodIn_r _ [675, 118, 119, 177, 676, 677, 678, 2, 679, 680, 182, 681, 380, 129, 130, 131, 132, 133, 134, 14, 135, 136, 137, 138, 139, 140, 141, 142, 190, 191, 192, 193, 194, 682, 683, 684, 34, 685, 349, 447, 448, 430, 429, 428, 439, 846, 847, 848, 849, 850, 851, 852, 853, 854, 855, 802, 803, 885, 886, 887, 888, 889, 890, 891, 892, 893, 894, 895, 896] (by decide +kernel) (by decide +kernel)) (goodIn_sub (fun _ h => List.mem_append_left _ (List.mem_append_left _ (List.mem_append_right _ h))) (by decide +kernel))) (goodIn_sub (fun _ h => List.mem_append_left _ (List.mem_append_right _ h)) (by decide +kernel))) (goodIn_sub (fun _ h => List.mem_append_right _ h) (by decide +kernel))
set_option maxRecDepth 20000 in
theorem gL_law_L_startRelay : GoodIn wsL_law (va_wsS RL 181 yL_startRelay wsL_startRelay) := goodIn_app (goodIn_of _ (by decide +kernel)) ggL_law_L_startRelay
set_option maxRecDepth 20000 in
theorem ggL_law_X6_startRelay : GoodIn wsL_law wsX6_startRelay := goodIn_r _ [689, 690, 83, 99, 100, 98, 97, 101, 102, 103, 150, 151, 5, 152, 147, 148, 149, 153, 154, 155, 156, 157, 360, 361, 362, 363, 75, 804, 805, 806, 807, 808, 809, 810, 811, 812, 813, 814, 815, 816, 817, 818, 819, 820, 821, 822, 823, 824, 825, 826, 827, 828, 829, 830, 831, 832, 833, 834, 835, 836, 837, 838, 839, 840, 841, 842, 843, 844, 845] (by decide +kernel) (by decide +kernel)
set_option maxRecDepth 20000 in
theorem gL_law_X6_startRelay : GoodIn wsL_law (wsV RL 183 RX6 yX6_startRelay wsX6_startRelay) := goodIn_app (goodIn_of _ (by decide +kernel)) ggL_law_X6_startRelay
set_option maxRecDepth 20000 in
theorem ggL_law_L_experiment : GoodIn wsL_law wsL_experiment := goodIn_ca (goodIn_r _ [693, 118, 694, 695, 696, 2, 697, 681, 698, 129, 130, 131, 132, 133, 134, 14, 846, 847, 848, 849, 850, 851, 852, 853, 854, 855, 885, 886, 887, 888, 889, 890, 891, 892, 893, 894, 895, 896, 802, 803] (by decide +kernel) (by decide +kernel)) (goodIn_sub (fun _ h => List.mem_append_left _ (List.mem_append_left _ (List.mem_append_right _ h))) (by decide +kernel))
set_option maxRecDepth 20000 in
theorem gL_law_L_experiment : GoodIn wsL_law (va_wsS RL 184 yL_experiment wsL_experiment) := goodIn_app (goodIn_of _ (by decide +kernel)) ggL_law_L_experiment
set_option maxRecDepth 20000 in
theorem ggL_law_X6_experiment : GoodIn wsL_law wsX6_experiment := goodIn_r _ [702, 97, 570, 571, 572, 5, 573, 150, 151, 152, 153, 154, 155, 156, 157, 804, 805, 806, 807, 808, 809, 810, 811, 812, 813, 814, 815, 816, 817, 818, 819, 820, 821, 822, 823, 824, 825, 826, 827, 828, 829, 830, 831, 832, 833, 834, 835, 836, 837, 838, 839, 840, 841, 842, 843, 844, 845] (by decide +kernel) (by decide +kernel)
set_option maxRecDepth 20000 in
theorem gL_law_X6_experiment : GoodIn wsL_law (wsV RL 186 RX6 yX6_experiment wsX6_experiment) := goodIn_app (goodIn_of _ (by decide +kernel)) ggL_law_X6_experiment
set_option maxRecDepth 20000 in
theorem ggL_law_L_period : GoodIn wsL_law wsL_period := goodIn_ca (goodIn_ca (goodIn_r _ [705, 118, 177, 706, 707, 708, 2, 709, 681, 698, 710, 129, 130, 131, 132, 133, 134, 14, 190, 191, 192, 193, 194, 846, 847, 848, 849, 850, 851, 852, 853, 854, 855, 885, 886, 887, 888, 889, 890, 891, 892, 893, 894, 895, 896, 802, 803] (by decide +kernel) (by decide +kernel)) (goodIn_sub (fun _ h => List.mem_append_left _ (List.mem_append_left _ (List.mem_append_right _ h))) (by decide +kernel))) (goodIn_sub (fun _ h => List.mem_append_right _ h) (by decide +kernel))
set_option maxRecDepth 20000 in
theorem gL_law_L_period : GoodIn wsL_law (va_wsS RL 187 yL_period wsL_period) := goodIn_app (goodIn_of _ (by decide +kernel)) ggL_law_L_period
set_option maxRecDepth 20000 in
theorem ggL_law_X6_period : GoodIn wsL_law wsX6_period := goodIn_r _ [714, 107, 715, 716, 717, 5, 718, 97, 150, 151, 152, 153, 154, 155, 156, 157, 804, 805, 806, 807, 808, 809, 810, 811, 812, 813, 814, 815, 816, 817, 818, 819, 820, 821, 822, 823, 824, 825, 826, 827, 828, 829, 830, 831, 832, 833, 834, 835, 836, 837, 838, 839, 840, 841, 842, 843, 844, 845] (by decide +kernel) (by decide +kernel)
set_option maxRecDepth 20000 in
theorem gL_law_X6_period : GoodIn wsL_law (wsV RL 189 RX6 yX6_period wsX6_period) := goodIn_app (goodIn_of _ (by decide +kernel)) ggL_law_X6_period
set_option maxRecDepth 20000 in
theorem ggL_law_L_swing : GoodIn wsL_law wsL_swing := goodIn_ca (goodIn_ca (goodIn_r _ [721, 118, 177, 722, 723, 724, 2, 725, 681, 698, 726, 129, 130, 131, 132, 133, 134, 14, 190, 191, 192, 193, 194, 846, 847, 848, 849, 850, 851, 852, 853, 854, 855, 885, 886, 887, 888, 889, 890, 891, 892, 893, 894, 895, 896, 802, 803] (by decide +kernel) (by decide +kernel)) (goodIn_sub (fun _ h => List.mem_append_left _ (List.mem_append_left _ (List.mem_append_right _ h))) (by decide +kernel))) (goodIn_sub (fun _ h => List.mem_append_right _ h) (by decide +kernel))
set_option maxRecDepth 20000 in
theorem gL_law_L_swing : GoodIn wsL_law (va_wsS RL 190 yL_swing wsL_swing) := goodIn_app (goodIn_of _ (by decide +kernel)) ggL_law_L_swing
set_option maxRecDepth 20000 in
theorem ggL_law_X6_swing : GoodIn wsL_law wsX6_swing := goodIn_r _ [730, 108, 715, 716, 717, 5, 718, 97, 150, 151, 152, 153, 154, 155, 156, 157, 804, 805, 806, 807, 808, 809, 810, 811, 812, 813, 814, 815, 816, 817, 818, 819, 820, 821, 822, 823, 824, 825, 826, 827, 828, 829, 830, 831, 832, 833, 834, 835, 836, 837, 838, 839, 840, 841, 842, 843, 844, 845] (by decide +kernel) (by decide +kernel)
set_option maxRecDepth 20000 in
theorem gL_law_X6_swing : GoodIn wsL_law (wsV RL 192 RX6 yX6_swing wsX6_swing) := goodIn_app (goodIn_of _ (by decide +kernel)) ggL_law_X6_swing
set_option maxRecDepth 20000 in
theorem ggL_law_L_ultimateGain : GoodIn wsL_law wsL_ultimateGain := goodIn_ca (goodIn_ca (goodIn_r _ [733, 118, 177, 734, 735, 736, 2, 737, 681, 698, 726, 129, 130, 131, 132, 133, 134, 14, 190, 191, 192, 193, 194, 738, 739, 740, 34, 741, 442, 742, 448, 743, 744, 473, 474, 475, 846, 847, 848, 849, 850, 851, 852, 853, 854, 855, 885, 886, 887, 888, 889, 890, 891, 892, 893, 894, 895, 896, 802, 803] (by decide +kernel) (by decide +kernel)) (goodIn_sub (fun _ h => List.mem_append_left _ (List.mem_append_left _ (List.mem_append_right _ h))) (by decide +kernel))) (goodIn_sub (fun _ h => List.mem_append_right _ h) (by decide +kernel))
set_option maxRecDepth 20000 in
theorem gL_law_L_ultimateGain : GoodIn wsL_law (va_wsS RL 193 yL_ultimateGain wsL_ultimateGain) := goodIn_app (goodIn_of _ (by decide +kernel)) ggL_law_L_ultimateGain
set_option maxRecDepth 20000 in
theorem ggL_law_X6_ultimateGain : GoodIn wsL_law wsX6_ultimateGain := goodIn_r _ [748, 97, 108, 150, 151, 5, 152, 153, 154, 155, 156, 157, 749, 750, 751, 752, 753, 99, 754, 804, 805, 806, 807, 808, 809, 810, 811, 812, 813, 814, 815, 816, 817, 818, 819, 820, 821, 822, 823, 824, 825, 826, 827, 828, 829, 830, 831, 832, 833, 834, 835, 836, 837, 838, 839, 840, 841, 842, 843, 844, 845] (by decide +kernel) (by decide +kernel)
set_option maxRecDepth 20000 in
theorem gL_law_X6_ultimateGain : GoodIn wsL_law (wsV RL 195 RX6 yX6_ultimateGain wsX6_ultimateGain) := goodIn_app (goodIn_of _ (by decide +kernel)) ggL_law_X6_ultimateGain
set_option maxRecDepth 20000 in
theorem ggL_law_L_proposed : GoodIn wsL_law wsL_proposed := goodIn_ca (goodIn_ca (goodIn_ca (goodIn_r _ [757, 118, 119, 177, 758, 759, 760, 2, 761, 681, 698, 726, 710, 762, 403, 404, 405, 406, 763, 764, 129, 130, 131, 132, 133, 134, 14, 632, 633, 634, 135, 136, 137, 138, 139, 140, 141, 142, 190, 191, 192, 193, 194, 765, 766, 767, 34, 768, 769, 770, 771, 772, 739, 740, 741, 442, 742, 448, 743, 744, 473, 474, 475, 773, 774, 775, 776, 441, 777, 778, 779, 780, 781, 782, 783, 784, 785, 786, 846, 847, 848, 849, 850, 851, 852, 853, 854, 855, 885, 886, 887, 888, 889, 890, 891, 892, 893, 894, 895, 896, 802, 803] (by decide +kernel) (by decide +kernel)) (goodIn_sub (fun _ h => List.mem_append_left _ (List.mem_append_left _ (List.mem_append_right _ h))) (by decide +kernel))) (goodIn_sub (fun _ h => List.mem_append_left _ (List.mem_append_right _ h)) (by decide +kernel))) (goodIn_sub (fun _ h => List.mem_append_right _ h) (by decide +kernel))
set_option maxRecDepth 20000 in
theorem gL_law_L_proposed : GoodIn wsL_law (va_wsS RL 196 yL_proposed wsL_proposed) := goodIn_app (goodIn_of _ (by decide +kernel)) ggL_law_L_proposed
set_option maxRecDepth 20000 in
theorem ggL_law_X6_proposed : GoodIn wsL_law wsX6_proposed := goodIn_r _ [790, 97, 108, 107, 791, 792, 793, 794, 795, 112, 796, 797, 798, 799, 800, 801, 150, 151, 5, 152, 147, 148, 149, 153, 154, 155, 156, 157, 749, 750, 751, 752, 753, 99, 754, 536, 537, 538, 804, 805, 806, 807, 808, 809, 810, 811, 812, 813, 814, 815, 816, 817, 818, 819, 820, 821, 822, 823, 824, 825, 826, 827, 828, 829, 830, 831, 832, 833, 834, 835, 836, 837, 838, 839, 840, 841, 842, 843, 844, 845] (by decide +kernel) (by decide +kernel)
set_option maxRecDepth 20000 in
theorem gL_law_X6_proposed : GoodIn wsL_law (wsV RL 198 RX6 yX6_proposed wsX6_proposed) := goodIn_app (goodIn_of _ (by decide +kernel)) ggL_law_X6_proposed
theorem dL_law_0 : decode cL_law 0 = .ok (.new 8, 3) := by decide +kernel
theorem dL_law_3 : decode cL_law 3 = .ok (.dup, 1) := by decide +kernel
theorem dL_law_4 : decode cL_law 4 = .ok (.invokespecial 103, 3) := by decide +kernel
theorem dL_law_7 : decode cL_law 7 = .ok (.astore_n 1, 1) := by decide +kernel
theorem dL_law_8 : decode cL_law 8 = .ok (.new 104, 3) := by decide +kernel
theorem dL_law_11 : decode cL_law 11 = .ok (.dup, 1) := by decide +kernel
theorem dL_law_12 : decode cL_law 12 = .ok (.invokespecial 106, 3) := by decide +kernel
theorem dL_law_15 : decode cL_law 15 = .ok (.astore_n 2, 1) := by decide +kernel
theorem dL_law_16 : decode cL_law 16 = .ok (.iconst 1, 1) := by decide +kernel
theorem dL_law_17 : decode cL_law 17 = .ok (.newarray .long, 2) := by decide +kernel
theorem dL_law_19 : decode cL_law 19 = .ok (.astore_n 3, 1) := by decide +kernel
theorem dL_law_20 : decode cL_law 20 = .ok (.iconst 0, 1) := by decide +kernel
theorem dL_law_21 : decode cL_law 21 = .ok (.istore 4, 2) := by decide +kernel
theorem dL_law_23 : decode cL_law 23 = .ok (.iload 4, 2) := by decide +kernel
theorem dL_law_25 : decode cL_law 25 = .ok (.aload_n 0, 1) := by decide +kernel
theorem dL_law_26 : decode cL_law 26 = .ok (.arraylength, 1) := by decide +kernel
theorem dL_law_27 : decode cL_law 27 = .ok (.bipush 6, 2) := by decide +kernel
theorem dL_law_29 : decode cL_law 29 = .ok (.isub, 1) := by decide +kernel
theorem dL_law_30 : decode cL_law 30 = .ok (.if_icmp .gt 1857, 3) := by decide +kernel
theorem dL_law_33 : decode cL_law 33 = .ok (.aload_n 0, 1) := by decide +kernel
theorem dL_law_34 : decode cL_law 34 = .ok (.iload 4, 2) := by decide +kernel
theorem dL_law_36 : decode cL_law 36 = .ok (.iaload, 1) := by decide +kernel
theorem dL_law_37 : decode cL_law 37 = .ok (.bipush 31, 2) := by decide +kernel
theorem dL_law_39 : decode cL_law 39 = .ok (.iand, 1) := by decide +kernel
theorem dL_law_40 : decode cL_law 40 = .ok (.tableswitch 1841 0 25 #[120, 204, 272, 364, 468, 528, 608, 676, 744, 836, 904, 960, 1015, 1070, 1125, 1180, 1235, 1303, 1359, 1422, 1478, 1538, 1594, 1650, 1705, 1761], 120) := by decide +kernel
theorem dL_law_160 : decode cL_law 160 = .ok (.aload_n 1, 1) := by decide +kernel
theorem dL_law_161 : decode cL_law 161 = .ok (.aload_n 0, 1) := by decide +kernel
theorem dL_law_162 : decode cL_law 162 = .ok (.iload 4, 2) := by decide +kernel
theorem dL_law_164 : decode cL_law 164 = .ok (.iconst 1, 1) := by decide +kernel
theorem dL_law_165 : decode cL_law 165 = .ok (.iadd, 1) := by decide +kernel
theorem dL_law_166 : decode cL_law 166 = .ok (.iaload, 1) := by decide +kernel
theorem dL_law_167 : decode cL_law 167 = .ok (.aload_n 0, 1) := by decide +kernel
theorem dL_law_168 : decode cL_law 168 = .ok (.iload 4, 2) := by decide +kernel
theorem dL_law_170 : decode cL_law 170 = .ok (.iconst 2, 1) := by decide +kernel
theorem dL_law_171 : decode cL_law 171 = .ok (.iadd, 1) := by decide +kernel
theorem dL_law_172 : decode cL_law 172 = .ok (.iaload, 1) := by decide +kernel
theorem dL_law_173 : decode cL_law 173 = .ok (.aload_n 0, 1) := by decide +kernel
theorem dL_law_174 : decode cL_law 174 = .ok (.iload 4, 2) := by decide +kernel
theorem dL_law_176 : decode cL_law 176 = .ok (.iconst 3, 1) := by decide +kernel
theorem dL_law_177 : decode cL_law 177 = .ok (.iadd, 1) := by decide +kernel
theorem dL_law_178 : decode cL_law 178 = .ok (.iaload, 1) := by decide +kernel
theorem dL_law_179 : decode cL_law 179 = .ok (.aload_n 0, 1) := by decide +kernel
theorem dL_law_180 : decode cL_law 180 = .ok (.iload 4, 2) := by decide +kernel
theorem dL_law_182 : decode cL_law 182 = .ok (.iconst 4, 1) := by decide +kernel
theorem dL_law_183 : decode cL_law 183 = .ok (.iadd, 1) := by decide +kernel
theorem dL_law_184 : decode cL_law 184 = .ok (.iaload, 1) := by decide +kernel
theorem dL_law_185 : decode cL_law 185 = .ok (.aload_n 0, 1) := by decide +kernel
theorem dL_law_186 : decode cL_law 186 = .ok (.iload 4, 2) := by decide +kernel
theorem dL_law_188 : decode cL_law 188 = .ok (.iconst 5, 1) := by decide +kernel
theorem dL_law_189 : decode cL_law 189 = .ok (.iadd, 1) := by decide +kernel
theorem dL_law_190 : decode cL_law 190 = .ok (.iaload, 1) := by decide +kernel
theorem dL_law_191 : decode cL_law 191 = .ok (.invokestatic 107, 3) := by decide +kernel
theorem dL_law_194 : decode cL_law 194 = .ok (.istore 5, 2) := by decide +kernel
theorem dL_law_196 : decode cL_law 196 = .ok (.aload_n 2, 1) := by decide +kernel
theorem dL_law_197 : decode cL_law 197 = .ok (.aload_n 0, 1) := by decide +kernel
theorem dL_law_198 : decode cL_law 198 = .ok (.iload 4, 2) := by decide +kernel
theorem dL_law_200 : decode cL_law 200 = .ok (.iconst 1, 1) := by decide +kernel
theorem dL_law_201 : decode cL_law 201 = .ok (.iadd, 1) := by decide +kernel
theorem dL_law_202 : decode cL_law 202 = .ok (.iaload, 1) := by decide +kernel
theorem dL_law_203 : decode cL_law 203 = .ok (.aload_n 0, 1) := by decide +kernel
theorem dL_law_204 : decode cL_law 204 = .ok (.iload 4, 2) := by decide +kernel
theorem dL_law_206 : decode cL_law 206 = .ok (.iconst 2, 1) := by decide +kernel
theorem dL_law_207 : decode cL_law 207 = .ok (.iadd, 1) := by decide +kernel
theorem dL_law_208 : decode cL_law 208 = .ok (.iaload, 1) := by decide +kernel
theorem dL_law_209 : decode cL_law 209 = .ok (.aload_n 0, 1) := by decide +kernel
theorem dL_law_210 : decode cL_law 210 = .ok (.iload 4, 2) := by decide +kernel
theorem dL_law_212 : decode cL_law 212 = .ok (.iconst 3, 1) := by decide +kernel
theorem dL_law_213 : decode cL_law 213 = .ok (.iadd, 1) := by decide +kernel
theorem dL_law_214 : decode cL_law 214 = .ok (.iaload, 1) := by decide +kernel
theorem dL_law_215 : decode cL_law 215 = .ok (.aload_n 0, 1) := by decide +kernel
theorem dL_law_216 : decode cL_law 216 = .ok (.iload 4, 2) := by decide +kernel
theorem dL_law_218 : decode cL_law 218 = .ok (.iconst 4, 1) := by decide +kernel
theorem dL_law_219 : decode cL_law 219 = .ok (.iadd, 1) := by decide +kernel
theorem dL_law_220 : decode cL_law 220 = .ok (.iaload, 1) := by decide +kernel
theorem dL_law_221 : decode cL_law 221 = .ok (.aload_n 0, 1) := by decide +kernel
theorem dL_law_222 : decode cL_law 222 = .ok (.iload 4, 2) := by decide +kernel
theorem dL_law_224 : decode cL_law 224 = .ok (.iconst 5, 1) := by decide +kernel
theorem dL_law_225 : decode cL_law 225 = .ok (.iadd, 1) := by decide +kernel
theorem dL_law_226 : decode cL_law 226 = .ok (.iaload, 1) := by decide +kernel
theorem dL_law_227 : decode cL_law 227 = .ok (.invokevirtual 112, 3) := by decide +kernel
theorem dL_law_230 : decode cL_law 230 = .ok (.aload_n 2, 1) := by decide +kernel
theorem dL_law_231 : decode cL_law 231 = .ok (.invokevirtual 113, 3) := by decide +kernel
theorem dL_law_234 : decode cL_law 234 = .ok (.iload 5, 2) := by decide +kernel
theorem dL_law_236 : decode cL_law 236 = .ok (.if_icmp .eq 5, 3) := by decide +kernel
theorem dL_law_239 : decode cL_law 239 = .ok (.iconst 0, 1) := by decide +kernel
theorem dL_law_240 : decode cL_law 240 = .ok (.ireturn, 1) := by decide +kernel
theorem dL_law_241 : decode cL_law 241 = .ok (.goto 1640, 3) := by decide +kernel
theorem dL_law_244 : decode cL_law 244 = .ok (.aload_n 1, 1) := by decide +kernel
theorem dL_law_245 : decode cL_law 245 = .ok (.aload_n 0, 1) := by decide +kernel
theorem dL_law_246 : decode cL_law 246 = .ok (.iload 4, 2) := by decide +kernel
theorem dL_law_248 : decode cL_law 248 = .ok (.iconst 1, 1) := by decide +kernel
theorem dL_law_249 : decode cL_law 249 = .ok (.iadd, 1) := by decide +kernel
theorem dL_law_250 : decode cL_law 250 = .ok (.iaload, 1) := by decide +kernel
theorem dL_law_251 : decode cL_law 251 = .ok (.aload_n 0, 1) := by decide +kernel
theorem dL_law_252 : decode cL_law 252 = .ok (.iload 4, 2) := by decide +kernel
theorem dL_law_254 : decode cL_law 254 = .ok (.iconst 2, 1) := by decide +kernel
theorem dL_law_255 : decode cL_law 255 = .ok (.iadd, 1) := by decide +kernel
theorem dL_law_256 : decode cL_law 256 = .ok (.iaload, 1) := by decide +kernel
theorem dL_law_257 : decode cL_law 257 = .ok (.aload_n 3, 1) := by decide +kernel
theorem dL_law_258 : decode cL_law 258 = .ok (.invokestatic 117, 3) := by decide +kernel
theorem dL_law_261 : decode cL_law 261 = .ok (.istore 5, 2) := by decide +kernel
theorem dL_law_263 : decode cL_law 263 = .ok (.aload_n 2, 1) := by decide +kernel
theorem dL_law_264 : decode cL_law 264 = .ok (.aload_n 0, 1) := by decide +kernel
theorem dL_law_265 : decode cL_law 265 = .ok (.iload 4, 2) := by decide +kernel
theorem dL_law_267 : decode cL_law 267 = .ok (.iconst 1, 1) := by decide +kernel
theorem dL_law_268 : decode cL_law 268 = .ok (.iadd, 1) := by decide +kernel
theorem dL_law_269 : decode cL_law 269 = .ok (.iaload, 1) := by decide +kernel
theorem dL_law_270 : decode cL_law 270 = .ok (.aload_n 0, 1) := by decide +kernel
theorem dL_law_271 : decode cL_law 271 = .ok (.iload 4, 2) := by decide +kernel
theorem dL_law_273 : decode cL_law 273 = .ok (.iconst 2, 1) := by decide +kernel
theorem dL_law_274 : decode cL_law 274 = .ok (.iadd, 1) := by decide +kernel
theorem dL_law_275 : decode cL_law 275 = .ok (.iaload, 1) := by decide +kernel
theorem dL_law_276 : decode cL_law 276 = .ok (.invokevirtual 120, 3) := by decide +kernel
theorem dL_law_279 : decode cL_law 279 = .ok (.istore 6, 2) := by decide +kernel
theorem dL_law_281 : decode cL_law 281 = .ok (.aload_n 2, 1) := by decide +kernel
theorem dL_law_282 : decode cL_law 282 = .ok (.invokevirtual 113, 3) := by decide +kernel
theorem dL_law_285 : decode cL_law 285 = .ok (.iload 5, 2) := by decide +kernel
theorem dL_law_287 : decode cL_law 287 = .ok (.if_icmp .eq 5, 3) := by decide +kernel
theorem dL_law_290 : decode cL_law 290 = .ok (.iconst 0, 1) := by decide +kernel
theorem dL_law_291 : decode cL_law 291 = .ok (.ireturn, 1) := by decide +kernel
theorem dL_law_292 : decode cL_law 292 = .ok (.iload 5, 2) := by decide +kernel
theorem dL_law_294 : decode cL_law 294 = .ok (.ifCond .ne 15, 3) := by decide +kernel
theorem dL_law_297 : decode cL_law 297 = .ok (.aload_n 3, 1) := by decide +kernel
theorem dL_law_298 : decode cL_law 298 = .ok (.iconst 0, 1) := by decide +kernel
theorem dL_law_299 : decode cL_law 299 = .ok (.laload, 1) := by decide +kernel
theorem dL_law_300 : decode cL_law 300 = .ok (.iload 6, 2) := by decide +kernel
theorem dL_law_302 : decode cL_law 302 = .ok (.i2l, 1) := by decide +kernel
theorem dL_law_303 : decode cL_law 303 = .ok (.lcmp, 1) := by decide +kernel
theorem dL_law_304 : decode cL_law 304 = .ok (.ifCond .eq 5, 3) := by decide +kernel
theorem dL_law_307 : decode cL_law 307 = .ok (.iconst 0, 1) := by decide +kernel
theorem dL_law_308 : decode cL_law 308 = .ok (.ireturn, 1) := by decide +kernel
theorem dL_law_309 : decode cL_law 309 = .ok (.goto 1572, 3) := by decide +kernel
theorem dL_law_312 : decode cL_law 312 = .ok (.aload_n 1, 1) := by decide +kernel
theorem dL_law_313 : decode cL_law 313 = .ok (.aload_n 0, 1) := by decide +kernel
theorem dL_law_314 : decode cL_law 314 = .ok (.iload 4, 2) := by decide +kernel
theorem dL_law_316 : decode cL_law 316 = .ok (.iconst 1, 1) := by decide +kernel
theorem dL_law_317 : decode cL_law 317 = .ok (.iadd, 1) := by decide +kernel
theorem dL_law_318 : decode cL_law 318 = .ok (.iaload, 1) := by decide +kernel
theorem dL_law_319 : decode cL_law 319 = .ok (.aload_n 0, 1) := by decide +kernel
theorem dL_law_320 : decode cL_law 320 = .ok (.iload 4, 2) := by decide +kernel
theorem dL_law_322 : decode cL_law 322 = .ok (.iconst 2, 1) := by decide +kernel
theorem dL_law_323 : decode cL_law 323 = .ok (.iadd, 1) := by decide +kernel
theorem dL_law_324 : decode cL_law 324 = .ok (.iaload, 1) := by decide +kernel
theorem dL_law_325 : decode cL_law 325 = .ok (.aload_n 0, 1) := by decide +kernel
theorem dL_law_326 : decode cL_law 326 = .ok (.iload 4, 2) := by decide +kernel
theorem dL_law_328 : decode cL_law 328 = .ok (.iconst 3, 1) := by decide +kernel
theorem dL_law_329 : decode cL_law 329 = .ok (.iadd, 1) := by decide +kernel
theorem dL_law_330 : decode cL_law 330 = .ok (.iaload, 1) := by decide +kernel
theorem dL_law_331 : decode cL_law 331 = .ok (.aload_n 0, 1) := by decide +kernel
theorem dL_law_332 : decode cL_law 332 = .ok (.iload 4, 2) := by decide +kernel
theorem dL_law_334 : decode cL_law 334 = .ok (.iconst 4, 1) := by decide +kernel
theorem dL_law_335 : decode cL_law 335 = .ok (.iadd, 1) := by decide +kernel
theorem dL_law_336 : decode cL_law 336 = .ok (.iaload, 1) := by decide +kernel
theorem dL_law_337 : decode cL_law 337 = .ok (.aload_n 3, 1) := by decide +kernel
theorem dL_law_338 : decode cL_law 338 = .ok (.invokestatic 121, 3) := by decide +kernel
theorem dL_law_341 : decode cL_law 341 = .ok (.istore 5, 2) := by decide +kernel
theorem dL_law_343 : decode cL_law 343 = .ok (.aload_n 2, 1) := by decide +kernel
theorem dL_law_344 : decode cL_law 344 = .ok (.aload_n 0, 1) := by decide +kernel
theorem dL_law_345 : decode cL_law 345 = .ok (.iload 4, 2) := by decide +kernel
theorem dL_law_347 : decode cL_law 347 = .ok (.iconst 1, 1) := by decide +kernel
theorem dL_law_348 : decode cL_law 348 = .ok (.iadd, 1) := by decide +kernel
theorem dL_law_349 : decode cL_law 349 = .ok (.iaload, 1) := by decide +kernel
theorem dL_law_350 : decode cL_law 350 = .ok (.aload_n 0, 1) := by decide +kernel
theorem dL_law_351 : decode cL_law 351 = .ok (.iload 4, 2) := by decide +kernel
theorem dL_law_353 : decode cL_law 353 = .ok (.iconst 2, 1) := by decide +kernel
theorem dL_law_354 : decode cL_law 354 = .ok (.iadd, 1) := by decide +kernel
theorem dL_law_355 : decode cL_law 355 = .ok (.iaload, 1) := by decide +kernel
theorem dL_law_356 : decode cL_law 356 = .ok (.aload_n 0, 1) := by decide +kernel
theorem dL_law_357 : decode cL_law 357 = .ok (.iload 4, 2) := by decide +kernel
theorem dL_law_359 : decode cL_law 359 = .ok (.iconst 3, 1) := by decide +kernel
theorem dL_law_360 : decode cL_law 360 = .ok (.iadd, 1) := by decide +kernel
theorem dL_law_361 : decode cL_law 361 = .ok (.iaload, 1) := by decide +kernel
theorem dL_law_362 : decode cL_law 362 = .ok (.aload_n 0, 1) := by decide +kernel
theorem dL_law_363 : decode cL_law 363 = .ok (.iload 4, 2) := by decide +kernel
theorem dL_law_365 : decode cL_law 365 = .ok (.iconst 4, 1) := by decide +kernel
theorem dL_law_366 : decode cL_law 366 = .ok (.iadd, 1) := by decide +kernel
theorem dL_law_367 : decode cL_law 367 = .ok (.iaload, 1) := by decide +kernel
theorem dL_law_368 : decode cL_law 368 = .ok (.invokevirtual 124, 3) := by decide +kernel
theorem dL_law_371 : decode cL_law 371 = .ok (.istore 6, 2) := by decide +kernel
theorem dL_law_373 : decode cL_law 373 = .ok (.aload_n 2, 1) := by decide +kernel
theorem dL_law_374 : decode cL_law 374 = .ok (.invokevirtual 113, 3) := by decide +kernel
theorem dL_law_377 : decode cL_law 377 = .ok (.iload 5, 2) := by decide +kernel
theorem dL_law_379 : decode cL_law 379 = .ok (.if_icmp .eq 5, 3) := by decide +kernel
theorem dL_law_382 : decode cL_law 382 = .ok (.iconst 0, 1) := by decide +kernel
theorem dL_law_383 : decode cL_law 383 = .ok (.ireturn, 1) := by decide +kernel
theorem dL_law_384 : decode cL_law 384 = .ok (.iload 5, 2) := by decide +kernel
theorem dL_law_386 : decode cL_law 386 = .ok (.ifCond .ne 15, 3) := by decide +kernel
theorem dL_law_389 : decode cL_law 389 = .ok (.aload_n 3, 1) := by decide +kernel
theorem dL_law_390 : decode cL_law 390 = .ok (.iconst 0, 1) := by decide +kernel
theorem dL_law_391 : decode cL_law 391 = .ok (.laload, 1) := by decide +kernel
theorem dL_law_392 : decode cL_law 392 = .ok (.iload 6, 2) := by decide +kernel
theorem dL_law_394 : decode cL_law 394 = .ok (.i2l, 1) := by decide +kernel
theorem dL_law_395 : decode cL_law 395 = .ok (.lcmp, 1) := by decide +kernel
theorem dL_law_396 : decode cL_law 396 = .ok (.ifCond .eq 5, 3) := by decide +kernel
theorem dL_law_399 : decode cL_law 399 = .ok (.iconst 0, 1) := by decide +kernel
theorem dL_law_400 : decode cL_law 400 = .ok (.ireturn, 1) := by decide +kernel
theorem dL_law_401 : decode cL_law 401 = .ok (.goto 1480, 3) := by decide +kernel
theorem dL_law_404 : decode cL_law 404 = .ok (.aload_n 1, 1) := by decide +kernel
theorem dL_law_405 : decode cL_law 405 = .ok (.aload_n 0, 1) := by decide +kernel
theorem dL_law_406 : decode cL_law 406 = .ok (.iload 4, 2) := by decide +kernel
theorem dL_law_408 : decode cL_law 408 = .ok (.iconst 1, 1) := by decide +kernel
theorem dL_law_409 : decode cL_law 409 = .ok (.iadd, 1) := by decide +kernel
theorem dL_law_410 : decode cL_law 410 = .ok (.iaload, 1) := by decide +kernel
theorem dL_law_411 : decode cL_law 411 = .ok (.aload_n 0, 1) := by decide +kernel
theorem dL_law_412 : decode cL_law 412 = .ok (.iload 4, 2) := by decide +kernel
theorem dL_law_414 : decode cL_law 414 = .ok (.iconst 2, 1) := by decide +kernel
theorem dL_law_415 : decode cL_law 415 = .ok (.iadd, 1) := by decide +kernel
theorem dL_law_416 : decode cL_law 416 = .ok (.iaload, 1) := by decide +kernel
theorem dL_law_417 : decode cL_law 417 = .ok (.aload_n 0, 1) := by decide +kernel
theorem dL_law_418 : decode cL_law 418 = .ok (.iload 4, 2) := by decide +kernel
theorem dL_law_420 : decode cL_law 420 = .ok (.iconst 3, 1) := by decide +kernel
theorem dL_law_421 : decode cL_law 421 = .ok (.iadd, 1) := by decide +kernel
theorem dL_law_422 : decode cL_law 422 = .ok (.iaload, 1) := by decide +kernel
theorem dL_law_423 : decode cL_law 423 = .ok (.aload_n 0, 1) := by decide +kernel
theorem dL_law_424 : decode cL_law 424 = .ok (.iload 4, 2) := by decide +kernel
theorem dL_law_426 : decode cL_law 426 = .ok (.iconst 4, 1) := by decide +kernel
theorem dL_law_427 : decode cL_law 427 = .ok (.iadd, 1) := by decide +kernel
theorem dL_law_428 : decode cL_law 428 = .ok (.iaload, 1) := by decide +kernel
theorem dL_law_429 : decode cL_law 429 = .ok (.aload_n 0, 1) := by decide +kernel
theorem dL_law_430 : decode cL_law 430 = .ok (.iload 4, 2) := by decide +kernel
theorem dL_law_432 : decode cL_law 432 = .ok (.iconst 5, 1) := by decide +kernel
theorem dL_law_433 : decode cL_law 433 = .ok (.iadd, 1) := by decide +kernel
theorem dL_law_434 : decode cL_law 434 = .ok (.iaload, 1) := by decide +kernel
theorem dL_law_435 : decode cL_law 435 = .ok (.aload_n 3, 1) := by decide +kernel
theorem dL_law_436 : decode cL_law 436 = .ok (.invokestatic 125, 3) := by decide +kernel
theorem dL_law_439 : decode cL_law 439 = .ok (.istore 5, 2) := by decide +kernel
theorem dL_law_441 : decode cL_law 441 = .ok (.aload_n 2, 1) := by decide +kernel
theorem dL_law_442 : decode cL_law 442 = .ok (.aload_n 0, 1) := by decide +kernel
theorem dL_law_443 : decode cL_law 443 = .ok (.iload 4, 2) := by decide +kernel
theorem dL_law_445 : decode cL_law 445 = .ok (.iconst 1, 1) := by decide +kernel
theorem dL_law_446 : decode cL_law 446 = .ok (.iadd, 1) := by decide +kernel
theorem dL_law_447 : decode cL_law 447 = .ok (.iaload, 1) := by decide +kernel
theorem dL_law_448 : decode cL_law 448 = .ok (.aload_n 0, 1) := by decide +kernel
theorem dL_law_449 : decode cL_law 449 = .ok (.iload 4, 2) := by decide +kernel
theorem dL_law_451 : decode cL_law 451 = .ok (.iconst 2, 1) := by decide +kernel
theorem dL_law_452 : decode cL_law 452 = .ok (.iadd, 1) := by decide +kernel
theorem dL_law_453 : decode cL_law 453 = .ok (.iaload, 1) := by decide +kernel
theorem dL_law_454 : decode cL_law 454 = .ok (.aload_n 0, 1) := by decide +kernel
theorem dL_law_455 : decode cL_law 455 = .ok (.iload 4, 2) := by decide +kernel
theorem dL_law_457 : decode cL_law 457 = .ok (.iconst 3, 1) := by decide +kernel
theorem dL_law_458 : decode cL_law 458 = .ok (.iadd, 1) := by decide +kernel
theorem dL_law_459 : decode cL_law 459 = .ok (.iaload, 1) := by decide +kernel
theorem dL_law_460 : decode cL_law 460 = .ok (.aload_n 0, 1) := by decide +kernel
theorem dL_law_461 : decode cL_law 461 = .ok (.iload 4, 2) := by decide +kernel
theorem dL_law_463 : decode cL_law 463 = .ok (.iconst 4, 1) := by decide +kernel
theorem dL_law_464 : decode cL_law 464 = .ok (.iadd, 1) := by decide +kernel
theorem dL_law_465 : decode cL_law 465 = .ok (.iaload, 1) := by decide +kernel
theorem dL_law_466 : decode cL_law 466 = .ok (.aload_n 0, 1) := by decide +kernel
theorem dL_law_467 : decode cL_law 467 = .ok (.iload 4, 2) := by decide +kernel
theorem dL_law_469 : decode cL_law 469 = .ok (.iconst 5, 1) := by decide +kernel
theorem dL_law_470 : decode cL_law 470 = .ok (.iadd, 1) := by decide +kernel
theorem dL_law_471 : decode cL_law 471 = .ok (.iaload, 1) := by decide +kernel
theorem dL_law_472 : decode cL_law 472 = .ok (.invokevirtual 128, 3) := by decide +kernel
theorem dL_law_475 : decode cL_law 475 = .ok (.istore 6, 2) := by decide +kernel
theorem dL_law_477 : decode cL_law 477 = .ok (.aload_n 2, 1) := by decide +kernel
theorem dL_law_478 : decode cL_law 478 = .ok (.invokevirtual 113, 3) := by decide +kernel
theorem dL_law_481 : decode cL_law 481 = .ok (.iload 5, 2) := by decide +kernel
theorem dL_law_483 : decode cL_law 483 = .ok (.if_icmp .eq 5, 3) := by decide +kernel
theorem dL_law_486 : decode cL_law 486 = .ok (.iconst 0, 1) := by decide +kernel
theorem dL_law_487 : decode cL_law 487 = .ok (.ireturn, 1) := by decide +kernel
theorem dL_law_488 : decode cL_law 488 = .ok (.iload 5, 2) := by decide +kernel
theorem dL_law_490 : decode cL_law 490 = .ok (.ifCond .ne 15, 3) := by decide +kernel
theorem dL_law_493 : decode cL_law 493 = .ok (.aload_n 3, 1) := by decide +kernel
theorem dL_law_494 : decode cL_law 494 = .ok (.iconst 0, 1) := by decide +kernel
theorem dL_law_495 : decode cL_law 495 = .ok (.laload, 1) := by decide +kernel
theorem dL_law_496 : decode cL_law 496 = .ok (.iload 6, 2) := by decide +kernel
theorem dL_law_498 : decode cL_law 498 = .ok (.i2l, 1) := by decide +kernel
theorem dL_law_499 : decode cL_law 499 = .ok (.lcmp, 1) := by decide +kernel
theorem dL_law_500 : decode cL_law 500 = .ok (.ifCond .eq 5, 3) := by decide +kernel
theorem dL_law_503 : decode cL_law 503 = .ok (.iconst 0, 1) := by decide +kernel
theorem dL_law_504 : decode cL_law 504 = .ok (.ireturn, 1) := by decide +kernel
theorem dL_law_505 : decode cL_law 505 = .ok (.goto 1376, 3) := by decide +kernel
theorem dL_law_508 : decode cL_law 508 = .ok (.aload_n 1, 1) := by decide +kernel
theorem dL_law_509 : decode cL_law 509 = .ok (.aload_n 0, 1) := by decide +kernel
theorem dL_law_510 : decode cL_law 510 = .ok (.iload 4, 2) := by decide +kernel
theorem dL_law_512 : decode cL_law 512 = .ok (.iconst 1, 1) := by decide +kernel
theorem dL_law_513 : decode cL_law 513 = .ok (.iadd, 1) := by decide +kernel
theorem dL_law_514 : decode cL_law 514 = .ok (.iaload, 1) := by decide +kernel
theorem dL_law_515 : decode cL_law 515 = .ok (.aload_n 0, 1) := by decide +kernel
theorem dL_law_516 : decode cL_law 516 = .ok (.iload 4, 2) := by decide +kernel
theorem dL_law_518 : decode cL_law 518 = .ok (.iconst 2, 1) := by decide +kernel
theorem dL_law_519 : decode cL_law 519 = .ok (.iadd, 1) := by decide +kernel
theorem dL_law_520 : decode cL_law 520 = .ok (.iaload, 1) := by decide +kernel
theorem dL_law_521 : decode cL_law 521 = .ok (.aload_n 0, 1) := by decide +kernel
theorem dL_law_522 : decode cL_law 522 = .ok (.iload 4, 2) := by decide +kernel
theorem dL_law_524 : decode cL_law 524 = .ok (.iconst 3, 1) := by decide +kernel
theorem dL_law_525 : decode cL_law 525 = .ok (.iadd, 1) := by decide +kernel
theorem dL_law_526 : decode cL_law 526 = .ok (.iaload, 1) := by decide +kernel
theorem dL_law_527 : decode cL_law 527 = .ok (.invokestatic 129, 3) := by decide +kernel
theorem dL_law_530 : decode cL_law 530 = .ok (.istore 5, 2) := by decide +kernel
theorem dL_law_532 : decode cL_law 532 = .ok (.aload_n 2, 1) := by decide +kernel
theorem dL_law_533 : decode cL_law 533 = .ok (.aload_n 0, 1) := by decide +kernel
theorem dL_law_534 : decode cL_law 534 = .ok (.iload 4, 2) := by decide +kernel
theorem dL_law_536 : decode cL_law 536 = .ok (.iconst 1, 1) := by decide +kernel
theorem dL_law_537 : decode cL_law 537 = .ok (.iadd, 1) := by decide +kernel
theorem dL_law_538 : decode cL_law 538 = .ok (.iaload, 1) := by decide +kernel
theorem dL_law_539 : decode cL_law 539 = .ok (.aload_n 0, 1) := by decide +kernel
theorem dL_law_540 : decode cL_law 540 = .ok (.iload 4, 2) := by decide +kernel
theorem dL_law_542 : decode cL_law 542 = .ok (.iconst 2, 1) := by decide +kernel
theorem dL_law_543 : decode cL_law 543 = .ok (.iadd, 1) := by decide +kernel
theorem dL_law_544 : decode cL_law 544 = .ok (.iaload, 1) := by decide +kernel
theorem dL_law_545 : decode cL_law 545 = .ok (.aload_n 0, 1) := by decide +kernel
theorem dL_law_546 : decode cL_law 546 = .ok (.iload 4, 2) := by decide +kernel
theorem dL_law_548 : decode cL_law 548 = .ok (.iconst 3, 1) := by decide +kernel
theorem dL_law_549 : decode cL_law 549 = .ok (.iadd, 1) := by decide +kernel
theorem dL_law_550 : decode cL_law 550 = .ok (.iaload, 1) := by decide +kernel
theorem dL_law_551 : decode cL_law 551 = .ok (.invokevirtual 132, 3) := by decide +kernel
theorem dL_law_554 : decode cL_law 554 = .ok (.aload_n 2, 1) := by decide +kernel
theorem dL_law_555 : decode cL_law 555 = .ok (.invokevirtual 113, 3) := by decide +kernel
theorem dL_law_558 : decode cL_law 558 = .ok (.iload 5, 2) := by decide +kernel
theorem dL_law_560 : decode cL_law 560 = .ok (.if_icmp .eq 5, 3) := by decide +kernel
theorem dL_law_563 : decode cL_law 563 = .ok (.iconst 0, 1) := by decide +kernel
theorem dL_law_564 : decode cL_law 564 = .ok (.ireturn, 1) := by decide +kernel
theorem dL_law_565 : decode cL_law 565 = .ok (.goto 1316, 3) := by decide +kernel
theorem dL_law_568 : decode cL_law 568 = .ok (.aload_n 1, 1) := by decide +kernel
theorem dL_law_569 : decode cL_law 569 = .ok (.aload_n 0, 1) := by decide +kernel
theorem dL_law_570 : decode cL_law 570 = .ok (.iload 4, 2) := by decide +kernel
theorem dL_law_572 : decode cL_law 572 = .ok (.iconst 1, 1) := by decide +kernel
theorem dL_law_573 : decode cL_law 573 = .ok (.iadd, 1) := by decide +kernel
theorem dL_law_574 : decode cL_law 574 = .ok (.iaload, 1) := by decide +kernel
theorem dL_law_575 : decode cL_law 575 = .ok (.aload_n 0, 1) := by decide +kernel
theorem dL_law_576 : decode cL_law 576 = .ok (.iload 4, 2) := by decide +kernel
theorem dL_law_578 : decode cL_law 578 = .ok (.iconst 2, 1) := by decide +kernel
theorem dL_law_579 : decode cL_law 579 = .ok (.iadd, 1) := by decide +kernel
theorem dL_law_580 : decode cL_law 580 = .ok (.iaload, 1) := by decide +kernel
theorem dL_law_581 : decode cL_law 581 = .ok (.aload_n 0, 1) := by decide +kernel
theorem dL_law_582 : decode cL_law 582 = .ok (.iload 4, 2) := by decide +kernel
theorem dL_law_584 : decode cL_law 584 = .ok (.iconst 3, 1) := by decide +kernel
theorem dL_law_585 : decode cL_law 585 = .ok (.iadd, 1) := by decide +kernel
theorem dL_law_586 : decode cL_law 586 = .ok (.iaload, 1) := by decide +kernel
theorem dL_law_587 : decode cL_law 587 = .ok (.aload_n 3, 1) := by decide +kernel
theorem dL_law_588 : decode cL_law 588 = .ok (.invokestatic 133, 3) := by decide +kernel
theorem dL_law_591 : decode cL_law 591 = .ok (.istore 5, 2) := by decide +kernel
theorem dL_law_593 : decode cL_law 593 = .ok (.aload_n 2, 1) := by decide +kernel
theorem dL_law_594 : decode cL_law 594 = .ok (.aload_n 0, 1) := by decide +kernel
theorem dL_law_595 : decode cL_law 595 = .ok (.iload 4, 2) := by decide +kernel
theorem dL_law_597 : decode cL_law 597 = .ok (.iconst 1, 1) := by decide +kernel
theorem dL_law_598 : decode cL_law 598 = .ok (.iadd, 1) := by decide +kernel
theorem dL_law_599 : decode cL_law 599 = .ok (.iaload, 1) := by decide +kernel
theorem dL_law_600 : decode cL_law 600 = .ok (.aload_n 0, 1) := by decide +kernel
theorem dL_law_601 : decode cL_law 601 = .ok (.iload 4, 2) := by decide +kernel
theorem dL_law_603 : decode cL_law 603 = .ok (.iconst 2, 1) := by decide +kernel
theorem dL_law_604 : decode cL_law 604 = .ok (.iadd, 1) := by decide +kernel
theorem dL_law_605 : decode cL_law 605 = .ok (.iaload, 1) := by decide +kernel
theorem dL_law_606 : decode cL_law 606 = .ok (.aload_n 0, 1) := by decide +kernel
theorem dL_law_607 : decode cL_law 607 = .ok (.iload 4, 2) := by decide +kernel
theorem dL_law_609 : decode cL_law 609 = .ok (.iconst 3, 1) := by decide +kernel
theorem dL_law_610 : decode cL_law 610 = .ok (.iadd, 1) := by decide +kernel
theorem dL_law_611 : decode cL_law 611 = .ok (.iaload, 1) := by decide +kernel
theorem dL_law_612 : decode cL_law 612 = .ok (.invokevirtual 136, 3) := by decide +kernel
theorem dL_law_615 : decode cL_law 615 = .ok (.istore 6, 2) := by decide +kernel
theorem dL_law_617 : decode cL_law 617 = .ok (.aload_n 2, 1) := by decide +kernel
theorem dL_law_618 : decode cL_law 618 = .ok (.invokevirtual 113, 3) := by decide +kernel
theorem dL_law_621 : decode cL_law 621 = .ok (.iload 5, 2) := by decide +kernel
theorem dL_law_623 : decode cL_law 623 = .ok (.if_icmp .eq 5, 3) := by decide +kernel
theorem dL_law_626 : decode cL_law 626 = .ok (.iconst 0, 1) := by decide +kernel
theorem dL_law_627 : decode cL_law 627 = .ok (.ireturn, 1) := by decide +kernel
theorem dL_law_628 : decode cL_law 628 = .ok (.iload 5, 2) := by decide +kernel
theorem dL_law_630 : decode cL_law 630 = .ok (.ifCond .ne 15, 3) := by decide +kernel
theorem dL_law_633 : decode cL_law 633 = .ok (.aload_n 3, 1) := by decide +kernel
theorem dL_law_634 : decode cL_law 634 = .ok (.iconst 0, 1) := by decide +kernel
theorem dL_law_635 : decode cL_law 635 = .ok (.laload, 1) := by decide +kernel
theorem dL_law_636 : decode cL_law 636 = .ok (.iload 6, 2) := by decide +kernel
theorem dL_law_638 : decode cL_law 638 = .ok (.i2l, 1) := by decide +kernel
theorem dL_law_639 : decode cL_law 639 = .ok (.lcmp, 1) := by decide +kernel
theorem dL_law_640 : decode cL_law 640 = .ok (.ifCond .eq 5, 3) := by decide +kernel
theorem dL_law_643 : decode cL_law 643 = .ok (.iconst 0, 1) := by decide +kernel
theorem dL_law_644 : decode cL_law 644 = .ok (.ireturn, 1) := by decide +kernel
theorem dL_law_645 : decode cL_law 645 = .ok (.goto 1236, 3) := by decide +kernel
theorem dL_law_648 : decode cL_law 648 = .ok (.aload_n 1, 1) := by decide +kernel
theorem dL_law_649 : decode cL_law 649 = .ok (.aload_n 0, 1) := by decide +kernel
theorem dL_law_650 : decode cL_law 650 = .ok (.iload 4, 2) := by decide +kernel
theorem dL_law_652 : decode cL_law 652 = .ok (.iconst 1, 1) := by decide +kernel
theorem dL_law_653 : decode cL_law 653 = .ok (.iadd, 1) := by decide +kernel
theorem dL_law_654 : decode cL_law 654 = .ok (.iaload, 1) := by decide +kernel
theorem dL_law_655 : decode cL_law 655 = .ok (.aload_n 0, 1) := by decide +kernel
theorem dL_law_656 : decode cL_law 656 = .ok (.iload 4, 2) := by decide +kernel
theorem dL_law_658 : decode cL_law 658 = .ok (.iconst 2, 1) := by decide +kernel
theorem dL_law_659 : decode cL_law 659 = .ok (.iadd, 1) := by decide +kernel
theorem dL_law_660 : decode cL_law 660 = .ok (.iaload, 1) := by decide +kernel
theorem dL_law_661 : decode cL_law 661 = .ok (.aload_n 3, 1) := by decide +kernel
theorem dL_law_662 : decode cL_law 662 = .ok (.invokestatic 137, 3) := by decide +kernel
theorem dL_law_665 : decode cL_law 665 = .ok (.istore 5, 2) := by decide +kernel
theorem dL_law_667 : decode cL_law 667 = .ok (.aload_n 2, 1) := by decide +kernel
theorem dL_law_668 : decode cL_law 668 = .ok (.aload_n 0, 1) := by decide +kernel
theorem dL_law_669 : decode cL_law 669 = .ok (.iload 4, 2) := by decide +kernel
theorem dL_law_671 : decode cL_law 671 = .ok (.iconst 1, 1) := by decide +kernel
theorem dL_law_672 : decode cL_law 672 = .ok (.iadd, 1) := by decide +kernel
theorem dL_law_673 : decode cL_law 673 = .ok (.iaload, 1) := by decide +kernel
theorem dL_law_674 : decode cL_law 674 = .ok (.aload_n 0, 1) := by decide +kernel
theorem dL_law_675 : decode cL_law 675 = .ok (.iload 4, 2) := by decide +kernel
theorem dL_law_677 : decode cL_law 677 = .ok (.iconst 2, 1) := by decide +kernel
theorem dL_law_678 : decode cL_law 678 = .ok (.iadd, 1) := by decide +kernel
theorem dL_law_679 : decode cL_law 679 = .ok (.iaload, 1) := by decide +kernel
theorem dL_law_680 : decode cL_law 680 = .ok (.invokevirtual 139, 3) := by decide +kernel
theorem dL_law_683 : decode cL_law 683 = .ok (.istore 6, 2) := by decide +kernel
theorem dL_law_685 : decode cL_law 685 = .ok (.aload_n 2, 1) := by decide +kernel
theorem dL_law_686 : decode cL_law 686 = .ok (.invokevirtual 113, 3) := by decide +kernel
theorem dL_law_689 : decode cL_law 689 = .ok (.iload 5, 2) := by decide +kernel
theorem dL_law_691 : decode cL_law 691 = .ok (.if_icmp .eq 5, 3) := by decide +kernel
theorem dL_law_694 : decode cL_law 694 = .ok (.iconst 0, 1) := by decide +kernel
theorem dL_law_695 : decode cL_law 695 = .ok (.ireturn, 1) := by decide +kernel
theorem dL_law_696 : decode cL_law 696 = .ok (.iload 5, 2) := by decide +kernel
theorem dL_law_698 : decode cL_law 698 = .ok (.ifCond .ne 15, 3) := by decide +kernel
theorem dL_law_701 : decode cL_law 701 = .ok (.aload_n 3, 1) := by decide +kernel
theorem dL_law_702 : decode cL_law 702 = .ok (.iconst 0, 1) := by decide +kernel
theorem dL_law_703 : decode cL_law 703 = .ok (.laload, 1) := by decide +kernel
theorem dL_law_704 : decode cL_law 704 = .ok (.iload 6, 2) := by decide +kernel
theorem dL_law_706 : decode cL_law 706 = .ok (.i2l, 1) := by decide +kernel
theorem dL_law_707 : decode cL_law 707 = .ok (.lcmp, 1) := by decide +kernel
theorem dL_law_708 : decode cL_law 708 = .ok (.ifCond .eq 5, 3) := by decide +kernel
theorem dL_law_711 : decode cL_law 711 = .ok (.iconst 0, 1) := by decide +kernel
theorem dL_law_712 : decode cL_law 712 = .ok (.ireturn, 1) := by decide +kernel
theorem dL_law_713 : decode cL_law 713 = .ok (.goto 1168, 3) := by decide +kernel
theorem dL_law_716 : decode cL_law 716 = .ok (.aload_n 1, 1) := by decide +kernel
theorem dL_law_717 : decode cL_law 717 = .ok (.aload_n 0, 1) := by decide +kernel
theorem dL_law_718 : decode cL_law 718 = .ok (.iload 4, 2) := by decide +kernel
theorem dL_law_720 : decode cL_law 720 = .ok (.iconst 1, 1) := by decide +kernel
theorem dL_law_721 : decode cL_law 721 = .ok (.iadd, 1) := by decide +kernel
theorem dL_law_722 : decode cL_law 722 = .ok (.iaload, 1) := by decide +kernel
theorem dL_law_723 : decode cL_law 723 = .ok (.aload_n 0, 1) := by decide +kernel
theorem dL_law_724 : decode cL_law 724 = .ok (.iload 4, 2) := by decide +kernel
theorem dL_law_726 : decode cL_law 726 = .ok (.iconst 2, 1) := by decide +kernel
theorem dL_law_727 : decode cL_law 727 = .ok (.iadd, 1) := by decide +kernel
theorem dL_law_728 : decode cL_law 728 = .ok (.iaload, 1) := by decide +kernel
theorem dL_law_729 : decode cL_law 729 = .ok (.aload_n 3, 1) := by decide +kernel
theorem dL_law_730 : decode cL_law 730 = .ok (.invokestatic 140, 3) := by decide +kernel
theorem dL_law_733 : decode cL_law 733 = .ok (.istore 5, 2) := by decide +kernel
theorem dL_law_735 : decode cL_law 735 = .ok (.aload_n 2, 1) := by decide +kernel
theorem dL_law_736 : decode cL_law 736 = .ok (.aload_n 0, 1) := by decide +kernel
theorem dL_law_737 : decode cL_law 737 = .ok (.iload 4, 2) := by decide +kernel
theorem dL_law_739 : decode cL_law 739 = .ok (.iconst 1, 1) := by decide +kernel
theorem dL_law_740 : decode cL_law 740 = .ok (.iadd, 1) := by decide +kernel
theorem dL_law_741 : decode cL_law 741 = .ok (.iaload, 1) := by decide +kernel
theorem dL_law_742 : decode cL_law 742 = .ok (.aload_n 0, 1) := by decide +kernel
theorem dL_law_743 : decode cL_law 743 = .ok (.iload 4, 2) := by decide +kernel
theorem dL_law_745 : decode cL_law 745 = .ok (.iconst 2, 1) := by decide +kernel
theorem dL_law_746 : decode cL_law 746 = .ok (.iadd, 1) := by decide +kernel
theorem dL_law_747 : decode cL_law 747 = .ok (.iaload, 1) := by decide +kernel
theorem dL_law_748 : decode cL_law 748 = .ok (.invokevirtual 142, 3) := by decide +kernel
theorem dL_law_751 : decode cL_law 751 = .ok (.istore 6, 2) := by decide +kernel
theorem dL_law_753 : decode cL_law 753 = .ok (.aload_n 2, 1) := by decide +kernel
theorem dL_law_754 : decode cL_law 754 = .ok (.invokevirtual 113, 3) := by decide +kernel
theorem dL_law_757 : decode cL_law 757 = .ok (.iload 5, 2) := by decide +kernel
theorem dL_law_759 : decode cL_law 759 = .ok (.if_icmp .eq 5, 3) := by decide +kernel
theorem dL_law_762 : decode cL_law 762 = .ok (.iconst 0, 1) := by decide +kernel
theorem dL_law_763 : decode cL_law 763 = .ok (.ireturn, 1) := by decide +kernel
theorem dL_law_764 : decode cL_law 764 = .ok (.iload 5, 2) := by decide +kernel
theorem dL_law_766 : decode cL_law 766 = .ok (.ifCond .ne 15, 3) := by decide +kernel
theorem dL_law_769 : decode cL_law 769 = .ok (.aload_n 3, 1) := by decide +kernel
theorem dL_law_770 : decode cL_law 770 = .ok (.iconst 0, 1) := by decide +kernel
theorem dL_law_771 : decode cL_law 771 = .ok (.laload, 1) := by decide +kernel
theorem dL_law_772 : decode cL_law 772 = .ok (.iload 6, 2) := by decide +kernel
theorem dL_law_774 : decode cL_law 774 = .ok (.i2l, 1) := by decide +kernel
theorem dL_law_775 : decode cL_law 775 = .ok (.lcmp, 1) := by decide +kernel
theorem dL_law_776 : decode cL_law 776 = .ok (.ifCond .eq 5, 3) := by decide +kernel
theorem dL_law_779 : decode cL_law 779 = .ok (.iconst 0, 1) := by decide +kernel
theorem dL_law_780 : decode cL_law 780 = .ok (.ireturn, 1) := by decide +kernel
theorem dL_law_781 : decode cL_law 781 = .ok (.goto 1100, 3) := by decide +kernel
theorem dL_law_784 : decode cL_law 784 = .ok (.aload_n 1, 1) := by decide +kernel
theorem dL_law_785 : decode cL_law 785 = .ok (.aload_n 0, 1) := by decide +kernel
theorem dL_law_786 : decode cL_law 786 = .ok (.iload 4, 2) := by decide +kernel
theorem dL_law_788 : decode cL_law 788 = .ok (.iconst 1, 1) := by decide +kernel
theorem dL_law_789 : decode cL_law 789 = .ok (.iadd, 1) := by decide +kernel
theorem dL_law_790 : decode cL_law 790 = .ok (.iaload, 1) := by decide +kernel
theorem dL_law_791 : decode cL_law 791 = .ok (.aload_n 0, 1) := by decide +kernel
theorem dL_law_792 : decode cL_law 792 = .ok (.iload 4, 2) := by decide +kernel
theorem dL_law_794 : decode cL_law 794 = .ok (.iconst 2, 1) := by decide +kernel
theorem dL_law_795 : decode cL_law 795 = .ok (.iadd, 1) := by decide +kernel
theorem dL_law_796 : decode cL_law 796 = .ok (.iaload, 1) := by decide +kernel
theorem dL_law_797 : decode cL_law 797 = .ok (.ifCond .eq 7, 3) := by decide +kernel
theorem dL_law_800 : decode cL_law 800 = .ok (.iconst 1, 1) := by decide +kernel
theorem dL_law_801 : decode cL_law 801 = .ok (.goto 4, 3) := by decide +kernel
theorem dL_law_804 : decode cL_law 804 = .ok (.iconst 0, 1) := by decide +kernel
theorem dL_law_805 : decode cL_law 805 = .ok (.aload_n 0, 1) := by decide +kernel
theorem dL_law_806 : decode cL_law 806 = .ok (.iload 4, 2) := by decide +kernel
theorem dL_law_808 : decode cL_law 808 = .ok (.iconst 3, 1) := by decide +kernel
theorem dL_law_809 : decode cL_law 809 = .ok (.iadd, 1) := by decide +kernel
theorem dL_law_810 : decode cL_law 810 = .ok (.iaload, 1) := by decide +kernel
theorem dL_law_811 : decode cL_law 811 = .ok (.ifCond .eq 7, 3) := by decide +kernel
theorem dL_law_814 : decode cL_law 814 = .ok (.iconst 1, 1) := by decide +kernel
theorem dL_law_815 : decode cL_law 815 = .ok (.goto 4, 3) := by decide +kernel
theorem dL_law_818 : decode cL_law 818 = .ok (.iconst 0, 1) := by decide +kernel
theorem dL_law_819 : decode cL_law 819 = .ok (.invokestatic 143, 3) := by decide +kernel
theorem dL_law_822 : decode cL_law 822 = .ok (.istore 5, 2) := by decide +kernel
theorem dL_law_824 : decode cL_law 824 = .ok (.aload_n 2, 1) := by decide +kernel
theorem dL_law_825 : decode cL_law 825 = .ok (.aload_n 0, 1) := by decide +kernel
theorem dL_law_826 : decode cL_law 826 = .ok (.iload 4, 2) := by decide +kernel
theorem dL_law_828 : decode cL_law 828 = .ok (.iconst 1, 1) := by decide +kernel
theorem dL_law_829 : decode cL_law 829 = .ok (.iadd, 1) := by decide +kernel
theorem dL_law_830 : decode cL_law 830 = .ok (.iaload, 1) := by decide +kernel
theorem dL_law_831 : decode cL_law 831 = .ok (.aload_n 0, 1) := by decide +kernel
theorem dL_law_832 : decode cL_law 832 = .ok (.iload 4, 2) := by decide +kernel
theorem dL_law_834 : decode cL_law 834 = .ok (.iconst 2, 1) := by decide +kernel
theorem dL_law_835 : decode cL_law 835 = .ok (.iadd, 1) := by decide +kernel
theorem dL_law_836 : decode cL_law 836 = .ok (.iaload, 1) := by decide +kernel
theorem dL_law_837 : decode cL_law 837 = .ok (.ifCond .eq 7, 3) := by decide +kernel
theorem dL_law_840 : decode cL_law 840 = .ok (.iconst 1, 1) := by decide +kernel
theorem dL_law_841 : decode cL_law 841 = .ok (.goto 4, 3) := by decide +kernel
theorem dL_law_844 : decode cL_law 844 = .ok (.iconst 0, 1) := by decide +kernel
theorem dL_law_845 : decode cL_law 845 = .ok (.aload_n 0, 1) := by decide +kernel
theorem dL_law_846 : decode cL_law 846 = .ok (.iload 4, 2) := by decide +kernel
theorem dL_law_848 : decode cL_law 848 = .ok (.iconst 3, 1) := by decide +kernel
theorem dL_law_849 : decode cL_law 849 = .ok (.iadd, 1) := by decide +kernel
theorem dL_law_850 : decode cL_law 850 = .ok (.iaload, 1) := by decide +kernel
theorem dL_law_851 : decode cL_law 851 = .ok (.ifCond .eq 7, 3) := by decide +kernel
theorem dL_law_854 : decode cL_law 854 = .ok (.iconst 1, 1) := by decide +kernel
theorem dL_law_855 : decode cL_law 855 = .ok (.goto 4, 3) := by decide +kernel
theorem dL_law_858 : decode cL_law 858 = .ok (.iconst 0, 1) := by decide +kernel
theorem dL_law_859 : decode cL_law 859 = .ok (.invokevirtual 146, 3) := by decide +kernel
theorem dL_law_862 : decode cL_law 862 = .ok (.aload_n 2, 1) := by decide +kernel
theorem dL_law_863 : decode cL_law 863 = .ok (.invokevirtual 113, 3) := by decide +kernel
theorem dL_law_866 : decode cL_law 866 = .ok (.iload 5, 2) := by decide +kernel
theorem dL_law_868 : decode cL_law 868 = .ok (.if_icmp .eq 5, 3) := by decide +kernel
theorem dL_law_871 : decode cL_law 871 = .ok (.iconst 0, 1) := by decide +kernel
theorem dL_law_872 : decode cL_law 872 = .ok (.ireturn, 1) := by decide +kernel
theorem dL_law_873 : decode cL_law 873 = .ok (.goto 1008, 3) := by decide +kernel
theorem dL_law_876 : decode cL_law 876 = .ok (.aload_n 1, 1) := by decide +kernel
theorem dL_law_877 : decode cL_law 877 = .ok (.aload_n 0, 1) := by decide +kernel
theorem dL_law_878 : decode cL_law 878 = .ok (.iload 4, 2) := by decide +kernel
theorem dL_law_880 : decode cL_law 880 = .ok (.iconst 1, 1) := by decide +kernel
theorem dL_law_881 : decode cL_law 881 = .ok (.iadd, 1) := by decide +kernel
theorem dL_law_882 : decode cL_law 882 = .ok (.iaload, 1) := by decide +kernel
theorem dL_law_883 : decode cL_law 883 = .ok (.aload_n 0, 1) := by decide +kernel
theorem dL_law_884 : decode cL_law 884 = .ok (.iload 4, 2) := by decide +kernel
theorem dL_law_886 : decode cL_law 886 = .ok (.iconst 2, 1) := by decide +kernel
theorem dL_law_887 : decode cL_law 887 = .ok (.iadd, 1) := by decide +kernel
theorem dL_law_888 : decode cL_law 888 = .ok (.iaload, 1) := by decide +kernel
theorem dL_law_889 : decode cL_law 889 = .ok (.aload_n 3, 1) := by decide +kernel
theorem dL_law_890 : decode cL_law 890 = .ok (.invokestatic 147, 3) := by decide +kernel
theorem dL_law_893 : decode cL_law 893 = .ok (.istore 5, 2) := by decide +kernel
theorem dL_law_895 : decode cL_law 895 = .ok (.aload_n 2, 1) := by decide +kernel
theorem dL_law_896 : decode cL_law 896 = .ok (.aload_n 0, 1) := by decide +kernel
theorem dL_law_897 : decode cL_law 897 = .ok (.iload 4, 2) := by decide +kernel
theorem dL_law_899 : decode cL_law 899 = .ok (.iconst 1, 1) := by decide +kernel
theorem dL_law_900 : decode cL_law 900 = .ok (.iadd, 1) := by decide +kernel
theorem dL_law_901 : decode cL_law 901 = .ok (.iaload, 1) := by decide +kernel
theorem dL_law_902 : decode cL_law 902 = .ok (.aload_n 0, 1) := by decide +kernel
theorem dL_law_903 : decode cL_law 903 = .ok (.iload 4, 2) := by decide +kernel
theorem dL_law_905 : decode cL_law 905 = .ok (.iconst 2, 1) := by decide +kernel
theorem dL_law_906 : decode cL_law 906 = .ok (.iadd, 1) := by decide +kernel
theorem dL_law_907 : decode cL_law 907 = .ok (.iaload, 1) := by decide +kernel
theorem dL_law_908 : decode cL_law 908 = .ok (.invokevirtual 149, 3) := by decide +kernel
theorem dL_law_911 : decode cL_law 911 = .ok (.istore 6, 2) := by decide +kernel
theorem dL_law_913 : decode cL_law 913 = .ok (.aload_n 2, 1) := by decide +kernel
theorem dL_law_914 : decode cL_law 914 = .ok (.invokevirtual 113, 3) := by decide +kernel
theorem dL_law_917 : decode cL_law 917 = .ok (.iload 5, 2) := by decide +kernel
theorem dL_law_919 : decode cL_law 919 = .ok (.if_icmp .eq 5, 3) := by decide +kernel
theorem dL_law_922 : decode cL_law 922 = .ok (.iconst 0, 1) := by decide +kernel
theorem dL_law_923 : decode cL_law 923 = .ok (.ireturn, 1) := by decide +kernel
theorem dL_law_924 : decode cL_law 924 = .ok (.iload 5, 2) := by decide +kernel
theorem dL_law_926 : decode cL_law 926 = .ok (.ifCond .ne 15, 3) := by decide +kernel
theorem dL_law_929 : decode cL_law 929 = .ok (.aload_n 3, 1) := by decide +kernel
theorem dL_law_930 : decode cL_law 930 = .ok (.iconst 0, 1) := by decide +kernel
theorem dL_law_931 : decode cL_law 931 = .ok (.laload, 1) := by decide +kernel
theorem dL_law_932 : decode cL_law 932 = .ok (.iload 6, 2) := by decide +kernel
theorem dL_law_934 : decode cL_law 934 = .ok (.i2l, 1) := by decide +kernel
theorem dL_law_935 : decode cL_law 935 = .ok (.lcmp, 1) := by decide +kernel
theorem dL_law_936 : decode cL_law 936 = .ok (.ifCond .eq 5, 3) := by decide +kernel
theorem dL_law_939 : decode cL_law 939 = .ok (.iconst 0, 1) := by decide +kernel
theorem dL_law_940 : decode cL_law 940 = .ok (.ireturn, 1) := by decide +kernel
theorem dL_law_941 : decode cL_law 941 = .ok (.goto 940, 3) := by decide +kernel
theorem dL_law_944 : decode cL_law 944 = .ok (.aload_n 1, 1) := by decide +kernel
theorem dL_law_945 : decode cL_law 945 = .ok (.aload_n 0, 1) := by decide +kernel
theorem dL_law_946 : decode cL_law 946 = .ok (.iload 4, 2) := by decide +kernel
theorem dL_law_948 : decode cL_law 948 = .ok (.iconst 1, 1) := by decide +kernel
theorem dL_law_949 : decode cL_law 949 = .ok (.iadd, 1) := by decide +kernel
theorem dL_law_950 : decode cL_law 950 = .ok (.iaload, 1) := by decide +kernel
theorem dL_law_951 : decode cL_law 951 = .ok (.aload_n 3, 1) := by decide +kernel
theorem dL_law_952 : decode cL_law 952 = .ok (.invokestatic 150, 3) := by decide +kernel
theorem dL_law_955 : decode cL_law 955 = .ok (.istore 5, 2) := by decide +kernel
theorem dL_law_957 : decode cL_law 957 = .ok (.aload_n 2, 1) := by decide +kernel
theorem dL_law_958 : decode cL_law 958 = .ok (.aload_n 0, 1) := by decide +kernel
theorem dL_law_959 : decode cL_law 959 = .ok (.iload 4, 2) := by decide +kernel
theorem dL_law_961 : decode cL_law 961 = .ok (.iconst 1, 1) := by decide +kernel
theorem dL_law_962 : decode cL_law 962 = .ok (.iadd, 1) := by decide +kernel
theorem dL_law_963 : decode cL_law 963 = .ok (.iaload, 1) := by decide +kernel
theorem dL_law_964 : decode cL_law 964 = .ok (.invokevirtual 153, 3) := by decide +kernel
theorem dL_law_967 : decode cL_law 967 = .ok (.istore 6, 2) := by decide +kernel
theorem dL_law_969 : decode cL_law 969 = .ok (.aload_n 2, 1) := by decide +kernel
theorem dL_law_970 : decode cL_law 970 = .ok (.invokevirtual 113, 3) := by decide +kernel
theorem dL_law_973 : decode cL_law 973 = .ok (.iload 5, 2) := by decide +kernel
theorem dL_law_975 : decode cL_law 975 = .ok (.if_icmp .eq 5, 3) := by decide +kernel
theorem dL_law_978 : decode cL_law 978 = .ok (.iconst 0, 1) := by decide +kernel
theorem dL_law_979 : decode cL_law 979 = .ok (.ireturn, 1) := by decide +kernel
theorem dL_law_980 : decode cL_law 980 = .ok (.iload 5, 2) := by decide +kernel
theorem dL_law_982 : decode cL_law 982 = .ok (.ifCond .ne 15, 3) := by decide +kernel
theorem dL_law_985 : decode cL_law 985 = .ok (.aload_n 3, 1) := by decide +kernel
theorem dL_law_986 : decode cL_law 986 = .ok (.iconst 0, 1) := by decide +kernel
theorem dL_law_987 : decode cL_law 987 = .ok (.laload, 1) := by decide +kernel
theorem dL_law_988 : decode cL_law 988 = .ok (.iload 6, 2) := by decide +kernel
theorem dL_law_990 : decode cL_law 990 = .ok (.i2l, 1) := by decide +kernel
theorem dL_law_991 : decode cL_law 991 = .ok (.lcmp, 1) := by decide +kernel
theorem dL_law_992 : decode cL_law 992 = .ok (.ifCond .eq 5, 3) := by decide +kernel
theorem dL_law_995 : decode cL_law 995 = .ok (.iconst 0, 1) := by decide +kernel
theorem dL_law_996 : decode cL_law 996 = .ok (.ireturn, 1) := by decide +kernel
theorem dL_law_997 : decode cL_law 997 = .ok (.goto 884, 3) := by decide +kernel
theorem dL_law_1000 : decode cL_law 1000 = .ok (.aload_n 1, 1) := by decide +kernel
theorem dL_law_1001 : decode cL_law 1001 = .ok (.aload_n 0, 1) := by decide +kernel
theorem dL_law_1002 : decode cL_law 1002 = .ok (.iload 4, 2) := by decide +kernel
theorem dL_law_1004 : decode cL_law 1004 = .ok (.iconst 1, 1) := by decide +kernel
theorem dL_law_1005 : decode cL_law 1005 = .ok (.iadd, 1) := by decide +kernel
theorem dL_law_1006 : decode cL_law 1006 = .ok (.iaload, 1) := by decide +kernel
theorem dL_law_1007 : decode cL_law 1007 = .ok (.aload_n 3, 1) := by decide +kernel
theorem dL_law_1008 : decode cL_law 1008 = .ok (.invokestatic 154, 3) := by decide +kernel
theorem dL_law_1011 : decode cL_law 1011 = .ok (.istore 5, 2) := by decide +kernel
theorem dL_law_1013 : decode cL_law 1013 = .ok (.aload_n 2, 1) := by decide +kernel
theorem dL_law_1014 : decode cL_law 1014 = .ok (.aload_n 0, 1) := by decide +kernel
theorem dL_law_1015 : decode cL_law 1015 = .ok (.iload 4, 2) := by decide +kernel
theorem dL_law_1017 : decode cL_law 1017 = .ok (.iconst 1, 1) := by decide +kernel
theorem dL_law_1018 : decode cL_law 1018 = .ok (.iadd, 1) := by decide +kernel
theorem dL_law_1019 : decode cL_law 1019 = .ok (.iaload, 1) := by decide +kernel
theorem dL_law_1020 : decode cL_law 1020 = .ok (.invokevirtual 156, 3) := by decide +kernel
theorem dL_law_1023 : decode cL_law 1023 = .ok (.lstore 6, 2) := by decide +kernel
theorem dL_law_1025 : decode cL_law 1025 = .ok (.aload_n 2, 1) := by decide +kernel
theorem dL_law_1026 : decode cL_law 1026 = .ok (.invokevirtual 113, 3) := by decide +kernel
theorem dL_law_1029 : decode cL_law 1029 = .ok (.iload 5, 2) := by decide +kernel
theorem dL_law_1031 : decode cL_law 1031 = .ok (.if_icmp .eq 5, 3) := by decide +kernel
theorem dL_law_1034 : decode cL_law 1034 = .ok (.iconst 0, 1) := by decide +kernel
theorem dL_law_1035 : decode cL_law 1035 = .ok (.ireturn, 1) := by decide +kernel
theorem dL_law_1036 : decode cL_law 1036 = .ok (.iload 5, 2) := by decide +kernel
theorem dL_law_1038 : decode cL_law 1038 = .ok (.ifCond .ne 14, 3) := by decide +kernel
theorem dL_law_1041 : decode cL_law 1041 = .ok (.aload_n 3, 1) := by decide +kernel
theorem dL_law_1042 : decode cL_law 1042 = .ok (.iconst 0, 1) := by decide +kernel
theorem dL_law_1043 : decode cL_law 1043 = .ok (.laload, 1) := by decide +kernel
theorem dL_law_1044 : decode cL_law 1044 = .ok (.lload 6, 2) := by decide +kernel
theorem dL_law_1046 : decode cL_law 1046 = .ok (.lcmp, 1) := by decide +kernel
theorem dL_law_1047 : decode cL_law 1047 = .ok (.ifCond .eq 5, 3) := by decide +kernel
theorem dL_law_1050 : decode cL_law 1050 = .ok (.iconst 0, 1) := by decide +kernel
theorem dL_law_1051 : decode cL_law 1051 = .ok (.ireturn, 1) := by decide +kernel
theorem dL_law_1052 : decode cL_law 1052 = .ok (.goto 829, 3) := by decide +kernel
theorem dL_law_1055 : decode cL_law 1055 = .ok (.aload_n 1, 1) := by decide +kernel
theorem dL_law_1056 : decode cL_law 1056 = .ok (.aload_n 0, 1) := by decide +kernel
theorem dL_law_1057 : decode cL_law 1057 = .ok (.iload 4, 2) := by decide +kernel
theorem dL_law_1059 : decode cL_law 1059 = .ok (.iconst 1, 1) := by decide +kernel
theorem dL_law_1060 : decode cL_law 1060 = .ok (.iadd, 1) := by decide +kernel
theorem dL_law_1061 : decode cL_law 1061 = .ok (.iaload, 1) := by decide +kernel
theorem dL_law_1062 : decode cL_law 1062 = .ok (.aload_n 3, 1) := by decide +kernel
theorem dL_law_1063 : decode cL_law 1063 = .ok (.invokestatic 157, 3) := by decide +kernel
theorem dL_law_1066 : decode cL_law 1066 = .ok (.istore 5, 2) := by decide +kernel
theorem dL_law_1068 : decode cL_law 1068 = .ok (.aload_n 2, 1) := by decide +kernel
theorem dL_law_1069 : decode cL_law 1069 = .ok (.aload_n 0, 1) := by decide +kernel
theorem dL_law_1070 : decode cL_law 1070 = .ok (.iload 4, 2) := by decide +kernel
theorem dL_law_1072 : decode cL_law 1072 = .ok (.iconst 1, 1) := by decide +kernel
theorem dL_law_1073 : decode cL_law 1073 = .ok (.iadd, 1) := by decide +kernel
theorem dL_law_1074 : decode cL_law 1074 = .ok (.iaload, 1) := by decide +kernel
theorem dL_law_1075 : decode cL_law 1075 = .ok (.invokevirtual 159, 3) := by decide +kernel
theorem dL_law_1078 : decode cL_law 1078 = .ok (.lstore 6, 2) := by decide +kernel
theorem dL_law_1080 : decode cL_law 1080 = .ok (.aload_n 2, 1) := by decide +kernel
theorem dL_law_1081 : decode cL_law 1081 = .ok (.invokevirtual 113, 3) := by decide +kernel
theorem dL_law_1084 : decode cL_law 1084 = .ok (.iload 5, 2) := by decide +kernel
theorem dL_law_1086 : decode cL_law 1086 = .ok (.if_icmp .eq 5, 3) := by decide +kernel
theorem dL_law_1089 : decode cL_law 1089 = .ok (.iconst 0, 1) := by decide +kernel
theorem dL_law_1090 : decode cL_law 1090 = .ok (.ireturn, 1) := by decide +kernel
theorem dL_law_1091 : decode cL_law 1091 = .ok (.iload 5, 2) := by decide +kernel
theorem dL_law_1093 : decode cL_law 1093 = .ok (.ifCond .ne 14, 3) := by decide +kernel
theorem dL_law_1096 : decode cL_law 1096 = .ok (.aload_n 3, 1) := by decide +kernel
theorem dL_law_1097 : decode cL_law 1097 = .ok (.iconst 0, 1) := by decide +kernel
theorem dL_law_1098 : decode cL_law 1098 = .ok (.laload, 1) := by decide +kernel
theorem dL_law_1099 : decode cL_law 1099 = .ok (.lload 6, 2) := by decide +kernel
theorem dL_law_1101 : decode cL_law 1101 = .ok (.lcmp, 1) := by decide +kernel
theorem dL_law_1102 : decode cL_law 1102 = .ok (.ifCond .eq 5, 3) := by decide +kernel
theorem dL_law_1105 : decode cL_law 1105 = .ok (.iconst 0, 1) := by decide +kernel
theorem dL_law_1106 : decode cL_law 1106 = .ok (.ireturn, 1) := by decide +kernel
theorem dL_law_1107 : decode cL_law 1107 = .ok (.goto 774, 3) := by decide +kernel
theorem dL_law_1110 : decode cL_law 1110 = .ok (.aload_n 1, 1) := by decide +kernel
theorem dL_law_1111 : decode cL_law 1111 = .ok (.aload_n 0, 1) := by decide +kernel
theorem dL_law_1112 : decode cL_law 1112 = .ok (.iload 4, 2) := by decide +kernel
theorem dL_law_1114 : decode cL_law 1114 = .ok (.iconst 1, 1) := by decide +kernel
theorem dL_law_1115 : decode cL_law 1115 = .ok (.iadd, 1) := by decide +kernel
theorem dL_law_1116 : decode cL_law 1116 = .ok (.iaload, 1) := by decide +kernel
theorem dL_law_1117 : decode cL_law 1117 = .ok (.aload_n 3, 1) := by decide +kernel
theorem dL_law_1118 : decode cL_law 1118 = .ok (.invokestatic 160, 3) := by decide +kernel
theorem dL_law_1121 : decode cL_law 1121 = .ok (.istore 5, 2) := by decide +kernel
theorem dL_law_1123 : decode cL_law 1123 = .ok (.aload_n 2, 1) := by decide +kernel
theorem dL_law_1124 : decode cL_law 1124 = .ok (.aload_n 0, 1) := by decide +kernel
theorem dL_law_1125 : decode cL_law 1125 = .ok (.iload 4, 2) := by decide +kernel
theorem dL_law_1127 : decode cL_law 1127 = .ok (.iconst 1, 1) := by decide +kernel
theorem dL_law_1128 : decode cL_law 1128 = .ok (.iadd, 1) := by decide +kernel
theorem dL_law_1129 : decode cL_law 1129 = .ok (.iaload, 1) := by decide +kernel
theorem dL_law_1130 : decode cL_law 1130 = .ok (.invokevirtual 162, 3) := by decide +kernel
theorem dL_law_1133 : decode cL_law 1133 = .ok (.lstore 6, 2) := by decide +kernel
theorem dL_law_1135 : decode cL_law 1135 = .ok (.aload_n 2, 1) := by decide +kernel
theorem dL_law_1136 : decode cL_law 1136 = .ok (.invokevirtual 113, 3) := by decide +kernel
theorem dL_law_1139 : decode cL_law 1139 = .ok (.iload 5, 2) := by decide +kernel
theorem dL_law_1141 : decode cL_law 1141 = .ok (.if_icmp .eq 5, 3) := by decide +kernel
theorem dL_law_1144 : decode cL_law 1144 = .ok (.iconst 0, 1) := by decide +kernel
theorem dL_law_1145 : decode cL_law 1145 = .ok (.ireturn, 1) := by decide +kernel
theorem dL_law_1146 : decode cL_law 1146 = .ok (.iload 5, 2) := by decide +kernel
theorem dL_law_1148 : decode cL_law 1148 = .ok (.ifCond .ne 14, 3) := by decide +kernel
theorem dL_law_1151 : decode cL_law 1151 = .ok (.aload_n 3, 1) := by decide +kernel
theorem dL_law_1152 : decode cL_law 1152 = .ok (.iconst 0, 1) := by decide +kernel
theorem dL_law_1153 : decode cL_law 1153 = .ok (.laload, 1) := by decide +kernel
theorem dL_law_1154 : decode cL_law 1154 = .ok (.lload 6, 2) := by decide +kernel
theorem dL_law_1156 : decode cL_law 1156 = .ok (.lcmp, 1) := by decide +kernel
theorem dL_law_1157 : decode cL_law 1157 = .ok (.ifCond .eq 5, 3) := by decide +kernel
theorem dL_law_1160 : decode cL_law 1160 = .ok (.iconst 0, 1) := by decide +kernel
theorem dL_law_1161 : decode cL_law 1161 = .ok (.ireturn, 1) := by decide +kernel
theorem dL_law_1162 : decode cL_law 1162 = .ok (.goto 719, 3) := by decide +kernel
theorem dL_law_1165 : decode cL_law 1165 = .ok (.aload_n 1, 1) := by decide +kernel
theorem dL_law_1166 : decode cL_law 1166 = .ok (.aload_n 0, 1) := by decide +kernel
theorem dL_law_1167 : decode cL_law 1167 = .ok (.iload 4, 2) := by decide +kernel
theorem dL_law_1169 : decode cL_law 1169 = .ok (.iconst 1, 1) := by decide +kernel
theorem dL_law_1170 : decode cL_law 1170 = .ok (.iadd, 1) := by decide +kernel
theorem dL_law_1171 : decode cL_law 1171 = .ok (.iaload, 1) := by decide +kernel
theorem dL_law_1172 : decode cL_law 1172 = .ok (.aload_n 3, 1) := by decide +kernel
theorem dL_law_1173 : decode cL_law 1173 = .ok (.invokestatic 163, 3) := by decide +kernel
theorem dL_law_1176 : decode cL_law 1176 = .ok (.istore 5, 2) := by decide +kernel
theorem dL_law_1178 : decode cL_law 1178 = .ok (.aload_n 2, 1) := by decide +kernel
theorem dL_law_1179 : decode cL_law 1179 = .ok (.aload_n 0, 1) := by decide +kernel
theorem dL_law_1180 : decode cL_law 1180 = .ok (.iload 4, 2) := by decide +kernel
theorem dL_law_1182 : decode cL_law 1182 = .ok (.iconst 1, 1) := by decide +kernel
theorem dL_law_1183 : decode cL_law 1183 = .ok (.iadd, 1) := by decide +kernel
theorem dL_law_1184 : decode cL_law 1184 = .ok (.iaload, 1) := by decide +kernel
theorem dL_law_1185 : decode cL_law 1185 = .ok (.invokevirtual 165, 3) := by decide +kernel
theorem dL_law_1188 : decode cL_law 1188 = .ok (.lstore 6, 2) := by decide +kernel
theorem dL_law_1190 : decode cL_law 1190 = .ok (.aload_n 2, 1) := by decide +kernel
theorem dL_law_1191 : decode cL_law 1191 = .ok (.invokevirtual 113, 3) := by decide +kernel
theorem dL_law_1194 : decode cL_law 1194 = .ok (.iload 5, 2) := by decide +kernel
theorem dL_law_1196 : decode cL_law 1196 = .ok (.if_icmp .eq 5, 3) := by decide +kernel
theorem dL_law_1199 : decode cL_law 1199 = .ok (.iconst 0, 1) := by decide +kernel
theorem dL_law_1200 : decode cL_law 1200 = .ok (.ireturn, 1) := by decide +kernel
theorem dL_law_1201 : decode cL_law 1201 = .ok (.iload 5, 2) := by decide +kernel
theorem dL_law_1203 : decode cL_law 1203 = .ok (.ifCond .ne 14, 3) := by decide +kernel
theorem dL_law_1206 : decode cL_law 1206 = .ok (.aload_n 3, 1) := by decide +kernel
theorem dL_law_1207 : decode cL_law 1207 = .ok (.iconst 0, 1) := by decide +kernel
theorem dL_law_1208 : decode cL_law 1208 = .ok (.laload, 1) := by decide +kernel
theorem dL_law_1209 : decode cL_law 1209 = .ok (.lload 6, 2) := by decide +kernel
theorem dL_law_1211 : decode cL_law 1211 = .ok (.lcmp, 1) := by decide +kernel
theorem dL_law_1212 : decode cL_law 1212 = .ok (.ifCond .eq 5, 3) := by decide +kernel
theorem dL_law_1215 : decode cL_law 1215 = .ok (.iconst 0, 1) := by decide +kernel
theorem dL_law_1216 : decode cL_law 1216 = .ok (.ireturn, 1) := by decide +kernel
theorem dL_law_1217 : decode cL_law 1217 = .ok (.goto 664, 3) := by decide +kernel
theorem dL_law_1220 : decode cL_law 1220 = .ok (.aload_n 1, 1) := by decide +kernel
theorem dL_law_1221 : decode cL_law 1221 = .ok (.aload_n 0, 1) := by decide +kernel
theorem dL_law_1222 : decode cL_law 1222 = .ok (.iload 4, 2) := by decide +kernel
theorem dL_law_1224 : decode cL_law 1224 = .ok (.iconst 1, 1) := by decide +kernel
theorem dL_law_1225 : decode cL_law 1225 = .ok (.iadd, 1) := by decide +kernel
theorem dL_law_1226 : decode cL_law 1226 = .ok (.iaload, 1) := by decide +kernel
theorem dL_law_1227 : decode cL_law 1227 = .ok (.aload_n 3, 1) := by decide +kernel
theorem dL_law_1228 : decode cL_law 1228 = .ok (.invokestatic 166, 3) := by decide +kernel
theorem dL_law_1231 : decode cL_law 1231 = .ok (.istore 5, 2) := by decide +kernel
theorem dL_law_1233 : decode cL_law 1233 = .ok (.aload_n 2, 1) := by decide +kernel
theorem dL_law_1234 : decode cL_law 1234 = .ok (.aload_n 0, 1) := by decide +kernel
theorem dL_law_1235 : decode cL_law 1235 = .ok (.iload 4, 2) := by decide +kernel
theorem dL_law_1237 : decode cL_law 1237 = .ok (.iconst 1, 1) := by decide +kernel
theorem dL_law_1238 : decode cL_law 1238 = .ok (.iadd, 1) := by decide +kernel
theorem dL_law_1239 : decode cL_law 1239 = .ok (.iaload, 1) := by decide +kernel
theorem dL_law_1240 : decode cL_law 1240 = .ok (.invokevirtual 168, 3) := by decide +kernel
theorem dL_law_1243 : decode cL_law 1243 = .ok (.lstore 6, 2) := by decide +kernel
theorem dL_law_1245 : decode cL_law 1245 = .ok (.aload_n 2, 1) := by decide +kernel
theorem dL_law_1246 : decode cL_law 1246 = .ok (.invokevirtual 113, 3) := by decide +kernel
theorem dL_law_1249 : decode cL_law 1249 = .ok (.iload 5, 2) := by decide +kernel
theorem dL_law_1251 : decode cL_law 1251 = .ok (.if_icmp .eq 5, 3) := by decide +kernel
theorem dL_law_1254 : decode cL_law 1254 = .ok (.iconst 0, 1) := by decide +kernel
theorem dL_law_1255 : decode cL_law 1255 = .ok (.ireturn, 1) := by decide +kernel
theorem dL_law_1256 : decode cL_law 1256 = .ok (.iload 5, 2) := by decide +kernel
theorem dL_law_1258 : decode cL_law 1258 = .ok (.ifCond .ne 14, 3) := by decide +kernel
theorem dL_law_1261 : decode cL_law 1261 = .ok (.aload_n 3, 1) := by decide +kernel
theorem dL_law_1262 : decode cL_law 1262 = .ok (.iconst 0, 1) := by decide +kernel
theorem dL_law_1263 : decode cL_law 1263 = .ok (.laload, 1) := by decide +kernel
theorem dL_law_1264 : decode cL_law 1264 = .ok (.lload 6, 2) := by decide +kernel
theorem dL_law_1266 : decode cL_law 1266 = .ok (.lcmp, 1) := by decide +kernel
theorem dL_law_1267 : decode cL_law 1267 = .ok (.ifCond .eq 5, 3) := by decide +kernel
theorem dL_law_1270 : decode cL_law 1270 = .ok (.iconst 0, 1) := by decide +kernel
theorem dL_law_1271 : decode cL_law 1271 = .ok (.ireturn, 1) := by decide +kernel
theorem dL_law_1272 : decode cL_law 1272 = .ok (.goto 609, 3) := by decide +kernel
theorem dL_law_1275 : decode cL_law 1275 = .ok (.aload_n 1, 1) := by decide +kernel
theorem dL_law_1276 : decode cL_law 1276 = .ok (.aload_n 0, 1) := by decide +kernel
theorem dL_law_1277 : decode cL_law 1277 = .ok (.iload 4, 2) := by decide +kernel
theorem dL_law_1279 : decode cL_law 1279 = .ok (.iconst 1, 1) := by decide +kernel
theorem dL_law_1280 : decode cL_law 1280 = .ok (.iadd, 1) := by decide +kernel
theorem dL_law_1281 : decode cL_law 1281 = .ok (.iaload, 1) := by decide +kernel
theorem dL_law_1282 : decode cL_law 1282 = .ok (.aload_n 0, 1) := by decide +kernel
theorem dL_law_1283 : decode cL_law 1283 = .ok (.iload 4, 2) := by decide +kernel
theorem dL_law_1285 : decode cL_law 1285 = .ok (.iconst 2, 1) := by decide +kernel
theorem dL_law_1286 : decode cL_law 1286 = .ok (.iadd, 1) := by decide +kernel
theorem dL_law_1287 : decode cL_law 1287 = .ok (.iaload, 1) := by decide +kernel
theorem dL_law_1288 : decode cL_law 1288 = .ok (.aload_n 3, 1) := by decide +kernel
theorem dL_law_1289 : decode cL_law 1289 = .ok (.invokestatic 169, 3) := by decide +kernel
theorem dL_law_1292 : decode cL_law 1292 = .ok (.istore 5, 2) := by decide +kernel
theorem dL_law_1294 : decode cL_law 1294 = .ok (.aload_n 2, 1) := by decide +kernel
theorem dL_law_1295 : decode cL_law 1295 = .ok (.aload_n 0, 1) := by decide +kernel
theorem dL_law_1296 : decode cL_law 1296 = .ok (.iload 4, 2) := by decide +kernel
theorem dL_law_1298 : decode cL_law 1298 = .ok (.iconst 1, 1) := by decide +kernel
theorem dL_law_1299 : decode cL_law 1299 = .ok (.iadd, 1) := by decide +kernel
theorem dL_law_1300 : decode cL_law 1300 = .ok (.iaload, 1) := by decide +kernel
theorem dL_law_1301 : decode cL_law 1301 = .ok (.aload_n 0, 1) := by decide +kernel
theorem dL_law_1302 : decode cL_law 1302 = .ok (.iload 4, 2) := by decide +kernel
theorem dL_law_1304 : decode cL_law 1304 = .ok (.iconst 2, 1) := by decide +kernel
theorem dL_law_1305 : decode cL_law 1305 = .ok (.iadd, 1) := by decide +kernel
theorem dL_law_1306 : decode cL_law 1306 = .ok (.iaload, 1) := by decide +kernel
theorem dL_law_1307 : decode cL_law 1307 = .ok (.invokevirtual 171, 3) := by decide +kernel
theorem dL_law_1310 : decode cL_law 1310 = .ok (.istore 6, 2) := by decide +kernel
theorem dL_law_1312 : decode cL_law 1312 = .ok (.aload_n 2, 1) := by decide +kernel
theorem dL_law_1313 : decode cL_law 1313 = .ok (.invokevirtual 113, 3) := by decide +kernel
theorem dL_law_1316 : decode cL_law 1316 = .ok (.iload 5, 2) := by decide +kernel
theorem dL_law_1318 : decode cL_law 1318 = .ok (.if_icmp .eq 5, 3) := by decide +kernel
theorem dL_law_1321 : decode cL_law 1321 = .ok (.iconst 0, 1) := by decide +kernel
theorem dL_law_1322 : decode cL_law 1322 = .ok (.ireturn, 1) := by decide +kernel
theorem dL_law_1323 : decode cL_law 1323 = .ok (.iload 5, 2) := by decide +kernel
theorem dL_law_1325 : decode cL_law 1325 = .ok (.ifCond .ne 15, 3) := by decide +kernel
theorem dL_law_1328 : decode cL_law 1328 = .ok (.aload_n 3, 1) := by decide +kernel
theorem dL_law_1329 : decode cL_law 1329 = .ok (.iconst 0, 1) := by decide +kernel
theorem dL_law_1330 : decode cL_law 1330 = .ok (.laload, 1) := by decide +kernel
theorem dL_law_1331 : decode cL_law 1331 = .ok (.iload 6, 2) := by decide +kernel
theorem dL_law_1333 : decode cL_law 1333 = .ok (.i2l, 1) := by decide +kernel
theorem dL_law_1334 : decode cL_law 1334 = .ok (.lcmp, 1) := by decide +kernel
theorem dL_law_1335 : decode cL_law 1335 = .ok (.ifCond .eq 5, 3) := by decide +kernel
theorem dL_law_1338 : decode cL_law 1338 = .ok (.iconst 0, 1) := by decide +kernel
theorem dL_law_1339 : decode cL_law 1339 = .ok (.ireturn, 1) := by decide +kernel
theorem dL_law_1340 : decode cL_law 1340 = .ok (.goto 541, 3) := by decide +kernel
theorem dL_law_1343 : decode cL_law 1343 = .ok (.aload_n 1, 1) := by decide +kernel
theorem dL_law_1344 : decode cL_law 1344 = .ok (.aload_n 0, 1) := by decide +kernel
theorem dL_law_1345 : decode cL_law 1345 = .ok (.iload 4, 2) := by decide +kernel
theorem dL_law_1347 : decode cL_law 1347 = .ok (.iconst 1, 1) := by decide +kernel
theorem dL_law_1348 : decode cL_law 1348 = .ok (.iadd, 1) := by decide +kernel
theorem dL_law_1349 : decode cL_law 1349 = .ok (.iaload, 1) := by decide +kernel
theorem dL_law_1350 : decode cL_law 1350 = .ok (.aload_n 3, 1) := by decide +kernel
theorem dL_law_1351 : decode cL_law 1351 = .ok (.invokestatic 172, 3) := by decide +kernel
theorem dL_law_1354 : decode cL_law 1354 = .ok (.istore 5, 2) := by decide +kernel
theorem dL_law_1356 : decode cL_law 1356 = .ok (.aload_n 2, 1) := by decide +kernel
theorem dL_law_1357 : decode cL_law 1357 = .ok (.aload_n 0, 1) := by decide +kernel
theorem dL_law_1358 : decode cL_law 1358 = .ok (.iload 4, 2) := by decide +kernel
theorem dL_law_1360 : decode cL_law 1360 = .ok (.iconst 1, 1) := by decide +kernel
theorem dL_law_1361 : decode cL_law 1361 = .ok (.iadd, 1) := by decide +kernel
theorem dL_law_1362 : decode cL_law 1362 = .ok (.iaload, 1) := by decide +kernel
theorem dL_law_1363 : decode cL_law 1363 = .ok (.invokevirtual 174, 3) := by decide +kernel
theorem dL_law_1366 : decode cL_law 1366 = .ok (.istore 6, 2) := by decide +kernel
theorem dL_law_1368 : decode cL_law 1368 = .ok (.aload_n 2, 1) := by decide +kernel
theorem dL_law_1369 : decode cL_law 1369 = .ok (.invokevirtual 113, 3) := by decide +kernel
theorem dL_law_1372 : decode cL_law 1372 = .ok (.iload 5, 2) := by decide +kernel
theorem dL_law_1374 : decode cL_law 1374 = .ok (.if_icmp .eq 5, 3) := by decide +kernel
theorem dL_law_1377 : decode cL_law 1377 = .ok (.iconst 0, 1) := by decide +kernel
theorem dL_law_1378 : decode cL_law 1378 = .ok (.ireturn, 1) := by decide +kernel
theorem dL_law_1379 : decode cL_law 1379 = .ok (.iload 5, 2) := by decide +kernel
theorem dL_law_1381 : decode cL_law 1381 = .ok (.ifCond .ne 15, 3) := by decide +kernel
theorem dL_law_1384 : decode cL_law 1384 = .ok (.aload_n 3, 1) := by decide +kernel
theorem dL_law_1385 : decode cL_law 1385 = .ok (.iconst 0, 1) := by decide +kernel
theorem dL_law_1386 : decode cL_law 1386 = .ok (.laload, 1) := by decide +kernel
theorem dL_law_1387 : decode cL_law 1387 = .ok (.iload 6, 2) := by decide +kernel
theorem dL_law_1389 : decode cL_law 1389 = .ok (.i2l, 1) := by decide +kernel
theorem dL_law_1390 : decode cL_law 1390 = .ok (.lcmp, 1) := by decide +kernel
theorem dL_law_1391 : decode cL_law 1391 = .ok (.ifCond .eq 5, 3) := by decide +kernel
theorem dL_law_1394 : decode cL_law 1394 = .ok (.iconst 0, 1) := by decide +kernel
theorem dL_law_1395 : decode cL_law 1395 = .ok (.ireturn, 1) := by decide +kernel
theorem dL_law_1396 : decode cL_law 1396 = .ok (.goto 485, 3) := by decide +kernel
theorem dL_law_1399 : decode cL_law 1399 = .ok (.aload_n 1, 1) := by decide +kernel
theorem dL_law_1400 : decode cL_law 1400 = .ok (.aload_n 0, 1) := by decide +kernel
theorem dL_law_1401 : decode cL_law 1401 = .ok (.iload 4, 2) := by decide +kernel
theorem dL_law_1403 : decode cL_law 1403 = .ok (.iconst 1, 1) := by decide +kernel
theorem dL_law_1404 : decode cL_law 1404 = .ok (.iadd, 1) := by decide +kernel
theorem dL_law_1405 : decode cL_law 1405 = .ok (.iaload, 1) := by decide +kernel
theorem dL_law_1406 : decode cL_law 1406 = .ok (.aload_n 3, 1) := by decide +kernel
theorem dL_law_1407 : decode cL_law 1407 = .ok (.invokestatic 175, 3) := by decide +kernel
theorem dL_law_1410 : decode cL_law 1410 = .ok (.istore 5, 2) := by decide +kernel
theorem dL_law_1412 : decode cL_law 1412 = .ok (.aload_n 2, 1) := by decide +kernel
theorem dL_law_1413 : decode cL_law 1413 = .ok (.aload_n 0, 1) := by decide +kernel
theorem dL_law_1414 : decode cL_law 1414 = .ok (.iload 4, 2) := by decide +kernel
theorem dL_law_1416 : decode cL_law 1416 = .ok (.iconst 1, 1) := by decide +kernel
theorem dL_law_1417 : decode cL_law 1417 = .ok (.iadd, 1) := by decide +kernel
theorem dL_law_1418 : decode cL_law 1418 = .ok (.iaload, 1) := by decide +kernel
theorem dL_law_1419 : decode cL_law 1419 = .ok (.invokevirtual 177, 3) := by decide +kernel
theorem dL_law_1422 : decode cL_law 1422 = .ok (.istore 6, 2) := by decide +kernel
theorem dL_law_1424 : decode cL_law 1424 = .ok (.aload_n 2, 1) := by decide +kernel
theorem dL_law_1425 : decode cL_law 1425 = .ok (.invokevirtual 113, 3) := by decide +kernel
theorem dL_law_1428 : decode cL_law 1428 = .ok (.iload 5, 2) := by decide +kernel
theorem dL_law_1430 : decode cL_law 1430 = .ok (.if_icmp .eq 5, 3) := by decide +kernel
theorem dL_law_1433 : decode cL_law 1433 = .ok (.iconst 0, 1) := by decide +kernel
theorem dL_law_1434 : decode cL_law 1434 = .ok (.ireturn, 1) := by decide +kernel
theorem dL_law_1435 : decode cL_law 1435 = .ok (.iload 5, 2) := by decide +kernel
theorem dL_law_1437 : decode cL_law 1437 = .ok (.ifCond .ne 22, 3) := by decide +kernel
theorem dL_law_1440 : decode cL_law 1440 = .ok (.aload_n 3, 1) := by decide +kernel
theorem dL_law_1441 : decode cL_law 1441 = .ok (.iconst 0, 1) := by decide +kernel
theorem dL_law_1442 : decode cL_law 1442 = .ok (.laload, 1) := by decide +kernel
theorem dL_law_1443 : decode cL_law 1443 = .ok (.iload 6, 2) := by decide +kernel
theorem dL_law_1445 : decode cL_law 1445 = .ok (.ifCond .eq 7, 3) := by decide +kernel
theorem dL_law_1448 : decode cL_law 1448 = .ok (.lconst 1, 1) := by decide +kernel
theorem dL_law_1449 : decode cL_law 1449 = .ok (.goto 4, 3) := by decide +kernel
theorem dL_law_1452 : decode cL_law 1452 = .ok (.lconst 0, 1) := by decide +kernel
theorem dL_law_1453 : decode cL_law 1453 = .ok (.lcmp, 1) := by decide +kernel
theorem dL_law_1454 : decode cL_law 1454 = .ok (.ifCond .eq 5, 3) := by decide +kernel
theorem dL_law_1457 : decode cL_law 1457 = .ok (.iconst 0, 1) := by decide +kernel
theorem dL_law_1458 : decode cL_law 1458 = .ok (.ireturn, 1) := by decide +kernel
theorem dL_law_1459 : decode cL_law 1459 = .ok (.goto 422, 3) := by decide +kernel
theorem dL_law_1462 : decode cL_law 1462 = .ok (.aload_n 1, 1) := by decide +kernel
theorem dL_law_1463 : decode cL_law 1463 = .ok (.aload_n 0, 1) := by decide +kernel
theorem dL_law_1464 : decode cL_law 1464 = .ok (.iload 4, 2) := by decide +kernel
theorem dL_law_1466 : decode cL_law 1466 = .ok (.iconst 1, 1) := by decide +kernel
theorem dL_law_1467 : decode cL_law 1467 = .ok (.iadd, 1) := by decide +kernel
theorem dL_law_1468 : decode cL_law 1468 = .ok (.iaload, 1) := by decide +kernel
theorem dL_law_1469 : decode cL_law 1469 = .ok (.aload_n 3, 1) := by decide +kernel
theorem dL_law_1470 : decode cL_law 1470 = .ok (.invokestatic 178, 3) := by decide +kernel
theorem dL_law_1473 : decode cL_law 1473 = .ok (.istore 5, 2) := by decide +kernel
theorem dL_law_1475 : decode cL_law 1475 = .ok (.aload_n 2, 1) := by decide +kernel
theorem dL_law_1476 : decode cL_law 1476 = .ok (.aload_n 0, 1) := by decide +kernel
theorem dL_law_1477 : decode cL_law 1477 = .ok (.iload 4, 2) := by decide +kernel
theorem dL_law_1479 : decode cL_law 1479 = .ok (.iconst 1, 1) := by decide +kernel
theorem dL_law_1480 : decode cL_law 1480 = .ok (.iadd, 1) := by decide +kernel
theorem dL_law_1481 : decode cL_law 1481 = .ok (.iaload, 1) := by decide +kernel
theorem dL_law_1482 : decode cL_law 1482 = .ok (.invokevirtual 180, 3) := by decide +kernel
theorem dL_law_1485 : decode cL_law 1485 = .ok (.istore 6, 2) := by decide +kernel
theorem dL_law_1487 : decode cL_law 1487 = .ok (.aload_n 2, 1) := by decide +kernel
theorem dL_law_1488 : decode cL_law 1488 = .ok (.invokevirtual 113, 3) := by decide +kernel
theorem dL_law_1491 : decode cL_law 1491 = .ok (.iload 5, 2) := by decide +kernel
theorem dL_law_1493 : decode cL_law 1493 = .ok (.if_icmp .eq 5, 3) := by decide +kernel
theorem dL_law_1496 : decode cL_law 1496 = .ok (.iconst 0, 1) := by decide +kernel
theorem dL_law_1497 : decode cL_law 1497 = .ok (.ireturn, 1) := by decide +kernel
theorem dL_law_1498 : decode cL_law 1498 = .ok (.iload 5, 2) := by decide +kernel
theorem dL_law_1500 : decode cL_law 1500 = .ok (.ifCond .ne 15, 3) := by decide +kernel
theorem dL_law_1503 : decode cL_law 1503 = .ok (.aload_n 3, 1) := by decide +kernel
theorem dL_law_1504 : decode cL_law 1504 = .ok (.iconst 0, 1) := by decide +kernel
theorem dL_law_1505 : decode cL_law 1505 = .ok (.laload, 1) := by decide +kernel
theorem dL_law_1506 : decode cL_law 1506 = .ok (.iload 6, 2) := by decide +kernel
theorem dL_law_1508 : decode cL_law 1508 = .ok (.i2l, 1) := by decide +kernel
theorem dL_law_1509 : decode cL_law 1509 = .ok (.lcmp, 1) := by decide +kernel
theorem dL_law_1510 : decode cL_law 1510 = .ok (.ifCond .eq 5, 3) := by decide +kernel
theorem dL_law_1513 : decode cL_law 1513 = .ok (.iconst 0, 1) := by decide +kernel
theorem dL_law_1514 : decode cL_law 1514 = .ok (.ireturn, 1) := by decide +kernel
theorem dL_law_1515 : decode cL_law 1515 = .ok (.goto 366, 3) := by decide +kernel
theorem dL_law_1518 : decode cL_law 1518 = .ok (.aload_n 1, 1) := by decide +kernel
theorem dL_law_1519 : decode cL_law 1519 = .ok (.aload_n 0, 1) := by decide +kernel
theorem dL_law_1520 : decode cL_law 1520 = .ok (.iload 4, 2) := by decide +kernel
theorem dL_law_1522 : decode cL_law 1522 = .ok (.iconst 1, 1) := by decide +kernel
theorem dL_law_1523 : decode cL_law 1523 = .ok (.iadd, 1) := by decide +kernel
theorem dL_law_1524 : decode cL_law 1524 = .ok (.iaload, 1) := by decide +kernel
theorem dL_law_1525 : decode cL_law 1525 = .ok (.aload_n 0, 1) := by decide +kernel
theorem dL_law_1526 : decode cL_law 1526 = .ok (.iload 4, 2) := by decide +kernel
theorem dL_law_1528 : decode cL_law 1528 = .ok (.iconst 2, 1) := by decide +kernel
theorem dL_law_1529 : decode cL_law 1529 = .ok (.iadd, 1) := by decide +kernel
theorem dL_law_1530 : decode cL_law 1530 = .ok (.iaload, 1) := by decide +kernel
theorem dL_law_1531 : decode cL_law 1531 = .ok (.aload_n 0, 1) := by decide +kernel
theorem dL_law_1532 : decode cL_law 1532 = .ok (.iload 4, 2) := by decide +kernel
theorem dL_law_1534 : decode cL_law 1534 = .ok (.iconst 3, 1) := by decide +kernel
theorem dL_law_1535 : decode cL_law 1535 = .ok (.iadd, 1) := by decide +kernel
theorem dL_law_1536 : decode cL_law 1536 = .ok (.iaload, 1) := by decide +kernel
theorem dL_law_1537 : decode cL_law 1537 = .ok (.invokestatic 181, 3) := by decide +kernel
theorem dL_law_1540 : decode cL_law 1540 = .ok (.istore 5, 2) := by decide +kernel
theorem dL_law_1542 : decode cL_law 1542 = .ok (.aload_n 2, 1) := by decide +kernel
theorem dL_law_1543 : decode cL_law 1543 = .ok (.aload_n 0, 1) := by decide +kernel
theorem dL_law_1544 : decode cL_law 1544 = .ok (.iload 4, 2) := by decide +kernel
theorem dL_law_1546 : decode cL_law 1546 = .ok (.iconst 1, 1) := by decide +kernel
theorem dL_law_1547 : decode cL_law 1547 = .ok (.iadd, 1) := by decide +kernel
theorem dL_law_1548 : decode cL_law 1548 = .ok (.iaload, 1) := by decide +kernel
theorem dL_law_1549 : decode cL_law 1549 = .ok (.aload_n 0, 1) := by decide +kernel
theorem dL_law_1550 : decode cL_law 1550 = .ok (.iload 4, 2) := by decide +kernel
theorem dL_law_1552 : decode cL_law 1552 = .ok (.iconst 2, 1) := by decide +kernel
theorem dL_law_1553 : decode cL_law 1553 = .ok (.iadd, 1) := by decide +kernel
theorem dL_law_1554 : decode cL_law 1554 = .ok (.iaload, 1) := by decide +kernel
theorem dL_law_1555 : decode cL_law 1555 = .ok (.aload_n 0, 1) := by decide +kernel
theorem dL_law_1556 : decode cL_law 1556 = .ok (.iload 4, 2) := by decide +kernel
theorem dL_law_1558 : decode cL_law 1558 = .ok (.iconst 3, 1) := by decide +kernel
theorem dL_law_1559 : decode cL_law 1559 = .ok (.iadd, 1) := by decide +kernel
theorem dL_law_1560 : decode cL_law 1560 = .ok (.iaload, 1) := by decide +kernel
theorem dL_law_1561 : decode cL_law 1561 = .ok (.invokevirtual 183, 3) := by decide +kernel
theorem dL_law_1564 : decode cL_law 1564 = .ok (.aload_n 2, 1) := by decide +kernel
theorem dL_law_1565 : decode cL_law 1565 = .ok (.invokevirtual 113, 3) := by decide +kernel
theorem dL_law_1568 : decode cL_law 1568 = .ok (.iload 5, 2) := by decide +kernel
theorem dL_law_1570 : decode cL_law 1570 = .ok (.if_icmp .eq 5, 3) := by decide +kernel
theorem dL_law_1573 : decode cL_law 1573 = .ok (.iconst 0, 1) := by decide +kernel
theorem dL_law_1574 : decode cL_law 1574 = .ok (.ireturn, 1) := by decide +kernel
theorem dL_law_1575 : decode cL_law 1575 = .ok (.goto 306, 3) := by decide +kernel
theorem dL_law_1578 : decode cL_law 1578 = .ok (.aload_n 1, 1) := by decide +kernel
theorem dL_law_1579 : decode cL_law 1579 = .ok (.aload_n 0, 1) := by decide +kernel
theorem dL_law_1580 : decode cL_law 1580 = .ok (.iload 4, 2) := by decide +kernel
theorem dL_law_1582 : decode cL_law 1582 = .ok (.iconst 1, 1) := by decide +kernel
theorem dL_law_1583 : decode cL_law 1583 = .ok (.iadd, 1) := by decide +kernel
theorem dL_law_1584 : decode cL_law 1584 = .ok (.iaload, 1) := by decide +kernel
theorem dL_law_1585 : decode cL_law 1585 = .ok (.aload_n 3, 1) := by decide +kernel
theorem dL_law_1586 : decode cL_law 1586 = .ok (.invokestatic 184, 3) := by decide +kernel
theorem dL_law_1589 : decode cL_law 1589 = .ok (.istore 5, 2) := by decide +kernel
theorem dL_law_1591 : decode cL_law 1591 = .ok (.aload_n 2, 1) := by decide +kernel
theorem dL_law_1592 : decode cL_law 1592 = .ok (.aload_n 0, 1) := by decide +kernel
theorem dL_law_1593 : decode cL_law 1593 = .ok (.iload 4, 2) := by decide +kernel
theorem dL_law_1595 : decode cL_law 1595 = .ok (.iconst 1, 1) := by decide +kernel
theorem dL_law_1596 : decode cL_law 1596 = .ok (.iadd, 1) := by decide +kernel
theorem dL_law_1597 : decode cL_law 1597 = .ok (.iaload, 1) := by decide +kernel
theorem dL_law_1598 : decode cL_law 1598 = .ok (.invokevirtual 186, 3) := by decide +kernel
theorem dL_law_1601 : decode cL_law 1601 = .ok (.istore 6, 2) := by decide +kernel
theorem dL_law_1603 : decode cL_law 1603 = .ok (.aload_n 2, 1) := by decide +kernel
theorem dL_law_1604 : decode cL_law 1604 = .ok (.invokevirtual 113, 3) := by decide +kernel
theorem dL_law_1607 : decode cL_law 1607 = .ok (.iload 5, 2) := by decide +kernel
theorem dL_law_1609 : decode cL_law 1609 = .ok (.if_icmp .eq 5, 3) := by decide +kernel
theorem dL_law_1612 : decode cL_law 1612 = .ok (.iconst 0, 1) := by decide +kernel
theorem dL_law_1613 : decode cL_law 1613 = .ok (.ireturn, 1) := by decide +kernel
theorem dL_law_1614 : decode cL_law 1614 = .ok (.iload 5, 2) := by decide +kernel
theorem dL_law_1616 : decode cL_law 1616 = .ok (.ifCond .ne 15, 3) := by decide +kernel
theorem dL_law_1619 : decode cL_law 1619 = .ok (.aload_n 3, 1) := by decide +kernel
theorem dL_law_1620 : decode cL_law 1620 = .ok (.iconst 0, 1) := by decide +kernel
theorem dL_law_1621 : decode cL_law 1621 = .ok (.laload, 1) := by decide +kernel
theorem dL_law_1622 : decode cL_law 1622 = .ok (.iload 6, 2) := by decide +kernel
theorem dL_law_1624 : decode cL_law 1624 = .ok (.i2l, 1) := by decide +kernel
theorem dL_law_1625 : decode cL_law 1625 = .ok (.lcmp, 1) := by decide +kernel
theorem dL_law_1626 : decode cL_law 1626 = .ok (.ifCond .eq 5, 3) := by decide +kernel
theorem dL_law_1629 : decode cL_law 1629 = .ok (.iconst 0, 1) := by decide +kernel
theorem dL_law_1630 : decode cL_law 1630 = .ok (.ireturn, 1) := by decide +kernel
theorem dL_law_1631 : decode cL_law 1631 = .ok (.goto 250, 3) := by decide +kernel
theorem dL_law_1634 : decode cL_law 1634 = .ok (.aload_n 1, 1) := by decide +kernel
theorem dL_law_1635 : decode cL_law 1635 = .ok (.aload_n 0, 1) := by decide +kernel
theorem dL_law_1636 : decode cL_law 1636 = .ok (.iload 4, 2) := by decide +kernel
theorem dL_law_1638 : decode cL_law 1638 = .ok (.iconst 1, 1) := by decide +kernel
theorem dL_law_1639 : decode cL_law 1639 = .ok (.iadd, 1) := by decide +kernel
theorem dL_law_1640 : decode cL_law 1640 = .ok (.iaload, 1) := by decide +kernel
theorem dL_law_1641 : decode cL_law 1641 = .ok (.aload_n 3, 1) := by decide +kernel
theorem dL_law_1642 : decode cL_law 1642 = .ok (.invokestatic 187, 3) := by decide +kernel
theorem dL_law_1645 : decode cL_law 1645 = .ok (.istore 5, 2) := by decide +kernel
theorem dL_law_1647 : decode cL_law 1647 = .ok (.aload_n 2, 1) := by decide +kernel
theorem dL_law_1648 : decode cL_law 1648 = .ok (.aload_n 0, 1) := by decide +kernel
theorem dL_law_1649 : decode cL_law 1649 = .ok (.iload 4, 2) := by decide +kernel
theorem dL_law_1651 : decode cL_law 1651 = .ok (.iconst 1, 1) := by decide +kernel
theorem dL_law_1652 : decode cL_law 1652 = .ok (.iadd, 1) := by decide +kernel
theorem dL_law_1653 : decode cL_law 1653 = .ok (.iaload, 1) := by decide +kernel
theorem dL_law_1654 : decode cL_law 1654 = .ok (.invokevirtual 189, 3) := by decide +kernel
theorem dL_law_1657 : decode cL_law 1657 = .ok (.istore 6, 2) := by decide +kernel
theorem dL_law_1659 : decode cL_law 1659 = .ok (.aload_n 2, 1) := by decide +kernel
theorem dL_law_1660 : decode cL_law 1660 = .ok (.invokevirtual 113, 3) := by decide +kernel
theorem dL_law_1663 : decode cL_law 1663 = .ok (.iload 5, 2) := by decide +kernel
theorem dL_law_1665 : decode cL_law 1665 = .ok (.if_icmp .eq 5, 3) := by decide +kernel
theorem dL_law_1668 : decode cL_law 1668 = .ok (.iconst 0, 1) := by decide +kernel
theorem dL_law_1669 : decode cL_law 1669 = .ok (.ireturn, 1) := by decide +kernel
theorem dL_law_1670 : decode cL_law 1670 = .ok (.iload 5, 2) := by decide +kernel
theorem dL_law_1672 : decode cL_law 1672 = .ok (.ifCond .ne 15, 3) := by decide +kernel
theorem dL_law_1675 : decode cL_law 1675 = .ok (.aload_n 3, 1) := by decide +kernel
theorem dL_law_1676 : decode cL_law 1676 = .ok (.iconst 0, 1) := by decide +kernel
theorem dL_law_1677 : decode cL_law 1677 = .ok (.laload, 1) := by decide +kernel
theorem dL_law_1678 : decode cL_law 1678 = .ok (.iload 6, 2) := by decide +kernel
theorem dL_law_1680 : decode cL_law 1680 = .ok (.i2l, 1) := by decide +kernel
theorem dL_law_1681 : decode cL_law 1681 = .ok (.lcmp, 1) := by decide +kernel
theorem dL_law_1682 : decode cL_law 1682 = .ok (.ifCond .eq 5, 3) := by decide +kernel
theorem dL_law_1685 : decode cL_law 1685 = .ok (.iconst 0, 1) := by decide +kernel
theorem dL_law_1686 : decode cL_law 1686 = .ok (.ireturn, 1) := by decide +kernel
theorem dL_law_1687 : decode cL_law 1687 = .ok (.goto 194, 3) := by decide +kernel
theorem dL_law_1690 : decode cL_law 1690 = .ok (.aload_n 1, 1) := by decide +kernel
theorem dL_law_1691 : decode cL_law 1691 = .ok (.aload_n 0, 1) := by decide +kernel
theorem dL_law_1692 : decode cL_law 1692 = .ok (.iload 4, 2) := by decide +kernel
theorem dL_law_1694 : decode cL_law 1694 = .ok (.iconst 1, 1) := by decide +kernel
theorem dL_law_1695 : decode cL_law 1695 = .ok (.iadd, 1) := by decide +kernel
theorem dL_law_1696 : decode cL_law 1696 = .ok (.iaload, 1) := by decide +kernel
theorem dL_law_1697 : decode cL_law 1697 = .ok (.aload_n 3, 1) := by decide +kernel
theorem dL_law_1698 : decode cL_law 1698 = .ok (.invokestatic 190, 3) := by decide +kernel
theorem dL_law_1701 : decode cL_law 1701 = .ok (.istore 5, 2) := by decide +kernel
theorem dL_law_1703 : decode cL_law 1703 = .ok (.aload_n 2, 1) := by decide +kernel
theorem dL_law_1704 : decode cL_law 1704 = .ok (.aload_n 0, 1) := by decide +kernel
theorem dL_law_1705 : decode cL_law 1705 = .ok (.iload 4, 2) := by decide +kernel
theorem dL_law_1707 : decode cL_law 1707 = .ok (.iconst 1, 1) := by decide +kernel
theorem dL_law_1708 : decode cL_law 1708 = .ok (.iadd, 1) := by decide +kernel
theorem dL_law_1709 : decode cL_law 1709 = .ok (.iaload, 1) := by decide +kernel
theorem dL_law_1710 : decode cL_law 1710 = .ok (.invokevirtual 192, 3) := by decide +kernel
theorem dL_law_1713 : decode cL_law 1713 = .ok (.lstore 6, 2) := by decide +kernel
theorem dL_law_1715 : decode cL_law 1715 = .ok (.aload_n 2, 1) := by decide +kernel
theorem dL_law_1716 : decode cL_law 1716 = .ok (.invokevirtual 113, 3) := by decide +kernel
theorem dL_law_1719 : decode cL_law 1719 = .ok (.iload 5, 2) := by decide +kernel
theorem dL_law_1721 : decode cL_law 1721 = .ok (.if_icmp .eq 5, 3) := by decide +kernel
theorem dL_law_1724 : decode cL_law 1724 = .ok (.iconst 0, 1) := by decide +kernel
theorem dL_law_1725 : decode cL_law 1725 = .ok (.ireturn, 1) := by decide +kernel
theorem dL_law_1726 : decode cL_law 1726 = .ok (.iload 5, 2) := by decide +kernel
theorem dL_law_1728 : decode cL_law 1728 = .ok (.ifCond .ne 14, 3) := by decide +kernel
theorem dL_law_1731 : decode cL_law 1731 = .ok (.aload_n 3, 1) := by decide +kernel
theorem dL_law_1732 : decode cL_law 1732 = .ok (.iconst 0, 1) := by decide +kernel
theorem dL_law_1733 : decode cL_law 1733 = .ok (.laload, 1) := by decide +kernel
theorem dL_law_1734 : decode cL_law 1734 = .ok (.lload 6, 2) := by decide +kernel
theorem dL_law_1736 : decode cL_law 1736 = .ok (.lcmp, 1) := by decide +kernel
theorem dL_law_1737 : decode cL_law 1737 = .ok (.ifCond .eq 5, 3) := by decide +kernel
theorem dL_law_1740 : decode cL_law 1740 = .ok (.iconst 0, 1) := by decide +kernel
theorem dL_law_1741 : decode cL_law 1741 = .ok (.ireturn, 1) := by decide +kernel
theorem dL_law_1742 : decode cL_law 1742 = .ok (.goto 139, 3) := by decide +kernel
theorem dL_law_1745 : decode cL_law 1745 = .ok (.aload_n 1, 1) := by decide +kernel
theorem dL_law_1746 : decode cL_law 1746 = .ok (.aload_n 0, 1) := by decide +kernel
theorem dL_law_1747 : decode cL_law 1747 = .ok (.iload 4, 2) := by decide +kernel
theorem dL_law_1749 : decode cL_law 1749 = .ok (.iconst 1, 1) := by decide +kernel
theorem dL_law_1750 : decode cL_law 1750 = .ok (.iadd, 1) := by decide +kernel
theorem dL_law_1751 : decode cL_law 1751 = .ok (.iaload, 1) := by decide +kernel
theorem dL_law_1752 : decode cL_law 1752 = .ok (.aload_n 3, 1) := by decide +kernel
theorem dL_law_1753 : decode cL_law 1753 = .ok (.invokestatic 193, 3) := by decide +kernel
theorem dL_law_1756 : decode cL_law 1756 = .ok (.istore 5, 2) := by decide +kernel
theorem dL_law_1758 : decode cL_law 1758 = .ok (.aload_n 2, 1) := by decide +kernel
theorem dL_law_1759 : decode cL_law 1759 = .ok (.aload_n 0, 1) := by decide +kernel
theorem dL_law_1760 : decode cL_law 1760 = .ok (.iload 4, 2) := by decide +kernel
theorem dL_law_1762 : decode cL_law 1762 = .ok (.iconst 1, 1) := by decide +kernel
theorem dL_law_1763 : decode cL_law 1763 = .ok (.iadd, 1) := by decide +kernel
theorem dL_law_1764 : decode cL_law 1764 = .ok (.iaload, 1) := by decide +kernel
theorem dL_law_1765 : decode cL_law 1765 = .ok (.invokevirtual 195, 3) := by decide +kernel
theorem dL_law_1768 : decode cL_law 1768 = .ok (.istore 6, 2) := by decide +kernel
theorem dL_law_1770 : decode cL_law 1770 = .ok (.aload_n 2, 1) := by decide +kernel
theorem dL_law_1771 : decode cL_law 1771 = .ok (.invokevirtual 113, 3) := by decide +kernel
theorem dL_law_1774 : decode cL_law 1774 = .ok (.iload 5, 2) := by decide +kernel
theorem dL_law_1776 : decode cL_law 1776 = .ok (.if_icmp .eq 5, 3) := by decide +kernel
theorem dL_law_1779 : decode cL_law 1779 = .ok (.iconst 0, 1) := by decide +kernel
theorem dL_law_1780 : decode cL_law 1780 = .ok (.ireturn, 1) := by decide +kernel
theorem dL_law_1781 : decode cL_law 1781 = .ok (.iload 5, 2) := by decide +kernel
theorem dL_law_1783 : decode cL_law 1783 = .ok (.ifCond .ne 15, 3) := by decide +kernel
theorem dL_law_1786 : decode cL_law 1786 = .ok (.aload_n 3, 1) := by decide +kernel
theorem dL_law_1787 : decode cL_law 1787 = .ok (.iconst 0, 1) := by decide +kernel
theorem dL_law_1788 : decode cL_law 1788 = .ok (.laload, 1) := by decide +kernel
theorem dL_law_1789 : decode cL_law 1789 = .ok (.iload 6, 2) := by decide +kernel
theorem dL_law_1791 : decode cL_law 1791 = .ok (.i2l, 1) := by decide +kernel
theorem dL_law_1792 : decode cL_law 1792 = .ok (.lcmp, 1) := by decide +kernel
theorem dL_law_1793 : decode cL_law 1793 = .ok (.ifCond .eq 5, 3) := by decide +kernel
theorem dL_law_1796 : decode cL_law 1796 = .ok (.iconst 0, 1) := by decide +kernel
theorem dL_law_1797 : decode cL_law 1797 = .ok (.ireturn, 1) := by decide +kernel
theorem dL_law_1798 : decode cL_law 1798 = .ok (.goto 83, 3) := by decide +kernel
theorem dL_law_1801 : decode cL_law 1801 = .ok (.aload_n 1, 1) := by decide +kernel
theorem dL_law_1802 : decode cL_law 1802 = .ok (.aload_n 0, 1) := by decide +kernel
theorem dL_law_1803 : decode cL_law 1803 = .ok (.iload 4, 2) := by decide +kernel
theorem dL_law_1805 : decode cL_law 1805 = .ok (.iconst 1, 1) := by decide +kernel
theorem dL_law_1806 : decode cL_law 1806 = .ok (.iadd, 1) := by decide +kernel
theorem dL_law_1807 : decode cL_law 1807 = .ok (.iaload, 1) := by decide +kernel
theorem dL_law_1808 : decode cL_law 1808 = .ok (.aload_n 0, 1) := by decide +kernel
theorem dL_law_1809 : decode cL_law 1809 = .ok (.iload 4, 2) := by decide +kernel
theorem dL_law_1811 : decode cL_law 1811 = .ok (.iconst 2, 1) := by decide +kernel
theorem dL_law_1812 : decode cL_law 1812 = .ok (.iadd, 1) := by decide +kernel
theorem dL_law_1813 : decode cL_law 1813 = .ok (.iaload, 1) := by decide +kernel
theorem dL_law_1814 : decode cL_law 1814 = .ok (.aload_n 0, 1) := by decide +kernel
theorem dL_law_1815 : decode cL_law 1815 = .ok (.iload 4, 2) := by decide +kernel
theorem dL_law_1817 : decode cL_law 1817 = .ok (.iconst 3, 1) := by decide +kernel
theorem dL_law_1818 : decode cL_law 1818 = .ok (.iadd, 1) := by decide +kernel
theorem dL_law_1819 : decode cL_law 1819 = .ok (.iaload, 1) := by decide +kernel
theorem dL_law_1820 : decode cL_law 1820 = .ok (.aload_n 3, 1) := by decide +kernel
theorem dL_law_1821 : decode cL_law 1821 = .ok (.invokestatic 196, 3) := by decide +kernel
theorem dL_law_1824 : decode cL_law 1824 = .ok (.istore 5, 2) := by decide +kernel
theorem dL_law_1826 : decode cL_law 1826 = .ok (.aload_n 2, 1) := by decide +kernel
theorem dL_law_1827 : decode cL_law 1827 = .ok (.aload_n 0, 1) := by decide +kernel
theorem dL_law_1828 : decode cL_law 1828 = .ok (.iload 4, 2) := by decide +kernel
theorem dL_law_1830 : decode cL_law 1830 = .ok (.iconst 1, 1) := by decide +kernel
theorem dL_law_1831 : decode cL_law 1831 = .ok (.iadd, 1) := by decide +kernel
theorem dL_law_1832 : decode cL_law 1832 = .ok (.iaload, 1) := by decide +kernel
theorem dL_law_1833 : decode cL_law 1833 = .ok (.aload_n 0, 1) := by decide +kernel
theorem dL_law_1834 : decode cL_law 1834 = .ok (.iload 4, 2) := by decide +kernel
theorem dL_law_1836 : decode cL_law 1836 = .ok (.iconst 2, 1) := by decide +kernel
theorem dL_law_1837 : decode cL_law 1837 = .ok (.iadd, 1) := by decide +kernel
theorem dL_law_1838 : decode cL_law 1838 = .ok (.iaload, 1) := by decide +kernel
theorem dL_law_1839 : decode cL_law 1839 = .ok (.aload_n 0, 1) := by decide +kernel
theorem dL_law_1840 : decode cL_law 1840 = .ok (.iload 4, 2) := by decide +kernel
theorem dL_law_1842 : decode cL_law 1842 = .ok (.iconst 3, 1) := by decide +kernel
theorem dL_law_1843 : decode cL_law 1843 = .ok (.iadd, 1) := by decide +kernel
theorem dL_law_1844 : decode cL_law 1844 = .ok (.iaload, 1) := by decide +kernel
theorem dL_law_1845 : decode cL_law 1845 = .ok (.invokevirtual 198, 3) := by decide +kernel
theorem dL_law_1848 : decode cL_law 1848 = .ok (.istore 6, 2) := by decide +kernel
theorem dL_law_1850 : decode cL_law 1850 = .ok (.aload_n 2, 1) := by decide +kernel
theorem dL_law_1851 : decode cL_law 1851 = .ok (.invokevirtual 113, 3) := by decide +kernel
theorem dL_law_1854 : decode cL_law 1854 = .ok (.iload 5, 2) := by decide +kernel
theorem dL_law_1856 : decode cL_law 1856 = .ok (.if_icmp .eq 5, 3) := by decide +kernel
theorem dL_law_1859 : decode cL_law 1859 = .ok (.iconst 0, 1) := by decide +kernel
theorem dL_law_1860 : decode cL_law 1860 = .ok (.ireturn, 1) := by decide +kernel
theorem dL_law_1861 : decode cL_law 1861 = .ok (.iload 5, 2) := by decide +kernel
theorem dL_law_1863 : decode cL_law 1863 = .ok (.ifCond .ne 15, 3) := by decide +kernel
theorem dL_law_1866 : decode cL_law 1866 = .ok (.aload_n 3, 1) := by decide +kernel
theorem dL_law_1867 : decode cL_law 1867 = .ok (.iconst 0, 1) := by decide +kernel
theorem dL_law_1868 : decode cL_law 1868 = .ok (.laload, 1) := by decide +kernel
theorem dL_law_1869 : decode cL_law 1869 = .ok (.iload 6, 2) := by decide +kernel
theorem dL_law_1871 : decode cL_law 1871 = .ok (.i2l, 1) := by decide +kernel
theorem dL_law_1872 : decode cL_law 1872 = .ok (.lcmp, 1) := by decide +kernel
theorem dL_law_1873 : decode cL_law 1873 = .ok (.ifCond .eq 5, 3) := by decide +kernel
theorem dL_law_1876 : decode cL_law 1876 = .ok (.iconst 0, 1) := by decide +kernel
theorem dL_law_1877 : decode cL_law 1877 = .ok (.ireturn, 1) := by decide +kernel
theorem dL_law_1878 : decode cL_law 1878 = .ok (.goto 3, 3) := by decide +kernel
theorem dL_law_1881 : decode cL_law 1881 = .ok (.iinc 4 6, 3) := by decide +kernel
theorem dL_law_1884 : decode cL_law 1884 = .ok (.goto (-1861), 3) := by decide +kernel
theorem dL_law_1887 : decode cL_law 1887 = .ok (.iconst 1, 1) := by decide +kernel
theorem dL_law_1888 : decode cL_law 1888 = .ok (.ireturn, 1) := by decide +kernel
abbrev vwCl : List vw_C := [(RX0, TX0, 15), (RX1, TX1, 10), (RX2, TX2, 9), (RX3, TX3, 12), (RX4, TX4, 5), (RX5, TX5, 2), (RX6, TX6, 42)]
