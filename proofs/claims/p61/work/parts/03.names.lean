/-! ===== BEGIN printed: names, fields ===== -/
def RX0 : String := "Rankhall$Console"
def TX0 : u_T := fun k => match k with
  | 0 => ("Rankhall$Console", "knobs", "Ljava/util/ArrayList;", true)
  | 1 => ("Rankhall$Console", "isTutti", "Z", false)
  | 2 => ("Rankhall$Console", "crescendo", "I", false)
  | 3 => ("Rankhall$Console", "operations", "[C", true)
  | 4 => ("Rankhall$Console", "sources", "[I", true)
  | 5 => ("Rankhall$Console", "others", "[I", true)
  | _ => ("Rankhall$Console", "relaysOn", "[Z", true)
def tyX0 : Nat → FieldType := fun k => match k with
  | 0 => .object "java/util/ArrayList"
  | 1 => .boolean
  | 2 => .int
  | 3 => .array .char
  | 4 => .array .int
  | 5 => .array .int
  | _ => .array .boolean
abbrev wsX00 : List Cond := u_ws RX0 TX0 7
theorem nmX0 : ∀ a, a < 7 → ∀ b, b < 7 → a ≠ b → (TX0 a).2.1 ≠ (TX0 b).2.1 := by decide +kernel
theorem tyX0_ok : ∀ k, k < 7 → parseFieldDescriptor (TX0 k).2.2.1 = some (tyX0 k) := by decide +kernel
abbrev cX0_init : ByteArray := prog_2_method_1_code
def yX0_init : MethodName := ⟨RX0, "<init>", "()V"⟩
abbrev cX0_knobAt : ByteArray := prog_2_method_2_code
def yX0_knobAt : MethodName := ⟨RX0, "knobAt", "(I)LRankhall$Knob;"⟩
abbrev cX0_countsAsDrawn : ByteArray := prog_2_method_3_code
def yX0_countsAsDrawn : MethodName := ⟨RX0, "countsAsDrawn", "(LRankhall$Knob;)Z"⟩
abbrev cX0_isSounding : ByteArray := prog_2_method_4_code
def yX0_isSounding : MethodName := ⟨RX0, "isSounding", "(LRankhall$Knob;)Z"⟩
abbrev cX0_trembles : ByteArray := prog_2_method_5_code
def yX0_trembles : MethodName := ⟨RX0, "trembles", "(I)Z"⟩
abbrev cX0_isWay : ByteArray := prog_2_method_6_code
def yX0_isWay : MethodName := ⟨RX0, "isWay", "(LRankhall$Knob;)Z"⟩
abbrev cX0_waysOf : ByteArray := prog_2_method_7_code
def yX0_waysOf : MethodName := ⟨RX0, "waysOf", "(IILRankhall$Keys;I)I"⟩
abbrev cX0_isSource : ByteArray := prog_2_method_8_code
def yX0_isSource : MethodName := ⟨RX0, "isSource", "(II)Z"⟩
abbrev cX0_putWires : ByteArray := prog_2_method_9_code
def yX0_putWires : MethodName := ⟨RX0, "putWires", "(ICII)V"⟩
abbrev cX0_isRelayOn : ByteArray := prog_2_method_10_code
def yX0_isRelayOn : MethodName := ⟨RX0, "isRelayOn", "(I)Z"⟩
abbrev cX0_findRelays : ByteArray := prog_2_method_11_code
def yX0_findRelays : MethodName := ⟨RX0, "findRelays", "(LRankhall$Keys;)V"⟩
abbrev cX0_combines : ByteArray := prog_2_method_12_code
def yX0_combines : MethodName := ⟨RX0, "combines", "(CZZ)Z"⟩
abbrev cX0_isSourceOn : ByteArray := prog_2_method_13_code
def yX0_isSourceOn : MethodName := ⟨RX0, "isSourceOn", "(ILRankhall$Keys;)Z"⟩
abbrev cX0_allKnobs : ByteArray := prog_2_method_14_code
def yX0_allKnobs : MethodName := ⟨RX0, "allKnobs", "()J"⟩
abbrev cX0_knobsInScope : ByteArray := prog_2_method_15_code
def yX0_knobsInScope : MethodName := ⟨RX0, "knobsInScope", "()J"⟩
abbrev cX0_stopsOf : ByteArray := prog_2_method_16_code
def yX0_stopsOf : MethodName := ⟨RX0, "stopsOf", "(I)J"⟩
abbrev cX0_drawnAmong : ByteArray := prog_2_method_17_code
def yX0_drawnAmong : MethodName := ⟨RX0, "drawnAmong", "(J)J"⟩
abbrev cX0_moveTo : ByteArray := prog_2_method_18_code
def yX0_moveTo : MethodName := ⟨RX0, "moveTo", "(JJ)I"⟩
def RX1 : String := "Rankhall$Continuo"
def TX1 : u_T := fun k => match k with
  | 0 => ("Rankhall$Continuo", "tonic", "I", false)
  | 1 => ("Rankhall$Continuo", "isMajor", "Z", false)
  | 2 => ("Rankhall$Continuo", "hasChord", "Z", false)
  | 3 => ("Rankhall$Continuo", "chord", "[I", true)
  | 4 => ("Rankhall$Continuo", "trial", "[I", true)
  | 5 => ("Rankhall$Continuo", "best", "[I", true)
  | 6 => ("Rankhall$Continuo", "bestBad", "I", false)
  | _ => ("Rankhall$Continuo", "bestWay", "I", false)
def tyX1 : Nat → FieldType := fun k => match k with
  | 0 => .int
  | 1 => .boolean
  | 2 => .boolean
  | 3 => .array .int
  | 4 => .array .int
  | 5 => .array .int
  | 6 => .int
  | _ => .int
abbrev wsX10 : List Cond := u_ws RX1 TX1 8
theorem nmX1 : ∀ a, a < 8 → ∀ b, b < 8 → a ≠ b → (TX1 a).2.1 ≠ (TX1 b).2.1 := by decide +kernel
theorem tyX1_ok : ∀ k, k < 8 → parseFieldDescriptor (TX1 k).2.2.1 = some (tyX1 k) := by decide +kernel
abbrev cX1_init : ByteArray := prog_3_method_1_code
def yX1_init : MethodName := ⟨RX1, "<init>", "()V"⟩
abbrev cX1_stepsOf : ByteArray := prog_3_method_3_code
def yX1_stepsOf : MethodName := ⟨RX1, "stepsOf", "(C)[I"⟩
abbrev cX1_degreeOf : ByteArray := prog_3_method_4_code
def yX1_degreeOf : MethodName := ⟨RX1, "degreeOf", "(I)I"⟩
abbrev cX1_choose : ByteArray := prog_3_method_5_code
def yX1_choose : MethodName := ⟨RX1, "choose", "(I[I)I"⟩
abbrev cX1_asks : ByteArray := prog_3_method_6_code
def yX1_asks : MethodName := ⟨RX1, "asks", "(I[II)Z"⟩
abbrev cX1_areApart : ByteArray := prog_3_method_7_code
def yX1_areApart : MethodName := ⟨RX1, "areApart", "(III)Z"⟩
abbrev cX1_weigh : ByteArray := prog_3_method_8_code
def yX1_weigh : MethodName := ⟨RX1, "weigh", "(III)V"⟩
abbrev cX1_way : ByteArray := prog_3_method_9_code
def yX1_way : MethodName := ⟨RX1, "way", "(III)I"⟩
abbrev cX1_badSteps : ByteArray := prog_3_method_10_code
def yX1_badSteps : MethodName := ⟨RX1, "badSteps", "()I"⟩
abbrev cX1_isBadStep : ByteArray := prog_3_method_11_code
def yX1_isBadStep : MethodName := ⟨RX1, "isBadStep", "(II)Z"⟩
abbrev cX1_keyOf : ByteArray := prog_3_method_12_code
def yX1_keyOf : MethodName := ⟨RX1, "keyOf", "(I)I"⟩
abbrev cX1_isOfChord : ByteArray := prog_3_method_13_code
def yX1_isOfChord : MethodName := ⟨RX1, "isOfChord", "(II)Z"⟩
def RX2 : String := "Rankhall$Coupler"
def TX2 : u_T := fun k => match k with
  | 0 => ("Rankhall$Coupler", "from", "I", true)
  | 1 => ("Rankhall$Coupler", "to", "I", true)
  | 2 => ("Rankhall$Coupler", "shift", "I", true)
  | _ => ("Rankhall$Coupler", "kind", "C", true)
def tyX2 : Nat → FieldType := fun k => match k with
  | 0 => .int
  | 1 => .int
  | 2 => .int
  | _ => .char
abbrev wsX20 : List Cond := u_ws RX2 TX2 4
theorem nmX2 : ∀ a, a < 4 → ∀ b, b < 4 → a ≠ b → (TX2 a).2.1 ≠ (TX2 b).2.1 := by decide +kernel
theorem tyX2_ok : ∀ k, k < 4 → parseFieldDescriptor (TX2 k).2.2.1 = some (tyX2 k) := by decide +kernel
abbrev cX2_init : ByteArray := prog_4_method_1_code
def yX2_init : MethodName := ⟨RX2, "<init>", "(IIIC)V"⟩
abbrev cX2_takes : ByteArray := prog_4_method_2_code
def yX2_takes : MethodName := ⟨RX2, "takes", "(ILRankhall$Keys;I)Z"⟩
def RX3 : String := "Rankhall$Keys"
def TX3 : u_T := fun k => match k with
  | 0 => ("Rankhall$Keys", "pressed", "[Z", true)
  | 1 => ("Rankhall$Keys", "pressedAt", "[I", true)
  | 2 => ("Rankhall$Keys", "lowest", "[I", true)
  | 3 => ("Rankhall$Keys", "highest", "[I", true)
  | _ => ("Rankhall$Keys", "lastPressedAt", "I", false)
def tyX3 : Nat → FieldType := fun k => match k with
  | 0 => .array .boolean
  | 1 => .array .int
  | 2 => .array .int
  | 3 => .array .int
  | _ => .int
abbrev wsX30 : List Cond := u_ws RX3 TX3 5
theorem nmX3 : ∀ a, a < 5 → ∀ b, b < 5 → a ≠ b → (TX3 a).2.1 ≠ (TX3 b).2.1 := by decide +kernel
theorem tyX3_ok : ∀ k, k < 5 → parseFieldDescriptor (TX3 k).2.2.1 = some (tyX3 k) := by decide +kernel
abbrev cX3_init : ByteArray := prog_5_method_1_code
def yX3_init : MethodName := ⟨RX3, "<init>", "()V"⟩
abbrev cX3_countOf : ByteArray := prog_5_method_2_code
def yX3_countOf : MethodName := ⟨RX3, "countOf", "(I)I"⟩
abbrev cX3_indexOf : ByteArray := prog_5_method_3_code
def yX3_indexOf : MethodName := ⟨RX3, "indexOf", "(II)I"⟩
abbrev cX3_isPressed : ByteArray := prog_5_method_4_code
def yX3_isPressed : MethodName := ⟨RX3, "isPressed", "(II)Z"⟩
abbrev cX3_tickOf : ByteArray := prog_5_method_5_code
def yX3_tickOf : MethodName := ⟨RX3, "tickOf", "(II)I"⟩
abbrev cX3_lowestOf : ByteArray := prog_5_method_6_code
def yX3_lowestOf : MethodName := ⟨RX3, "lowestOf", "(I)I"⟩
abbrev cX3_highestOf : ByteArray := prog_5_method_7_code
def yX3_highestOf : MethodName := ⟨RX3, "highestOf", "(I)I"⟩
abbrev cX3_isAnyPressed : ByteArray := prog_5_method_8_code
def yX3_isAnyPressed : MethodName := ⟨RX3, "isAnyPressed", "()Z"⟩
abbrev cX3_put : ByteArray := prog_5_method_9_code
def yX3_put : MethodName := ⟨RX3, "put", "(IIZI)Z"⟩
abbrev cX3_firstPressed : ByteArray := prog_5_method_10_code
def yX3_firstPressed : MethodName := ⟨RX3, "firstPressed", "(III)I"⟩
def RX4 : String := "Rankhall$Knob"
def TX4 : u_T := fun k => match k with
  | 0 => ("Rankhall$Knob", "kind", "C", true)
  | 1 => ("Rankhall$Knob", "division", "I", true)
  | 2 => ("Rankhall$Knob", "stop", "LRankhall$Stop;", true)
  | 3 => ("Rankhall$Knob", "coupler", "LRankhall$Coupler;", true)
  | 4 => ("Rankhall$Knob", "isOut", "Z", false)
  | 5 => ("Rankhall$Knob", "isLocked", "Z", false)
  | 6 => ("Rankhall$Knob", "isInScope", "Z", false)
  | _ => ("Rankhall$Knob", "relay", "I", false)
def tyX4 : Nat → FieldType := fun k => match k with
  | 0 => .char
  | 1 => .int
  | 2 => .object "Rankhall$Stop"
  | 3 => .object "Rankhall$Coupler"
  | 4 => .boolean
  | 5 => .boolean
  | 6 => .boolean
  | _ => .int
abbrev wsX40 : List Cond := u_ws RX4 TX4 8
theorem nmX4 : ∀ a, a < 8 → ∀ b, b < 8 → a ≠ b → (TX4 a).2.1 ≠ (TX4 b).2.1 := by decide +kernel
theorem tyX4_ok : ∀ k, k < 8 → parseFieldDescriptor (TX4 k).2.2.1 = some (tyX4 k) := by decide +kernel
abbrev cX4_init : ByteArray := prog_6_method_1_code
def yX4_init : MethodName := ⟨RX4, "<init>", "(CILRankhall$Stop;LRankhall$Coupler;)V"⟩
def RX5 : String := "Rankhall$Memory"
def TX5 : u_T := fun k => match k with
  | 0 => ("Rankhall$Memory", "guest", "I", false)
  | 1 => ("Rankhall$Memory", "level", "I", false)
  | 2 => ("Rankhall$Memory", "next", "I", false)
  | 3 => ("Rankhall$Memory", "isSet", "[Z", true)
  | 4 => ("Rankhall$Memory", "kept", "[J", true)
  | 5 => ("Rankhall$Memory", "drawn", "[J", true)
  | 6 => ("Rankhall$Memory", "reversibles", "[I", true)
  | 7 => ("Rankhall$Memory", "owners", "[I", true)
  | 8 => ("Rankhall$Memory", "frameCounts", "[I", true)
  | 9 => ("Rankhall$Memory", "frameKept", "[J", true)
  | _ => ("Rankhall$Memory", "frameDrawn", "[J", true)
def tyX5 : Nat → FieldType := fun k => match k with
  | 0 => .int
  | 1 => .int
  | 2 => .int
  | 3 => .array .boolean
  | 4 => .array .long
  | 5 => .array .long
  | 6 => .array .int
  | 7 => .array .int
  | 8 => .array .int
  | 9 => .array .long
  | _ => .array .long
abbrev wsX50 : List Cond := u_ws RX5 TX5 11
theorem nmX5 : ∀ a, a < 11 → ∀ b, b < 11 → a ≠ b → (TX5 a).2.1 ≠ (TX5 b).2.1 := by decide +kernel
theorem tyX5_ok : ∀ k, k < 11 → parseFieldDescriptor (TX5 k).2.2.1 = some (tyX5 k) := by decide +kernel
abbrev cX5_init : ByteArray := prog_7_method_1_code
def yX5_init : MethodName := ⟨RX5, "<init>", "()V"⟩
abbrev cX5_isClaimed : ByteArray := prog_7_method_4_code
def yX5_isClaimed : MethodName := ⟨RX5, "isClaimed", "()Z"⟩
abbrev cX5_isClaimedByAnother : ByteArray := prog_7_method_5_code
def yX5_isClaimedByAnother : MethodName := ⟨RX5, "isClaimedByAnother", "()Z"⟩
abbrev cX5_placeOf : ByteArray := prog_7_method_7_code
def yX5_placeOf : MethodName := ⟨RX5, "placeOf", "(II)I"⟩
abbrev cX5_indexOf : ByteArray := prog_7_method_8_code
def yX5_indexOf : MethodName := ⟨RX5, "indexOf", "(I)I"⟩
abbrev cX5_keep : ByteArray := prog_7_method_9_code
def yX5_keep : MethodName := ⟨RX5, "keep", "(IJJ)V"⟩
abbrev cX5_isKept : ByteArray := prog_7_method_10_code
def yX5_isKept : MethodName := ⟨RX5, "isKept", "(I)Z"⟩
abbrev cX5_keptBy : ByteArray := prog_7_method_11_code
def yX5_keptBy : MethodName := ⟨RX5, "keptBy", "(I)J"⟩
abbrev cX5_drawnBy : ByteArray := prog_7_method_12_code
def yX5_drawnBy : MethodName := ⟨RX5, "drawnBy", "(I)J"⟩
abbrev cX5_reversibleKnob : ByteArray := prog_7_method_13_code
def yX5_reversibleKnob : MethodName := ⟨RX5, "reversibleKnob", "(I)I"⟩
abbrev cX5_keepReversible : ByteArray := prog_7_method_14_code
def yX5_keepReversible : MethodName := ⟨RX5, "keepReversible", "(II)V"⟩
abbrev cX5_frames : ByteArray := prog_7_method_15_code
def yX5_frames : MethodName := ⟨RX5, "frames", "()I"⟩
abbrev cX5_insertFrame : ByteArray := prog_7_method_16_code
def yX5_insertFrame : MethodName := ⟨RX5, "insertFrame", "(IJJ)V"⟩
abbrev cX5_keptByFrame : ByteArray := prog_7_method_18_code
def yX5_keptByFrame : MethodName := ⟨RX5, "keptByFrame", "(I)J"⟩
abbrev cX5_drawnByFrame : ByteArray := prog_7_method_19_code
def yX5_drawnByFrame : MethodName := ⟨RX5, "drawnByFrame", "(I)J"⟩
def RX6 : String := "Rankhall$Pipe"
def TX6 : u_T := fun k => match k with
  | 0 => ("Rankhall$Pipe", "found", "I", false)
  | 1 => ("Rankhall$Pipe", "isHeld", "Z", false)
  | 2 => ("Rankhall$Pipe", "isWanted", "Z", false)
  | 3 => ("Rankhall$Pipe", "changedAt", "I", false)
  | 4 => ("Rankhall$Pipe", "isOpened", "Z", false)
  | 5 => ("Rankhall$Pipe", "closedAt", "I", false)
  | 6 => ("Rankhall$Pipe", "fault", "C", false)
  | 7 => ("Rankhall$Pipe", "tuning", "I", false)
  | 8 => ("Rankhall$Pipe", "isSpeaking", "Z", false)
  | 9 => ("Rankhall$Pipe", "begins", "I", false)
  | _ => ("Rankhall$Pipe", "ends", "I", false)
def tyX6 : Nat → FieldType := fun k => match k with
  | 0 => .int
  | 1 => .boolean
  | 2 => .boolean
  | 3 => .int
  | 4 => .boolean
  | 5 => .int
  | 6 => .char
  | 7 => .int
  | 8 => .boolean
  | 9 => .int
  | _ => .int
abbrev wsX60 : List Cond := u_ws RX6 TX6 11
theorem nmX6 : ∀ a, a < 11 → ∀ b, b < 11 → a ≠ b → (TX6 a).2.1 ≠ (TX6 b).2.1 := by decide +kernel
theorem tyX6_ok : ∀ k, k < 11 → parseFieldDescriptor (TX6 k).2.2.1 = some (tyX6 k) := by decide +kernel
abbrev cX6_init : ByteArray := prog_8_method_1_code
def yX6_init : MethodName := ⟨RX6, "<init>", "()V"⟩
abbrev cX6_allReasons : ByteArray := prog_8_method_2_code
def yX6_allReasons : MethodName := ⟨RX6, "allReasons", "()I"⟩
abbrev cX6_isBlown : ByteArray := prog_8_method_3_code
def yX6_isBlown : MethodName := ⟨RX6, "isBlown", "()Z"⟩
abbrev cX6_movePallet : ByteArray := prog_8_method_4_code
def yX6_movePallet : MethodName := ⟨RX6, "movePallet", "(III)V"⟩
def RX7 : String := "Rankhall$Rank"
def TX7 : u_T := fun k => match k with
  | 0 => ("Rankhall$Rank", "lowest", "I", true)
  | 1 => ("Rankhall$Rank", "division", "I", true)
  | 2 => ("Rankhall$Rank", "pipes", "[LRankhall$Pipe;", true)
  | 3 => ("Rankhall$Rank", "use", "I", false)
  | 4 => ("Rankhall$Rank", "delay", "I", false)
  | 5 => ("Rankhall$Rank", "rest", "I", false)
  | 6 => ("Rankhall$Rank", "power", "I", false)
  | _ => ("Rankhall$Rank", "heatNumber", "I", false)
def tyX7 : Nat → FieldType := fun k => match k with
  | 0 => .int
  | 1 => .int
  | 2 => .array (.object "Rankhall$Pipe")
  | 3 => .int
  | 4 => .int
  | 5 => .int
  | 6 => .int
  | _ => .int
abbrev wsX70 : List Cond := u_ws RX7 TX7 8
theorem nmX7 : ∀ a, a < 8 → ∀ b, b < 8 → a ≠ b → (TX7 a).2.1 ≠ (TX7 b).2.1 := by decide +kernel
theorem tyX7_ok : ∀ k, k < 8 → parseFieldDescriptor (TX7 k).2.2.1 = some (tyX7 k) := by decide +kernel
abbrev cX7_init : ByteArray := prog_9_method_1_code
def yX7_init : MethodName := ⟨RX7, "<init>", "(III)V"⟩
abbrev cX7_pipeOf : ByteArray := prog_9_method_2_code
def yX7_pipeOf : MethodName := ⟨RX7, "pipeOf", "(I)LRankhall$Pipe;"⟩
abbrev cX7_trials : ByteArray := prog_9_method_3_code
def yX7_trials : MethodName := ⟨RX7, "trials", "()I"⟩
abbrev cX7_trialsInside : ByteArray := prog_9_method_4_code
def yX7_trialsInside : MethodName := ⟨RX7, "trialsInside", "([LRankhall$Pipe;III)I"⟩
abbrev cX7_hasFault : ByteArray := prog_9_method_5_code
def yX7_hasFault : MethodName := ⟨RX7, "hasFault", "([LRankhall$Pipe;II)Z"⟩
def RX8 : String := "Rankhall$Stop"
def TX8 : u_T := fun k => match k with
  | 0 => ("Rankhall$Stop", "stage", "I", false)
  | 1 => ("Rankhall$Stop", "rows", "I", false)
  | 2 => ("Rankhall$Stop", "ranks", "[I", true)
  | 3 => ("Rankhall$Stop", "offsets", "[I", true)
  | 4 => ("Rankhall$Stop", "firsts", "[I", true)
  | 5 => ("Rankhall$Stop", "lasts", "[I", true)
  | 6 => ("Rankhall$Stop", "places", "[I", true)
  | _ => ("Rankhall$Stop", "keysAt", "[I", true)
def tyX8 : Nat → FieldType := fun k => match k with
  | 0 => .int
  | 1 => .int
  | 2 => .array .int
  | 3 => .array .int
  | 4 => .array .int
  | 5 => .array .int
  | 6 => .array .int
  | _ => .array .int
abbrev wsX80 : List Cond := u_ws RX8 TX8 8
theorem nmX8 : ∀ a, a < 8 → ∀ b, b < 8 → a ≠ b → (TX8 a).2.1 ≠ (TX8 b).2.1 := by decide +kernel
theorem tyX8_ok : ∀ k, k < 8 → parseFieldDescriptor (TX8 k).2.2.1 = some (tyX8 k) := by decide +kernel
abbrev cX8_init : ByteArray := prog_10_method_1_code
def yX8_init : MethodName := ⟨RX8, "<init>", "()V"⟩
abbrev cX8_addRow : ByteArray := prog_10_method_2_code
def yX8_addRow : MethodName := ⟨RX8, "addRow", "(IIII)Z"⟩
abbrev cX8_changePlaces : ByteArray := prog_10_method_3_code
def yX8_changePlaces : MethodName := ⟨RX8, "changePlaces", "(II)V"⟩
abbrev cX8_placeOf : ByteArray := prog_10_method_4_code
def yX8_placeOf : MethodName := ⟨RX8, "placeOf", "(I)I"⟩
abbrev cX8_putPlace : ByteArray := prog_10_method_5_code
def yX8_putPlace : MethodName := ⟨RX8, "putPlace", "(II)V"⟩
abbrev cX8_displaced : ByteArray := prog_10_method_6_code
def yX8_displaced : MethodName := ⟨RX8, "displaced", "()I"⟩
abbrev cX8_hasRow : ByteArray := prog_10_method_7_code
def yX8_hasRow : MethodName := ⟨RX8, "hasRow", "(I)Z"⟩
abbrev cX8_rankOf : ByteArray := prog_10_method_8_code
def yX8_rankOf : MethodName := ⟨RX8, "rankOf", "(I)I"⟩
abbrev cX8_noteOf : ByteArray := prog_10_method_9_code
def yX8_noteOf : MethodName := ⟨RX8, "noteOf", "(II)I"⟩
abbrev cX8_keyOf : ByteArray := prog_10_method_10_code
def yX8_keyOf : MethodName := ⟨RX8, "keyOf", "(II)I"⟩
def RX9 : String := "Rankhall$Tape"
def TX9 : u_T := fun k => match k with
  | 0 => ("Rankhall$Tape", "recording", "C", false)
  | 1 => ("Rankhall$Tape", "kind", "C", false)
  | 2 => ("Rankhall$Tape", "size", "I", false)
  | 3 => ("Rankhall$Tape", "startedAt", "I", false)
  | _ => ("Rankhall$Tape", "entries", "[I", false)
def tyX9 : Nat → FieldType := fun k => match k with
  | 0 => .char
  | 1 => .char
  | 2 => .int
  | 3 => .int
  | _ => .array .int
abbrev wsX90 : List Cond := u_ws RX9 TX9 5
theorem nmX9 : ∀ a, a < 5 → ∀ b, b < 5 → a ≠ b → (TX9 a).2.1 ≠ (TX9 b).2.1 := by decide +kernel
theorem tyX9_ok : ∀ k, k < 5 → parseFieldDescriptor (TX9 k).2.2.1 = some (tyX9 k) := by decide +kernel
abbrev cX9_init : ByteArray := prog_11_method_1_code
def yX9_init : MethodName := ⟨RX9, "<init>", "()V"⟩
abbrev cX9_start : ByteArray := prog_11_method_2_code
def yX9_start : MethodName := ⟨RX9, "start", "(CI)V"⟩
abbrev cX9_keepKey : ByteArray := prog_11_method_3_code
def yX9_keepKey : MethodName := ⟨RX9, "keepKey", "(IIZI)V"⟩
abbrev cX9_keepPipe : ByteArray := prog_11_method_4_code
def yX9_keepPipe : MethodName := ⟨RX9, "keepPipe", "(IIZI)V"⟩
abbrev cX9_keepEntry : ByteArray := prog_11_method_5_code
def yX9_keepEntry : MethodName := ⟨RX9, "keepEntry", "(IZI)V"⟩
abbrev cX9_entryAt : ByteArray := prog_11_method_6_code
def yX9_entryAt : MethodName := ⟨RX9, "entryAt", "(I)I"⟩
abbrev cX9_highCodeAt : ByteArray := prog_11_method_7_code
def yX9_highCodeAt : MethodName := ⟨RX9, "highCodeAt", "(I)I"⟩
abbrev cX9_lowCodeAt : ByteArray := prog_11_method_8_code
def yX9_lowCodeAt : MethodName := ⟨RX9, "lowCodeAt", "(I)I"⟩
abbrev cX9_isOnAt : ByteArray := prog_11_method_9_code
def yX9_isOnAt : MethodName := ⟨RX9, "isOnAt", "(I)Z"⟩
abbrev cX9_ticksBefore : ByteArray := prog_11_method_10_code
def yX9_ticksBefore : MethodName := ⟨RX9, "ticksBefore", "(I)I"⟩
def RX10 : String := "Rankhall$Works"
def TX10 : u_T := fun k => match k with
  | 0 => ("Rankhall$Works", "keys", "LRankhall$Keys;", true)
  | 1 => ("Rankhall$Works", "console", "LRankhall$Console;", true)
  | 2 => ("Rankhall$Works", "tape", "LRankhall$Tape;", true)
  | 3 => ("Rankhall$Works", "ranks", "Ljava/util/ArrayList;", true)
  | 4 => ("Rankhall$Works", "now", "I", false)
  | 5 => ("Rankhall$Works", "speakers", "I", false)
  | 6 => ("Rankhall$Works", "allBegins", "I", false)
  | 7 => ("Rankhall$Works", "allEnds", "J", false)
  | 8 => ("Rankhall$Works", "heat", "I", false)
  | 9 => ("Rankhall$Works", "supplies", "[I", true)
  | 10 => ("Rankhall$Works", "winds", "[I", true)
  | 11 => ("Rankhall$Works", "openings", "[I", true)
  | 12 => ("Rankhall$Works", "temperings", "[I", true)
  | 13 => ("Rankhall$Works", "uses", "[I", true)
  | 14 => ("Rankhall$Works", "ways", "[I", true)
  | _ => ("Rankhall$Works", "isWaiting", "Z", false)
def tyX10 : Nat → FieldType := fun k => match k with
  | 0 => .object "Rankhall$Keys"
  | 1 => .object "Rankhall$Console"
  | 2 => .object "Rankhall$Tape"
  | 3 => .object "java/util/ArrayList"
  | 4 => .int
  | 5 => .int
  | 6 => .int
  | 7 => .long
  | 8 => .int
  | 9 => .array .int
  | 10 => .array .int
  | 11 => .array .int
  | 12 => .array .int
  | 13 => .array .int
  | 14 => .array .int
  | _ => .boolean
abbrev wsX100 : List Cond := u_ws RX10 TX10 16
theorem nmX10 : ∀ a, a < 16 → ∀ b, b < 16 → a ≠ b → (TX10 a).2.1 ≠ (TX10 b).2.1 := by decide +kernel
theorem tyX10_ok : ∀ k, k < 16 → parseFieldDescriptor (TX10 k).2.2.1 = some (tyX10 k) := by decide +kernel
abbrev cX10_init : ByteArray := prog_12_method_1_code
def yX10_init : MethodName := ⟨RX10, "<init>", "()V"⟩
abbrev cX10_rankAt : ByteArray := prog_12_method_2_code
def yX10_rankAt : MethodName := ⟨RX10, "rankAt", "(I)LRankhall$Rank;"⟩
abbrev cX10_pipeAt : ByteArray := prog_12_method_3_code
def yX10_pipeAt : MethodName := ⟨RX10, "pipeAt", "(II)LRankhall$Pipe;"⟩
abbrev cX10_settle : ByteArray := prog_12_method_4_code
def yX10_settle : MethodName := ⟨RX10, "settle", "()V"⟩
abbrev cX10_passTicks : ByteArray := prog_12_method_5_code
def yX10_passTicks : MethodName := ⟨RX10, "passTicks", "(I)V"⟩
abbrev cX10_passIdly : ByteArray := prog_12_method_6_code
def yX10_passIdly : MethodName := ⟨RX10, "passIdly", "()V"⟩
abbrev cX10_windless : ByteArray := prog_12_method_7_code
def yX10_windless : MethodName := ⟨RX10, "windless", "()I"⟩
abbrev cX10_forgetReasons : ByteArray := prog_12_method_8_code
def yX10_forgetReasons : MethodName := ⟨RX10, "forgetReasons", "()V"⟩
abbrev cX10_findWays : ByteArray := prog_12_method_9_code
def yX10_findWays : MethodName := ⟨RX10, "findWays", "()V"⟩
abbrev cX10_findReasons : ByteArray := prog_12_method_10_code
def yX10_findReasons : MethodName := ⟨RX10, "findReasons", "()V"⟩
abbrev cX10_addReasons : ByteArray := prog_12_method_11_code
def yX10_addReasons : MethodName := ⟨RX10, "addReasons", "(LRankhall$Stop;I)V"⟩
abbrev cX10_reasonsAlone : ByteArray := prog_12_method_12_code
def yX10_reasonsAlone : MethodName := ⟨RX10, "reasonsAlone", "(II)I"⟩
abbrev cX10_movePallets : ByteArray := prog_12_method_13_code
def yX10_movePallets : MethodName := ⟨RX10, "movePallets", "()V"⟩
abbrev cX10_findWinds : ByteArray := prog_12_method_14_code
def yX10_findWinds : MethodName := ⟨RX10, "findWinds", "()V"⟩
abbrev cX10_findSpeech : ByteArray := prog_12_method_15_code
def yX10_findSpeech : MethodName := ⟨RX10, "findSpeech", "()V"⟩
abbrev cX10_pressKey : ByteArray := prog_12_method_16_code
def yX10_pressKey : MethodName := ⟨RX10, "pressKey", "(IIZ)V"⟩
abbrev cX10_releaseAll : ByteArray := prog_12_method_17_code
def yX10_releaseAll : MethodName := ⟨RX10, "releaseAll", "()I"⟩
abbrev cX10_pressChord : ByteArray := prog_12_method_18_code
def yX10_pressChord : MethodName := ⟨RX10, "pressChord", "(LRankhall$Continuo;)V"⟩
abbrev cX10_hold : ByteArray := prog_12_method_19_code
def yX10_hold : MethodName := ⟨RX10, "hold", "(IIZ)V"⟩
abbrev cX10_holdNone : ByteArray := prog_12_method_20_code
def yX10_holdNone : MethodName := ⟨RX10, "holdNone", "()V"⟩
abbrev cX10_pitchOf : ByteArray := prog_12_method_21_code
def yX10_pitchOf : MethodName := ⟨RX10, "pitchOf", "(II)I"⟩
abbrev cX10_sumOfPitches : ByteArray := prog_12_method_22_code
def yX10_sumOfPitches : MethodName := ⟨RX10, "sumOfPitches", "()I"⟩
abbrev cX10_allLoudness : ByteArray := prog_12_method_23_code
def yX10_allLoudness : MethodName := ⟨RX10, "allLoudness", "()I"⟩
abbrev cX10_allPipes : ByteArray := prog_12_method_24_code
def yX10_allPipes : MethodName := ⟨RX10, "allPipes", "()I"⟩
abbrev cX10_isConsistent : ByteArray := prog_12_method_25_code
def yX10_isConsistent : MethodName := ⟨RX10, "isConsistent", "()Z"⟩
def RX11 : String := "Rankhall"
def TX11 : u_T := fun k => match k with
  | 0 => ("Rankhall", "works", "LRankhall$Works;", true)
  | 1 => ("Rankhall", "keys", "LRankhall$Keys;", true)
  | 2 => ("Rankhall", "console", "LRankhall$Console;", true)
  | 3 => ("Rankhall", "tape", "LRankhall$Tape;", true)
  | 4 => ("Rankhall", "memory", "LRankhall$Memory;", true)
  | _ => ("Rankhall", "continuo", "LRankhall$Continuo;", true)
def tyX11 : Nat → FieldType := fun k => match k with
  | 0 => .object "Rankhall$Works"
  | 1 => .object "Rankhall$Keys"
  | 2 => .object "Rankhall$Console"
  | 3 => .object "Rankhall$Tape"
  | 4 => .object "Rankhall$Memory"
  | _ => .object "Rankhall$Continuo"
abbrev wsX110 : List Cond := u_ws RX11 TX11 6
theorem nmX11 : ∀ a, a < 6 → ∀ b, b < 6 → a ≠ b → (TX11 a).2.1 ≠ (TX11 b).2.1 := by decide +kernel
theorem tyX11_ok : ∀ k, k < 6 → parseFieldDescriptor (TX11 k).2.2.1 = some (tyX11 k) := by decide +kernel
abbrev cX11_init : ByteArray := prog_1_method_1_code
def yX11_init : MethodName := ⟨RX11, "<init>", "()V"⟩
abbrev cX11_rank : ByteArray := prog_1_method_2_code
def yX11_rank : MethodName := ⟨RX11, "rank", "(IIIIIII)I"⟩
abbrev cX11_stop : ByteArray := prog_1_method_3_code
def yX11_stop : MethodName := ⟨RX11, "stop", "(I)I"⟩
abbrev cX11_row : ByteArray := prog_1_method_4_code
def yX11_row : MethodName := ⟨RX11, "row", "(IIIII)I"⟩
abbrev cX11_cross : ByteArray := prog_1_method_5_code
def yX11_cross : MethodName := ⟨RX11, "cross", "(III)I"⟩
abbrev cX11_coupler : ByteArray := prog_1_method_6_code
def yX11_coupler : MethodName := ⟨RX11, "coupler", "(IIIC)I"⟩
abbrev cX11_tremulant : ByteArray := prog_1_method_7_code
def yX11_tremulant : MethodName := ⟨RX11, "tremulant", "(I)I"⟩
abbrev cX11_draw : ByteArray := prog_1_method_8_code
def yX11_draw : MethodName := ⟨RX11, "draw", "(IZ)Z"⟩
abbrev cX11_isDrawn : ByteArray := prog_1_method_9_code
def yX11_isDrawn : MethodName := ⟨RX11, "isDrawn", "(I)Z"⟩
abbrev cX11_isOn : ByteArray := prog_1_method_10_code
def yX11_isOn : MethodName := ⟨RX11, "isOn", "(I)Z"⟩
abbrev cX11_lock : ByteArray := prog_1_method_11_code
def yX11_lock : MethodName := ⟨RX11, "lock", "(IZ)Z"⟩
abbrev cX11_stage : ByteArray := prog_1_method_12_code
def yX11_stage : MethodName := ⟨RX11, "stage", "(II)I"⟩
abbrev cX11_crescendo : ByteArray := prog_1_method_13_code
def yX11_crescendo : MethodName := ⟨RX11, "crescendo", "(I)I"⟩
abbrev cX11_tutti : ByteArray := prog_1_method_14_code
def yX11_tutti : MethodName := ⟨RX11, "tutti", "(Z)Z"⟩
abbrev cX11_key : ByteArray := prog_1_method_15_code
def yX11_key : MethodName := ⟨RX11, "key", "(IIZ)Z"⟩
abbrev cX11_isDown : ByteArray := prog_1_method_16_code
def yX11_isDown : MethodName := ⟨RX11, "isDown", "(II)Z"⟩
abbrev cX11_lift : ByteArray := prog_1_method_17_code
def yX11_lift : MethodName := ⟨RX11, "lift", "()I"⟩
abbrev cX11_pass : ByteArray := prog_1_method_18_code
def yX11_pass : MethodName := ⟨RX11, "pass", "(I)I"⟩
abbrev cX11_reasons : ByteArray := prog_1_method_19_code
def yX11_reasons : MethodName := ⟨RX11, "reasons", "(II)I"⟩
abbrev cX11_reasonsAnew : ByteArray := prog_1_method_20_code
def yX11_reasonsAnew : MethodName := ⟨RX11, "reasonsAnew", "(II)I"⟩
abbrev cX11_isOpen : ByteArray := prog_1_method_21_code
def yX11_isOpen : MethodName := ⟨RX11, "isOpen", "(II)Z"⟩
abbrev cX11_speaks : ByteArray := prog_1_method_22_code
def yX11_speaks : MethodName := ⟨RX11, "speaks", "(II)Z"⟩
abbrev cX11_speaking : ByteArray := prog_1_method_23_code
def yX11_speaking : MethodName := ⟨RX11, "speaking", "()I"⟩
abbrev cX11_begun : ByteArray := prog_1_method_24_code
def yX11_begun : MethodName := ⟨RX11, "begun", "(II)I"⟩
abbrev cX11_ended : ByteArray := prog_1_method_25_code
def yX11_ended : MethodName := ⟨RX11, "ended", "()J"⟩
abbrev cX11_supply : ByteArray := prog_1_method_26_code
def yX11_supply : MethodName := ⟨RX11, "supply", "(II)I"⟩
abbrev cX11_wind : ByteArray := prog_1_method_27_code
def yX11_wind : MethodName := ⟨RX11, "wind", "(I)I"⟩
abbrev cX11_box : ByteArray := prog_1_method_28_code
def yX11_box : MethodName := ⟨RX11, "box", "(II)I"⟩
abbrev cX11_loudness : ByteArray := prog_1_method_29_code
def yX11_loudness : MethodName := ⟨RX11, "loudness", "()I"⟩
abbrev cX11_tune : ByteArray := prog_1_method_31_code
def yX11_tune : MethodName := ⟨RX11, "tune", "(III)I"⟩
abbrev cX11_tuneTo : ByteArray := prog_1_method_32_code
def yX11_tuneTo : MethodName := ⟨RX11, "tuneTo", "(IIII)I"⟩
abbrev cX11_pitch : ByteArray := prog_1_method_34_code
def yX11_pitch : MethodName := ⟨RX11, "pitch", "(II)I"⟩
abbrev cX11_fault : ByteArray := prog_1_method_35_code
def yX11_fault : MethodName := ⟨RX11, "fault", "(IIC)C"⟩
abbrev cX11_hunt : ByteArray := prog_1_method_36_code
def yX11_hunt : MethodName := ⟨RX11, "hunt", "(I)I"⟩
abbrev cX11_scope : ByteArray := prog_1_method_40_code
def yX11_scope : MethodName := ⟨RX11, "scope", "(IZ)Z"⟩
abbrev cX11_set : ByteArray := prog_1_method_41_code
def yX11_set : MethodName := ⟨RX11, "set", "(II)I"⟩
abbrev cX11_push : ByteArray := prog_1_method_42_code
def yX11_push : MethodName := ⟨RX11, "push", "(II)I"⟩
abbrev cX11_setReversible : ByteArray := prog_1_method_43_code
def yX11_setReversible : MethodName := ⟨RX11, "setReversible", "(II)I"⟩
abbrev cX11_pushReversible : ByteArray := prog_1_method_44_code
def yX11_pushReversible : MethodName := ⟨RX11, "pushReversible", "(I)Z"⟩
abbrev cX11_step : ByteArray := prog_1_method_45_code
def yX11_step : MethodName := ⟨RX11, "step", "()I"⟩
abbrev cX11_frame : ByteArray := prog_1_method_46_code
def yX11_frame : MethodName := ⟨RX11, "frame", "(I)I"⟩
abbrev cX11_turnTo : ByteArray := prog_1_method_48_code
def yX11_turnTo : MethodName := ⟨RX11, "turnTo", "(I)I"⟩
abbrev cX11_wire : ByteArray := prog_1_method_49_code
def yX11_wire : MethodName := ⟨RX11, "wire", "(ICII)Z"⟩
abbrev cX11_isOnRelay : ByteArray := prog_1_method_50_code
def yX11_isOnRelay : MethodName := ⟨RX11, "isOnRelay", "(I)Z"⟩
abbrev cX11_drive : ByteArray := prog_1_method_51_code
def yX11_drive : MethodName := ⟨RX11, "drive", "(II)I"⟩
abbrev cX11_record : ByteArray := prog_1_method_52_code
def yX11_record : MethodName := ⟨RX11, "record", "(C)C"⟩
abbrev cX11_recorded : ByteArray := prog_1_method_53_code
def yX11_recorded : MethodName := ⟨RX11, "recorded", "()I"⟩
abbrev cX11_playBack : ByteArray := prog_1_method_54_code
def yX11_playBack : MethodName := ⟨RX11, "playBack", "()I"⟩
abbrev cX11_realise : ByteArray := prog_1_method_56_code
def yX11_realise : MethodName := ⟨RX11, "realise", "(IC)I"⟩
abbrev cX11_speakingShare : ByteArray := prog_1_method_57_code
def yX11_speakingShare : MethodName := ⟨RX11, "speakingShare", "()F"⟩
abbrev cX11_meanPitch : ByteArray := prog_1_method_58_code
def yX11_meanPitch : MethodName := ⟨RX11, "meanPitch", "()D"⟩
abbrev cX11_isTrue : ByteArray := prog_1_method_59_code
def yX11_isTrue : MethodName := ⟨RX11, "isTrue", "()Z"⟩
abbrev cX11_isDivision : ByteArray := prog_1_method_60_code
def yX11_isDivision : MethodName := ⟨RX11, "isDivision", "(I)Z"⟩
abbrev cX11_needDivision : ByteArray := prog_1_method_61_code
def yX11_needDivision : MethodName := ⟨RX11, "needDivision", "(I)V"⟩
abbrev cX11_needKey : ByteArray := prog_1_method_62_code
def yX11_needKey : MethodName := ⟨RX11, "needKey", "(II)V"⟩
abbrev cX11_needRange : ByteArray := prog_1_method_63_code
def yX11_needRange : MethodName := ⟨RX11, "needRange", "(III)V"⟩
abbrev cX11_needRelay : ByteArray := prog_1_method_64_code
def yX11_needRelay : MethodName := ⟨RX11, "needRelay", "(I)V"⟩
abbrev cX11_needReversible : ByteArray := prog_1_method_65_code
def yX11_needReversible : MethodName := ⟨RX11, "needReversible", "(I)V"⟩
abbrev cX11_needPiston : ByteArray := prog_1_method_66_code
def yX11_needPiston : MethodName := ⟨RX11, "needPiston", "(II)I"⟩
abbrev cX11_needFrame : ByteArray := prog_1_method_67_code
def yX11_needFrame : MethodName := ⟨RX11, "needFrame", "(I)V"⟩
abbrev cX11_needOwnLevel : ByteArray := prog_1_method_68_code
def yX11_needOwnLevel : MethodName := ⟨RX11, "needOwnLevel", "()V"⟩
abbrev cX11_needRoomForKnob : ByteArray := prog_1_method_69_code
def yX11_needRoomForKnob : MethodName := ⟨RX11, "needRoomForKnob", "()V"⟩
abbrev cX11_needKnob : ByteArray := prog_1_method_70_code
def yX11_needKnob : MethodName := ⟨RX11, "needKnob", "(I)LRankhall$Knob;"⟩
abbrev cX11_needStop : ByteArray := prog_1_method_71_code
def yX11_needStop : MethodName := ⟨RX11, "needStop", "(LRankhall$Knob;)LRankhall$Stop;"⟩
abbrev cX11_needRank : ByteArray := prog_1_method_72_code
def yX11_needRank : MethodName := ⟨RX11, "needRank", "(I)LRankhall$Rank;"⟩
abbrev cX11_needPipe : ByteArray := prog_1_method_73_code
def yX11_needPipe : MethodName := ⟨RX11, "needPipe", "(II)LRankhall$Pipe;"⟩
abbrev cX11_addKnob : ByteArray := prog_1_method_74_code
def yX11_addKnob : MethodName := ⟨RX11, "addKnob", "(LRankhall$Knob;)I"⟩
abbrev cX11_moveKnobs : ByteArray := prog_1_method_75_code
def yX11_moveKnobs : MethodName := ⟨RX11, "moveKnobs", "(JJ)I"⟩
def RX12 : String := "RankhallModel$Keeping"
def TX12 : u_T := fun k => match k with
  | _ => ("", "", "", false)
def tyX12 : Nat → FieldType := fun k => match k with
  | _ => .int
abbrev wsX120 : List Cond := u_ws RX12 TX12 0
theorem nmX12 : ∀ a, a < 0 → ∀ b, b < 0 → a ≠ b → (TX12 a).2.1 ≠ (TX12 b).2.1 := by decide +kernel
theorem tyX12_ok : ∀ k, k < 0 → parseFieldDescriptor (TX12 k).2.2.1 = some (tyX12 k) := by decide +kernel
def RX13 : String := "RankhallModel$Kept"
def TX13 : u_T := fun k => match k with
  | _ => ("", "", "", false)
def tyX13 : Nat → FieldType := fun k => match k with
  | _ => .int
abbrev wsX130 : List Cond := u_ws RX13 TX13 0
theorem nmX13 : ∀ a, a < 0 → ∀ b, b < 0 → a ≠ b → (TX13 a).2.1 ≠ (TX13 b).2.1 := by decide +kernel
theorem tyX13_ok : ∀ k, k < 0 → parseFieldDescriptor (TX13 k).2.2.1 = some (tyX13 k) := by decide +kernel
def RX14 : String := "RankhallModel$Knob"
def TX14 : u_T := fun k => match k with
  | _ => ("", "", "", false)
def tyX14 : Nat → FieldType := fun k => match k with
  | _ => .int
abbrev wsX140 : List Cond := u_ws RX14 TX14 0
theorem nmX14 : ∀ a, a < 0 → ∀ b, b < 0 → a ≠ b → (TX14 a).2.1 ≠ (TX14 b).2.1 := by decide +kernel
theorem tyX14_ok : ∀ k, k < 0 → parseFieldDescriptor (TX14 k).2.2.1 = some (tyX14 k) := by decide +kernel
def RX15 : String := "RankhallModel$Rank"
def TX15 : u_T := fun k => match k with
  | _ => ("", "", "", false)
def tyX15 : Nat → FieldType := fun k => match k with
  | _ => .int
abbrev wsX150 : List Cond := u_ws RX15 TX15 0
theorem nmX15 : ∀ a, a < 0 → ∀ b, b < 0 → a ≠ b → (TX15 a).2.1 ≠ (TX15 b).2.1 := by decide +kernel
theorem tyX15_ok : ∀ k, k < 0 → parseFieldDescriptor (TX15 k).2.2.1 = some (tyX15 k) := by decide +kernel
def RX16 : String := "RankhallModel"
def TX16 : u_T := fun k => match k with
  | _ => ("", "", "", false)
def tyX16 : Nat → FieldType := fun k => match k with
  | _ => .int
abbrev wsX160 : List Cond := u_ws RX16 TX16 0
theorem nmX16 : ∀ a, a < 0 → ∀ b, b < 0 → a ≠ b → (TX16 a).2.1 ≠ (TX16 b).2.1 := by decide +kernel
theorem tyX16_ok : ∀ k, k < 0 → parseFieldDescriptor (TX16 k).2.2.1 = some (tyX16 k) := by decide +kernel
def RJx145de : String := "java/io/Serializable"
def TJx145de : u_T := fun k => match k with
  | _ => ("", "", "", false)
def tyJx145de : Nat → FieldType := fun k => match k with
  | _ => .int
abbrev wsJx145de0 : List Cond := u_ws RJx145de TJx145de 0
theorem nmJx145de : ∀ a, a < 0 → ∀ b, b < 0 → a ≠ b → (TJx145de a).2.1 ≠ (TJx145de b).2.1 := by decide +kernel
theorem tyJx145de_ok : ∀ k, k < 0 → parseFieldDescriptor (TJx145de k).2.2.1 = some (tyJx145de k) := by decide +kernel
def RJx00060 : String := "java/lang/ArrayIndexOutOfBoundsException"
def TJx00060 : u_T := fun k => match k with
  | 0 => ("java/lang/Throwable", "backtrace", "Ljava/lang/Object;", false)
  | 1 => ("java/lang/Throwable", "detailMessage", "Ljava/lang/String;", false)
  | 2 => ("java/lang/Throwable", "cause", "Ljava/lang/Throwable;", false)
  | 3 => ("java/lang/Throwable", "stackTrace", "[Ljava/lang/StackTraceElement;", false)
  | 4 => ("java/lang/Throwable", "depth", "I", false)
  | _ => ("java/lang/Throwable", "suppressedExceptions", "Ljava/util/List;", false)
def tyJx00060 : Nat → FieldType := fun k => match k with
  | 0 => .object "java/lang/Object"
  | 1 => .object "java/lang/String"
  | 2 => .object "java/lang/Throwable"
  | 3 => .array (.object "java/lang/StackTraceElement")
  | 4 => .int
  | _ => .object "java/util/List"
abbrev wsJx000600 : List Cond := u_ws RJx00060 TJx00060 6
theorem nmJx00060 : ∀ a, a < 6 → ∀ b, b < 6 → a ≠ b → (TJx00060 a).2.1 ≠ (TJx00060 b).2.1 := by decide +kernel
theorem tyJx00060_ok : ∀ k, k < 6 → parseFieldDescriptor (TJx00060 k).2.2.1 = some (tyJx00060 k) := by decide +kernel
abbrev cJx00060_init_a7421 : ByteArray := prog_21_method_2_code
def yJx00060_init_a7421 : MethodName := ⟨RJx00060, "<init>", "(Ljava/lang/String;)V"⟩
def RJx9f9b0 : String := "java/lang/CharSequence"
def TJx9f9b0 : u_T := fun k => match k with
  | _ => ("", "", "", false)
def tyJx9f9b0 : Nat → FieldType := fun k => match k with
  | _ => .int
abbrev wsJx9f9b00 : List Cond := u_ws RJx9f9b0 TJx9f9b0 0
theorem nmJx9f9b0 : ∀ a, a < 0 → ∀ b, b < 0 → a ≠ b → (TJx9f9b0 a).2.1 ≠ (TJx9f9b0 b).2.1 := by decide +kernel
theorem tyJx9f9b0_ok : ∀ k, k < 0 → parseFieldDescriptor (TJx9f9b0 k).2.2.1 = some (tyJx9f9b0 k) := by decide +kernel
def RJx8e188 : String := "java/lang/Cloneable"
def TJx8e188 : u_T := fun k => match k with
  | _ => ("", "", "", false)
def tyJx8e188 : Nat → FieldType := fun k => match k with
  | _ => .int
abbrev wsJx8e1880 : List Cond := u_ws RJx8e188 TJx8e188 0
theorem nmJx8e188 : ∀ a, a < 0 → ∀ b, b < 0 → a ≠ b → (TJx8e188 a).2.1 ≠ (TJx8e188 b).2.1 := by decide +kernel
theorem tyJx8e188_ok : ∀ k, k < 0 → parseFieldDescriptor (TJx8e188 k).2.2.1 = some (tyJx8e188 k) := by decide +kernel
def RJxb160c : String := "java/lang/Comparable"
def TJxb160c : u_T := fun k => match k with
  | _ => ("", "", "", false)
def tyJxb160c : Nat → FieldType := fun k => match k with
  | _ => .int
abbrev wsJxb160c0 : List Cond := u_ws RJxb160c TJxb160c 0
theorem nmJxb160c : ∀ a, a < 0 → ∀ b, b < 0 → a ≠ b → (TJxb160c a).2.1 ≠ (TJxb160c b).2.1 := by decide +kernel
theorem tyJxb160c_ok : ∀ k, k < 0 → parseFieldDescriptor (TJxb160c k).2.2.1 = some (tyJxb160c k) := by decide +kernel
def RJxab1ab : String := "java/lang/Iterable"
def TJxab1ab : u_T := fun k => match k with
  | _ => ("", "", "", false)
def tyJxab1ab : Nat → FieldType := fun k => match k with
  | _ => .int
abbrev wsJxab1ab0 : List Cond := u_ws RJxab1ab TJxab1ab 0
theorem nmJxab1ab : ∀ a, a < 0 → ∀ b, b < 0 → a ≠ b → (TJxab1ab a).2.1 ≠ (TJxab1ab b).2.1 := by decide +kernel
theorem tyJxab1ab_ok : ∀ k, k < 0 → parseFieldDescriptor (TJxab1ab k).2.2.1 = some (tyJxab1ab k) := by decide +kernel
def RJ13 : String := "java/lang/Long"
def TJ13 : u_T := fun k => match k with
  | _ => ("", "", "", false)
def tyJ13 : Nat → FieldType := fun k => match k with
  | _ => .int
abbrev wsJ130 : List Cond := u_ws RJ13 TJ13 0
theorem nmJ13 : ∀ a, a < 0 → ∀ b, b < 0 → a ≠ b → (TJ13 a).2.1 ≠ (TJ13 b).2.1 := by decide +kernel
theorem tyJ13_ok : ∀ k, k < 0 → parseFieldDescriptor (TJ13 k).2.2.1 = some (tyJ13 k) := by decide +kernel
abbrev cJ13_bitCount_95d88 : ByteArray := prog_30_method_50_code
def yJ13_bitCount_95d88 : MethodName := ⟨RJ13, "bitCount", "(J)I"⟩
def RJ9 : String := "java/lang/Math"
def TJ9 : u_T := fun k => match k with
  | _ => ("", "", "", false)
def tyJ9 : Nat → FieldType := fun k => match k with
  | _ => .int
abbrev wsJ90 : List Cond := u_ws RJ9 TJ9 0
theorem nmJ9 : ∀ a, a < 0 → ∀ b, b < 0 → a ≠ b → (TJ9 a).2.1 ≠ (TJ9 b).2.1 := by decide +kernel
theorem tyJ9_ok : ∀ k, k < 0 → parseFieldDescriptor (TJ9 k).2.2.1 = some (tyJ9 k) := by decide +kernel
abbrev cJ9_abs_0f7a4 : ByteArray := prog_31_method_59_code
def yJ9_abs_0f7a4 : MethodName := ⟨RJ9, "abs", "(I)I"⟩
abbrev cJ9_max_7cf53 : ByteArray := prog_31_method_65_code
def yJ9_max_7cf53 : MethodName := ⟨RJ9, "max", "(II)I"⟩
abbrev cJ9_min_7cf53 : ByteArray := prog_31_method_69_code
def yJ9_min_7cf53 : MethodName := ⟨RJ9, "min", "(II)I"⟩
def RJ0 : String := "java/lang/String"
def TJ0 : u_T := fun k => match k with
  | 0 => ("java/lang/String", "value", "[B", true)
  | _ => ("java/lang/String", "coder", "B", true)
def tyJ0 : Nat → FieldType := fun k => match k with
  | 0 => .array .byte
  | _ => .byte
abbrev wsJ00 : List Cond := u_ws RJ0 TJ0 2
theorem nmJ0 : ∀ a, a < 2 → ∀ b, b < 2 → a ≠ b → (TJ0 a).2.1 ≠ (TJ0 b).2.1 := by decide +kernel
theorem tyJ0_ok : ∀ k, k < 2 → parseFieldDescriptor (TJ0 k).2.2.1 = some (tyJ0 k) := by decide +kernel
abbrev cJ0_charAt_5068e : ByteArray := prog_33_method_56_code
def yJ0_charAt_5068e : MethodName := ⟨RJ0, "charAt", "(I)C"⟩
abbrev cJ0_isLatin1_aae02 : ByteArray := prog_33_method_154_code
def yJ0_isLatin1_aae02 : MethodName := ⟨RJ0, "isLatin1", "()Z"⟩
abbrev cJ0_checkIndex_df160 : ByteArray := prog_33_method_155_code
def yJ0_checkIndex_df160 : MethodName := ⟨RJ0, "checkIndex", "(II)V"⟩
def RJ1 : String := "java/lang/StringLatin1"
def TJ1 : u_T := fun k => match k with
  | _ => ("", "", "", false)
def tyJ1 : Nat → FieldType := fun k => match k with
  | _ => .int
abbrev wsJ10 : List Cond := u_ws RJ1 TJ1 0
theorem nmJ1 : ∀ a, a < 0 → ∀ b, b < 0 → a ≠ b → (TJ1 a).2.1 ≠ (TJ1 b).2.1 := by decide +kernel
theorem tyJ1_ok : ∀ k, k < 0 → parseFieldDescriptor (TJ1 k).2.2.1 = some (tyJ1 k) := by decide +kernel
abbrev cJ1_charAt_3b067 : ByteArray := prog_34_method_2_code
def yJ1_charAt_3b067 : MethodName := ⟨RJ1, "charAt", "([BI)C"⟩
def RJ2 : String := "java/lang/StringUTF16"
def TJ2 : u_T := fun k => match k with
  | _ => ("", "", "", false)
def tyJ2 : Nat → FieldType := fun k => match k with
  | _ => .int
abbrev wsJ20 : List Cond := u_ws RJ2 TJ2 0
theorem nmJ2 : ∀ a, a < 0 → ∀ b, b < 0 → a ≠ b → (TJ2 a).2.1 ≠ (TJ2 b).2.1 := by decide +kernel
theorem tyJ2_ok : ∀ k, k < 0 → parseFieldDescriptor (TJ2 k).2.2.1 = some (tyJ2 k) := by decide +kernel
abbrev cJ2_getChar_3b067 : ByteArray := prog_35_method_5_code
def yJ2_getChar_3b067 : MethodName := ⟨RJ2, "getChar", "([BI)C"⟩
abbrev cJ2_length_9d52b : ByteArray := prog_35_method_6_code
def yJ2_length_9d52b : MethodName := ⟨RJ2, "length", "([B)I"⟩
abbrev cJ2_charAt_3b067 : ByteArray := prog_35_method_83_code
def yJ2_charAt_3b067 : MethodName := ⟨RJ2, "charAt", "([BI)C"⟩
abbrev cJ2_checkIndex_2214a : ByteArray := prog_35_method_91_code
def yJ2_checkIndex_2214a : MethodName := ⟨RJ2, "checkIndex", "(I[B)V"⟩
def RJ10 : String := "java/lang/System"
def TJ10 : u_T := fun k => match k with
  | _ => ("", "", "", false)
def tyJ10 : Nat → FieldType := fun k => match k with
  | _ => .int
abbrev wsJ100 : List Cond := u_ws RJ10 TJ10 0
theorem nmJ10 : ∀ a, a < 0 → ∀ b, b < 0 → a ≠ b → (TJ10 a).2.1 ≠ (TJ10 b).2.1 := by decide +kernel
theorem tyJ10_ok : ∀ k, k < 0 → parseFieldDescriptor (TJ10 k).2.2.1 = some (tyJ10 k) := by decide +kernel
def RJxfd54e : String := "java/lang/constant/Constable"
def TJxfd54e : u_T := fun k => match k with
  | _ => ("", "", "", false)
def tyJxfd54e : Nat → FieldType := fun k => match k with
  | _ => .int
abbrev wsJxfd54e0 : List Cond := u_ws RJxfd54e TJxfd54e 0
theorem nmJxfd54e : ∀ a, a < 0 → ∀ b, b < 0 → a ≠ b → (TJxfd54e a).2.1 ≠ (TJxfd54e b).2.1 := by decide +kernel
theorem tyJxfd54e_ok : ∀ k, k < 0 → parseFieldDescriptor (TJxfd54e k).2.2.1 = some (tyJxfd54e k) := by decide +kernel
def RJx3cf43 : String := "java/lang/constant/ConstantDesc"
def TJx3cf43 : u_T := fun k => match k with
  | _ => ("", "", "", false)
def tyJx3cf43 : Nat → FieldType := fun k => match k with
  | _ => .int
abbrev wsJx3cf430 : List Cond := u_ws RJx3cf43 TJx3cf43 0
theorem nmJx3cf43 : ∀ a, a < 0 → ∀ b, b < 0 → a ≠ b → (TJx3cf43 a).2.1 ≠ (TJx3cf43 b).2.1 := by decide +kernel
theorem tyJx3cf43_ok : ∀ k, k < 0 → parseFieldDescriptor (TJx3cf43 k).2.2.1 = some (tyJx3cf43 k) := by decide +kernel
def RJxa1e45 : String := "java/util/AbstractCollection"
def TJxa1e45 : u_T := fun k => match k with
  | _ => ("", "", "", false)
def tyJxa1e45 : Nat → FieldType := fun k => match k with
  | _ => .int
abbrev wsJxa1e450 : List Cond := u_ws RJxa1e45 TJxa1e45 0
theorem nmJxa1e45 : ∀ a, a < 0 → ∀ b, b < 0 → a ≠ b → (TJxa1e45 a).2.1 ≠ (TJxa1e45 b).2.1 := by decide +kernel
theorem tyJxa1e45_ok : ∀ k, k < 0 → parseFieldDescriptor (TJxa1e45 k).2.2.1 = some (tyJxa1e45 k) := by decide +kernel
abbrev cJxa1e45_init_da8c8 : ByteArray := prog_41_method_1_code
def yJxa1e45_init_da8c8 : MethodName := ⟨RJxa1e45, "<init>", "()V"⟩
def RJxc12de : String := "java/util/AbstractList"
def TJxc12de : u_T := fun k => match k with
  | _ => ("", "", "", false)
def tyJxc12de : Nat → FieldType := fun k => match k with
  | _ => .int
abbrev wsJxc12de0 : List Cond := u_ws RJxc12de TJxc12de 0
theorem nmJxc12de : ∀ a, a < 0 → ∀ b, b < 0 → a ≠ b → (TJxc12de a).2.1 ≠ (TJxc12de b).2.1 := by decide +kernel
theorem tyJxc12de_ok : ∀ k, k < 0 → parseFieldDescriptor (TJxc12de k).2.2.1 = some (tyJxc12de k) := by decide +kernel
abbrev cJxc12de_init_da8c8 : ByteArray := prog_42_method_1_code
def yJxc12de_init_da8c8 : MethodName := ⟨RJxc12de, "<init>", "()V"⟩
def RJx4a65c : String := "java/util/ArrayList"
def TJx4a65c : u_T := fun k => match k with
  | 0 => ("java/util/AbstractList", "modCount", "I", false)
  | 1 => ("java/util/ArrayList", "elementData", "[Ljava/lang/Object;", false)
  | _ => ("java/util/ArrayList", "size", "I", false)
def tyJx4a65c : Nat → FieldType := fun k => match k with
  | 0 => .int
  | 1 => .array (.object "java/lang/Object")
  | _ => .int
abbrev wsJx4a65c0 : List Cond := u_ws RJx4a65c TJx4a65c 3
theorem nmJx4a65c : ∀ a, a < 3 → ∀ b, b < 3 → a ≠ b → (TJx4a65c a).2.1 ≠ (TJx4a65c b).2.1 := by decide +kernel
theorem tyJx4a65c_ok : ∀ k, k < 3 → parseFieldDescriptor (TJx4a65c k).2.2.1 = some (tyJx4a65c k) := by decide +kernel
abbrev cJx4a65c_init_da8c8 : ByteArray := prog_43_method_2_code
def yJx4a65c_init_da8c8 : MethodName := ⟨RJx4a65c, "<init>", "()V"⟩
abbrev cJx4a65c_grow_92f84 : ByteArray := prog_43_method_6_code
def yJx4a65c_grow_92f84 : MethodName := ⟨RJx4a65c, "grow", "(I)[Ljava/lang/Object;"⟩
abbrev cJx4a65c_grow_d5877 : ByteArray := prog_43_method_7_code
def yJx4a65c_grow_d5877 : MethodName := ⟨RJx4a65c, "grow", "()[Ljava/lang/Object;"⟩
abbrev cJx4a65c_size_8abf5 : ByteArray := prog_43_method_8_code
def yJx4a65c_size_8abf5 : MethodName := ⟨RJx4a65c, "size", "()I"⟩
abbrev cJx4a65c_elementData_915e3 : ByteArray := prog_43_method_18_code
def yJx4a65c_elementData_915e3 : MethodName := ⟨RJx4a65c, "elementData", "(I)Ljava/lang/Object;"⟩
abbrev cJx4a65c_get_915e3 : ByteArray := prog_43_method_20_code
def yJx4a65c_get_915e3 : MethodName := ⟨RJx4a65c, "get", "(I)Ljava/lang/Object;"⟩
abbrev cJx4a65c_add_72be8 : ByteArray := prog_43_method_24_code
def yJx4a65c_add_72be8 : MethodName := ⟨RJx4a65c, "add", "(Ljava/lang/Object;[Ljava/lang/Object;I)V"⟩
abbrev cJx4a65c_add_9ea2d : ByteArray := prog_43_method_25_code
def yJx4a65c_add_9ea2d : MethodName := ⟨RJx4a65c, "add", "(Ljava/lang/Object;)Z"⟩
def RJ7 : String := "java/util/Arrays"
def TJ7 : u_T := fun k => match k with
  | _ => ("", "", "", false)
def tyJ7 : Nat → FieldType := fun k => match k with
  | _ => .int
abbrev wsJ70 : List Cond := u_ws RJ7 TJ7 0
theorem nmJ7 : ∀ a, a < 0 → ∀ b, b < 0 → a ≠ b → (TJ7 a).2.1 ≠ (TJ7 b).2.1 := by decide +kernel
theorem tyJ7_ok : ∀ k, k < 0 → parseFieldDescriptor (TJ7 k).2.2.1 = some (tyJ7 k) := by decide +kernel
abbrev cJ7_fill_53178 : ByteArray := prog_44_method_103_code
def yJ7_fill_53178 : MethodName := ⟨RJ7, "fill", "([II)V"⟩
abbrev cJ7_copyOf_1904c : ByteArray := prog_44_method_119_code
def yJ7_copyOf_1904c : MethodName := ⟨RJ7, "copyOf", "([Ljava/lang/Object;I)[Ljava/lang/Object;"⟩
abbrev cJ7_copyOf_6403c : ByteArray := prog_44_method_120_code
def yJ7_copyOf_6403c : MethodName := ⟨RJ7, "copyOf", "([Ljava/lang/Object;ILjava/lang/Class;)[Ljava/lang/Object;"⟩
abbrev cJ7_copyOf_59c91 : ByteArray := prog_44_method_123_code
def yJ7_copyOf_59c91 : MethodName := ⟨RJ7, "copyOf", "([II)[I"⟩
def RJx5ef63 : String := "java/util/Collection"
def TJx5ef63 : u_T := fun k => match k with
  | _ => ("", "", "", false)
def tyJx5ef63 : Nat → FieldType := fun k => match k with
  | _ => .int
abbrev wsJx5ef630 : List Cond := u_ws RJx5ef63 TJx5ef63 0
theorem nmJx5ef63 : ∀ a, a < 0 → ∀ b, b < 0 → a ≠ b → (TJx5ef63 a).2.1 ≠ (TJx5ef63 b).2.1 := by decide +kernel
theorem tyJx5ef63_ok : ∀ k, k < 0 → parseFieldDescriptor (TJx5ef63 k).2.2.1 = some (tyJx5ef63 k) := by decide +kernel
def RJxbd725 : String := "java/util/List"
def TJxbd725 : u_T := fun k => match k with
  | _ => ("", "", "", false)
def tyJxbd725 : Nat → FieldType := fun k => match k with
  | _ => .int
abbrev wsJxbd7250 : List Cond := u_ws RJxbd725 TJxbd725 0
theorem nmJxbd725 : ∀ a, a < 0 → ∀ b, b < 0 → a ≠ b → (TJxbd725 a).2.1 ≠ (TJxbd725 b).2.1 := by decide +kernel
theorem tyJxbd725_ok : ∀ k, k < 0 → parseFieldDescriptor (TJxbd725 k).2.2.1 = some (tyJxbd725 k) := by decide +kernel
def RJ15 : String := "java/util/Objects"
def TJ15 : u_T := fun k => match k with
  | _ => ("", "", "", false)
def tyJ15 : Nat → FieldType := fun k => match k with
  | _ => .int
abbrev wsJ150 : List Cond := u_ws RJ15 TJ15 0
theorem nmJ15 : ∀ a, a < 0 → ∀ b, b < 0 → a ≠ b → (TJ15 a).2.1 ≠ (TJ15 b).2.1 := by decide +kernel
theorem tyJ15_ok : ∀ k, k < 0 → parseFieldDescriptor (TJ15 k).2.2.1 = some (tyJ15 k) := by decide +kernel
abbrev cJ15_checkIndex_7cf53 : ByteArray := prog_48_method_17_code
def yJ15_checkIndex_7cf53 : MethodName := ⟨RJ15, "checkIndex", "(II)I"⟩
def RJxf0a74 : String := "java/util/RandomAccess"
def TJxf0a74 : u_T := fun k => match k with
  | _ => ("", "", "", false)
def tyJxf0a74 : Nat → FieldType := fun k => match k with
  | _ => .int
abbrev wsJxf0a740 : List Cond := u_ws RJxf0a74 TJxf0a74 0
theorem nmJxf0a74 : ∀ a, a < 0 → ∀ b, b < 0 → a ≠ b → (TJxf0a74 a).2.1 ≠ (TJxf0a74 b).2.1 := by decide +kernel
theorem tyJxf0a74_ok : ∀ k, k < 0 → parseFieldDescriptor (TJxf0a74 k).2.2.1 = some (tyJxf0a74 k) := by decide +kernel
def RJxa66e6 : String := "java/util/SequencedCollection"
def TJxa66e6 : u_T := fun k => match k with
  | _ => ("", "", "", false)
def tyJxa66e6 : Nat → FieldType := fun k => match k with
  | _ => .int
abbrev wsJxa66e60 : List Cond := u_ws RJxa66e6 TJxa66e6 0
theorem nmJxa66e6 : ∀ a, a < 0 → ∀ b, b < 0 → a ≠ b → (TJxa66e6 a).2.1 ≠ (TJxa66e6 b).2.1 := by decide +kernel
theorem tyJxa66e6_ok : ∀ k, k < 0 → parseFieldDescriptor (TJxa66e6 k).2.2.1 = some (tyJxa66e6 k) := by decide +kernel
def RJ8 : String := "jdk/internal/util/ArraysSupport"
def TJ8 : u_T := fun k => match k with
  | _ => ("", "", "", false)
def tyJ8 : Nat → FieldType := fun k => match k with
  | _ => .int
abbrev wsJ80 : List Cond := u_ws RJ8 TJ8 0
theorem nmJ8 : ∀ a, a < 0 → ∀ b, b < 0 → a ≠ b → (TJ8 a).2.1 ≠ (TJ8 b).2.1 := by decide +kernel
theorem tyJ8_ok : ∀ k, k < 0 → parseFieldDescriptor (TJ8 k).2.2.1 = some (tyJ8 k) := by decide +kernel
abbrev cJ8_newLength_cabcc : ByteArray := prog_51_method_27_code
def yJ8_newLength_cabcc : MethodName := ⟨RJ8, "newLength", "(III)I"⟩
abbrev cJ8_hugeLength_7cf53 : ByteArray := prog_51_method_28_code
def yJ8_hugeLength_7cf53 : MethodName := ⟨RJ8, "hugeLength", "(II)I"⟩
def RJ3 : String := "jdk/internal/util/Preconditions"
def TJ3 : u_T := fun k => match k with
  | _ => ("", "", "", false)
def tyJ3 : Nat → FieldType := fun k => match k with
  | _ => .int
abbrev wsJ30 : List Cond := u_ws RJ3 TJ3 0
theorem nmJ3 : ∀ a, a < 0 → ∀ b, b < 0 → a ≠ b → (TJ3 a).2.1 ≠ (TJ3 b).2.1 := by decide +kernel
theorem tyJ3_ok : ∀ k, k < 0 → parseFieldDescriptor (TJ3 k).2.2.1 = some (tyJ3 k) := by decide +kernel
abbrev cJ3_checkIndex_8e157 : ByteArray := prog_52_method_11_code
def yJ3_checkIndex_8e157 : MethodName := ⟨RJ3, "checkIndex", "(IILjava/util/function/BiFunction;)I"⟩
def RL : String := "RankhallLaw"
abbrev cL_cell : ByteArray := method_2_code
def yL_cell : MethodName := ⟨RL, "cell", "([II)I"⟩
abbrev cL_pick : ByteArray := method_3_code
def yL_pick : MethodName := ⟨RL, "pick", "([III)I"⟩
abbrev cL_rank : ByteArray := method_4_code
def yL_rank : MethodName := ⟨RL, "rank", "(LRankhall;IIIIIII)I"⟩
abbrev cL_stop : ByteArray := method_5_code
def yL_stop : MethodName := ⟨RL, "stop", "(LRankhall;I)I"⟩
abbrev cL_row : ByteArray := method_6_code
def yL_row : MethodName := ⟨RL, "row", "(LRankhall;IIIII)I"⟩
abbrev cL_cross : ByteArray := method_7_code
def yL_cross : MethodName := ⟨RL, "cross", "(LRankhall;III)I"⟩
abbrev cL_coupler : ByteArray := method_8_code
def yL_coupler : MethodName := ⟨RL, "coupler", "(LRankhall;IIIC)I"⟩
abbrev cL_tremulant : ByteArray := method_9_code
def yL_tremulant : MethodName := ⟨RL, "tremulant", "(LRankhall;I)I"⟩
abbrev cL_draw : ByteArray := method_10_code
def yL_draw : MethodName := ⟨RL, "draw", "(LRankhall;IZ)I"⟩
abbrev cL_isDrawn : ByteArray := method_11_code
def yL_isDrawn : MethodName := ⟨RL, "isDrawn", "(LRankhall;I)I"⟩
abbrev cL_isOn : ByteArray := method_12_code
def yL_isOn : MethodName := ⟨RL, "isOn", "(LRankhall;I)I"⟩
abbrev cL_lock : ByteArray := method_13_code
def yL_lock : MethodName := ⟨RL, "lock", "(LRankhall;IZ)I"⟩
abbrev cL_stage : ByteArray := method_14_code
def yL_stage : MethodName := ⟨RL, "stage", "(LRankhall;II)I"⟩
abbrev cL_crescendo : ByteArray := method_15_code
def yL_crescendo : MethodName := ⟨RL, "crescendo", "(LRankhall;I)I"⟩
abbrev cL_key : ByteArray := method_16_code
def yL_key : MethodName := ⟨RL, "key", "(LRankhall;IIZ)I"⟩
abbrev cL_isDown : ByteArray := method_17_code
def yL_isDown : MethodName := ⟨RL, "isDown", "(LRankhall;II)I"⟩
abbrev cL_pass : ByteArray := method_18_code
def yL_pass : MethodName := ⟨RL, "pass", "(LRankhall;I)I"⟩
abbrev cL_reasons : ByteArray := method_19_code
def yL_reasons : MethodName := ⟨RL, "reasons", "(LRankhall;II)I"⟩
abbrev cL_reasonsAnew : ByteArray := method_20_code
def yL_reasonsAnew : MethodName := ⟨RL, "reasonsAnew", "(LRankhall;II)I"⟩
abbrev cL_isOpen : ByteArray := method_21_code
def yL_isOpen : MethodName := ⟨RL, "isOpen", "(LRankhall;II)I"⟩
abbrev cL_speaks : ByteArray := method_22_code
def yL_speaks : MethodName := ⟨RL, "speaks", "(LRankhall;II)I"⟩
abbrev cL_begun : ByteArray := method_23_code
def yL_begun : MethodName := ⟨RL, "begun", "(LRankhall;II)I"⟩
abbrev cL_supply : ByteArray := method_24_code
def yL_supply : MethodName := ⟨RL, "supply", "(LRankhall;II)I"⟩
abbrev cL_wind : ByteArray := method_25_code
def yL_wind : MethodName := ⟨RL, "wind", "(LRankhall;I)I"⟩
abbrev cL_box : ByteArray := method_26_code
def yL_box : MethodName := ⟨RL, "box", "(LRankhall;II)I"⟩
abbrev cL_tune : ByteArray := method_27_code
def yL_tune : MethodName := ⟨RL, "tune", "(LRankhall;III)I"⟩
abbrev cL_tuneTo : ByteArray := method_28_code
def yL_tuneTo : MethodName := ⟨RL, "tuneTo", "(LRankhall;IIII)I"⟩
abbrev cL_pitch : ByteArray := method_29_code
def yL_pitch : MethodName := ⟨RL, "pitch", "(LRankhall;II)I"⟩
abbrev cL_fault : ByteArray := method_30_code
def yL_fault : MethodName := ⟨RL, "fault", "(LRankhall;IIC)I"⟩
abbrev cL_hunt : ByteArray := method_31_code
def yL_hunt : MethodName := ⟨RL, "hunt", "(LRankhall;I)I"⟩
abbrev cL_scope : ByteArray := method_32_code
def yL_scope : MethodName := ⟨RL, "scope", "(LRankhall;IZ)I"⟩
abbrev cL_set : ByteArray := method_33_code
def yL_set : MethodName := ⟨RL, "set", "(LRankhall;II)I"⟩
abbrev cL_push : ByteArray := method_34_code
def yL_push : MethodName := ⟨RL, "push", "(LRankhall;II)I"⟩
abbrev cL_setReversible : ByteArray := method_35_code
def yL_setReversible : MethodName := ⟨RL, "setReversible", "(LRankhall;II)I"⟩
abbrev cL_pushReversible : ByteArray := method_36_code
def yL_pushReversible : MethodName := ⟨RL, "pushReversible", "(LRankhall;I)I"⟩
abbrev cL_frame : ByteArray := method_37_code
def yL_frame : MethodName := ⟨RL, "frame", "(LRankhall;I)I"⟩
abbrev cL_turnTo : ByteArray := method_38_code
def yL_turnTo : MethodName := ⟨RL, "turnTo", "(LRankhall;I)I"⟩
abbrev cL_wire : ByteArray := method_39_code
def yL_wire : MethodName := ⟨RL, "wire", "(LRankhall;ICII)I"⟩
abbrev cL_isOnRelay : ByteArray := method_40_code
def yL_isOnRelay : MethodName := ⟨RL, "isOnRelay", "(LRankhall;I)I"⟩
abbrev cL_drive : ByteArray := method_41_code
def yL_drive : MethodName := ⟨RL, "drive", "(LRankhall;II)I"⟩
abbrev cL_record : ByteArray := method_42_code
def yL_record : MethodName := ⟨RL, "record", "(LRankhall;C)I"⟩
abbrev cL_playBack : ByteArray := method_43_code
def yL_playBack : MethodName := ⟨RL, "playBack", "(LRankhall;)I"⟩
abbrev cL_realise : ByteArray := method_44_code
def yL_realise : MethodName := ⟨RL, "realise", "(LRankhall;IC)I"⟩
abbrev cL_speakingShare : ByteArray := method_45_code
def yL_speakingShare : MethodName := ⟨RL, "speakingShare", "(LRankhall;)F"⟩
abbrev cL_meanPitch : ByteArray := method_46_code
def yL_meanPitch : MethodName := ⟨RL, "meanPitch", "(LRankhall;)D"⟩
abbrev cL_law : ByteArray := code
def yL_law : MethodName := ⟨RL, "law", "([I)Z"⟩
abbrev cL_acts : ByteArray := method_48_code
def yL_acts : MethodName := ⟨RL, "acts", "(LRankhall;[II)Z"⟩
abbrev cL_isStep : ByteArray := method_49_code
def yL_isStep : MethodName := ⟨RL, "isStep", "(LRankhall;)Z"⟩
abbrev cL_arePipes : ByteArray := method_50_code
def yL_arePipes : MethodName := ⟨RL, "arePipes", "(LRankhall;)Z"⟩
abbrev cL_areKnobs : ByteArray := method_51_code
def yL_areKnobs : MethodName := ⟨RL, "areKnobs", "(LRankhall;)Z"⟩
abbrev cL_areQuiet : ByteArray := method_52_code
def yL_areQuiet : MethodName := ⟨RL, "areQuiet", "(LRankhall;)Z"⟩
abbrev cL_isThrown : ByteArray := method_53_code
def yL_isThrown : MethodName := ⟨RL, "isThrown", "(LRankhall;)Z"⟩
set_option maxRecDepth 20000 in
abbrev vwCl : List vw_C := [(RJx00060, TJx00060, 6), (RJx00060, TJx00060, 6), (RJx00060, TJx00060, 6), (RJx4a65c, TJx4a65c, 3), (RX0, TX0, 7), (RX1, TX1, 8), (RX2, TX2, 4), (RX3, TX3, 5), (RX4, TX4, 8), (RX5, TX5, 11), (RX6, TX6, 11), (RX7, TX7, 8), (RX8, TX8, 8), (RX9, TX9, 5), (RX10, TX10, 16), (RX11, TX11, 6), (RJx00060, TJx00060, 6), (RJx00060, TJx00060, 6), (RJx00060, TJx00060, 6), (RJx00060, TJx00060, 6), (RJx00060, TJx00060, 6)]
