/-! ===== BEGIN printed: names, fields, word lists, decode rows ===== -/
def RX0 : String := "Plotroom$Flight"
def TX0 : u_T := fun k => match k with
  | 0 => ("Plotroom$Place", "x", "I", false)
  | 1 => ("Plotroom$Place", "y", "I", false)
  | 2 => ("Plotroom$Flight", "isFoe", "Z", true)
  | 3 => ("Plotroom$Flight", "height", "I", true)
  | 4 => ("Plotroom$Flight", "courseX", "I", false)
  | 5 => ("Plotroom$Flight", "courseY", "I", false)
  | 6 => ("Plotroom$Flight", "count", "I", false)
  | _ => ("Plotroom$Flight", "isUp", "Z", false)
def tyX0 : Nat → FieldType := fun k => match k with
  | 0 => .int
  | 1 => .int
  | 2 => .boolean
  | 3 => .int
  | 4 => .int
  | 5 => .int
  | 6 => .int
  | _ => .boolean
abbrev wsX00 : List Cond := u_ws RX0 TX0 8
theorem nmX0 : ∀ a, a < 8 → ∀ b, b < 8 → a ≠ b → (TX0 a).2.1 ≠ (TX0 b).2.1 := by decide +kernel
theorem tyX0_ok : ∀ k, k < 8 → parseFieldDescriptor (TX0 k).2.2.1 = some (tyX0 k) := by decide +kernel
abbrev cX0_init : ByteArray := prog_2_method_1_code
def yX0_init : MethodName := ⟨RX0, "<init>", "(ZIIIIII)V"⟩
abbrev cX0_move : ByteArray := prog_2_method_2_code
def yX0_move : MethodName := ⟨RX0, "move", "()V"⟩
abbrev cX0_lose : ByteArray := prog_2_method_4_code
def yX0_lose : MethodName := ⟨RX0, "lose", "(I)V"⟩
abbrev cX0_guess : ByteArray := prog_2_method_5_code
def yX0_guess : MethodName := ⟨RX0, "guess", "()I"⟩
abbrev cX0_tell : ByteArray := prog_2_method_6_code
def yX0_tell : MethodName := ⟨RX0, "tell", "(I)I"⟩
def RX1 : String := "Plotroom$Gun"
def TX1 : u_T := fun k => match k with
  | 0 => ("Plotroom$Place", "x", "I", false)
  | 1 => ("Plotroom$Place", "y", "I", false)
  | 2 => ("Plotroom$Gun", "radius", "I", true)
  | _ => ("Plotroom$Gun", "isLent", "Z", false)
def tyX1 : Nat → FieldType := fun k => match k with
  | 0 => .int
  | 1 => .int
  | 2 => .int
  | _ => .boolean
abbrev wsX10 : List Cond := u_ws RX1 TX1 4
theorem nmX1 : ∀ a, a < 4 → ∀ b, b < 4 → a ≠ b → (TX1 a).2.1 ≠ (TX1 b).2.1 := by decide +kernel
theorem tyX1_ok : ∀ k, k < 4 → parseFieldDescriptor (TX1 k).2.2.1 = some (tyX1 k) := by decide +kernel
abbrev cX1_init : ByteArray := prog_3_method_1_code
def yX1_init : MethodName := ⟨RX1, "<init>", "(III)V"⟩
def RX2 : String := "Plotroom$Lots"
def TX2 : u_T := fun k => match k with
  | 0 => ("Plotroom$Lots", "next", "I", false)
  | _ => ("Plotroom$Lots", "drawn", "I", false)
def tyX2 : Nat → FieldType := fun k => match k with
  | 0 => .int
  | _ => .int
abbrev wsX20 : List Cond := u_ws RX2 TX2 2
theorem nmX2 : ∀ a, a < 2 → ∀ b, b < 2 → a ≠ b → (TX2 a).2.1 ≠ (TX2 b).2.1 := by decide +kernel
theorem tyX2_ok : ∀ k, k < 2 → parseFieldDescriptor (TX2 k).2.2.1 = some (tyX2 k) := by decide +kernel
abbrev cX2_init : ByteArray := prog_4_method_1_code
def yX2_init : MethodName := ⟨RX2, "<init>", "()V"⟩
abbrev cX2_draw : ByteArray := prog_4_method_2_code
def yX2_draw : MethodName := ⟨RX2, "draw", "()I"⟩
abbrev cX2_slipOf : ByteArray := prog_4_method_3_code
def yX2_slipOf : MethodName := ⟨RX2, "slipOf", "(I)I"⟩
def RX3 : String := "Plotroom$Mast"
def TX3 : u_T := fun k => match k with
  | 0 => ("Plotroom$Place", "x", "I", false)
  | 1 => ("Plotroom$Place", "y", "I", false)
  | 2 => ("Plotroom$Mast", "range", "I", true)
  | 3 => ("Plotroom$Mast", "blind", "I", true)
  | 4 => ("Plotroom$Mast", "slip", "I", true)
  | 5 => ("Plotroom$Mast", "lag", "I", true)
  | 6 => ("Plotroom$Mast", "isCut", "Z", false)
  | 7 => ("Plotroom$Mast", "made", "I", false)
  | 8 => ("Plotroom$Mast", "came", "I", false)
  | _ => ("Plotroom$Mast", "lost", "I", false)
def tyX3 : Nat → FieldType := fun k => match k with
  | 0 => .int
  | 1 => .int
  | 2 => .int
  | 3 => .int
  | 4 => .int
  | 5 => .int
  | 6 => .boolean
  | 7 => .int
  | 8 => .int
  | _ => .int
abbrev wsX30 : List Cond := u_ws RX3 TX3 10
theorem nmX3 : ∀ a, a < 10 → ∀ b, b < 10 → a ≠ b → (TX3 a).2.1 ≠ (TX3 b).2.1 := by decide +kernel
theorem tyX3_ok : ∀ k, k < 10 → parseFieldDescriptor (TX3 k).2.2.1 = some (tyX3 k) := by decide +kernel
abbrev cX3_init : ByteArray := prog_5_method_1_code
def yX3_init : MethodName := ⟨RX3, "<init>", "(IIIIII)V"⟩
abbrev cX3_canSee : ByteArray := prog_5_method_2_code
def yX3_canSee : MethodName := ⟨RX3, "canSee", "(LPlotroom$Flight;)Z"⟩
abbrev cX3_tell : ByteArray := prog_5_method_3_code
def yX3_tell : MethodName := ⟨RX3, "tell", "(I)I"⟩
def RX4 : String := "Plotroom$Place"
def TX4 : u_T := fun k => match k with
  | 0 => ("Plotroom$Place", "x", "I", false)
  | _ => ("Plotroom$Place", "y", "I", false)
def tyX4 : Nat → FieldType := fun k => match k with
  | 0 => .int
  | _ => .int
abbrev wsX40 : List Cond := u_ws RX4 TX4 2
theorem nmX4 : ∀ a, a < 2 → ∀ b, b < 2 → a ≠ b → (TX4 a).2.1 ≠ (TX4 b).2.1 := by decide +kernel
theorem tyX4_ok : ∀ k, k < 2 → parseFieldDescriptor (TX4 k).2.2.1 = some (tyX4 k) := by decide +kernel
abbrev cX4_init : ByteArray := prog_6_method_1_code
def yX4_init : MethodName := ⟨RX4, "<init>", "(II)V"⟩
abbrev cX4_farFrom : ByteArray := prog_6_method_2_code
def yX4_farFrom : MethodName := ⟨RX4, "farFrom", "(II)I"⟩
abbrev cX4_isWithin : ByteArray := prog_6_method_3_code
def yX4_isWithin : MethodName := ⟨RX4, "isWithin", "(III)Z"⟩
abbrev cX4_isOnMap : ByteArray := prog_6_method_4_code
def yX4_isOnMap : MethodName := ⟨RX4, "isOnMap", "()Z"⟩
def RX5 : String := "Plotroom$Plan"
def TX5 : u_T := fun k => match k with
  | _ => ("", "", "", false)
def tyX5 : Nat → FieldType := fun k => match k with
  | _ => .int
abbrev wsX50 : List Cond := u_ws RX5 TX5 0
theorem nmX5 : ∀ a, a < 0 → ∀ b, b < 0 → a ≠ b → (TX5 a).2.1 ≠ (TX5 b).2.1 := by decide +kernel
theorem tyX5_ok : ∀ k, k < 0 → parseFieldDescriptor (TX5 k).2.2.1 = some (tyX5 k) := by decide +kernel
abbrev cX5_covers : ByteArray := prog_7_method_2_code
def yX5_covers : MethodName := ⟨RX5, "covers", "(LPlotroom$Track;)Z"⟩
def RX6 : String := "Plotroom$Plot"
def TX6 : u_T := fun k => match k with
  | 0 => ("Plotroom$Place", "x", "I", false)
  | 1 => ("Plotroom$Place", "y", "I", false)
  | 2 => ("Plotroom$Plot", "mast", "LPlotroom$Mast;", false)
  | 3 => ("Plotroom$Plot", "guess", "I", false)
  | 4 => ("Plotroom$Plot", "seenAt", "I", false)
  | _ => ("Plotroom$Plot", "due", "I", false)
def tyX6 : Nat → FieldType := fun k => match k with
  | 0 => .int
  | 1 => .int
  | 2 => .object "Plotroom$Mast"
  | 3 => .int
  | 4 => .int
  | _ => .int
abbrev wsX60 : List Cond := u_ws RX6 TX6 6
theorem nmX6 : ∀ a, a < 6 → ∀ b, b < 6 → a ≠ b → (TX6 a).2.1 ≠ (TX6 b).2.1 := by decide +kernel
theorem tyX6_ok : ∀ k, k < 6 → parseFieldDescriptor (TX6 k).2.2.1 = some (tyX6 k) := by decide +kernel
abbrev cX6_init : ByteArray := prog_8_method_1_code
def yX6_init : MethodName := ⟨RX6, "<init>", "(LPlotroom$Mast;)V"⟩
abbrev cX6_write : ByteArray := prog_8_method_2_code
def yX6_write : MethodName := ⟨RX6, "write", "(LPlotroom$Mast;IIII)V"⟩
def RX7 : String := "Plotroom$Squadron"
def TX7 : u_T := fun k => match k with
  | 0 => ("Plotroom$Place", "x", "I", false)
  | 1 => ("Plotroom$Place", "y", "I", false)
  | 2 => ("Plotroom$Squadron", "stationNumber", "I", true)
  | 3 => ("Plotroom$Squadron", "base", "LPlotroom$Place;", true)
  | 4 => ("Plotroom$Squadron", "speed", "I", true)
  | 5 => ("Plotroom$Squadron", "tank", "I", true)
  | 6 => ("Plotroom$Squadron", "ready", "I", true)
  | 7 => ("Plotroom$Squadron", "machines", "I", false)
  | 8 => ("Plotroom$Squadron", "state", "I", false)
  | 9 => ("Plotroom$Squadron", "fuel", "I", false)
  | 10 => ("Plotroom$Squadron", "target", "LPlotroom$Track;", false)
  | 11 => ("Plotroom$Squadron", "due", "I", false)
  | _ => ("Plotroom$Squadron", "won", "I", false)
def tyX7 : Nat → FieldType := fun k => match k with
  | 0 => .int
  | 1 => .int
  | 2 => .int
  | 3 => .object "Plotroom$Place"
  | 4 => .int
  | 5 => .int
  | 6 => .int
  | 7 => .int
  | 8 => .int
  | 9 => .int
  | 10 => .object "Plotroom$Track"
  | 11 => .int
  | _ => .int
abbrev wsX70 : List Cond := u_ws RX7 TX7 13
theorem nmX7 : ∀ a, a < 13 → ∀ b, b < 13 → a ≠ b → (TX7 a).2.1 ≠ (TX7 b).2.1 := by decide +kernel
theorem tyX7_ok : ∀ k, k < 13 → parseFieldDescriptor (TX7 k).2.2.1 = some (tyX7 k) := by decide +kernel
abbrev cX7_init : ByteArray := prog_9_method_1_code
def yX7_init : MethodName := ⟨RX7, "<init>", "(ILPlotroom$Place;IIII)V"⟩
abbrev cX7_canStart : ByteArray := prog_9_method_2_code
def yX7_canStart : MethodName := ⟨RX7, "canStart", "()Z"⟩
abbrev cX7_isInAir : ByteArray := prog_9_method_3_code
def yX7_isInAir : MethodName := ⟨RX7, "isInAir", "()Z"⟩
abbrev cX7_isTalkedTo : ByteArray := prog_9_method_4_code
def yX7_isTalkedTo : MethodName := ⟨RX7, "isTalkedTo", "()Z"⟩
abbrev cX7_isAtBase : ByteArray := prog_9_method_5_code
def yX7_isAtBase : MethodName := ⟨RX7, "isAtBase", "()Z"⟩
abbrev cX7_targetNumber : ByteArray := prog_9_method_6_code
def yX7_targetNumber : MethodName := ⟨RX7, "targetNumber", "()I"⟩
abbrev cX7_order : ByteArray := prog_9_method_7_code
def yX7_order : MethodName := ⟨RX7, "order", "(LPlotroom$Track;I)V"⟩
abbrev cX7_comeUp : ByteArray := prog_9_method_8_code
def yX7_comeUp : MethodName := ⟨RX7, "comeUp", "()V"⟩
abbrev cX7_headHome : ByteArray := prog_9_method_9_code
def yX7_headHome : MethodName := ⟨RX7, "headHome", "()V"⟩
abbrev cX7_rest : ByteArray := prog_9_method_10_code
def yX7_rest : MethodName := ⟨RX7, "rest", "(II)V"⟩
abbrev cX7_go : ByteArray := prog_9_method_11_code
def yX7_go : MethodName := ⟨RX7, "go", "(II)V"⟩
abbrev cX7_minutesBack : ByteArray := prog_9_method_12_code
def yX7_minutesBack : MethodName := ⟨RX7, "minutesBack", "()I"⟩
abbrev cX7_minutesToMeet : ByteArray := prog_9_method_13_code
def yX7_minutesToMeet : MethodName := ⟨RX7, "minutesToMeet", "(LPlotroom$Track;I)I"⟩
abbrev cX7_tell : ByteArray := prog_9_method_14_code
def yX7_tell : MethodName := ⟨RX7, "tell", "(I)I"⟩
def RX8 : String := "Plotroom$Tally"
def TX8 : u_T := fun k => match k with
  | 0 => ("Plotroom$Tally", "refused", "I", false)
  | 1 => ("Plotroom$Tally", "plotsWithoutTrack", "I", false)
  | 2 => ("Plotroom$Tally", "fights", "I", false)
  | 3 => ("Plotroom$Tally", "claims", "I", false)
  | 4 => ("Plotroom$Tally", "machinesLost", "I", false)
  | 5 => ("Plotroom$Tally", "shames", "I", false)
  | 6 => ("Plotroom$Tally", "work", "I", false)
  | _ => ("Plotroom$Tally", "lives", "I", false)
def tyX8 : Nat → FieldType := fun k => match k with
  | 0 => .int
  | 1 => .int
  | 2 => .int
  | 3 => .int
  | 4 => .int
  | 5 => .int
  | 6 => .int
  | _ => .int
abbrev wsX80 : List Cond := u_ws RX8 TX8 8
theorem nmX8 : ∀ a, a < 8 → ∀ b, b < 8 → a ≠ b → (TX8 a).2.1 ≠ (TX8 b).2.1 := by decide +kernel
theorem tyX8_ok : ∀ k, k < 8 → parseFieldDescriptor (TX8 k).2.2.1 = some (tyX8 k) := by decide +kernel
abbrev cX8_init : ByteArray := prog_10_method_1_code
def yX8_init : MethodName := ⟨RX8, "<init>", "()V"⟩
def RX9 : String := "Plotroom$Town"
def TX9 : u_T := fun k => match k with
  | 0 => ("Plotroom$Place", "x", "I", false)
  | 1 => ("Plotroom$Place", "y", "I", false)
  | _ => ("Plotroom$Town", "people", "I", true)
def tyX9 : Nat → FieldType := fun k => match k with
  | 0 => .int
  | 1 => .int
  | _ => .int
abbrev wsX90 : List Cond := u_ws RX9 TX9 3
theorem nmX9 : ∀ a, a < 3 → ∀ b, b < 3 → a ≠ b → (TX9 a).2.1 ≠ (TX9 b).2.1 := by decide +kernel
theorem tyX9_ok : ∀ k, k < 3 → parseFieldDescriptor (TX9 k).2.2.1 = some (tyX9 k) := by decide +kernel
abbrev cX9_init : ByteArray := prog_11_method_1_code
def yX9_init : MethodName := ⟨RX9, "<init>", "(III)V"⟩
def RX10 : String := "Plotroom$Track"
def TX10 : u_T := fun k => match k with
  | 0 => ("Plotroom$Place", "x", "I", false)
  | 1 => ("Plotroom$Place", "y", "I", false)
  | 2 => ("Plotroom$Track", "number", "I", true)
  | 3 => ("Plotroom$Track", "minute", "I", false)
  | 4 => ("Plotroom$Track", "courseX", "I", false)
  | 5 => ("Plotroom$Track", "courseY", "I", false)
  | 6 => ("Plotroom$Track", "hasCourse", "Z", false)
  | 7 => ("Plotroom$Track", "guess", "I", false)
  | 8 => ("Plotroom$Track", "hits", "I", false)
  | _ => ("Plotroom$Track", "isLive", "Z", false)
def tyX10 : Nat → FieldType := fun k => match k with
  | 0 => .int
  | 1 => .int
  | 2 => .int
  | 3 => .int
  | 4 => .int
  | 5 => .int
  | 6 => .boolean
  | 7 => .int
  | 8 => .int
  | _ => .boolean
abbrev wsX100 : List Cond := u_ws RX10 TX10 10
theorem nmX10 : ∀ a, a < 10 → ∀ b, b < 10 → a ≠ b → (TX10 a).2.1 ≠ (TX10 b).2.1 := by decide +kernel
theorem tyX10_ok : ∀ k, k < 10 → parseFieldDescriptor (TX10 k).2.2.1 = some (tyX10 k) := by decide +kernel
abbrev cX10_init : ByteArray := prog_12_method_1_code
def yX10_init : MethodName := ⟨RX10, "<init>", "(ILPlotroom$Plot;)V"⟩
abbrev cX10_xAt : ByteArray := prog_12_method_2_code
def yX10_xAt : MethodName := ⟨RX10, "xAt", "(I)I"⟩
abbrev cX10_yAt : ByteArray := prog_12_method_3_code
def yX10_yAt : MethodName := ⟨RX10, "yAt", "(I)I"⟩
abbrev cX10_take : ByteArray := prog_12_method_4_code
def yX10_take : MethodName := ⟨RX10, "take", "(LPlotroom$Plot;)V"⟩
abbrev cX10_courseBy : ByteArray := prog_12_method_5_code
def yX10_courseBy : MethodName := ⟨RX10, "courseBy", "(II)I"⟩
abbrev cX10_tell : ByteArray := prog_12_method_6_code
def yX10_tell : MethodName := ⟨RX10, "tell", "(I)I"⟩
def RX11 : String := "Plotroom"
def TX11 : u_T := fun k => match k with
  | 0 => ("Plotroom", "masts", "Ljava/util/ArrayList;", true)
  | 1 => ("Plotroom", "stations", "Ljava/util/ArrayList;", true)
  | 2 => ("Plotroom", "squadrons", "Ljava/util/ArrayList;", true)
  | 3 => ("Plotroom", "guns", "Ljava/util/ArrayList;", true)
  | 4 => ("Plotroom", "towns", "Ljava/util/ArrayList;", true)
  | 5 => ("Plotroom", "flights", "Ljava/util/ArrayList;", true)
  | 6 => ("Plotroom", "plans", "Ljava/util/ArrayList;", true)
  | 7 => ("Plotroom", "tracks", "Ljava/util/ArrayList;", true)
  | 8 => ("Plotroom", "plots", "Ljava/util/ArrayList;", true)
  | 9 => ("Plotroom", "plotsOnWay", "I", false)
  | 10 => ("Plotroom", "lots", "LPlotroom$Lots;", true)
  | 11 => ("Plotroom", "tally", "LPlotroom$Tally;", true)
  | 12 => ("Plotroom", "minute", "I", false)
  | _ => ("Plotroom", "gateRadius", "I", false)
def tyX11 : Nat → FieldType := fun k => match k with
  | 0 => .object "java/util/ArrayList"
  | 1 => .object "java/util/ArrayList"
  | 2 => .object "java/util/ArrayList"
  | 3 => .object "java/util/ArrayList"
  | 4 => .object "java/util/ArrayList"
  | 5 => .object "java/util/ArrayList"
  | 6 => .object "java/util/ArrayList"
  | 7 => .object "java/util/ArrayList"
  | 8 => .object "java/util/ArrayList"
  | 9 => .int
  | 10 => .object "Plotroom$Lots"
  | 11 => .object "Plotroom$Tally"
  | 12 => .int
  | _ => .int
abbrev wsX110 : List Cond := u_ws RX11 TX11 14
theorem nmX11 : ∀ a, a < 14 → ∀ b, b < 14 → a ≠ b → (TX11 a).2.1 ≠ (TX11 b).2.1 := by decide +kernel
theorem tyX11_ok : ∀ k, k < 14 → parseFieldDescriptor (TX11 k).2.2.1 = some (tyX11 k) := by decide +kernel
abbrev cX11_init : ByteArray := prog_1_method_1_code
def yX11_init : MethodName := ⟨RX11, "<init>", "()V"⟩
abbrev cX11_mast : ByteArray := prog_1_method_2_code
def yX11_mast : MethodName := ⟨RX11, "mast", "(IIIIII)I"⟩
abbrev cX11_station : ByteArray := prog_1_method_4_code
def yX11_station : MethodName := ⟨RX11, "station", "(II)I"⟩
abbrev cX11_squadron : ByteArray := prog_1_method_5_code
def yX11_squadron : MethodName := ⟨RX11, "squadron", "(IIIII)I"⟩
abbrev cX11_gun : ByteArray := prog_1_method_6_code
def yX11_gun : MethodName := ⟨RX11, "gun", "(III)I"⟩
abbrev cX11_town : ByteArray := prog_1_method_8_code
def yX11_town : MethodName := ⟨RX11, "town", "(III)I"⟩
abbrev cX11_flight : ByteArray := prog_1_method_10_code
def yX11_flight : MethodName := ⟨RX11, "flight", "(ZIIIIII)I"⟩
abbrev cX11_scramble : ByteArray := prog_1_method_13_code
def yX11_scramble : MethodName := ⟨RX11, "scramble", "(II)I"⟩
abbrev cX11_lead : ByteArray := prog_1_method_14_code
def yX11_lead : MethodName := ⟨RX11, "lead", "(II)I"⟩
abbrev cX11_back : ByteArray := prog_1_method_15_code
def yX11_back : MethodName := ⟨RX11, "back", "(I)I"⟩
abbrev cX11_reinforce : ByteArray := prog_1_method_16_code
def yX11_reinforce : MethodName := ⟨RX11, "reinforce", "(II)I"⟩
abbrev cX11_pass : ByteArray := prog_1_method_17_code
def yX11_pass : MethodName := ⟨RX11, "pass", "(I)I"⟩
abbrev cX11_call : ByteArray := prog_1_method_18_code
def yX11_call : MethodName := ⟨RX11, "call", "()I"⟩
abbrev cX11_ofFlight : ByteArray := prog_1_method_19_code
def yX11_ofFlight : MethodName := ⟨RX11, "ofFlight", "(II)I"⟩
abbrev cX11_ofMast : ByteArray := prog_1_method_21_code
def yX11_ofMast : MethodName := ⟨RX11, "ofMast", "(II)I"⟩
abbrev cX11_ofSquadron : ByteArray := prog_1_method_22_code
def yX11_ofSquadron : MethodName := ⟨RX11, "ofSquadron", "(II)I"⟩
abbrev cX11_room : ByteArray := prog_1_method_23_code
def yX11_room : MethodName := ⟨RX11, "room", "(I)I"⟩
abbrev cX11_ofTrack : ByteArray := prog_1_method_24_code
def yX11_ofTrack : MethodName := ⟨RX11, "ofTrack", "(II)I"⟩
abbrev cX11_seen : ByteArray := prog_1_method_29_code
def yX11_seen : MethodName := ⟨RX11, "seen", "()D"⟩
abbrev cX11_best : ByteArray := prog_1_method_31_code
def yX11_best : MethodName := ⟨RX11, "best", "(I)I"⟩
abbrev cX11_wouldSound : ByteArray := prog_1_method_33_code
def yX11_wouldSound : MethodName := ⟨RX11, "wouldSound", "(I)I"⟩
abbrev cX11_isSound : ByteArray := prog_1_method_34_code
def yX11_isSound : MethodName := ⟨RX11, "isSound", "()Z"⟩
abbrev cX11_digest : ByteArray := prog_1_method_35_code
def yX11_digest : MethodName := ⟨RX11, "digest", "()J"⟩
abbrev cX11_digestSky : ByteArray := prog_1_method_36_code
def yX11_digestSky : MethodName := ⟨RX11, "digestSky", "(J)J"⟩
abbrev cX11_digestTracks : ByteArray := prog_1_method_37_code
def yX11_digestTracks : MethodName := ⟨RX11, "digestTracks", "(J)J"⟩
abbrev cX11_passOne : ByteArray := prog_1_method_38_code
def yX11_passOne : MethodName := ⟨RX11, "passOne", "()V"⟩
abbrev cX11_makePlots : ByteArray := prog_1_method_39_code
def yX11_makePlots : MethodName := ⟨RX11, "makePlots", "()V"⟩
abbrev cX11_makePlot : ByteArray := prog_1_method_40_code
def yX11_makePlot : MethodName := ⟨RX11, "makePlot", "(LPlotroom$Mast;LPlotroom$Flight;)V"⟩
abbrev cX11_bringPlots : ByteArray := prog_1_method_41_code
def yX11_bringPlots : MethodName := ⟨RX11, "bringPlots", "()V"⟩
abbrev cX11_bringPlot : ByteArray := prog_1_method_42_code
def yX11_bringPlot : MethodName := ⟨RX11, "bringPlot", "(LPlotroom$Plot;)V"⟩
abbrev cX11_trackFor : ByteArray := prog_1_method_43_code
def yX11_trackFor : MethodName := ⟨RX11, "trackFor", "(LPlotroom$Plot;)LPlotroom$Track;"⟩
abbrev cX11_takeTurn : ByteArray := prog_1_method_44_code
def yX11_takeTurn : MethodName := ⟨RX11, "takeTurn", "(LPlotroom$Squadron;)V"⟩
abbrev cX11_fly : ByteArray := prog_1_method_45_code
def yX11_fly : MethodName := ⟨RX11, "fly", "(LPlotroom$Squadron;)V"⟩
abbrev cX11_loseMachines : ByteArray := prog_1_method_46_code
def yX11_loseMachines : MethodName := ⟨RX11, "loseMachines", "(LPlotroom$Squadron;I)V"⟩
abbrev cX11_fightWith : ByteArray := prog_1_method_47_code
def yX11_fightWith : MethodName := ⟨RX11, "fightWith", "(LPlotroom$Squadron;)V"⟩
abbrev cX11_foeNear : ByteArray := prog_1_method_48_code
def yX11_foeNear : MethodName := ⟨RX11, "foeNear", "(LPlotroom$Squadron;)LPlotroom$Flight;"⟩
abbrev cX11_winOf : ByteArray := prog_1_method_49_code
def yX11_winOf : MethodName := ⟨RX11, "winOf", "(LPlotroom$Squadron;LPlotroom$Flight;I)I"⟩
abbrev cX11_fireGun : ByteArray := prog_1_method_50_code
def yX11_fireGun : MethodName := ⟨RX11, "fireGun", "(LPlotroom$Gun;)V"⟩
abbrev cX11_loseTracks : ByteArray := prog_1_method_51_code
def yX11_loseTracks : MethodName := ⟨RX11, "loseTracks", "()V"⟩
abbrev cX11_countTown : ByteArray := prog_1_method_52_code
def yX11_countTown : MethodName := ⟨RX11, "countTown", "(LPlotroom$Town;)V"⟩
abbrev cX11_kindOf : ByteArray := prog_1_method_53_code
def yX11_kindOf : MethodName := ⟨RX11, "kindOf", "(LPlotroom$Track;)I"⟩
abbrev cX11_isSquadronWithin : ByteArray := prog_1_method_54_code
def yX11_isSquadronWithin : MethodName := ⟨RX11, "isSquadronWithin", "(III)Z"⟩
abbrev cX11_minutesToSiren : ByteArray := prog_1_method_55_code
def yX11_minutesToSiren : MethodName := ⟨RX11, "minutesToSiren", "(LPlotroom$Town;)I"⟩
abbrev cX11_minutesToThreat : ByteArray := prog_1_method_56_code
def yX11_minutesToThreat : MethodName := ⟨RX11, "minutesToThreat", "(LPlotroom$Town;I)I"⟩
abbrev cX11_minutesToNear : ByteArray := prog_1_method_57_code
def yX11_minutesToNear : MethodName := ⟨RX11, "minutesToNear", "(LPlotroom$Town;LPlotroom$Track;I)I"⟩
abbrev cX11_tellRoom : ByteArray := prog_1_method_58_code
def yX11_tellRoom : MethodName := ⟨RX11, "tellRoom", "(I)I"⟩
abbrev cX11_tellTrack : ByteArray := prog_1_method_59_code
def yX11_tellTrack : MethodName := ⟨RX11, "tellTrack", "(LPlotroom$Track;I)I"⟩
abbrev cX11_countUp : ByteArray := prog_1_method_60_code
def yX11_countUp : MethodName := ⟨RX11, "countUp", "(Z)I"⟩
abbrev cX11_countFoeMachines : ByteArray := prog_1_method_61_code
def yX11_countFoeMachines : MethodName := ⟨RX11, "countFoeMachines", "()I"⟩
abbrev cX11_countLive : ByteArray := prog_1_method_62_code
def yX11_countLive : MethodName := ⟨RX11, "countLive", "()I"⟩
abbrev cX11_countLiveOfKind : ByteArray := prog_1_method_63_code
def yX11_countLiveOfKind : MethodName := ⟨RX11, "countLiveOfKind", "(I)I"⟩
abbrev cX11_countInAir : ByteArray := prog_1_method_66_code
def yX11_countInAir : MethodName := ⟨RX11, "countInAir", "()I"⟩
abbrev cX11_countTalks : ByteArray := prog_1_method_67_code
def yX11_countTalks : MethodName := ⟨RX11, "countTalks", "()I"⟩
abbrev cX11_countSentTo : ByteArray := prog_1_method_68_code
def yX11_countSentTo : MethodName := ⟨RX11, "countSentTo", "(LPlotroom$Track;)I"⟩
abbrev cX11_countWon : ByteArray := prog_1_method_69_code
def yX11_countWon : MethodName := ⟨RX11, "countWon", "()I"⟩
abbrev cX11_flightBehind : ByteArray := prog_1_method_70_code
def yX11_flightBehind : MethodName := ⟨RX11, "flightBehind", "(LPlotroom$Track;)I"⟩
abbrev cX11_partSeen : ByteArray := prog_1_method_71_code
def yX11_partSeen : MethodName := ⟨RX11, "partSeen", "()D"⟩
abbrev cX11_isOnTable : ByteArray := prog_1_method_72_code
def yX11_isOnTable : MethodName := ⟨RX11, "isOnTable", "(LPlotroom$Flight;)Z"⟩
abbrev cX11_soonestSquadron : ByteArray := prog_1_method_73_code
def yX11_soonestSquadron : MethodName := ⟨RX11, "soonestSquadron", "(LPlotroom$Track;)I"⟩
abbrev cX11_areSquadronsSound : ByteArray := prog_1_method_74_code
def yX11_areSquadronsSound : MethodName := ⟨RX11, "areSquadronsSound", "()Z"⟩
abbrev cX11_arePlotsSound : ByteArray := prog_1_method_75_code
def yX11_arePlotsSound : MethodName := ⟨RX11, "arePlotsSound", "()Z"⟩
abbrev cX11_arePlacesSound : ByteArray := prog_1_method_76_code
def yX11_arePlacesSound : MethodName := ⟨RX11, "arePlacesSound", "()Z"⟩
abbrev cX11_isIn : ByteArray := prog_1_method_77_code
def yX11_isIn : MethodName := ⟨RX11, "isIn", "(III)Z"⟩
abbrev cX11_isPlace : ByteArray := prog_1_method_78_code
def yX11_isPlace : MethodName := ⟨RX11, "isPlace", "(II)Z"⟩
abbrev cX11_isCourse : ByteArray := prog_1_method_79_code
def yX11_isCourse : MethodName := ⟨RX11, "isCourse", "(II)Z"⟩
abbrev cX11_isNumber : ByteArray := prog_1_method_80_code
def yX11_isNumber : MethodName := ⟨RX11, "isNumber", "(II)Z"⟩
abbrev cX11_hold : ByteArray := prog_1_method_81_code
def yX11_hold : MethodName := ⟨RX11, "hold", "(I)I"⟩
abbrev cX11_rootAbove : ByteArray := prog_1_method_82_code
def yX11_rootAbove : MethodName := ⟨RX11, "rootAbove", "(I)I"⟩
def RX12 : String := "PlotroomModel$Flight"
def TX12 : u_T := fun k => match k with
  | _ => ("", "", "", false)
def tyX12 : Nat → FieldType := fun k => match k with
  | _ => .int
abbrev wsX120 : List Cond := u_ws RX12 TX12 0
theorem nmX12 : ∀ a, a < 0 → ∀ b, b < 0 → a ≠ b → (TX12 a).2.1 ≠ (TX12 b).2.1 := by decide +kernel
theorem tyX12_ok : ∀ k, k < 0 → parseFieldDescriptor (TX12 k).2.2.1 = some (tyX12 k) := by decide +kernel
def RX13 : String := "PlotroomModel$Mast"
def TX13 : u_T := fun k => match k with
  | _ => ("", "", "", false)
def tyX13 : Nat → FieldType := fun k => match k with
  | _ => .int
abbrev wsX130 : List Cond := u_ws RX13 TX13 0
theorem nmX13 : ∀ a, a < 0 → ∀ b, b < 0 → a ≠ b → (TX13 a).2.1 ≠ (TX13 b).2.1 := by decide +kernel
theorem tyX13_ok : ∀ k, k < 0 → parseFieldDescriptor (TX13 k).2.2.1 = some (tyX13 k) := by decide +kernel
def RX14 : String := "PlotroomModel$Plot"
def TX14 : u_T := fun k => match k with
  | _ => ("", "", "", false)
def tyX14 : Nat → FieldType := fun k => match k with
  | _ => .int
abbrev wsX140 : List Cond := u_ws RX14 TX14 0
theorem nmX14 : ∀ a, a < 0 → ∀ b, b < 0 → a ≠ b → (TX14 a).2.1 ≠ (TX14 b).2.1 := by decide +kernel
theorem tyX14_ok : ∀ k, k < 0 → parseFieldDescriptor (TX14 k).2.2.1 = some (tyX14 k) := by decide +kernel
def RX15 : String := "PlotroomModel$Squadron"
def TX15 : u_T := fun k => match k with
  | _ => ("", "", "", false)
def tyX15 : Nat → FieldType := fun k => match k with
  | _ => .int
abbrev wsX150 : List Cond := u_ws RX15 TX15 0
theorem nmX15 : ∀ a, a < 0 → ∀ b, b < 0 → a ≠ b → (TX15 a).2.1 ≠ (TX15 b).2.1 := by decide +kernel
theorem tyX15_ok : ∀ k, k < 0 → parseFieldDescriptor (TX15 k).2.2.1 = some (tyX15 k) := by decide +kernel
def RX16 : String := "PlotroomModel$Track"
def TX16 : u_T := fun k => match k with
  | _ => ("", "", "", false)
def tyX16 : Nat → FieldType := fun k => match k with
  | _ => .int
abbrev wsX160 : List Cond := u_ws RX16 TX16 0
theorem nmX16 : ∀ a, a < 0 → ∀ b, b < 0 → a ≠ b → (TX16 a).2.1 ≠ (TX16 b).2.1 := by decide +kernel
theorem tyX16_ok : ∀ k, k < 0 → parseFieldDescriptor (TX16 k).2.2.1 = some (tyX16 k) := by decide +kernel
def RX17 : String := "PlotroomModel"
def TX17 : u_T := fun k => match k with
  | _ => ("", "", "", false)
def tyX17 : Nat → FieldType := fun k => match k with
  | _ => .int
abbrev wsX170 : List Cond := u_ws RX17 TX17 0
theorem nmX17 : ∀ a, a < 0 → ∀ b, b < 0 → a ≠ b → (TX17 a).2.1 ≠ (TX17 b).2.1 := by decide +kernel
theorem tyX17_ok : ∀ k, k < 0 → parseFieldDescriptor (TX17 k).2.2.1 = some (tyX17 k) := by decide +kernel
def RJx145de : String := "java/io/Serializable"
def TJx145de : u_T := fun k => match k with
  | _ => ("", "", "", false)
def tyJx145de : Nat → FieldType := fun k => match k with
  | _ => .int
abbrev wsJx145de0 : List Cond := u_ws RJx145de TJx145de 0
theorem nmJx145de : ∀ a, a < 0 → ∀ b, b < 0 → a ≠ b → (TJx145de a).2.1 ≠ (TJx145de b).2.1 := by decide +kernel
theorem tyJx145de_ok : ∀ k, k < 0 → parseFieldDescriptor (TJx145de k).2.2.1 = some (tyJx145de k) := by decide +kernel
def RJx8e188 : String := "java/lang/Cloneable"
def TJx8e188 : u_T := fun k => match k with
  | _ => ("", "", "", false)
def tyJx8e188 : Nat → FieldType := fun k => match k with
  | _ => .int
abbrev wsJx8e1880 : List Cond := u_ws RJx8e188 TJx8e188 0
theorem nmJx8e188 : ∀ a, a < 0 → ∀ b, b < 0 → a ≠ b → (TJx8e188 a).2.1 ≠ (TJx8e188 b).2.1 := by decide +kernel
theorem tyJx8e188_ok : ∀ k, k < 0 → parseFieldDescriptor (TJx8e188 k).2.2.1 = some (tyJx8e188 k) := by decide +kernel
def RJxab1ab : String := "java/lang/Iterable"
def TJxab1ab : u_T := fun k => match k with
  | _ => ("", "", "", false)
def tyJxab1ab : Nat → FieldType := fun k => match k with
  | _ => .int
abbrev wsJxab1ab0 : List Cond := u_ws RJxab1ab TJxab1ab 0
theorem nmJxab1ab : ∀ a, a < 0 → ∀ b, b < 0 → a ≠ b → (TJxab1ab a).2.1 ≠ (TJxab1ab b).2.1 := by decide +kernel
theorem tyJxab1ab_ok : ∀ k, k < 0 → parseFieldDescriptor (TJxab1ab k).2.2.1 = some (tyJxab1ab k) := by decide +kernel
def RJ9 : String := "java/lang/Math"
def TJ9 : u_T := fun k => match k with
  | _ => ("", "", "", false)
def tyJ9 : Nat → FieldType := fun k => match k with
  | _ => .int
abbrev wsJ90 : List Cond := u_ws RJ9 TJ9 0
theorem nmJ9 : ∀ a, a < 0 → ∀ b, b < 0 → a ≠ b → (TJ9 a).2.1 ≠ (TJ9 b).2.1 := by decide +kernel
theorem tyJ9_ok : ∀ k, k < 0 → parseFieldDescriptor (TJ9 k).2.2.1 = some (tyJ9 k) := by decide +kernel
abbrev cJ9_max_7cf53 : ByteArray := prog_27_method_65_code
def yJ9_max_7cf53 : MethodName := ⟨RJ9, "max", "(II)I"⟩
abbrev cJ9_min_7cf53 : ByteArray := prog_27_method_69_code
def yJ9_min_7cf53 : MethodName := ⟨RJ9, "min", "(II)I"⟩
def RJ0 : String := "java/lang/String"
def TJ0 : u_T := fun k => match k with
  | _ => ("", "", "", false)
def tyJ0 : Nat → FieldType := fun k => match k with
  | _ => .int
abbrev wsJ00 : List Cond := u_ws RJ0 TJ0 0
theorem nmJ0 : ∀ a, a < 0 → ∀ b, b < 0 → a ≠ b → (TJ0 a).2.1 ≠ (TJ0 b).2.1 := by decide +kernel
theorem tyJ0_ok : ∀ k, k < 0 → parseFieldDescriptor (TJ0 k).2.2.1 = some (tyJ0 k) := by decide +kernel
def RJ10 : String := "java/lang/System"
def TJ10 : u_T := fun k => match k with
  | _ => ("", "", "", false)
def tyJ10 : Nat → FieldType := fun k => match k with
  | _ => .int
abbrev wsJ100 : List Cond := u_ws RJ10 TJ10 0
theorem nmJ10 : ∀ a, a < 0 → ∀ b, b < 0 → a ≠ b → (TJ10 a).2.1 ≠ (TJ10 b).2.1 := by decide +kernel
theorem tyJ10_ok : ∀ k, k < 0 → parseFieldDescriptor (TJ10 k).2.2.1 = some (tyJ10 k) := by decide +kernel
def RJxa1e45 : String := "java/util/AbstractCollection"
def TJxa1e45 : u_T := fun k => match k with
  | _ => ("", "", "", false)
def tyJxa1e45 : Nat → FieldType := fun k => match k with
  | _ => .int
abbrev wsJxa1e450 : List Cond := u_ws RJxa1e45 TJxa1e45 0
theorem nmJxa1e45 : ∀ a, a < 0 → ∀ b, b < 0 → a ≠ b → (TJxa1e45 a).2.1 ≠ (TJxa1e45 b).2.1 := by decide +kernel
theorem tyJxa1e45_ok : ∀ k, k < 0 → parseFieldDescriptor (TJxa1e45 k).2.2.1 = some (tyJxa1e45 k) := by decide +kernel
abbrev cJxa1e45_init_da8c8 : ByteArray := prog_32_method_1_code
def yJxa1e45_init_da8c8 : MethodName := ⟨RJxa1e45, "<init>", "()V"⟩
def RJxc12de : String := "java/util/AbstractList"
def TJxc12de : u_T := fun k => match k with
  | _ => ("", "", "", false)
def tyJxc12de : Nat → FieldType := fun k => match k with
  | _ => .int
abbrev wsJxc12de0 : List Cond := u_ws RJxc12de TJxc12de 0
theorem nmJxc12de : ∀ a, a < 0 → ∀ b, b < 0 → a ≠ b → (TJxc12de a).2.1 ≠ (TJxc12de b).2.1 := by decide +kernel
theorem tyJxc12de_ok : ∀ k, k < 0 → parseFieldDescriptor (TJxc12de k).2.2.1 = some (tyJxc12de k) := by decide +kernel
abbrev cJxc12de_init_da8c8 : ByteArray := prog_33_method_1_code
def yJxc12de_init_da8c8 : MethodName := ⟨RJxc12de, "<init>", "()V"⟩
def RJx4a65c : String := "java/util/ArrayList"
def TJx4a65c : u_T := fun k => match k with
  | 0 => ("java/util/AbstractList", "modCount", "I", false)
  | 1 => ("java/util/ArrayList", "elementData", "[Ljava/lang/Object;", false)
  | _ => ("java/util/ArrayList", "size", "I", false)
def tyJx4a65c : Nat → FieldType := fun k => match k with
  | 0 => .int
  | 1 => .array (.object "java/lang/Object")
  | _ => .int
abbrev wsJx4a65c0 : List Cond := u_ws RJx4a65c TJx4a65c 3
theorem nmJx4a65c : ∀ a, a < 3 → ∀ b, b < 3 → a ≠ b → (TJx4a65c a).2.1 ≠ (TJx4a65c b).2.1 := by decide +kernel
theorem tyJx4a65c_ok : ∀ k, k < 3 → parseFieldDescriptor (TJx4a65c k).2.2.1 = some (tyJx4a65c k) := by decide +kernel
abbrev cJx4a65c_init_da8c8 : ByteArray := prog_34_method_2_code
def yJx4a65c_init_da8c8 : MethodName := ⟨RJx4a65c, "<init>", "()V"⟩
abbrev cJx4a65c_grow_92f84 : ByteArray := prog_34_method_6_code
def yJx4a65c_grow_92f84 : MethodName := ⟨RJx4a65c, "grow", "(I)[Ljava/lang/Object;"⟩
abbrev cJx4a65c_grow_d5877 : ByteArray := prog_34_method_7_code
def yJx4a65c_grow_d5877 : MethodName := ⟨RJx4a65c, "grow", "()[Ljava/lang/Object;"⟩
abbrev cJx4a65c_size_8abf5 : ByteArray := prog_34_method_8_code
def yJx4a65c_size_8abf5 : MethodName := ⟨RJx4a65c, "size", "()I"⟩
abbrev cJx4a65c_elementData_915e3 : ByteArray := prog_34_method_18_code
def yJx4a65c_elementData_915e3 : MethodName := ⟨RJx4a65c, "elementData", "(I)Ljava/lang/Object;"⟩
abbrev cJx4a65c_get_915e3 : ByteArray := prog_34_method_20_code
def yJx4a65c_get_915e3 : MethodName := ⟨RJx4a65c, "get", "(I)Ljava/lang/Object;"⟩
abbrev cJx4a65c_set_bcc79 : ByteArray := prog_34_method_23_code
def yJx4a65c_set_bcc79 : MethodName := ⟨RJx4a65c, "set", "(ILjava/lang/Object;)Ljava/lang/Object;"⟩
abbrev cJx4a65c_add_72be8 : ByteArray := prog_34_method_24_code
def yJx4a65c_add_72be8 : MethodName := ⟨RJx4a65c, "add", "(Ljava/lang/Object;[Ljava/lang/Object;I)V"⟩
abbrev cJx4a65c_add_9ea2d : ByteArray := prog_34_method_25_code
def yJx4a65c_add_9ea2d : MethodName := ⟨RJx4a65c, "add", "(Ljava/lang/Object;)Z"⟩
def RJ7 : String := "java/util/Arrays"
def TJ7 : u_T := fun k => match k with
  | _ => ("", "", "", false)
def tyJ7 : Nat → FieldType := fun k => match k with
  | _ => .int
abbrev wsJ70 : List Cond := u_ws RJ7 TJ7 0
theorem nmJ7 : ∀ a, a < 0 → ∀ b, b < 0 → a ≠ b → (TJ7 a).2.1 ≠ (TJ7 b).2.1 := by decide +kernel
theorem tyJ7_ok : ∀ k, k < 0 → parseFieldDescriptor (TJ7 k).2.2.1 = some (tyJ7 k) := by decide +kernel
abbrev cJ7_copyOf_1904c : ByteArray := prog_35_method_119_code
def yJ7_copyOf_1904c : MethodName := ⟨RJ7, "copyOf", "([Ljava/lang/Object;I)[Ljava/lang/Object;"⟩
abbrev cJ7_copyOf_6403c : ByteArray := prog_35_method_120_code
def yJ7_copyOf_6403c : MethodName := ⟨RJ7, "copyOf", "([Ljava/lang/Object;ILjava/lang/Class;)[Ljava/lang/Object;"⟩
def RJx5ef63 : String := "java/util/Collection"
def TJx5ef63 : u_T := fun k => match k with
  | _ => ("", "", "", false)
def tyJx5ef63 : Nat → FieldType := fun k => match k with
  | _ => .int
abbrev wsJx5ef630 : List Cond := u_ws RJx5ef63 TJx5ef63 0
theorem nmJx5ef63 : ∀ a, a < 0 → ∀ b, b < 0 → a ≠ b → (TJx5ef63 a).2.1 ≠ (TJx5ef63 b).2.1 := by decide +kernel
theorem tyJx5ef63_ok : ∀ k, k < 0 → parseFieldDescriptor (TJx5ef63 k).2.2.1 = some (tyJx5ef63 k) := by decide +kernel
def RJxbd725 : String := "java/util/List"
def TJxbd725 : u_T := fun k => match k with
  | _ => ("", "", "", false)
def tyJxbd725 : Nat → FieldType := fun k => match k with
  | _ => .int
abbrev wsJxbd7250 : List Cond := u_ws RJxbd725 TJxbd725 0
theorem nmJxbd725 : ∀ a, a < 0 → ∀ b, b < 0 → a ≠ b → (TJxbd725 a).2.1 ≠ (TJxbd725 b).2.1 := by decide +kernel
theorem tyJxbd725_ok : ∀ k, k < 0 → parseFieldDescriptor (TJxbd725 k).2.2.1 = some (tyJxbd725 k) := by decide +kernel
def RJ15 : String := "java/util/Objects"
def TJ15 : u_T := fun k => match k with
  | _ => ("", "", "", false)
def tyJ15 : Nat → FieldType := fun k => match k with
  | _ => .int
abbrev wsJ150 : List Cond := u_ws RJ15 TJ15 0
theorem nmJ15 : ∀ a, a < 0 → ∀ b, b < 0 → a ≠ b → (TJ15 a).2.1 ≠ (TJ15 b).2.1 := by decide +kernel
theorem tyJ15_ok : ∀ k, k < 0 → parseFieldDescriptor (TJ15 k).2.2.1 = some (tyJ15 k) := by decide +kernel
abbrev cJ15_checkIndex_7cf53 : ByteArray := prog_38_method_17_code
def yJ15_checkIndex_7cf53 : MethodName := ⟨RJ15, "checkIndex", "(II)I"⟩
def RJxf0a74 : String := "java/util/RandomAccess"
def TJxf0a74 : u_T := fun k => match k with
  | _ => ("", "", "", false)
def tyJxf0a74 : Nat → FieldType := fun k => match k with
  | _ => .int
abbrev wsJxf0a740 : List Cond := u_ws RJxf0a74 TJxf0a74 0
theorem nmJxf0a74 : ∀ a, a < 0 → ∀ b, b < 0 → a ≠ b → (TJxf0a74 a).2.1 ≠ (TJxf0a74 b).2.1 := by decide +kernel
theorem tyJxf0a74_ok : ∀ k, k < 0 → parseFieldDescriptor (TJxf0a74 k).2.2.1 = some (tyJxf0a74 k) := by decide +kernel
def RJxa66e6 : String := "java/util/SequencedCollection"
def TJxa66e6 : u_T := fun k => match k with
  | _ => ("", "", "", false)
def tyJxa66e6 : Nat → FieldType := fun k => match k with
  | _ => .int
abbrev wsJxa66e60 : List Cond := u_ws RJxa66e6 TJxa66e6 0
theorem nmJxa66e6 : ∀ a, a < 0 → ∀ b, b < 0 → a ≠ b → (TJxa66e6 a).2.1 ≠ (TJxa66e6 b).2.1 := by decide +kernel
theorem tyJxa66e6_ok : ∀ k, k < 0 → parseFieldDescriptor (TJxa66e6 k).2.2.1 = some (tyJxa66e6 k) := by decide +kernel
def RJ8 : String := "jdk/internal/util/ArraysSupport"
def TJ8 : u_T := fun k => match k with
  | _ => ("", "", "", false)
def tyJ8 : Nat → FieldType := fun k => match k with
  | _ => .int
abbrev wsJ80 : List Cond := u_ws RJ8 TJ8 0
theorem nmJ8 : ∀ a, a < 0 → ∀ b, b < 0 → a ≠ b → (TJ8 a).2.1 ≠ (TJ8 b).2.1 := by decide +kernel
theorem tyJ8_ok : ∀ k, k < 0 → parseFieldDescriptor (TJ8 k).2.2.1 = some (tyJ8 k) := by decide +kernel
abbrev cJ8_newLength_cabcc : ByteArray := prog_41_method_27_code
def yJ8_newLength_cabcc : MethodName := ⟨RJ8, "newLength", "(III)I"⟩
abbrev cJ8_hugeLength_7cf53 : ByteArray := prog_41_method_28_code
def yJ8_hugeLength_7cf53 : MethodName := ⟨RJ8, "hugeLength", "(II)I"⟩
def RJ3 : String := "jdk/internal/util/Preconditions"
def TJ3 : u_T := fun k => match k with
  | _ => ("", "", "", false)
def tyJ3 : Nat → FieldType := fun k => match k with
  | _ => .int
abbrev wsJ30 : List Cond := u_ws RJ3 TJ3 0
theorem nmJ3 : ∀ a, a < 0 → ∀ b, b < 0 → a ≠ b → (TJ3 a).2.1 ≠ (TJ3 b).2.1 := by decide +kernel
theorem tyJ3_ok : ∀ k, k < 0 → parseFieldDescriptor (TJ3 k).2.2.1 = some (tyJ3 k) := by decide +kernel
abbrev cJ3_checkIndex_8e157 : ByteArray := prog_42_method_11_code
def yJ3_checkIndex_8e157 : MethodName := ⟨RJ3, "checkIndex", "(IILjava/util/function/BiFunction;)I"⟩
def RL : String := "PlotroomLaw"
abbrev cL_below : ByteArray := method_2_code
def yL_below : MethodName := ⟨RL, "below", "(II)I"⟩
abbrev cL_cell : ByteArray := method_3_code
def yL_cell : MethodName := ⟨RL, "cell", "([II)I"⟩
abbrev cL_law : ByteArray := code
def yL_law : MethodName := ⟨RL, "law", "([I)Z"⟩
abbrev cL_acted : ByteArray := method_5_code
def yL_acted : MethodName := ⟨RL, "acted", "(LPlotroom;III)I"⟩
abbrev cL_isWell : ByteArray := method_6_code
def yL_isWell : MethodName := ⟨RL, "isWell", "(LPlotroom;III)Z"⟩
