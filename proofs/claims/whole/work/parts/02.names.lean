/-! ===== BEGIN words of one list among another's, by their places ===== -/
/-! ===== END ===== -/

/-! ===== BEGIN printed: names, fields, word lists, decode rows ===== -/
def RX0 : String := "BeamCuts$Plan"
def TX0 : u_T := fun k => match k with
  | 0 => ("BeamCuts$Plan", "letters", "[C", true)
  | 1 => ("BeamCuts$Plan", "kinds", "[I", true)
  | 2 => ("BeamCuts$Plan", "firsts", "[I", true)
  | 3 => ("BeamCuts$Plan", "seconds", "[I", true)
  | 4 => ("BeamCuts$Plan", "length", "I", false)
  | 5 => ("BeamCuts$Plan", "size", "I", false)
  | _ => ("BeamCuts$Plan", "at", "I", false)
def tyX0 : Nat → FieldType := fun k => match k with
  | 0 => .array .char
  | 1 => .array .int
  | 2 => .array .int
  | 3 => .array .int
  | 4 => .int
  | 5 => .int
  | _ => .int
abbrev wsX00 : List Cond := u_ws RX0 TX0 7
theorem nmX0 : ∀ a, a < 7 → ∀ b, b < 7 → a ≠ b → (TX0 a).2.1 ≠ (TX0 b).2.1 := by decide +kernel
theorem tyX0_ok : ∀ k, k < 7 → parseFieldDescriptor (TX0 k).2.2.1 = some (tyX0 k) := by decide +kernel
abbrev cX0_init : ByteArray := prog_2_method_1_code
def yX0_init : MethodName := ⟨RX0, "<init>", "()V"⟩
abbrev cX0_addLetter : ByteArray := prog_2_method_2_code
def yX0_addLetter : MethodName := ⟨RX0, "addLetter", "(C)I"⟩
abbrev cX0_dropLetters : ByteArray := prog_2_method_3_code
def yX0_dropLetters : MethodName := ⟨RX0, "dropLetters", "()I"⟩
abbrev cX0_read : ByteArray := prog_2_method_4_code
def yX0_read : MethodName := ⟨RX0, "read", "()I"⟩
abbrev cX0_readThing : ByteArray := prog_2_method_5_code
def yX0_readThing : MethodName := ⟨RX0, "readThing", "()Z"⟩
abbrev cX0_readLetter : ByteArray := prog_2_method_6_code
def yX0_readLetter : MethodName := ⟨RX0, "readLetter", "(C)Z"⟩
abbrev cX0_readNumber : ByteArray := prog_2_method_7_code
def yX0_readNumber : MethodName := ⟨RX0, "readNumber", "([III)Z"⟩
abbrev cX0_digitAt : ByteArray := prog_2_method_8_code
def yX0_digitAt : MethodName := ⟨RX0, "digitAt", "(I)I"⟩
abbrev cX0_doThing : ByteArray := prog_2_method_9_code
def yX0_doThing : MethodName := ⟨RX0, "doThing", "(ILBeamCuts$Sheet;)I"⟩
def RX1 : String := "BeamCuts$Shape"
def TX1 : u_T := fun k => match k with
  | 0 => ("BeamCuts$Shape", "left", "I", false)
  | 1 => ("BeamCuts$Shape", "top", "I", false)
  | 2 => ("BeamCuts$Shape", "width", "I", false)
  | 3 => ("BeamCuts$Shape", "height", "I", false)
  | 4 => ("BeamCuts$Shape", "lead", "I", false)
  | 5 => ("BeamCuts$Shape", "condition", "I", false)
  | 6 => ("BeamCuts$Shape", "tilted", "I", false)
  | 7 => ("BeamCuts$Shape", "rank", "I", false)
  | _ => ("BeamCuts$Shape", "edgeIn", "[I", true)
def tyX1 : Nat → FieldType := fun k => match k with
  | 0 => .int
  | 1 => .int
  | 2 => .int
  | 3 => .int
  | 4 => .int
  | 5 => .int
  | 6 => .int
  | 7 => .int
  | _ => .array .int
abbrev wsX10 : List Cond := u_ws RX1 TX1 9
theorem nmX1 : ∀ a, a < 9 → ∀ b, b < 9 → a ≠ b → (TX1 a).2.1 ≠ (TX1 b).2.1 := by decide +kernel
theorem tyX1_ok : ∀ k, k < 9 → parseFieldDescriptor (TX1 k).2.2.1 = some (tyX1 k) := by decide +kernel
abbrev cX1_init : ByteArray := prog_3_method_1_code
def yX1_init : MethodName := ⟨RX1, "<init>", "()V"⟩
abbrev cX1_copyFrom : ByteArray := prog_3_method_2_code
def yX1_copyFrom : MethodName := ⟨RX1, "copyFrom", "(LBeamCuts$Shape;)V"⟩
abbrev cX1_place : ByteArray := prog_3_method_3_code
def yX1_place : MethodName := ⟨RX1, "place", "(IIII)V"⟩
abbrev cX1_fieldsIn : ByteArray := prog_3_method_4_code
def yX1_fieldsIn : MethodName := ⟨RX1, "fieldsIn", "(II)I"⟩
abbrev cX1_isInside : ByteArray := prog_3_method_5_code
def yX1_isInside : MethodName := ⟨RX1, "isInside", "(LBeamCuts$Shape;)Z"⟩
abbrev cX1_isApartFrom : ByteArray := prog_3_method_6_code
def yX1_isApartFrom : MethodName := ⟨RX1, "isApartFrom", "(LBeamCuts$Shape;)Z"⟩
abbrev cX1_edge : ByteArray := prog_3_method_7_code
def yX1_edge : MethodName := ⟨RX1, "edge", "()I"⟩
abbrev cX1_leadColumn : ByteArray := prog_3_method_8_code
def yX1_leadColumn : MethodName := ⟨RX1, "leadColumn", "()I"⟩
abbrev cX1_leadRow : ByteArray := prog_3_method_9_code
def yX1_leadRow : MethodName := ⟨RX1, "leadRow", "()I"⟩
abbrev cX1_leadSquare : ByteArray := prog_3_method_10_code
def yX1_leadSquare : MethodName := ⟨RX1, "leadSquare", "()I"⟩
def RX2 : String := "BeamCuts$Sheet"
def TX2 : u_T := fun k => match k with
  | 0 => ("BeamCuts$Sheet", "shapes", "[LBeamCuts$Shape;", true)
  | 1 => ("BeamCuts$Sheet", "heats", "[I", true)
  | 2 => ("BeamCuts$Sheet", "settings", "[I", true)
  | 3 => ("BeamCuts$Sheet", "told", "I", false)
  | 4 => ("BeamCuts$Sheet", "column", "I", false)
  | 5 => ("BeamCuts$Sheet", "row", "I", false)
  | 6 => ("BeamCuts$Sheet", "dirt", "I", false)
  | 7 => ("BeamCuts$Sheet", "ticks", "I", false)
  | 8 => ("BeamCuts$Sheet", "burningTicks", "I", false)
  | _ => ("BeamCuts$Sheet", "cuts", "I", false)
def tyX2 : Nat → FieldType := fun k => match k with
  | 0 => .array (.object "BeamCuts$Shape")
  | 1 => .array .int
  | 2 => .array .int
  | 3 => .int
  | 4 => .int
  | 5 => .int
  | 6 => .int
  | 7 => .int
  | 8 => .int
  | _ => .int
abbrev wsX20 : List Cond := u_ws RX2 TX2 10
theorem nmX2 : ∀ a, a < 10 → ∀ b, b < 10 → a ≠ b → (TX2 a).2.1 ≠ (TX2 b).2.1 := by decide +kernel
theorem tyX2_ok : ∀ k, k < 10 → parseFieldDescriptor (TX2 k).2.2.1 = some (tyX2 k) := by decide +kernel
abbrev cX2_init : ByteArray := prog_4_method_1_code
def yX2_init : MethodName := ⟨RX2, "<init>", "()V"⟩
abbrev cX2_copyFrom : ByteArray := prog_4_method_2_code
def yX2_copyFrom : MethodName := ⟨RX2, "copyFrom", "(LBeamCuts$Sheet;)V"⟩
abbrev cX2_knows : ByteArray := prog_4_method_3_code
def yX2_knows : MethodName := ⟨RX2, "knows", "(I)Z"⟩
abbrev cX2_addShape : ByteArray := prog_4_method_4_code
def yX2_addShape : MethodName := ⟨RX2, "addShape", "(IIII)I"⟩
abbrev cX2_fits : ByteArray := prog_4_method_5_code
def yX2_fits : MethodName := ⟨RX2, "fits", "(LBeamCuts$Shape;)Z"⟩
abbrev cX2_changeLead : ByteArray := prog_4_method_6_code
def yX2_changeLead : MethodName := ⟨RX2, "changeLead", "(II)I"⟩
abbrev cX2_changeSetting : ByteArray := prog_4_method_7_code
def yX2_changeSetting : MethodName := ⟨RX2, "changeSetting", "(II)I"⟩
abbrev cX2_cutShape : ByteArray := prog_4_method_8_code
def yX2_cutShape : MethodName := ⟨RX2, "cutShape", "(I)I"⟩
abbrev cX2_burnEdge : ByteArray := prog_4_method_9_code
def yX2_burnEdge : MethodName := ⟨RX2, "burnEdge", "(LBeamCuts$Shape;)V"⟩
abbrev cX2_loseShapesInside : ByteArray := prog_4_method_10_code
def yX2_loseShapesInside : MethodName := ⟨RX2, "loseShapesInside", "(LBeamCuts$Shape;)I"⟩
abbrev cX2_waitFor : ByteArray := prog_4_method_11_code
def yX2_waitFor : MethodName := ⟨RX2, "waitFor", "(I)I"⟩
abbrev cX2_cleanLens : ByteArray := prog_4_method_12_code
def yX2_cleanLens : MethodName := ⟨RX2, "cleanLens", "()I"⟩
abbrev cX2_coolFor : ByteArray := prog_4_method_13_code
def yX2_coolFor : MethodName := ⟨RX2, "coolFor", "(I)V"⟩
abbrev cX2_wayTo : ByteArray := prog_4_method_14_code
def yX2_wayTo : MethodName := ⟨RX2, "wayTo", "(LBeamCuts$Shape;)I"⟩
abbrev cX2_burningOf : ByteArray := prog_4_method_15_code
def yX2_burningOf : MethodName := ⟨RX2, "burningOf", "(LBeamCuts$Shape;)I"⟩
abbrev cX2_reasonAgainst : ByteArray := prog_4_method_16_code
def yX2_reasonAgainst : MethodName := ⟨RX2, "reasonAgainst", "(I)I"⟩
abbrev cX2_holdsWholeShape : ByteArray := prog_4_method_17_code
def yX2_holdsWholeShape : MethodName := ⟨RX2, "holdsWholeShape", "(LBeamCuts$Shape;)Z"⟩
abbrev cX2_heatOver : ByteArray := prog_4_method_18_code
def yX2_heatOver : MethodName := ⟨RX2, "heatOver", "(LBeamCuts$Shape;)I"⟩
abbrev cX2_ticksToCut : ByteArray := prog_4_method_19_code
def yX2_ticksToCut : MethodName := ⟨RX2, "ticksToCut", "(I)I"⟩
abbrev cX2_ticksToCool : ByteArray := prog_4_method_20_code
def yX2_ticksToCool : MethodName := ⟨RX2, "ticksToCool", "(I)I"⟩
abbrev cX2_bestShape : ByteArray := prog_4_method_21_code
def yX2_bestShape : MethodName := ⟨RX2, "bestShape", "()I"⟩
abbrev cX2_fewestTicksToCool : ByteArray := prog_4_method_22_code
def yX2_fewestTicksToCool : MethodName := ⟨RX2, "fewestTicksToCool", "()I"⟩
abbrev cX2_cutNext : ByteArray := prog_4_method_23_code
def yX2_cutNext : MethodName := ⟨RX2, "cutNext", "()I"⟩
abbrev cX2_heatIn : ByteArray := prog_4_method_24_code
def yX2_heatIn : MethodName := ⟨RX2, "heatIn", "(I)I"⟩
abbrev cX2_greatestHeat : ByteArray := prog_4_method_25_code
def yX2_greatestHeat : MethodName := ⟨RX2, "greatestHeat", "()I"⟩
abbrev cX2_hottestSquare : ByteArray := prog_4_method_26_code
def yX2_hottestSquare : MethodName := ⟨RX2, "hottestSquare", "()I"⟩
abbrev cX2_allHeat : ByteArray := prog_4_method_27_code
def yX2_allHeat : MethodName := ⟨RX2, "allHeat", "()I"⟩
abbrev cX2_shapesThatAre : ByteArray := prog_4_method_28_code
def yX2_shapesThatAre : MethodName := ⟨RX2, "shapesThatAre", "(I)I"⟩
abbrev cX2_shapesThatTilted : ByteArray := prog_4_method_29_code
def yX2_shapesThatTilted : MethodName := ⟨RX2, "shapesThatTilted", "()I"⟩
abbrev cX2_outerOf : ByteArray := prog_4_method_30_code
def yX2_outerOf : MethodName := ⟨RX2, "outerOf", "(LBeamCuts$Shape;)I"⟩
abbrev cX2_setInside : ByteArray := prog_4_method_31_code
def yX2_setInside : MethodName := ⟨RX2, "setInside", "(LBeamCuts$Shape;)I"⟩
abbrev cX2_factOfShape : ByteArray := prog_4_method_32_code
def yX2_factOfShape : MethodName := ⟨RX2, "factOfShape", "(II)I"⟩
abbrev cX2_factOfSheet : ByteArray := prog_4_method_33_code
def yX2_factOfSheet : MethodName := ⟨RX2, "factOfSheet", "(I)I"⟩
def RX3 : String := "BeamCuts"
def TX3 : u_T := fun k => match k with
  | 0 => ("BeamCuts", "sheet", "LBeamCuts$Sheet;", true)
  | 1 => ("BeamCuts", "before", "LBeamCuts$Sheet;", true)
  | 2 => ("BeamCuts", "trial", "LBeamCuts$Sheet;", true)
  | 3 => ("BeamCuts", "snapshot", "LBeamCuts$Sheet;", true)
  | 4 => ("BeamCuts", "history", "[LBeamCuts$Sheet;", true)
  | 5 => ("BeamCuts", "plan", "LBeamCuts$Plan;", true)
  | 6 => ("BeamCuts", "states", "I", false)
  | 7 => ("BeamCuts", "hasSnapshot", "Z", false)
  | 8 => ("BeamCuts", "stopNumber", "I", false)
  | _ => ("BeamCuts", "stopError", "I", false)
def tyX3 : Nat → FieldType := fun k => match k with
  | 0 => .object "BeamCuts$Sheet"
  | 1 => .object "BeamCuts$Sheet"
  | 2 => .object "BeamCuts$Sheet"
  | 3 => .object "BeamCuts$Sheet"
  | 4 => .array (.object "BeamCuts$Sheet")
  | 5 => .object "BeamCuts$Plan"
  | 6 => .int
  | 7 => .boolean
  | 8 => .int
  | _ => .int
abbrev wsX30 : List Cond := u_ws RX3 TX3 10
theorem nmX3 : ∀ a, a < 10 → ∀ b, b < 10 → a ≠ b → (TX3 a).2.1 ≠ (TX3 b).2.1 := by decide +kernel
theorem tyX3_ok : ∀ k, k < 10 → parseFieldDescriptor (TX3 k).2.2.1 = some (tyX3 k) := by decide +kernel
abbrev cX3_init : ByteArray := prog_1_method_1_code
def yX3_init : MethodName := ⟨RX3, "<init>", "()V"⟩
abbrev cX3_tell : ByteArray := prog_1_method_2_code
def yX3_tell : MethodName := ⟨RX3, "tell", "(IIII)I"⟩
abbrev cX3_setLead : ByteArray := prog_1_method_3_code
def yX3_setLead : MethodName := ⟨RX3, "setLead", "(II)I"⟩
abbrev cX3_set : ByteArray := prog_1_method_4_code
def yX3_set : MethodName := ⟨RX3, "set", "(II)I"⟩
abbrev cX3_cut : ByteArray := prog_1_method_5_code
def yX3_cut : MethodName := ⟨RX3, "cut", "(I)I"⟩
abbrev cX3_pause : ByteArray := prog_1_method_6_code
def yX3_pause : MethodName := ⟨RX3, "pause", "(I)I"⟩
abbrev cX3_clean : ByteArray := prog_1_method_7_code
def yX3_clean : MethodName := ⟨RX3, "clean", "()I"⟩
abbrev cX3_type : ByteArray := prog_1_method_8_code
def yX3_type : MethodName := ⟨RX3, "type", "(C)I"⟩
abbrev cX3_clearText : ByteArray := prog_1_method_9_code
def yX3_clearText : MethodName := ⟨RX3, "clearText", "()I"⟩
abbrev cX3_perform : ByteArray := prog_1_method_10_code
def yX3_perform : MethodName := ⟨RX3, "perform", "()I"⟩
abbrev cX3_stopped : ByteArray := prog_1_method_11_code
def yX3_stopped : MethodName := ⟨RX3, "stopped", "(I)I"⟩
abbrev cX3_undo : ByteArray := prog_1_method_12_code
def yX3_undo : MethodName := ⟨RX3, "undo", "()I"⟩
abbrev cX3_keep : ByteArray := prog_1_method_13_code
def yX3_keep : MethodName := ⟨RX3, "keep", "()I"⟩
abbrev cX3_restore : ByteArray := prog_1_method_14_code
def yX3_restore : MethodName := ⟨RX3, "restore", "()I"⟩
abbrev cX3_shape : ByteArray := prog_1_method_15_code
def yX3_shape : MethodName := ⟨RX3, "shape", "(II)I"⟩
abbrev cX3_heat : ByteArray := prog_1_method_16_code
def yX3_heat : MethodName := ⟨RX3, "heat", "(I)I"⟩
abbrev cX3_reason : ByteArray := prog_1_method_17_code
def yX3_reason : MethodName := ⟨RX3, "reason", "(I)I"⟩
abbrev cX3_takes : ByteArray := prog_1_method_18_code
def yX3_takes : MethodName := ⟨RX3, "takes", "(I)I"⟩
abbrev cX3_coolsIn : ByteArray := prog_1_method_19_code
def yX3_coolsIn : MethodName := ⟨RX3, "coolsIn", "(I)I"⟩
abbrev cX3_best : ByteArray := prog_1_method_20_code
def yX3_best : MethodName := ⟨RX3, "best", "()I"⟩
abbrev cX3_ordered : ByteArray := prog_1_method_21_code
def yX3_ordered : MethodName := ⟨RX3, "ordered", "(I)I"⟩
abbrev cX3_allTakes : ByteArray := prog_1_method_22_code
def yX3_allTakes : MethodName := ⟨RX3, "allTakes", "()I"⟩
abbrev cX3_count : ByteArray := prog_1_method_23_code
def yX3_count : MethodName := ⟨RX3, "count", "(I)I"⟩
abbrev cX3_recorded : ByteArray := prog_1_method_24_code
def yX3_recorded : MethodName := ⟨RX3, "recorded", "(I)I"⟩
abbrev cX3_dropOldestState : ByteArray := prog_1_method_25_code
def yX3_dropOldestState : MethodName := ⟨RX3, "dropOldestState", "()V"⟩
abbrev cX3_isIn : ByteArray := prog_1_method_26_code
def yX3_isIn : MethodName := ⟨RX3, "isIn", "(III)Z"⟩
def RX4 : String := "BeamCutsModel"
def TX4 : u_T := fun k => match k with
  | 0 => ("BeamCutsModel", "s", "[I", true)
  | 1 => ("BeamCutsModel", "aside", "[I", true)
  | 2 => ("BeamCutsModel", "ahead", "[I", true)
  | 3 => ("BeamCutsModel", "snapshot", "[I", true)
  | 4 => ("BeamCutsModel", "isKept", "Z", false)
  | 5 => ("BeamCutsModel", "before", "[I", true)
  | 6 => ("BeamCutsModel", "known", "I", false)
  | 7 => ("BeamCutsModel", "text", "[I", true)
  | 8 => ("BeamCutsModel", "length", "I", false)
  | 9 => ("BeamCutsModel", "stopAt", "I", false)
  | 10 => ("BeamCutsModel", "stopBy", "I", false)
  | 11 => ("BeamCutsModel", "position", "I", false)
  | 12 => ("BeamCutsModel", "isWrong", "Z", false)
  | 13 => ("BeamCutsModel", "letter", "I", false)
  | 14 => ("BeamCutsModel", "number", "I", false)
  | 15 => ("BeamCutsModel", "corner", "I", false)
  | 16 => ("BeamCutsModel", "stop", "I", false)
  | 17 => ("BeamCutsModel", "order", "[I", true)
  | 18 => ("BeamCutsModel", "orderedMany", "I", false)
  | 19 => ("BeamCutsModel", "orderTicks", "I", false)
  | _ => ("BeamCutsModel", "isAll", "Z", false)
def tyX4 : Nat → FieldType := fun k => match k with
  | 0 => .array .int
  | 1 => .array .int
  | 2 => .array .int
  | 3 => .array .int
  | 4 => .boolean
  | 5 => .array .int
  | 6 => .int
  | 7 => .array .int
  | 8 => .int
  | 9 => .int
  | 10 => .int
  | 11 => .int
  | 12 => .boolean
  | 13 => .int
  | 14 => .int
  | 15 => .int
  | 16 => .int
  | 17 => .array .int
  | 18 => .int
  | 19 => .int
  | _ => .boolean
abbrev wsX40 : List Cond := u_ws RX4 TX4 21
theorem nmX4 : ∀ a, a < 21 → ∀ b, b < 21 → a ≠ b → (TX4 a).2.1 ≠ (TX4 b).2.1 := by decide +kernel
theorem tyX4_ok : ∀ k, k < 21 → parseFieldDescriptor (TX4 k).2.2.1 = some (tyX4 k) := by decide +kernel
abbrev cX4_init : ByteArray := prog_6_method_1_code
def yX4_init : MethodName := ⟨RX4, "<init>", "()V"⟩
abbrev cX4_in : ByteArray := prog_6_method_3_code
def yX4_in : MethodName := ⟨RX4, "in", "(III)Z"⟩
abbrev cX4_isShape : ByteArray := prog_6_method_4_code
def yX4_isShape : MethodName := ⟨RX4, "isShape", "(I)Z"⟩
abbrev cX4_at : ByteArray := prog_6_method_5_code
def yX4_at : MethodName := ⟨RX4, "at", "(II)I"⟩
abbrev cX4_of : ByteArray := prog_6_method_6_code
def yX4_of : MethodName := ⟨RX4, "of", "(II)I"⟩
abbrev cX4_isWhole : ByteArray := prog_6_method_7_code
def yX4_isWhole : MethodName := ⟨RX4, "isWhole", "(I)Z"⟩
abbrev cX4_looks : ByteArray := prog_6_method_8_code
def yX4_looks : MethodName := ⟨RX4, "looks", "()V"⟩
abbrev cX4_records : ByteArray := prog_6_method_9_code
def yX4_records : MethodName := ⟨RX4, "records", "()V"⟩
abbrev cX4_putAside : ByteArray := prog_6_method_10_code
def yX4_putAside : MethodName := ⟨RX4, "putAside", "()V"⟩
abbrev cX4_putBack : ByteArray := prog_6_method_11_code
def yX4_putBack : MethodName := ⟨RX4, "putBack", "()V"⟩
abbrev cX4_lastColumn : ByteArray := prog_6_method_12_code
def yX4_lastColumn : MethodName := ⟨RX4, "lastColumn", "(I)I"⟩
abbrev cX4_lastRow : ByteArray := prog_6_method_13_code
def yX4_lastRow : MethodName := ⟨RX4, "lastRow", "(I)I"⟩
abbrev cX4_isInside : ByteArray := prog_6_method_14_code
def yX4_isInside : MethodName := ⟨RX4, "isInside", "(II)Z"⟩
abbrev cX4_edge : ByteArray := prog_6_method_15_code
def yX4_edge : MethodName := ⟨RX4, "edge", "(I)I"⟩
abbrev cX4_isOnEdge : ByteArray := prog_6_method_16_code
def yX4_isOnEdge : MethodName := ⟨RX4, "isOnEdge", "(III)Z"⟩
abbrev cX4_edgeIn : ByteArray := prog_6_method_17_code
def yX4_edgeIn : MethodName := ⟨RX4, "edgeIn", "(II)I"⟩
abbrev cX4_leadColumn : ByteArray := prog_6_method_18_code
def yX4_leadColumn : MethodName := ⟨RX4, "leadColumn", "(I)I"⟩
abbrev cX4_leadRow : ByteArray := prog_6_method_19_code
def yX4_leadRow : MethodName := ⟨RX4, "leadRow", "(I)I"⟩
abbrev cX4_outer : ByteArray := prog_6_method_20_code
def yX4_outer : MethodName := ⟨RX4, "outer", "(I)I"⟩
abbrev cX4_inner : ByteArray := prog_6_method_21_code
def yX4_inner : MethodName := ⟨RX4, "inner", "(I)I"⟩
abbrev cX4_hasWholeInside : ByteArray := prog_6_method_22_code
def yX4_hasWholeInside : MethodName := ⟨RX4, "hasWholeInside", "(I)Z"⟩
abbrev cX4_off : ByteArray := prog_6_method_23_code
def yX4_off : MethodName := ⟨RX4, "off", "(II)I"⟩
abbrev cX4_going : ByteArray := prog_6_method_24_code
def yX4_going : MethodName := ⟨RX4, "going", "(I)I"⟩
abbrev cX4_burning : ByteArray := prog_6_method_25_code
def yX4_burning : MethodName := ⟨RX4, "burning", "(I)I"⟩
abbrev cX4_cooled : ByteArray := prog_6_method_26_code
def yX4_cooled : MethodName := ⟨RX4, "cooled", "(II)I"⟩
abbrev cX4_cools : ByteArray := prog_6_method_27_code
def yX4_cools : MethodName := ⟨RX4, "cools", "(I)V"⟩
abbrev cX4_hottest : ByteArray := prog_6_method_28_code
def yX4_hottest : MethodName := ⟨RX4, "hottest", "()I"⟩
abbrev cX4_isTooHot : ByteArray := prog_6_method_29_code
def yX4_isTooHot : MethodName := ⟨RX4, "isTooHot", "(II)Z"⟩
abbrev cX4_why : ByteArray := prog_6_method_30_code
def yX4_why : MethodName := ⟨RX4, "why", "(I)I"⟩
abbrev cX4_cuts : ByteArray := prog_6_method_31_code
def yX4_cuts : MethodName := ⟨RX4, "cuts", "(I)I"⟩
abbrev cX4_waitFor : ByteArray := prog_6_method_32_code
def yX4_waitFor : MethodName := ⟨RX4, "waitFor", "(I)I"⟩
abbrev cX4_waits : ByteArray := prog_6_method_33_code
def yX4_waits : MethodName := ⟨RX4, "waits", "(I)I"⟩
abbrev cX4_cleans : ByteArray := prog_6_method_34_code
def yX4_cleans : MethodName := ⟨RX4, "cleans", "()I"⟩
abbrev cX4_leads : ByteArray := prog_6_method_35_code
def yX4_leads : MethodName := ⟨RX4, "leads", "(II)I"⟩
abbrev cX4_acted : ByteArray := prog_6_method_36_code
def yX4_acted : MethodName := ⟨RX4, "acted", "(I)I"⟩
abbrev cX4_lays : ByteArray := prog_6_method_37_code
def yX4_lays : MethodName := ⟨RX4, "lays", "(IIIII)V"⟩
abbrev cX4_couldBe : ByteArray := prog_6_method_38_code
def yX4_couldBe : MethodName := ⟨RX4, "couldBe", "(IIII)Z"⟩
abbrev cX4_tell : ByteArray := prog_6_method_39_code
def yX4_tell : MethodName := ⟨RX4, "tell", "(IIII)I"⟩
abbrev cX4_setLead : ByteArray := prog_6_method_40_code
def yX4_setLead : MethodName := ⟨RX4, "setLead", "(II)I"⟩
abbrev cX4_most : ByteArray := prog_6_method_41_code
def yX4_most : MethodName := ⟨RX4, "most", "(I)I"⟩
abbrev cX4_set : ByteArray := prog_6_method_42_code
def yX4_set : MethodName := ⟨RX4, "set", "(II)I"⟩
abbrev cX4_cut : ByteArray := prog_6_method_43_code
def yX4_cut : MethodName := ⟨RX4, "cut", "(I)I"⟩
abbrev cX4_pause : ByteArray := prog_6_method_44_code
def yX4_pause : MethodName := ⟨RX4, "pause", "(I)I"⟩
abbrev cX4_clean : ByteArray := prog_6_method_45_code
def yX4_clean : MethodName := ⟨RX4, "clean", "()I"⟩
abbrev cX4_type : ByteArray := prog_6_method_46_code
def yX4_type : MethodName := ⟨RX4, "type", "(C)I"⟩
abbrev cX4_clearText : ByteArray := prog_6_method_47_code
def yX4_clearText : MethodName := ⟨RX4, "clearText", "()I"⟩
abbrev cX4_isNext : ByteArray := prog_6_method_48_code
def yX4_isNext : MethodName := ⟨RX4, "isNext", "(II)Z"⟩
abbrev cX4_takesOne : ByteArray := prog_6_method_49_code
def yX4_takesOne : MethodName := ⟨RX4, "takesOne", "(II)I"⟩
abbrev cX4_takesNumber : ByteArray := prog_6_method_50_code
def yX4_takesNumber : MethodName := ⟨RX4, "takesNumber", "(II)I"⟩
abbrev cX4_readThing : ByteArray := prog_6_method_51_code
def yX4_readThing : MethodName := ⟨RX4, "readThing", "()V"⟩
abbrev cX4_does : ByteArray := prog_6_method_52_code
def yX4_does : MethodName := ⟨RX4, "does", "()I"⟩
abbrev cX4_runs : ByteArray := prog_6_method_53_code
def yX4_runs : MethodName := ⟨RX4, "runs", "(Z)I"⟩
abbrev cX4_perform : ByteArray := prog_6_method_54_code
def yX4_perform : MethodName := ⟨RX4, "perform", "()I"⟩
abbrev cX4_stopped : ByteArray := prog_6_method_55_code
def yX4_stopped : MethodName := ⟨RX4, "stopped", "(I)I"⟩
abbrev cX4_undo : ByteArray := prog_6_method_56_code
def yX4_undo : MethodName := ⟨RX4, "undo", "()I"⟩
abbrev cX4_keep : ByteArray := prog_6_method_57_code
def yX4_keep : MethodName := ⟨RX4, "keep", "()I"⟩
abbrev cX4_restore : ByteArray := prog_6_method_58_code
def yX4_restore : MethodName := ⟨RX4, "restore", "()I"⟩
abbrev cX4_shape : ByteArray := prog_6_method_59_code
def yX4_shape : MethodName := ⟨RX4, "shape", "(II)I"⟩
abbrev cX4_heat : ByteArray := prog_6_method_60_code
def yX4_heat : MethodName := ⟨RX4, "heat", "(I)I"⟩
abbrev cX4_reason : ByteArray := prog_6_method_61_code
def yX4_reason : MethodName := ⟨RX4, "reason", "(I)I"⟩
abbrev cX4_ticksOf : ByteArray := prog_6_method_62_code
def yX4_ticksOf : MethodName := ⟨RX4, "ticksOf", "(I)I"⟩
abbrev cX4_takes : ByteArray := prog_6_method_63_code
def yX4_takes : MethodName := ⟨RX4, "takes", "(I)I"⟩
abbrev cX4_coolsIn : ByteArray := prog_6_method_64_code
def yX4_coolsIn : MethodName := ⟨RX4, "coolsIn", "(I)I"⟩
abbrev cX4_bestOne : ByteArray := prog_6_method_65_code
def yX4_bestOne : MethodName := ⟨RX4, "bestOne", "()I"⟩
abbrev cX4_best : ByteArray := prog_6_method_66_code
def yX4_best : MethodName := ⟨RX4, "best", "()I"⟩
abbrev cX4_soonest : ByteArray := prog_6_method_67_code
def yX4_soonest : MethodName := ⟨RX4, "soonest", "()I"⟩
abbrev cX4_layOrder : ByteArray := prog_6_method_68_code
def yX4_layOrder : MethodName := ⟨RX4, "layOrder", "()V"⟩
abbrev cX4_ordered : ByteArray := prog_6_method_69_code
def yX4_ordered : MethodName := ⟨RX4, "ordered", "(I)I"⟩
abbrev cX4_allTakes : ByteArray := prog_6_method_70_code
def yX4_allTakes : MethodName := ⟨RX4, "allTakes", "()I"⟩
abbrev cX4_many : ByteArray := prog_6_method_71_code
def yX4_many : MethodName := ⟨RX4, "many", "(I)I"⟩
abbrev cX4_tilted : ByteArray := prog_6_method_72_code
def yX4_tilted : MethodName := ⟨RX4, "tilted", "()I"⟩
abbrev cX4_hottestSquare : ByteArray := prog_6_method_73_code
def yX4_hottestSquare : MethodName := ⟨RX4, "hottestSquare", "()I"⟩
abbrev cX4_allHeat : ByteArray := prog_6_method_74_code
def yX4_allHeat : MethodName := ⟨RX4, "allHeat", "()I"⟩
abbrev cX4_count : ByteArray := prog_6_method_75_code
def yX4_count : MethodName := ⟨RX4, "count", "(I)I"⟩
def RL : String := "BeamCutsLaw"
abbrev cL_law : ByteArray := code
def yL_law : MethodName := ⟨RL, "law", "([I)Z"⟩
theorem dX0_init_0 : decode cX0_init 0 = .ok (.aload_n 0, 1) := by decide +kernel
theorem dX0_init_1 : decode cX0_init 1 = .ok (.invokespecial 3, 3) := by decide +kernel
theorem dX0_init_4 : decode cX0_init 4 = .ok (.aload_n 0, 1) := by decide +kernel
theorem dX0_init_5 : decode cX0_init 5 = .ok (.bipush 60, 2) := by decide +kernel
theorem dX0_init_7 : decode cX0_init 7 = .ok (.newarray .char, 2) := by decide +kernel
theorem dX0_init_9 : decode cX0_init 9 = .ok (.putfield 11, 3) := by decide +kernel
theorem dX0_init_12 : decode cX0_init 12 = .ok (.aload_n 0, 1) := by decide +kernel
theorem dX0_init_13 : decode cX0_init 13 = .ok (.bipush 30, 2) := by decide +kernel
theorem dX0_init_15 : decode cX0_init 15 = .ok (.newarray .int, 2) := by decide +kernel
theorem dX0_init_17 : decode cX0_init 17 = .ok (.putfield 15, 3) := by decide +kernel
theorem dX0_init_20 : decode cX0_init 20 = .ok (.aload_n 0, 1) := by decide +kernel
theorem dX0_init_21 : decode cX0_init 21 = .ok (.bipush 30, 2) := by decide +kernel
theorem dX0_init_23 : decode cX0_init 23 = .ok (.newarray .int, 2) := by decide +kernel
theorem dX0_init_25 : decode cX0_init 25 = .ok (.putfield 19, 3) := by decide +kernel
theorem dX0_init_28 : decode cX0_init 28 = .ok (.aload_n 0, 1) := by decide +kernel
theorem dX0_init_29 : decode cX0_init 29 = .ok (.bipush 30, 2) := by decide +kernel
theorem dX0_init_31 : decode cX0_init 31 = .ok (.newarray .int, 2) := by decide +kernel
theorem dX0_init_33 : decode cX0_init 33 = .ok (.putfield 22, 3) := by decide +kernel
theorem dX0_init_36 : decode cX0_init 36 = .ok (.aload_n 0, 1) := by decide +kernel
theorem dX0_init_37 : decode cX0_init 37 = .ok (.iconst 0, 1) := by decide +kernel
theorem dX0_init_38 : decode cX0_init 38 = .ok (.putfield 25, 3) := by decide +kernel
theorem dX0_init_41 : decode cX0_init 41 = .ok (.aload_n 0, 1) := by decide +kernel
theorem dX0_init_42 : decode cX0_init 42 = .ok (.iconst 0, 1) := by decide +kernel
theorem dX0_init_43 : decode cX0_init 43 = .ok (.putfield 29, 3) := by decide +kernel
theorem dX0_init_46 : decode cX0_init 46 = .ok (.aload_n 0, 1) := by decide +kernel
theorem dX0_init_47 : decode cX0_init 47 = .ok (.iconst 0, 1) := by decide +kernel
theorem dX0_init_48 : decode cX0_init 48 = .ok (.putfield 32, 3) := by decide +kernel
theorem dX0_init_51 : decode cX0_init 51 = .ok (.return_, 1) := by decide +kernel
theorem dX0_addLetter_0 : decode cX0_addLetter 0 = .ok (.aload_n 0, 1) := by decide +kernel
theorem dX0_addLetter_1 : decode cX0_addLetter 1 = .ok (.getfield 25, 3) := by decide +kernel
theorem dX0_addLetter_4 : decode cX0_addLetter 4 = .ok (.bipush 60, 2) := by decide +kernel
theorem dX0_addLetter_6 : decode cX0_addLetter 6 = .ok (.if_icmp .lt 6, 3) := by decide +kernel
theorem dX0_addLetter_9 : decode cX0_addLetter 9 = .ok (.bipush (-3), 2) := by decide +kernel
theorem dX0_addLetter_11 : decode cX0_addLetter 11 = .ok (.ireturn, 1) := by decide +kernel
theorem dX0_addLetter_12 : decode cX0_addLetter 12 = .ok (.aload_n 0, 1) := by decide +kernel
theorem dX0_addLetter_13 : decode cX0_addLetter 13 = .ok (.getfield 11, 3) := by decide +kernel
theorem dX0_addLetter_16 : decode cX0_addLetter 16 = .ok (.aload_n 0, 1) := by decide +kernel
theorem dX0_addLetter_17 : decode cX0_addLetter 17 = .ok (.getfield 25, 3) := by decide +kernel
theorem dX0_addLetter_20 : decode cX0_addLetter 20 = .ok (.iload_n 1, 1) := by decide +kernel
theorem dX0_addLetter_21 : decode cX0_addLetter 21 = .ok (.castore, 1) := by decide +kernel
theorem dX0_addLetter_22 : decode cX0_addLetter 22 = .ok (.aload_n 0, 1) := by decide +kernel
theorem dX0_addLetter_23 : decode cX0_addLetter 23 = .ok (.dup, 1) := by decide +kernel
theorem dX0_addLetter_24 : decode cX0_addLetter 24 = .ok (.getfield 25, 3) := by decide +kernel
theorem dX0_addLetter_27 : decode cX0_addLetter 27 = .ok (.iconst 1, 1) := by decide +kernel
theorem dX0_addLetter_28 : decode cX0_addLetter 28 = .ok (.iadd, 1) := by decide +kernel
theorem dX0_addLetter_29 : decode cX0_addLetter 29 = .ok (.putfield 25, 3) := by decide +kernel
theorem dX0_addLetter_32 : decode cX0_addLetter 32 = .ok (.aload_n 0, 1) := by decide +kernel
theorem dX0_addLetter_33 : decode cX0_addLetter 33 = .ok (.getfield 25, 3) := by decide +kernel
theorem dX0_addLetter_36 : decode cX0_addLetter 36 = .ok (.ireturn, 1) := by decide +kernel
theorem dX0_dropLetters_0 : decode cX0_dropLetters 0 = .ok (.aload_n 0, 1) := by decide +kernel
theorem dX0_dropLetters_1 : decode cX0_dropLetters 1 = .ok (.getfield 25, 3) := by decide +kernel
theorem dX0_dropLetters_4 : decode cX0_dropLetters 4 = .ok (.istore_n 1, 1) := by decide +kernel
theorem dX0_dropLetters_5 : decode cX0_dropLetters 5 = .ok (.aload_n 0, 1) := by decide +kernel
theorem dX0_dropLetters_6 : decode cX0_dropLetters 6 = .ok (.iconst 0, 1) := by decide +kernel
theorem dX0_dropLetters_7 : decode cX0_dropLetters 7 = .ok (.putfield 25, 3) := by decide +kernel
theorem dX0_dropLetters_10 : decode cX0_dropLetters 10 = .ok (.iload_n 1, 1) := by decide +kernel
theorem dX0_dropLetters_11 : decode cX0_dropLetters 11 = .ok (.ireturn, 1) := by decide +kernel
theorem dX0_read_0 : decode cX0_read 0 = .ok (.aload_n 0, 1) := by decide +kernel
theorem dX0_read_1 : decode cX0_read 1 = .ok (.iconst 0, 1) := by decide +kernel
theorem dX0_read_2 : decode cX0_read 2 = .ok (.putfield 32, 3) := by decide +kernel
theorem dX0_read_5 : decode cX0_read 5 = .ok (.aload_n 0, 1) := by decide +kernel
theorem dX0_read_6 : decode cX0_read 6 = .ok (.iconst 0, 1) := by decide +kernel
theorem dX0_read_7 : decode cX0_read 7 = .ok (.putfield 29, 3) := by decide +kernel
theorem dX0_read_10 : decode cX0_read 10 = .ok (.aload_n 0, 1) := by decide +kernel
theorem dX0_read_11 : decode cX0_read 11 = .ok (.getfield 29, 3) := by decide +kernel
theorem dX0_read_14 : decode cX0_read 14 = .ok (.bipush 30, 2) := by decide +kernel
theorem dX0_read_16 : decode cX0_read 16 = .ok (.if_icmp .ge 52, 3) := by decide +kernel
theorem dX0_read_19 : decode cX0_read 19 = .ok (.aload_n 0, 1) := by decide +kernel
theorem dX0_read_20 : decode cX0_read 20 = .ok (.invokevirtual 35, 3) := by decide +kernel
theorem dX0_read_23 : decode cX0_read 23 = .ok (.ifCond .ne 8, 3) := by decide +kernel
theorem dX0_read_26 : decode cX0_read 26 = .ok (.aload_n 0, 1) := by decide +kernel
theorem dX0_read_27 : decode cX0_read 27 = .ok (.getfield 32, 3) := by decide +kernel
theorem dX0_read_30 : decode cX0_read 30 = .ok (.ireturn, 1) := by decide +kernel
theorem dX0_read_31 : decode cX0_read 31 = .ok (.aload_n 0, 1) := by decide +kernel
theorem dX0_read_32 : decode cX0_read 32 = .ok (.dup, 1) := by decide +kernel
theorem dX0_read_33 : decode cX0_read 33 = .ok (.getfield 29, 3) := by decide +kernel
theorem dX0_read_36 : decode cX0_read 36 = .ok (.iconst 1, 1) := by decide +kernel
theorem dX0_read_37 : decode cX0_read 37 = .ok (.iadd, 1) := by decide +kernel
theorem dX0_read_38 : decode cX0_read 38 = .ok (.putfield 29, 3) := by decide +kernel
theorem dX0_read_41 : decode cX0_read 41 = .ok (.aload_n 0, 1) := by decide +kernel
theorem dX0_read_42 : decode cX0_read 42 = .ok (.getfield 32, 3) := by decide +kernel
theorem dX0_read_45 : decode cX0_read 45 = .ok (.aload_n 0, 1) := by decide +kernel
theorem dX0_read_46 : decode cX0_read 46 = .ok (.getfield 25, 3) := by decide +kernel
theorem dX0_read_49 : decode cX0_read 49 = .ok (.if_icmp .lt 5, 3) := by decide +kernel
theorem dX0_read_52 : decode cX0_read 52 = .ok (.iconst (-1), 1) := by decide +kernel
theorem dX0_read_53 : decode cX0_read 53 = .ok (.ireturn, 1) := by decide +kernel
theorem dX0_read_54 : decode cX0_read 54 = .ok (.aload_n 0, 1) := by decide +kernel
theorem dX0_read_55 : decode cX0_read 55 = .ok (.bipush 59, 2) := by decide +kernel
theorem dX0_read_57 : decode cX0_read 57 = .ok (.invokevirtual 39, 3) := by decide +kernel
theorem dX0_read_60 : decode cX0_read 60 = .ok (.ifCond .ne (-50), 3) := by decide +kernel
theorem dX0_read_63 : decode cX0_read 63 = .ok (.aload_n 0, 1) := by decide +kernel
theorem dX0_read_64 : decode cX0_read 64 = .ok (.getfield 32, 3) := by decide +kernel
theorem dX0_read_67 : decode cX0_read 67 = .ok (.ireturn, 1) := by decide +kernel
theorem dX0_read_68 : decode cX0_read 68 = .ok (.aload_n 0, 1) := by decide +kernel
theorem dX0_read_69 : decode cX0_read 69 = .ok (.getfield 32, 3) := by decide +kernel
theorem dX0_read_72 : decode cX0_read 72 = .ok (.ireturn, 1) := by decide +kernel
theorem dX0_readThing_0 : decode cX0_readThing 0 = .ok (.aload_n 0, 1) := by decide +kernel
theorem dX0_readThing_1 : decode cX0_readThing 1 = .ok (.bipush 99, 2) := by decide +kernel
theorem dX0_readThing_3 : decode cX0_readThing 3 = .ok (.invokevirtual 39, 3) := by decide +kernel
theorem dX0_readThing_6 : decode cX0_readThing 6 = .ok (.ifCond .eq 25, 3) := by decide +kernel
theorem dX0_readThing_9 : decode cX0_readThing 9 = .ok (.aload_n 0, 1) := by decide +kernel
theorem dX0_readThing_10 : decode cX0_readThing 10 = .ok (.getfield 15, 3) := by decide +kernel
theorem dX0_readThing_13 : decode cX0_readThing 13 = .ok (.aload_n 0, 1) := by decide +kernel
theorem dX0_readThing_14 : decode cX0_readThing 14 = .ok (.getfield 29, 3) := by decide +kernel
theorem dX0_readThing_17 : decode cX0_readThing 17 = .ok (.iconst 0, 1) := by decide +kernel
theorem dX0_readThing_18 : decode cX0_readThing 18 = .ok (.iastore, 1) := by decide +kernel
theorem dX0_readThing_19 : decode cX0_readThing 19 = .ok (.aload_n 0, 1) := by decide +kernel
theorem dX0_readThing_20 : decode cX0_readThing 20 = .ok (.aload_n 0, 1) := by decide +kernel
theorem dX0_readThing_21 : decode cX0_readThing 21 = .ok (.getfield 19, 3) := by decide +kernel
theorem dX0_readThing_24 : decode cX0_readThing 24 = .ok (.iconst 0, 1) := by decide +kernel
theorem dX0_readThing_25 : decode cX0_readThing 25 = .ok (.bipush 11, 2) := by decide +kernel
theorem dX0_readThing_27 : decode cX0_readThing 27 = .ok (.invokevirtual 43, 3) := by decide +kernel
theorem dX0_readThing_30 : decode cX0_readThing 30 = .ok (.ireturn, 1) := by decide +kernel
theorem dX0_readThing_31 : decode cX0_readThing 31 = .ok (.aload_n 0, 1) := by decide +kernel
theorem dX0_readThing_32 : decode cX0_readThing 32 = .ok (.bipush 108, 2) := by decide +kernel
theorem dX0_readThing_34 : decode cX0_readThing 34 = .ok (.invokevirtual 39, 3) := by decide +kernel
theorem dX0_readThing_37 : decode cX0_readThing 37 = .ok (.ifCond .eq 55, 3) := by decide +kernel
theorem dX0_readThing_40 : decode cX0_readThing 40 = .ok (.aload_n 0, 1) := by decide +kernel
theorem dX0_readThing_41 : decode cX0_readThing 41 = .ok (.getfield 15, 3) := by decide +kernel
theorem dX0_readThing_44 : decode cX0_readThing 44 = .ok (.aload_n 0, 1) := by decide +kernel
theorem dX0_readThing_45 : decode cX0_readThing 45 = .ok (.getfield 29, 3) := by decide +kernel
theorem dX0_readThing_48 : decode cX0_readThing 48 = .ok (.iconst 1, 1) := by decide +kernel
theorem dX0_readThing_49 : decode cX0_readThing 49 = .ok (.iastore, 1) := by decide +kernel
theorem dX0_readThing_50 : decode cX0_readThing 50 = .ok (.aload_n 0, 1) := by decide +kernel
theorem dX0_readThing_51 : decode cX0_readThing 51 = .ok (.aload_n 0, 1) := by decide +kernel
theorem dX0_readThing_52 : decode cX0_readThing 52 = .ok (.getfield 19, 3) := by decide +kernel
theorem dX0_readThing_55 : decode cX0_readThing 55 = .ok (.iconst 0, 1) := by decide +kernel
theorem dX0_readThing_56 : decode cX0_readThing 56 = .ok (.bipush 11, 2) := by decide +kernel
theorem dX0_readThing_58 : decode cX0_readThing 58 = .ok (.invokevirtual 43, 3) := by decide +kernel
theorem dX0_readThing_61 : decode cX0_readThing 61 = .ok (.ifCond .eq 29, 3) := by decide +kernel
theorem dX0_readThing_64 : decode cX0_readThing 64 = .ok (.aload_n 0, 1) := by decide +kernel
theorem dX0_readThing_65 : decode cX0_readThing 65 = .ok (.bipush 64, 2) := by decide +kernel
theorem dX0_readThing_67 : decode cX0_readThing 67 = .ok (.invokevirtual 39, 3) := by decide +kernel
theorem dX0_readThing_70 : decode cX0_readThing 70 = .ok (.ifCond .eq 20, 3) := by decide +kernel
theorem dX0_readThing_73 : decode cX0_readThing 73 = .ok (.aload_n 0, 1) := by decide +kernel
theorem dX0_readThing_74 : decode cX0_readThing 74 = .ok (.aload_n 0, 1) := by decide +kernel
theorem dX0_readThing_75 : decode cX0_readThing 75 = .ok (.getfield 22, 3) := by decide +kernel
theorem dX0_readThing_78 : decode cX0_readThing 78 = .ok (.iconst 0, 1) := by decide +kernel
theorem dX0_readThing_79 : decode cX0_readThing 79 = .ok (.iconst 3, 1) := by decide +kernel
theorem dX0_readThing_80 : decode cX0_readThing 80 = .ok (.invokevirtual 43, 3) := by decide +kernel
theorem dX0_readThing_83 : decode cX0_readThing 83 = .ok (.ifCond .eq 7, 3) := by decide +kernel
theorem dX0_readThing_86 : decode cX0_readThing 86 = .ok (.iconst 1, 1) := by decide +kernel
theorem dX0_readThing_87 : decode cX0_readThing 87 = .ok (.goto 4, 3) := by decide +kernel
theorem dX0_readThing_90 : decode cX0_readThing 90 = .ok (.iconst 0, 1) := by decide +kernel
theorem dX0_readThing_91 : decode cX0_readThing 91 = .ok (.ireturn, 1) := by decide +kernel
theorem dX0_readThing_92 : decode cX0_readThing 92 = .ok (.aload_n 0, 1) := by decide +kernel
theorem dX0_readThing_93 : decode cX0_readThing 93 = .ok (.bipush 119, 2) := by decide +kernel
theorem dX0_readThing_95 : decode cX0_readThing 95 = .ok (.invokevirtual 39, 3) := by decide +kernel
theorem dX0_readThing_98 : decode cX0_readThing 98 = .ok (.ifCond .eq 26, 3) := by decide +kernel
theorem dX0_readThing_101 : decode cX0_readThing 101 = .ok (.aload_n 0, 1) := by decide +kernel
theorem dX0_readThing_102 : decode cX0_readThing 102 = .ok (.getfield 15, 3) := by decide +kernel
theorem dX0_readThing_105 : decode cX0_readThing 105 = .ok (.aload_n 0, 1) := by decide +kernel
theorem dX0_readThing_106 : decode cX0_readThing 106 = .ok (.getfield 29, 3) := by decide +kernel
theorem dX0_readThing_109 : decode cX0_readThing 109 = .ok (.iconst 2, 1) := by decide +kernel
theorem dX0_readThing_110 : decode cX0_readThing 110 = .ok (.iastore, 1) := by decide +kernel
theorem dX0_readThing_111 : decode cX0_readThing 111 = .ok (.aload_n 0, 1) := by decide +kernel
theorem dX0_readThing_112 : decode cX0_readThing 112 = .ok (.aload_n 0, 1) := by decide +kernel
theorem dX0_readThing_113 : decode cX0_readThing 113 = .ok (.getfield 19, 3) := by decide +kernel
theorem dX0_readThing_116 : decode cX0_readThing 116 = .ok (.iconst 1, 1) := by decide +kernel
theorem dX0_readThing_117 : decode cX0_readThing 117 = .ok (.sipush 999, 3) := by decide +kernel
theorem dX0_readThing_120 : decode cX0_readThing 120 = .ok (.invokevirtual 43, 3) := by decide +kernel
theorem dX0_readThing_123 : decode cX0_readThing 123 = .ok (.ireturn, 1) := by decide +kernel
theorem dX0_readThing_124 : decode cX0_readThing 124 = .ok (.aload_n 0, 1) := by decide +kernel
theorem dX0_readThing_125 : decode cX0_readThing 125 = .ok (.getfield 15, 3) := by decide +kernel
theorem dX0_readThing_128 : decode cX0_readThing 128 = .ok (.aload_n 0, 1) := by decide +kernel
theorem dX0_readThing_129 : decode cX0_readThing 129 = .ok (.getfield 29, 3) := by decide +kernel
theorem dX0_readThing_132 : decode cX0_readThing 132 = .ok (.iconst 3, 1) := by decide +kernel
theorem dX0_readThing_133 : decode cX0_readThing 133 = .ok (.iastore, 1) := by decide +kernel
theorem dX0_readThing_134 : decode cX0_readThing 134 = .ok (.aload_n 0, 1) := by decide +kernel
theorem dX0_readThing_135 : decode cX0_readThing 135 = .ok (.bipush 107, 2) := by decide +kernel
theorem dX0_readThing_137 : decode cX0_readThing 137 = .ok (.invokevirtual 39, 3) := by decide +kernel
theorem dX0_readThing_140 : decode cX0_readThing 140 = .ok (.ireturn, 1) := by decide +kernel
theorem dX0_readLetter_0 : decode cX0_readLetter 0 = .ok (.aload_n 0, 1) := by decide +kernel
theorem dX0_readLetter_1 : decode cX0_readLetter 1 = .ok (.getfield 32, 3) := by decide +kernel
theorem dX0_readLetter_4 : decode cX0_readLetter 4 = .ok (.aload_n 0, 1) := by decide +kernel
theorem dX0_readLetter_5 : decode cX0_readLetter 5 = .ok (.getfield 25, 3) := by decide +kernel
theorem dX0_readLetter_8 : decode cX0_readLetter 8 = .ok (.if_icmp .ge 16, 3) := by decide +kernel
theorem dX0_readLetter_11 : decode cX0_readLetter 11 = .ok (.aload_n 0, 1) := by decide +kernel
theorem dX0_readLetter_12 : decode cX0_readLetter 12 = .ok (.getfield 11, 3) := by decide +kernel
theorem dX0_readLetter_15 : decode cX0_readLetter 15 = .ok (.aload_n 0, 1) := by decide +kernel
theorem dX0_readLetter_16 : decode cX0_readLetter 16 = .ok (.getfield 32, 3) := by decide +kernel
theorem dX0_readLetter_19 : decode cX0_readLetter 19 = .ok (.caload, 1) := by decide +kernel
theorem dX0_readLetter_20 : decode cX0_readLetter 20 = .ok (.iload_n 1, 1) := by decide +kernel
theorem dX0_readLetter_21 : decode cX0_readLetter 21 = .ok (.if_icmp .eq 5, 3) := by decide +kernel
theorem dX0_readLetter_24 : decode cX0_readLetter 24 = .ok (.iconst 0, 1) := by decide +kernel
theorem dX0_readLetter_25 : decode cX0_readLetter 25 = .ok (.ireturn, 1) := by decide +kernel
theorem dX0_readLetter_26 : decode cX0_readLetter 26 = .ok (.aload_n 0, 1) := by decide +kernel
theorem dX0_readLetter_27 : decode cX0_readLetter 27 = .ok (.dup, 1) := by decide +kernel
theorem dX0_readLetter_28 : decode cX0_readLetter 28 = .ok (.getfield 32, 3) := by decide +kernel
theorem dX0_readLetter_31 : decode cX0_readLetter 31 = .ok (.iconst 1, 1) := by decide +kernel
theorem dX0_readLetter_32 : decode cX0_readLetter 32 = .ok (.iadd, 1) := by decide +kernel
theorem dX0_readLetter_33 : decode cX0_readLetter 33 = .ok (.putfield 32, 3) := by decide +kernel
theorem dX0_readLetter_36 : decode cX0_readLetter 36 = .ok (.iconst 1, 1) := by decide +kernel
theorem dX0_readLetter_37 : decode cX0_readLetter 37 = .ok (.ireturn, 1) := by decide +kernel
theorem dX0_readNumber_0 : decode cX0_readNumber 0 = .ok (.aload_n 0, 1) := by decide +kernel
theorem dX0_readNumber_1 : decode cX0_readNumber 1 = .ok (.aload_n 0, 1) := by decide +kernel
theorem dX0_readNumber_2 : decode cX0_readNumber 2 = .ok (.getfield 32, 3) := by decide +kernel
theorem dX0_readNumber_5 : decode cX0_readNumber 5 = .ok (.invokevirtual 49, 3) := by decide +kernel
theorem dX0_readNumber_8 : decode cX0_readNumber 8 = .ok (.istore 4, 2) := by decide +kernel
theorem dX0_readNumber_10 : decode cX0_readNumber 10 = .ok (.iload 4, 2) := by decide +kernel
theorem dX0_readNumber_12 : decode cX0_readNumber 12 = .ok (.iload_n 2, 1) := by decide +kernel
theorem dX0_readNumber_13 : decode cX0_readNumber 13 = .ok (.iconst 0, 1) := by decide +kernel
theorem dX0_readNumber_14 : decode cX0_readNumber 14 = .ok (.invokestatic 53, 3) := by decide +kernel
theorem dX0_readNumber_17 : decode cX0_readNumber 17 = .ok (.iload_n 3, 1) := by decide +kernel
theorem dX0_readNumber_18 : decode cX0_readNumber 18 = .ok (.invokestatic 59, 3) := by decide +kernel
theorem dX0_readNumber_21 : decode cX0_readNumber 21 = .ok (.ifCond .ne 5, 3) := by decide +kernel
theorem dX0_readNumber_24 : decode cX0_readNumber 24 = .ok (.iconst 0, 1) := by decide +kernel
theorem dX0_readNumber_25 : decode cX0_readNumber 25 = .ok (.ireturn, 1) := by decide +kernel
theorem dX0_readNumber_26 : decode cX0_readNumber 26 = .ok (.aload_n 0, 1) := by decide +kernel
theorem dX0_readNumber_27 : decode cX0_readNumber 27 = .ok (.dup, 1) := by decide +kernel
theorem dX0_readNumber_28 : decode cX0_readNumber 28 = .ok (.getfield 32, 3) := by decide +kernel
theorem dX0_readNumber_31 : decode cX0_readNumber 31 = .ok (.iconst 1, 1) := by decide +kernel
theorem dX0_readNumber_32 : decode cX0_readNumber 32 = .ok (.iadd, 1) := by decide +kernel
theorem dX0_readNumber_33 : decode cX0_readNumber 33 = .ok (.putfield 32, 3) := by decide +kernel
theorem dX0_readNumber_36 : decode cX0_readNumber 36 = .ok (.aload_n 0, 1) := by decide +kernel
theorem dX0_readNumber_37 : decode cX0_readNumber 37 = .ok (.getfield 32, 3) := by decide +kernel
theorem dX0_readNumber_40 : decode cX0_readNumber 40 = .ok (.aload_n 0, 1) := by decide +kernel
theorem dX0_readNumber_41 : decode cX0_readNumber 41 = .ok (.getfield 25, 3) := by decide +kernel
theorem dX0_readNumber_44 : decode cX0_readNumber 44 = .ok (.if_icmp .ge 66, 3) := by decide +kernel
theorem dX0_readNumber_47 : decode cX0_readNumber 47 = .ok (.iload 4, 2) := by decide +kernel
theorem dX0_readNumber_49 : decode cX0_readNumber 49 = .ok (.ifCond .le 61, 3) := by decide +kernel
theorem dX0_readNumber_52 : decode cX0_readNumber 52 = .ok (.aload_n 0, 1) := by decide +kernel
theorem dX0_readNumber_53 : decode cX0_readNumber 53 = .ok (.aload_n 0, 1) := by decide +kernel
theorem dX0_readNumber_54 : decode cX0_readNumber 54 = .ok (.getfield 32, 3) := by decide +kernel
theorem dX0_readNumber_57 : decode cX0_readNumber 57 = .ok (.invokevirtual 49, 3) := by decide +kernel
theorem dX0_readNumber_60 : decode cX0_readNumber 60 = .ok (.ifCond .lt 50, 3) := by decide +kernel
theorem dX0_readNumber_63 : decode cX0_readNumber 63 = .ok (.bipush 10, 2) := by decide +kernel
theorem dX0_readNumber_65 : decode cX0_readNumber 65 = .ok (.iload 4, 2) := by decide +kernel
theorem dX0_readNumber_67 : decode cX0_readNumber 67 = .ok (.imul, 1) := by decide +kernel
theorem dX0_readNumber_68 : decode cX0_readNumber 68 = .ok (.aload_n 0, 1) := by decide +kernel
theorem dX0_readNumber_69 : decode cX0_readNumber 69 = .ok (.aload_n 0, 1) := by decide +kernel
theorem dX0_readNumber_70 : decode cX0_readNumber 70 = .ok (.getfield 32, 3) := by decide +kernel
theorem dX0_readNumber_73 : decode cX0_readNumber 73 = .ok (.invokevirtual 49, 3) := by decide +kernel
theorem dX0_readNumber_76 : decode cX0_readNumber 76 = .ok (.iadd, 1) := by decide +kernel
theorem dX0_readNumber_77 : decode cX0_readNumber 77 = .ok (.iload_n 3, 1) := by decide +kernel
theorem dX0_readNumber_78 : decode cX0_readNumber 78 = .ok (.if_icmp .gt 32, 3) := by decide +kernel
theorem dX0_readNumber_81 : decode cX0_readNumber 81 = .ok (.bipush 10, 2) := by decide +kernel
theorem dX0_readNumber_83 : decode cX0_readNumber 83 = .ok (.iload 4, 2) := by decide +kernel
theorem dX0_readNumber_85 : decode cX0_readNumber 85 = .ok (.imul, 1) := by decide +kernel
theorem dX0_readNumber_86 : decode cX0_readNumber 86 = .ok (.aload_n 0, 1) := by decide +kernel
theorem dX0_readNumber_87 : decode cX0_readNumber 87 = .ok (.aload_n 0, 1) := by decide +kernel
theorem dX0_readNumber_88 : decode cX0_readNumber 88 = .ok (.getfield 32, 3) := by decide +kernel
theorem dX0_readNumber_91 : decode cX0_readNumber 91 = .ok (.invokevirtual 49, 3) := by decide +kernel
theorem dX0_readNumber_94 : decode cX0_readNumber 94 = .ok (.iadd, 1) := by decide +kernel
theorem dX0_readNumber_95 : decode cX0_readNumber 95 = .ok (.istore 4, 2) := by decide +kernel
theorem dX0_readNumber_97 : decode cX0_readNumber 97 = .ok (.aload_n 0, 1) := by decide +kernel
theorem dX0_readNumber_98 : decode cX0_readNumber 98 = .ok (.dup, 1) := by decide +kernel
theorem dX0_readNumber_99 : decode cX0_readNumber 99 = .ok (.getfield 32, 3) := by decide +kernel
theorem dX0_readNumber_102 : decode cX0_readNumber 102 = .ok (.iconst 1, 1) := by decide +kernel
theorem dX0_readNumber_103 : decode cX0_readNumber 103 = .ok (.iadd, 1) := by decide +kernel
theorem dX0_readNumber_104 : decode cX0_readNumber 104 = .ok (.putfield 32, 3) := by decide +kernel
theorem dX0_readNumber_107 : decode cX0_readNumber 107 = .ok (.goto (-71), 3) := by decide +kernel
theorem dX0_readNumber_110 : decode cX0_readNumber 110 = .ok (.aload_n 1, 1) := by decide +kernel
theorem dX0_readNumber_111 : decode cX0_readNumber 111 = .ok (.aload_n 0, 1) := by decide +kernel
theorem dX0_readNumber_112 : decode cX0_readNumber 112 = .ok (.getfield 29, 3) := by decide +kernel
theorem dX0_readNumber_115 : decode cX0_readNumber 115 = .ok (.iload 4, 2) := by decide +kernel
theorem dX0_readNumber_117 : decode cX0_readNumber 117 = .ok (.iastore, 1) := by decide +kernel
theorem dX0_readNumber_118 : decode cX0_readNumber 118 = .ok (.iconst 1, 1) := by decide +kernel
theorem dX0_readNumber_119 : decode cX0_readNumber 119 = .ok (.ireturn, 1) := by decide +kernel
theorem dX0_digitAt_0 : decode cX0_digitAt 0 = .ok (.iload_n 1, 1) := by decide +kernel
theorem dX0_digitAt_1 : decode cX0_digitAt 1 = .ok (.ifCond .lt 27, 3) := by decide +kernel
theorem dX0_digitAt_4 : decode cX0_digitAt 4 = .ok (.iload_n 1, 1) := by decide +kernel
theorem dX0_digitAt_5 : decode cX0_digitAt 5 = .ok (.aload_n 0, 1) := by decide +kernel
theorem dX0_digitAt_6 : decode cX0_digitAt 6 = .ok (.getfield 25, 3) := by decide +kernel
theorem dX0_digitAt_9 : decode cX0_digitAt 9 = .ok (.if_icmp .ge 19, 3) := by decide +kernel
theorem dX0_digitAt_12 : decode cX0_digitAt 12 = .ok (.aload_n 0, 1) := by decide +kernel
theorem dX0_digitAt_13 : decode cX0_digitAt 13 = .ok (.getfield 11, 3) := by decide +kernel
theorem dX0_digitAt_16 : decode cX0_digitAt 16 = .ok (.iload_n 1, 1) := by decide +kernel
theorem dX0_digitAt_17 : decode cX0_digitAt 17 = .ok (.caload, 1) := by decide +kernel
theorem dX0_digitAt_18 : decode cX0_digitAt 18 = .ok (.bipush 48, 2) := by decide +kernel
theorem dX0_digitAt_20 : decode cX0_digitAt 20 = .ok (.bipush 57, 2) := by decide +kernel
theorem dX0_digitAt_22 : decode cX0_digitAt 22 = .ok (.invokestatic 59, 3) := by decide +kernel
theorem dX0_digitAt_25 : decode cX0_digitAt 25 = .ok (.ifCond .ne 5, 3) := by decide +kernel
theorem dX0_digitAt_28 : decode cX0_digitAt 28 = .ok (.iconst (-1), 1) := by decide +kernel
theorem dX0_digitAt_29 : decode cX0_digitAt 29 = .ok (.ireturn, 1) := by decide +kernel
theorem dX0_digitAt_30 : decode cX0_digitAt 30 = .ok (.aload_n 0, 1) := by decide +kernel
theorem dX0_digitAt_31 : decode cX0_digitAt 31 = .ok (.getfield 11, 3) := by decide +kernel
theorem dX0_digitAt_34 : decode cX0_digitAt 34 = .ok (.iload_n 1, 1) := by decide +kernel
theorem dX0_digitAt_35 : decode cX0_digitAt 35 = .ok (.caload, 1) := by decide +kernel
theorem dX0_digitAt_36 : decode cX0_digitAt 36 = .ok (.bipush 48, 2) := by decide +kernel
theorem dX0_digitAt_38 : decode cX0_digitAt 38 = .ok (.isub, 1) := by decide +kernel
theorem dX0_digitAt_39 : decode cX0_digitAt 39 = .ok (.ireturn, 1) := by decide +kernel
theorem dX0_doThing_0 : decode cX0_doThing 0 = .ok (.aload_n 0, 1) := by decide +kernel
theorem dX0_doThing_1 : decode cX0_doThing 1 = .ok (.getfield 15, 3) := by decide +kernel
theorem dX0_doThing_4 : decode cX0_doThing 4 = .ok (.iload_n 1, 1) := by decide +kernel
theorem dX0_doThing_5 : decode cX0_doThing 5 = .ok (.iaload, 1) := by decide +kernel
theorem dX0_doThing_6 : decode cX0_doThing 6 = .ok (.tableswitch 74 0 3 #[30, 41, 58, 69], 30) := by decide +kernel
theorem dX0_doThing_36 : decode cX0_doThing 36 = .ok (.aload_n 2, 1) := by decide +kernel
theorem dX0_doThing_37 : decode cX0_doThing 37 = .ok (.aload_n 0, 1) := by decide +kernel
theorem dX0_doThing_38 : decode cX0_doThing 38 = .ok (.getfield 19, 3) := by decide +kernel
theorem dX0_doThing_41 : decode cX0_doThing 41 = .ok (.iload_n 1, 1) := by decide +kernel
theorem dX0_doThing_42 : decode cX0_doThing 42 = .ok (.iaload, 1) := by decide +kernel
theorem dX0_doThing_43 : decode cX0_doThing 43 = .ok (.invokevirtual 63, 3) := by decide +kernel
theorem dX0_doThing_46 : decode cX0_doThing 46 = .ok (.ireturn, 1) := by decide +kernel
theorem dX0_doThing_47 : decode cX0_doThing 47 = .ok (.aload_n 2, 1) := by decide +kernel
theorem dX0_doThing_48 : decode cX0_doThing 48 = .ok (.aload_n 0, 1) := by decide +kernel
theorem dX0_doThing_49 : decode cX0_doThing 49 = .ok (.getfield 19, 3) := by decide +kernel
theorem dX0_doThing_52 : decode cX0_doThing 52 = .ok (.iload_n 1, 1) := by decide +kernel
theorem dX0_doThing_53 : decode cX0_doThing 53 = .ok (.iaload, 1) := by decide +kernel
theorem dX0_doThing_54 : decode cX0_doThing 54 = .ok (.aload_n 0, 1) := by decide +kernel
theorem dX0_doThing_55 : decode cX0_doThing 55 = .ok (.getfield 22, 3) := by decide +kernel
theorem dX0_doThing_58 : decode cX0_doThing 58 = .ok (.iload_n 1, 1) := by decide +kernel
theorem dX0_doThing_59 : decode cX0_doThing 59 = .ok (.iaload, 1) := by decide +kernel
theorem dX0_doThing_60 : decode cX0_doThing 60 = .ok (.invokevirtual 66, 3) := by decide +kernel
theorem dX0_doThing_63 : decode cX0_doThing 63 = .ok (.ireturn, 1) := by decide +kernel
theorem dX0_doThing_64 : decode cX0_doThing 64 = .ok (.aload_n 2, 1) := by decide +kernel
theorem dX0_doThing_65 : decode cX0_doThing 65 = .ok (.aload_n 0, 1) := by decide +kernel
theorem dX0_doThing_66 : decode cX0_doThing 66 = .ok (.getfield 19, 3) := by decide +kernel
theorem dX0_doThing_69 : decode cX0_doThing 69 = .ok (.iload_n 1, 1) := by decide +kernel
theorem dX0_doThing_70 : decode cX0_doThing 70 = .ok (.iaload, 1) := by decide +kernel
theorem dX0_doThing_71 : decode cX0_doThing 71 = .ok (.invokevirtual 69, 3) := by decide +kernel
theorem dX0_doThing_74 : decode cX0_doThing 74 = .ok (.ireturn, 1) := by decide +kernel
theorem dX0_doThing_75 : decode cX0_doThing 75 = .ok (.aload_n 2, 1) := by decide +kernel
theorem dX0_doThing_76 : decode cX0_doThing 76 = .ok (.invokevirtual 72, 3) := by decide +kernel
theorem dX0_doThing_79 : decode cX0_doThing 79 = .ok (.ireturn, 1) := by decide +kernel
theorem dX0_doThing_80 : decode cX0_doThing 80 = .ok (.bipush (-5), 2) := by decide +kernel
theorem dX0_doThing_82 : decode cX0_doThing 82 = .ok (.ireturn, 1) := by decide +kernel
theorem dX1_init_0 : decode cX1_init 0 = .ok (.aload_n 0, 1) := by decide +kernel
theorem dX1_init_1 : decode cX1_init 1 = .ok (.invokespecial 3, 3) := by decide +kernel
theorem dX1_init_4 : decode cX1_init 4 = .ok (.aload_n 0, 1) := by decide +kernel
theorem dX1_init_5 : decode cX1_init 5 = .ok (.iconst 0, 1) := by decide +kernel
theorem dX1_init_6 : decode cX1_init 6 = .ok (.putfield 9, 3) := by decide +kernel
theorem dX1_init_9 : decode cX1_init 9 = .ok (.aload_n 0, 1) := by decide +kernel
theorem dX1_init_10 : decode cX1_init 10 = .ok (.iconst 0, 1) := by decide +kernel
theorem dX1_init_11 : decode cX1_init 11 = .ok (.putfield 15, 3) := by decide +kernel
theorem dX1_init_14 : decode cX1_init 14 = .ok (.aload_n 0, 1) := by decide +kernel
theorem dX1_init_15 : decode cX1_init 15 = .ok (.iconst 2, 1) := by decide +kernel
theorem dX1_init_16 : decode cX1_init 16 = .ok (.putfield 18, 3) := by decide +kernel
theorem dX1_init_19 : decode cX1_init 19 = .ok (.aload_n 0, 1) := by decide +kernel
theorem dX1_init_20 : decode cX1_init 20 = .ok (.iconst 2, 1) := by decide +kernel
theorem dX1_init_21 : decode cX1_init 21 = .ok (.putfield 21, 3) := by decide +kernel
theorem dX1_init_24 : decode cX1_init 24 = .ok (.aload_n 0, 1) := by decide +kernel
theorem dX1_init_25 : decode cX1_init 25 = .ok (.iconst 0, 1) := by decide +kernel
theorem dX1_init_26 : decode cX1_init 26 = .ok (.putfield 24, 3) := by decide +kernel
theorem dX1_init_29 : decode cX1_init 29 = .ok (.aload_n 0, 1) := by decide +kernel
theorem dX1_init_30 : decode cX1_init 30 = .ok (.iconst 0, 1) := by decide +kernel
theorem dX1_init_31 : decode cX1_init 31 = .ok (.putfield 27, 3) := by decide +kernel
theorem dX1_init_34 : decode cX1_init 34 = .ok (.aload_n 0, 1) := by decide +kernel
theorem dX1_init_35 : decode cX1_init 35 = .ok (.iconst 0, 1) := by decide +kernel
theorem dX1_init_36 : decode cX1_init 36 = .ok (.putfield 30, 3) := by decide +kernel
theorem dX1_init_39 : decode cX1_init 39 = .ok (.aload_n 0, 1) := by decide +kernel
theorem dX1_init_40 : decode cX1_init 40 = .ok (.bipush (-5), 2) := by decide +kernel
theorem dX1_init_42 : decode cX1_init 42 = .ok (.putfield 33, 3) := by decide +kernel
theorem dX1_init_45 : decode cX1_init 45 = .ok (.aload_n 0, 1) := by decide +kernel
theorem dX1_init_46 : decode cX1_init 46 = .ok (.bipush 12, 2) := by decide +kernel
theorem dX1_init_48 : decode cX1_init 48 = .ok (.newarray .int, 2) := by decide +kernel
theorem dX1_init_50 : decode cX1_init 50 = .ok (.putfield 38, 3) := by decide +kernel
theorem dX1_init_53 : decode cX1_init 53 = .ok (.return_, 1) := by decide +kernel
theorem dX1_copyFrom_0 : decode cX1_copyFrom 0 = .ok (.aload_n 0, 1) := by decide +kernel
theorem dX1_copyFrom_1 : decode cX1_copyFrom 1 = .ok (.aload_n 1, 1) := by decide +kernel
theorem dX1_copyFrom_2 : decode cX1_copyFrom 2 = .ok (.getfield 9, 3) := by decide +kernel
theorem dX1_copyFrom_5 : decode cX1_copyFrom 5 = .ok (.putfield 9, 3) := by decide +kernel
theorem dX1_copyFrom_8 : decode cX1_copyFrom 8 = .ok (.aload_n 0, 1) := by decide +kernel
theorem dX1_copyFrom_9 : decode cX1_copyFrom 9 = .ok (.aload_n 1, 1) := by decide +kernel
theorem dX1_copyFrom_10 : decode cX1_copyFrom 10 = .ok (.getfield 15, 3) := by decide +kernel
theorem dX1_copyFrom_13 : decode cX1_copyFrom 13 = .ok (.putfield 15, 3) := by decide +kernel
theorem dX1_copyFrom_16 : decode cX1_copyFrom 16 = .ok (.aload_n 0, 1) := by decide +kernel
theorem dX1_copyFrom_17 : decode cX1_copyFrom 17 = .ok (.aload_n 1, 1) := by decide +kernel
theorem dX1_copyFrom_18 : decode cX1_copyFrom 18 = .ok (.getfield 18, 3) := by decide +kernel
theorem dX1_copyFrom_21 : decode cX1_copyFrom 21 = .ok (.putfield 18, 3) := by decide +kernel
theorem dX1_copyFrom_24 : decode cX1_copyFrom 24 = .ok (.aload_n 0, 1) := by decide +kernel
theorem dX1_copyFrom_25 : decode cX1_copyFrom 25 = .ok (.aload_n 1, 1) := by decide +kernel
theorem dX1_copyFrom_26 : decode cX1_copyFrom 26 = .ok (.getfield 21, 3) := by decide +kernel
theorem dX1_copyFrom_29 : decode cX1_copyFrom 29 = .ok (.putfield 21, 3) := by decide +kernel
theorem dX1_copyFrom_32 : decode cX1_copyFrom 32 = .ok (.aload_n 0, 1) := by decide +kernel
theorem dX1_copyFrom_33 : decode cX1_copyFrom 33 = .ok (.aload_n 1, 1) := by decide +kernel
theorem dX1_copyFrom_34 : decode cX1_copyFrom 34 = .ok (.getfield 24, 3) := by decide +kernel
theorem dX1_copyFrom_37 : decode cX1_copyFrom 37 = .ok (.putfield 24, 3) := by decide +kernel
theorem dX1_copyFrom_40 : decode cX1_copyFrom 40 = .ok (.aload_n 0, 1) := by decide +kernel
theorem dX1_copyFrom_41 : decode cX1_copyFrom 41 = .ok (.aload_n 1, 1) := by decide +kernel
theorem dX1_copyFrom_42 : decode cX1_copyFrom 42 = .ok (.getfield 27, 3) := by decide +kernel
theorem dX1_copyFrom_45 : decode cX1_copyFrom 45 = .ok (.putfield 27, 3) := by decide +kernel
theorem dX1_copyFrom_48 : decode cX1_copyFrom 48 = .ok (.aload_n 0, 1) := by decide +kernel
theorem dX1_copyFrom_49 : decode cX1_copyFrom 49 = .ok (.aload_n 1, 1) := by decide +kernel
theorem dX1_copyFrom_50 : decode cX1_copyFrom 50 = .ok (.getfield 30, 3) := by decide +kernel
theorem dX1_copyFrom_53 : decode cX1_copyFrom 53 = .ok (.putfield 30, 3) := by decide +kernel
theorem dX1_copyFrom_56 : decode cX1_copyFrom 56 = .ok (.aload_n 0, 1) := by decide +kernel
theorem dX1_copyFrom_57 : decode cX1_copyFrom 57 = .ok (.aload_n 1, 1) := by decide +kernel
theorem dX1_copyFrom_58 : decode cX1_copyFrom 58 = .ok (.getfield 33, 3) := by decide +kernel
theorem dX1_copyFrom_61 : decode cX1_copyFrom 61 = .ok (.putfield 33, 3) := by decide +kernel
theorem dX1_copyFrom_64 : decode cX1_copyFrom 64 = .ok (.iconst 0, 1) := by decide +kernel
theorem dX1_copyFrom_65 : decode cX1_copyFrom 65 = .ok (.istore_n 2, 1) := by decide +kernel
theorem dX1_copyFrom_66 : decode cX1_copyFrom 66 = .ok (.iload_n 2, 1) := by decide +kernel
theorem dX1_copyFrom_67 : decode cX1_copyFrom 67 = .ok (.bipush 12, 2) := by decide +kernel
theorem dX1_copyFrom_69 : decode cX1_copyFrom 69 = .ok (.if_icmp .ge 21, 3) := by decide +kernel
theorem dX1_copyFrom_72 : decode cX1_copyFrom 72 = .ok (.aload_n 0, 1) := by decide +kernel
theorem dX1_copyFrom_73 : decode cX1_copyFrom 73 = .ok (.getfield 38, 3) := by decide +kernel
theorem dX1_copyFrom_76 : decode cX1_copyFrom 76 = .ok (.iload_n 2, 1) := by decide +kernel
theorem dX1_copyFrom_77 : decode cX1_copyFrom 77 = .ok (.aload_n 1, 1) := by decide +kernel
theorem dX1_copyFrom_78 : decode cX1_copyFrom 78 = .ok (.getfield 38, 3) := by decide +kernel
theorem dX1_copyFrom_81 : decode cX1_copyFrom 81 = .ok (.iload_n 2, 1) := by decide +kernel
theorem dX1_copyFrom_82 : decode cX1_copyFrom 82 = .ok (.iaload, 1) := by decide +kernel
theorem dX1_copyFrom_83 : decode cX1_copyFrom 83 = .ok (.iastore, 1) := by decide +kernel
theorem dX1_copyFrom_84 : decode cX1_copyFrom 84 = .ok (.iinc 2 1, 3) := by decide +kernel
theorem dX1_copyFrom_87 : decode cX1_copyFrom 87 = .ok (.goto (-21), 3) := by decide +kernel
theorem dX1_copyFrom_90 : decode cX1_copyFrom 90 = .ok (.return_, 1) := by decide +kernel
theorem dX1_place_0 : decode cX1_place 0 = .ok (.aload_n 0, 1) := by decide +kernel
theorem dX1_place_1 : decode cX1_place 1 = .ok (.iload_n 1, 1) := by decide +kernel
theorem dX1_place_2 : decode cX1_place 2 = .ok (.putfield 9, 3) := by decide +kernel
theorem dX1_place_5 : decode cX1_place 5 = .ok (.aload_n 0, 1) := by decide +kernel
theorem dX1_place_6 : decode cX1_place 6 = .ok (.iload_n 2, 1) := by decide +kernel
theorem dX1_place_7 : decode cX1_place 7 = .ok (.putfield 15, 3) := by decide +kernel
theorem dX1_place_10 : decode cX1_place 10 = .ok (.aload_n 0, 1) := by decide +kernel
theorem dX1_place_11 : decode cX1_place 11 = .ok (.iload_n 3, 1) := by decide +kernel
theorem dX1_place_12 : decode cX1_place 12 = .ok (.putfield 18, 3) := by decide +kernel
theorem dX1_place_15 : decode cX1_place 15 = .ok (.aload_n 0, 1) := by decide +kernel
theorem dX1_place_16 : decode cX1_place 16 = .ok (.iload 4, 2) := by decide +kernel
theorem dX1_place_18 : decode cX1_place 18 = .ok (.putfield 21, 3) := by decide +kernel
theorem dX1_place_21 : decode cX1_place 21 = .ok (.aload_n 0, 1) := by decide +kernel
theorem dX1_place_22 : decode cX1_place 22 = .ok (.iconst 0, 1) := by decide +kernel
theorem dX1_place_23 : decode cX1_place 23 = .ok (.putfield 24, 3) := by decide +kernel
theorem dX1_place_26 : decode cX1_place 26 = .ok (.aload_n 0, 1) := by decide +kernel
theorem dX1_place_27 : decode cX1_place 27 = .ok (.iconst 0, 1) := by decide +kernel
theorem dX1_place_28 : decode cX1_place 28 = .ok (.putfield 27, 3) := by decide +kernel
theorem dX1_place_31 : decode cX1_place 31 = .ok (.aload_n 0, 1) := by decide +kernel
theorem dX1_place_32 : decode cX1_place 32 = .ok (.iconst 0, 1) := by decide +kernel
theorem dX1_place_33 : decode cX1_place 33 = .ok (.putfield 30, 3) := by decide +kernel
theorem dX1_place_36 : decode cX1_place 36 = .ok (.aload_n 0, 1) := by decide +kernel
theorem dX1_place_37 : decode cX1_place 37 = .ok (.bipush (-5), 2) := by decide +kernel
theorem dX1_place_39 : decode cX1_place 39 = .ok (.putfield 33, 3) := by decide +kernel
theorem dX1_place_42 : decode cX1_place 42 = .ok (.iconst 0, 1) := by decide +kernel
theorem dX1_place_43 : decode cX1_place 43 = .ok (.istore 5, 2) := by decide +kernel
theorem dX1_place_45 : decode cX1_place 45 = .ok (.iload 5, 2) := by decide +kernel
theorem dX1_place_47 : decode cX1_place 47 = .ok (.bipush 12, 2) := by decide +kernel
theorem dX1_place_49 : decode cX1_place 49 = .ok (.if_icmp .ge 31, 3) := by decide +kernel
theorem dX1_place_52 : decode cX1_place 52 = .ok (.aload_n 0, 1) := by decide +kernel
theorem dX1_place_53 : decode cX1_place 53 = .ok (.getfield 38, 3) := by decide +kernel
theorem dX1_place_56 : decode cX1_place 56 = .ok (.iload 5, 2) := by decide +kernel
theorem dX1_place_58 : decode cX1_place 58 = .ok (.aload_n 0, 1) := by decide +kernel
theorem dX1_place_59 : decode cX1_place 59 = .ok (.iload 5, 2) := by decide +kernel
theorem dX1_place_61 : decode cX1_place 61 = .ok (.iconst 0, 1) := by decide +kernel
theorem dX1_place_62 : decode cX1_place 62 = .ok (.invokevirtual 42, 3) := by decide +kernel
theorem dX1_place_65 : decode cX1_place 65 = .ok (.aload_n 0, 1) := by decide +kernel
theorem dX1_place_66 : decode cX1_place 66 = .ok (.iload 5, 2) := by decide +kernel
theorem dX1_place_68 : decode cX1_place 68 = .ok (.iconst 1, 1) := by decide +kernel
theorem dX1_place_69 : decode cX1_place 69 = .ok (.invokevirtual 42, 3) := by decide +kernel
theorem dX1_place_72 : decode cX1_place 72 = .ok (.isub, 1) := by decide +kernel
theorem dX1_place_73 : decode cX1_place 73 = .ok (.iastore, 1) := by decide +kernel
theorem dX1_place_74 : decode cX1_place 74 = .ok (.iinc 5 1, 3) := by decide +kernel
theorem dX1_place_77 : decode cX1_place 77 = .ok (.goto (-32), 3) := by decide +kernel
theorem dX1_place_80 : decode cX1_place 80 = .ok (.return_, 1) := by decide +kernel
theorem dX1_fieldsIn_0 : decode cX1_fieldsIn 0 = .ok (.iload_n 1, 1) := by decide +kernel
theorem dX1_fieldsIn_1 : decode cX1_fieldsIn 1 = .ok (.iconst 4, 1) := by decide +kernel
theorem dX1_fieldsIn_2 : decode cX1_fieldsIn 2 = .ok (.irem, 1) := by decide +kernel
theorem dX1_fieldsIn_3 : decode cX1_fieldsIn 3 = .ok (.bipush 8, 2) := by decide +kernel
theorem dX1_fieldsIn_5 : decode cX1_fieldsIn 5 = .ok (.imul, 1) := by decide +kernel
theorem dX1_fieldsIn_6 : decode cX1_fieldsIn 6 = .ok (.istore_n 3, 1) := by decide +kernel
theorem dX1_fieldsIn_7 : decode cX1_fieldsIn 7 = .ok (.iload_n 1, 1) := by decide +kernel
theorem dX1_fieldsIn_8 : decode cX1_fieldsIn 8 = .ok (.iconst 4, 1) := by decide +kernel
theorem dX1_fieldsIn_9 : decode cX1_fieldsIn 9 = .ok (.idiv, 1) := by decide +kernel
theorem dX1_fieldsIn_10 : decode cX1_fieldsIn 10 = .ok (.bipush 8, 2) := by decide +kernel
theorem dX1_fieldsIn_12 : decode cX1_fieldsIn 12 = .ok (.imul, 1) := by decide +kernel
theorem dX1_fieldsIn_13 : decode cX1_fieldsIn 13 = .ok (.istore 4, 2) := by decide +kernel
theorem dX1_fieldsIn_15 : decode cX1_fieldsIn 15 = .ok (.aload_n 0, 1) := by decide +kernel
theorem dX1_fieldsIn_16 : decode cX1_fieldsIn 16 = .ok (.getfield 9, 3) := by decide +kernel
theorem dX1_fieldsIn_19 : decode cX1_fieldsIn 19 = .ok (.aload_n 0, 1) := by decide +kernel
theorem dX1_fieldsIn_20 : decode cX1_fieldsIn 20 = .ok (.getfield 18, 3) := by decide +kernel
theorem dX1_fieldsIn_23 : decode cX1_fieldsIn 23 = .ok (.iadd, 1) := by decide +kernel
theorem dX1_fieldsIn_24 : decode cX1_fieldsIn 24 = .ok (.iload_n 2, 1) := by decide +kernel
theorem dX1_fieldsIn_25 : decode cX1_fieldsIn 25 = .ok (.isub, 1) := by decide +kernel
theorem dX1_fieldsIn_26 : decode cX1_fieldsIn 26 = .ok (.iload_n 3, 1) := by decide +kernel
theorem dX1_fieldsIn_27 : decode cX1_fieldsIn 27 = .ok (.bipush 8, 2) := by decide +kernel
theorem dX1_fieldsIn_29 : decode cX1_fieldsIn 29 = .ok (.iadd, 1) := by decide +kernel
theorem dX1_fieldsIn_30 : decode cX1_fieldsIn 30 = .ok (.invokestatic 46, 3) := by decide +kernel
theorem dX1_fieldsIn_33 : decode cX1_fieldsIn 33 = .ok (.aload_n 0, 1) := by decide +kernel
theorem dX1_fieldsIn_34 : decode cX1_fieldsIn 34 = .ok (.getfield 9, 3) := by decide +kernel
theorem dX1_fieldsIn_37 : decode cX1_fieldsIn 37 = .ok (.iload_n 2, 1) := by decide +kernel
theorem dX1_fieldsIn_38 : decode cX1_fieldsIn 38 = .ok (.iadd, 1) := by decide +kernel
theorem dX1_fieldsIn_39 : decode cX1_fieldsIn 39 = .ok (.iload_n 3, 1) := by decide +kernel
theorem dX1_fieldsIn_40 : decode cX1_fieldsIn 40 = .ok (.invokestatic 51, 3) := by decide +kernel
theorem dX1_fieldsIn_43 : decode cX1_fieldsIn 43 = .ok (.isub, 1) := by decide +kernel
theorem dX1_fieldsIn_44 : decode cX1_fieldsIn 44 = .ok (.istore 5, 2) := by decide +kernel
theorem dX1_fieldsIn_46 : decode cX1_fieldsIn 46 = .ok (.aload_n 0, 1) := by decide +kernel
theorem dX1_fieldsIn_47 : decode cX1_fieldsIn 47 = .ok (.getfield 15, 3) := by decide +kernel
theorem dX1_fieldsIn_50 : decode cX1_fieldsIn 50 = .ok (.aload_n 0, 1) := by decide +kernel
theorem dX1_fieldsIn_51 : decode cX1_fieldsIn 51 = .ok (.getfield 21, 3) := by decide +kernel
theorem dX1_fieldsIn_54 : decode cX1_fieldsIn 54 = .ok (.iadd, 1) := by decide +kernel
theorem dX1_fieldsIn_55 : decode cX1_fieldsIn 55 = .ok (.iload_n 2, 1) := by decide +kernel
theorem dX1_fieldsIn_56 : decode cX1_fieldsIn 56 = .ok (.isub, 1) := by decide +kernel
theorem dX1_fieldsIn_57 : decode cX1_fieldsIn 57 = .ok (.iload 4, 2) := by decide +kernel
theorem dX1_fieldsIn_59 : decode cX1_fieldsIn 59 = .ok (.bipush 8, 2) := by decide +kernel
theorem dX1_fieldsIn_61 : decode cX1_fieldsIn 61 = .ok (.iadd, 1) := by decide +kernel
theorem dX1_fieldsIn_62 : decode cX1_fieldsIn 62 = .ok (.invokestatic 46, 3) := by decide +kernel
theorem dX1_fieldsIn_65 : decode cX1_fieldsIn 65 = .ok (.aload_n 0, 1) := by decide +kernel
theorem dX1_fieldsIn_66 : decode cX1_fieldsIn 66 = .ok (.getfield 15, 3) := by decide +kernel
theorem dX1_fieldsIn_69 : decode cX1_fieldsIn 69 = .ok (.iload_n 2, 1) := by decide +kernel
theorem dX1_fieldsIn_70 : decode cX1_fieldsIn 70 = .ok (.iadd, 1) := by decide +kernel
theorem dX1_fieldsIn_71 : decode cX1_fieldsIn 71 = .ok (.iload 4, 2) := by decide +kernel
theorem dX1_fieldsIn_73 : decode cX1_fieldsIn 73 = .ok (.invokestatic 51, 3) := by decide +kernel
theorem dX1_fieldsIn_76 : decode cX1_fieldsIn 76 = .ok (.isub, 1) := by decide +kernel
theorem dX1_fieldsIn_77 : decode cX1_fieldsIn 77 = .ok (.istore 6, 2) := by decide +kernel
theorem dX1_fieldsIn_79 : decode cX1_fieldsIn 79 = .ok (.iload 5, 2) := by decide +kernel
theorem dX1_fieldsIn_81 : decode cX1_fieldsIn 81 = .ok (.iconst 0, 1) := by decide +kernel
theorem dX1_fieldsIn_82 : decode cX1_fieldsIn 82 = .ok (.invokestatic 51, 3) := by decide +kernel
theorem dX1_fieldsIn_85 : decode cX1_fieldsIn 85 = .ok (.iload 6, 2) := by decide +kernel
theorem dX1_fieldsIn_87 : decode cX1_fieldsIn 87 = .ok (.iconst 0, 1) := by decide +kernel
theorem dX1_fieldsIn_88 : decode cX1_fieldsIn 88 = .ok (.invokestatic 51, 3) := by decide +kernel
theorem dX1_fieldsIn_91 : decode cX1_fieldsIn 91 = .ok (.imul, 1) := by decide +kernel
theorem dX1_fieldsIn_92 : decode cX1_fieldsIn 92 = .ok (.ireturn, 1) := by decide +kernel
theorem dX1_isInside_0 : decode cX1_isInside 0 = .ok (.aload_n 0, 1) := by decide +kernel
theorem dX1_isInside_1 : decode cX1_isInside 1 = .ok (.getfield 9, 3) := by decide +kernel
theorem dX1_isInside_4 : decode cX1_isInside 4 = .ok (.aload_n 1, 1) := by decide +kernel
theorem dX1_isInside_5 : decode cX1_isInside 5 = .ok (.getfield 9, 3) := by decide +kernel
theorem dX1_isInside_8 : decode cX1_isInside 8 = .ok (.if_icmp .le 60, 3) := by decide +kernel
theorem dX1_isInside_11 : decode cX1_isInside 11 = .ok (.aload_n 0, 1) := by decide +kernel
theorem dX1_isInside_12 : decode cX1_isInside 12 = .ok (.getfield 9, 3) := by decide +kernel
theorem dX1_isInside_15 : decode cX1_isInside 15 = .ok (.aload_n 0, 1) := by decide +kernel
theorem dX1_isInside_16 : decode cX1_isInside 16 = .ok (.getfield 18, 3) := by decide +kernel
theorem dX1_isInside_19 : decode cX1_isInside 19 = .ok (.iadd, 1) := by decide +kernel
theorem dX1_isInside_20 : decode cX1_isInside 20 = .ok (.aload_n 1, 1) := by decide +kernel
theorem dX1_isInside_21 : decode cX1_isInside 21 = .ok (.getfield 9, 3) := by decide +kernel
theorem dX1_isInside_24 : decode cX1_isInside 24 = .ok (.aload_n 1, 1) := by decide +kernel
theorem dX1_isInside_25 : decode cX1_isInside 25 = .ok (.getfield 18, 3) := by decide +kernel
theorem dX1_isInside_28 : decode cX1_isInside 28 = .ok (.iadd, 1) := by decide +kernel
theorem dX1_isInside_29 : decode cX1_isInside 29 = .ok (.if_icmp .ge 39, 3) := by decide +kernel
theorem dX1_isInside_32 : decode cX1_isInside 32 = .ok (.aload_n 0, 1) := by decide +kernel
theorem dX1_isInside_33 : decode cX1_isInside 33 = .ok (.getfield 15, 3) := by decide +kernel
theorem dX1_isInside_36 : decode cX1_isInside 36 = .ok (.aload_n 1, 1) := by decide +kernel
theorem dX1_isInside_37 : decode cX1_isInside 37 = .ok (.getfield 15, 3) := by decide +kernel
theorem dX1_isInside_40 : decode cX1_isInside 40 = .ok (.if_icmp .le 28, 3) := by decide +kernel
theorem dX1_isInside_43 : decode cX1_isInside 43 = .ok (.aload_n 0, 1) := by decide +kernel
theorem dX1_isInside_44 : decode cX1_isInside 44 = .ok (.getfield 15, 3) := by decide +kernel
theorem dX1_isInside_47 : decode cX1_isInside 47 = .ok (.aload_n 0, 1) := by decide +kernel
theorem dX1_isInside_48 : decode cX1_isInside 48 = .ok (.getfield 21, 3) := by decide +kernel
theorem dX1_isInside_51 : decode cX1_isInside 51 = .ok (.iadd, 1) := by decide +kernel
theorem dX1_isInside_52 : decode cX1_isInside 52 = .ok (.aload_n 1, 1) := by decide +kernel
theorem dX1_isInside_53 : decode cX1_isInside 53 = .ok (.getfield 15, 3) := by decide +kernel
theorem dX1_isInside_56 : decode cX1_isInside 56 = .ok (.aload_n 1, 1) := by decide +kernel
theorem dX1_isInside_57 : decode cX1_isInside 57 = .ok (.getfield 21, 3) := by decide +kernel
theorem dX1_isInside_60 : decode cX1_isInside 60 = .ok (.iadd, 1) := by decide +kernel
theorem dX1_isInside_61 : decode cX1_isInside 61 = .ok (.if_icmp .ge 7, 3) := by decide +kernel
theorem dX1_isInside_64 : decode cX1_isInside 64 = .ok (.iconst 1, 1) := by decide +kernel
theorem dX1_isInside_65 : decode cX1_isInside 65 = .ok (.goto 4, 3) := by decide +kernel
theorem dX1_isInside_68 : decode cX1_isInside 68 = .ok (.iconst 0, 1) := by decide +kernel
theorem dX1_isInside_69 : decode cX1_isInside 69 = .ok (.ireturn, 1) := by decide +kernel
theorem dX1_isApartFrom_0 : decode cX1_isApartFrom 0 = .ok (.aload_n 0, 1) := by decide +kernel
theorem dX1_isApartFrom_1 : decode cX1_isApartFrom 1 = .ok (.getfield 9, 3) := by decide +kernel
theorem dX1_isApartFrom_4 : decode cX1_isApartFrom 4 = .ok (.aload_n 0, 1) := by decide +kernel
theorem dX1_isApartFrom_5 : decode cX1_isApartFrom 5 = .ok (.getfield 18, 3) := by decide +kernel
theorem dX1_isApartFrom_8 : decode cX1_isApartFrom 8 = .ok (.iadd, 1) := by decide +kernel
theorem dX1_isApartFrom_9 : decode cX1_isApartFrom 9 = .ok (.aload_n 1, 1) := by decide +kernel
theorem dX1_isApartFrom_10 : decode cX1_isApartFrom 10 = .ok (.getfield 9, 3) := by decide +kernel
theorem dX1_isApartFrom_13 : decode cX1_isApartFrom 13 = .ok (.if_icmp .le 51, 3) := by decide +kernel
theorem dX1_isApartFrom_16 : decode cX1_isApartFrom 16 = .ok (.aload_n 1, 1) := by decide +kernel
theorem dX1_isApartFrom_17 : decode cX1_isApartFrom 17 = .ok (.getfield 9, 3) := by decide +kernel
theorem dX1_isApartFrom_20 : decode cX1_isApartFrom 20 = .ok (.aload_n 1, 1) := by decide +kernel
theorem dX1_isApartFrom_21 : decode cX1_isApartFrom 21 = .ok (.getfield 18, 3) := by decide +kernel
theorem dX1_isApartFrom_24 : decode cX1_isApartFrom 24 = .ok (.iadd, 1) := by decide +kernel
theorem dX1_isApartFrom_25 : decode cX1_isApartFrom 25 = .ok (.aload_n 0, 1) := by decide +kernel
theorem dX1_isApartFrom_26 : decode cX1_isApartFrom 26 = .ok (.getfield 9, 3) := by decide +kernel
theorem dX1_isApartFrom_29 : decode cX1_isApartFrom 29 = .ok (.if_icmp .le 35, 3) := by decide +kernel
theorem dX1_isApartFrom_32 : decode cX1_isApartFrom 32 = .ok (.aload_n 0, 1) := by decide +kernel
theorem dX1_isApartFrom_33 : decode cX1_isApartFrom 33 = .ok (.getfield 15, 3) := by decide +kernel
theorem dX1_isApartFrom_36 : decode cX1_isApartFrom 36 = .ok (.aload_n 0, 1) := by decide +kernel
theorem dX1_isApartFrom_37 : decode cX1_isApartFrom 37 = .ok (.getfield 21, 3) := by decide +kernel
theorem dX1_isApartFrom_40 : decode cX1_isApartFrom 40 = .ok (.iadd, 1) := by decide +kernel
theorem dX1_isApartFrom_41 : decode cX1_isApartFrom 41 = .ok (.aload_n 1, 1) := by decide +kernel
theorem dX1_isApartFrom_42 : decode cX1_isApartFrom 42 = .ok (.getfield 15, 3) := by decide +kernel
theorem dX1_isApartFrom_45 : decode cX1_isApartFrom 45 = .ok (.if_icmp .le 19, 3) := by decide +kernel
theorem dX1_isApartFrom_48 : decode cX1_isApartFrom 48 = .ok (.aload_n 1, 1) := by decide +kernel
theorem dX1_isApartFrom_49 : decode cX1_isApartFrom 49 = .ok (.getfield 15, 3) := by decide +kernel
theorem dX1_isApartFrom_52 : decode cX1_isApartFrom 52 = .ok (.aload_n 1, 1) := by decide +kernel
theorem dX1_isApartFrom_53 : decode cX1_isApartFrom 53 = .ok (.getfield 21, 3) := by decide +kernel
theorem dX1_isApartFrom_56 : decode cX1_isApartFrom 56 = .ok (.iadd, 1) := by decide +kernel
theorem dX1_isApartFrom_57 : decode cX1_isApartFrom 57 = .ok (.aload_n 0, 1) := by decide +kernel
theorem dX1_isApartFrom_58 : decode cX1_isApartFrom 58 = .ok (.getfield 15, 3) := by decide +kernel
theorem dX1_isApartFrom_61 : decode cX1_isApartFrom 61 = .ok (.if_icmp .gt 7, 3) := by decide +kernel
theorem dX1_isApartFrom_64 : decode cX1_isApartFrom 64 = .ok (.iconst 1, 1) := by decide +kernel
theorem dX1_isApartFrom_65 : decode cX1_isApartFrom 65 = .ok (.goto 4, 3) := by decide +kernel
theorem dX1_isApartFrom_68 : decode cX1_isApartFrom 68 = .ok (.iconst 0, 1) := by decide +kernel
theorem dX1_isApartFrom_69 : decode cX1_isApartFrom 69 = .ok (.ireturn, 1) := by decide +kernel
theorem dX1_edge_0 : decode cX1_edge 0 = .ok (.iconst 2, 1) := by decide +kernel
theorem dX1_edge_1 : decode cX1_edge 1 = .ok (.aload_n 0, 1) := by decide +kernel
theorem dX1_edge_2 : decode cX1_edge 2 = .ok (.getfield 18, 3) := by decide +kernel
theorem dX1_edge_5 : decode cX1_edge 5 = .ok (.aload_n 0, 1) := by decide +kernel
theorem dX1_edge_6 : decode cX1_edge 6 = .ok (.getfield 21, 3) := by decide +kernel
theorem dX1_edge_9 : decode cX1_edge 9 = .ok (.iadd, 1) := by decide +kernel
theorem dX1_edge_10 : decode cX1_edge 10 = .ok (.imul, 1) := by decide +kernel
theorem dX1_edge_11 : decode cX1_edge 11 = .ok (.iconst 4, 1) := by decide +kernel
theorem dX1_edge_12 : decode cX1_edge 12 = .ok (.isub, 1) := by decide +kernel
theorem dX1_edge_13 : decode cX1_edge 13 = .ok (.ireturn, 1) := by decide +kernel
theorem dX1_leadColumn_0 : decode cX1_leadColumn 0 = .ok (.aload_n 0, 1) := by decide +kernel
theorem dX1_leadColumn_1 : decode cX1_leadColumn 1 = .ok (.getfield 24, 3) := by decide +kernel
theorem dX1_leadColumn_4 : decode cX1_leadColumn 4 = .ok (.iconst 1, 1) := by decide +kernel
theorem dX1_leadColumn_5 : decode cX1_leadColumn 5 = .ok (.if_icmp .eq 11, 3) := by decide +kernel
theorem dX1_leadColumn_8 : decode cX1_leadColumn 8 = .ok (.aload_n 0, 1) := by decide +kernel
theorem dX1_leadColumn_9 : decode cX1_leadColumn 9 = .ok (.getfield 24, 3) := by decide +kernel
theorem dX1_leadColumn_12 : decode cX1_leadColumn 12 = .ok (.iconst 2, 1) := by decide +kernel
theorem dX1_leadColumn_13 : decode cX1_leadColumn 13 = .ok (.if_icmp .ne 17, 3) := by decide +kernel
theorem dX1_leadColumn_16 : decode cX1_leadColumn 16 = .ok (.aload_n 0, 1) := by decide +kernel
theorem dX1_leadColumn_17 : decode cX1_leadColumn 17 = .ok (.getfield 9, 3) := by decide +kernel
theorem dX1_leadColumn_20 : decode cX1_leadColumn 20 = .ok (.aload_n 0, 1) := by decide +kernel
theorem dX1_leadColumn_21 : decode cX1_leadColumn 21 = .ok (.getfield 18, 3) := by decide +kernel
theorem dX1_leadColumn_24 : decode cX1_leadColumn 24 = .ok (.iadd, 1) := by decide +kernel
theorem dX1_leadColumn_25 : decode cX1_leadColumn 25 = .ok (.iconst 1, 1) := by decide +kernel
theorem dX1_leadColumn_26 : decode cX1_leadColumn 26 = .ok (.isub, 1) := by decide +kernel
theorem dX1_leadColumn_27 : decode cX1_leadColumn 27 = .ok (.goto 7, 3) := by decide +kernel
theorem dX1_leadColumn_30 : decode cX1_leadColumn 30 = .ok (.aload_n 0, 1) := by decide +kernel
theorem dX1_leadColumn_31 : decode cX1_leadColumn 31 = .ok (.getfield 9, 3) := by decide +kernel
theorem dX1_leadColumn_34 : decode cX1_leadColumn 34 = .ok (.ireturn, 1) := by decide +kernel
theorem dX1_leadRow_0 : decode cX1_leadRow 0 = .ok (.aload_n 0, 1) := by decide +kernel
theorem dX1_leadRow_1 : decode cX1_leadRow 1 = .ok (.getfield 24, 3) := by decide +kernel
theorem dX1_leadRow_4 : decode cX1_leadRow 4 = .ok (.iconst 2, 1) := by decide +kernel
theorem dX1_leadRow_5 : decode cX1_leadRow 5 = .ok (.if_icmp .eq 11, 3) := by decide +kernel
theorem dX1_leadRow_8 : decode cX1_leadRow 8 = .ok (.aload_n 0, 1) := by decide +kernel
theorem dX1_leadRow_9 : decode cX1_leadRow 9 = .ok (.getfield 24, 3) := by decide +kernel
theorem dX1_leadRow_12 : decode cX1_leadRow 12 = .ok (.iconst 3, 1) := by decide +kernel
theorem dX1_leadRow_13 : decode cX1_leadRow 13 = .ok (.if_icmp .ne 17, 3) := by decide +kernel
theorem dX1_leadRow_16 : decode cX1_leadRow 16 = .ok (.aload_n 0, 1) := by decide +kernel
theorem dX1_leadRow_17 : decode cX1_leadRow 17 = .ok (.getfield 15, 3) := by decide +kernel
theorem dX1_leadRow_20 : decode cX1_leadRow 20 = .ok (.aload_n 0, 1) := by decide +kernel
theorem dX1_leadRow_21 : decode cX1_leadRow 21 = .ok (.getfield 21, 3) := by decide +kernel
theorem dX1_leadRow_24 : decode cX1_leadRow 24 = .ok (.iadd, 1) := by decide +kernel
theorem dX1_leadRow_25 : decode cX1_leadRow 25 = .ok (.iconst 1, 1) := by decide +kernel
theorem dX1_leadRow_26 : decode cX1_leadRow 26 = .ok (.isub, 1) := by decide +kernel
theorem dX1_leadRow_27 : decode cX1_leadRow 27 = .ok (.goto 7, 3) := by decide +kernel
theorem dX1_leadRow_30 : decode cX1_leadRow 30 = .ok (.aload_n 0, 1) := by decide +kernel
theorem dX1_leadRow_31 : decode cX1_leadRow 31 = .ok (.getfield 15, 3) := by decide +kernel
theorem dX1_leadRow_34 : decode cX1_leadRow 34 = .ok (.ireturn, 1) := by decide +kernel
theorem dX1_leadSquare_0 : decode cX1_leadSquare 0 = .ok (.aload_n 0, 1) := by decide +kernel
theorem dX1_leadSquare_1 : decode cX1_leadSquare 1 = .ok (.invokevirtual 54, 3) := by decide +kernel
theorem dX1_leadSquare_4 : decode cX1_leadSquare 4 = .ok (.bipush 8, 2) := by decide +kernel
theorem dX1_leadSquare_6 : decode cX1_leadSquare 6 = .ok (.idiv, 1) := by decide +kernel
theorem dX1_leadSquare_7 : decode cX1_leadSquare 7 = .ok (.iconst 4, 1) := by decide +kernel
theorem dX1_leadSquare_8 : decode cX1_leadSquare 8 = .ok (.aload_n 0, 1) := by decide +kernel
theorem dX1_leadSquare_9 : decode cX1_leadSquare 9 = .ok (.invokevirtual 58, 3) := by decide +kernel
theorem dX1_leadSquare_12 : decode cX1_leadSquare 12 = .ok (.bipush 8, 2) := by decide +kernel
theorem dX1_leadSquare_14 : decode cX1_leadSquare 14 = .ok (.idiv, 1) := by decide +kernel
theorem dX1_leadSquare_15 : decode cX1_leadSquare 15 = .ok (.imul, 1) := by decide +kernel
theorem dX1_leadSquare_16 : decode cX1_leadSquare 16 = .ok (.iadd, 1) := by decide +kernel
theorem dX1_leadSquare_17 : decode cX1_leadSquare 17 = .ok (.ireturn, 1) := by decide +kernel
theorem dX2_init_0 : decode cX2_init 0 = .ok (.aload_n 0, 1) := by decide +kernel
theorem dX2_init_1 : decode cX2_init 1 = .ok (.invokespecial 3, 3) := by decide +kernel
theorem dX2_init_4 : decode cX2_init 4 = .ok (.aload_n 0, 1) := by decide +kernel
theorem dX2_init_5 : decode cX2_init 5 = .ok (.bipush 13, 2) := by decide +kernel
theorem dX2_init_7 : decode cX2_init 7 = .ok (.anewarray 11, 3) := by decide +kernel
theorem dX2_init_10 : decode cX2_init 10 = .ok (.putfield 13, 3) := by decide +kernel
theorem dX2_init_13 : decode cX2_init 13 = .ok (.iconst 0, 1) := by decide +kernel
theorem dX2_init_14 : decode cX2_init 14 = .ok (.istore_n 1, 1) := by decide +kernel
theorem dX2_init_15 : decode cX2_init 15 = .ok (.iload_n 1, 1) := by decide +kernel
theorem dX2_init_16 : decode cX2_init 16 = .ok (.bipush 12, 2) := by decide +kernel
theorem dX2_init_18 : decode cX2_init 18 = .ok (.if_icmp .gt 22, 3) := by decide +kernel
theorem dX2_init_21 : decode cX2_init 21 = .ok (.aload_n 0, 1) := by decide +kernel
theorem dX2_init_22 : decode cX2_init 22 = .ok (.getfield 13, 3) := by decide +kernel
theorem dX2_init_25 : decode cX2_init 25 = .ok (.iload_n 1, 1) := by decide +kernel
theorem dX2_init_26 : decode cX2_init 26 = .ok (.new 11, 3) := by decide +kernel
theorem dX2_init_29 : decode cX2_init 29 = .ok (.dup, 1) := by decide +kernel
theorem dX2_init_30 : decode cX2_init 30 = .ok (.invokespecial 17, 3) := by decide +kernel
theorem dX2_init_33 : decode cX2_init 33 = .ok (.aastore, 1) := by decide +kernel
theorem dX2_init_34 : decode cX2_init 34 = .ok (.iinc 1 1, 3) := by decide +kernel
theorem dX2_init_37 : decode cX2_init 37 = .ok (.goto (-22), 3) := by decide +kernel
theorem dX2_init_40 : decode cX2_init 40 = .ok (.aload_n 0, 1) := by decide +kernel
theorem dX2_init_41 : decode cX2_init 41 = .ok (.bipush 12, 2) := by decide +kernel
theorem dX2_init_43 : decode cX2_init 43 = .ok (.newarray .int, 2) := by decide +kernel
theorem dX2_init_45 : decode cX2_init 45 = .ok (.putfield 18, 3) := by decide +kernel
theorem dX2_init_48 : decode cX2_init 48 = .ok (.aload_n 0, 1) := by decide +kernel
theorem dX2_init_49 : decode cX2_init 49 = .ok (.iconst 4, 1) := by decide +kernel
theorem dX2_init_50 : decode cX2_init 50 = .ok (.newarray .int, 2) := by decide +kernel
theorem dX2_init_52 : decode cX2_init 52 = .ok (.putfield 22, 3) := by decide +kernel
theorem dX2_init_55 : decode cX2_init 55 = .ok (.aload_n 0, 1) := by decide +kernel
theorem dX2_init_56 : decode cX2_init 56 = .ok (.getfield 22, 3) := by decide +kernel
theorem dX2_init_59 : decode cX2_init 59 = .ok (.iconst 0, 1) := by decide +kernel
theorem dX2_init_60 : decode cX2_init 60 = .ok (.bipush 20, 2) := by decide +kernel
theorem dX2_init_62 : decode cX2_init 62 = .ok (.iastore, 1) := by decide +kernel
theorem dX2_init_63 : decode cX2_init 63 = .ok (.aload_n 0, 1) := by decide +kernel
theorem dX2_init_64 : decode cX2_init 64 = .ok (.getfield 22, 3) := by decide +kernel
theorem dX2_init_67 : decode cX2_init 67 = .ok (.iconst 1, 1) := by decide +kernel
theorem dX2_init_68 : decode cX2_init 68 = .ok (.iconst 1, 1) := by decide +kernel
theorem dX2_init_69 : decode cX2_init 69 = .ok (.iastore, 1) := by decide +kernel
theorem dX2_init_70 : decode cX2_init 70 = .ok (.aload_n 0, 1) := by decide +kernel
theorem dX2_init_71 : decode cX2_init 71 = .ok (.getfield 22, 3) := by decide +kernel
theorem dX2_init_74 : decode cX2_init 74 = .ok (.iconst 2, 1) := by decide +kernel
theorem dX2_init_75 : decode cX2_init 75 = .ok (.sipush 150, 3) := by decide +kernel
theorem dX2_init_78 : decode cX2_init 78 = .ok (.iastore, 1) := by decide +kernel
theorem dX2_init_79 : decode cX2_init 79 = .ok (.aload_n 0, 1) := by decide +kernel
theorem dX2_init_80 : decode cX2_init 80 = .ok (.getfield 22, 3) := by decide +kernel
theorem dX2_init_83 : decode cX2_init 83 = .ok (.iconst 3, 1) := by decide +kernel
theorem dX2_init_84 : decode cX2_init 84 = .ok (.iconst 1, 1) := by decide +kernel
theorem dX2_init_85 : decode cX2_init 85 = .ok (.iastore, 1) := by decide +kernel
theorem dX2_init_86 : decode cX2_init 86 = .ok (.aload_n 0, 1) := by decide +kernel
theorem dX2_init_87 : decode cX2_init 87 = .ok (.iconst 0, 1) := by decide +kernel
theorem dX2_init_88 : decode cX2_init 88 = .ok (.putfield 25, 3) := by decide +kernel
theorem dX2_init_91 : decode cX2_init 91 = .ok (.aload_n 0, 1) := by decide +kernel
theorem dX2_init_92 : decode cX2_init 92 = .ok (.iconst 0, 1) := by decide +kernel
theorem dX2_init_93 : decode cX2_init 93 = .ok (.putfield 29, 3) := by decide +kernel
theorem dX2_init_96 : decode cX2_init 96 = .ok (.aload_n 0, 1) := by decide +kernel
theorem dX2_init_97 : decode cX2_init 97 = .ok (.iconst 0, 1) := by decide +kernel
theorem dX2_init_98 : decode cX2_init 98 = .ok (.putfield 32, 3) := by decide +kernel
theorem dX2_init_101 : decode cX2_init 101 = .ok (.aload_n 0, 1) := by decide +kernel
theorem dX2_init_102 : decode cX2_init 102 = .ok (.iconst 0, 1) := by decide +kernel
theorem dX2_init_103 : decode cX2_init 103 = .ok (.putfield 35, 3) := by decide +kernel
theorem dX2_init_106 : decode cX2_init 106 = .ok (.aload_n 0, 1) := by decide +kernel
theorem dX2_init_107 : decode cX2_init 107 = .ok (.iconst 0, 1) := by decide +kernel
theorem dX2_init_108 : decode cX2_init 108 = .ok (.putfield 38, 3) := by decide +kernel
theorem dX2_init_111 : decode cX2_init 111 = .ok (.aload_n 0, 1) := by decide +kernel
theorem dX2_init_112 : decode cX2_init 112 = .ok (.iconst 0, 1) := by decide +kernel
theorem dX2_init_113 : decode cX2_init 113 = .ok (.putfield 41, 3) := by decide +kernel
theorem dX2_init_116 : decode cX2_init 116 = .ok (.aload_n 0, 1) := by decide +kernel
theorem dX2_init_117 : decode cX2_init 117 = .ok (.iconst 0, 1) := by decide +kernel
theorem dX2_init_118 : decode cX2_init 118 = .ok (.putfield 44, 3) := by decide +kernel
theorem dX2_init_121 : decode cX2_init 121 = .ok (.return_, 1) := by decide +kernel
theorem dX2_copyFrom_0 : decode cX2_copyFrom 0 = .ok (.iconst 0, 1) := by decide +kernel
theorem dX2_copyFrom_1 : decode cX2_copyFrom 1 = .ok (.istore_n 2, 1) := by decide +kernel
theorem dX2_copyFrom_2 : decode cX2_copyFrom 2 = .ok (.iload_n 2, 1) := by decide +kernel
theorem dX2_copyFrom_3 : decode cX2_copyFrom 3 = .ok (.aload_n 1, 1) := by decide +kernel
theorem dX2_copyFrom_4 : decode cX2_copyFrom 4 = .ok (.getfield 25, 3) := by decide +kernel
theorem dX2_copyFrom_7 : decode cX2_copyFrom 7 = .ok (.if_icmp .ge 24, 3) := by decide +kernel
theorem dX2_copyFrom_10 : decode cX2_copyFrom 10 = .ok (.aload_n 0, 1) := by decide +kernel
theorem dX2_copyFrom_11 : decode cX2_copyFrom 11 = .ok (.getfield 13, 3) := by decide +kernel
theorem dX2_copyFrom_14 : decode cX2_copyFrom 14 = .ok (.iload_n 2, 1) := by decide +kernel
theorem dX2_copyFrom_15 : decode cX2_copyFrom 15 = .ok (.aaload, 1) := by decide +kernel
theorem dX2_copyFrom_16 : decode cX2_copyFrom 16 = .ok (.aload_n 1, 1) := by decide +kernel
theorem dX2_copyFrom_17 : decode cX2_copyFrom 17 = .ok (.getfield 13, 3) := by decide +kernel
theorem dX2_copyFrom_20 : decode cX2_copyFrom 20 = .ok (.iload_n 2, 1) := by decide +kernel
theorem dX2_copyFrom_21 : decode cX2_copyFrom 21 = .ok (.aaload, 1) := by decide +kernel
theorem dX2_copyFrom_22 : decode cX2_copyFrom 22 = .ok (.invokevirtual 47, 3) := by decide +kernel
theorem dX2_copyFrom_25 : decode cX2_copyFrom 25 = .ok (.iinc 2 1, 3) := by decide +kernel
theorem dX2_copyFrom_28 : decode cX2_copyFrom 28 = .ok (.goto (-26), 3) := by decide +kernel
theorem dX2_copyFrom_31 : decode cX2_copyFrom 31 = .ok (.iconst 0, 1) := by decide +kernel
theorem dX2_copyFrom_32 : decode cX2_copyFrom 32 = .ok (.istore_n 2, 1) := by decide +kernel
theorem dX2_copyFrom_33 : decode cX2_copyFrom 33 = .ok (.iload_n 2, 1) := by decide +kernel
theorem dX2_copyFrom_34 : decode cX2_copyFrom 34 = .ok (.bipush 12, 2) := by decide +kernel
theorem dX2_copyFrom_36 : decode cX2_copyFrom 36 = .ok (.if_icmp .ge 21, 3) := by decide +kernel
theorem dX2_copyFrom_39 : decode cX2_copyFrom 39 = .ok (.aload_n 0, 1) := by decide +kernel
theorem dX2_copyFrom_40 : decode cX2_copyFrom 40 = .ok (.getfield 18, 3) := by decide +kernel
theorem dX2_copyFrom_43 : decode cX2_copyFrom 43 = .ok (.iload_n 2, 1) := by decide +kernel
theorem dX2_copyFrom_44 : decode cX2_copyFrom 44 = .ok (.aload_n 1, 1) := by decide +kernel
theorem dX2_copyFrom_45 : decode cX2_copyFrom 45 = .ok (.getfield 18, 3) := by decide +kernel
theorem dX2_copyFrom_48 : decode cX2_copyFrom 48 = .ok (.iload_n 2, 1) := by decide +kernel
theorem dX2_copyFrom_49 : decode cX2_copyFrom 49 = .ok (.iaload, 1) := by decide +kernel
theorem dX2_copyFrom_50 : decode cX2_copyFrom 50 = .ok (.iastore, 1) := by decide +kernel
theorem dX2_copyFrom_51 : decode cX2_copyFrom 51 = .ok (.iinc 2 1, 3) := by decide +kernel
theorem dX2_copyFrom_54 : decode cX2_copyFrom 54 = .ok (.goto (-21), 3) := by decide +kernel
theorem dX2_copyFrom_57 : decode cX2_copyFrom 57 = .ok (.iconst 0, 1) := by decide +kernel
theorem dX2_copyFrom_58 : decode cX2_copyFrom 58 = .ok (.istore_n 2, 1) := by decide +kernel
theorem dX2_copyFrom_59 : decode cX2_copyFrom 59 = .ok (.iload_n 2, 1) := by decide +kernel
theorem dX2_copyFrom_60 : decode cX2_copyFrom 60 = .ok (.iconst 4, 1) := by decide +kernel
theorem dX2_copyFrom_61 : decode cX2_copyFrom 61 = .ok (.if_icmp .ge 21, 3) := by decide +kernel
theorem dX2_copyFrom_64 : decode cX2_copyFrom 64 = .ok (.aload_n 0, 1) := by decide +kernel
theorem dX2_copyFrom_65 : decode cX2_copyFrom 65 = .ok (.getfield 22, 3) := by decide +kernel
theorem dX2_copyFrom_68 : decode cX2_copyFrom 68 = .ok (.iload_n 2, 1) := by decide +kernel
theorem dX2_copyFrom_69 : decode cX2_copyFrom 69 = .ok (.aload_n 1, 1) := by decide +kernel
theorem dX2_copyFrom_70 : decode cX2_copyFrom 70 = .ok (.getfield 22, 3) := by decide +kernel
theorem dX2_copyFrom_73 : decode cX2_copyFrom 73 = .ok (.iload_n 2, 1) := by decide +kernel
theorem dX2_copyFrom_74 : decode cX2_copyFrom 74 = .ok (.iaload, 1) := by decide +kernel
theorem dX2_copyFrom_75 : decode cX2_copyFrom 75 = .ok (.iastore, 1) := by decide +kernel
theorem dX2_copyFrom_76 : decode cX2_copyFrom 76 = .ok (.iinc 2 1, 3) := by decide +kernel
theorem dX2_copyFrom_79 : decode cX2_copyFrom 79 = .ok (.goto (-20), 3) := by decide +kernel
theorem dX2_copyFrom_82 : decode cX2_copyFrom 82 = .ok (.aload_n 0, 1) := by decide +kernel
theorem dX2_copyFrom_83 : decode cX2_copyFrom 83 = .ok (.aload_n 1, 1) := by decide +kernel
theorem dX2_copyFrom_84 : decode cX2_copyFrom 84 = .ok (.getfield 25, 3) := by decide +kernel
theorem dX2_copyFrom_87 : decode cX2_copyFrom 87 = .ok (.putfield 25, 3) := by decide +kernel
theorem dX2_copyFrom_90 : decode cX2_copyFrom 90 = .ok (.aload_n 0, 1) := by decide +kernel
theorem dX2_copyFrom_91 : decode cX2_copyFrom 91 = .ok (.aload_n 1, 1) := by decide +kernel
theorem dX2_copyFrom_92 : decode cX2_copyFrom 92 = .ok (.getfield 29, 3) := by decide +kernel
theorem dX2_copyFrom_95 : decode cX2_copyFrom 95 = .ok (.putfield 29, 3) := by decide +kernel
theorem dX2_copyFrom_98 : decode cX2_copyFrom 98 = .ok (.aload_n 0, 1) := by decide +kernel
theorem dX2_copyFrom_99 : decode cX2_copyFrom 99 = .ok (.aload_n 1, 1) := by decide +kernel
theorem dX2_copyFrom_100 : decode cX2_copyFrom 100 = .ok (.getfield 32, 3) := by decide +kernel
theorem dX2_copyFrom_103 : decode cX2_copyFrom 103 = .ok (.putfield 32, 3) := by decide +kernel
theorem dX2_copyFrom_106 : decode cX2_copyFrom 106 = .ok (.aload_n 0, 1) := by decide +kernel
theorem dX2_copyFrom_107 : decode cX2_copyFrom 107 = .ok (.aload_n 1, 1) := by decide +kernel
theorem dX2_copyFrom_108 : decode cX2_copyFrom 108 = .ok (.getfield 35, 3) := by decide +kernel
theorem dX2_copyFrom_111 : decode cX2_copyFrom 111 = .ok (.putfield 35, 3) := by decide +kernel
theorem dX2_copyFrom_114 : decode cX2_copyFrom 114 = .ok (.aload_n 0, 1) := by decide +kernel
theorem dX2_copyFrom_115 : decode cX2_copyFrom 115 = .ok (.aload_n 1, 1) := by decide +kernel
theorem dX2_copyFrom_116 : decode cX2_copyFrom 116 = .ok (.getfield 38, 3) := by decide +kernel
theorem dX2_copyFrom_119 : decode cX2_copyFrom 119 = .ok (.putfield 38, 3) := by decide +kernel
theorem dX2_copyFrom_122 : decode cX2_copyFrom 122 = .ok (.aload_n 0, 1) := by decide +kernel
theorem dX2_copyFrom_123 : decode cX2_copyFrom 123 = .ok (.aload_n 1, 1) := by decide +kernel
theorem dX2_copyFrom_124 : decode cX2_copyFrom 124 = .ok (.getfield 41, 3) := by decide +kernel
theorem dX2_copyFrom_127 : decode cX2_copyFrom 127 = .ok (.putfield 41, 3) := by decide +kernel
theorem dX2_copyFrom_130 : decode cX2_copyFrom 130 = .ok (.aload_n 0, 1) := by decide +kernel
theorem dX2_copyFrom_131 : decode cX2_copyFrom 131 = .ok (.aload_n 1, 1) := by decide +kernel
theorem dX2_copyFrom_132 : decode cX2_copyFrom 132 = .ok (.getfield 44, 3) := by decide +kernel
theorem dX2_copyFrom_135 : decode cX2_copyFrom 135 = .ok (.putfield 44, 3) := by decide +kernel
theorem dX2_copyFrom_138 : decode cX2_copyFrom 138 = .ok (.return_, 1) := by decide +kernel
theorem dX2_knows_0 : decode cX2_knows 0 = .ok (.iload_n 1, 1) := by decide +kernel
theorem dX2_knows_1 : decode cX2_knows 1 = .ok (.ifCond .lt 21, 3) := by decide +kernel
theorem dX2_knows_4 : decode cX2_knows 4 = .ok (.iload_n 1, 1) := by decide +kernel
theorem dX2_knows_5 : decode cX2_knows 5 = .ok (.aload_n 0, 1) := by decide +kernel
theorem dX2_knows_6 : decode cX2_knows 6 = .ok (.getfield 25, 3) := by decide +kernel
theorem dX2_knows_9 : decode cX2_knows 9 = .ok (.if_icmp .ge 13, 3) := by decide +kernel
theorem dX2_knows_12 : decode cX2_knows 12 = .ok (.iload_n 1, 1) := by decide +kernel
theorem dX2_knows_13 : decode cX2_knows 13 = .ok (.bipush 12, 2) := by decide +kernel
theorem dX2_knows_15 : decode cX2_knows 15 = .ok (.if_icmp .ge 7, 3) := by decide +kernel
theorem dX2_knows_18 : decode cX2_knows 18 = .ok (.iconst 1, 1) := by decide +kernel
theorem dX2_knows_19 : decode cX2_knows 19 = .ok (.goto 4, 3) := by decide +kernel
theorem dX2_knows_22 : decode cX2_knows 22 = .ok (.iconst 0, 1) := by decide +kernel
theorem dX2_knows_23 : decode cX2_knows 23 = .ok (.ireturn, 1) := by decide +kernel
theorem dX2_addShape_0 : decode cX2_addShape 0 = .ok (.iload_n 1, 1) := by decide +kernel
theorem dX2_addShape_1 : decode cX2_addShape 1 = .ok (.iconst 0, 1) := by decide +kernel
theorem dX2_addShape_2 : decode cX2_addShape 2 = .ok (.bipush 31, 2) := by decide +kernel
theorem dX2_addShape_4 : decode cX2_addShape 4 = .ok (.invokestatic 51, 3) := by decide +kernel
theorem dX2_addShape_7 : decode cX2_addShape 7 = .ok (.ifCond .eq 51, 3) := by decide +kernel
theorem dX2_addShape_10 : decode cX2_addShape 10 = .ok (.iload_n 2, 1) := by decide +kernel
theorem dX2_addShape_11 : decode cX2_addShape 11 = .ok (.iconst 0, 1) := by decide +kernel
theorem dX2_addShape_12 : decode cX2_addShape 12 = .ok (.bipush 23, 2) := by decide +kernel
theorem dX2_addShape_14 : decode cX2_addShape 14 = .ok (.invokestatic 51, 3) := by decide +kernel
theorem dX2_addShape_17 : decode cX2_addShape 17 = .ok (.ifCond .eq 41, 3) := by decide +kernel
theorem dX2_addShape_20 : decode cX2_addShape 20 = .ok (.iload_n 3, 1) := by decide +kernel
theorem dX2_addShape_21 : decode cX2_addShape 21 = .ok (.iconst 2, 1) := by decide +kernel
theorem dX2_addShape_22 : decode cX2_addShape 22 = .ok (.bipush 32, 2) := by decide +kernel
theorem dX2_addShape_24 : decode cX2_addShape 24 = .ok (.invokestatic 51, 3) := by decide +kernel
theorem dX2_addShape_27 : decode cX2_addShape 27 = .ok (.ifCond .eq 31, 3) := by decide +kernel
theorem dX2_addShape_30 : decode cX2_addShape 30 = .ok (.iload 4, 2) := by decide +kernel
theorem dX2_addShape_32 : decode cX2_addShape 32 = .ok (.iconst 2, 1) := by decide +kernel
theorem dX2_addShape_33 : decode cX2_addShape 33 = .ok (.bipush 24, 2) := by decide +kernel
theorem dX2_addShape_35 : decode cX2_addShape 35 = .ok (.invokestatic 51, 3) := by decide +kernel
theorem dX2_addShape_38 : decode cX2_addShape 38 = .ok (.ifCond .eq 20, 3) := by decide +kernel
theorem dX2_addShape_41 : decode cX2_addShape 41 = .ok (.iload_n 1, 1) := by decide +kernel
theorem dX2_addShape_42 : decode cX2_addShape 42 = .ok (.iload_n 3, 1) := by decide +kernel
theorem dX2_addShape_43 : decode cX2_addShape 43 = .ok (.iadd, 1) := by decide +kernel
theorem dX2_addShape_44 : decode cX2_addShape 44 = .ok (.bipush 32, 2) := by decide +kernel
theorem dX2_addShape_46 : decode cX2_addShape 46 = .ok (.if_icmp .gt 12, 3) := by decide +kernel
theorem dX2_addShape_49 : decode cX2_addShape 49 = .ok (.iload_n 2, 1) := by decide +kernel
theorem dX2_addShape_50 : decode cX2_addShape 50 = .ok (.iload 4, 2) := by decide +kernel
theorem dX2_addShape_52 : decode cX2_addShape 52 = .ok (.iadd, 1) := by decide +kernel
theorem dX2_addShape_53 : decode cX2_addShape 53 = .ok (.bipush 24, 2) := by decide +kernel
theorem dX2_addShape_55 : decode cX2_addShape 55 = .ok (.if_icmp .le 6, 3) := by decide +kernel
theorem dX2_addShape_58 : decode cX2_addShape 58 = .ok (.bipush (-2), 2) := by decide +kernel
theorem dX2_addShape_60 : decode cX2_addShape 60 = .ok (.ireturn, 1) := by decide +kernel
theorem dX2_addShape_61 : decode cX2_addShape 61 = .ok (.aload_n 0, 1) := by decide +kernel
theorem dX2_addShape_62 : decode cX2_addShape 62 = .ok (.getfield 13, 3) := by decide +kernel
theorem dX2_addShape_65 : decode cX2_addShape 65 = .ok (.aload_n 0, 1) := by decide +kernel
theorem dX2_addShape_66 : decode cX2_addShape 66 = .ok (.getfield 25, 3) := by decide +kernel
theorem dX2_addShape_69 : decode cX2_addShape 69 = .ok (.aaload, 1) := by decide +kernel
theorem dX2_addShape_70 : decode cX2_addShape 70 = .ok (.astore 5, 2) := by decide +kernel
theorem dX2_addShape_72 : decode cX2_addShape 72 = .ok (.aload 5, 2) := by decide +kernel
theorem dX2_addShape_74 : decode cX2_addShape 74 = .ok (.iload_n 1, 1) := by decide +kernel
theorem dX2_addShape_75 : decode cX2_addShape 75 = .ok (.iload_n 2, 1) := by decide +kernel
theorem dX2_addShape_76 : decode cX2_addShape 76 = .ok (.iload_n 3, 1) := by decide +kernel
theorem dX2_addShape_77 : decode cX2_addShape 77 = .ok (.iload 4, 2) := by decide +kernel
theorem dX2_addShape_79 : decode cX2_addShape 79 = .ok (.invokevirtual 55, 3) := by decide +kernel
theorem dX2_addShape_82 : decode cX2_addShape 82 = .ok (.aload_n 0, 1) := by decide +kernel
theorem dX2_addShape_83 : decode cX2_addShape 83 = .ok (.aload 5, 2) := by decide +kernel
theorem dX2_addShape_85 : decode cX2_addShape 85 = .ok (.invokevirtual 59, 3) := by decide +kernel
theorem dX2_addShape_88 : decode cX2_addShape 88 = .ok (.ifCond .ne 6, 3) := by decide +kernel
theorem dX2_addShape_91 : decode cX2_addShape 91 = .ok (.bipush (-4), 2) := by decide +kernel
theorem dX2_addShape_93 : decode cX2_addShape 93 = .ok (.ireturn, 1) := by decide +kernel
theorem dX2_addShape_94 : decode cX2_addShape 94 = .ok (.aload_n 0, 1) := by decide +kernel
theorem dX2_addShape_95 : decode cX2_addShape 95 = .ok (.getfield 25, 3) := by decide +kernel
theorem dX2_addShape_98 : decode cX2_addShape 98 = .ok (.bipush 12, 2) := by decide +kernel
theorem dX2_addShape_100 : decode cX2_addShape 100 = .ok (.if_icmp .lt 6, 3) := by decide +kernel
theorem dX2_addShape_103 : decode cX2_addShape 103 = .ok (.bipush (-3), 2) := by decide +kernel
theorem dX2_addShape_105 : decode cX2_addShape 105 = .ok (.ireturn, 1) := by decide +kernel
theorem dX2_addShape_106 : decode cX2_addShape 106 = .ok (.aload_n 0, 1) := by decide +kernel
theorem dX2_addShape_107 : decode cX2_addShape 107 = .ok (.dup, 1) := by decide +kernel
theorem dX2_addShape_108 : decode cX2_addShape 108 = .ok (.getfield 25, 3) := by decide +kernel
theorem dX2_addShape_111 : decode cX2_addShape 111 = .ok (.iconst 1, 1) := by decide +kernel
theorem dX2_addShape_112 : decode cX2_addShape 112 = .ok (.iadd, 1) := by decide +kernel
theorem dX2_addShape_113 : decode cX2_addShape 113 = .ok (.putfield 25, 3) := by decide +kernel
theorem dX2_addShape_116 : decode cX2_addShape 116 = .ok (.aload_n 0, 1) := by decide +kernel
theorem dX2_addShape_117 : decode cX2_addShape 117 = .ok (.getfield 25, 3) := by decide +kernel
theorem dX2_addShape_120 : decode cX2_addShape 120 = .ok (.iconst 1, 1) := by decide +kernel
theorem dX2_addShape_121 : decode cX2_addShape 121 = .ok (.isub, 1) := by decide +kernel
theorem dX2_addShape_122 : decode cX2_addShape 122 = .ok (.ireturn, 1) := by decide +kernel
theorem dX2_fits_0 : decode cX2_fits 0 = .ok (.iconst 0, 1) := by decide +kernel
theorem dX2_fits_1 : decode cX2_fits 1 = .ok (.istore_n 2, 1) := by decide +kernel
theorem dX2_fits_2 : decode cX2_fits 2 = .ok (.iload_n 2, 1) := by decide +kernel
theorem dX2_fits_3 : decode cX2_fits 3 = .ok (.aload_n 0, 1) := by decide +kernel
theorem dX2_fits_4 : decode cX2_fits 4 = .ok (.getfield 25, 3) := by decide +kernel
theorem dX2_fits_7 : decode cX2_fits 7 = .ok (.if_icmp .ge 64, 3) := by decide +kernel
theorem dX2_fits_10 : decode cX2_fits 10 = .ok (.aload_n 0, 1) := by decide +kernel
theorem dX2_fits_11 : decode cX2_fits 11 = .ok (.getfield 13, 3) := by decide +kernel
theorem dX2_fits_14 : decode cX2_fits 14 = .ok (.iload_n 2, 1) := by decide +kernel
theorem dX2_fits_15 : decode cX2_fits 15 = .ok (.aaload, 1) := by decide +kernel
theorem dX2_fits_16 : decode cX2_fits 16 = .ok (.astore_n 3, 1) := by decide +kernel
theorem dX2_fits_17 : decode cX2_fits 17 = .ok (.aload_n 1, 1) := by decide +kernel
theorem dX2_fits_18 : decode cX2_fits 18 = .ok (.aload_n 3, 1) := by decide +kernel
theorem dX2_fits_19 : decode cX2_fits 19 = .ok (.invokevirtual 63, 3) := by decide +kernel
theorem dX2_fits_22 : decode cX2_fits 22 = .ok (.ifCond .ne 11, 3) := by decide +kernel
theorem dX2_fits_25 : decode cX2_fits 25 = .ok (.aload_n 3, 1) := by decide +kernel
theorem dX2_fits_26 : decode cX2_fits 26 = .ok (.aload_n 1, 1) := by decide +kernel
theorem dX2_fits_27 : decode cX2_fits 27 = .ok (.invokevirtual 63, 3) := by decide +kernel
theorem dX2_fits_30 : decode cX2_fits 30 = .ok (.ifCond .eq 7, 3) := by decide +kernel
theorem dX2_fits_33 : decode cX2_fits 33 = .ok (.iconst 1, 1) := by decide +kernel
theorem dX2_fits_34 : decode cX2_fits 34 = .ok (.goto 4, 3) := by decide +kernel
theorem dX2_fits_37 : decode cX2_fits 37 = .ok (.iconst 0, 1) := by decide +kernel
theorem dX2_fits_38 : decode cX2_fits 38 = .ok (.istore 4, 2) := by decide +kernel
theorem dX2_fits_40 : decode cX2_fits 40 = .ok (.iload 4, 2) := by decide +kernel
theorem dX2_fits_42 : decode cX2_fits 42 = .ok (.ifCond .eq 13, 3) := by decide +kernel
theorem dX2_fits_45 : decode cX2_fits 45 = .ok (.aload_n 3, 1) := by decide +kernel
theorem dX2_fits_46 : decode cX2_fits 46 = .ok (.getfield 66, 3) := by decide +kernel
theorem dX2_fits_49 : decode cX2_fits 49 = .ok (.ifCond .eq 16, 3) := by decide +kernel
theorem dX2_fits_52 : decode cX2_fits 52 = .ok (.goto 11, 3) := by decide +kernel
theorem dX2_fits_55 : decode cX2_fits 55 = .ok (.aload_n 1, 1) := by decide +kernel
theorem dX2_fits_56 : decode cX2_fits 56 = .ok (.aload_n 3, 1) := by decide +kernel
theorem dX2_fits_57 : decode cX2_fits 57 = .ok (.invokevirtual 69, 3) := by decide +kernel
theorem dX2_fits_60 : decode cX2_fits 60 = .ok (.ifCond .ne 5, 3) := by decide +kernel
theorem dX2_fits_63 : decode cX2_fits 63 = .ok (.iconst 0, 1) := by decide +kernel
theorem dX2_fits_64 : decode cX2_fits 64 = .ok (.ireturn, 1) := by decide +kernel
theorem dX2_fits_65 : decode cX2_fits 65 = .ok (.iinc 2 1, 3) := by decide +kernel
theorem dX2_fits_68 : decode cX2_fits 68 = .ok (.goto (-66), 3) := by decide +kernel
theorem dX2_fits_71 : decode cX2_fits 71 = .ok (.iconst 1, 1) := by decide +kernel
theorem dX2_fits_72 : decode cX2_fits 72 = .ok (.ireturn, 1) := by decide +kernel
theorem dX2_changeLead_0 : decode cX2_changeLead 0 = .ok (.aload_n 0, 1) := by decide +kernel
theorem dX2_changeLead_1 : decode cX2_changeLead 1 = .ok (.iload_n 1, 1) := by decide +kernel
theorem dX2_changeLead_2 : decode cX2_changeLead 2 = .ok (.invokevirtual 72, 3) := by decide +kernel
theorem dX2_changeLead_5 : decode cX2_changeLead 5 = .ok (.ifCond .eq 12, 3) := by decide +kernel
theorem dX2_changeLead_8 : decode cX2_changeLead 8 = .ok (.iload_n 2, 1) := by decide +kernel
theorem dX2_changeLead_9 : decode cX2_changeLead 9 = .ok (.iconst 0, 1) := by decide +kernel
theorem dX2_changeLead_10 : decode cX2_changeLead 10 = .ok (.iconst 3, 1) := by decide +kernel
theorem dX2_changeLead_11 : decode cX2_changeLead 11 = .ok (.invokestatic 51, 3) := by decide +kernel
theorem dX2_changeLead_14 : decode cX2_changeLead 14 = .ok (.ifCond .ne 5, 3) := by decide +kernel
theorem dX2_changeLead_17 : decode cX2_changeLead 17 = .ok (.iconst (-1), 1) := by decide +kernel
theorem dX2_changeLead_18 : decode cX2_changeLead 18 = .ok (.ireturn, 1) := by decide +kernel
theorem dX2_changeLead_19 : decode cX2_changeLead 19 = .ok (.aload_n 0, 1) := by decide +kernel
theorem dX2_changeLead_20 : decode cX2_changeLead 20 = .ok (.getfield 13, 3) := by decide +kernel
theorem dX2_changeLead_23 : decode cX2_changeLead 23 = .ok (.iload_n 1, 1) := by decide +kernel
theorem dX2_changeLead_24 : decode cX2_changeLead 24 = .ok (.aaload, 1) := by decide +kernel
theorem dX2_changeLead_25 : decode cX2_changeLead 25 = .ok (.astore_n 3, 1) := by decide +kernel
theorem dX2_changeLead_26 : decode cX2_changeLead 26 = .ok (.aload_n 3, 1) := by decide +kernel
theorem dX2_changeLead_27 : decode cX2_changeLead 27 = .ok (.getfield 66, 3) := by decide +kernel
theorem dX2_changeLead_30 : decode cX2_changeLead 30 = .ok (.ifCond .eq 6, 3) := by decide +kernel
theorem dX2_changeLead_33 : decode cX2_changeLead 33 = .ok (.bipush (-4), 2) := by decide +kernel
theorem dX2_changeLead_35 : decode cX2_changeLead 35 = .ok (.ireturn, 1) := by decide +kernel
theorem dX2_changeLead_36 : decode cX2_changeLead 36 = .ok (.aload_n 3, 1) := by decide +kernel
theorem dX2_changeLead_37 : decode cX2_changeLead 37 = .ok (.getfield 76, 3) := by decide +kernel
theorem dX2_changeLead_40 : decode cX2_changeLead 40 = .ok (.iload_n 2, 1) := by decide +kernel
theorem dX2_changeLead_41 : decode cX2_changeLead 41 = .ok (.if_icmp .ne 6, 3) := by decide +kernel
theorem dX2_changeLead_44 : decode cX2_changeLead 44 = .ok (.bipush (-5), 2) := by decide +kernel
theorem dX2_changeLead_46 : decode cX2_changeLead 46 = .ok (.ireturn, 1) := by decide +kernel
theorem dX2_changeLead_47 : decode cX2_changeLead 47 = .ok (.aload_n 3, 1) := by decide +kernel
theorem dX2_changeLead_48 : decode cX2_changeLead 48 = .ok (.getfield 76, 3) := by decide +kernel
theorem dX2_changeLead_51 : decode cX2_changeLead 51 = .ok (.istore 4, 2) := by decide +kernel
theorem dX2_changeLead_53 : decode cX2_changeLead 53 = .ok (.aload_n 3, 1) := by decide +kernel
theorem dX2_changeLead_54 : decode cX2_changeLead 54 = .ok (.iload_n 2, 1) := by decide +kernel
theorem dX2_changeLead_55 : decode cX2_changeLead 55 = .ok (.putfield 76, 3) := by decide +kernel
theorem dX2_changeLead_58 : decode cX2_changeLead 58 = .ok (.iload 4, 2) := by decide +kernel
theorem dX2_changeLead_60 : decode cX2_changeLead 60 = .ok (.ireturn, 1) := by decide +kernel
theorem dX2_changeSetting_0 : decode cX2_changeSetting 0 = .ok (.iload_n 1, 1) := by decide +kernel
theorem dX2_changeSetting_1 : decode cX2_changeSetting 1 = .ok (.iconst 0, 1) := by decide +kernel
theorem dX2_changeSetting_2 : decode cX2_changeSetting 2 = .ok (.iconst 3, 1) := by decide +kernel
theorem dX2_changeSetting_3 : decode cX2_changeSetting 3 = .ok (.invokestatic 51, 3) := by decide +kernel
theorem dX2_changeSetting_6 : decode cX2_changeSetting 6 = .ok (.ifCond .ne 5, 3) := by decide +kernel
theorem dX2_changeSetting_9 : decode cX2_changeSetting 9 = .ok (.iconst (-1), 1) := by decide +kernel
theorem dX2_changeSetting_10 : decode cX2_changeSetting 10 = .ok (.ireturn, 1) := by decide +kernel
theorem dX2_changeSetting_11 : decode cX2_changeSetting 11 = .ok (.iload_n 2, 1) := by decide +kernel
theorem dX2_changeSetting_12 : decode cX2_changeSetting 12 = .ok (.getstatic 79, 3) := by decide +kernel
theorem dX2_changeSetting_15 : decode cX2_changeSetting 15 = .ok (.iload_n 1, 1) := by decide +kernel
theorem dX2_changeSetting_16 : decode cX2_changeSetting 16 = .ok (.iaload, 1) := by decide +kernel
theorem dX2_changeSetting_17 : decode cX2_changeSetting 17 = .ok (.getstatic 82, 3) := by decide +kernel
theorem dX2_changeSetting_20 : decode cX2_changeSetting 20 = .ok (.iload_n 1, 1) := by decide +kernel
theorem dX2_changeSetting_21 : decode cX2_changeSetting 21 = .ok (.iaload, 1) := by decide +kernel
theorem dX2_changeSetting_22 : decode cX2_changeSetting 22 = .ok (.invokestatic 51, 3) := by decide +kernel
theorem dX2_changeSetting_25 : decode cX2_changeSetting 25 = .ok (.ifCond .ne 6, 3) := by decide +kernel
theorem dX2_changeSetting_28 : decode cX2_changeSetting 28 = .ok (.bipush (-2), 2) := by decide +kernel
theorem dX2_changeSetting_30 : decode cX2_changeSetting 30 = .ok (.ireturn, 1) := by decide +kernel
theorem dX2_changeSetting_31 : decode cX2_changeSetting 31 = .ok (.aload_n 0, 1) := by decide +kernel
theorem dX2_changeSetting_32 : decode cX2_changeSetting 32 = .ok (.getfield 22, 3) := by decide +kernel
theorem dX2_changeSetting_35 : decode cX2_changeSetting 35 = .ok (.iload_n 1, 1) := by decide +kernel
theorem dX2_changeSetting_36 : decode cX2_changeSetting 36 = .ok (.iaload, 1) := by decide +kernel
theorem dX2_changeSetting_37 : decode cX2_changeSetting 37 = .ok (.iload_n 2, 1) := by decide +kernel
theorem dX2_changeSetting_38 : decode cX2_changeSetting 38 = .ok (.if_icmp .ne 6, 3) := by decide +kernel
theorem dX2_changeSetting_41 : decode cX2_changeSetting 41 = .ok (.bipush (-5), 2) := by decide +kernel
theorem dX2_changeSetting_43 : decode cX2_changeSetting 43 = .ok (.ireturn, 1) := by decide +kernel
theorem dX2_changeSetting_44 : decode cX2_changeSetting 44 = .ok (.aload_n 0, 1) := by decide +kernel
theorem dX2_changeSetting_45 : decode cX2_changeSetting 45 = .ok (.getfield 22, 3) := by decide +kernel
theorem dX2_changeSetting_48 : decode cX2_changeSetting 48 = .ok (.iload_n 1, 1) := by decide +kernel
theorem dX2_changeSetting_49 : decode cX2_changeSetting 49 = .ok (.iaload, 1) := by decide +kernel
theorem dX2_changeSetting_50 : decode cX2_changeSetting 50 = .ok (.istore_n 3, 1) := by decide +kernel
theorem dX2_changeSetting_51 : decode cX2_changeSetting 51 = .ok (.aload_n 0, 1) := by decide +kernel
theorem dX2_changeSetting_52 : decode cX2_changeSetting 52 = .ok (.getfield 22, 3) := by decide +kernel
theorem dX2_changeSetting_55 : decode cX2_changeSetting 55 = .ok (.iload_n 1, 1) := by decide +kernel
theorem dX2_changeSetting_56 : decode cX2_changeSetting 56 = .ok (.iload_n 2, 1) := by decide +kernel
theorem dX2_changeSetting_57 : decode cX2_changeSetting 57 = .ok (.iastore, 1) := by decide +kernel
theorem dX2_changeSetting_58 : decode cX2_changeSetting 58 = .ok (.iload_n 3, 1) := by decide +kernel
theorem dX2_changeSetting_59 : decode cX2_changeSetting 59 = .ok (.ireturn, 1) := by decide +kernel
theorem dX2_cutShape_0 : decode cX2_cutShape 0 = .ok (.aload_n 0, 1) := by decide +kernel
theorem dX2_cutShape_1 : decode cX2_cutShape 1 = .ok (.iload_n 1, 1) := by decide +kernel
theorem dX2_cutShape_2 : decode cX2_cutShape 2 = .ok (.invokevirtual 72, 3) := by decide +kernel
theorem dX2_cutShape_5 : decode cX2_cutShape 5 = .ok (.ifCond .ne 5, 3) := by decide +kernel
theorem dX2_cutShape_8 : decode cX2_cutShape 8 = .ok (.iconst (-1), 1) := by decide +kernel
theorem dX2_cutShape_9 : decode cX2_cutShape 9 = .ok (.ireturn, 1) := by decide +kernel
theorem dX2_cutShape_10 : decode cX2_cutShape 10 = .ok (.aload_n 0, 1) := by decide +kernel
theorem dX2_cutShape_11 : decode cX2_cutShape 11 = .ok (.iload_n 1, 1) := by decide +kernel
theorem dX2_cutShape_12 : decode cX2_cutShape 12 = .ok (.invokevirtual 85, 3) := by decide +kernel
theorem dX2_cutShape_15 : decode cX2_cutShape 15 = .ok (.istore_n 2, 1) := by decide +kernel
theorem dX2_cutShape_16 : decode cX2_cutShape 16 = .ok (.iload_n 2, 1) := by decide +kernel
theorem dX2_cutShape_17 : decode cX2_cutShape 17 = .ok (.ifCond .eq 8, 3) := by decide +kernel
theorem dX2_cutShape_20 : decode cX2_cutShape 20 = .ok (.bipush (-10), 2) := by decide +kernel
theorem dX2_cutShape_22 : decode cX2_cutShape 22 = .ok (.iload_n 2, 1) := by decide +kernel
theorem dX2_cutShape_23 : decode cX2_cutShape 23 = .ok (.isub, 1) := by decide +kernel
theorem dX2_cutShape_24 : decode cX2_cutShape 24 = .ok (.ireturn, 1) := by decide +kernel
theorem dX2_cutShape_25 : decode cX2_cutShape 25 = .ok (.aload_n 0, 1) := by decide +kernel
theorem dX2_cutShape_26 : decode cX2_cutShape 26 = .ok (.getfield 13, 3) := by decide +kernel
theorem dX2_cutShape_29 : decode cX2_cutShape 29 = .ok (.iload_n 1, 1) := by decide +kernel
theorem dX2_cutShape_30 : decode cX2_cutShape 30 = .ok (.aaload, 1) := by decide +kernel
theorem dX2_cutShape_31 : decode cX2_cutShape 31 = .ok (.astore_n 3, 1) := by decide +kernel
theorem dX2_cutShape_32 : decode cX2_cutShape 32 = .ok (.aload_n 0, 1) := by decide +kernel
theorem dX2_cutShape_33 : decode cX2_cutShape 33 = .ok (.aload_n 0, 1) := by decide +kernel
theorem dX2_cutShape_34 : decode cX2_cutShape 34 = .ok (.aload_n 3, 1) := by decide +kernel
theorem dX2_cutShape_35 : decode cX2_cutShape 35 = .ok (.invokevirtual 89, 3) := by decide +kernel
theorem dX2_cutShape_38 : decode cX2_cutShape 38 = .ok (.invokevirtual 93, 3) := by decide +kernel
theorem dX2_cutShape_41 : decode cX2_cutShape 41 = .ok (.aload_n 0, 1) := by decide +kernel
theorem dX2_cutShape_42 : decode cX2_cutShape 42 = .ok (.aload_n 3, 1) := by decide +kernel
theorem dX2_cutShape_43 : decode cX2_cutShape 43 = .ok (.invokevirtual 97, 3) := by decide +kernel
theorem dX2_cutShape_46 : decode cX2_cutShape 46 = .ok (.putfield 29, 3) := by decide +kernel
theorem dX2_cutShape_49 : decode cX2_cutShape 49 = .ok (.aload_n 0, 1) := by decide +kernel
theorem dX2_cutShape_50 : decode cX2_cutShape 50 = .ok (.aload_n 3, 1) := by decide +kernel
theorem dX2_cutShape_51 : decode cX2_cutShape 51 = .ok (.invokevirtual 101, 3) := by decide +kernel
theorem dX2_cutShape_54 : decode cX2_cutShape 54 = .ok (.putfield 32, 3) := by decide +kernel
theorem dX2_cutShape_57 : decode cX2_cutShape 57 = .ok (.aload_n 0, 1) := by decide +kernel
theorem dX2_cutShape_58 : decode cX2_cutShape 58 = .ok (.aload_n 3, 1) := by decide +kernel
theorem dX2_cutShape_59 : decode cX2_cutShape 59 = .ok (.invokevirtual 104, 3) := by decide +kernel
theorem dX2_cutShape_62 : decode cX2_cutShape 62 = .ok (.aload_n 3, 1) := by decide +kernel
theorem dX2_cutShape_63 : decode cX2_cutShape 63 = .ok (.iconst 1, 1) := by decide +kernel
theorem dX2_cutShape_64 : decode cX2_cutShape 64 = .ok (.putfield 66, 3) := by decide +kernel
theorem dX2_cutShape_67 : decode cX2_cutShape 67 = .ok (.aload_n 3, 1) := by decide +kernel
theorem dX2_cutShape_68 : decode cX2_cutShape 68 = .ok (.aload_n 0, 1) := by decide +kernel
theorem dX2_cutShape_69 : decode cX2_cutShape 69 = .ok (.getfield 44, 3) := by decide +kernel
theorem dX2_cutShape_72 : decode cX2_cutShape 72 = .ok (.putfield 107, 3) := by decide +kernel
theorem dX2_cutShape_75 : decode cX2_cutShape 75 = .ok (.aload_n 0, 1) := by decide +kernel
theorem dX2_cutShape_76 : decode cX2_cutShape 76 = .ok (.dup, 1) := by decide +kernel
theorem dX2_cutShape_77 : decode cX2_cutShape 77 = .ok (.getfield 44, 3) := by decide +kernel
theorem dX2_cutShape_80 : decode cX2_cutShape 80 = .ok (.iconst 1, 1) := by decide +kernel
theorem dX2_cutShape_81 : decode cX2_cutShape 81 = .ok (.iadd, 1) := by decide +kernel
theorem dX2_cutShape_82 : decode cX2_cutShape 82 = .ok (.putfield 44, 3) := by decide +kernel
theorem dX2_cutShape_85 : decode cX2_cutShape 85 = .ok (.aload_n 3, 1) := by decide +kernel
theorem dX2_cutShape_86 : decode cX2_cutShape 86 = .ok (.aload_n 0, 1) := by decide +kernel
theorem dX2_cutShape_87 : decode cX2_cutShape 87 = .ok (.aload_n 3, 1) := by decide +kernel
theorem dX2_cutShape_88 : decode cX2_cutShape 88 = .ok (.invokevirtual 110, 3) := by decide +kernel
theorem dX2_cutShape_91 : decode cX2_cutShape 91 = .ok (.invokevirtual 113, 3) := by decide +kernel
theorem dX2_cutShape_94 : decode cX2_cutShape 94 = .ok (.aload_n 0, 1) := by decide +kernel
theorem dX2_cutShape_95 : decode cX2_cutShape 95 = .ok (.invokevirtual 116, 3) := by decide +kernel
theorem dX2_cutShape_98 : decode cX2_cutShape 98 = .ok (.if_icmp .ne 7, 3) := by decide +kernel
theorem dX2_cutShape_101 : decode cX2_cutShape 101 = .ok (.iconst 1, 1) := by decide +kernel
theorem dX2_cutShape_102 : decode cX2_cutShape 102 = .ok (.goto 4, 3) := by decide +kernel
theorem dX2_cutShape_105 : decode cX2_cutShape 105 = .ok (.iconst 0, 1) := by decide +kernel
theorem dX2_cutShape_106 : decode cX2_cutShape 106 = .ok (.putfield 119, 3) := by decide +kernel
theorem dX2_cutShape_109 : decode cX2_cutShape 109 = .ok (.aload_n 0, 1) := by decide +kernel
theorem dX2_cutShape_110 : decode cX2_cutShape 110 = .ok (.aload_n 3, 1) := by decide +kernel
theorem dX2_cutShape_111 : decode cX2_cutShape 111 = .ok (.invokevirtual 122, 3) := by decide +kernel
theorem dX2_cutShape_114 : decode cX2_cutShape 114 = .ok (.ireturn, 1) := by decide +kernel
theorem dX2_burnEdge_0 : decode cX2_burnEdge 0 = .ok (.aload_n 0, 1) := by decide +kernel
theorem dX2_burnEdge_1 : decode cX2_burnEdge 1 = .ok (.aload_n 1, 1) := by decide +kernel
theorem dX2_burnEdge_2 : decode cX2_burnEdge 2 = .ok (.invokevirtual 125, 3) := by decide +kernel
theorem dX2_burnEdge_5 : decode cX2_burnEdge 5 = .ok (.istore_n 2, 1) := by decide +kernel
theorem dX2_burnEdge_6 : decode cX2_burnEdge 6 = .ok (.aload_n 0, 1) := by decide +kernel
theorem dX2_burnEdge_7 : decode cX2_burnEdge 7 = .ok (.dup, 1) := by decide +kernel
theorem dX2_burnEdge_8 : decode cX2_burnEdge 8 = .ok (.getfield 38, 3) := by decide +kernel
theorem dX2_burnEdge_11 : decode cX2_burnEdge 11 = .ok (.iload_n 2, 1) := by decide +kernel
theorem dX2_burnEdge_12 : decode cX2_burnEdge 12 = .ok (.iadd, 1) := by decide +kernel
theorem dX2_burnEdge_13 : decode cX2_burnEdge 13 = .ok (.putfield 38, 3) := by decide +kernel
theorem dX2_burnEdge_16 : decode cX2_burnEdge 16 = .ok (.aload_n 0, 1) := by decide +kernel
theorem dX2_burnEdge_17 : decode cX2_burnEdge 17 = .ok (.dup, 1) := by decide +kernel
theorem dX2_burnEdge_18 : decode cX2_burnEdge 18 = .ok (.getfield 41, 3) := by decide +kernel
theorem dX2_burnEdge_21 : decode cX2_burnEdge 21 = .ok (.iload_n 2, 1) := by decide +kernel
theorem dX2_burnEdge_22 : decode cX2_burnEdge 22 = .ok (.iadd, 1) := by decide +kernel
theorem dX2_burnEdge_23 : decode cX2_burnEdge 23 = .ok (.putfield 41, 3) := by decide +kernel
theorem dX2_burnEdge_26 : decode cX2_burnEdge 26 = .ok (.iconst 0, 1) := by decide +kernel
theorem dX2_burnEdge_27 : decode cX2_burnEdge 27 = .ok (.istore_n 3, 1) := by decide +kernel
theorem dX2_burnEdge_28 : decode cX2_burnEdge 28 = .ok (.iload_n 3, 1) := by decide +kernel
theorem dX2_burnEdge_29 : decode cX2_burnEdge 29 = .ok (.bipush 12, 2) := by decide +kernel
theorem dX2_burnEdge_31 : decode cX2_burnEdge 31 = .ok (.if_icmp .ge 24, 3) := by decide +kernel
theorem dX2_burnEdge_34 : decode cX2_burnEdge 34 = .ok (.aload_n 0, 1) := by decide +kernel
theorem dX2_burnEdge_35 : decode cX2_burnEdge 35 = .ok (.getfield 18, 3) := by decide +kernel
theorem dX2_burnEdge_38 : decode cX2_burnEdge 38 = .ok (.iload_n 3, 1) := by decide +kernel
theorem dX2_burnEdge_39 : decode cX2_burnEdge 39 = .ok (.dup2, 1) := by decide +kernel
theorem dX2_burnEdge_40 : decode cX2_burnEdge 40 = .ok (.iaload, 1) := by decide +kernel
theorem dX2_burnEdge_41 : decode cX2_burnEdge 41 = .ok (.aload_n 1, 1) := by decide +kernel
theorem dX2_burnEdge_42 : decode cX2_burnEdge 42 = .ok (.getfield 128, 3) := by decide +kernel
theorem dX2_burnEdge_45 : decode cX2_burnEdge 45 = .ok (.iload_n 3, 1) := by decide +kernel
theorem dX2_burnEdge_46 : decode cX2_burnEdge 46 = .ok (.iaload, 1) := by decide +kernel
theorem dX2_burnEdge_47 : decode cX2_burnEdge 47 = .ok (.iadd, 1) := by decide +kernel
theorem dX2_burnEdge_48 : decode cX2_burnEdge 48 = .ok (.iastore, 1) := by decide +kernel
theorem dX2_burnEdge_49 : decode cX2_burnEdge 49 = .ok (.iinc 3 1, 3) := by decide +kernel
theorem dX2_burnEdge_52 : decode cX2_burnEdge 52 = .ok (.goto (-24), 3) := by decide +kernel
theorem dX2_burnEdge_55 : decode cX2_burnEdge 55 = .ok (.aload_n 0, 1) := by decide +kernel
theorem dX2_burnEdge_56 : decode cX2_burnEdge 56 = .ok (.dup, 1) := by decide +kernel
theorem dX2_burnEdge_57 : decode cX2_burnEdge 57 = .ok (.getfield 35, 3) := by decide +kernel
theorem dX2_burnEdge_60 : decode cX2_burnEdge 60 = .ok (.iconst 1, 1) := by decide +kernel
theorem dX2_burnEdge_61 : decode cX2_burnEdge 61 = .ok (.iadd, 1) := by decide +kernel
theorem dX2_burnEdge_62 : decode cX2_burnEdge 62 = .ok (.putfield 35, 3) := by decide +kernel
theorem dX2_burnEdge_65 : decode cX2_burnEdge 65 = .ok (.return_, 1) := by decide +kernel
theorem dX2_loseShapesInside_0 : decode cX2_loseShapesInside 0 = .ok (.iconst 0, 1) := by decide +kernel
theorem dX2_loseShapesInside_1 : decode cX2_loseShapesInside 1 = .ok (.istore_n 2, 1) := by decide +kernel
theorem dX2_loseShapesInside_2 : decode cX2_loseShapesInside 2 = .ok (.iconst 0, 1) := by decide +kernel
theorem dX2_loseShapesInside_3 : decode cX2_loseShapesInside 3 = .ok (.istore_n 3, 1) := by decide +kernel
theorem dX2_loseShapesInside_4 : decode cX2_loseShapesInside 4 = .ok (.iload_n 3, 1) := by decide +kernel
theorem dX2_loseShapesInside_5 : decode cX2_loseShapesInside 5 = .ok (.aload_n 0, 1) := by decide +kernel
theorem dX2_loseShapesInside_6 : decode cX2_loseShapesInside 6 = .ok (.getfield 25, 3) := by decide +kernel
theorem dX2_loseShapesInside_9 : decode cX2_loseShapesInside 9 = .ok (.if_icmp .ge 43, 3) := by decide +kernel
theorem dX2_loseShapesInside_12 : decode cX2_loseShapesInside 12 = .ok (.aload_n 0, 1) := by decide +kernel
theorem dX2_loseShapesInside_13 : decode cX2_loseShapesInside 13 = .ok (.getfield 13, 3) := by decide +kernel
theorem dX2_loseShapesInside_16 : decode cX2_loseShapesInside 16 = .ok (.iload_n 3, 1) := by decide +kernel
theorem dX2_loseShapesInside_17 : decode cX2_loseShapesInside 17 = .ok (.aaload, 1) := by decide +kernel
theorem dX2_loseShapesInside_18 : decode cX2_loseShapesInside 18 = .ok (.astore 4, 2) := by decide +kernel
theorem dX2_loseShapesInside_20 : decode cX2_loseShapesInside 20 = .ok (.aload 4, 2) := by decide +kernel
theorem dX2_loseShapesInside_22 : decode cX2_loseShapesInside 22 = .ok (.getfield 66, 3) := by decide +kernel
theorem dX2_loseShapesInside_25 : decode cX2_loseShapesInside 25 = .ok (.ifCond .ne 21, 3) := by decide +kernel
theorem dX2_loseShapesInside_28 : decode cX2_loseShapesInside 28 = .ok (.aload 4, 2) := by decide +kernel
theorem dX2_loseShapesInside_30 : decode cX2_loseShapesInside 30 = .ok (.aload_n 1, 1) := by decide +kernel
theorem dX2_loseShapesInside_31 : decode cX2_loseShapesInside 31 = .ok (.invokevirtual 63, 3) := by decide +kernel
theorem dX2_loseShapesInside_34 : decode cX2_loseShapesInside 34 = .ok (.ifCond .eq 12, 3) := by decide +kernel
theorem dX2_loseShapesInside_37 : decode cX2_loseShapesInside 37 = .ok (.aload 4, 2) := by decide +kernel
theorem dX2_loseShapesInside_39 : decode cX2_loseShapesInside 39 = .ok (.iconst 2, 1) := by decide +kernel
theorem dX2_loseShapesInside_40 : decode cX2_loseShapesInside 40 = .ok (.putfield 66, 3) := by decide +kernel
theorem dX2_loseShapesInside_43 : decode cX2_loseShapesInside 43 = .ok (.iinc 2 1, 3) := by decide +kernel
theorem dX2_loseShapesInside_46 : decode cX2_loseShapesInside 46 = .ok (.iinc 3 1, 3) := by decide +kernel
theorem dX2_loseShapesInside_49 : decode cX2_loseShapesInside 49 = .ok (.goto (-45), 3) := by decide +kernel
theorem dX2_loseShapesInside_52 : decode cX2_loseShapesInside 52 = .ok (.iload_n 2, 1) := by decide +kernel
theorem dX2_loseShapesInside_53 : decode cX2_loseShapesInside 53 = .ok (.ireturn, 1) := by decide +kernel
theorem dX2_waitFor_0 : decode cX2_waitFor 0 = .ok (.iload_n 1, 1) := by decide +kernel
theorem dX2_waitFor_1 : decode cX2_waitFor 1 = .ok (.iconst 1, 1) := by decide +kernel
theorem dX2_waitFor_2 : decode cX2_waitFor 2 = .ok (.sipush 999, 3) := by decide +kernel
theorem dX2_waitFor_5 : decode cX2_waitFor 5 = .ok (.invokestatic 51, 3) := by decide +kernel
theorem dX2_waitFor_8 : decode cX2_waitFor 8 = .ok (.ifCond .ne 6, 3) := by decide +kernel
theorem dX2_waitFor_11 : decode cX2_waitFor 11 = .ok (.bipush (-2), 2) := by decide +kernel
theorem dX2_waitFor_13 : decode cX2_waitFor 13 = .ok (.ireturn, 1) := by decide +kernel
theorem dX2_waitFor_14 : decode cX2_waitFor 14 = .ok (.aload_n 0, 1) := by decide +kernel
theorem dX2_waitFor_15 : decode cX2_waitFor 15 = .ok (.iload_n 1, 1) := by decide +kernel
theorem dX2_waitFor_16 : decode cX2_waitFor 16 = .ok (.invokevirtual 93, 3) := by decide +kernel
theorem dX2_waitFor_19 : decode cX2_waitFor 19 = .ok (.aload_n 0, 1) := by decide +kernel
theorem dX2_waitFor_20 : decode cX2_waitFor 20 = .ok (.invokevirtual 116, 3) := by decide +kernel
theorem dX2_waitFor_23 : decode cX2_waitFor 23 = .ok (.ireturn, 1) := by decide +kernel
theorem dX2_cleanLens_0 : decode cX2_cleanLens 0 = .ok (.aload_n 0, 1) := by decide +kernel
theorem dX2_cleanLens_1 : decode cX2_cleanLens 1 = .ok (.getfield 35, 3) := by decide +kernel
theorem dX2_cleanLens_4 : decode cX2_cleanLens 4 = .ok (.ifCond .ne 6, 3) := by decide +kernel
theorem dX2_cleanLens_7 : decode cX2_cleanLens 7 = .ok (.bipush (-5), 2) := by decide +kernel
theorem dX2_cleanLens_9 : decode cX2_cleanLens 9 = .ok (.ireturn, 1) := by decide +kernel
theorem dX2_cleanLens_10 : decode cX2_cleanLens 10 = .ok (.aload_n 0, 1) := by decide +kernel
theorem dX2_cleanLens_11 : decode cX2_cleanLens 11 = .ok (.getfield 35, 3) := by decide +kernel
theorem dX2_cleanLens_14 : decode cX2_cleanLens 14 = .ok (.istore_n 1, 1) := by decide +kernel
theorem dX2_cleanLens_15 : decode cX2_cleanLens 15 = .ok (.aload_n 0, 1) := by decide +kernel
theorem dX2_cleanLens_16 : decode cX2_cleanLens 16 = .ok (.aload_n 0, 1) := by decide +kernel
theorem dX2_cleanLens_17 : decode cX2_cleanLens 17 = .ok (.getfield 22, 3) := by decide +kernel
theorem dX2_cleanLens_20 : decode cX2_cleanLens 20 = .ok (.iconst 0, 1) := by decide +kernel
theorem dX2_cleanLens_21 : decode cX2_cleanLens 21 = .ok (.iaload, 1) := by decide +kernel
theorem dX2_cleanLens_22 : decode cX2_cleanLens 22 = .ok (.invokevirtual 93, 3) := by decide +kernel
theorem dX2_cleanLens_25 : decode cX2_cleanLens 25 = .ok (.aload_n 0, 1) := by decide +kernel
theorem dX2_cleanLens_26 : decode cX2_cleanLens 26 = .ok (.iconst 0, 1) := by decide +kernel
theorem dX2_cleanLens_27 : decode cX2_cleanLens 27 = .ok (.putfield 35, 3) := by decide +kernel
theorem dX2_cleanLens_30 : decode cX2_cleanLens 30 = .ok (.iload_n 1, 1) := by decide +kernel
theorem dX2_cleanLens_31 : decode cX2_cleanLens 31 = .ok (.ireturn, 1) := by decide +kernel
theorem dX2_coolFor_0 : decode cX2_coolFor 0 = .ok (.aload_n 0, 1) := by decide +kernel
theorem dX2_coolFor_1 : decode cX2_coolFor 1 = .ok (.dup, 1) := by decide +kernel
theorem dX2_coolFor_2 : decode cX2_coolFor 2 = .ok (.getfield 38, 3) := by decide +kernel
theorem dX2_coolFor_5 : decode cX2_coolFor 5 = .ok (.iload_n 1, 1) := by decide +kernel
theorem dX2_coolFor_6 : decode cX2_coolFor 6 = .ok (.iadd, 1) := by decide +kernel
theorem dX2_coolFor_7 : decode cX2_coolFor 7 = .ok (.putfield 38, 3) := by decide +kernel
theorem dX2_coolFor_10 : decode cX2_coolFor 10 = .ok (.iconst 0, 1) := by decide +kernel
theorem dX2_coolFor_11 : decode cX2_coolFor 11 = .ok (.istore_n 2, 1) := by decide +kernel
theorem dX2_coolFor_12 : decode cX2_coolFor 12 = .ok (.iload_n 2, 1) := by decide +kernel
theorem dX2_coolFor_13 : decode cX2_coolFor 13 = .ok (.bipush 12, 2) := by decide +kernel
theorem dX2_coolFor_15 : decode cX2_coolFor 15 = .ok (.if_icmp .ge 34, 3) := by decide +kernel
theorem dX2_coolFor_18 : decode cX2_coolFor 18 = .ok (.aload_n 0, 1) := by decide +kernel
theorem dX2_coolFor_19 : decode cX2_coolFor 19 = .ok (.getfield 18, 3) := by decide +kernel
theorem dX2_coolFor_22 : decode cX2_coolFor 22 = .ok (.iload_n 2, 1) := by decide +kernel
theorem dX2_coolFor_23 : decode cX2_coolFor 23 = .ok (.aload_n 0, 1) := by decide +kernel
theorem dX2_coolFor_24 : decode cX2_coolFor 24 = .ok (.getfield 18, 3) := by decide +kernel
theorem dX2_coolFor_27 : decode cX2_coolFor 27 = .ok (.iload_n 2, 1) := by decide +kernel
theorem dX2_coolFor_28 : decode cX2_coolFor 28 = .ok (.iaload, 1) := by decide +kernel
theorem dX2_coolFor_29 : decode cX2_coolFor 29 = .ok (.iload_n 1, 1) := by decide +kernel
theorem dX2_coolFor_30 : decode cX2_coolFor 30 = .ok (.aload_n 0, 1) := by decide +kernel
theorem dX2_coolFor_31 : decode cX2_coolFor 31 = .ok (.getfield 22, 3) := by decide +kernel
theorem dX2_coolFor_34 : decode cX2_coolFor 34 = .ok (.iconst 1, 1) := by decide +kernel
theorem dX2_coolFor_35 : decode cX2_coolFor 35 = .ok (.iaload, 1) := by decide +kernel
theorem dX2_coolFor_36 : decode cX2_coolFor 36 = .ok (.imul, 1) := by decide +kernel
theorem dX2_coolFor_37 : decode cX2_coolFor 37 = .ok (.isub, 1) := by decide +kernel
theorem dX2_coolFor_38 : decode cX2_coolFor 38 = .ok (.iconst 0, 1) := by decide +kernel
theorem dX2_coolFor_39 : decode cX2_coolFor 39 = .ok (.invokestatic 131, 3) := by decide +kernel
theorem dX2_coolFor_42 : decode cX2_coolFor 42 = .ok (.iastore, 1) := by decide +kernel
theorem dX2_coolFor_43 : decode cX2_coolFor 43 = .ok (.iinc 2 1, 3) := by decide +kernel
theorem dX2_coolFor_46 : decode cX2_coolFor 46 = .ok (.goto (-34), 3) := by decide +kernel
theorem dX2_coolFor_49 : decode cX2_coolFor 49 = .ok (.return_, 1) := by decide +kernel
theorem dX2_wayTo_0 : decode cX2_wayTo 0 = .ok (.aload_n 1, 1) := by decide +kernel
theorem dX2_wayTo_1 : decode cX2_wayTo 1 = .ok (.invokevirtual 97, 3) := by decide +kernel
theorem dX2_wayTo_4 : decode cX2_wayTo 4 = .ok (.aload_n 0, 1) := by decide +kernel
theorem dX2_wayTo_5 : decode cX2_wayTo 5 = .ok (.getfield 29, 3) := by decide +kernel
theorem dX2_wayTo_8 : decode cX2_wayTo 8 = .ok (.isub, 1) := by decide +kernel
theorem dX2_wayTo_9 : decode cX2_wayTo 9 = .ok (.invokestatic 137, 3) := by decide +kernel
theorem dX2_wayTo_12 : decode cX2_wayTo 12 = .ok (.aload_n 1, 1) := by decide +kernel
theorem dX2_wayTo_13 : decode cX2_wayTo 13 = .ok (.invokevirtual 101, 3) := by decide +kernel
theorem dX2_wayTo_16 : decode cX2_wayTo 16 = .ok (.aload_n 0, 1) := by decide +kernel
theorem dX2_wayTo_17 : decode cX2_wayTo 17 = .ok (.getfield 32, 3) := by decide +kernel
theorem dX2_wayTo_20 : decode cX2_wayTo 20 = .ok (.isub, 1) := by decide +kernel
theorem dX2_wayTo_21 : decode cX2_wayTo 21 = .ok (.invokestatic 137, 3) := by decide +kernel
theorem dX2_wayTo_24 : decode cX2_wayTo 24 = .ok (.iadd, 1) := by decide +kernel
theorem dX2_wayTo_25 : decode cX2_wayTo 25 = .ok (.ireturn, 1) := by decide +kernel
theorem dX2_burningOf_0 : decode cX2_burningOf 0 = .ok (.aload_n 1, 1) := by decide +kernel
theorem dX2_burningOf_1 : decode cX2_burningOf 1 = .ok (.invokevirtual 140, 3) := by decide +kernel
theorem dX2_burningOf_4 : decode cX2_burningOf 4 = .ok (.iconst 2, 1) := by decide +kernel
theorem dX2_burningOf_5 : decode cX2_burningOf 5 = .ok (.aload_n 0, 1) := by decide +kernel
theorem dX2_burningOf_6 : decode cX2_burningOf 6 = .ok (.getfield 35, 3) := by decide +kernel
theorem dX2_burningOf_9 : decode cX2_burningOf 9 = .ok (.iconst 4, 1) := by decide +kernel
theorem dX2_burningOf_10 : decode cX2_burningOf 10 = .ok (.idiv, 1) := by decide +kernel
theorem dX2_burningOf_11 : decode cX2_burningOf 11 = .ok (.iadd, 1) := by decide +kernel
theorem dX2_burningOf_12 : decode cX2_burningOf 12 = .ok (.imul, 1) := by decide +kernel
theorem dX2_burningOf_13 : decode cX2_burningOf 13 = .ok (.ireturn, 1) := by decide +kernel
theorem dX2_reasonAgainst_0 : decode cX2_reasonAgainst 0 = .ok (.aload_n 0, 1) := by decide +kernel
theorem dX2_reasonAgainst_1 : decode cX2_reasonAgainst 1 = .ok (.getfield 13, 3) := by decide +kernel
theorem dX2_reasonAgainst_4 : decode cX2_reasonAgainst 4 = .ok (.iload_n 1, 1) := by decide +kernel
theorem dX2_reasonAgainst_5 : decode cX2_reasonAgainst 5 = .ok (.aaload, 1) := by decide +kernel
theorem dX2_reasonAgainst_6 : decode cX2_reasonAgainst 6 = .ok (.astore_n 2, 1) := by decide +kernel
theorem dX2_reasonAgainst_7 : decode cX2_reasonAgainst 7 = .ok (.aload_n 2, 1) := by decide +kernel
theorem dX2_reasonAgainst_8 : decode cX2_reasonAgainst 8 = .ok (.getfield 66, 3) := by decide +kernel
theorem dX2_reasonAgainst_11 : decode cX2_reasonAgainst 11 = .ok (.iconst 1, 1) := by decide +kernel
theorem dX2_reasonAgainst_12 : decode cX2_reasonAgainst 12 = .ok (.if_icmp .ne 5, 3) := by decide +kernel
theorem dX2_reasonAgainst_15 : decode cX2_reasonAgainst 15 = .ok (.iconst 1, 1) := by decide +kernel
theorem dX2_reasonAgainst_16 : decode cX2_reasonAgainst 16 = .ok (.ireturn, 1) := by decide +kernel
theorem dX2_reasonAgainst_17 : decode cX2_reasonAgainst 17 = .ok (.aload_n 2, 1) := by decide +kernel
theorem dX2_reasonAgainst_18 : decode cX2_reasonAgainst 18 = .ok (.getfield 66, 3) := by decide +kernel
theorem dX2_reasonAgainst_21 : decode cX2_reasonAgainst 21 = .ok (.iconst 2, 1) := by decide +kernel
theorem dX2_reasonAgainst_22 : decode cX2_reasonAgainst 22 = .ok (.if_icmp .ne 5, 3) := by decide +kernel
theorem dX2_reasonAgainst_25 : decode cX2_reasonAgainst 25 = .ok (.iconst 2, 1) := by decide +kernel
theorem dX2_reasonAgainst_26 : decode cX2_reasonAgainst 26 = .ok (.ireturn, 1) := by decide +kernel
theorem dX2_reasonAgainst_27 : decode cX2_reasonAgainst 27 = .ok (.aload_n 0, 1) := by decide +kernel
theorem dX2_reasonAgainst_28 : decode cX2_reasonAgainst 28 = .ok (.getfield 22, 3) := by decide +kernel
theorem dX2_reasonAgainst_31 : decode cX2_reasonAgainst 31 = .ok (.iconst 3, 1) := by decide +kernel
theorem dX2_reasonAgainst_32 : decode cX2_reasonAgainst 32 = .ok (.iaload, 1) := by decide +kernel
theorem dX2_reasonAgainst_33 : decode cX2_reasonAgainst 33 = .ok (.iconst 1, 1) := by decide +kernel
theorem dX2_reasonAgainst_34 : decode cX2_reasonAgainst 34 = .ok (.if_icmp .ne 13, 3) := by decide +kernel
theorem dX2_reasonAgainst_37 : decode cX2_reasonAgainst 37 = .ok (.aload_n 0, 1) := by decide +kernel
theorem dX2_reasonAgainst_38 : decode cX2_reasonAgainst 38 = .ok (.aload_n 2, 1) := by decide +kernel
theorem dX2_reasonAgainst_39 : decode cX2_reasonAgainst 39 = .ok (.invokevirtual 143, 3) := by decide +kernel
theorem dX2_reasonAgainst_42 : decode cX2_reasonAgainst 42 = .ok (.ifCond .eq 5, 3) := by decide +kernel
theorem dX2_reasonAgainst_45 : decode cX2_reasonAgainst 45 = .ok (.iconst 3, 1) := by decide +kernel
theorem dX2_reasonAgainst_46 : decode cX2_reasonAgainst 46 = .ok (.ireturn, 1) := by decide +kernel
theorem dX2_reasonAgainst_47 : decode cX2_reasonAgainst 47 = .ok (.aload_n 0, 1) := by decide +kernel
theorem dX2_reasonAgainst_48 : decode cX2_reasonAgainst 48 = .ok (.aload_n 2, 1) := by decide +kernel
theorem dX2_reasonAgainst_49 : decode cX2_reasonAgainst 49 = .ok (.invokevirtual 146, 3) := by decide +kernel
theorem dX2_reasonAgainst_52 : decode cX2_reasonAgainst 52 = .ok (.aload_n 0, 1) := by decide +kernel
theorem dX2_reasonAgainst_53 : decode cX2_reasonAgainst 53 = .ok (.aload_n 2, 1) := by decide +kernel
theorem dX2_reasonAgainst_54 : decode cX2_reasonAgainst 54 = .ok (.invokevirtual 89, 3) := by decide +kernel
theorem dX2_reasonAgainst_57 : decode cX2_reasonAgainst 57 = .ok (.aload_n 0, 1) := by decide +kernel
theorem dX2_reasonAgainst_58 : decode cX2_reasonAgainst 58 = .ok (.getfield 22, 3) := by decide +kernel
theorem dX2_reasonAgainst_61 : decode cX2_reasonAgainst 61 = .ok (.iconst 1, 1) := by decide +kernel
theorem dX2_reasonAgainst_62 : decode cX2_reasonAgainst 62 = .ok (.iaload, 1) := by decide +kernel
theorem dX2_reasonAgainst_63 : decode cX2_reasonAgainst 63 = .ok (.imul, 1) := by decide +kernel
theorem dX2_reasonAgainst_64 : decode cX2_reasonAgainst 64 = .ok (.if_icmp .le 7, 3) := by decide +kernel
theorem dX2_reasonAgainst_67 : decode cX2_reasonAgainst 67 = .ok (.iconst 4, 1) := by decide +kernel
theorem dX2_reasonAgainst_68 : decode cX2_reasonAgainst 68 = .ok (.goto 4, 3) := by decide +kernel
theorem dX2_reasonAgainst_71 : decode cX2_reasonAgainst 71 = .ok (.iconst 0, 1) := by decide +kernel
theorem dX2_reasonAgainst_72 : decode cX2_reasonAgainst 72 = .ok (.ireturn, 1) := by decide +kernel
theorem dX2_holdsWholeShape_0 : decode cX2_holdsWholeShape 0 = .ok (.iconst 0, 1) := by decide +kernel
theorem dX2_holdsWholeShape_1 : decode cX2_holdsWholeShape 1 = .ok (.istore_n 2, 1) := by decide +kernel
theorem dX2_holdsWholeShape_2 : decode cX2_holdsWholeShape 2 = .ok (.iload_n 2, 1) := by decide +kernel
theorem dX2_holdsWholeShape_3 : decode cX2_holdsWholeShape 3 = .ok (.aload_n 0, 1) := by decide +kernel
theorem dX2_holdsWholeShape_4 : decode cX2_holdsWholeShape 4 = .ok (.getfield 25, 3) := by decide +kernel
theorem dX2_holdsWholeShape_7 : decode cX2_holdsWholeShape 7 = .ok (.if_icmp .ge 36, 3) := by decide +kernel
theorem dX2_holdsWholeShape_10 : decode cX2_holdsWholeShape 10 = .ok (.aload_n 0, 1) := by decide +kernel
theorem dX2_holdsWholeShape_11 : decode cX2_holdsWholeShape 11 = .ok (.getfield 13, 3) := by decide +kernel
theorem dX2_holdsWholeShape_14 : decode cX2_holdsWholeShape 14 = .ok (.iload_n 2, 1) := by decide +kernel
theorem dX2_holdsWholeShape_15 : decode cX2_holdsWholeShape 15 = .ok (.aaload, 1) := by decide +kernel
theorem dX2_holdsWholeShape_16 : decode cX2_holdsWholeShape 16 = .ok (.getfield 66, 3) := by decide +kernel
theorem dX2_holdsWholeShape_19 : decode cX2_holdsWholeShape 19 = .ok (.ifCond .ne 18, 3) := by decide +kernel
theorem dX2_holdsWholeShape_22 : decode cX2_holdsWholeShape 22 = .ok (.aload_n 0, 1) := by decide +kernel
theorem dX2_holdsWholeShape_23 : decode cX2_holdsWholeShape 23 = .ok (.getfield 13, 3) := by decide +kernel
theorem dX2_holdsWholeShape_26 : decode cX2_holdsWholeShape 26 = .ok (.iload_n 2, 1) := by decide +kernel
theorem dX2_holdsWholeShape_27 : decode cX2_holdsWholeShape 27 = .ok (.aaload, 1) := by decide +kernel
theorem dX2_holdsWholeShape_28 : decode cX2_holdsWholeShape 28 = .ok (.aload_n 1, 1) := by decide +kernel
theorem dX2_holdsWholeShape_29 : decode cX2_holdsWholeShape 29 = .ok (.invokevirtual 63, 3) := by decide +kernel
theorem dX2_holdsWholeShape_32 : decode cX2_holdsWholeShape 32 = .ok (.ifCond .eq 5, 3) := by decide +kernel
theorem dX2_holdsWholeShape_35 : decode cX2_holdsWholeShape 35 = .ok (.iconst 1, 1) := by decide +kernel
theorem dX2_holdsWholeShape_36 : decode cX2_holdsWholeShape 36 = .ok (.ireturn, 1) := by decide +kernel
theorem dX2_holdsWholeShape_37 : decode cX2_holdsWholeShape 37 = .ok (.iinc 2 1, 3) := by decide +kernel
theorem dX2_holdsWholeShape_40 : decode cX2_holdsWholeShape 40 = .ok (.goto (-38), 3) := by decide +kernel
theorem dX2_holdsWholeShape_43 : decode cX2_holdsWholeShape 43 = .ok (.iconst 0, 1) := by decide +kernel
theorem dX2_holdsWholeShape_44 : decode cX2_holdsWholeShape 44 = .ok (.ireturn, 1) := by decide +kernel
theorem dX2_heatOver_0 : decode cX2_heatOver 0 = .ok (.iconst 0, 1) := by decide +kernel
theorem dX2_heatOver_1 : decode cX2_heatOver 1 = .ok (.istore_n 2, 1) := by decide +kernel
theorem dX2_heatOver_2 : decode cX2_heatOver 2 = .ok (.iconst 0, 1) := by decide +kernel
theorem dX2_heatOver_3 : decode cX2_heatOver 3 = .ok (.istore_n 3, 1) := by decide +kernel
theorem dX2_heatOver_4 : decode cX2_heatOver 4 = .ok (.iload_n 3, 1) := by decide +kernel
theorem dX2_heatOver_5 : decode cX2_heatOver 5 = .ok (.bipush 12, 2) := by decide +kernel
theorem dX2_heatOver_7 : decode cX2_heatOver 7 = .ok (.if_icmp .ge 29, 3) := by decide +kernel
theorem dX2_heatOver_10 : decode cX2_heatOver 10 = .ok (.aload_n 1, 1) := by decide +kernel
theorem dX2_heatOver_11 : decode cX2_heatOver 11 = .ok (.getfield 128, 3) := by decide +kernel
theorem dX2_heatOver_14 : decode cX2_heatOver 14 = .ok (.iload_n 3, 1) := by decide +kernel
theorem dX2_heatOver_15 : decode cX2_heatOver 15 = .ok (.iaload, 1) := by decide +kernel
theorem dX2_heatOver_16 : decode cX2_heatOver 16 = .ok (.ifCond .le 14, 3) := by decide +kernel
theorem dX2_heatOver_19 : decode cX2_heatOver 19 = .ok (.iload_n 2, 1) := by decide +kernel
theorem dX2_heatOver_20 : decode cX2_heatOver 20 = .ok (.aload_n 0, 1) := by decide +kernel
theorem dX2_heatOver_21 : decode cX2_heatOver 21 = .ok (.getfield 18, 3) := by decide +kernel
theorem dX2_heatOver_24 : decode cX2_heatOver 24 = .ok (.iload_n 3, 1) := by decide +kernel
theorem dX2_heatOver_25 : decode cX2_heatOver 25 = .ok (.iaload, 1) := by decide +kernel
theorem dX2_heatOver_26 : decode cX2_heatOver 26 = .ok (.invokestatic 131, 3) := by decide +kernel
theorem dX2_heatOver_29 : decode cX2_heatOver 29 = .ok (.istore_n 2, 1) := by decide +kernel
theorem dX2_heatOver_30 : decode cX2_heatOver 30 = .ok (.iinc 3 1, 3) := by decide +kernel
theorem dX2_heatOver_33 : decode cX2_heatOver 33 = .ok (.goto (-29), 3) := by decide +kernel
theorem dX2_heatOver_36 : decode cX2_heatOver 36 = .ok (.iload_n 2, 1) := by decide +kernel
theorem dX2_heatOver_37 : decode cX2_heatOver 37 = .ok (.aload_n 0, 1) := by decide +kernel
theorem dX2_heatOver_38 : decode cX2_heatOver 38 = .ok (.getfield 22, 3) := by decide +kernel
theorem dX2_heatOver_41 : decode cX2_heatOver 41 = .ok (.iconst 2, 1) := by decide +kernel
theorem dX2_heatOver_42 : decode cX2_heatOver 42 = .ok (.iaload, 1) := by decide +kernel
theorem dX2_heatOver_43 : decode cX2_heatOver 43 = .ok (.isub, 1) := by decide +kernel
theorem dX2_heatOver_44 : decode cX2_heatOver 44 = .ok (.ireturn, 1) := by decide +kernel
theorem dX2_ticksToCut_0 : decode cX2_ticksToCut 0 = .ok (.aload_n 0, 1) := by decide +kernel
theorem dX2_ticksToCut_1 : decode cX2_ticksToCut 1 = .ok (.iload_n 1, 1) := by decide +kernel
theorem dX2_ticksToCut_2 : decode cX2_ticksToCut 2 = .ok (.invokevirtual 72, 3) := by decide +kernel
theorem dX2_ticksToCut_5 : decode cX2_ticksToCut 5 = .ok (.ifCond .ne 5, 3) := by decide +kernel
theorem dX2_ticksToCut_8 : decode cX2_ticksToCut 8 = .ok (.iconst (-1), 1) := by decide +kernel
theorem dX2_ticksToCut_9 : decode cX2_ticksToCut 9 = .ok (.ireturn, 1) := by decide +kernel
theorem dX2_ticksToCut_10 : decode cX2_ticksToCut 10 = .ok (.aload_n 0, 1) := by decide +kernel
theorem dX2_ticksToCut_11 : decode cX2_ticksToCut 11 = .ok (.getfield 13, 3) := by decide +kernel
theorem dX2_ticksToCut_14 : decode cX2_ticksToCut 14 = .ok (.iload_n 1, 1) := by decide +kernel
theorem dX2_ticksToCut_15 : decode cX2_ticksToCut 15 = .ok (.aaload, 1) := by decide +kernel
theorem dX2_ticksToCut_16 : decode cX2_ticksToCut 16 = .ok (.astore_n 2, 1) := by decide +kernel
theorem dX2_ticksToCut_17 : decode cX2_ticksToCut 17 = .ok (.aload_n 2, 1) := by decide +kernel
theorem dX2_ticksToCut_18 : decode cX2_ticksToCut 18 = .ok (.getfield 66, 3) := by decide +kernel
theorem dX2_ticksToCut_21 : decode cX2_ticksToCut 21 = .ok (.ifCond .ne 17, 3) := by decide +kernel
theorem dX2_ticksToCut_24 : decode cX2_ticksToCut 24 = .ok (.aload_n 0, 1) := by decide +kernel
theorem dX2_ticksToCut_25 : decode cX2_ticksToCut 25 = .ok (.aload_n 2, 1) := by decide +kernel
theorem dX2_ticksToCut_26 : decode cX2_ticksToCut 26 = .ok (.invokevirtual 89, 3) := by decide +kernel
theorem dX2_ticksToCut_29 : decode cX2_ticksToCut 29 = .ok (.aload_n 0, 1) := by decide +kernel
theorem dX2_ticksToCut_30 : decode cX2_ticksToCut 30 = .ok (.aload_n 2, 1) := by decide +kernel
theorem dX2_ticksToCut_31 : decode cX2_ticksToCut 31 = .ok (.invokevirtual 125, 3) := by decide +kernel
theorem dX2_ticksToCut_34 : decode cX2_ticksToCut 34 = .ok (.iadd, 1) := by decide +kernel
theorem dX2_ticksToCut_35 : decode cX2_ticksToCut 35 = .ok (.goto 5, 3) := by decide +kernel
theorem dX2_ticksToCut_38 : decode cX2_ticksToCut 38 = .ok (.bipush (-4), 2) := by decide +kernel
theorem dX2_ticksToCut_40 : decode cX2_ticksToCut 40 = .ok (.ireturn, 1) := by decide +kernel
theorem dX2_ticksToCool_0 : decode cX2_ticksToCool 0 = .ok (.aload_n 0, 1) := by decide +kernel
theorem dX2_ticksToCool_1 : decode cX2_ticksToCool 1 = .ok (.iload_n 1, 1) := by decide +kernel
theorem dX2_ticksToCool_2 : decode cX2_ticksToCool 2 = .ok (.invokevirtual 72, 3) := by decide +kernel
theorem dX2_ticksToCool_5 : decode cX2_ticksToCool 5 = .ok (.ifCond .ne 5, 3) := by decide +kernel
theorem dX2_ticksToCool_8 : decode cX2_ticksToCool 8 = .ok (.iconst (-1), 1) := by decide +kernel
theorem dX2_ticksToCool_9 : decode cX2_ticksToCool 9 = .ok (.ireturn, 1) := by decide +kernel
theorem dX2_ticksToCool_10 : decode cX2_ticksToCool 10 = .ok (.aload_n 0, 1) := by decide +kernel
theorem dX2_ticksToCool_11 : decode cX2_ticksToCool 11 = .ok (.iload_n 1, 1) := by decide +kernel
theorem dX2_ticksToCool_12 : decode cX2_ticksToCool 12 = .ok (.invokevirtual 85, 3) := by decide +kernel
theorem dX2_ticksToCool_15 : decode cX2_ticksToCool 15 = .ok (.istore_n 2, 1) := by decide +kernel
theorem dX2_ticksToCool_16 : decode cX2_ticksToCool 16 = .ok (.iload_n 2, 1) := by decide +kernel
theorem dX2_ticksToCool_17 : decode cX2_ticksToCool 17 = .ok (.ifCond .ne 5, 3) := by decide +kernel
theorem dX2_ticksToCool_20 : decode cX2_ticksToCool 20 = .ok (.iconst 0, 1) := by decide +kernel
theorem dX2_ticksToCool_21 : decode cX2_ticksToCool 21 = .ok (.ireturn, 1) := by decide +kernel
theorem dX2_ticksToCool_22 : decode cX2_ticksToCool 22 = .ok (.iload_n 2, 1) := by decide +kernel
theorem dX2_ticksToCool_23 : decode cX2_ticksToCool 23 = .ok (.iconst 4, 1) := by decide +kernel
theorem dX2_ticksToCool_24 : decode cX2_ticksToCool 24 = .ok (.if_icmp .eq 6, 3) := by decide +kernel
theorem dX2_ticksToCool_27 : decode cX2_ticksToCool 27 = .ok (.bipush (-4), 2) := by decide +kernel
theorem dX2_ticksToCool_29 : decode cX2_ticksToCool 29 = .ok (.ireturn, 1) := by decide +kernel
theorem dX2_ticksToCool_30 : decode cX2_ticksToCool 30 = .ok (.aload_n 0, 1) := by decide +kernel
theorem dX2_ticksToCool_31 : decode cX2_ticksToCool 31 = .ok (.getfield 22, 3) := by decide +kernel
theorem dX2_ticksToCool_34 : decode cX2_ticksToCool 34 = .ok (.iconst 1, 1) := by decide +kernel
theorem dX2_ticksToCool_35 : decode cX2_ticksToCool 35 = .ok (.iaload, 1) := by decide +kernel
theorem dX2_ticksToCool_36 : decode cX2_ticksToCool 36 = .ok (.istore_n 3, 1) := by decide +kernel
theorem dX2_ticksToCool_37 : decode cX2_ticksToCool 37 = .ok (.iload_n 3, 1) := by decide +kernel
theorem dX2_ticksToCool_38 : decode cX2_ticksToCool 38 = .ok (.ifCond .gt 6, 3) := by decide +kernel
theorem dX2_ticksToCool_41 : decode cX2_ticksToCool 41 = .ok (.bipush (-5), 2) := by decide +kernel
theorem dX2_ticksToCool_43 : decode cX2_ticksToCool 43 = .ok (.ireturn, 1) := by decide +kernel
theorem dX2_ticksToCool_44 : decode cX2_ticksToCool 44 = .ok (.aload_n 0, 1) := by decide +kernel
theorem dX2_ticksToCool_45 : decode cX2_ticksToCool 45 = .ok (.getfield 13, 3) := by decide +kernel
theorem dX2_ticksToCool_48 : decode cX2_ticksToCool 48 = .ok (.iload_n 1, 1) := by decide +kernel
theorem dX2_ticksToCool_49 : decode cX2_ticksToCool 49 = .ok (.aaload, 1) := by decide +kernel
theorem dX2_ticksToCool_50 : decode cX2_ticksToCool 50 = .ok (.astore 4, 2) := by decide +kernel
theorem dX2_ticksToCool_52 : decode cX2_ticksToCool 52 = .ok (.aload_n 0, 1) := by decide +kernel
theorem dX2_ticksToCool_53 : decode cX2_ticksToCool 53 = .ok (.aload 4, 2) := by decide +kernel
theorem dX2_ticksToCool_55 : decode cX2_ticksToCool 55 = .ok (.invokevirtual 146, 3) := by decide +kernel
theorem dX2_ticksToCool_58 : decode cX2_ticksToCool 58 = .ok (.iload_n 3, 1) := by decide +kernel
theorem dX2_ticksToCool_59 : decode cX2_ticksToCool 59 = .ok (.iadd, 1) := by decide +kernel
theorem dX2_ticksToCool_60 : decode cX2_ticksToCool 60 = .ok (.iconst 1, 1) := by decide +kernel
theorem dX2_ticksToCool_61 : decode cX2_ticksToCool 61 = .ok (.isub, 1) := by decide +kernel
theorem dX2_ticksToCool_62 : decode cX2_ticksToCool 62 = .ok (.iload_n 3, 1) := by decide +kernel
theorem dX2_ticksToCool_63 : decode cX2_ticksToCool 63 = .ok (.idiv, 1) := by decide +kernel
theorem dX2_ticksToCool_64 : decode cX2_ticksToCool 64 = .ok (.aload_n 0, 1) := by decide +kernel
theorem dX2_ticksToCool_65 : decode cX2_ticksToCool 65 = .ok (.aload 4, 2) := by decide +kernel
theorem dX2_ticksToCool_67 : decode cX2_ticksToCool 67 = .ok (.invokevirtual 89, 3) := by decide +kernel
theorem dX2_ticksToCool_70 : decode cX2_ticksToCool 70 = .ok (.isub, 1) := by decide +kernel
theorem dX2_ticksToCool_71 : decode cX2_ticksToCool 71 = .ok (.ireturn, 1) := by decide +kernel
theorem dX2_bestShape_0 : decode cX2_bestShape 0 = .ok (.bipush (-5), 2) := by decide +kernel
theorem dX2_bestShape_2 : decode cX2_bestShape 2 = .ok (.istore_n 1, 1) := by decide +kernel
theorem dX2_bestShape_3 : decode cX2_bestShape 3 = .ok (.iconst 0, 1) := by decide +kernel
theorem dX2_bestShape_4 : decode cX2_bestShape 4 = .ok (.istore_n 2, 1) := by decide +kernel
theorem dX2_bestShape_5 : decode cX2_bestShape 5 = .ok (.iconst 0, 1) := by decide +kernel
theorem dX2_bestShape_6 : decode cX2_bestShape 6 = .ok (.istore_n 3, 1) := by decide +kernel
theorem dX2_bestShape_7 : decode cX2_bestShape 7 = .ok (.iload_n 3, 1) := by decide +kernel
theorem dX2_bestShape_8 : decode cX2_bestShape 8 = .ok (.aload_n 0, 1) := by decide +kernel
theorem dX2_bestShape_9 : decode cX2_bestShape 9 = .ok (.getfield 25, 3) := by decide +kernel
theorem dX2_bestShape_12 : decode cX2_bestShape 12 = .ok (.if_icmp .ge 41, 3) := by decide +kernel
theorem dX2_bestShape_15 : decode cX2_bestShape 15 = .ok (.aload_n 0, 1) := by decide +kernel
theorem dX2_bestShape_16 : decode cX2_bestShape 16 = .ok (.iload_n 3, 1) := by decide +kernel
theorem dX2_bestShape_17 : decode cX2_bestShape 17 = .ok (.invokevirtual 85, 3) := by decide +kernel
theorem dX2_bestShape_20 : decode cX2_bestShape 20 = .ok (.ifCond .ne 27, 3) := by decide +kernel
theorem dX2_bestShape_23 : decode cX2_bestShape 23 = .ok (.aload_n 0, 1) := by decide +kernel
theorem dX2_bestShape_24 : decode cX2_bestShape 24 = .ok (.iload_n 3, 1) := by decide +kernel
theorem dX2_bestShape_25 : decode cX2_bestShape 25 = .ok (.invokevirtual 149, 3) := by decide +kernel
theorem dX2_bestShape_28 : decode cX2_bestShape 28 = .ok (.istore 4, 2) := by decide +kernel
theorem dX2_bestShape_30 : decode cX2_bestShape 30 = .ok (.iload_n 1, 1) := by decide +kernel
theorem dX2_bestShape_31 : decode cX2_bestShape 31 = .ok (.bipush (-5), 2) := by decide +kernel
theorem dX2_bestShape_33 : decode cX2_bestShape 33 = .ok (.if_icmp .eq 9, 3) := by decide +kernel
theorem dX2_bestShape_36 : decode cX2_bestShape 36 = .ok (.iload 4, 2) := by decide +kernel
theorem dX2_bestShape_38 : decode cX2_bestShape 38 = .ok (.iload_n 2, 1) := by decide +kernel
theorem dX2_bestShape_39 : decode cX2_bestShape 39 = .ok (.if_icmp .ge 8, 3) := by decide +kernel
theorem dX2_bestShape_42 : decode cX2_bestShape 42 = .ok (.iload_n 3, 1) := by decide +kernel
theorem dX2_bestShape_43 : decode cX2_bestShape 43 = .ok (.istore_n 1, 1) := by decide +kernel
theorem dX2_bestShape_44 : decode cX2_bestShape 44 = .ok (.iload 4, 2) := by decide +kernel
theorem dX2_bestShape_46 : decode cX2_bestShape 46 = .ok (.istore_n 2, 1) := by decide +kernel
theorem dX2_bestShape_47 : decode cX2_bestShape 47 = .ok (.iinc 3 1, 3) := by decide +kernel
theorem dX2_bestShape_50 : decode cX2_bestShape 50 = .ok (.goto (-43), 3) := by decide +kernel
theorem dX2_bestShape_53 : decode cX2_bestShape 53 = .ok (.iload_n 1, 1) := by decide +kernel
theorem dX2_bestShape_54 : decode cX2_bestShape 54 = .ok (.ireturn, 1) := by decide +kernel
theorem dX2_fewestTicksToCool_0 : decode cX2_fewestTicksToCool 0 = .ok (.bipush (-5), 2) := by decide +kernel
theorem dX2_fewestTicksToCool_2 : decode cX2_fewestTicksToCool 2 = .ok (.istore_n 1, 1) := by decide +kernel
theorem dX2_fewestTicksToCool_3 : decode cX2_fewestTicksToCool 3 = .ok (.iconst 0, 1) := by decide +kernel
theorem dX2_fewestTicksToCool_4 : decode cX2_fewestTicksToCool 4 = .ok (.istore_n 2, 1) := by decide +kernel
theorem dX2_fewestTicksToCool_5 : decode cX2_fewestTicksToCool 5 = .ok (.iload_n 2, 1) := by decide +kernel
theorem dX2_fewestTicksToCool_6 : decode cX2_fewestTicksToCool 6 = .ok (.aload_n 0, 1) := by decide +kernel
theorem dX2_fewestTicksToCool_7 : decode cX2_fewestTicksToCool 7 = .ok (.getfield 25, 3) := by decide +kernel
theorem dX2_fewestTicksToCool_10 : decode cX2_fewestTicksToCool 10 = .ok (.if_icmp .ge 32, 3) := by decide +kernel
theorem dX2_fewestTicksToCool_13 : decode cX2_fewestTicksToCool 13 = .ok (.aload_n 0, 1) := by decide +kernel
theorem dX2_fewestTicksToCool_14 : decode cX2_fewestTicksToCool 14 = .ok (.iload_n 2, 1) := by decide +kernel
theorem dX2_fewestTicksToCool_15 : decode cX2_fewestTicksToCool 15 = .ok (.invokevirtual 152, 3) := by decide +kernel
theorem dX2_fewestTicksToCool_18 : decode cX2_fewestTicksToCool 18 = .ok (.istore_n 3, 1) := by decide +kernel
theorem dX2_fewestTicksToCool_19 : decode cX2_fewestTicksToCool 19 = .ok (.iload_n 3, 1) := by decide +kernel
theorem dX2_fewestTicksToCool_20 : decode cX2_fewestTicksToCool 20 = .ok (.ifCond .lt 16, 3) := by decide +kernel
theorem dX2_fewestTicksToCool_23 : decode cX2_fewestTicksToCool 23 = .ok (.iload_n 1, 1) := by decide +kernel
theorem dX2_fewestTicksToCool_24 : decode cX2_fewestTicksToCool 24 = .ok (.bipush (-5), 2) := by decide +kernel
theorem dX2_fewestTicksToCool_26 : decode cX2_fewestTicksToCool 26 = .ok (.if_icmp .eq 8, 3) := by decide +kernel
theorem dX2_fewestTicksToCool_29 : decode cX2_fewestTicksToCool 29 = .ok (.iload_n 3, 1) := by decide +kernel
theorem dX2_fewestTicksToCool_30 : decode cX2_fewestTicksToCool 30 = .ok (.iload_n 1, 1) := by decide +kernel
theorem dX2_fewestTicksToCool_31 : decode cX2_fewestTicksToCool 31 = .ok (.if_icmp .ge 5, 3) := by decide +kernel
theorem dX2_fewestTicksToCool_34 : decode cX2_fewestTicksToCool 34 = .ok (.iload_n 3, 1) := by decide +kernel
theorem dX2_fewestTicksToCool_35 : decode cX2_fewestTicksToCool 35 = .ok (.istore_n 1, 1) := by decide +kernel
theorem dX2_fewestTicksToCool_36 : decode cX2_fewestTicksToCool 36 = .ok (.iinc 2 1, 3) := by decide +kernel
theorem dX2_fewestTicksToCool_39 : decode cX2_fewestTicksToCool 39 = .ok (.goto (-34), 3) := by decide +kernel
theorem dX2_fewestTicksToCool_42 : decode cX2_fewestTicksToCool 42 = .ok (.iload_n 1, 1) := by decide +kernel
theorem dX2_fewestTicksToCool_43 : decode cX2_fewestTicksToCool 43 = .ok (.ireturn, 1) := by decide +kernel
theorem dX2_cutNext_0 : decode cX2_cutNext 0 = .ok (.aload_n 0, 1) := by decide +kernel
theorem dX2_cutNext_1 : decode cX2_cutNext 1 = .ok (.invokevirtual 155, 3) := by decide +kernel
theorem dX2_cutNext_4 : decode cX2_cutNext 4 = .ok (.istore_n 1, 1) := by decide +kernel
theorem dX2_cutNext_5 : decode cX2_cutNext 5 = .ok (.iload_n 1, 1) := by decide +kernel
theorem dX2_cutNext_6 : decode cX2_cutNext 6 = .ok (.bipush (-5), 2) := by decide +kernel
theorem dX2_cutNext_8 : decode cX2_cutNext 8 = .ok (.if_icmp .ne 27, 3) := by decide +kernel
theorem dX2_cutNext_11 : decode cX2_cutNext 11 = .ok (.aload_n 0, 1) := by decide +kernel
theorem dX2_cutNext_12 : decode cX2_cutNext 12 = .ok (.invokevirtual 158, 3) := by decide +kernel
theorem dX2_cutNext_15 : decode cX2_cutNext 15 = .ok (.istore_n 2, 1) := by decide +kernel
theorem dX2_cutNext_16 : decode cX2_cutNext 16 = .ok (.iload_n 2, 1) := by decide +kernel
theorem dX2_cutNext_17 : decode cX2_cutNext 17 = .ok (.bipush (-5), 2) := by decide +kernel
theorem dX2_cutNext_19 : decode cX2_cutNext 19 = .ok (.if_icmp .ne 6, 3) := by decide +kernel
theorem dX2_cutNext_22 : decode cX2_cutNext 22 = .ok (.bipush (-5), 2) := by decide +kernel
theorem dX2_cutNext_24 : decode cX2_cutNext 24 = .ok (.ireturn, 1) := by decide +kernel
theorem dX2_cutNext_25 : decode cX2_cutNext 25 = .ok (.aload_n 0, 1) := by decide +kernel
theorem dX2_cutNext_26 : decode cX2_cutNext 26 = .ok (.iload_n 2, 1) := by decide +kernel
theorem dX2_cutNext_27 : decode cX2_cutNext 27 = .ok (.invokevirtual 93, 3) := by decide +kernel
theorem dX2_cutNext_30 : decode cX2_cutNext 30 = .ok (.aload_n 0, 1) := by decide +kernel
theorem dX2_cutNext_31 : decode cX2_cutNext 31 = .ok (.invokevirtual 155, 3) := by decide +kernel
theorem dX2_cutNext_34 : decode cX2_cutNext 34 = .ok (.istore_n 1, 1) := by decide +kernel
theorem dX2_cutNext_35 : decode cX2_cutNext 35 = .ok (.iload_n 1, 1) := by decide +kernel
theorem dX2_cutNext_36 : decode cX2_cutNext 36 = .ok (.bipush (-5), 2) := by decide +kernel
theorem dX2_cutNext_38 : decode cX2_cutNext 38 = .ok (.if_icmp .eq 9, 3) := by decide +kernel
theorem dX2_cutNext_41 : decode cX2_cutNext 41 = .ok (.aload_n 0, 1) := by decide +kernel
theorem dX2_cutNext_42 : decode cX2_cutNext 42 = .ok (.iload_n 1, 1) := by decide +kernel
theorem dX2_cutNext_43 : decode cX2_cutNext 43 = .ok (.invokevirtual 161, 3) := by decide +kernel
theorem dX2_cutNext_46 : decode cX2_cutNext 46 = .ok (.pop, 1) := by decide +kernel
theorem dX2_cutNext_47 : decode cX2_cutNext 47 = .ok (.iload_n 1, 1) := by decide +kernel
theorem dX2_cutNext_48 : decode cX2_cutNext 48 = .ok (.ireturn, 1) := by decide +kernel
theorem dX2_heatIn_0 : decode cX2_heatIn 0 = .ok (.iload_n 1, 1) := by decide +kernel
theorem dX2_heatIn_1 : decode cX2_heatIn 1 = .ok (.iconst 0, 1) := by decide +kernel
theorem dX2_heatIn_2 : decode cX2_heatIn 2 = .ok (.bipush 11, 2) := by decide +kernel
theorem dX2_heatIn_4 : decode cX2_heatIn 4 = .ok (.invokestatic 51, 3) := by decide +kernel
theorem dX2_heatIn_7 : decode cX2_heatIn 7 = .ok (.ifCond .eq 12, 3) := by decide +kernel
theorem dX2_heatIn_10 : decode cX2_heatIn 10 = .ok (.aload_n 0, 1) := by decide +kernel
theorem dX2_heatIn_11 : decode cX2_heatIn 11 = .ok (.getfield 18, 3) := by decide +kernel
theorem dX2_heatIn_14 : decode cX2_heatIn 14 = .ok (.iload_n 1, 1) := by decide +kernel
theorem dX2_heatIn_15 : decode cX2_heatIn 15 = .ok (.iaload, 1) := by decide +kernel
theorem dX2_heatIn_16 : decode cX2_heatIn 16 = .ok (.goto 4, 3) := by decide +kernel
theorem dX2_heatIn_19 : decode cX2_heatIn 19 = .ok (.iconst (-1), 1) := by decide +kernel
theorem dX2_heatIn_20 : decode cX2_heatIn 20 = .ok (.ireturn, 1) := by decide +kernel
theorem dX2_greatestHeat_0 : decode cX2_greatestHeat 0 = .ok (.aload_n 0, 1) := by decide +kernel
theorem dX2_greatestHeat_1 : decode cX2_greatestHeat 1 = .ok (.getfield 18, 3) := by decide +kernel
theorem dX2_greatestHeat_4 : decode cX2_greatestHeat 4 = .ok (.aload_n 0, 1) := by decide +kernel
theorem dX2_greatestHeat_5 : decode cX2_greatestHeat 5 = .ok (.invokevirtual 164, 3) := by decide +kernel
theorem dX2_greatestHeat_8 : decode cX2_greatestHeat 8 = .ok (.iaload, 1) := by decide +kernel
theorem dX2_greatestHeat_9 : decode cX2_greatestHeat 9 = .ok (.ireturn, 1) := by decide +kernel
theorem dX2_hottestSquare_0 : decode cX2_hottestSquare 0 = .ok (.iconst 0, 1) := by decide +kernel
theorem dX2_hottestSquare_1 : decode cX2_hottestSquare 1 = .ok (.istore_n 1, 1) := by decide +kernel
theorem dX2_hottestSquare_2 : decode cX2_hottestSquare 2 = .ok (.iconst 1, 1) := by decide +kernel
theorem dX2_hottestSquare_3 : decode cX2_hottestSquare 3 = .ok (.istore_n 2, 1) := by decide +kernel
theorem dX2_hottestSquare_4 : decode cX2_hottestSquare 4 = .ok (.iload_n 2, 1) := by decide +kernel
theorem dX2_hottestSquare_5 : decode cX2_hottestSquare 5 = .ok (.bipush 12, 2) := by decide +kernel
theorem dX2_hottestSquare_7 : decode cX2_hottestSquare 7 = .ok (.if_icmp .ge 26, 3) := by decide +kernel
theorem dX2_hottestSquare_10 : decode cX2_hottestSquare 10 = .ok (.aload_n 0, 1) := by decide +kernel
theorem dX2_hottestSquare_11 : decode cX2_hottestSquare 11 = .ok (.getfield 18, 3) := by decide +kernel
theorem dX2_hottestSquare_14 : decode cX2_hottestSquare 14 = .ok (.iload_n 2, 1) := by decide +kernel
theorem dX2_hottestSquare_15 : decode cX2_hottestSquare 15 = .ok (.iaload, 1) := by decide +kernel
theorem dX2_hottestSquare_16 : decode cX2_hottestSquare 16 = .ok (.aload_n 0, 1) := by decide +kernel
theorem dX2_hottestSquare_17 : decode cX2_hottestSquare 17 = .ok (.getfield 18, 3) := by decide +kernel
theorem dX2_hottestSquare_20 : decode cX2_hottestSquare 20 = .ok (.iload_n 1, 1) := by decide +kernel
theorem dX2_hottestSquare_21 : decode cX2_hottestSquare 21 = .ok (.iaload, 1) := by decide +kernel
theorem dX2_hottestSquare_22 : decode cX2_hottestSquare 22 = .ok (.if_icmp .le 5, 3) := by decide +kernel
theorem dX2_hottestSquare_25 : decode cX2_hottestSquare 25 = .ok (.iload_n 2, 1) := by decide +kernel
theorem dX2_hottestSquare_26 : decode cX2_hottestSquare 26 = .ok (.istore_n 1, 1) := by decide +kernel
theorem dX2_hottestSquare_27 : decode cX2_hottestSquare 27 = .ok (.iinc 2 1, 3) := by decide +kernel
theorem dX2_hottestSquare_30 : decode cX2_hottestSquare 30 = .ok (.goto (-26), 3) := by decide +kernel
theorem dX2_hottestSquare_33 : decode cX2_hottestSquare 33 = .ok (.iload_n 1, 1) := by decide +kernel
theorem dX2_hottestSquare_34 : decode cX2_hottestSquare 34 = .ok (.ireturn, 1) := by decide +kernel
theorem dX2_allHeat_0 : decode cX2_allHeat 0 = .ok (.iconst 0, 1) := by decide +kernel
theorem dX2_allHeat_1 : decode cX2_allHeat 1 = .ok (.istore_n 1, 1) := by decide +kernel
theorem dX2_allHeat_2 : decode cX2_allHeat 2 = .ok (.iconst 0, 1) := by decide +kernel
theorem dX2_allHeat_3 : decode cX2_allHeat 3 = .ok (.istore_n 2, 1) := by decide +kernel
theorem dX2_allHeat_4 : decode cX2_allHeat 4 = .ok (.iload_n 2, 1) := by decide +kernel
theorem dX2_allHeat_5 : decode cX2_allHeat 5 = .ok (.bipush 12, 2) := by decide +kernel
theorem dX2_allHeat_7 : decode cX2_allHeat 7 = .ok (.if_icmp .ge 18, 3) := by decide +kernel
theorem dX2_allHeat_10 : decode cX2_allHeat 10 = .ok (.iload_n 1, 1) := by decide +kernel
theorem dX2_allHeat_11 : decode cX2_allHeat 11 = .ok (.aload_n 0, 1) := by decide +kernel
theorem dX2_allHeat_12 : decode cX2_allHeat 12 = .ok (.getfield 18, 3) := by decide +kernel
theorem dX2_allHeat_15 : decode cX2_allHeat 15 = .ok (.iload_n 2, 1) := by decide +kernel
theorem dX2_allHeat_16 : decode cX2_allHeat 16 = .ok (.iaload, 1) := by decide +kernel
theorem dX2_allHeat_17 : decode cX2_allHeat 17 = .ok (.iadd, 1) := by decide +kernel
theorem dX2_allHeat_18 : decode cX2_allHeat 18 = .ok (.istore_n 1, 1) := by decide +kernel
theorem dX2_allHeat_19 : decode cX2_allHeat 19 = .ok (.iinc 2 1, 3) := by decide +kernel
theorem dX2_allHeat_22 : decode cX2_allHeat 22 = .ok (.goto (-18), 3) := by decide +kernel
theorem dX2_allHeat_25 : decode cX2_allHeat 25 = .ok (.iload_n 1, 1) := by decide +kernel
theorem dX2_allHeat_26 : decode cX2_allHeat 26 = .ok (.ireturn, 1) := by decide +kernel
theorem dX2_shapesThatAre_0 : decode cX2_shapesThatAre 0 = .ok (.iconst 0, 1) := by decide +kernel
theorem dX2_shapesThatAre_1 : decode cX2_shapesThatAre 1 = .ok (.istore_n 2, 1) := by decide +kernel
theorem dX2_shapesThatAre_2 : decode cX2_shapesThatAre 2 = .ok (.iconst 0, 1) := by decide +kernel
theorem dX2_shapesThatAre_3 : decode cX2_shapesThatAre 3 = .ok (.istore_n 3, 1) := by decide +kernel
theorem dX2_shapesThatAre_4 : decode cX2_shapesThatAre 4 = .ok (.iload_n 3, 1) := by decide +kernel
theorem dX2_shapesThatAre_5 : decode cX2_shapesThatAre 5 = .ok (.aload_n 0, 1) := by decide +kernel
theorem dX2_shapesThatAre_6 : decode cX2_shapesThatAre 6 = .ok (.getfield 25, 3) := by decide +kernel
theorem dX2_shapesThatAre_9 : decode cX2_shapesThatAre 9 = .ok (.if_icmp .ge 25, 3) := by decide +kernel
theorem dX2_shapesThatAre_12 : decode cX2_shapesThatAre 12 = .ok (.aload_n 0, 1) := by decide +kernel
theorem dX2_shapesThatAre_13 : decode cX2_shapesThatAre 13 = .ok (.getfield 13, 3) := by decide +kernel
theorem dX2_shapesThatAre_16 : decode cX2_shapesThatAre 16 = .ok (.iload_n 3, 1) := by decide +kernel
theorem dX2_shapesThatAre_17 : decode cX2_shapesThatAre 17 = .ok (.aaload, 1) := by decide +kernel
theorem dX2_shapesThatAre_18 : decode cX2_shapesThatAre 18 = .ok (.getfield 66, 3) := by decide +kernel
theorem dX2_shapesThatAre_21 : decode cX2_shapesThatAre 21 = .ok (.iload_n 1, 1) := by decide +kernel
theorem dX2_shapesThatAre_22 : decode cX2_shapesThatAre 22 = .ok (.if_icmp .ne 6, 3) := by decide +kernel
theorem dX2_shapesThatAre_25 : decode cX2_shapesThatAre 25 = .ok (.iinc 2 1, 3) := by decide +kernel
theorem dX2_shapesThatAre_28 : decode cX2_shapesThatAre 28 = .ok (.iinc 3 1, 3) := by decide +kernel
theorem dX2_shapesThatAre_31 : decode cX2_shapesThatAre 31 = .ok (.goto (-27), 3) := by decide +kernel
theorem dX2_shapesThatAre_34 : decode cX2_shapesThatAre 34 = .ok (.iload_n 2, 1) := by decide +kernel
theorem dX2_shapesThatAre_35 : decode cX2_shapesThatAre 35 = .ok (.ireturn, 1) := by decide +kernel
theorem dX2_shapesThatTilted_0 : decode cX2_shapesThatTilted 0 = .ok (.iconst 0, 1) := by decide +kernel
theorem dX2_shapesThatTilted_1 : decode cX2_shapesThatTilted 1 = .ok (.istore_n 1, 1) := by decide +kernel
theorem dX2_shapesThatTilted_2 : decode cX2_shapesThatTilted 2 = .ok (.iconst 0, 1) := by decide +kernel
theorem dX2_shapesThatTilted_3 : decode cX2_shapesThatTilted 3 = .ok (.istore_n 2, 1) := by decide +kernel
theorem dX2_shapesThatTilted_4 : decode cX2_shapesThatTilted 4 = .ok (.iload_n 2, 1) := by decide +kernel
theorem dX2_shapesThatTilted_5 : decode cX2_shapesThatTilted 5 = .ok (.aload_n 0, 1) := by decide +kernel
theorem dX2_shapesThatTilted_6 : decode cX2_shapesThatTilted 6 = .ok (.getfield 25, 3) := by decide +kernel
theorem dX2_shapesThatTilted_9 : decode cX2_shapesThatTilted 9 = .ok (.if_icmp .ge 21, 3) := by decide +kernel
theorem dX2_shapesThatTilted_12 : decode cX2_shapesThatTilted 12 = .ok (.iload_n 1, 1) := by decide +kernel
theorem dX2_shapesThatTilted_13 : decode cX2_shapesThatTilted 13 = .ok (.aload_n 0, 1) := by decide +kernel
theorem dX2_shapesThatTilted_14 : decode cX2_shapesThatTilted 14 = .ok (.getfield 13, 3) := by decide +kernel
theorem dX2_shapesThatTilted_17 : decode cX2_shapesThatTilted 17 = .ok (.iload_n 2, 1) := by decide +kernel
theorem dX2_shapesThatTilted_18 : decode cX2_shapesThatTilted 18 = .ok (.aaload, 1) := by decide +kernel
theorem dX2_shapesThatTilted_19 : decode cX2_shapesThatTilted 19 = .ok (.getfield 119, 3) := by decide +kernel
theorem dX2_shapesThatTilted_22 : decode cX2_shapesThatTilted 22 = .ok (.iadd, 1) := by decide +kernel
theorem dX2_shapesThatTilted_23 : decode cX2_shapesThatTilted 23 = .ok (.istore_n 1, 1) := by decide +kernel
theorem dX2_shapesThatTilted_24 : decode cX2_shapesThatTilted 24 = .ok (.iinc 2 1, 3) := by decide +kernel
theorem dX2_shapesThatTilted_27 : decode cX2_shapesThatTilted 27 = .ok (.goto (-23), 3) := by decide +kernel
theorem dX2_shapesThatTilted_30 : decode cX2_shapesThatTilted 30 = .ok (.iload_n 1, 1) := by decide +kernel
theorem dX2_shapesThatTilted_31 : decode cX2_shapesThatTilted 31 = .ok (.ireturn, 1) := by decide +kernel
theorem dX2_outerOf_0 : decode cX2_outerOf 0 = .ok (.bipush (-5), 2) := by decide +kernel
theorem dX2_outerOf_2 : decode cX2_outerOf 2 = .ok (.istore_n 2, 1) := by decide +kernel
theorem dX2_outerOf_3 : decode cX2_outerOf 3 = .ok (.iconst 0, 1) := by decide +kernel
theorem dX2_outerOf_4 : decode cX2_outerOf 4 = .ok (.istore_n 3, 1) := by decide +kernel
theorem dX2_outerOf_5 : decode cX2_outerOf 5 = .ok (.iload_n 3, 1) := by decide +kernel
theorem dX2_outerOf_6 : decode cX2_outerOf 6 = .ok (.aload_n 0, 1) := by decide +kernel
theorem dX2_outerOf_7 : decode cX2_outerOf 7 = .ok (.getfield 25, 3) := by decide +kernel
theorem dX2_outerOf_10 : decode cX2_outerOf 10 = .ok (.if_icmp .ge 48, 3) := by decide +kernel
theorem dX2_outerOf_13 : decode cX2_outerOf 13 = .ok (.aload_n 1, 1) := by decide +kernel
theorem dX2_outerOf_14 : decode cX2_outerOf 14 = .ok (.aload_n 0, 1) := by decide +kernel
theorem dX2_outerOf_15 : decode cX2_outerOf 15 = .ok (.getfield 13, 3) := by decide +kernel
theorem dX2_outerOf_18 : decode cX2_outerOf 18 = .ok (.iload_n 3, 1) := by decide +kernel
theorem dX2_outerOf_19 : decode cX2_outerOf 19 = .ok (.aaload, 1) := by decide +kernel
theorem dX2_outerOf_20 : decode cX2_outerOf 20 = .ok (.invokevirtual 63, 3) := by decide +kernel
theorem dX2_outerOf_23 : decode cX2_outerOf 23 = .ok (.ifCond .eq 29, 3) := by decide +kernel
theorem dX2_outerOf_26 : decode cX2_outerOf 26 = .ok (.iload_n 2, 1) := by decide +kernel
theorem dX2_outerOf_27 : decode cX2_outerOf 27 = .ok (.bipush (-5), 2) := by decide +kernel
theorem dX2_outerOf_29 : decode cX2_outerOf 29 = .ok (.if_icmp .eq 21, 3) := by decide +kernel
theorem dX2_outerOf_32 : decode cX2_outerOf 32 = .ok (.aload_n 0, 1) := by decide +kernel
theorem dX2_outerOf_33 : decode cX2_outerOf 33 = .ok (.getfield 13, 3) := by decide +kernel
theorem dX2_outerOf_36 : decode cX2_outerOf 36 = .ok (.iload_n 3, 1) := by decide +kernel
theorem dX2_outerOf_37 : decode cX2_outerOf 37 = .ok (.aaload, 1) := by decide +kernel
theorem dX2_outerOf_38 : decode cX2_outerOf 38 = .ok (.aload_n 0, 1) := by decide +kernel
theorem dX2_outerOf_39 : decode cX2_outerOf 39 = .ok (.getfield 13, 3) := by decide +kernel
theorem dX2_outerOf_42 : decode cX2_outerOf 42 = .ok (.iload_n 2, 1) := by decide +kernel
theorem dX2_outerOf_43 : decode cX2_outerOf 43 = .ok (.aaload, 1) := by decide +kernel
theorem dX2_outerOf_44 : decode cX2_outerOf 44 = .ok (.invokevirtual 63, 3) := by decide +kernel
theorem dX2_outerOf_47 : decode cX2_outerOf 47 = .ok (.ifCond .eq 5, 3) := by decide +kernel
theorem dX2_outerOf_50 : decode cX2_outerOf 50 = .ok (.iload_n 3, 1) := by decide +kernel
theorem dX2_outerOf_51 : decode cX2_outerOf 51 = .ok (.istore_n 2, 1) := by decide +kernel
theorem dX2_outerOf_52 : decode cX2_outerOf 52 = .ok (.iinc 3 1, 3) := by decide +kernel
theorem dX2_outerOf_55 : decode cX2_outerOf 55 = .ok (.goto (-50), 3) := by decide +kernel
theorem dX2_outerOf_58 : decode cX2_outerOf 58 = .ok (.iload_n 2, 1) := by decide +kernel
theorem dX2_outerOf_59 : decode cX2_outerOf 59 = .ok (.ireturn, 1) := by decide +kernel
theorem dX2_setInside_0 : decode cX2_setInside 0 = .ok (.iconst 0, 1) := by decide +kernel
theorem dX2_setInside_1 : decode cX2_setInside 1 = .ok (.istore_n 2, 1) := by decide +kernel
theorem dX2_setInside_2 : decode cX2_setInside 2 = .ok (.iconst 0, 1) := by decide +kernel
theorem dX2_setInside_3 : decode cX2_setInside 3 = .ok (.istore_n 3, 1) := by decide +kernel
theorem dX2_setInside_4 : decode cX2_setInside 4 = .ok (.iload_n 3, 1) := by decide +kernel
theorem dX2_setInside_5 : decode cX2_setInside 5 = .ok (.aload_n 0, 1) := by decide +kernel
theorem dX2_setInside_6 : decode cX2_setInside 6 = .ok (.getfield 25, 3) := by decide +kernel
theorem dX2_setInside_9 : decode cX2_setInside 9 = .ok (.if_icmp .ge 28, 3) := by decide +kernel
theorem dX2_setInside_12 : decode cX2_setInside 12 = .ok (.aload_n 0, 1) := by decide +kernel
theorem dX2_setInside_13 : decode cX2_setInside 13 = .ok (.getfield 13, 3) := by decide +kernel
theorem dX2_setInside_16 : decode cX2_setInside 16 = .ok (.iload_n 3, 1) := by decide +kernel
theorem dX2_setInside_17 : decode cX2_setInside 17 = .ok (.aaload, 1) := by decide +kernel
theorem dX2_setInside_18 : decode cX2_setInside 18 = .ok (.aload_n 1, 1) := by decide +kernel
theorem dX2_setInside_19 : decode cX2_setInside 19 = .ok (.invokevirtual 63, 3) := by decide +kernel
theorem dX2_setInside_22 : decode cX2_setInside 22 = .ok (.ifCond .eq 9, 3) := by decide +kernel
theorem dX2_setInside_25 : decode cX2_setInside 25 = .ok (.iload_n 2, 1) := by decide +kernel
theorem dX2_setInside_26 : decode cX2_setInside 26 = .ok (.iconst 1, 1) := by decide +kernel
theorem dX2_setInside_27 : decode cX2_setInside 27 = .ok (.iload_n 3, 1) := by decide +kernel
theorem dX2_setInside_28 : decode cX2_setInside 28 = .ok (.ishl, 1) := by decide +kernel
theorem dX2_setInside_29 : decode cX2_setInside 29 = .ok (.ior, 1) := by decide +kernel
theorem dX2_setInside_30 : decode cX2_setInside 30 = .ok (.istore_n 2, 1) := by decide +kernel
theorem dX2_setInside_31 : decode cX2_setInside 31 = .ok (.iinc 3 1, 3) := by decide +kernel
theorem dX2_setInside_34 : decode cX2_setInside 34 = .ok (.goto (-30), 3) := by decide +kernel
theorem dX2_setInside_37 : decode cX2_setInside 37 = .ok (.iload_n 2, 1) := by decide +kernel
theorem dX2_setInside_38 : decode cX2_setInside 38 = .ok (.ireturn, 1) := by decide +kernel
theorem dX2_factOfShape_0 : decode cX2_factOfShape 0 = .ok (.aload_n 0, 1) := by decide +kernel
theorem dX2_factOfShape_1 : decode cX2_factOfShape 1 = .ok (.iload_n 1, 1) := by decide +kernel
theorem dX2_factOfShape_2 : decode cX2_factOfShape 2 = .ok (.invokevirtual 72, 3) := by decide +kernel
theorem dX2_factOfShape_5 : decode cX2_factOfShape 5 = .ok (.ifCond .ne 5, 3) := by decide +kernel
theorem dX2_factOfShape_8 : decode cX2_factOfShape 8 = .ok (.iconst (-1), 1) := by decide +kernel
theorem dX2_factOfShape_9 : decode cX2_factOfShape 9 = .ok (.ireturn, 1) := by decide +kernel
theorem dX2_factOfShape_10 : decode cX2_factOfShape 10 = .ok (.aload_n 0, 1) := by decide +kernel
theorem dX2_factOfShape_11 : decode cX2_factOfShape 11 = .ok (.getfield 13, 3) := by decide +kernel
theorem dX2_factOfShape_14 : decode cX2_factOfShape 14 = .ok (.iload_n 1, 1) := by decide +kernel
theorem dX2_factOfShape_15 : decode cX2_factOfShape 15 = .ok (.aaload, 1) := by decide +kernel
theorem dX2_factOfShape_16 : decode cX2_factOfShape 16 = .ok (.astore_n 3, 1) := by decide +kernel
theorem dX2_factOfShape_17 : decode cX2_factOfShape 17 = .ok (.iload_n 2, 1) := by decide +kernel
theorem dX2_factOfShape_18 : decode cX2_factOfShape 18 = .ok (.tableswitch 115 0 10 #[58, 63, 68, 73, 78, 83, 88, 94, 100, 105, 110], 58) := by decide +kernel
theorem dX2_factOfShape_76 : decode cX2_factOfShape 76 = .ok (.aload_n 3, 1) := by decide +kernel
theorem dX2_factOfShape_77 : decode cX2_factOfShape 77 = .ok (.getfield 167, 3) := by decide +kernel
theorem dX2_factOfShape_80 : decode cX2_factOfShape 80 = .ok (.ireturn, 1) := by decide +kernel
theorem dX2_factOfShape_81 : decode cX2_factOfShape 81 = .ok (.aload_n 3, 1) := by decide +kernel
theorem dX2_factOfShape_82 : decode cX2_factOfShape 82 = .ok (.getfield 170, 3) := by decide +kernel
theorem dX2_factOfShape_85 : decode cX2_factOfShape 85 = .ok (.ireturn, 1) := by decide +kernel
theorem dX2_factOfShape_86 : decode cX2_factOfShape 86 = .ok (.aload_n 3, 1) := by decide +kernel
theorem dX2_factOfShape_87 : decode cX2_factOfShape 87 = .ok (.getfield 173, 3) := by decide +kernel
theorem dX2_factOfShape_90 : decode cX2_factOfShape 90 = .ok (.ireturn, 1) := by decide +kernel
theorem dX2_factOfShape_91 : decode cX2_factOfShape 91 = .ok (.aload_n 3, 1) := by decide +kernel
theorem dX2_factOfShape_92 : decode cX2_factOfShape 92 = .ok (.getfield 176, 3) := by decide +kernel
theorem dX2_factOfShape_95 : decode cX2_factOfShape 95 = .ok (.ireturn, 1) := by decide +kernel
theorem dX2_factOfShape_96 : decode cX2_factOfShape 96 = .ok (.aload_n 3, 1) := by decide +kernel
theorem dX2_factOfShape_97 : decode cX2_factOfShape 97 = .ok (.getfield 76, 3) := by decide +kernel
theorem dX2_factOfShape_100 : decode cX2_factOfShape 100 = .ok (.ireturn, 1) := by decide +kernel
theorem dX2_factOfShape_101 : decode cX2_factOfShape 101 = .ok (.aload_n 3, 1) := by decide +kernel
theorem dX2_factOfShape_102 : decode cX2_factOfShape 102 = .ok (.getfield 66, 3) := by decide +kernel
theorem dX2_factOfShape_105 : decode cX2_factOfShape 105 = .ok (.ireturn, 1) := by decide +kernel
theorem dX2_factOfShape_106 : decode cX2_factOfShape 106 = .ok (.aload_n 0, 1) := by decide +kernel
theorem dX2_factOfShape_107 : decode cX2_factOfShape 107 = .ok (.aload_n 3, 1) := by decide +kernel
theorem dX2_factOfShape_108 : decode cX2_factOfShape 108 = .ok (.invokevirtual 179, 3) := by decide +kernel
theorem dX2_factOfShape_111 : decode cX2_factOfShape 111 = .ok (.ireturn, 1) := by decide +kernel
theorem dX2_factOfShape_112 : decode cX2_factOfShape 112 = .ok (.aload_n 0, 1) := by decide +kernel
theorem dX2_factOfShape_113 : decode cX2_factOfShape 113 = .ok (.aload_n 3, 1) := by decide +kernel
theorem dX2_factOfShape_114 : decode cX2_factOfShape 114 = .ok (.invokevirtual 182, 3) := by decide +kernel
theorem dX2_factOfShape_117 : decode cX2_factOfShape 117 = .ok (.ireturn, 1) := by decide +kernel
theorem dX2_factOfShape_118 : decode cX2_factOfShape 118 = .ok (.aload_n 3, 1) := by decide +kernel
theorem dX2_factOfShape_119 : decode cX2_factOfShape 119 = .ok (.invokevirtual 140, 3) := by decide +kernel
theorem dX2_factOfShape_122 : decode cX2_factOfShape 122 = .ok (.ireturn, 1) := by decide +kernel
theorem dX2_factOfShape_123 : decode cX2_factOfShape 123 = .ok (.aload_n 3, 1) := by decide +kernel
theorem dX2_factOfShape_124 : decode cX2_factOfShape 124 = .ok (.getfield 119, 3) := by decide +kernel
theorem dX2_factOfShape_127 : decode cX2_factOfShape 127 = .ok (.ireturn, 1) := by decide +kernel
theorem dX2_factOfShape_128 : decode cX2_factOfShape 128 = .ok (.aload_n 3, 1) := by decide +kernel
theorem dX2_factOfShape_129 : decode cX2_factOfShape 129 = .ok (.getfield 107, 3) := by decide +kernel
theorem dX2_factOfShape_132 : decode cX2_factOfShape 132 = .ok (.ireturn, 1) := by decide +kernel
theorem dX2_factOfShape_133 : decode cX2_factOfShape 133 = .ok (.bipush (-2), 2) := by decide +kernel
theorem dX2_factOfShape_135 : decode cX2_factOfShape 135 = .ok (.ireturn, 1) := by decide +kernel
theorem dX2_factOfSheet_0 : decode cX2_factOfSheet 0 = .ok (.iload_n 1, 1) := by decide +kernel
theorem dX2_factOfSheet_1 : decode cX2_factOfSheet 1 = .ok (.tableswitch 179 0 16 #[83, 88, 94, 100, 106, 111, 116, 121, 126, 131, 136, 141, 146, 151, 158, 165, 172], 83) := by decide +kernel
theorem dX2_factOfSheet_84 : decode cX2_factOfSheet 84 = .ok (.aload_n 0, 1) := by decide +kernel
theorem dX2_factOfSheet_85 : decode cX2_factOfSheet 85 = .ok (.getfield 25, 3) := by decide +kernel
theorem dX2_factOfSheet_88 : decode cX2_factOfSheet 88 = .ok (.ireturn, 1) := by decide +kernel
theorem dX2_factOfSheet_89 : decode cX2_factOfSheet 89 = .ok (.aload_n 0, 1) := by decide +kernel
theorem dX2_factOfSheet_90 : decode cX2_factOfSheet 90 = .ok (.iconst 0, 1) := by decide +kernel
theorem dX2_factOfSheet_91 : decode cX2_factOfSheet 91 = .ok (.invokevirtual 185, 3) := by decide +kernel
theorem dX2_factOfSheet_94 : decode cX2_factOfSheet 94 = .ok (.ireturn, 1) := by decide +kernel
theorem dX2_factOfSheet_95 : decode cX2_factOfSheet 95 = .ok (.aload_n 0, 1) := by decide +kernel
theorem dX2_factOfSheet_96 : decode cX2_factOfSheet 96 = .ok (.iconst 1, 1) := by decide +kernel
theorem dX2_factOfSheet_97 : decode cX2_factOfSheet 97 = .ok (.invokevirtual 185, 3) := by decide +kernel
theorem dX2_factOfSheet_100 : decode cX2_factOfSheet 100 = .ok (.ireturn, 1) := by decide +kernel
theorem dX2_factOfSheet_101 : decode cX2_factOfSheet 101 = .ok (.aload_n 0, 1) := by decide +kernel
theorem dX2_factOfSheet_102 : decode cX2_factOfSheet 102 = .ok (.iconst 2, 1) := by decide +kernel
theorem dX2_factOfSheet_103 : decode cX2_factOfSheet 103 = .ok (.invokevirtual 185, 3) := by decide +kernel
theorem dX2_factOfSheet_106 : decode cX2_factOfSheet 106 = .ok (.ireturn, 1) := by decide +kernel
theorem dX2_factOfSheet_107 : decode cX2_factOfSheet 107 = .ok (.aload_n 0, 1) := by decide +kernel
theorem dX2_factOfSheet_108 : decode cX2_factOfSheet 108 = .ok (.invokevirtual 188, 3) := by decide +kernel
theorem dX2_factOfSheet_111 : decode cX2_factOfSheet 111 = .ok (.ireturn, 1) := by decide +kernel
theorem dX2_factOfSheet_112 : decode cX2_factOfSheet 112 = .ok (.aload_n 0, 1) := by decide +kernel
theorem dX2_factOfSheet_113 : decode cX2_factOfSheet 113 = .ok (.getfield 35, 3) := by decide +kernel
theorem dX2_factOfSheet_116 : decode cX2_factOfSheet 116 = .ok (.ireturn, 1) := by decide +kernel
theorem dX2_factOfSheet_117 : decode cX2_factOfSheet 117 = .ok (.aload_n 0, 1) := by decide +kernel
theorem dX2_factOfSheet_118 : decode cX2_factOfSheet 118 = .ok (.getfield 29, 3) := by decide +kernel
theorem dX2_factOfSheet_121 : decode cX2_factOfSheet 121 = .ok (.ireturn, 1) := by decide +kernel
theorem dX2_factOfSheet_122 : decode cX2_factOfSheet 122 = .ok (.aload_n 0, 1) := by decide +kernel
theorem dX2_factOfSheet_123 : decode cX2_factOfSheet 123 = .ok (.getfield 32, 3) := by decide +kernel
theorem dX2_factOfSheet_126 : decode cX2_factOfSheet 126 = .ok (.ireturn, 1) := by decide +kernel
theorem dX2_factOfSheet_127 : decode cX2_factOfSheet 127 = .ok (.aload_n 0, 1) := by decide +kernel
theorem dX2_factOfSheet_128 : decode cX2_factOfSheet 128 = .ok (.getfield 38, 3) := by decide +kernel
theorem dX2_factOfSheet_131 : decode cX2_factOfSheet 131 = .ok (.ireturn, 1) := by decide +kernel
theorem dX2_factOfSheet_132 : decode cX2_factOfSheet 132 = .ok (.aload_n 0, 1) := by decide +kernel
theorem dX2_factOfSheet_133 : decode cX2_factOfSheet 133 = .ok (.getfield 41, 3) := by decide +kernel
theorem dX2_factOfSheet_136 : decode cX2_factOfSheet 136 = .ok (.ireturn, 1) := by decide +kernel
theorem dX2_factOfSheet_137 : decode cX2_factOfSheet 137 = .ok (.aload_n 0, 1) := by decide +kernel
theorem dX2_factOfSheet_138 : decode cX2_factOfSheet 138 = .ok (.invokevirtual 116, 3) := by decide +kernel
theorem dX2_factOfSheet_141 : decode cX2_factOfSheet 141 = .ok (.ireturn, 1) := by decide +kernel
theorem dX2_factOfSheet_142 : decode cX2_factOfSheet 142 = .ok (.aload_n 0, 1) := by decide +kernel
theorem dX2_factOfSheet_143 : decode cX2_factOfSheet 143 = .ok (.invokevirtual 164, 3) := by decide +kernel
theorem dX2_factOfSheet_146 : decode cX2_factOfSheet 146 = .ok (.ireturn, 1) := by decide +kernel
theorem dX2_factOfSheet_147 : decode cX2_factOfSheet 147 = .ok (.aload_n 0, 1) := by decide +kernel
theorem dX2_factOfSheet_148 : decode cX2_factOfSheet 148 = .ok (.invokevirtual 191, 3) := by decide +kernel
theorem dX2_factOfSheet_151 : decode cX2_factOfSheet 151 = .ok (.ireturn, 1) := by decide +kernel
theorem dX2_factOfSheet_152 : decode cX2_factOfSheet 152 = .ok (.aload_n 0, 1) := by decide +kernel
theorem dX2_factOfSheet_153 : decode cX2_factOfSheet 153 = .ok (.getfield 22, 3) := by decide +kernel
theorem dX2_factOfSheet_156 : decode cX2_factOfSheet 156 = .ok (.iconst 0, 1) := by decide +kernel
theorem dX2_factOfSheet_157 : decode cX2_factOfSheet 157 = .ok (.iaload, 1) := by decide +kernel
theorem dX2_factOfSheet_158 : decode cX2_factOfSheet 158 = .ok (.ireturn, 1) := by decide +kernel
theorem dX2_factOfSheet_159 : decode cX2_factOfSheet 159 = .ok (.aload_n 0, 1) := by decide +kernel
theorem dX2_factOfSheet_160 : decode cX2_factOfSheet 160 = .ok (.getfield 22, 3) := by decide +kernel
theorem dX2_factOfSheet_163 : decode cX2_factOfSheet 163 = .ok (.iconst 1, 1) := by decide +kernel
theorem dX2_factOfSheet_164 : decode cX2_factOfSheet 164 = .ok (.iaload, 1) := by decide +kernel
theorem dX2_factOfSheet_165 : decode cX2_factOfSheet 165 = .ok (.ireturn, 1) := by decide +kernel
theorem dX2_factOfSheet_166 : decode cX2_factOfSheet 166 = .ok (.aload_n 0, 1) := by decide +kernel
theorem dX2_factOfSheet_167 : decode cX2_factOfSheet 167 = .ok (.getfield 22, 3) := by decide +kernel
theorem dX2_factOfSheet_170 : decode cX2_factOfSheet 170 = .ok (.iconst 2, 1) := by decide +kernel
theorem dX2_factOfSheet_171 : decode cX2_factOfSheet 171 = .ok (.iaload, 1) := by decide +kernel
theorem dX2_factOfSheet_172 : decode cX2_factOfSheet 172 = .ok (.ireturn, 1) := by decide +kernel
theorem dX2_factOfSheet_173 : decode cX2_factOfSheet 173 = .ok (.aload_n 0, 1) := by decide +kernel
theorem dX2_factOfSheet_174 : decode cX2_factOfSheet 174 = .ok (.getfield 22, 3) := by decide +kernel
theorem dX2_factOfSheet_177 : decode cX2_factOfSheet 177 = .ok (.iconst 3, 1) := by decide +kernel
theorem dX2_factOfSheet_178 : decode cX2_factOfSheet 178 = .ok (.iaload, 1) := by decide +kernel
theorem dX2_factOfSheet_179 : decode cX2_factOfSheet 179 = .ok (.ireturn, 1) := by decide +kernel
theorem dX2_factOfSheet_180 : decode cX2_factOfSheet 180 = .ok (.bipush (-2), 2) := by decide +kernel
theorem dX2_factOfSheet_182 : decode cX2_factOfSheet 182 = .ok (.ireturn, 1) := by decide +kernel
theorem dX3_init_0 : decode cX3_init 0 = .ok (.aload_n 0, 1) := by decide +kernel
theorem dX3_init_1 : decode cX3_init 1 = .ok (.invokespecial 1, 3) := by decide +kernel
theorem dX3_init_4 : decode cX3_init 4 = .ok (.aload_n 0, 1) := by decide +kernel
theorem dX3_init_5 : decode cX3_init 5 = .ok (.new 7, 3) := by decide +kernel
theorem dX3_init_8 : decode cX3_init 8 = .ok (.dup, 1) := by decide +kernel
theorem dX3_init_9 : decode cX3_init 9 = .ok (.invokespecial 9, 3) := by decide +kernel
theorem dX3_init_12 : decode cX3_init 12 = .ok (.putfield 10, 3) := by decide +kernel
theorem dX3_init_15 : decode cX3_init 15 = .ok (.aload_n 0, 1) := by decide +kernel
theorem dX3_init_16 : decode cX3_init 16 = .ok (.new 7, 3) := by decide +kernel
theorem dX3_init_19 : decode cX3_init 19 = .ok (.dup, 1) := by decide +kernel
theorem dX3_init_20 : decode cX3_init 20 = .ok (.invokespecial 9, 3) := by decide +kernel
theorem dX3_init_23 : decode cX3_init 23 = .ok (.putfield 16, 3) := by decide +kernel
theorem dX3_init_26 : decode cX3_init 26 = .ok (.aload_n 0, 1) := by decide +kernel
theorem dX3_init_27 : decode cX3_init 27 = .ok (.new 7, 3) := by decide +kernel
theorem dX3_init_30 : decode cX3_init 30 = .ok (.dup, 1) := by decide +kernel
theorem dX3_init_31 : decode cX3_init 31 = .ok (.invokespecial 9, 3) := by decide +kernel
theorem dX3_init_34 : decode cX3_init 34 = .ok (.putfield 19, 3) := by decide +kernel
theorem dX3_init_37 : decode cX3_init 37 = .ok (.aload_n 0, 1) := by decide +kernel
theorem dX3_init_38 : decode cX3_init 38 = .ok (.new 7, 3) := by decide +kernel
theorem dX3_init_41 : decode cX3_init 41 = .ok (.dup, 1) := by decide +kernel
theorem dX3_init_42 : decode cX3_init 42 = .ok (.invokespecial 9, 3) := by decide +kernel
theorem dX3_init_45 : decode cX3_init 45 = .ok (.putfield 22, 3) := by decide +kernel
theorem dX3_init_48 : decode cX3_init 48 = .ok (.aload_n 0, 1) := by decide +kernel
theorem dX3_init_49 : decode cX3_init 49 = .ok (.iconst 4, 1) := by decide +kernel
theorem dX3_init_50 : decode cX3_init 50 = .ok (.anewarray 7, 3) := by decide +kernel
theorem dX3_init_53 : decode cX3_init 53 = .ok (.putfield 25, 3) := by decide +kernel
theorem dX3_init_56 : decode cX3_init 56 = .ok (.iconst 0, 1) := by decide +kernel
theorem dX3_init_57 : decode cX3_init 57 = .ok (.istore_n 1, 1) := by decide +kernel
theorem dX3_init_58 : decode cX3_init 58 = .ok (.iload_n 1, 1) := by decide +kernel
theorem dX3_init_59 : decode cX3_init 59 = .ok (.iconst 4, 1) := by decide +kernel
theorem dX3_init_60 : decode cX3_init 60 = .ok (.if_icmp .ge 22, 3) := by decide +kernel
theorem dX3_init_63 : decode cX3_init 63 = .ok (.aload_n 0, 1) := by decide +kernel
theorem dX3_init_64 : decode cX3_init 64 = .ok (.getfield 25, 3) := by decide +kernel
theorem dX3_init_67 : decode cX3_init 67 = .ok (.iload_n 1, 1) := by decide +kernel
theorem dX3_init_68 : decode cX3_init 68 = .ok (.new 7, 3) := by decide +kernel
theorem dX3_init_71 : decode cX3_init 71 = .ok (.dup, 1) := by decide +kernel
theorem dX3_init_72 : decode cX3_init 72 = .ok (.invokespecial 9, 3) := by decide +kernel
theorem dX3_init_75 : decode cX3_init 75 = .ok (.aastore, 1) := by decide +kernel
theorem dX3_init_76 : decode cX3_init 76 = .ok (.iinc 1 1, 3) := by decide +kernel
theorem dX3_init_79 : decode cX3_init 79 = .ok (.goto (-21), 3) := by decide +kernel
theorem dX3_init_82 : decode cX3_init 82 = .ok (.aload_n 0, 1) := by decide +kernel
theorem dX3_init_83 : decode cX3_init 83 = .ok (.new 29, 3) := by decide +kernel
theorem dX3_init_86 : decode cX3_init 86 = .ok (.dup, 1) := by decide +kernel
theorem dX3_init_87 : decode cX3_init 87 = .ok (.invokespecial 31, 3) := by decide +kernel
theorem dX3_init_90 : decode cX3_init 90 = .ok (.putfield 32, 3) := by decide +kernel
theorem dX3_init_93 : decode cX3_init 93 = .ok (.aload_n 0, 1) := by decide +kernel
theorem dX3_init_94 : decode cX3_init 94 = .ok (.iconst 0, 1) := by decide +kernel
theorem dX3_init_95 : decode cX3_init 95 = .ok (.putfield 36, 3) := by decide +kernel
theorem dX3_init_98 : decode cX3_init 98 = .ok (.aload_n 0, 1) := by decide +kernel
theorem dX3_init_99 : decode cX3_init 99 = .ok (.iconst 0, 1) := by decide +kernel
theorem dX3_init_100 : decode cX3_init 100 = .ok (.putfield 40, 3) := by decide +kernel
theorem dX3_init_103 : decode cX3_init 103 = .ok (.aload_n 0, 1) := by decide +kernel
theorem dX3_init_104 : decode cX3_init 104 = .ok (.iconst 0, 1) := by decide +kernel
theorem dX3_init_105 : decode cX3_init 105 = .ok (.putfield 44, 3) := by decide +kernel
theorem dX3_init_108 : decode cX3_init 108 = .ok (.aload_n 0, 1) := by decide +kernel
theorem dX3_init_109 : decode cX3_init 109 = .ok (.iconst 0, 1) := by decide +kernel
theorem dX3_init_110 : decode cX3_init 110 = .ok (.putfield 47, 3) := by decide +kernel
theorem dX3_init_113 : decode cX3_init 113 = .ok (.return_, 1) := by decide +kernel
theorem dX3_tell_0 : decode cX3_tell 0 = .ok (.aload_n 0, 1) := by decide +kernel
theorem dX3_tell_1 : decode cX3_tell 1 = .ok (.getfield 16, 3) := by decide +kernel
theorem dX3_tell_4 : decode cX3_tell 4 = .ok (.aload_n 0, 1) := by decide +kernel
theorem dX3_tell_5 : decode cX3_tell 5 = .ok (.getfield 10, 3) := by decide +kernel
theorem dX3_tell_8 : decode cX3_tell 8 = .ok (.invokevirtual 50, 3) := by decide +kernel
theorem dX3_tell_11 : decode cX3_tell 11 = .ok (.aload_n 0, 1) := by decide +kernel
theorem dX3_tell_12 : decode cX3_tell 12 = .ok (.aload_n 0, 1) := by decide +kernel
theorem dX3_tell_13 : decode cX3_tell 13 = .ok (.getfield 10, 3) := by decide +kernel
theorem dX3_tell_16 : decode cX3_tell 16 = .ok (.iload_n 1, 1) := by decide +kernel
theorem dX3_tell_17 : decode cX3_tell 17 = .ok (.iload_n 2, 1) := by decide +kernel
theorem dX3_tell_18 : decode cX3_tell 18 = .ok (.iload_n 3, 1) := by decide +kernel
theorem dX3_tell_19 : decode cX3_tell 19 = .ok (.iload 4, 2) := by decide +kernel
theorem dX3_tell_21 : decode cX3_tell 21 = .ok (.invokevirtual 54, 3) := by decide +kernel
theorem dX3_tell_24 : decode cX3_tell 24 = .ok (.invokevirtual 58, 3) := by decide +kernel
theorem dX3_tell_27 : decode cX3_tell 27 = .ok (.ireturn, 1) := by decide +kernel
theorem dX3_setLead_0 : decode cX3_setLead 0 = .ok (.aload_n 0, 1) := by decide +kernel
theorem dX3_setLead_1 : decode cX3_setLead 1 = .ok (.getfield 16, 3) := by decide +kernel
theorem dX3_setLead_4 : decode cX3_setLead 4 = .ok (.aload_n 0, 1) := by decide +kernel
theorem dX3_setLead_5 : decode cX3_setLead 5 = .ok (.getfield 10, 3) := by decide +kernel
theorem dX3_setLead_8 : decode cX3_setLead 8 = .ok (.invokevirtual 50, 3) := by decide +kernel
theorem dX3_setLead_11 : decode cX3_setLead 11 = .ok (.aload_n 0, 1) := by decide +kernel
theorem dX3_setLead_12 : decode cX3_setLead 12 = .ok (.aload_n 0, 1) := by decide +kernel
theorem dX3_setLead_13 : decode cX3_setLead 13 = .ok (.getfield 10, 3) := by decide +kernel
theorem dX3_setLead_16 : decode cX3_setLead 16 = .ok (.iload_n 1, 1) := by decide +kernel
theorem dX3_setLead_17 : decode cX3_setLead 17 = .ok (.iload_n 2, 1) := by decide +kernel
theorem dX3_setLead_18 : decode cX3_setLead 18 = .ok (.invokevirtual 62, 3) := by decide +kernel
theorem dX3_setLead_21 : decode cX3_setLead 21 = .ok (.invokevirtual 58, 3) := by decide +kernel
theorem dX3_setLead_24 : decode cX3_setLead 24 = .ok (.ireturn, 1) := by decide +kernel
theorem dX3_set_0 : decode cX3_set 0 = .ok (.aload_n 0, 1) := by decide +kernel
theorem dX3_set_1 : decode cX3_set 1 = .ok (.getfield 16, 3) := by decide +kernel
theorem dX3_set_4 : decode cX3_set 4 = .ok (.aload_n 0, 1) := by decide +kernel
theorem dX3_set_5 : decode cX3_set 5 = .ok (.getfield 10, 3) := by decide +kernel
theorem dX3_set_8 : decode cX3_set 8 = .ok (.invokevirtual 50, 3) := by decide +kernel
theorem dX3_set_11 : decode cX3_set 11 = .ok (.aload_n 0, 1) := by decide +kernel
theorem dX3_set_12 : decode cX3_set 12 = .ok (.aload_n 0, 1) := by decide +kernel
theorem dX3_set_13 : decode cX3_set 13 = .ok (.getfield 10, 3) := by decide +kernel
theorem dX3_set_16 : decode cX3_set 16 = .ok (.iload_n 1, 1) := by decide +kernel
theorem dX3_set_17 : decode cX3_set 17 = .ok (.iload_n 2, 1) := by decide +kernel
theorem dX3_set_18 : decode cX3_set 18 = .ok (.invokevirtual 66, 3) := by decide +kernel
theorem dX3_set_21 : decode cX3_set 21 = .ok (.invokevirtual 58, 3) := by decide +kernel
theorem dX3_set_24 : decode cX3_set 24 = .ok (.ireturn, 1) := by decide +kernel
theorem dX3_cut_0 : decode cX3_cut 0 = .ok (.aload_n 0, 1) := by decide +kernel
theorem dX3_cut_1 : decode cX3_cut 1 = .ok (.getfield 16, 3) := by decide +kernel
theorem dX3_cut_4 : decode cX3_cut 4 = .ok (.aload_n 0, 1) := by decide +kernel
theorem dX3_cut_5 : decode cX3_cut 5 = .ok (.getfield 10, 3) := by decide +kernel
theorem dX3_cut_8 : decode cX3_cut 8 = .ok (.invokevirtual 50, 3) := by decide +kernel
theorem dX3_cut_11 : decode cX3_cut 11 = .ok (.aload_n 0, 1) := by decide +kernel
theorem dX3_cut_12 : decode cX3_cut 12 = .ok (.aload_n 0, 1) := by decide +kernel
theorem dX3_cut_13 : decode cX3_cut 13 = .ok (.getfield 10, 3) := by decide +kernel
theorem dX3_cut_16 : decode cX3_cut 16 = .ok (.iload_n 1, 1) := by decide +kernel
theorem dX3_cut_17 : decode cX3_cut 17 = .ok (.invokevirtual 69, 3) := by decide +kernel
theorem dX3_cut_20 : decode cX3_cut 20 = .ok (.invokevirtual 58, 3) := by decide +kernel
theorem dX3_cut_23 : decode cX3_cut 23 = .ok (.ireturn, 1) := by decide +kernel
theorem dX3_pause_0 : decode cX3_pause 0 = .ok (.aload_n 0, 1) := by decide +kernel
theorem dX3_pause_1 : decode cX3_pause 1 = .ok (.getfield 16, 3) := by decide +kernel
theorem dX3_pause_4 : decode cX3_pause 4 = .ok (.aload_n 0, 1) := by decide +kernel
theorem dX3_pause_5 : decode cX3_pause 5 = .ok (.getfield 10, 3) := by decide +kernel
theorem dX3_pause_8 : decode cX3_pause 8 = .ok (.invokevirtual 50, 3) := by decide +kernel
theorem dX3_pause_11 : decode cX3_pause 11 = .ok (.aload_n 0, 1) := by decide +kernel
theorem dX3_pause_12 : decode cX3_pause 12 = .ok (.aload_n 0, 1) := by decide +kernel
theorem dX3_pause_13 : decode cX3_pause 13 = .ok (.getfield 10, 3) := by decide +kernel
theorem dX3_pause_16 : decode cX3_pause 16 = .ok (.iload_n 1, 1) := by decide +kernel
theorem dX3_pause_17 : decode cX3_pause 17 = .ok (.invokevirtual 72, 3) := by decide +kernel
theorem dX3_pause_20 : decode cX3_pause 20 = .ok (.invokevirtual 58, 3) := by decide +kernel
theorem dX3_pause_23 : decode cX3_pause 23 = .ok (.ireturn, 1) := by decide +kernel
theorem dX3_clean_0 : decode cX3_clean 0 = .ok (.aload_n 0, 1) := by decide +kernel
theorem dX3_clean_1 : decode cX3_clean 1 = .ok (.getfield 16, 3) := by decide +kernel
theorem dX3_clean_4 : decode cX3_clean 4 = .ok (.aload_n 0, 1) := by decide +kernel
theorem dX3_clean_5 : decode cX3_clean 5 = .ok (.getfield 10, 3) := by decide +kernel
theorem dX3_clean_8 : decode cX3_clean 8 = .ok (.invokevirtual 50, 3) := by decide +kernel
theorem dX3_clean_11 : decode cX3_clean 11 = .ok (.aload_n 0, 1) := by decide +kernel
theorem dX3_clean_12 : decode cX3_clean 12 = .ok (.aload_n 0, 1) := by decide +kernel
theorem dX3_clean_13 : decode cX3_clean 13 = .ok (.getfield 10, 3) := by decide +kernel
theorem dX3_clean_16 : decode cX3_clean 16 = .ok (.invokevirtual 75, 3) := by decide +kernel
theorem dX3_clean_19 : decode cX3_clean 19 = .ok (.invokevirtual 58, 3) := by decide +kernel
theorem dX3_clean_22 : decode cX3_clean 22 = .ok (.ireturn, 1) := by decide +kernel
theorem dX3_type_0 : decode cX3_type 0 = .ok (.aload_n 0, 1) := by decide +kernel
theorem dX3_type_1 : decode cX3_type 1 = .ok (.getfield 32, 3) := by decide +kernel
theorem dX3_type_4 : decode cX3_type 4 = .ok (.iload_n 1, 1) := by decide +kernel
theorem dX3_type_5 : decode cX3_type 5 = .ok (.invokevirtual 79, 3) := by decide +kernel
theorem dX3_type_8 : decode cX3_type 8 = .ok (.ireturn, 1) := by decide +kernel
theorem dX3_clearText_0 : decode cX3_clearText 0 = .ok (.aload_n 0, 1) := by decide +kernel
theorem dX3_clearText_1 : decode cX3_clearText 1 = .ok (.getfield 32, 3) := by decide +kernel
theorem dX3_clearText_4 : decode cX3_clearText 4 = .ok (.invokevirtual 83, 3) := by decide +kernel
theorem dX3_clearText_7 : decode cX3_clearText 7 = .ok (.ireturn, 1) := by decide +kernel
theorem dX3_perform_0 : decode cX3_perform 0 = .ok (.aload_n 0, 1) := by decide +kernel
theorem dX3_perform_1 : decode cX3_perform 1 = .ok (.getfield 32, 3) := by decide +kernel
theorem dX3_perform_4 : decode cX3_perform 4 = .ok (.invokevirtual 86, 3) := by decide +kernel
theorem dX3_perform_7 : decode cX3_perform 7 = .ok (.istore_n 1, 1) := by decide +kernel
theorem dX3_perform_8 : decode cX3_perform 8 = .ok (.iload_n 1, 1) := by decide +kernel
theorem dX3_perform_9 : decode cX3_perform 9 = .ok (.iconst (-1), 1) := by decide +kernel
theorem dX3_perform_10 : decode cX3_perform 10 = .ok (.if_icmp .eq 8, 3) := by decide +kernel
theorem dX3_perform_13 : decode cX3_perform 13 = .ok (.bipush (-100), 2) := by decide +kernel
theorem dX3_perform_15 : decode cX3_perform 15 = .ok (.iload_n 1, 1) := by decide +kernel
theorem dX3_perform_16 : decode cX3_perform 16 = .ok (.isub, 1) := by decide +kernel
theorem dX3_perform_17 : decode cX3_perform 17 = .ok (.ireturn, 1) := by decide +kernel
theorem dX3_perform_18 : decode cX3_perform 18 = .ok (.aload_n 0, 1) := by decide +kernel
theorem dX3_perform_19 : decode cX3_perform 19 = .ok (.getfield 16, 3) := by decide +kernel
theorem dX3_perform_22 : decode cX3_perform 22 = .ok (.aload_n 0, 1) := by decide +kernel
theorem dX3_perform_23 : decode cX3_perform 23 = .ok (.getfield 10, 3) := by decide +kernel
theorem dX3_perform_26 : decode cX3_perform 26 = .ok (.invokevirtual 50, 3) := by decide +kernel
theorem dX3_perform_29 : decode cX3_perform 29 = .ok (.iconst 0, 1) := by decide +kernel
theorem dX3_perform_30 : decode cX3_perform 30 = .ok (.istore_n 2, 1) := by decide +kernel
theorem dX3_perform_31 : decode cX3_perform 31 = .ok (.iload_n 2, 1) := by decide +kernel
theorem dX3_perform_32 : decode cX3_perform 32 = .ok (.aload_n 0, 1) := by decide +kernel
theorem dX3_perform_33 : decode cX3_perform 33 = .ok (.getfield 32, 3) := by decide +kernel
theorem dX3_perform_36 : decode cX3_perform 36 = .ok (.getfield 89, 3) := by decide +kernel
theorem dX3_perform_39 : decode cX3_perform 39 = .ok (.if_icmp .ge 56, 3) := by decide +kernel
theorem dX3_perform_42 : decode cX3_perform 42 = .ok (.aload_n 0, 1) := by decide +kernel
theorem dX3_perform_43 : decode cX3_perform 43 = .ok (.getfield 32, 3) := by decide +kernel
theorem dX3_perform_46 : decode cX3_perform 46 = .ok (.iload_n 2, 1) := by decide +kernel
theorem dX3_perform_47 : decode cX3_perform 47 = .ok (.aload_n 0, 1) := by decide +kernel
theorem dX3_perform_48 : decode cX3_perform 48 = .ok (.getfield 10, 3) := by decide +kernel
theorem dX3_perform_51 : decode cX3_perform 51 = .ok (.invokevirtual 92, 3) := by decide +kernel
theorem dX3_perform_54 : decode cX3_perform 54 = .ok (.istore_n 3, 1) := by decide +kernel
theorem dX3_perform_55 : decode cX3_perform 55 = .ok (.iload_n 3, 1) := by decide +kernel
theorem dX3_perform_56 : decode cX3_perform 56 = .ok (.ifCond .ge 33, 3) := by decide +kernel
theorem dX3_perform_59 : decode cX3_perform 59 = .ok (.iload_n 3, 1) := by decide +kernel
theorem dX3_perform_60 : decode cX3_perform 60 = .ok (.bipush (-5), 2) := by decide +kernel
theorem dX3_perform_62 : decode cX3_perform 62 = .ok (.if_icmp .eq 27, 3) := by decide +kernel
theorem dX3_perform_65 : decode cX3_perform 65 = .ok (.aload_n 0, 1) := by decide +kernel
theorem dX3_perform_66 : decode cX3_perform 66 = .ok (.iload_n 2, 1) := by decide +kernel
theorem dX3_perform_67 : decode cX3_perform 67 = .ok (.putfield 44, 3) := by decide +kernel
theorem dX3_perform_70 : decode cX3_perform 70 = .ok (.aload_n 0, 1) := by decide +kernel
theorem dX3_perform_71 : decode cX3_perform 71 = .ok (.iload_n 3, 1) := by decide +kernel
theorem dX3_perform_72 : decode cX3_perform 72 = .ok (.putfield 47, 3) := by decide +kernel
theorem dX3_perform_75 : decode cX3_perform 75 = .ok (.aload_n 0, 1) := by decide +kernel
theorem dX3_perform_76 : decode cX3_perform 76 = .ok (.getfield 10, 3) := by decide +kernel
theorem dX3_perform_79 : decode cX3_perform 79 = .ok (.aload_n 0, 1) := by decide +kernel
theorem dX3_perform_80 : decode cX3_perform 80 = .ok (.getfield 16, 3) := by decide +kernel
theorem dX3_perform_83 : decode cX3_perform 83 = .ok (.invokevirtual 50, 3) := by decide +kernel
theorem dX3_perform_86 : decode cX3_perform 86 = .ok (.bipush (-4), 2) := by decide +kernel
theorem dX3_perform_88 : decode cX3_perform 88 = .ok (.ireturn, 1) := by decide +kernel
theorem dX3_perform_89 : decode cX3_perform 89 = .ok (.iinc 2 1, 3) := by decide +kernel
theorem dX3_perform_92 : decode cX3_perform 92 = .ok (.goto (-61), 3) := by decide +kernel
theorem dX3_perform_95 : decode cX3_perform 95 = .ok (.aload_n 0, 1) := by decide +kernel
theorem dX3_perform_96 : decode cX3_perform 96 = .ok (.aload_n 0, 1) := by decide +kernel
theorem dX3_perform_97 : decode cX3_perform 97 = .ok (.getfield 32, 3) := by decide +kernel
theorem dX3_perform_100 : decode cX3_perform 100 = .ok (.getfield 89, 3) := by decide +kernel
theorem dX3_perform_103 : decode cX3_perform 103 = .ok (.invokevirtual 58, 3) := by decide +kernel
theorem dX3_perform_106 : decode cX3_perform 106 = .ok (.ireturn, 1) := by decide +kernel
theorem dX3_stopped_0 : decode cX3_stopped 0 = .ok (.iload_n 1, 1) := by decide +kernel
theorem dX3_stopped_1 : decode cX3_stopped 1 = .ok (.ifCond .lt 8, 3) := by decide +kernel
theorem dX3_stopped_4 : decode cX3_stopped 4 = .ok (.iload_n 1, 1) := by decide +kernel
theorem dX3_stopped_5 : decode cX3_stopped 5 = .ok (.iconst 1, 1) := by decide +kernel
theorem dX3_stopped_6 : decode cX3_stopped 6 = .ok (.if_icmp .le 6, 3) := by decide +kernel
theorem dX3_stopped_9 : decode cX3_stopped 9 = .ok (.bipush (-2), 2) := by decide +kernel
theorem dX3_stopped_11 : decode cX3_stopped 11 = .ok (.ireturn, 1) := by decide +kernel
theorem dX3_stopped_12 : decode cX3_stopped 12 = .ok (.aload_n 0, 1) := by decide +kernel
theorem dX3_stopped_13 : decode cX3_stopped 13 = .ok (.getfield 47, 3) := by decide +kernel
theorem dX3_stopped_16 : decode cX3_stopped 16 = .ok (.ifCond .ne 6, 3) := by decide +kernel
theorem dX3_stopped_19 : decode cX3_stopped 19 = .ok (.bipush (-5), 2) := by decide +kernel
theorem dX3_stopped_21 : decode cX3_stopped 21 = .ok (.ireturn, 1) := by decide +kernel
theorem dX3_stopped_22 : decode cX3_stopped 22 = .ok (.iload_n 1, 1) := by decide +kernel
theorem dX3_stopped_23 : decode cX3_stopped 23 = .ok (.ifCond .ne 10, 3) := by decide +kernel
theorem dX3_stopped_26 : decode cX3_stopped 26 = .ok (.aload_n 0, 1) := by decide +kernel
theorem dX3_stopped_27 : decode cX3_stopped 27 = .ok (.getfield 44, 3) := by decide +kernel
theorem dX3_stopped_30 : decode cX3_stopped 30 = .ok (.goto 7, 3) := by decide +kernel
theorem dX3_stopped_33 : decode cX3_stopped 33 = .ok (.aload_n 0, 1) := by decide +kernel
theorem dX3_stopped_34 : decode cX3_stopped 34 = .ok (.getfield 47, 3) := by decide +kernel
theorem dX3_stopped_37 : decode cX3_stopped 37 = .ok (.ireturn, 1) := by decide +kernel
theorem dX3_undo_0 : decode cX3_undo 0 = .ok (.aload_n 0, 1) := by decide +kernel
theorem dX3_undo_1 : decode cX3_undo 1 = .ok (.getfield 36, 3) := by decide +kernel
theorem dX3_undo_4 : decode cX3_undo 4 = .ok (.ifCond .le 11, 3) := by decide +kernel
theorem dX3_undo_7 : decode cX3_undo 7 = .ok (.aload_n 0, 1) := by decide +kernel
theorem dX3_undo_8 : decode cX3_undo 8 = .ok (.getfield 36, 3) := by decide +kernel
theorem dX3_undo_11 : decode cX3_undo 11 = .ok (.iconst 4, 1) := by decide +kernel
theorem dX3_undo_12 : decode cX3_undo 12 = .ok (.if_icmp .le 6, 3) := by decide +kernel
theorem dX3_undo_15 : decode cX3_undo 15 = .ok (.bipush (-5), 2) := by decide +kernel
theorem dX3_undo_17 : decode cX3_undo 17 = .ok (.ireturn, 1) := by decide +kernel
theorem dX3_undo_18 : decode cX3_undo 18 = .ok (.aload_n 0, 1) := by decide +kernel
theorem dX3_undo_19 : decode cX3_undo 19 = .ok (.dup, 1) := by decide +kernel
theorem dX3_undo_20 : decode cX3_undo 20 = .ok (.getfield 36, 3) := by decide +kernel
theorem dX3_undo_23 : decode cX3_undo 23 = .ok (.iconst 1, 1) := by decide +kernel
theorem dX3_undo_24 : decode cX3_undo 24 = .ok (.isub, 1) := by decide +kernel
theorem dX3_undo_25 : decode cX3_undo 25 = .ok (.putfield 36, 3) := by decide +kernel
theorem dX3_undo_28 : decode cX3_undo 28 = .ok (.aload_n 0, 1) := by decide +kernel
theorem dX3_undo_29 : decode cX3_undo 29 = .ok (.getfield 10, 3) := by decide +kernel
theorem dX3_undo_32 : decode cX3_undo 32 = .ok (.aload_n 0, 1) := by decide +kernel
theorem dX3_undo_33 : decode cX3_undo 33 = .ok (.getfield 25, 3) := by decide +kernel
theorem dX3_undo_36 : decode cX3_undo 36 = .ok (.aload_n 0, 1) := by decide +kernel
theorem dX3_undo_37 : decode cX3_undo 37 = .ok (.getfield 36, 3) := by decide +kernel
theorem dX3_undo_40 : decode cX3_undo 40 = .ok (.aaload, 1) := by decide +kernel
theorem dX3_undo_41 : decode cX3_undo 41 = .ok (.invokevirtual 50, 3) := by decide +kernel
theorem dX3_undo_44 : decode cX3_undo 44 = .ok (.aload_n 0, 1) := by decide +kernel
theorem dX3_undo_45 : decode cX3_undo 45 = .ok (.getfield 36, 3) := by decide +kernel
theorem dX3_undo_48 : decode cX3_undo 48 = .ok (.ireturn, 1) := by decide +kernel
theorem dX3_keep_0 : decode cX3_keep 0 = .ok (.aload_n 0, 1) := by decide +kernel
theorem dX3_keep_1 : decode cX3_keep 1 = .ok (.getfield 22, 3) := by decide +kernel
theorem dX3_keep_4 : decode cX3_keep 4 = .ok (.aload_n 0, 1) := by decide +kernel
theorem dX3_keep_5 : decode cX3_keep 5 = .ok (.getfield 10, 3) := by decide +kernel
theorem dX3_keep_8 : decode cX3_keep 8 = .ok (.invokevirtual 50, 3) := by decide +kernel
theorem dX3_keep_11 : decode cX3_keep 11 = .ok (.aload_n 0, 1) := by decide +kernel
theorem dX3_keep_12 : decode cX3_keep 12 = .ok (.iconst 1, 1) := by decide +kernel
theorem dX3_keep_13 : decode cX3_keep 13 = .ok (.putfield 40, 3) := by decide +kernel
theorem dX3_keep_16 : decode cX3_keep 16 = .ok (.aload_n 0, 1) := by decide +kernel
theorem dX3_keep_17 : decode cX3_keep 17 = .ok (.getfield 10, 3) := by decide +kernel
theorem dX3_keep_20 : decode cX3_keep 20 = .ok (.getfield 96, 3) := by decide +kernel
theorem dX3_keep_23 : decode cX3_keep 23 = .ok (.ireturn, 1) := by decide +kernel
theorem dX3_restore_0 : decode cX3_restore 0 = .ok (.aload_n 0, 1) := by decide +kernel
theorem dX3_restore_1 : decode cX3_restore 1 = .ok (.getfield 40, 3) := by decide +kernel
theorem dX3_restore_4 : decode cX3_restore 4 = .ok (.ifCond .ne 6, 3) := by decide +kernel
theorem dX3_restore_7 : decode cX3_restore 7 = .ok (.bipush (-5), 2) := by decide +kernel
theorem dX3_restore_9 : decode cX3_restore 9 = .ok (.ireturn, 1) := by decide +kernel
theorem dX3_restore_10 : decode cX3_restore 10 = .ok (.aload_n 0, 1) := by decide +kernel
theorem dX3_restore_11 : decode cX3_restore 11 = .ok (.getfield 16, 3) := by decide +kernel
theorem dX3_restore_14 : decode cX3_restore 14 = .ok (.aload_n 0, 1) := by decide +kernel
theorem dX3_restore_15 : decode cX3_restore 15 = .ok (.getfield 10, 3) := by decide +kernel
theorem dX3_restore_18 : decode cX3_restore 18 = .ok (.invokevirtual 50, 3) := by decide +kernel
theorem dX3_restore_21 : decode cX3_restore 21 = .ok (.aload_n 0, 1) := by decide +kernel
theorem dX3_restore_22 : decode cX3_restore 22 = .ok (.getfield 10, 3) := by decide +kernel
theorem dX3_restore_25 : decode cX3_restore 25 = .ok (.aload_n 0, 1) := by decide +kernel
theorem dX3_restore_26 : decode cX3_restore 26 = .ok (.getfield 22, 3) := by decide +kernel
theorem dX3_restore_29 : decode cX3_restore 29 = .ok (.invokevirtual 50, 3) := by decide +kernel
theorem dX3_restore_32 : decode cX3_restore 32 = .ok (.aload_n 0, 1) := by decide +kernel
theorem dX3_restore_33 : decode cX3_restore 33 = .ok (.aload_n 0, 1) := by decide +kernel
theorem dX3_restore_34 : decode cX3_restore 34 = .ok (.getfield 10, 3) := by decide +kernel
theorem dX3_restore_37 : decode cX3_restore 37 = .ok (.getfield 96, 3) := by decide +kernel
theorem dX3_restore_40 : decode cX3_restore 40 = .ok (.invokevirtual 58, 3) := by decide +kernel
theorem dX3_restore_43 : decode cX3_restore 43 = .ok (.ireturn, 1) := by decide +kernel
theorem dX3_shape_0 : decode cX3_shape 0 = .ok (.aload_n 0, 1) := by decide +kernel
theorem dX3_shape_1 : decode cX3_shape 1 = .ok (.getfield 10, 3) := by decide +kernel
theorem dX3_shape_4 : decode cX3_shape 4 = .ok (.iload_n 1, 1) := by decide +kernel
theorem dX3_shape_5 : decode cX3_shape 5 = .ok (.iload_n 2, 1) := by decide +kernel
theorem dX3_shape_6 : decode cX3_shape 6 = .ok (.invokevirtual 99, 3) := by decide +kernel
theorem dX3_shape_9 : decode cX3_shape 9 = .ok (.ireturn, 1) := by decide +kernel
theorem dX3_heat_0 : decode cX3_heat 0 = .ok (.aload_n 0, 1) := by decide +kernel
theorem dX3_heat_1 : decode cX3_heat 1 = .ok (.getfield 10, 3) := by decide +kernel
theorem dX3_heat_4 : decode cX3_heat 4 = .ok (.iload_n 1, 1) := by decide +kernel
theorem dX3_heat_5 : decode cX3_heat 5 = .ok (.invokevirtual 102, 3) := by decide +kernel
theorem dX3_heat_8 : decode cX3_heat 8 = .ok (.ireturn, 1) := by decide +kernel
theorem dX3_reason_0 : decode cX3_reason 0 = .ok (.aload_n 0, 1) := by decide +kernel
theorem dX3_reason_1 : decode cX3_reason 1 = .ok (.getfield 10, 3) := by decide +kernel
theorem dX3_reason_4 : decode cX3_reason 4 = .ok (.iload_n 1, 1) := by decide +kernel
theorem dX3_reason_5 : decode cX3_reason 5 = .ok (.invokevirtual 105, 3) := by decide +kernel
theorem dX3_reason_8 : decode cX3_reason 8 = .ok (.ifCond .eq 14, 3) := by decide +kernel
theorem dX3_reason_11 : decode cX3_reason 11 = .ok (.aload_n 0, 1) := by decide +kernel
theorem dX3_reason_12 : decode cX3_reason 12 = .ok (.getfield 10, 3) := by decide +kernel
theorem dX3_reason_15 : decode cX3_reason 15 = .ok (.iload_n 1, 1) := by decide +kernel
theorem dX3_reason_16 : decode cX3_reason 16 = .ok (.invokevirtual 109, 3) := by decide +kernel
theorem dX3_reason_19 : decode cX3_reason 19 = .ok (.goto 4, 3) := by decide +kernel
theorem dX3_reason_22 : decode cX3_reason 22 = .ok (.iconst (-1), 1) := by decide +kernel
theorem dX3_reason_23 : decode cX3_reason 23 = .ok (.ireturn, 1) := by decide +kernel
theorem dX3_takes_0 : decode cX3_takes 0 = .ok (.aload_n 0, 1) := by decide +kernel
theorem dX3_takes_1 : decode cX3_takes 1 = .ok (.getfield 10, 3) := by decide +kernel
theorem dX3_takes_4 : decode cX3_takes 4 = .ok (.iload_n 1, 1) := by decide +kernel
theorem dX3_takes_5 : decode cX3_takes 5 = .ok (.invokevirtual 112, 3) := by decide +kernel
theorem dX3_takes_8 : decode cX3_takes 8 = .ok (.ireturn, 1) := by decide +kernel
theorem dX3_coolsIn_0 : decode cX3_coolsIn 0 = .ok (.aload_n 0, 1) := by decide +kernel
theorem dX3_coolsIn_1 : decode cX3_coolsIn 1 = .ok (.getfield 10, 3) := by decide +kernel
theorem dX3_coolsIn_4 : decode cX3_coolsIn 4 = .ok (.iload_n 1, 1) := by decide +kernel
theorem dX3_coolsIn_5 : decode cX3_coolsIn 5 = .ok (.invokevirtual 115, 3) := by decide +kernel
theorem dX3_coolsIn_8 : decode cX3_coolsIn 8 = .ok (.ireturn, 1) := by decide +kernel
theorem dX3_best_0 : decode cX3_best 0 = .ok (.aload_n 0, 1) := by decide +kernel
theorem dX3_best_1 : decode cX3_best 1 = .ok (.getfield 10, 3) := by decide +kernel
theorem dX3_best_4 : decode cX3_best 4 = .ok (.invokevirtual 118, 3) := by decide +kernel
theorem dX3_best_7 : decode cX3_best 7 = .ok (.ireturn, 1) := by decide +kernel
theorem dX3_ordered_0 : decode cX3_ordered 0 = .ok (.iload_n 1, 1) := by decide +kernel
theorem dX3_ordered_1 : decode cX3_ordered 1 = .ok (.ifCond .ge 6, 3) := by decide +kernel
theorem dX3_ordered_4 : decode cX3_ordered 4 = .ok (.bipush (-2), 2) := by decide +kernel
theorem dX3_ordered_6 : decode cX3_ordered 6 = .ok (.ireturn, 1) := by decide +kernel
theorem dX3_ordered_7 : decode cX3_ordered 7 = .ok (.iload_n 1, 1) := by decide +kernel
theorem dX3_ordered_8 : decode cX3_ordered 8 = .ok (.bipush 12, 2) := by decide +kernel
theorem dX3_ordered_10 : decode cX3_ordered 10 = .ok (.if_icmp .lt 6, 3) := by decide +kernel
theorem dX3_ordered_13 : decode cX3_ordered 13 = .ok (.bipush (-5), 2) := by decide +kernel
theorem dX3_ordered_15 : decode cX3_ordered 15 = .ok (.ireturn, 1) := by decide +kernel
theorem dX3_ordered_16 : decode cX3_ordered 16 = .ok (.aload_n 0, 1) := by decide +kernel
theorem dX3_ordered_17 : decode cX3_ordered 17 = .ok (.getfield 19, 3) := by decide +kernel
theorem dX3_ordered_20 : decode cX3_ordered 20 = .ok (.aload_n 0, 1) := by decide +kernel
theorem dX3_ordered_21 : decode cX3_ordered 21 = .ok (.getfield 10, 3) := by decide +kernel
theorem dX3_ordered_24 : decode cX3_ordered 24 = .ok (.invokevirtual 50, 3) := by decide +kernel
theorem dX3_ordered_27 : decode cX3_ordered 27 = .ok (.bipush (-5), 2) := by decide +kernel
theorem dX3_ordered_29 : decode cX3_ordered 29 = .ok (.istore_n 2, 1) := by decide +kernel
theorem dX3_ordered_30 : decode cX3_ordered 30 = .ok (.iconst 0, 1) := by decide +kernel
theorem dX3_ordered_31 : decode cX3_ordered 31 = .ok (.istore_n 3, 1) := by decide +kernel
theorem dX3_ordered_32 : decode cX3_ordered 32 = .ok (.iload_n 3, 1) := by decide +kernel
theorem dX3_ordered_33 : decode cX3_ordered 33 = .ok (.iload_n 1, 1) := by decide +kernel
theorem dX3_ordered_34 : decode cX3_ordered 34 = .ok (.if_icmp .gt 26, 3) := by decide +kernel
theorem dX3_ordered_37 : decode cX3_ordered 37 = .ok (.aload_n 0, 1) := by decide +kernel
theorem dX3_ordered_38 : decode cX3_ordered 38 = .ok (.getfield 19, 3) := by decide +kernel
theorem dX3_ordered_41 : decode cX3_ordered 41 = .ok (.invokevirtual 121, 3) := by decide +kernel
theorem dX3_ordered_44 : decode cX3_ordered 44 = .ok (.istore_n 2, 1) := by decide +kernel
theorem dX3_ordered_45 : decode cX3_ordered 45 = .ok (.iload_n 2, 1) := by decide +kernel
theorem dX3_ordered_46 : decode cX3_ordered 46 = .ok (.bipush (-5), 2) := by decide +kernel
theorem dX3_ordered_48 : decode cX3_ordered 48 = .ok (.if_icmp .ne 6, 3) := by decide +kernel
theorem dX3_ordered_51 : decode cX3_ordered 51 = .ok (.bipush (-5), 2) := by decide +kernel
theorem dX3_ordered_53 : decode cX3_ordered 53 = .ok (.ireturn, 1) := by decide +kernel
theorem dX3_ordered_54 : decode cX3_ordered 54 = .ok (.iinc 3 1, 3) := by decide +kernel
theorem dX3_ordered_57 : decode cX3_ordered 57 = .ok (.goto (-25), 3) := by decide +kernel
theorem dX3_ordered_60 : decode cX3_ordered 60 = .ok (.iload_n 2, 1) := by decide +kernel
theorem dX3_ordered_61 : decode cX3_ordered 61 = .ok (.ireturn, 1) := by decide +kernel
theorem dX3_allTakes_0 : decode cX3_allTakes 0 = .ok (.aload_n 0, 1) := by decide +kernel
theorem dX3_allTakes_1 : decode cX3_allTakes 1 = .ok (.getfield 19, 3) := by decide +kernel
theorem dX3_allTakes_4 : decode cX3_allTakes 4 = .ok (.aload_n 0, 1) := by decide +kernel
theorem dX3_allTakes_5 : decode cX3_allTakes 5 = .ok (.getfield 10, 3) := by decide +kernel
theorem dX3_allTakes_8 : decode cX3_allTakes 8 = .ok (.invokevirtual 50, 3) := by decide +kernel
theorem dX3_allTakes_11 : decode cX3_allTakes 11 = .ok (.iconst 0, 1) := by decide +kernel
theorem dX3_allTakes_12 : decode cX3_allTakes 12 = .ok (.istore_n 1, 1) := by decide +kernel
theorem dX3_allTakes_13 : decode cX3_allTakes 13 = .ok (.iload_n 1, 1) := by decide +kernel
theorem dX3_allTakes_14 : decode cX3_allTakes 14 = .ok (.bipush 12, 2) := by decide +kernel
theorem dX3_allTakes_16 : decode cX3_allTakes 16 = .ok (.if_icmp .ge 24, 3) := by decide +kernel
theorem dX3_allTakes_19 : decode cX3_allTakes 19 = .ok (.aload_n 0, 1) := by decide +kernel
theorem dX3_allTakes_20 : decode cX3_allTakes 20 = .ok (.getfield 19, 3) := by decide +kernel
theorem dX3_allTakes_23 : decode cX3_allTakes 23 = .ok (.invokevirtual 121, 3) := by decide +kernel
theorem dX3_allTakes_26 : decode cX3_allTakes 26 = .ok (.bipush (-5), 2) := by decide +kernel
theorem dX3_allTakes_28 : decode cX3_allTakes 28 = .ok (.if_icmp .ne 6, 3) := by decide +kernel
theorem dX3_allTakes_31 : decode cX3_allTakes 31 = .ok (.goto 9, 3) := by decide +kernel
theorem dX3_allTakes_34 : decode cX3_allTakes 34 = .ok (.iinc 1 1, 3) := by decide +kernel
theorem dX3_allTakes_37 : decode cX3_allTakes 37 = .ok (.goto (-24), 3) := by decide +kernel
theorem dX3_allTakes_40 : decode cX3_allTakes 40 = .ok (.aload_n 0, 1) := by decide +kernel
theorem dX3_allTakes_41 : decode cX3_allTakes 41 = .ok (.getfield 19, 3) := by decide +kernel
theorem dX3_allTakes_44 : decode cX3_allTakes 44 = .ok (.iconst 0, 1) := by decide +kernel
theorem dX3_allTakes_45 : decode cX3_allTakes 45 = .ok (.invokevirtual 126, 3) := by decide +kernel
theorem dX3_allTakes_48 : decode cX3_allTakes 48 = .ok (.ifCond .ne 21, 3) := by decide +kernel
theorem dX3_allTakes_51 : decode cX3_allTakes 51 = .ok (.aload_n 0, 1) := by decide +kernel
theorem dX3_allTakes_52 : decode cX3_allTakes 52 = .ok (.getfield 19, 3) := by decide +kernel
theorem dX3_allTakes_55 : decode cX3_allTakes 55 = .ok (.getfield 129, 3) := by decide +kernel
theorem dX3_allTakes_58 : decode cX3_allTakes 58 = .ok (.aload_n 0, 1) := by decide +kernel
theorem dX3_allTakes_59 : decode cX3_allTakes 59 = .ok (.getfield 10, 3) := by decide +kernel
theorem dX3_allTakes_62 : decode cX3_allTakes 62 = .ok (.getfield 129, 3) := by decide +kernel
theorem dX3_allTakes_65 : decode cX3_allTakes 65 = .ok (.isub, 1) := by decide +kernel
theorem dX3_allTakes_66 : decode cX3_allTakes 66 = .ok (.goto 5, 3) := by decide +kernel
theorem dX3_allTakes_69 : decode cX3_allTakes 69 = .ok (.bipush (-5), 2) := by decide +kernel
theorem dX3_allTakes_71 : decode cX3_allTakes 71 = .ok (.ireturn, 1) := by decide +kernel
theorem dX3_count_0 : decode cX3_count 0 = .ok (.iload_n 1, 1) := by decide +kernel
theorem dX3_count_1 : decode cX3_count 1 = .ok (.bipush 17, 2) := by decide +kernel
theorem dX3_count_3 : decode cX3_count 3 = .ok (.if_icmp .ne 8, 3) := by decide +kernel
theorem dX3_count_6 : decode cX3_count 6 = .ok (.aload_n 0, 1) := by decide +kernel
theorem dX3_count_7 : decode cX3_count 7 = .ok (.getfield 36, 3) := by decide +kernel
theorem dX3_count_10 : decode cX3_count 10 = .ok (.ireturn, 1) := by decide +kernel
theorem dX3_count_11 : decode cX3_count 11 = .ok (.iload_n 1, 1) := by decide +kernel
theorem dX3_count_12 : decode cX3_count 12 = .ok (.bipush 18, 2) := by decide +kernel
theorem dX3_count_14 : decode cX3_count 14 = .ok (.if_icmp .ne 11, 3) := by decide +kernel
theorem dX3_count_17 : decode cX3_count 17 = .ok (.aload_n 0, 1) := by decide +kernel
theorem dX3_count_18 : decode cX3_count 18 = .ok (.getfield 32, 3) := by decide +kernel
theorem dX3_count_21 : decode cX3_count 21 = .ok (.getfield 132, 3) := by decide +kernel
theorem dX3_count_24 : decode cX3_count 24 = .ok (.ireturn, 1) := by decide +kernel
theorem dX3_count_25 : decode cX3_count 25 = .ok (.aload_n 0, 1) := by decide +kernel
theorem dX3_count_26 : decode cX3_count 26 = .ok (.getfield 10, 3) := by decide +kernel
theorem dX3_count_29 : decode cX3_count 29 = .ok (.iload_n 1, 1) := by decide +kernel
theorem dX3_count_30 : decode cX3_count 30 = .ok (.invokevirtual 135, 3) := by decide +kernel
theorem dX3_count_33 : decode cX3_count 33 = .ok (.ireturn, 1) := by decide +kernel
theorem dX3_recorded_0 : decode cX3_recorded 0 = .ok (.iload_n 1, 1) := by decide +kernel
theorem dX3_recorded_1 : decode cX3_recorded 1 = .ok (.ifCond .lt 41, 3) := by decide +kernel
theorem dX3_recorded_4 : decode cX3_recorded 4 = .ok (.aload_n 0, 1) := by decide +kernel
theorem dX3_recorded_5 : decode cX3_recorded 5 = .ok (.getfield 36, 3) := by decide +kernel
theorem dX3_recorded_8 : decode cX3_recorded 8 = .ok (.iconst 4, 1) := by decide +kernel
theorem dX3_recorded_9 : decode cX3_recorded 9 = .ok (.if_icmp .lt 7, 3) := by decide +kernel
theorem dX3_recorded_12 : decode cX3_recorded 12 = .ok (.aload_n 0, 1) := by decide +kernel
theorem dX3_recorded_13 : decode cX3_recorded 13 = .ok (.invokevirtual 138, 3) := by decide +kernel
theorem dX3_recorded_16 : decode cX3_recorded 16 = .ok (.aload_n 0, 1) := by decide +kernel
theorem dX3_recorded_17 : decode cX3_recorded 17 = .ok (.getfield 25, 3) := by decide +kernel
theorem dX3_recorded_20 : decode cX3_recorded 20 = .ok (.aload_n 0, 1) := by decide +kernel
theorem dX3_recorded_21 : decode cX3_recorded 21 = .ok (.getfield 36, 3) := by decide +kernel
theorem dX3_recorded_24 : decode cX3_recorded 24 = .ok (.aaload, 1) := by decide +kernel
theorem dX3_recorded_25 : decode cX3_recorded 25 = .ok (.aload_n 0, 1) := by decide +kernel
theorem dX3_recorded_26 : decode cX3_recorded 26 = .ok (.getfield 16, 3) := by decide +kernel
theorem dX3_recorded_29 : decode cX3_recorded 29 = .ok (.invokevirtual 50, 3) := by decide +kernel
theorem dX3_recorded_32 : decode cX3_recorded 32 = .ok (.aload_n 0, 1) := by decide +kernel
theorem dX3_recorded_33 : decode cX3_recorded 33 = .ok (.dup, 1) := by decide +kernel
theorem dX3_recorded_34 : decode cX3_recorded 34 = .ok (.getfield 36, 3) := by decide +kernel
theorem dX3_recorded_37 : decode cX3_recorded 37 = .ok (.iconst 1, 1) := by decide +kernel
theorem dX3_recorded_38 : decode cX3_recorded 38 = .ok (.iadd, 1) := by decide +kernel
theorem dX3_recorded_39 : decode cX3_recorded 39 = .ok (.putfield 36, 3) := by decide +kernel
theorem dX3_recorded_42 : decode cX3_recorded 42 = .ok (.iload_n 1, 1) := by decide +kernel
theorem dX3_recorded_43 : decode cX3_recorded 43 = .ok (.ireturn, 1) := by decide +kernel
theorem dX3_dropOldestState_0 : decode cX3_dropOldestState 0 = .ok (.aload_n 0, 1) := by decide +kernel
theorem dX3_dropOldestState_1 : decode cX3_dropOldestState 1 = .ok (.getfield 25, 3) := by decide +kernel
theorem dX3_dropOldestState_4 : decode cX3_dropOldestState 4 = .ok (.iconst 0, 1) := by decide +kernel
theorem dX3_dropOldestState_5 : decode cX3_dropOldestState 5 = .ok (.aaload, 1) := by decide +kernel
theorem dX3_dropOldestState_6 : decode cX3_dropOldestState 6 = .ok (.astore_n 1, 1) := by decide +kernel
theorem dX3_dropOldestState_7 : decode cX3_dropOldestState 7 = .ok (.iconst 1, 1) := by decide +kernel
theorem dX3_dropOldestState_8 : decode cX3_dropOldestState 8 = .ok (.istore_n 2, 1) := by decide +kernel
theorem dX3_dropOldestState_9 : decode cX3_dropOldestState 9 = .ok (.iload_n 2, 1) := by decide +kernel
theorem dX3_dropOldestState_10 : decode cX3_dropOldestState 10 = .ok (.iconst 4, 1) := by decide +kernel
theorem dX3_dropOldestState_11 : decode cX3_dropOldestState 11 = .ok (.if_icmp .ge 23, 3) := by decide +kernel
theorem dX3_dropOldestState_14 : decode cX3_dropOldestState 14 = .ok (.aload_n 0, 1) := by decide +kernel
theorem dX3_dropOldestState_15 : decode cX3_dropOldestState 15 = .ok (.getfield 25, 3) := by decide +kernel
theorem dX3_dropOldestState_18 : decode cX3_dropOldestState 18 = .ok (.iload_n 2, 1) := by decide +kernel
theorem dX3_dropOldestState_19 : decode cX3_dropOldestState 19 = .ok (.iconst 1, 1) := by decide +kernel
theorem dX3_dropOldestState_20 : decode cX3_dropOldestState 20 = .ok (.isub, 1) := by decide +kernel
theorem dX3_dropOldestState_21 : decode cX3_dropOldestState 21 = .ok (.aload_n 0, 1) := by decide +kernel
theorem dX3_dropOldestState_22 : decode cX3_dropOldestState 22 = .ok (.getfield 25, 3) := by decide +kernel
theorem dX3_dropOldestState_25 : decode cX3_dropOldestState 25 = .ok (.iload_n 2, 1) := by decide +kernel
theorem dX3_dropOldestState_26 : decode cX3_dropOldestState 26 = .ok (.aaload, 1) := by decide +kernel
theorem dX3_dropOldestState_27 : decode cX3_dropOldestState 27 = .ok (.aastore, 1) := by decide +kernel
theorem dX3_dropOldestState_28 : decode cX3_dropOldestState 28 = .ok (.iinc 2 1, 3) := by decide +kernel
theorem dX3_dropOldestState_31 : decode cX3_dropOldestState 31 = .ok (.goto (-22), 3) := by decide +kernel
theorem dX3_dropOldestState_34 : decode cX3_dropOldestState 34 = .ok (.aload_n 0, 1) := by decide +kernel
theorem dX3_dropOldestState_35 : decode cX3_dropOldestState 35 = .ok (.getfield 25, 3) := by decide +kernel
theorem dX3_dropOldestState_38 : decode cX3_dropOldestState 38 = .ok (.iconst 3, 1) := by decide +kernel
theorem dX3_dropOldestState_39 : decode cX3_dropOldestState 39 = .ok (.aload_n 1, 1) := by decide +kernel
theorem dX3_dropOldestState_40 : decode cX3_dropOldestState 40 = .ok (.aastore, 1) := by decide +kernel
theorem dX3_dropOldestState_41 : decode cX3_dropOldestState 41 = .ok (.aload_n 0, 1) := by decide +kernel
theorem dX3_dropOldestState_42 : decode cX3_dropOldestState 42 = .ok (.iconst 3, 1) := by decide +kernel
theorem dX3_dropOldestState_43 : decode cX3_dropOldestState 43 = .ok (.putfield 36, 3) := by decide +kernel
theorem dX3_dropOldestState_46 : decode cX3_dropOldestState 46 = .ok (.return_, 1) := by decide +kernel
theorem dX3_isIn_0 : decode cX3_isIn 0 = .ok (.iload_n 0, 1) := by decide +kernel
theorem dX3_isIn_1 : decode cX3_isIn 1 = .ok (.iload_n 1, 1) := by decide +kernel
theorem dX3_isIn_2 : decode cX3_isIn 2 = .ok (.if_icmp .lt 12, 3) := by decide +kernel
theorem dX3_isIn_5 : decode cX3_isIn 5 = .ok (.iload_n 0, 1) := by decide +kernel
theorem dX3_isIn_6 : decode cX3_isIn 6 = .ok (.iload_n 2, 1) := by decide +kernel
theorem dX3_isIn_7 : decode cX3_isIn 7 = .ok (.if_icmp .gt 7, 3) := by decide +kernel
theorem dX3_isIn_10 : decode cX3_isIn 10 = .ok (.iconst 1, 1) := by decide +kernel
theorem dX3_isIn_11 : decode cX3_isIn 11 = .ok (.goto 4, 3) := by decide +kernel
theorem dX3_isIn_14 : decode cX3_isIn 14 = .ok (.iconst 0, 1) := by decide +kernel
theorem dX3_isIn_15 : decode cX3_isIn 15 = .ok (.ireturn, 1) := by decide +kernel
theorem dX4_init_0 : decode cX4_init 0 = .ok (.aload_n 0, 1) := by decide +kernel
theorem dX4_init_1 : decode cX4_init 1 = .ok (.invokespecial 1, 3) := by decide +kernel
theorem dX4_init_4 : decode cX4_init 4 = .ok (.aload_n 0, 1) := by decide +kernel
theorem dX4_init_5 : decode cX4_init 5 = .ok (.bipush 119, 2) := by decide +kernel
theorem dX4_init_7 : decode cX4_init 7 = .ok (.newarray .int, 2) := by decide +kernel
theorem dX4_init_9 : decode cX4_init 9 = .ok (.putfield 7, 3) := by decide +kernel
theorem dX4_init_12 : decode cX4_init 12 = .ok (.aload_n 0, 1) := by decide +kernel
theorem dX4_init_13 : decode cX4_init 13 = .ok (.bipush 119, 2) := by decide +kernel
theorem dX4_init_15 : decode cX4_init 15 = .ok (.newarray .int, 2) := by decide +kernel
theorem dX4_init_17 : decode cX4_init 17 = .ok (.putfield 13, 3) := by decide +kernel
theorem dX4_init_20 : decode cX4_init 20 = .ok (.aload_n 0, 1) := by decide +kernel
theorem dX4_init_21 : decode cX4_init 21 = .ok (.bipush 119, 2) := by decide +kernel
theorem dX4_init_23 : decode cX4_init 23 = .ok (.newarray .int, 2) := by decide +kernel
theorem dX4_init_25 : decode cX4_init 25 = .ok (.putfield 16, 3) := by decide +kernel
theorem dX4_init_28 : decode cX4_init 28 = .ok (.aload_n 0, 1) := by decide +kernel
theorem dX4_init_29 : decode cX4_init 29 = .ok (.bipush 119, 2) := by decide +kernel
theorem dX4_init_31 : decode cX4_init 31 = .ok (.newarray .int, 2) := by decide +kernel
theorem dX4_init_33 : decode cX4_init 33 = .ok (.putfield 19, 3) := by decide +kernel
theorem dX4_init_36 : decode cX4_init 36 = .ok (.aload_n 0, 1) := by decide +kernel
theorem dX4_init_37 : decode cX4_init 37 = .ok (.sipush 476, 3) := by decide +kernel
theorem dX4_init_40 : decode cX4_init 40 = .ok (.newarray .int, 2) := by decide +kernel
theorem dX4_init_42 : decode cX4_init 42 = .ok (.putfield 22, 3) := by decide +kernel
theorem dX4_init_45 : decode cX4_init 45 = .ok (.aload_n 0, 1) := by decide +kernel
theorem dX4_init_46 : decode cX4_init 46 = .ok (.bipush 60, 2) := by decide +kernel
theorem dX4_init_48 : decode cX4_init 48 = .ok (.newarray .int, 2) := by decide +kernel
theorem dX4_init_50 : decode cX4_init 50 = .ok (.putfield 25, 3) := by decide +kernel
theorem dX4_init_53 : decode cX4_init 53 = .ok (.aload_n 0, 1) := by decide +kernel
theorem dX4_init_54 : decode cX4_init 54 = .ok (.bipush (-5), 2) := by decide +kernel
theorem dX4_init_56 : decode cX4_init 56 = .ok (.putfield 28, 3) := by decide +kernel
theorem dX4_init_59 : decode cX4_init 59 = .ok (.aload_n 0, 1) := by decide +kernel
theorem dX4_init_60 : decode cX4_init 60 = .ok (.bipush (-5), 2) := by decide +kernel
theorem dX4_init_62 : decode cX4_init 62 = .ok (.putfield 32, 3) := by decide +kernel
theorem dX4_init_65 : decode cX4_init 65 = .ok (.aload_n 0, 1) := by decide +kernel
theorem dX4_init_66 : decode cX4_init 66 = .ok (.bipush 12, 2) := by decide +kernel
theorem dX4_init_68 : decode cX4_init 68 = .ok (.newarray .int, 2) := by decide +kernel
theorem dX4_init_70 : decode cX4_init 70 = .ok (.putfield 35, 3) := by decide +kernel
theorem dX4_init_73 : decode cX4_init 73 = .ok (.aload_n 0, 1) := by decide +kernel
theorem dX4_init_74 : decode cX4_init 74 = .ok (.getfield 7, 3) := by decide +kernel
theorem dX4_init_77 : decode cX4_init 77 = .ok (.bipush 7, 2) := by decide +kernel
theorem dX4_init_79 : decode cX4_init 79 = .ok (.bipush 20, 2) := by decide +kernel
theorem dX4_init_81 : decode cX4_init 81 = .ok (.iastore, 1) := by decide +kernel
theorem dX4_init_82 : decode cX4_init 82 = .ok (.aload_n 0, 1) := by decide +kernel
theorem dX4_init_83 : decode cX4_init 83 = .ok (.getfield 7, 3) := by decide +kernel
theorem dX4_init_86 : decode cX4_init 86 = .ok (.bipush 8, 2) := by decide +kernel
theorem dX4_init_88 : decode cX4_init 88 = .ok (.iconst 1, 1) := by decide +kernel
theorem dX4_init_89 : decode cX4_init 89 = .ok (.iastore, 1) := by decide +kernel
theorem dX4_init_90 : decode cX4_init 90 = .ok (.aload_n 0, 1) := by decide +kernel
theorem dX4_init_91 : decode cX4_init 91 = .ok (.getfield 7, 3) := by decide +kernel
theorem dX4_init_94 : decode cX4_init 94 = .ok (.bipush 9, 2) := by decide +kernel
theorem dX4_init_96 : decode cX4_init 96 = .ok (.sipush 150, 3) := by decide +kernel
theorem dX4_init_99 : decode cX4_init 99 = .ok (.iastore, 1) := by decide +kernel
theorem dX4_init_100 : decode cX4_init 100 = .ok (.aload_n 0, 1) := by decide +kernel
theorem dX4_init_101 : decode cX4_init 101 = .ok (.getfield 7, 3) := by decide +kernel
theorem dX4_init_104 : decode cX4_init 104 = .ok (.bipush 10, 2) := by decide +kernel
theorem dX4_init_106 : decode cX4_init 106 = .ok (.iconst 1, 1) := by decide +kernel
theorem dX4_init_107 : decode cX4_init 107 = .ok (.iastore, 1) := by decide +kernel
theorem dX4_init_108 : decode cX4_init 108 = .ok (.return_, 1) := by decide +kernel
theorem dX4_in_0 : decode cX4_in 0 = .ok (.iload_n 0, 1) := by decide +kernel
theorem dX4_in_1 : decode cX4_in 1 = .ok (.iload_n 1, 1) := by decide +kernel
theorem dX4_in_2 : decode cX4_in 2 = .ok (.if_icmp .lt 12, 3) := by decide +kernel
theorem dX4_in_5 : decode cX4_in 5 = .ok (.iload_n 0, 1) := by decide +kernel
theorem dX4_in_6 : decode cX4_in 6 = .ok (.iload_n 2, 1) := by decide +kernel
theorem dX4_in_7 : decode cX4_in 7 = .ok (.if_icmp .gt 7, 3) := by decide +kernel
theorem dX4_in_10 : decode cX4_in 10 = .ok (.iconst 1, 1) := by decide +kernel
theorem dX4_in_11 : decode cX4_in 11 = .ok (.goto 4, 3) := by decide +kernel
theorem dX4_in_14 : decode cX4_in 14 = .ok (.iconst 0, 1) := by decide +kernel
theorem dX4_in_15 : decode cX4_in 15 = .ok (.ireturn, 1) := by decide +kernel
theorem dX4_isShape_0 : decode cX4_isShape 0 = .ok (.iload_n 1, 1) := by decide +kernel
theorem dX4_isShape_1 : decode cX4_isShape 1 = .ok (.iconst 0, 1) := by decide +kernel
theorem dX4_isShape_2 : decode cX4_isShape 2 = .ok (.aload_n 0, 1) := by decide +kernel
theorem dX4_isShape_3 : decode cX4_isShape 3 = .ok (.getfield 7, 3) := by decide +kernel
theorem dX4_isShape_6 : decode cX4_isShape 6 = .ok (.iconst 0, 1) := by decide +kernel
theorem dX4_isShape_7 : decode cX4_isShape 7 = .ok (.iaload, 1) := by decide +kernel
theorem dX4_isShape_8 : decode cX4_isShape 8 = .ok (.iconst 1, 1) := by decide +kernel
theorem dX4_isShape_9 : decode cX4_isShape 9 = .ok (.isub, 1) := by decide +kernel
theorem dX4_isShape_10 : decode cX4_isShape 10 = .ok (.invokestatic 38, 3) := by decide +kernel
theorem dX4_isShape_13 : decode cX4_isShape 13 = .ok (.ireturn, 1) := by decide +kernel
theorem dX4_at_0 : decode cX4_at 0 = .ok (.bipush 23, 2) := by decide +kernel
theorem dX4_at_2 : decode cX4_at 2 = .ok (.bipush 8, 2) := by decide +kernel
theorem dX4_at_4 : decode cX4_at 4 = .ok (.iload_n 0, 1) := by decide +kernel
theorem dX4_at_5 : decode cX4_at 5 = .ok (.imul, 1) := by decide +kernel
theorem dX4_at_6 : decode cX4_at 6 = .ok (.iadd, 1) := by decide +kernel
theorem dX4_at_7 : decode cX4_at 7 = .ok (.iload_n 1, 1) := by decide +kernel
theorem dX4_at_8 : decode cX4_at 8 = .ok (.iadd, 1) := by decide +kernel
theorem dX4_at_9 : decode cX4_at 9 = .ok (.ireturn, 1) := by decide +kernel
theorem dX4_of_0 : decode cX4_of 0 = .ok (.aload_n 0, 1) := by decide +kernel
theorem dX4_of_1 : decode cX4_of 1 = .ok (.getfield 7, 3) := by decide +kernel
theorem dX4_of_4 : decode cX4_of 4 = .ok (.iload_n 1, 1) := by decide +kernel
theorem dX4_of_5 : decode cX4_of 5 = .ok (.iload_n 2, 1) := by decide +kernel
theorem dX4_of_6 : decode cX4_of 6 = .ok (.invokestatic 42, 3) := by decide +kernel
theorem dX4_of_9 : decode cX4_of 9 = .ok (.iaload, 1) := by decide +kernel
theorem dX4_of_10 : decode cX4_of 10 = .ok (.ireturn, 1) := by decide +kernel
theorem dX4_isWhole_0 : decode cX4_isWhole 0 = .ok (.aload_n 0, 1) := by decide +kernel
theorem dX4_isWhole_1 : decode cX4_isWhole 1 = .ok (.iload_n 1, 1) := by decide +kernel
theorem dX4_isWhole_2 : decode cX4_isWhole 2 = .ok (.iconst 5, 1) := by decide +kernel
theorem dX4_isWhole_3 : decode cX4_isWhole 3 = .ok (.invokevirtual 46, 3) := by decide +kernel
theorem dX4_isWhole_6 : decode cX4_isWhole 6 = .ok (.ifCond .ne 7, 3) := by decide +kernel
theorem dX4_isWhole_9 : decode cX4_isWhole 9 = .ok (.iconst 1, 1) := by decide +kernel
theorem dX4_isWhole_10 : decode cX4_isWhole 10 = .ok (.goto 4, 3) := by decide +kernel
theorem dX4_isWhole_13 : decode cX4_isWhole 13 = .ok (.iconst 0, 1) := by decide +kernel
theorem dX4_isWhole_14 : decode cX4_isWhole 14 = .ok (.ireturn, 1) := by decide +kernel
theorem dX4_looks_0 : decode cX4_looks 0 = .ok (.iconst 0, 1) := by decide +kernel
theorem dX4_looks_1 : decode cX4_looks 1 = .ok (.istore_n 1, 1) := by decide +kernel
theorem dX4_looks_2 : decode cX4_looks 2 = .ok (.iload_n 1, 1) := by decide +kernel
theorem dX4_looks_3 : decode cX4_looks 3 = .ok (.bipush 119, 2) := by decide +kernel
theorem dX4_looks_5 : decode cX4_looks 5 = .ok (.if_icmp .ge 21, 3) := by decide +kernel
theorem dX4_looks_8 : decode cX4_looks 8 = .ok (.aload_n 0, 1) := by decide +kernel
theorem dX4_looks_9 : decode cX4_looks 9 = .ok (.getfield 16, 3) := by decide +kernel
theorem dX4_looks_12 : decode cX4_looks 12 = .ok (.iload_n 1, 1) := by decide +kernel
theorem dX4_looks_13 : decode cX4_looks 13 = .ok (.aload_n 0, 1) := by decide +kernel
theorem dX4_looks_14 : decode cX4_looks 14 = .ok (.getfield 7, 3) := by decide +kernel
theorem dX4_looks_17 : decode cX4_looks 17 = .ok (.iload_n 1, 1) := by decide +kernel
theorem dX4_looks_18 : decode cX4_looks 18 = .ok (.iaload, 1) := by decide +kernel
theorem dX4_looks_19 : decode cX4_looks 19 = .ok (.iastore, 1) := by decide +kernel
theorem dX4_looks_20 : decode cX4_looks 20 = .ok (.iinc 1 1, 3) := by decide +kernel
theorem dX4_looks_23 : decode cX4_looks 23 = .ok (.goto (-21), 3) := by decide +kernel
theorem dX4_looks_26 : decode cX4_looks 26 = .ok (.return_, 1) := by decide +kernel
theorem dX4_records_0 : decode cX4_records 0 = .ok (.aload_n 0, 1) := by decide +kernel
theorem dX4_records_1 : decode cX4_records 1 = .ok (.getfield 49, 3) := by decide +kernel
theorem dX4_records_4 : decode cX4_records 4 = .ok (.iconst 4, 1) := by decide +kernel
theorem dX4_records_5 : decode cX4_records 5 = .ok (.if_icmp .ne 43, 3) := by decide +kernel
theorem dX4_records_8 : decode cX4_records 8 = .ok (.iconst 0, 1) := by decide +kernel
theorem dX4_records_9 : decode cX4_records 9 = .ok (.istore_n 1, 1) := by decide +kernel
theorem dX4_records_10 : decode cX4_records 10 = .ok (.iload_n 1, 1) := by decide +kernel
theorem dX4_records_11 : decode cX4_records 11 = .ok (.sipush 357, 3) := by decide +kernel
theorem dX4_records_14 : decode cX4_records 14 = .ok (.if_icmp .ge 24, 3) := by decide +kernel
theorem dX4_records_17 : decode cX4_records 17 = .ok (.aload_n 0, 1) := by decide +kernel
theorem dX4_records_18 : decode cX4_records 18 = .ok (.getfield 22, 3) := by decide +kernel
theorem dX4_records_21 : decode cX4_records 21 = .ok (.iload_n 1, 1) := by decide +kernel
theorem dX4_records_22 : decode cX4_records 22 = .ok (.aload_n 0, 1) := by decide +kernel
theorem dX4_records_23 : decode cX4_records 23 = .ok (.getfield 22, 3) := by decide +kernel
theorem dX4_records_26 : decode cX4_records 26 = .ok (.bipush 119, 2) := by decide +kernel
theorem dX4_records_28 : decode cX4_records 28 = .ok (.iload_n 1, 1) := by decide +kernel
theorem dX4_records_29 : decode cX4_records 29 = .ok (.iadd, 1) := by decide +kernel
theorem dX4_records_30 : decode cX4_records 30 = .ok (.iaload, 1) := by decide +kernel
theorem dX4_records_31 : decode cX4_records 31 = .ok (.iastore, 1) := by decide +kernel
theorem dX4_records_32 : decode cX4_records 32 = .ok (.iinc 1 1, 3) := by decide +kernel
theorem dX4_records_35 : decode cX4_records 35 = .ok (.goto (-25), 3) := by decide +kernel
theorem dX4_records_38 : decode cX4_records 38 = .ok (.aload_n 0, 1) := by decide +kernel
theorem dX4_records_39 : decode cX4_records 39 = .ok (.dup, 1) := by decide +kernel
theorem dX4_records_40 : decode cX4_records 40 = .ok (.getfield 49, 3) := by decide +kernel
theorem dX4_records_43 : decode cX4_records 43 = .ok (.iconst 1, 1) := by decide +kernel
theorem dX4_records_44 : decode cX4_records 44 = .ok (.isub, 1) := by decide +kernel
theorem dX4_records_45 : decode cX4_records 45 = .ok (.putfield 49, 3) := by decide +kernel
theorem dX4_records_48 : decode cX4_records 48 = .ok (.iconst 0, 1) := by decide +kernel
theorem dX4_records_49 : decode cX4_records 49 = .ok (.istore_n 1, 1) := by decide +kernel
theorem dX4_records_50 : decode cX4_records 50 = .ok (.iload_n 1, 1) := by decide +kernel
theorem dX4_records_51 : decode cX4_records 51 = .ok (.bipush 119, 2) := by decide +kernel
theorem dX4_records_53 : decode cX4_records 53 = .ok (.if_icmp .ge 29, 3) := by decide +kernel
theorem dX4_records_56 : decode cX4_records 56 = .ok (.aload_n 0, 1) := by decide +kernel
theorem dX4_records_57 : decode cX4_records 57 = .ok (.getfield 22, 3) := by decide +kernel
theorem dX4_records_60 : decode cX4_records 60 = .ok (.bipush 119, 2) := by decide +kernel
theorem dX4_records_62 : decode cX4_records 62 = .ok (.aload_n 0, 1) := by decide +kernel
theorem dX4_records_63 : decode cX4_records 63 = .ok (.getfield 49, 3) := by decide +kernel
theorem dX4_records_66 : decode cX4_records 66 = .ok (.imul, 1) := by decide +kernel
theorem dX4_records_67 : decode cX4_records 67 = .ok (.iload_n 1, 1) := by decide +kernel
theorem dX4_records_68 : decode cX4_records 68 = .ok (.iadd, 1) := by decide +kernel
theorem dX4_records_69 : decode cX4_records 69 = .ok (.aload_n 0, 1) := by decide +kernel
theorem dX4_records_70 : decode cX4_records 70 = .ok (.getfield 16, 3) := by decide +kernel
theorem dX4_records_73 : decode cX4_records 73 = .ok (.iload_n 1, 1) := by decide +kernel
theorem dX4_records_74 : decode cX4_records 74 = .ok (.iaload, 1) := by decide +kernel
theorem dX4_records_75 : decode cX4_records 75 = .ok (.iastore, 1) := by decide +kernel
theorem dX4_records_76 : decode cX4_records 76 = .ok (.iinc 1 1, 3) := by decide +kernel
theorem dX4_records_79 : decode cX4_records 79 = .ok (.goto (-29), 3) := by decide +kernel
theorem dX4_records_82 : decode cX4_records 82 = .ok (.aload_n 0, 1) := by decide +kernel
theorem dX4_records_83 : decode cX4_records 83 = .ok (.dup, 1) := by decide +kernel
theorem dX4_records_84 : decode cX4_records 84 = .ok (.getfield 49, 3) := by decide +kernel
theorem dX4_records_87 : decode cX4_records 87 = .ok (.iconst 1, 1) := by decide +kernel
theorem dX4_records_88 : decode cX4_records 88 = .ok (.iadd, 1) := by decide +kernel
theorem dX4_records_89 : decode cX4_records 89 = .ok (.putfield 49, 3) := by decide +kernel
theorem dX4_records_92 : decode cX4_records 92 = .ok (.return_, 1) := by decide +kernel
theorem dX4_putAside_0 : decode cX4_putAside 0 = .ok (.iconst 0, 1) := by decide +kernel
theorem dX4_putAside_1 : decode cX4_putAside 1 = .ok (.istore_n 1, 1) := by decide +kernel
theorem dX4_putAside_2 : decode cX4_putAside 2 = .ok (.iload_n 1, 1) := by decide +kernel
theorem dX4_putAside_3 : decode cX4_putAside 3 = .ok (.bipush 119, 2) := by decide +kernel
theorem dX4_putAside_5 : decode cX4_putAside 5 = .ok (.if_icmp .ge 21, 3) := by decide +kernel
theorem dX4_putAside_8 : decode cX4_putAside 8 = .ok (.aload_n 0, 1) := by decide +kernel
theorem dX4_putAside_9 : decode cX4_putAside 9 = .ok (.getfield 13, 3) := by decide +kernel
theorem dX4_putAside_12 : decode cX4_putAside 12 = .ok (.iload_n 1, 1) := by decide +kernel
theorem dX4_putAside_13 : decode cX4_putAside 13 = .ok (.aload_n 0, 1) := by decide +kernel
theorem dX4_putAside_14 : decode cX4_putAside 14 = .ok (.getfield 7, 3) := by decide +kernel
theorem dX4_putAside_17 : decode cX4_putAside 17 = .ok (.iload_n 1, 1) := by decide +kernel
theorem dX4_putAside_18 : decode cX4_putAside 18 = .ok (.iaload, 1) := by decide +kernel
theorem dX4_putAside_19 : decode cX4_putAside 19 = .ok (.iastore, 1) := by decide +kernel
theorem dX4_putAside_20 : decode cX4_putAside 20 = .ok (.iinc 1 1, 3) := by decide +kernel
theorem dX4_putAside_23 : decode cX4_putAside 23 = .ok (.goto (-21), 3) := by decide +kernel
theorem dX4_putAside_26 : decode cX4_putAside 26 = .ok (.return_, 1) := by decide +kernel
theorem dX4_putBack_0 : decode cX4_putBack 0 = .ok (.iconst 0, 1) := by decide +kernel
theorem dX4_putBack_1 : decode cX4_putBack 1 = .ok (.istore_n 1, 1) := by decide +kernel
theorem dX4_putBack_2 : decode cX4_putBack 2 = .ok (.iload_n 1, 1) := by decide +kernel
theorem dX4_putBack_3 : decode cX4_putBack 3 = .ok (.bipush 119, 2) := by decide +kernel
theorem dX4_putBack_5 : decode cX4_putBack 5 = .ok (.if_icmp .ge 21, 3) := by decide +kernel
theorem dX4_putBack_8 : decode cX4_putBack 8 = .ok (.aload_n 0, 1) := by decide +kernel
theorem dX4_putBack_9 : decode cX4_putBack 9 = .ok (.getfield 7, 3) := by decide +kernel
theorem dX4_putBack_12 : decode cX4_putBack 12 = .ok (.iload_n 1, 1) := by decide +kernel
theorem dX4_putBack_13 : decode cX4_putBack 13 = .ok (.aload_n 0, 1) := by decide +kernel
theorem dX4_putBack_14 : decode cX4_putBack 14 = .ok (.getfield 13, 3) := by decide +kernel
theorem dX4_putBack_17 : decode cX4_putBack 17 = .ok (.iload_n 1, 1) := by decide +kernel
theorem dX4_putBack_18 : decode cX4_putBack 18 = .ok (.iaload, 1) := by decide +kernel
theorem dX4_putBack_19 : decode cX4_putBack 19 = .ok (.iastore, 1) := by decide +kernel
theorem dX4_putBack_20 : decode cX4_putBack 20 = .ok (.iinc 1 1, 3) := by decide +kernel
theorem dX4_putBack_23 : decode cX4_putBack 23 = .ok (.goto (-21), 3) := by decide +kernel
theorem dX4_putBack_26 : decode cX4_putBack 26 = .ok (.return_, 1) := by decide +kernel
theorem dX4_lastColumn_0 : decode cX4_lastColumn 0 = .ok (.aload_n 0, 1) := by decide +kernel
theorem dX4_lastColumn_1 : decode cX4_lastColumn 1 = .ok (.iload_n 1, 1) := by decide +kernel
theorem dX4_lastColumn_2 : decode cX4_lastColumn 2 = .ok (.iconst 0, 1) := by decide +kernel
theorem dX4_lastColumn_3 : decode cX4_lastColumn 3 = .ok (.invokevirtual 46, 3) := by decide +kernel
theorem dX4_lastColumn_6 : decode cX4_lastColumn 6 = .ok (.aload_n 0, 1) := by decide +kernel
theorem dX4_lastColumn_7 : decode cX4_lastColumn 7 = .ok (.iload_n 1, 1) := by decide +kernel
theorem dX4_lastColumn_8 : decode cX4_lastColumn 8 = .ok (.iconst 2, 1) := by decide +kernel
theorem dX4_lastColumn_9 : decode cX4_lastColumn 9 = .ok (.invokevirtual 46, 3) := by decide +kernel
theorem dX4_lastColumn_12 : decode cX4_lastColumn 12 = .ok (.iadd, 1) := by decide +kernel
theorem dX4_lastColumn_13 : decode cX4_lastColumn 13 = .ok (.iconst 1, 1) := by decide +kernel
theorem dX4_lastColumn_14 : decode cX4_lastColumn 14 = .ok (.isub, 1) := by decide +kernel
theorem dX4_lastColumn_15 : decode cX4_lastColumn 15 = .ok (.ireturn, 1) := by decide +kernel
theorem dX4_lastRow_0 : decode cX4_lastRow 0 = .ok (.aload_n 0, 1) := by decide +kernel
theorem dX4_lastRow_1 : decode cX4_lastRow 1 = .ok (.iload_n 1, 1) := by decide +kernel
theorem dX4_lastRow_2 : decode cX4_lastRow 2 = .ok (.iconst 1, 1) := by decide +kernel
theorem dX4_lastRow_3 : decode cX4_lastRow 3 = .ok (.invokevirtual 46, 3) := by decide +kernel
theorem dX4_lastRow_6 : decode cX4_lastRow 6 = .ok (.aload_n 0, 1) := by decide +kernel
theorem dX4_lastRow_7 : decode cX4_lastRow 7 = .ok (.iload_n 1, 1) := by decide +kernel
theorem dX4_lastRow_8 : decode cX4_lastRow 8 = .ok (.iconst 3, 1) := by decide +kernel
theorem dX4_lastRow_9 : decode cX4_lastRow 9 = .ok (.invokevirtual 46, 3) := by decide +kernel
theorem dX4_lastRow_12 : decode cX4_lastRow 12 = .ok (.iadd, 1) := by decide +kernel
theorem dX4_lastRow_13 : decode cX4_lastRow 13 = .ok (.iconst 1, 1) := by decide +kernel
theorem dX4_lastRow_14 : decode cX4_lastRow 14 = .ok (.isub, 1) := by decide +kernel
theorem dX4_lastRow_15 : decode cX4_lastRow 15 = .ok (.ireturn, 1) := by decide +kernel
theorem dX4_isInside_0 : decode cX4_isInside 0 = .ok (.aload_n 0, 1) := by decide +kernel
theorem dX4_isInside_1 : decode cX4_isInside 1 = .ok (.iload_n 1, 1) := by decide +kernel
theorem dX4_isInside_2 : decode cX4_isInside 2 = .ok (.iconst 0, 1) := by decide +kernel
theorem dX4_isInside_3 : decode cX4_isInside 3 = .ok (.invokevirtual 46, 3) := by decide +kernel
theorem dX4_isInside_6 : decode cX4_isInside 6 = .ok (.aload_n 0, 1) := by decide +kernel
theorem dX4_isInside_7 : decode cX4_isInside 7 = .ok (.iload_n 2, 1) := by decide +kernel
theorem dX4_isInside_8 : decode cX4_isInside 8 = .ok (.iconst 0, 1) := by decide +kernel
theorem dX4_isInside_9 : decode cX4_isInside 9 = .ok (.invokevirtual 46, 3) := by decide +kernel
theorem dX4_isInside_12 : decode cX4_isInside 12 = .ok (.if_icmp .le 20, 3) := by decide +kernel
theorem dX4_isInside_15 : decode cX4_isInside 15 = .ok (.aload_n 0, 1) := by decide +kernel
theorem dX4_isInside_16 : decode cX4_isInside 16 = .ok (.iload_n 1, 1) := by decide +kernel
theorem dX4_isInside_17 : decode cX4_isInside 17 = .ok (.invokevirtual 52, 3) := by decide +kernel
theorem dX4_isInside_20 : decode cX4_isInside 20 = .ok (.aload_n 0, 1) := by decide +kernel
theorem dX4_isInside_21 : decode cX4_isInside 21 = .ok (.iload_n 2, 1) := by decide +kernel
theorem dX4_isInside_22 : decode cX4_isInside 22 = .ok (.invokevirtual 52, 3) := by decide +kernel
theorem dX4_isInside_25 : decode cX4_isInside 25 = .ok (.if_icmp .ge 7, 3) := by decide +kernel
theorem dX4_isInside_28 : decode cX4_isInside 28 = .ok (.iconst 1, 1) := by decide +kernel
theorem dX4_isInside_29 : decode cX4_isInside 29 = .ok (.goto 4, 3) := by decide +kernel
theorem dX4_isInside_32 : decode cX4_isInside 32 = .ok (.iconst 0, 1) := by decide +kernel
theorem dX4_isInside_33 : decode cX4_isInside 33 = .ok (.istore_n 3, 1) := by decide +kernel
theorem dX4_isInside_34 : decode cX4_isInside 34 = .ok (.iload_n 3, 1) := by decide +kernel
theorem dX4_isInside_35 : decode cX4_isInside 35 = .ok (.ifCond .eq 35, 3) := by decide +kernel
theorem dX4_isInside_38 : decode cX4_isInside 38 = .ok (.aload_n 0, 1) := by decide +kernel
theorem dX4_isInside_39 : decode cX4_isInside 39 = .ok (.iload_n 1, 1) := by decide +kernel
theorem dX4_isInside_40 : decode cX4_isInside 40 = .ok (.iconst 1, 1) := by decide +kernel
theorem dX4_isInside_41 : decode cX4_isInside 41 = .ok (.invokevirtual 46, 3) := by decide +kernel
theorem dX4_isInside_44 : decode cX4_isInside 44 = .ok (.aload_n 0, 1) := by decide +kernel
theorem dX4_isInside_45 : decode cX4_isInside 45 = .ok (.iload_n 2, 1) := by decide +kernel
theorem dX4_isInside_46 : decode cX4_isInside 46 = .ok (.iconst 1, 1) := by decide +kernel
theorem dX4_isInside_47 : decode cX4_isInside 47 = .ok (.invokevirtual 46, 3) := by decide +kernel
theorem dX4_isInside_50 : decode cX4_isInside 50 = .ok (.if_icmp .le 20, 3) := by decide +kernel
theorem dX4_isInside_53 : decode cX4_isInside 53 = .ok (.aload_n 0, 1) := by decide +kernel
theorem dX4_isInside_54 : decode cX4_isInside 54 = .ok (.iload_n 1, 1) := by decide +kernel
theorem dX4_isInside_55 : decode cX4_isInside 55 = .ok (.invokevirtual 56, 3) := by decide +kernel
theorem dX4_isInside_58 : decode cX4_isInside 58 = .ok (.aload_n 0, 1) := by decide +kernel
theorem dX4_isInside_59 : decode cX4_isInside 59 = .ok (.iload_n 2, 1) := by decide +kernel
theorem dX4_isInside_60 : decode cX4_isInside 60 = .ok (.invokevirtual 56, 3) := by decide +kernel
theorem dX4_isInside_63 : decode cX4_isInside 63 = .ok (.if_icmp .ge 7, 3) := by decide +kernel
theorem dX4_isInside_66 : decode cX4_isInside 66 = .ok (.iconst 1, 1) := by decide +kernel
theorem dX4_isInside_67 : decode cX4_isInside 67 = .ok (.goto 4, 3) := by decide +kernel
theorem dX4_isInside_70 : decode cX4_isInside 70 = .ok (.iconst 0, 1) := by decide +kernel
theorem dX4_isInside_71 : decode cX4_isInside 71 = .ok (.ireturn, 1) := by decide +kernel
theorem dX4_edge_0 : decode cX4_edge 0 = .ok (.iconst 2, 1) := by decide +kernel
theorem dX4_edge_1 : decode cX4_edge 1 = .ok (.aload_n 0, 1) := by decide +kernel
theorem dX4_edge_2 : decode cX4_edge 2 = .ok (.iload_n 1, 1) := by decide +kernel
theorem dX4_edge_3 : decode cX4_edge 3 = .ok (.iconst 2, 1) := by decide +kernel
theorem dX4_edge_4 : decode cX4_edge 4 = .ok (.invokevirtual 46, 3) := by decide +kernel
theorem dX4_edge_7 : decode cX4_edge 7 = .ok (.aload_n 0, 1) := by decide +kernel
theorem dX4_edge_8 : decode cX4_edge 8 = .ok (.iload_n 1, 1) := by decide +kernel
theorem dX4_edge_9 : decode cX4_edge 9 = .ok (.iconst 3, 1) := by decide +kernel
theorem dX4_edge_10 : decode cX4_edge 10 = .ok (.invokevirtual 46, 3) := by decide +kernel
theorem dX4_edge_13 : decode cX4_edge 13 = .ok (.iadd, 1) := by decide +kernel
theorem dX4_edge_14 : decode cX4_edge 14 = .ok (.imul, 1) := by decide +kernel
theorem dX4_edge_15 : decode cX4_edge 15 = .ok (.iconst 4, 1) := by decide +kernel
theorem dX4_edge_16 : decode cX4_edge 16 = .ok (.isub, 1) := by decide +kernel
theorem dX4_edge_17 : decode cX4_edge 17 = .ok (.ireturn, 1) := by decide +kernel
theorem dX4_isOnEdge_0 : decode cX4_isOnEdge 0 = .ok (.iload_n 2, 1) := by decide +kernel
theorem dX4_isOnEdge_1 : decode cX4_isOnEdge 1 = .ok (.aload_n 0, 1) := by decide +kernel
theorem dX4_isOnEdge_2 : decode cX4_isOnEdge 2 = .ok (.iload_n 1, 1) := by decide +kernel
theorem dX4_isOnEdge_3 : decode cX4_isOnEdge 3 = .ok (.iconst 0, 1) := by decide +kernel
theorem dX4_isOnEdge_4 : decode cX4_isOnEdge 4 = .ok (.invokevirtual 46, 3) := by decide +kernel
theorem dX4_isOnEdge_7 : decode cX4_isOnEdge 7 = .ok (.aload_n 0, 1) := by decide +kernel
theorem dX4_isOnEdge_8 : decode cX4_isOnEdge 8 = .ok (.iload_n 1, 1) := by decide +kernel
theorem dX4_isOnEdge_9 : decode cX4_isOnEdge 9 = .ok (.invokevirtual 52, 3) := by decide +kernel
theorem dX4_isOnEdge_12 : decode cX4_isOnEdge 12 = .ok (.invokestatic 38, 3) := by decide +kernel
theorem dX4_isOnEdge_15 : decode cX4_isOnEdge 15 = .ok (.ifCond .eq 25, 3) := by decide +kernel
theorem dX4_isOnEdge_18 : decode cX4_isOnEdge 18 = .ok (.iload_n 3, 1) := by decide +kernel
theorem dX4_isOnEdge_19 : decode cX4_isOnEdge 19 = .ok (.aload_n 0, 1) := by decide +kernel
theorem dX4_isOnEdge_20 : decode cX4_isOnEdge 20 = .ok (.iload_n 1, 1) := by decide +kernel
theorem dX4_isOnEdge_21 : decode cX4_isOnEdge 21 = .ok (.iconst 1, 1) := by decide +kernel
theorem dX4_isOnEdge_22 : decode cX4_isOnEdge 22 = .ok (.invokevirtual 46, 3) := by decide +kernel
theorem dX4_isOnEdge_25 : decode cX4_isOnEdge 25 = .ok (.aload_n 0, 1) := by decide +kernel
theorem dX4_isOnEdge_26 : decode cX4_isOnEdge 26 = .ok (.iload_n 1, 1) := by decide +kernel
theorem dX4_isOnEdge_27 : decode cX4_isOnEdge 27 = .ok (.invokevirtual 56, 3) := by decide +kernel
theorem dX4_isOnEdge_30 : decode cX4_isOnEdge 30 = .ok (.invokestatic 38, 3) := by decide +kernel
theorem dX4_isOnEdge_33 : decode cX4_isOnEdge 33 = .ok (.ifCond .eq 7, 3) := by decide +kernel
theorem dX4_isOnEdge_36 : decode cX4_isOnEdge 36 = .ok (.iconst 1, 1) := by decide +kernel
theorem dX4_isOnEdge_37 : decode cX4_isOnEdge 37 = .ok (.goto 4, 3) := by decide +kernel
theorem dX4_isOnEdge_40 : decode cX4_isOnEdge 40 = .ok (.iconst 0, 1) := by decide +kernel
theorem dX4_isOnEdge_41 : decode cX4_isOnEdge 41 = .ok (.istore 4, 2) := by decide +kernel
theorem dX4_isOnEdge_43 : decode cX4_isOnEdge 43 = .ok (.iload 4, 2) := by decide +kernel
theorem dX4_isOnEdge_45 : decode cX4_isOnEdge 45 = .ok (.ifCond .eq 45, 3) := by decide +kernel
theorem dX4_isOnEdge_48 : decode cX4_isOnEdge 48 = .ok (.iload_n 2, 1) := by decide +kernel
theorem dX4_isOnEdge_49 : decode cX4_isOnEdge 49 = .ok (.aload_n 0, 1) := by decide +kernel
theorem dX4_isOnEdge_50 : decode cX4_isOnEdge 50 = .ok (.iload_n 1, 1) := by decide +kernel
theorem dX4_isOnEdge_51 : decode cX4_isOnEdge 51 = .ok (.iconst 0, 1) := by decide +kernel
theorem dX4_isOnEdge_52 : decode cX4_isOnEdge 52 = .ok (.invokevirtual 46, 3) := by decide +kernel
theorem dX4_isOnEdge_55 : decode cX4_isOnEdge 55 = .ok (.if_icmp .eq 31, 3) := by decide +kernel
theorem dX4_isOnEdge_58 : decode cX4_isOnEdge 58 = .ok (.iload_n 2, 1) := by decide +kernel
theorem dX4_isOnEdge_59 : decode cX4_isOnEdge 59 = .ok (.aload_n 0, 1) := by decide +kernel
theorem dX4_isOnEdge_60 : decode cX4_isOnEdge 60 = .ok (.iload_n 1, 1) := by decide +kernel
theorem dX4_isOnEdge_61 : decode cX4_isOnEdge 61 = .ok (.invokevirtual 52, 3) := by decide +kernel
theorem dX4_isOnEdge_64 : decode cX4_isOnEdge 64 = .ok (.if_icmp .eq 22, 3) := by decide +kernel
theorem dX4_isOnEdge_67 : decode cX4_isOnEdge 67 = .ok (.iload_n 3, 1) := by decide +kernel
theorem dX4_isOnEdge_68 : decode cX4_isOnEdge 68 = .ok (.aload_n 0, 1) := by decide +kernel
theorem dX4_isOnEdge_69 : decode cX4_isOnEdge 69 = .ok (.iload_n 1, 1) := by decide +kernel
theorem dX4_isOnEdge_70 : decode cX4_isOnEdge 70 = .ok (.iconst 1, 1) := by decide +kernel
theorem dX4_isOnEdge_71 : decode cX4_isOnEdge 71 = .ok (.invokevirtual 46, 3) := by decide +kernel
theorem dX4_isOnEdge_74 : decode cX4_isOnEdge 74 = .ok (.if_icmp .eq 12, 3) := by decide +kernel
theorem dX4_isOnEdge_77 : decode cX4_isOnEdge 77 = .ok (.iload_n 3, 1) := by decide +kernel
theorem dX4_isOnEdge_78 : decode cX4_isOnEdge 78 = .ok (.aload_n 0, 1) := by decide +kernel
theorem dX4_isOnEdge_79 : decode cX4_isOnEdge 79 = .ok (.iload_n 1, 1) := by decide +kernel
theorem dX4_isOnEdge_80 : decode cX4_isOnEdge 80 = .ok (.invokevirtual 56, 3) := by decide +kernel
theorem dX4_isOnEdge_83 : decode cX4_isOnEdge 83 = .ok (.if_icmp .ne 7, 3) := by decide +kernel
theorem dX4_isOnEdge_86 : decode cX4_isOnEdge 86 = .ok (.iconst 1, 1) := by decide +kernel
theorem dX4_isOnEdge_87 : decode cX4_isOnEdge 87 = .ok (.goto 4, 3) := by decide +kernel
theorem dX4_isOnEdge_90 : decode cX4_isOnEdge 90 = .ok (.iconst 0, 1) := by decide +kernel
theorem dX4_isOnEdge_91 : decode cX4_isOnEdge 91 = .ok (.ireturn, 1) := by decide +kernel
theorem dX4_edgeIn_0 : decode cX4_edgeIn 0 = .ok (.iconst 0, 1) := by decide +kernel
theorem dX4_edgeIn_1 : decode cX4_edgeIn 1 = .ok (.istore_n 3, 1) := by decide +kernel
theorem dX4_edgeIn_2 : decode cX4_edgeIn 2 = .ok (.iconst 0, 1) := by decide +kernel
theorem dX4_edgeIn_3 : decode cX4_edgeIn 3 = .ok (.istore 4, 2) := by decide +kernel
theorem dX4_edgeIn_5 : decode cX4_edgeIn 5 = .ok (.iload 4, 2) := by decide +kernel
theorem dX4_edgeIn_7 : decode cX4_edgeIn 7 = .ok (.bipush 64, 2) := by decide +kernel
theorem dX4_edgeIn_9 : decode cX4_edgeIn 9 = .ok (.if_icmp .ge 49, 3) := by decide +kernel
theorem dX4_edgeIn_12 : decode cX4_edgeIn 12 = .ok (.iload_n 3, 1) := by decide +kernel
theorem dX4_edgeIn_13 : decode cX4_edgeIn 13 = .ok (.aload_n 0, 1) := by decide +kernel
theorem dX4_edgeIn_14 : decode cX4_edgeIn 14 = .ok (.iload_n 1, 1) := by decide +kernel
theorem dX4_edgeIn_15 : decode cX4_edgeIn 15 = .ok (.bipush 8, 2) := by decide +kernel
theorem dX4_edgeIn_17 : decode cX4_edgeIn 17 = .ok (.iload_n 2, 1) := by decide +kernel
theorem dX4_edgeIn_18 : decode cX4_edgeIn 18 = .ok (.iconst 4, 1) := by decide +kernel
theorem dX4_edgeIn_19 : decode cX4_edgeIn 19 = .ok (.irem, 1) := by decide +kernel
theorem dX4_edgeIn_20 : decode cX4_edgeIn 20 = .ok (.imul, 1) := by decide +kernel
theorem dX4_edgeIn_21 : decode cX4_edgeIn 21 = .ok (.iload 4, 2) := by decide +kernel
theorem dX4_edgeIn_23 : decode cX4_edgeIn 23 = .ok (.bipush 8, 2) := by decide +kernel
theorem dX4_edgeIn_25 : decode cX4_edgeIn 25 = .ok (.irem, 1) := by decide +kernel
theorem dX4_edgeIn_26 : decode cX4_edgeIn 26 = .ok (.iadd, 1) := by decide +kernel
theorem dX4_edgeIn_27 : decode cX4_edgeIn 27 = .ok (.bipush 8, 2) := by decide +kernel
theorem dX4_edgeIn_29 : decode cX4_edgeIn 29 = .ok (.iload_n 2, 1) := by decide +kernel
theorem dX4_edgeIn_30 : decode cX4_edgeIn 30 = .ok (.iconst 4, 1) := by decide +kernel
theorem dX4_edgeIn_31 : decode cX4_edgeIn 31 = .ok (.idiv, 1) := by decide +kernel
theorem dX4_edgeIn_32 : decode cX4_edgeIn 32 = .ok (.imul, 1) := by decide +kernel
theorem dX4_edgeIn_33 : decode cX4_edgeIn 33 = .ok (.iload 4, 2) := by decide +kernel
theorem dX4_edgeIn_35 : decode cX4_edgeIn 35 = .ok (.bipush 8, 2) := by decide +kernel
theorem dX4_edgeIn_37 : decode cX4_edgeIn 37 = .ok (.idiv, 1) := by decide +kernel
theorem dX4_edgeIn_38 : decode cX4_edgeIn 38 = .ok (.iadd, 1) := by decide +kernel
theorem dX4_edgeIn_39 : decode cX4_edgeIn 39 = .ok (.invokevirtual 59, 3) := by decide +kernel
theorem dX4_edgeIn_42 : decode cX4_edgeIn 42 = .ok (.ifCond .eq 7, 3) := by decide +kernel
theorem dX4_edgeIn_45 : decode cX4_edgeIn 45 = .ok (.iconst 1, 1) := by decide +kernel
theorem dX4_edgeIn_46 : decode cX4_edgeIn 46 = .ok (.goto 4, 3) := by decide +kernel
theorem dX4_edgeIn_49 : decode cX4_edgeIn 49 = .ok (.iconst 0, 1) := by decide +kernel
theorem dX4_edgeIn_50 : decode cX4_edgeIn 50 = .ok (.iadd, 1) := by decide +kernel
theorem dX4_edgeIn_51 : decode cX4_edgeIn 51 = .ok (.istore_n 3, 1) := by decide +kernel
theorem dX4_edgeIn_52 : decode cX4_edgeIn 52 = .ok (.iinc 4 1, 3) := by decide +kernel
theorem dX4_edgeIn_55 : decode cX4_edgeIn 55 = .ok (.goto (-50), 3) := by decide +kernel
theorem dX4_edgeIn_58 : decode cX4_edgeIn 58 = .ok (.iload_n 3, 1) := by decide +kernel
theorem dX4_edgeIn_59 : decode cX4_edgeIn 59 = .ok (.ireturn, 1) := by decide +kernel
theorem dX4_leadColumn_0 : decode cX4_leadColumn 0 = .ok (.aload_n 0, 1) := by decide +kernel
theorem dX4_leadColumn_1 : decode cX4_leadColumn 1 = .ok (.iload_n 1, 1) := by decide +kernel
theorem dX4_leadColumn_2 : decode cX4_leadColumn 2 = .ok (.iconst 4, 1) := by decide +kernel
theorem dX4_leadColumn_3 : decode cX4_leadColumn 3 = .ok (.invokevirtual 46, 3) := by decide +kernel
theorem dX4_leadColumn_6 : decode cX4_leadColumn 6 = .ok (.ifCond .eq 13, 3) := by decide +kernel
theorem dX4_leadColumn_9 : decode cX4_leadColumn 9 = .ok (.aload_n 0, 1) := by decide +kernel
theorem dX4_leadColumn_10 : decode cX4_leadColumn 10 = .ok (.iload_n 1, 1) := by decide +kernel
theorem dX4_leadColumn_11 : decode cX4_leadColumn 11 = .ok (.iconst 4, 1) := by decide +kernel
theorem dX4_leadColumn_12 : decode cX4_leadColumn 12 = .ok (.invokevirtual 46, 3) := by decide +kernel
theorem dX4_leadColumn_15 : decode cX4_leadColumn 15 = .ok (.iconst 3, 1) := by decide +kernel
theorem dX4_leadColumn_16 : decode cX4_leadColumn 16 = .ok (.if_icmp .ne 12, 3) := by decide +kernel
theorem dX4_leadColumn_19 : decode cX4_leadColumn 19 = .ok (.aload_n 0, 1) := by decide +kernel
theorem dX4_leadColumn_20 : decode cX4_leadColumn 20 = .ok (.iload_n 1, 1) := by decide +kernel
theorem dX4_leadColumn_21 : decode cX4_leadColumn 21 = .ok (.iconst 0, 1) := by decide +kernel
theorem dX4_leadColumn_22 : decode cX4_leadColumn 22 = .ok (.invokevirtual 46, 3) := by decide +kernel
theorem dX4_leadColumn_25 : decode cX4_leadColumn 25 = .ok (.goto 8, 3) := by decide +kernel
theorem dX4_leadColumn_28 : decode cX4_leadColumn 28 = .ok (.aload_n 0, 1) := by decide +kernel
theorem dX4_leadColumn_29 : decode cX4_leadColumn 29 = .ok (.iload_n 1, 1) := by decide +kernel
theorem dX4_leadColumn_30 : decode cX4_leadColumn 30 = .ok (.invokevirtual 52, 3) := by decide +kernel
theorem dX4_leadColumn_33 : decode cX4_leadColumn 33 = .ok (.ireturn, 1) := by decide +kernel
theorem dX4_leadRow_0 : decode cX4_leadRow 0 = .ok (.aload_n 0, 1) := by decide +kernel
theorem dX4_leadRow_1 : decode cX4_leadRow 1 = .ok (.iload_n 1, 1) := by decide +kernel
theorem dX4_leadRow_2 : decode cX4_leadRow 2 = .ok (.iconst 4, 1) := by decide +kernel
theorem dX4_leadRow_3 : decode cX4_leadRow 3 = .ok (.invokevirtual 46, 3) := by decide +kernel
theorem dX4_leadRow_6 : decode cX4_leadRow 6 = .ok (.iconst 2, 1) := by decide +kernel
theorem dX4_leadRow_7 : decode cX4_leadRow 7 = .ok (.if_icmp .ge 12, 3) := by decide +kernel
theorem dX4_leadRow_10 : decode cX4_leadRow 10 = .ok (.aload_n 0, 1) := by decide +kernel
theorem dX4_leadRow_11 : decode cX4_leadRow 11 = .ok (.iload_n 1, 1) := by decide +kernel
theorem dX4_leadRow_12 : decode cX4_leadRow 12 = .ok (.iconst 1, 1) := by decide +kernel
theorem dX4_leadRow_13 : decode cX4_leadRow 13 = .ok (.invokevirtual 46, 3) := by decide +kernel
theorem dX4_leadRow_16 : decode cX4_leadRow 16 = .ok (.goto 8, 3) := by decide +kernel
theorem dX4_leadRow_19 : decode cX4_leadRow 19 = .ok (.aload_n 0, 1) := by decide +kernel
theorem dX4_leadRow_20 : decode cX4_leadRow 20 = .ok (.iload_n 1, 1) := by decide +kernel
theorem dX4_leadRow_21 : decode cX4_leadRow 21 = .ok (.invokevirtual 56, 3) := by decide +kernel
theorem dX4_leadRow_24 : decode cX4_leadRow 24 = .ok (.ireturn, 1) := by decide +kernel
theorem dX4_outer_0 : decode cX4_outer 0 = .ok (.bipush (-5), 2) := by decide +kernel
theorem dX4_outer_2 : decode cX4_outer 2 = .ok (.istore_n 2, 1) := by decide +kernel
theorem dX4_outer_3 : decode cX4_outer 3 = .ok (.iconst 0, 1) := by decide +kernel
theorem dX4_outer_4 : decode cX4_outer 4 = .ok (.istore_n 3, 1) := by decide +kernel
theorem dX4_outer_5 : decode cX4_outer 5 = .ok (.iload_n 3, 1) := by decide +kernel
theorem dX4_outer_6 : decode cX4_outer 6 = .ok (.aload_n 0, 1) := by decide +kernel
theorem dX4_outer_7 : decode cX4_outer 7 = .ok (.getfield 7, 3) := by decide +kernel
theorem dX4_outer_10 : decode cX4_outer 10 = .ok (.iconst 0, 1) := by decide +kernel
theorem dX4_outer_11 : decode cX4_outer 11 = .ok (.iaload, 1) := by decide +kernel
theorem dX4_outer_12 : decode cX4_outer 12 = .ok (.if_icmp .ge 39, 3) := by decide +kernel
theorem dX4_outer_15 : decode cX4_outer 15 = .ok (.aload_n 0, 1) := by decide +kernel
theorem dX4_outer_16 : decode cX4_outer 16 = .ok (.iload_n 1, 1) := by decide +kernel
theorem dX4_outer_17 : decode cX4_outer 17 = .ok (.iload_n 3, 1) := by decide +kernel
theorem dX4_outer_18 : decode cX4_outer 18 = .ok (.invokevirtual 62, 3) := by decide +kernel
theorem dX4_outer_21 : decode cX4_outer 21 = .ok (.ifCond .eq 22, 3) := by decide +kernel
theorem dX4_outer_24 : decode cX4_outer 24 = .ok (.iload_n 2, 1) := by decide +kernel
theorem dX4_outer_25 : decode cX4_outer 25 = .ok (.bipush (-5), 2) := by decide +kernel
theorem dX4_outer_27 : decode cX4_outer 27 = .ok (.if_icmp .eq 12, 3) := by decide +kernel
theorem dX4_outer_30 : decode cX4_outer 30 = .ok (.aload_n 0, 1) := by decide +kernel
theorem dX4_outer_31 : decode cX4_outer 31 = .ok (.iload_n 3, 1) := by decide +kernel
theorem dX4_outer_32 : decode cX4_outer 32 = .ok (.iload_n 2, 1) := by decide +kernel
theorem dX4_outer_33 : decode cX4_outer 33 = .ok (.invokevirtual 62, 3) := by decide +kernel
theorem dX4_outer_36 : decode cX4_outer 36 = .ok (.ifCond .eq 7, 3) := by decide +kernel
theorem dX4_outer_39 : decode cX4_outer 39 = .ok (.iload_n 3, 1) := by decide +kernel
theorem dX4_outer_40 : decode cX4_outer 40 = .ok (.goto 4, 3) := by decide +kernel
theorem dX4_outer_43 : decode cX4_outer 43 = .ok (.iload_n 2, 1) := by decide +kernel
theorem dX4_outer_44 : decode cX4_outer 44 = .ok (.istore_n 2, 1) := by decide +kernel
theorem dX4_outer_45 : decode cX4_outer 45 = .ok (.iinc 3 1, 3) := by decide +kernel
theorem dX4_outer_48 : decode cX4_outer 48 = .ok (.goto (-43), 3) := by decide +kernel
theorem dX4_outer_51 : decode cX4_outer 51 = .ok (.iload_n 2, 1) := by decide +kernel
theorem dX4_outer_52 : decode cX4_outer 52 = .ok (.ireturn, 1) := by decide +kernel
theorem dX4_inner_0 : decode cX4_inner 0 = .ok (.iconst 0, 1) := by decide +kernel
theorem dX4_inner_1 : decode cX4_inner 1 = .ok (.istore_n 2, 1) := by decide +kernel
theorem dX4_inner_2 : decode cX4_inner 2 = .ok (.iconst 0, 1) := by decide +kernel
theorem dX4_inner_3 : decode cX4_inner 3 = .ok (.istore_n 3, 1) := by decide +kernel
theorem dX4_inner_4 : decode cX4_inner 4 = .ok (.iload_n 3, 1) := by decide +kernel
theorem dX4_inner_5 : decode cX4_inner 5 = .ok (.aload_n 0, 1) := by decide +kernel
theorem dX4_inner_6 : decode cX4_inner 6 = .ok (.getfield 7, 3) := by decide +kernel
theorem dX4_inner_9 : decode cX4_inner 9 = .ok (.iconst 0, 1) := by decide +kernel
theorem dX4_inner_10 : decode cX4_inner 10 = .ok (.iaload, 1) := by decide +kernel
theorem dX4_inner_11 : decode cX4_inner 11 = .ok (.if_icmp .ge 28, 3) := by decide +kernel
theorem dX4_inner_14 : decode cX4_inner 14 = .ok (.iload_n 2, 1) := by decide +kernel
theorem dX4_inner_15 : decode cX4_inner 15 = .ok (.aload_n 0, 1) := by decide +kernel
theorem dX4_inner_16 : decode cX4_inner 16 = .ok (.iload_n 3, 1) := by decide +kernel
theorem dX4_inner_17 : decode cX4_inner 17 = .ok (.iload_n 1, 1) := by decide +kernel
theorem dX4_inner_18 : decode cX4_inner 18 = .ok (.invokevirtual 62, 3) := by decide +kernel
theorem dX4_inner_21 : decode cX4_inner 21 = .ok (.ifCond .eq 9, 3) := by decide +kernel
theorem dX4_inner_24 : decode cX4_inner 24 = .ok (.iconst 1, 1) := by decide +kernel
theorem dX4_inner_25 : decode cX4_inner 25 = .ok (.iload_n 3, 1) := by decide +kernel
theorem dX4_inner_26 : decode cX4_inner 26 = .ok (.ishl, 1) := by decide +kernel
theorem dX4_inner_27 : decode cX4_inner 27 = .ok (.goto 4, 3) := by decide +kernel
theorem dX4_inner_30 : decode cX4_inner 30 = .ok (.iconst 0, 1) := by decide +kernel
theorem dX4_inner_31 : decode cX4_inner 31 = .ok (.ior, 1) := by decide +kernel
theorem dX4_inner_32 : decode cX4_inner 32 = .ok (.istore_n 2, 1) := by decide +kernel
theorem dX4_inner_33 : decode cX4_inner 33 = .ok (.iinc 3 1, 3) := by decide +kernel
theorem dX4_inner_36 : decode cX4_inner 36 = .ok (.goto (-32), 3) := by decide +kernel
theorem dX4_inner_39 : decode cX4_inner 39 = .ok (.iload_n 2, 1) := by decide +kernel
theorem dX4_inner_40 : decode cX4_inner 40 = .ok (.ireturn, 1) := by decide +kernel
theorem dX4_hasWholeInside_0 : decode cX4_hasWholeInside 0 = .ok (.iconst 0, 1) := by decide +kernel
theorem dX4_hasWholeInside_1 : decode cX4_hasWholeInside 1 = .ok (.istore_n 2, 1) := by decide +kernel
theorem dX4_hasWholeInside_2 : decode cX4_hasWholeInside 2 = .ok (.iconst 0, 1) := by decide +kernel
theorem dX4_hasWholeInside_3 : decode cX4_hasWholeInside 3 = .ok (.istore_n 3, 1) := by decide +kernel
theorem dX4_hasWholeInside_4 : decode cX4_hasWholeInside 4 = .ok (.iload_n 3, 1) := by decide +kernel
theorem dX4_hasWholeInside_5 : decode cX4_hasWholeInside 5 = .ok (.aload_n 0, 1) := by decide +kernel
theorem dX4_hasWholeInside_6 : decode cX4_hasWholeInside 6 = .ok (.getfield 7, 3) := by decide +kernel
theorem dX4_hasWholeInside_9 : decode cX4_hasWholeInside 9 = .ok (.iconst 0, 1) := by decide +kernel
theorem dX4_hasWholeInside_10 : decode cX4_hasWholeInside 10 = .ok (.iaload, 1) := by decide +kernel
theorem dX4_hasWholeInside_11 : decode cX4_hasWholeInside 11 = .ok (.if_icmp .ge 36, 3) := by decide +kernel
theorem dX4_hasWholeInside_14 : decode cX4_hasWholeInside 14 = .ok (.iload_n 2, 1) := by decide +kernel
theorem dX4_hasWholeInside_15 : decode cX4_hasWholeInside 15 = .ok (.ifCond .ne 20, 3) := by decide +kernel
theorem dX4_hasWholeInside_18 : decode cX4_hasWholeInside 18 = .ok (.aload_n 0, 1) := by decide +kernel
theorem dX4_hasWholeInside_19 : decode cX4_hasWholeInside 19 = .ok (.iload_n 3, 1) := by decide +kernel
theorem dX4_hasWholeInside_20 : decode cX4_hasWholeInside 20 = .ok (.iload_n 1, 1) := by decide +kernel
theorem dX4_hasWholeInside_21 : decode cX4_hasWholeInside 21 = .ok (.invokevirtual 62, 3) := by decide +kernel
theorem dX4_hasWholeInside_24 : decode cX4_hasWholeInside 24 = .ok (.ifCond .eq 15, 3) := by decide +kernel
theorem dX4_hasWholeInside_27 : decode cX4_hasWholeInside 27 = .ok (.aload_n 0, 1) := by decide +kernel
theorem dX4_hasWholeInside_28 : decode cX4_hasWholeInside 28 = .ok (.iload_n 3, 1) := by decide +kernel
theorem dX4_hasWholeInside_29 : decode cX4_hasWholeInside 29 = .ok (.invokevirtual 66, 3) := by decide +kernel
theorem dX4_hasWholeInside_32 : decode cX4_hasWholeInside 32 = .ok (.ifCond .eq 7, 3) := by decide +kernel
theorem dX4_hasWholeInside_35 : decode cX4_hasWholeInside 35 = .ok (.iconst 1, 1) := by decide +kernel
theorem dX4_hasWholeInside_36 : decode cX4_hasWholeInside 36 = .ok (.goto 4, 3) := by decide +kernel
theorem dX4_hasWholeInside_39 : decode cX4_hasWholeInside 39 = .ok (.iconst 0, 1) := by decide +kernel
theorem dX4_hasWholeInside_40 : decode cX4_hasWholeInside 40 = .ok (.istore_n 2, 1) := by decide +kernel
theorem dX4_hasWholeInside_41 : decode cX4_hasWholeInside 41 = .ok (.iinc 3 1, 3) := by decide +kernel
theorem dX4_hasWholeInside_44 : decode cX4_hasWholeInside 44 = .ok (.goto (-40), 3) := by decide +kernel
theorem dX4_hasWholeInside_47 : decode cX4_hasWholeInside 47 = .ok (.iload_n 2, 1) := by decide +kernel
theorem dX4_hasWholeInside_48 : decode cX4_hasWholeInside 48 = .ok (.ireturn, 1) := by decide +kernel
theorem dX4_off_0 : decode cX4_off 0 = .ok (.iload_n 0, 1) := by decide +kernel
theorem dX4_off_1 : decode cX4_off 1 = .ok (.iload_n 1, 1) := by decide +kernel
theorem dX4_off_2 : decode cX4_off 2 = .ok (.if_icmp .le 9, 3) := by decide +kernel
theorem dX4_off_5 : decode cX4_off 5 = .ok (.iload_n 0, 1) := by decide +kernel
theorem dX4_off_6 : decode cX4_off 6 = .ok (.iload_n 1, 1) := by decide +kernel
theorem dX4_off_7 : decode cX4_off 7 = .ok (.isub, 1) := by decide +kernel
theorem dX4_off_8 : decode cX4_off 8 = .ok (.goto 6, 3) := by decide +kernel
theorem dX4_off_11 : decode cX4_off 11 = .ok (.iload_n 1, 1) := by decide +kernel
theorem dX4_off_12 : decode cX4_off 12 = .ok (.iload_n 0, 1) := by decide +kernel
theorem dX4_off_13 : decode cX4_off 13 = .ok (.isub, 1) := by decide +kernel
theorem dX4_off_14 : decode cX4_off 14 = .ok (.ireturn, 1) := by decide +kernel
theorem dX4_going_0 : decode cX4_going 0 = .ok (.aload_n 0, 1) := by decide +kernel
theorem dX4_going_1 : decode cX4_going 1 = .ok (.iload_n 1, 1) := by decide +kernel
theorem dX4_going_2 : decode cX4_going 2 = .ok (.invokevirtual 70, 3) := by decide +kernel
theorem dX4_going_5 : decode cX4_going 5 = .ok (.aload_n 0, 1) := by decide +kernel
theorem dX4_going_6 : decode cX4_going 6 = .ok (.getfield 7, 3) := by decide +kernel
theorem dX4_going_9 : decode cX4_going 9 = .ok (.iconst 1, 1) := by decide +kernel
theorem dX4_going_10 : decode cX4_going 10 = .ok (.iaload, 1) := by decide +kernel
theorem dX4_going_11 : decode cX4_going 11 = .ok (.invokestatic 73, 3) := by decide +kernel
theorem dX4_going_14 : decode cX4_going 14 = .ok (.aload_n 0, 1) := by decide +kernel
theorem dX4_going_15 : decode cX4_going 15 = .ok (.iload_n 1, 1) := by decide +kernel
theorem dX4_going_16 : decode cX4_going 16 = .ok (.invokevirtual 76, 3) := by decide +kernel
theorem dX4_going_19 : decode cX4_going 19 = .ok (.aload_n 0, 1) := by decide +kernel
theorem dX4_going_20 : decode cX4_going 20 = .ok (.getfield 7, 3) := by decide +kernel
theorem dX4_going_23 : decode cX4_going 23 = .ok (.iconst 2, 1) := by decide +kernel
theorem dX4_going_24 : decode cX4_going 24 = .ok (.iaload, 1) := by decide +kernel
theorem dX4_going_25 : decode cX4_going 25 = .ok (.invokestatic 73, 3) := by decide +kernel
theorem dX4_going_28 : decode cX4_going 28 = .ok (.iadd, 1) := by decide +kernel
theorem dX4_going_29 : decode cX4_going 29 = .ok (.ireturn, 1) := by decide +kernel
theorem dX4_burning_0 : decode cX4_burning 0 = .ok (.iconst 2, 1) := by decide +kernel
theorem dX4_burning_1 : decode cX4_burning 1 = .ok (.aload_n 0, 1) := by decide +kernel
theorem dX4_burning_2 : decode cX4_burning 2 = .ok (.getfield 7, 3) := by decide +kernel
theorem dX4_burning_5 : decode cX4_burning 5 = .ok (.iconst 3, 1) := by decide +kernel
theorem dX4_burning_6 : decode cX4_burning 6 = .ok (.iaload, 1) := by decide +kernel
theorem dX4_burning_7 : decode cX4_burning 7 = .ok (.iconst 4, 1) := by decide +kernel
theorem dX4_burning_8 : decode cX4_burning 8 = .ok (.idiv, 1) := by decide +kernel
theorem dX4_burning_9 : decode cX4_burning 9 = .ok (.iadd, 1) := by decide +kernel
theorem dX4_burning_10 : decode cX4_burning 10 = .ok (.aload_n 0, 1) := by decide +kernel
theorem dX4_burning_11 : decode cX4_burning 11 = .ok (.iload_n 1, 1) := by decide +kernel
theorem dX4_burning_12 : decode cX4_burning 12 = .ok (.invokevirtual 79, 3) := by decide +kernel
theorem dX4_burning_15 : decode cX4_burning 15 = .ok (.imul, 1) := by decide +kernel
theorem dX4_burning_16 : decode cX4_burning 16 = .ok (.ireturn, 1) := by decide +kernel
theorem dX4_cooled_0 : decode cX4_cooled 0 = .ok (.iload_n 0, 1) := by decide +kernel
theorem dX4_cooled_1 : decode cX4_cooled 1 = .ok (.iload_n 1, 1) := by decide +kernel
theorem dX4_cooled_2 : decode cX4_cooled 2 = .ok (.if_icmp .le 9, 3) := by decide +kernel
theorem dX4_cooled_5 : decode cX4_cooled 5 = .ok (.iload_n 0, 1) := by decide +kernel
theorem dX4_cooled_6 : decode cX4_cooled 6 = .ok (.iload_n 1, 1) := by decide +kernel
theorem dX4_cooled_7 : decode cX4_cooled 7 = .ok (.isub, 1) := by decide +kernel
theorem dX4_cooled_8 : decode cX4_cooled 8 = .ok (.goto 4, 3) := by decide +kernel
theorem dX4_cooled_11 : decode cX4_cooled 11 = .ok (.iconst 0, 1) := by decide +kernel
theorem dX4_cooled_12 : decode cX4_cooled 12 = .ok (.ireturn, 1) := by decide +kernel
theorem dX4_cools_0 : decode cX4_cools 0 = .ok (.aload_n 0, 1) := by decide +kernel
theorem dX4_cools_1 : decode cX4_cools 1 = .ok (.getfield 7, 3) := by decide +kernel
theorem dX4_cools_4 : decode cX4_cools 4 = .ok (.iconst 4, 1) := by decide +kernel
theorem dX4_cools_5 : decode cX4_cools 5 = .ok (.dup2, 1) := by decide +kernel
theorem dX4_cools_6 : decode cX4_cools 6 = .ok (.iaload, 1) := by decide +kernel
theorem dX4_cools_7 : decode cX4_cools 7 = .ok (.iload_n 1, 1) := by decide +kernel
theorem dX4_cools_8 : decode cX4_cools 8 = .ok (.iadd, 1) := by decide +kernel
theorem dX4_cools_9 : decode cX4_cools 9 = .ok (.iastore, 1) := by decide +kernel
theorem dX4_cools_10 : decode cX4_cools 10 = .ok (.iconst 0, 1) := by decide +kernel
theorem dX4_cools_11 : decode cX4_cools 11 = .ok (.istore_n 2, 1) := by decide +kernel
theorem dX4_cools_12 : decode cX4_cools 12 = .ok (.iload_n 2, 1) := by decide +kernel
theorem dX4_cools_13 : decode cX4_cools 13 = .ok (.bipush 12, 2) := by decide +kernel
theorem dX4_cools_15 : decode cX4_cools 15 = .ok (.if_icmp .ge 39, 3) := by decide +kernel
theorem dX4_cools_18 : decode cX4_cools 18 = .ok (.aload_n 0, 1) := by decide +kernel
theorem dX4_cools_19 : decode cX4_cools 19 = .ok (.getfield 7, 3) := by decide +kernel
theorem dX4_cools_22 : decode cX4_cools 22 = .ok (.bipush 11, 2) := by decide +kernel
theorem dX4_cools_24 : decode cX4_cools 24 = .ok (.iload_n 2, 1) := by decide +kernel
theorem dX4_cools_25 : decode cX4_cools 25 = .ok (.iadd, 1) := by decide +kernel
theorem dX4_cools_26 : decode cX4_cools 26 = .ok (.aload_n 0, 1) := by decide +kernel
theorem dX4_cools_27 : decode cX4_cools 27 = .ok (.getfield 7, 3) := by decide +kernel
theorem dX4_cools_30 : decode cX4_cools 30 = .ok (.bipush 11, 2) := by decide +kernel
theorem dX4_cools_32 : decode cX4_cools 32 = .ok (.iload_n 2, 1) := by decide +kernel
theorem dX4_cools_33 : decode cX4_cools 33 = .ok (.iadd, 1) := by decide +kernel
theorem dX4_cools_34 : decode cX4_cools 34 = .ok (.iaload, 1) := by decide +kernel
theorem dX4_cools_35 : decode cX4_cools 35 = .ok (.iload_n 1, 1) := by decide +kernel
theorem dX4_cools_36 : decode cX4_cools 36 = .ok (.aload_n 0, 1) := by decide +kernel
theorem dX4_cools_37 : decode cX4_cools 37 = .ok (.getfield 7, 3) := by decide +kernel
theorem dX4_cools_40 : decode cX4_cools 40 = .ok (.bipush 8, 2) := by decide +kernel
theorem dX4_cools_42 : decode cX4_cools 42 = .ok (.iaload, 1) := by decide +kernel
theorem dX4_cools_43 : decode cX4_cools 43 = .ok (.imul, 1) := by decide +kernel
theorem dX4_cools_44 : decode cX4_cools 44 = .ok (.invokestatic 82, 3) := by decide +kernel
theorem dX4_cools_47 : decode cX4_cools 47 = .ok (.iastore, 1) := by decide +kernel
theorem dX4_cools_48 : decode cX4_cools 48 = .ok (.iinc 2 1, 3) := by decide +kernel
theorem dX4_cools_51 : decode cX4_cools 51 = .ok (.goto (-39), 3) := by decide +kernel
theorem dX4_cools_54 : decode cX4_cools 54 = .ok (.return_, 1) := by decide +kernel
theorem dX4_hottest_0 : decode cX4_hottest 0 = .ok (.iconst 0, 1) := by decide +kernel
theorem dX4_hottest_1 : decode cX4_hottest 1 = .ok (.istore_n 1, 1) := by decide +kernel
theorem dX4_hottest_2 : decode cX4_hottest 2 = .ok (.iconst 0, 1) := by decide +kernel
theorem dX4_hottest_3 : decode cX4_hottest 3 = .ok (.istore_n 2, 1) := by decide +kernel
theorem dX4_hottest_4 : decode cX4_hottest 4 = .ok (.iload_n 2, 1) := by decide +kernel
theorem dX4_hottest_5 : decode cX4_hottest 5 = .ok (.bipush 12, 2) := by decide +kernel
theorem dX4_hottest_7 : decode cX4_hottest 7 = .ok (.if_icmp .ge 36, 3) := by decide +kernel
theorem dX4_hottest_10 : decode cX4_hottest 10 = .ok (.aload_n 0, 1) := by decide +kernel
theorem dX4_hottest_11 : decode cX4_hottest 11 = .ok (.getfield 7, 3) := by decide +kernel
theorem dX4_hottest_14 : decode cX4_hottest 14 = .ok (.bipush 11, 2) := by decide +kernel
theorem dX4_hottest_16 : decode cX4_hottest 16 = .ok (.iload_n 2, 1) := by decide +kernel
theorem dX4_hottest_17 : decode cX4_hottest 17 = .ok (.iadd, 1) := by decide +kernel
theorem dX4_hottest_18 : decode cX4_hottest 18 = .ok (.iaload, 1) := by decide +kernel
theorem dX4_hottest_19 : decode cX4_hottest 19 = .ok (.iload_n 1, 1) := by decide +kernel
theorem dX4_hottest_20 : decode cX4_hottest 20 = .ok (.if_icmp .le 15, 3) := by decide +kernel
theorem dX4_hottest_23 : decode cX4_hottest 23 = .ok (.aload_n 0, 1) := by decide +kernel
theorem dX4_hottest_24 : decode cX4_hottest 24 = .ok (.getfield 7, 3) := by decide +kernel
theorem dX4_hottest_27 : decode cX4_hottest 27 = .ok (.bipush 11, 2) := by decide +kernel
theorem dX4_hottest_29 : decode cX4_hottest 29 = .ok (.iload_n 2, 1) := by decide +kernel
theorem dX4_hottest_30 : decode cX4_hottest 30 = .ok (.iadd, 1) := by decide +kernel
theorem dX4_hottest_31 : decode cX4_hottest 31 = .ok (.iaload, 1) := by decide +kernel
theorem dX4_hottest_32 : decode cX4_hottest 32 = .ok (.goto 4, 3) := by decide +kernel
theorem dX4_hottest_35 : decode cX4_hottest 35 = .ok (.iload_n 1, 1) := by decide +kernel
theorem dX4_hottest_36 : decode cX4_hottest 36 = .ok (.istore_n 1, 1) := by decide +kernel
theorem dX4_hottest_37 : decode cX4_hottest 37 = .ok (.iinc 2 1, 3) := by decide +kernel
theorem dX4_hottest_40 : decode cX4_hottest 40 = .ok (.goto (-36), 3) := by decide +kernel
theorem dX4_hottest_43 : decode cX4_hottest 43 = .ok (.iload_n 1, 1) := by decide +kernel
theorem dX4_hottest_44 : decode cX4_hottest 44 = .ok (.ireturn, 1) := by decide +kernel
theorem dX4_isTooHot_0 : decode cX4_isTooHot 0 = .ok (.iconst 0, 1) := by decide +kernel
theorem dX4_isTooHot_1 : decode cX4_isTooHot 1 = .ok (.istore_n 3, 1) := by decide +kernel
theorem dX4_isTooHot_2 : decode cX4_isTooHot 2 = .ok (.iconst 0, 1) := by decide +kernel
theorem dX4_isTooHot_3 : decode cX4_isTooHot 3 = .ok (.istore 4, 2) := by decide +kernel
theorem dX4_isTooHot_5 : decode cX4_isTooHot 5 = .ok (.iload 4, 2) := by decide +kernel
theorem dX4_isTooHot_7 : decode cX4_isTooHot 7 = .ok (.bipush 12, 2) := by decide +kernel
theorem dX4_isTooHot_9 : decode cX4_isTooHot 9 = .ok (.if_icmp .ge 61, 3) := by decide +kernel
theorem dX4_isTooHot_12 : decode cX4_isTooHot 12 = .ok (.iload_n 3, 1) := by decide +kernel
theorem dX4_isTooHot_13 : decode cX4_isTooHot 13 = .ok (.ifCond .ne 45, 3) := by decide +kernel
theorem dX4_isTooHot_16 : decode cX4_isTooHot 16 = .ok (.aload_n 0, 1) := by decide +kernel
theorem dX4_isTooHot_17 : decode cX4_isTooHot 17 = .ok (.iload_n 1, 1) := by decide +kernel
theorem dX4_isTooHot_18 : decode cX4_isTooHot 18 = .ok (.iload 4, 2) := by decide +kernel
theorem dX4_isTooHot_20 : decode cX4_isTooHot 20 = .ok (.invokevirtual 85, 3) := by decide +kernel
theorem dX4_isTooHot_23 : decode cX4_isTooHot 23 = .ok (.ifCond .le 39, 3) := by decide +kernel
theorem dX4_isTooHot_26 : decode cX4_isTooHot 26 = .ok (.aload_n 0, 1) := by decide +kernel
theorem dX4_isTooHot_27 : decode cX4_isTooHot 27 = .ok (.getfield 7, 3) := by decide +kernel
theorem dX4_isTooHot_30 : decode cX4_isTooHot 30 = .ok (.bipush 11, 2) := by decide +kernel
theorem dX4_isTooHot_32 : decode cX4_isTooHot 32 = .ok (.iload 4, 2) := by decide +kernel
theorem dX4_isTooHot_34 : decode cX4_isTooHot 34 = .ok (.iadd, 1) := by decide +kernel
theorem dX4_isTooHot_35 : decode cX4_isTooHot 35 = .ok (.iaload, 1) := by decide +kernel
theorem dX4_isTooHot_36 : decode cX4_isTooHot 36 = .ok (.iload_n 2, 1) := by decide +kernel
theorem dX4_isTooHot_37 : decode cX4_isTooHot 37 = .ok (.aload_n 0, 1) := by decide +kernel
theorem dX4_isTooHot_38 : decode cX4_isTooHot 38 = .ok (.getfield 7, 3) := by decide +kernel
theorem dX4_isTooHot_41 : decode cX4_isTooHot 41 = .ok (.bipush 8, 2) := by decide +kernel
theorem dX4_isTooHot_43 : decode cX4_isTooHot 43 = .ok (.iaload, 1) := by decide +kernel
theorem dX4_isTooHot_44 : decode cX4_isTooHot 44 = .ok (.imul, 1) := by decide +kernel
theorem dX4_isTooHot_45 : decode cX4_isTooHot 45 = .ok (.invokestatic 82, 3) := by decide +kernel
theorem dX4_isTooHot_48 : decode cX4_isTooHot 48 = .ok (.aload_n 0, 1) := by decide +kernel
theorem dX4_isTooHot_49 : decode cX4_isTooHot 49 = .ok (.getfield 7, 3) := by decide +kernel
theorem dX4_isTooHot_52 : decode cX4_isTooHot 52 = .ok (.bipush 9, 2) := by decide +kernel
theorem dX4_isTooHot_54 : decode cX4_isTooHot 54 = .ok (.iaload, 1) := by decide +kernel
theorem dX4_isTooHot_55 : decode cX4_isTooHot 55 = .ok (.if_icmp .le 7, 3) := by decide +kernel
theorem dX4_isTooHot_58 : decode cX4_isTooHot 58 = .ok (.iconst 1, 1) := by decide +kernel
theorem dX4_isTooHot_59 : decode cX4_isTooHot 59 = .ok (.goto 4, 3) := by decide +kernel
theorem dX4_isTooHot_62 : decode cX4_isTooHot 62 = .ok (.iconst 0, 1) := by decide +kernel
theorem dX4_isTooHot_63 : decode cX4_isTooHot 63 = .ok (.istore_n 3, 1) := by decide +kernel
theorem dX4_isTooHot_64 : decode cX4_isTooHot 64 = .ok (.iinc 4 1, 3) := by decide +kernel
theorem dX4_isTooHot_67 : decode cX4_isTooHot 67 = .ok (.goto (-62), 3) := by decide +kernel
theorem dX4_isTooHot_70 : decode cX4_isTooHot 70 = .ok (.iload_n 3, 1) := by decide +kernel
theorem dX4_isTooHot_71 : decode cX4_isTooHot 71 = .ok (.ireturn, 1) := by decide +kernel
theorem dX4_why_0 : decode cX4_why 0 = .ok (.aload_n 0, 1) := by decide +kernel
theorem dX4_why_1 : decode cX4_why 1 = .ok (.iload_n 1, 1) := by decide +kernel
theorem dX4_why_2 : decode cX4_why 2 = .ok (.invokevirtual 66, 3) := by decide +kernel
theorem dX4_why_5 : decode cX4_why 5 = .ok (.ifCond .ne 10, 3) := by decide +kernel
theorem dX4_why_8 : decode cX4_why 8 = .ok (.aload_n 0, 1) := by decide +kernel
theorem dX4_why_9 : decode cX4_why 9 = .ok (.iload_n 1, 1) := by decide +kernel
theorem dX4_why_10 : decode cX4_why 10 = .ok (.iconst 5, 1) := by decide +kernel
theorem dX4_why_11 : decode cX4_why 11 = .ok (.invokevirtual 46, 3) := by decide +kernel
theorem dX4_why_14 : decode cX4_why 14 = .ok (.ireturn, 1) := by decide +kernel
theorem dX4_why_15 : decode cX4_why 15 = .ok (.aload_n 0, 1) := by decide +kernel
theorem dX4_why_16 : decode cX4_why 16 = .ok (.getfield 7, 3) := by decide +kernel
theorem dX4_why_19 : decode cX4_why 19 = .ok (.bipush 10, 2) := by decide +kernel
theorem dX4_why_21 : decode cX4_why 21 = .ok (.iaload, 1) := by decide +kernel
theorem dX4_why_22 : decode cX4_why 22 = .ok (.iconst 1, 1) := by decide +kernel
theorem dX4_why_23 : decode cX4_why 23 = .ok (.if_icmp .ne 15, 3) := by decide +kernel
theorem dX4_why_26 : decode cX4_why 26 = .ok (.aload_n 0, 1) := by decide +kernel
theorem dX4_why_27 : decode cX4_why 27 = .ok (.iload_n 1, 1) := by decide +kernel
theorem dX4_why_28 : decode cX4_why 28 = .ok (.invokevirtual 88, 3) := by decide +kernel
theorem dX4_why_31 : decode cX4_why 31 = .ok (.ifCond .eq 7, 3) := by decide +kernel
theorem dX4_why_34 : decode cX4_why 34 = .ok (.iconst 3, 1) := by decide +kernel
theorem dX4_why_35 : decode cX4_why 35 = .ok (.goto 21, 3) := by decide +kernel
theorem dX4_why_38 : decode cX4_why 38 = .ok (.aload_n 0, 1) := by decide +kernel
theorem dX4_why_39 : decode cX4_why 39 = .ok (.iload_n 1, 1) := by decide +kernel
theorem dX4_why_40 : decode cX4_why 40 = .ok (.aload_n 0, 1) := by decide +kernel
theorem dX4_why_41 : decode cX4_why 41 = .ok (.iload_n 1, 1) := by decide +kernel
theorem dX4_why_42 : decode cX4_why 42 = .ok (.invokevirtual 91, 3) := by decide +kernel
theorem dX4_why_45 : decode cX4_why 45 = .ok (.invokevirtual 94, 3) := by decide +kernel
theorem dX4_why_48 : decode cX4_why 48 = .ok (.ifCond .eq 7, 3) := by decide +kernel
theorem dX4_why_51 : decode cX4_why 51 = .ok (.iconst 4, 1) := by decide +kernel
theorem dX4_why_52 : decode cX4_why 52 = .ok (.goto 4, 3) := by decide +kernel
theorem dX4_why_55 : decode cX4_why 55 = .ok (.iconst 0, 1) := by decide +kernel
theorem dX4_why_56 : decode cX4_why 56 = .ok (.ireturn, 1) := by decide +kernel
theorem dX4_cuts_0 : decode cX4_cuts 0 = .ok (.aload_n 0, 1) := by decide +kernel
theorem dX4_cuts_1 : decode cX4_cuts 1 = .ok (.iload_n 1, 1) := by decide +kernel
theorem dX4_cuts_2 : decode cX4_cuts 2 = .ok (.invokevirtual 97, 3) := by decide +kernel
theorem dX4_cuts_5 : decode cX4_cuts 5 = .ok (.ifCond .ne 5, 3) := by decide +kernel
theorem dX4_cuts_8 : decode cX4_cuts 8 = .ok (.iconst (-1), 1) := by decide +kernel
theorem dX4_cuts_9 : decode cX4_cuts 9 = .ok (.ireturn, 1) := by decide +kernel
theorem dX4_cuts_10 : decode cX4_cuts 10 = .ok (.aload_n 0, 1) := by decide +kernel
theorem dX4_cuts_11 : decode cX4_cuts 11 = .ok (.iload_n 1, 1) := by decide +kernel
theorem dX4_cuts_12 : decode cX4_cuts 12 = .ok (.invokevirtual 100, 3) := by decide +kernel
theorem dX4_cuts_15 : decode cX4_cuts 15 = .ok (.ifCond .le 12, 3) := by decide +kernel
theorem dX4_cuts_18 : decode cX4_cuts 18 = .ok (.bipush (-10), 2) := by decide +kernel
theorem dX4_cuts_20 : decode cX4_cuts 20 = .ok (.aload_n 0, 1) := by decide +kernel
theorem dX4_cuts_21 : decode cX4_cuts 21 = .ok (.iload_n 1, 1) := by decide +kernel
theorem dX4_cuts_22 : decode cX4_cuts 22 = .ok (.invokevirtual 100, 3) := by decide +kernel
theorem dX4_cuts_25 : decode cX4_cuts 25 = .ok (.isub, 1) := by decide +kernel
theorem dX4_cuts_26 : decode cX4_cuts 26 = .ok (.ireturn, 1) := by decide +kernel
theorem dX4_cuts_27 : decode cX4_cuts 27 = .ok (.aload_n 0, 1) := by decide +kernel
theorem dX4_cuts_28 : decode cX4_cuts 28 = .ok (.aload_n 0, 1) := by decide +kernel
theorem dX4_cuts_29 : decode cX4_cuts 29 = .ok (.iload_n 1, 1) := by decide +kernel
theorem dX4_cuts_30 : decode cX4_cuts 30 = .ok (.invokevirtual 91, 3) := by decide +kernel
theorem dX4_cuts_33 : decode cX4_cuts 33 = .ok (.invokevirtual 103, 3) := by decide +kernel
theorem dX4_cuts_36 : decode cX4_cuts 36 = .ok (.aload_n 0, 1) := by decide +kernel
theorem dX4_cuts_37 : decode cX4_cuts 37 = .ok (.getfield 7, 3) := by decide +kernel
theorem dX4_cuts_40 : decode cX4_cuts 40 = .ok (.iconst 1, 1) := by decide +kernel
theorem dX4_cuts_41 : decode cX4_cuts 41 = .ok (.aload_n 0, 1) := by decide +kernel
theorem dX4_cuts_42 : decode cX4_cuts 42 = .ok (.iload_n 1, 1) := by decide +kernel
theorem dX4_cuts_43 : decode cX4_cuts 43 = .ok (.invokevirtual 70, 3) := by decide +kernel
theorem dX4_cuts_46 : decode cX4_cuts 46 = .ok (.iastore, 1) := by decide +kernel
theorem dX4_cuts_47 : decode cX4_cuts 47 = .ok (.aload_n 0, 1) := by decide +kernel
theorem dX4_cuts_48 : decode cX4_cuts 48 = .ok (.getfield 7, 3) := by decide +kernel
theorem dX4_cuts_51 : decode cX4_cuts 51 = .ok (.iconst 2, 1) := by decide +kernel
theorem dX4_cuts_52 : decode cX4_cuts 52 = .ok (.aload_n 0, 1) := by decide +kernel
theorem dX4_cuts_53 : decode cX4_cuts 53 = .ok (.iload_n 1, 1) := by decide +kernel
theorem dX4_cuts_54 : decode cX4_cuts 54 = .ok (.invokevirtual 76, 3) := by decide +kernel
theorem dX4_cuts_57 : decode cX4_cuts 57 = .ok (.iastore, 1) := by decide +kernel
theorem dX4_cuts_58 : decode cX4_cuts 58 = .ok (.aload_n 0, 1) := by decide +kernel
theorem dX4_cuts_59 : decode cX4_cuts 59 = .ok (.getfield 7, 3) := by decide +kernel
theorem dX4_cuts_62 : decode cX4_cuts 62 = .ok (.iconst 4, 1) := by decide +kernel
theorem dX4_cuts_63 : decode cX4_cuts 63 = .ok (.dup2, 1) := by decide +kernel
theorem dX4_cuts_64 : decode cX4_cuts 64 = .ok (.iaload, 1) := by decide +kernel
theorem dX4_cuts_65 : decode cX4_cuts 65 = .ok (.aload_n 0, 1) := by decide +kernel
theorem dX4_cuts_66 : decode cX4_cuts 66 = .ok (.iload_n 1, 1) := by decide +kernel
theorem dX4_cuts_67 : decode cX4_cuts 67 = .ok (.invokevirtual 107, 3) := by decide +kernel
theorem dX4_cuts_70 : decode cX4_cuts 70 = .ok (.iadd, 1) := by decide +kernel
theorem dX4_cuts_71 : decode cX4_cuts 71 = .ok (.iastore, 1) := by decide +kernel
theorem dX4_cuts_72 : decode cX4_cuts 72 = .ok (.aload_n 0, 1) := by decide +kernel
theorem dX4_cuts_73 : decode cX4_cuts 73 = .ok (.getfield 7, 3) := by decide +kernel
theorem dX4_cuts_76 : decode cX4_cuts 76 = .ok (.iconst 5, 1) := by decide +kernel
theorem dX4_cuts_77 : decode cX4_cuts 77 = .ok (.dup2, 1) := by decide +kernel
theorem dX4_cuts_78 : decode cX4_cuts 78 = .ok (.iaload, 1) := by decide +kernel
theorem dX4_cuts_79 : decode cX4_cuts 79 = .ok (.aload_n 0, 1) := by decide +kernel
theorem dX4_cuts_80 : decode cX4_cuts 80 = .ok (.iload_n 1, 1) := by decide +kernel
theorem dX4_cuts_81 : decode cX4_cuts 81 = .ok (.invokevirtual 107, 3) := by decide +kernel
theorem dX4_cuts_84 : decode cX4_cuts 84 = .ok (.iadd, 1) := by decide +kernel
theorem dX4_cuts_85 : decode cX4_cuts 85 = .ok (.iastore, 1) := by decide +kernel
theorem dX4_cuts_86 : decode cX4_cuts 86 = .ok (.aload_n 0, 1) := by decide +kernel
theorem dX4_cuts_87 : decode cX4_cuts 87 = .ok (.getfield 7, 3) := by decide +kernel
theorem dX4_cuts_90 : decode cX4_cuts 90 = .ok (.iconst 3, 1) := by decide +kernel
theorem dX4_cuts_91 : decode cX4_cuts 91 = .ok (.dup2, 1) := by decide +kernel
theorem dX4_cuts_92 : decode cX4_cuts 92 = .ok (.iaload, 1) := by decide +kernel
theorem dX4_cuts_93 : decode cX4_cuts 93 = .ok (.iconst 1, 1) := by decide +kernel
theorem dX4_cuts_94 : decode cX4_cuts 94 = .ok (.iadd, 1) := by decide +kernel
theorem dX4_cuts_95 : decode cX4_cuts 95 = .ok (.iastore, 1) := by decide +kernel
theorem dX4_cuts_96 : decode cX4_cuts 96 = .ok (.iconst 0, 1) := by decide +kernel
theorem dX4_cuts_97 : decode cX4_cuts 97 = .ok (.istore_n 2, 1) := by decide +kernel
theorem dX4_cuts_98 : decode cX4_cuts 98 = .ok (.iload_n 2, 1) := by decide +kernel
theorem dX4_cuts_99 : decode cX4_cuts 99 = .ok (.bipush 12, 2) := by decide +kernel
theorem dX4_cuts_101 : decode cX4_cuts 101 = .ok (.if_icmp .ge 27, 3) := by decide +kernel
theorem dX4_cuts_104 : decode cX4_cuts 104 = .ok (.aload_n 0, 1) := by decide +kernel
theorem dX4_cuts_105 : decode cX4_cuts 105 = .ok (.getfield 7, 3) := by decide +kernel
theorem dX4_cuts_108 : decode cX4_cuts 108 = .ok (.bipush 11, 2) := by decide +kernel
theorem dX4_cuts_110 : decode cX4_cuts 110 = .ok (.iload_n 2, 1) := by decide +kernel
theorem dX4_cuts_111 : decode cX4_cuts 111 = .ok (.iadd, 1) := by decide +kernel
theorem dX4_cuts_112 : decode cX4_cuts 112 = .ok (.dup2, 1) := by decide +kernel
theorem dX4_cuts_113 : decode cX4_cuts 113 = .ok (.iaload, 1) := by decide +kernel
theorem dX4_cuts_114 : decode cX4_cuts 114 = .ok (.aload_n 0, 1) := by decide +kernel
theorem dX4_cuts_115 : decode cX4_cuts 115 = .ok (.iload_n 1, 1) := by decide +kernel
theorem dX4_cuts_116 : decode cX4_cuts 116 = .ok (.iload_n 2, 1) := by decide +kernel
theorem dX4_cuts_117 : decode cX4_cuts 117 = .ok (.invokevirtual 85, 3) := by decide +kernel
theorem dX4_cuts_120 : decode cX4_cuts 120 = .ok (.iadd, 1) := by decide +kernel
theorem dX4_cuts_121 : decode cX4_cuts 121 = .ok (.iastore, 1) := by decide +kernel
theorem dX4_cuts_122 : decode cX4_cuts 122 = .ok (.iinc 2 1, 3) := by decide +kernel
theorem dX4_cuts_125 : decode cX4_cuts 125 = .ok (.goto (-27), 3) := by decide +kernel
theorem dX4_cuts_128 : decode cX4_cuts 128 = .ok (.aload_n 0, 1) := by decide +kernel
theorem dX4_cuts_129 : decode cX4_cuts 129 = .ok (.getfield 7, 3) := by decide +kernel
theorem dX4_cuts_132 : decode cX4_cuts 132 = .ok (.iload_n 1, 1) := by decide +kernel
theorem dX4_cuts_133 : decode cX4_cuts 133 = .ok (.iconst 5, 1) := by decide +kernel
theorem dX4_cuts_134 : decode cX4_cuts 134 = .ok (.invokestatic 42, 3) := by decide +kernel
theorem dX4_cuts_137 : decode cX4_cuts 137 = .ok (.iconst 1, 1) := by decide +kernel
theorem dX4_cuts_138 : decode cX4_cuts 138 = .ok (.iastore, 1) := by decide +kernel
theorem dX4_cuts_139 : decode cX4_cuts 139 = .ok (.aload_n 0, 1) := by decide +kernel
theorem dX4_cuts_140 : decode cX4_cuts 140 = .ok (.getfield 7, 3) := by decide +kernel
theorem dX4_cuts_143 : decode cX4_cuts 143 = .ok (.iload_n 1, 1) := by decide +kernel
theorem dX4_cuts_144 : decode cX4_cuts 144 = .ok (.bipush 7, 2) := by decide +kernel
theorem dX4_cuts_146 : decode cX4_cuts 146 = .ok (.invokestatic 42, 3) := by decide +kernel
theorem dX4_cuts_149 : decode cX4_cuts 149 = .ok (.aload_n 0, 1) := by decide +kernel
theorem dX4_cuts_150 : decode cX4_cuts 150 = .ok (.getfield 7, 3) := by decide +kernel
theorem dX4_cuts_153 : decode cX4_cuts 153 = .ok (.bipush 6, 2) := by decide +kernel
theorem dX4_cuts_155 : decode cX4_cuts 155 = .ok (.iaload, 1) := by decide +kernel
theorem dX4_cuts_156 : decode cX4_cuts 156 = .ok (.iastore, 1) := by decide +kernel
theorem dX4_cuts_157 : decode cX4_cuts 157 = .ok (.aload_n 0, 1) := by decide +kernel
theorem dX4_cuts_158 : decode cX4_cuts 158 = .ok (.getfield 7, 3) := by decide +kernel
theorem dX4_cuts_161 : decode cX4_cuts 161 = .ok (.bipush 6, 2) := by decide +kernel
theorem dX4_cuts_163 : decode cX4_cuts 163 = .ok (.dup2, 1) := by decide +kernel
theorem dX4_cuts_164 : decode cX4_cuts 164 = .ok (.iaload, 1) := by decide +kernel
theorem dX4_cuts_165 : decode cX4_cuts 165 = .ok (.iconst 1, 1) := by decide +kernel
theorem dX4_cuts_166 : decode cX4_cuts 166 = .ok (.iadd, 1) := by decide +kernel
theorem dX4_cuts_167 : decode cX4_cuts 167 = .ok (.iastore, 1) := by decide +kernel
theorem dX4_cuts_168 : decode cX4_cuts 168 = .ok (.aload_n 0, 1) := by decide +kernel
theorem dX4_cuts_169 : decode cX4_cuts 169 = .ok (.getfield 7, 3) := by decide +kernel
theorem dX4_cuts_172 : decode cX4_cuts 172 = .ok (.iload_n 1, 1) := by decide +kernel
theorem dX4_cuts_173 : decode cX4_cuts 173 = .ok (.bipush 6, 2) := by decide +kernel
theorem dX4_cuts_175 : decode cX4_cuts 175 = .ok (.invokestatic 42, 3) := by decide +kernel
theorem dX4_cuts_178 : decode cX4_cuts 178 = .ok (.aload_n 0, 1) := by decide +kernel
theorem dX4_cuts_179 : decode cX4_cuts 179 = .ok (.getfield 7, 3) := by decide +kernel
theorem dX4_cuts_182 : decode cX4_cuts 182 = .ok (.bipush 11, 2) := by decide +kernel
theorem dX4_cuts_184 : decode cX4_cuts 184 = .ok (.aload_n 0, 1) := by decide +kernel
theorem dX4_cuts_185 : decode cX4_cuts 185 = .ok (.getfield 7, 3) := by decide +kernel
theorem dX4_cuts_188 : decode cX4_cuts 188 = .ok (.iconst 1, 1) := by decide +kernel
theorem dX4_cuts_189 : decode cX4_cuts 189 = .ok (.iaload, 1) := by decide +kernel
theorem dX4_cuts_190 : decode cX4_cuts 190 = .ok (.bipush 8, 2) := by decide +kernel
theorem dX4_cuts_192 : decode cX4_cuts 192 = .ok (.idiv, 1) := by decide +kernel
theorem dX4_cuts_193 : decode cX4_cuts 193 = .ok (.iadd, 1) := by decide +kernel
theorem dX4_cuts_194 : decode cX4_cuts 194 = .ok (.iconst 4, 1) := by decide +kernel
theorem dX4_cuts_195 : decode cX4_cuts 195 = .ok (.aload_n 0, 1) := by decide +kernel
theorem dX4_cuts_196 : decode cX4_cuts 196 = .ok (.getfield 7, 3) := by decide +kernel
theorem dX4_cuts_199 : decode cX4_cuts 199 = .ok (.iconst 2, 1) := by decide +kernel
theorem dX4_cuts_200 : decode cX4_cuts 200 = .ok (.iaload, 1) := by decide +kernel
theorem dX4_cuts_201 : decode cX4_cuts 201 = .ok (.bipush 8, 2) := by decide +kernel
theorem dX4_cuts_203 : decode cX4_cuts 203 = .ok (.idiv, 1) := by decide +kernel
theorem dX4_cuts_204 : decode cX4_cuts 204 = .ok (.imul, 1) := by decide +kernel
theorem dX4_cuts_205 : decode cX4_cuts 205 = .ok (.iadd, 1) := by decide +kernel
theorem dX4_cuts_206 : decode cX4_cuts 206 = .ok (.iaload, 1) := by decide +kernel
theorem dX4_cuts_207 : decode cX4_cuts 207 = .ok (.aload_n 0, 1) := by decide +kernel
theorem dX4_cuts_208 : decode cX4_cuts 208 = .ok (.invokevirtual 110, 3) := by decide +kernel
theorem dX4_cuts_211 : decode cX4_cuts 211 = .ok (.if_icmp .ne 7, 3) := by decide +kernel
theorem dX4_cuts_214 : decode cX4_cuts 214 = .ok (.iconst 1, 1) := by decide +kernel
theorem dX4_cuts_215 : decode cX4_cuts 215 = .ok (.goto 4, 3) := by decide +kernel
theorem dX4_cuts_218 : decode cX4_cuts 218 = .ok (.iconst 0, 1) := by decide +kernel
theorem dX4_cuts_219 : decode cX4_cuts 219 = .ok (.iastore, 1) := by decide +kernel
theorem dX4_cuts_220 : decode cX4_cuts 220 = .ok (.iconst 0, 1) := by decide +kernel
theorem dX4_cuts_221 : decode cX4_cuts 221 = .ok (.istore_n 2, 1) := by decide +kernel
theorem dX4_cuts_222 : decode cX4_cuts 222 = .ok (.iconst 0, 1) := by decide +kernel
theorem dX4_cuts_223 : decode cX4_cuts 223 = .ok (.istore_n 3, 1) := by decide +kernel
theorem dX4_cuts_224 : decode cX4_cuts 224 = .ok (.iload_n 3, 1) := by decide +kernel
theorem dX4_cuts_225 : decode cX4_cuts 225 = .ok (.aload_n 0, 1) := by decide +kernel
theorem dX4_cuts_226 : decode cX4_cuts 226 = .ok (.getfield 7, 3) := by decide +kernel
theorem dX4_cuts_229 : decode cX4_cuts 229 = .ok (.iconst 0, 1) := by decide +kernel
theorem dX4_cuts_230 : decode cX4_cuts 230 = .ok (.iaload, 1) := by decide +kernel
theorem dX4_cuts_231 : decode cX4_cuts 231 = .ok (.if_icmp .ge 40, 3) := by decide +kernel
theorem dX4_cuts_234 : decode cX4_cuts 234 = .ok (.aload_n 0, 1) := by decide +kernel
theorem dX4_cuts_235 : decode cX4_cuts 235 = .ok (.iload_n 3, 1) := by decide +kernel
theorem dX4_cuts_236 : decode cX4_cuts 236 = .ok (.iload_n 1, 1) := by decide +kernel
theorem dX4_cuts_237 : decode cX4_cuts 237 = .ok (.invokevirtual 62, 3) := by decide +kernel
theorem dX4_cuts_240 : decode cX4_cuts 240 = .ok (.ifCond .eq 25, 3) := by decide +kernel
theorem dX4_cuts_243 : decode cX4_cuts 243 = .ok (.aload_n 0, 1) := by decide +kernel
theorem dX4_cuts_244 : decode cX4_cuts 244 = .ok (.iload_n 3, 1) := by decide +kernel
theorem dX4_cuts_245 : decode cX4_cuts 245 = .ok (.invokevirtual 66, 3) := by decide +kernel
theorem dX4_cuts_248 : decode cX4_cuts 248 = .ok (.ifCond .eq 17, 3) := by decide +kernel
theorem dX4_cuts_251 : decode cX4_cuts 251 = .ok (.aload_n 0, 1) := by decide +kernel
theorem dX4_cuts_252 : decode cX4_cuts 252 = .ok (.getfield 7, 3) := by decide +kernel
theorem dX4_cuts_255 : decode cX4_cuts 255 = .ok (.iload_n 3, 1) := by decide +kernel
theorem dX4_cuts_256 : decode cX4_cuts 256 = .ok (.iconst 5, 1) := by decide +kernel
theorem dX4_cuts_257 : decode cX4_cuts 257 = .ok (.invokestatic 42, 3) := by decide +kernel
theorem dX4_cuts_260 : decode cX4_cuts 260 = .ok (.iconst 2, 1) := by decide +kernel
theorem dX4_cuts_261 : decode cX4_cuts 261 = .ok (.iastore, 1) := by decide +kernel
theorem dX4_cuts_262 : decode cX4_cuts 262 = .ok (.iinc 2 1, 3) := by decide +kernel
theorem dX4_cuts_265 : decode cX4_cuts 265 = .ok (.iinc 3 1, 3) := by decide +kernel
theorem dX4_cuts_268 : decode cX4_cuts 268 = .ok (.goto (-44), 3) := by decide +kernel
theorem dX4_cuts_271 : decode cX4_cuts 271 = .ok (.iload_n 2, 1) := by decide +kernel
theorem dX4_cuts_272 : decode cX4_cuts 272 = .ok (.ireturn, 1) := by decide +kernel
theorem dX4_waitFor_0 : decode cX4_waitFor 0 = .ok (.iconst 0, 1) := by decide +kernel
theorem dX4_waitFor_1 : decode cX4_waitFor 1 = .ok (.istore_n 2, 1) := by decide +kernel
theorem dX4_waitFor_2 : decode cX4_waitFor 2 = .ok (.iconst 0, 1) := by decide +kernel
theorem dX4_waitFor_3 : decode cX4_waitFor 3 = .ok (.istore_n 3, 1) := by decide +kernel
theorem dX4_waitFor_4 : decode cX4_waitFor 4 = .ok (.iload_n 3, 1) := by decide +kernel
theorem dX4_waitFor_5 : decode cX4_waitFor 5 = .ok (.bipush 12, 2) := by decide +kernel
theorem dX4_waitFor_7 : decode cX4_waitFor 7 = .ok (.if_icmp .ge 90, 3) := by decide +kernel
theorem dX4_waitFor_10 : decode cX4_waitFor 10 = .ok (.aload_n 0, 1) := by decide +kernel
theorem dX4_waitFor_11 : decode cX4_waitFor 11 = .ok (.getfield 7, 3) := by decide +kernel
theorem dX4_waitFor_14 : decode cX4_waitFor 14 = .ok (.bipush 11, 2) := by decide +kernel
theorem dX4_waitFor_16 : decode cX4_waitFor 16 = .ok (.iload_n 3, 1) := by decide +kernel
theorem dX4_waitFor_17 : decode cX4_waitFor 17 = .ok (.iadd, 1) := by decide +kernel
theorem dX4_waitFor_18 : decode cX4_waitFor 18 = .ok (.iaload, 1) := by decide +kernel
theorem dX4_waitFor_19 : decode cX4_waitFor 19 = .ok (.aload_n 0, 1) := by decide +kernel
theorem dX4_waitFor_20 : decode cX4_waitFor 20 = .ok (.getfield 7, 3) := by decide +kernel
theorem dX4_waitFor_23 : decode cX4_waitFor 23 = .ok (.bipush 9, 2) := by decide +kernel
theorem dX4_waitFor_25 : decode cX4_waitFor 25 = .ok (.iaload, 1) := by decide +kernel
theorem dX4_waitFor_26 : decode cX4_waitFor 26 = .ok (.isub, 1) := by decide +kernel
theorem dX4_waitFor_27 : decode cX4_waitFor 27 = .ok (.istore 4, 2) := by decide +kernel
theorem dX4_waitFor_29 : decode cX4_waitFor 29 = .ok (.iload 4, 2) := by decide +kernel
theorem dX4_waitFor_31 : decode cX4_waitFor 31 = .ok (.ifCond .le 60, 3) := by decide +kernel
theorem dX4_waitFor_34 : decode cX4_waitFor 34 = .ok (.aload_n 0, 1) := by decide +kernel
theorem dX4_waitFor_35 : decode cX4_waitFor 35 = .ok (.iload_n 1, 1) := by decide +kernel
theorem dX4_waitFor_36 : decode cX4_waitFor 36 = .ok (.iload_n 3, 1) := by decide +kernel
theorem dX4_waitFor_37 : decode cX4_waitFor 37 = .ok (.invokevirtual 85, 3) := by decide +kernel
theorem dX4_waitFor_40 : decode cX4_waitFor 40 = .ok (.ifCond .le 51, 3) := by decide +kernel
theorem dX4_waitFor_43 : decode cX4_waitFor 43 = .ok (.aload_n 0, 1) := by decide +kernel
theorem dX4_waitFor_44 : decode cX4_waitFor 44 = .ok (.getfield 7, 3) := by decide +kernel
theorem dX4_waitFor_47 : decode cX4_waitFor 47 = .ok (.bipush 8, 2) := by decide +kernel
theorem dX4_waitFor_49 : decode cX4_waitFor 49 = .ok (.iaload, 1) := by decide +kernel
theorem dX4_waitFor_50 : decode cX4_waitFor 50 = .ok (.ifCond .ne 6, 3) := by decide +kernel
theorem dX4_waitFor_53 : decode cX4_waitFor 53 = .ok (.bipush (-5), 2) := by decide +kernel
theorem dX4_waitFor_55 : decode cX4_waitFor 55 = .ok (.ireturn, 1) := by decide +kernel
theorem dX4_waitFor_56 : decode cX4_waitFor 56 = .ok (.iload 4, 2) := by decide +kernel
theorem dX4_waitFor_58 : decode cX4_waitFor 58 = .ok (.aload_n 0, 1) := by decide +kernel
theorem dX4_waitFor_59 : decode cX4_waitFor 59 = .ok (.getfield 7, 3) := by decide +kernel
theorem dX4_waitFor_62 : decode cX4_waitFor 62 = .ok (.bipush 8, 2) := by decide +kernel
theorem dX4_waitFor_64 : decode cX4_waitFor 64 = .ok (.iaload, 1) := by decide +kernel
theorem dX4_waitFor_65 : decode cX4_waitFor 65 = .ok (.iadd, 1) := by decide +kernel
theorem dX4_waitFor_66 : decode cX4_waitFor 66 = .ok (.iconst 1, 1) := by decide +kernel
theorem dX4_waitFor_67 : decode cX4_waitFor 67 = .ok (.isub, 1) := by decide +kernel
theorem dX4_waitFor_68 : decode cX4_waitFor 68 = .ok (.aload_n 0, 1) := by decide +kernel
theorem dX4_waitFor_69 : decode cX4_waitFor 69 = .ok (.getfield 7, 3) := by decide +kernel
theorem dX4_waitFor_72 : decode cX4_waitFor 72 = .ok (.bipush 8, 2) := by decide +kernel
theorem dX4_waitFor_74 : decode cX4_waitFor 74 = .ok (.iaload, 1) := by decide +kernel
theorem dX4_waitFor_75 : decode cX4_waitFor 75 = .ok (.idiv, 1) := by decide +kernel
theorem dX4_waitFor_76 : decode cX4_waitFor 76 = .ok (.istore 5, 2) := by decide +kernel
theorem dX4_waitFor_78 : decode cX4_waitFor 78 = .ok (.iload 5, 2) := by decide +kernel
theorem dX4_waitFor_80 : decode cX4_waitFor 80 = .ok (.iload_n 2, 1) := by decide +kernel
theorem dX4_waitFor_81 : decode cX4_waitFor 81 = .ok (.if_icmp .le 8, 3) := by decide +kernel
theorem dX4_waitFor_84 : decode cX4_waitFor 84 = .ok (.iload 5, 2) := by decide +kernel
theorem dX4_waitFor_86 : decode cX4_waitFor 86 = .ok (.goto 4, 3) := by decide +kernel
theorem dX4_waitFor_89 : decode cX4_waitFor 89 = .ok (.iload_n 2, 1) := by decide +kernel
theorem dX4_waitFor_90 : decode cX4_waitFor 90 = .ok (.istore_n 2, 1) := by decide +kernel
theorem dX4_waitFor_91 : decode cX4_waitFor 91 = .ok (.iinc 3 1, 3) := by decide +kernel
theorem dX4_waitFor_94 : decode cX4_waitFor 94 = .ok (.goto (-90), 3) := by decide +kernel
theorem dX4_waitFor_97 : decode cX4_waitFor 97 = .ok (.iload_n 2, 1) := by decide +kernel
theorem dX4_waitFor_98 : decode cX4_waitFor 98 = .ok (.aload_n 0, 1) := by decide +kernel
theorem dX4_waitFor_99 : decode cX4_waitFor 99 = .ok (.iload_n 1, 1) := by decide +kernel
theorem dX4_waitFor_100 : decode cX4_waitFor 100 = .ok (.invokevirtual 91, 3) := by decide +kernel
theorem dX4_waitFor_103 : decode cX4_waitFor 103 = .ok (.if_icmp .le 13, 3) := by decide +kernel
theorem dX4_waitFor_106 : decode cX4_waitFor 106 = .ok (.iload_n 2, 1) := by decide +kernel
theorem dX4_waitFor_107 : decode cX4_waitFor 107 = .ok (.aload_n 0, 1) := by decide +kernel
theorem dX4_waitFor_108 : decode cX4_waitFor 108 = .ok (.iload_n 1, 1) := by decide +kernel
theorem dX4_waitFor_109 : decode cX4_waitFor 109 = .ok (.invokevirtual 91, 3) := by decide +kernel
theorem dX4_waitFor_112 : decode cX4_waitFor 112 = .ok (.isub, 1) := by decide +kernel
theorem dX4_waitFor_113 : decode cX4_waitFor 113 = .ok (.goto 4, 3) := by decide +kernel
theorem dX4_waitFor_116 : decode cX4_waitFor 116 = .ok (.iconst 0, 1) := by decide +kernel
theorem dX4_waitFor_117 : decode cX4_waitFor 117 = .ok (.ireturn, 1) := by decide +kernel
theorem dX4_waits_0 : decode cX4_waits 0 = .ok (.aload_n 0, 1) := by decide +kernel
theorem dX4_waits_1 : decode cX4_waits 1 = .ok (.iload_n 1, 1) := by decide +kernel
theorem dX4_waits_2 : decode cX4_waits 2 = .ok (.invokevirtual 103, 3) := by decide +kernel
theorem dX4_waits_5 : decode cX4_waits 5 = .ok (.aload_n 0, 1) := by decide +kernel
theorem dX4_waits_6 : decode cX4_waits 6 = .ok (.invokevirtual 110, 3) := by decide +kernel
theorem dX4_waits_9 : decode cX4_waits 9 = .ok (.ireturn, 1) := by decide +kernel
theorem dX4_cleans_0 : decode cX4_cleans 0 = .ok (.aload_n 0, 1) := by decide +kernel
theorem dX4_cleans_1 : decode cX4_cleans 1 = .ok (.getfield 7, 3) := by decide +kernel
theorem dX4_cleans_4 : decode cX4_cleans 4 = .ok (.iconst 3, 1) := by decide +kernel
theorem dX4_cleans_5 : decode cX4_cleans 5 = .ok (.iaload, 1) := by decide +kernel
theorem dX4_cleans_6 : decode cX4_cleans 6 = .ok (.istore_n 1, 1) := by decide +kernel
theorem dX4_cleans_7 : decode cX4_cleans 7 = .ok (.iload_n 1, 1) := by decide +kernel
theorem dX4_cleans_8 : decode cX4_cleans 8 = .ok (.ifCond .ne 6, 3) := by decide +kernel
theorem dX4_cleans_11 : decode cX4_cleans 11 = .ok (.bipush (-5), 2) := by decide +kernel
theorem dX4_cleans_13 : decode cX4_cleans 13 = .ok (.ireturn, 1) := by decide +kernel
theorem dX4_cleans_14 : decode cX4_cleans 14 = .ok (.aload_n 0, 1) := by decide +kernel
theorem dX4_cleans_15 : decode cX4_cleans 15 = .ok (.aload_n 0, 1) := by decide +kernel
theorem dX4_cleans_16 : decode cX4_cleans 16 = .ok (.getfield 7, 3) := by decide +kernel
theorem dX4_cleans_19 : decode cX4_cleans 19 = .ok (.bipush 7, 2) := by decide +kernel
theorem dX4_cleans_21 : decode cX4_cleans 21 = .ok (.iaload, 1) := by decide +kernel
theorem dX4_cleans_22 : decode cX4_cleans 22 = .ok (.invokevirtual 103, 3) := by decide +kernel
theorem dX4_cleans_25 : decode cX4_cleans 25 = .ok (.aload_n 0, 1) := by decide +kernel
theorem dX4_cleans_26 : decode cX4_cleans 26 = .ok (.getfield 7, 3) := by decide +kernel
theorem dX4_cleans_29 : decode cX4_cleans 29 = .ok (.iconst 3, 1) := by decide +kernel
theorem dX4_cleans_30 : decode cX4_cleans 30 = .ok (.iconst 0, 1) := by decide +kernel
theorem dX4_cleans_31 : decode cX4_cleans 31 = .ok (.iastore, 1) := by decide +kernel
theorem dX4_cleans_32 : decode cX4_cleans 32 = .ok (.iload_n 1, 1) := by decide +kernel
theorem dX4_cleans_33 : decode cX4_cleans 33 = .ok (.ireturn, 1) := by decide +kernel
theorem dX4_leads_0 : decode cX4_leads 0 = .ok (.aload_n 0, 1) := by decide +kernel
theorem dX4_leads_1 : decode cX4_leads 1 = .ok (.iload_n 1, 1) := by decide +kernel
theorem dX4_leads_2 : decode cX4_leads 2 = .ok (.invokevirtual 97, 3) := by decide +kernel
theorem dX4_leads_5 : decode cX4_leads 5 = .ok (.ifCond .eq 12, 3) := by decide +kernel
theorem dX4_leads_8 : decode cX4_leads 8 = .ok (.iload_n 2, 1) := by decide +kernel
theorem dX4_leads_9 : decode cX4_leads 9 = .ok (.iconst 0, 1) := by decide +kernel
theorem dX4_leads_10 : decode cX4_leads 10 = .ok (.iconst 3, 1) := by decide +kernel
theorem dX4_leads_11 : decode cX4_leads 11 = .ok (.invokestatic 38, 3) := by decide +kernel
theorem dX4_leads_14 : decode cX4_leads 14 = .ok (.ifCond .ne 5, 3) := by decide +kernel
theorem dX4_leads_17 : decode cX4_leads 17 = .ok (.iconst (-1), 1) := by decide +kernel
theorem dX4_leads_18 : decode cX4_leads 18 = .ok (.ireturn, 1) := by decide +kernel
theorem dX4_leads_19 : decode cX4_leads 19 = .ok (.aload_n 0, 1) := by decide +kernel
theorem dX4_leads_20 : decode cX4_leads 20 = .ok (.iload_n 1, 1) := by decide +kernel
theorem dX4_leads_21 : decode cX4_leads 21 = .ok (.invokevirtual 66, 3) := by decide +kernel
theorem dX4_leads_24 : decode cX4_leads 24 = .ok (.ifCond .ne 6, 3) := by decide +kernel
theorem dX4_leads_27 : decode cX4_leads 27 = .ok (.bipush (-4), 2) := by decide +kernel
theorem dX4_leads_29 : decode cX4_leads 29 = .ok (.ireturn, 1) := by decide +kernel
theorem dX4_leads_30 : decode cX4_leads 30 = .ok (.aload_n 0, 1) := by decide +kernel
theorem dX4_leads_31 : decode cX4_leads 31 = .ok (.iload_n 1, 1) := by decide +kernel
theorem dX4_leads_32 : decode cX4_leads 32 = .ok (.iconst 4, 1) := by decide +kernel
theorem dX4_leads_33 : decode cX4_leads 33 = .ok (.invokevirtual 46, 3) := by decide +kernel
theorem dX4_leads_36 : decode cX4_leads 36 = .ok (.istore_n 3, 1) := by decide +kernel
theorem dX4_leads_37 : decode cX4_leads 37 = .ok (.aload_n 0, 1) := by decide +kernel
theorem dX4_leads_38 : decode cX4_leads 38 = .ok (.getfield 7, 3) := by decide +kernel
theorem dX4_leads_41 : decode cX4_leads 41 = .ok (.iload_n 1, 1) := by decide +kernel
theorem dX4_leads_42 : decode cX4_leads 42 = .ok (.iconst 4, 1) := by decide +kernel
theorem dX4_leads_43 : decode cX4_leads 43 = .ok (.invokestatic 42, 3) := by decide +kernel
theorem dX4_leads_46 : decode cX4_leads 46 = .ok (.iload_n 2, 1) := by decide +kernel
theorem dX4_leads_47 : decode cX4_leads 47 = .ok (.iastore, 1) := by decide +kernel
theorem dX4_leads_48 : decode cX4_leads 48 = .ok (.iload_n 3, 1) := by decide +kernel
theorem dX4_leads_49 : decode cX4_leads 49 = .ok (.iload_n 2, 1) := by decide +kernel
theorem dX4_leads_50 : decode cX4_leads 50 = .ok (.if_icmp .ne 8, 3) := by decide +kernel
theorem dX4_leads_53 : decode cX4_leads 53 = .ok (.bipush (-5), 2) := by decide +kernel
theorem dX4_leads_55 : decode cX4_leads 55 = .ok (.goto 4, 3) := by decide +kernel
theorem dX4_leads_58 : decode cX4_leads 58 = .ok (.iload_n 3, 1) := by decide +kernel
theorem dX4_leads_59 : decode cX4_leads 59 = .ok (.ireturn, 1) := by decide +kernel
theorem dX4_acted_0 : decode cX4_acted 0 = .ok (.iload_n 1, 1) := by decide +kernel
theorem dX4_acted_1 : decode cX4_acted 1 = .ok (.ifCond .lt 7, 3) := by decide +kernel
theorem dX4_acted_4 : decode cX4_acted 4 = .ok (.aload_n 0, 1) := by decide +kernel
theorem dX4_acted_5 : decode cX4_acted 5 = .ok (.invokevirtual 114, 3) := by decide +kernel
theorem dX4_acted_8 : decode cX4_acted 8 = .ok (.iload_n 1, 1) := by decide +kernel
theorem dX4_acted_9 : decode cX4_acted 9 = .ok (.ireturn, 1) := by decide +kernel
theorem dX4_lays_0 : decode cX4_lays 0 = .ok (.iconst 0, 1) := by decide +kernel
theorem dX4_lays_1 : decode cX4_lays 1 = .ok (.istore 6, 2) := by decide +kernel
theorem dX4_lays_3 : decode cX4_lays 3 = .ok (.iload 6, 2) := by decide +kernel
theorem dX4_lays_5 : decode cX4_lays 5 = .ok (.bipush 8, 2) := by decide +kernel
theorem dX4_lays_7 : decode cX4_lays 7 = .ok (.if_icmp .ge 21, 3) := by decide +kernel
theorem dX4_lays_10 : decode cX4_lays 10 = .ok (.aload_n 0, 1) := by decide +kernel
theorem dX4_lays_11 : decode cX4_lays 11 = .ok (.getfield 7, 3) := by decide +kernel
theorem dX4_lays_14 : decode cX4_lays 14 = .ok (.iload_n 1, 1) := by decide +kernel
theorem dX4_lays_15 : decode cX4_lays 15 = .ok (.iload 6, 2) := by decide +kernel
theorem dX4_lays_17 : decode cX4_lays 17 = .ok (.invokestatic 42, 3) := by decide +kernel
theorem dX4_lays_20 : decode cX4_lays 20 = .ok (.iconst 0, 1) := by decide +kernel
theorem dX4_lays_21 : decode cX4_lays 21 = .ok (.iastore, 1) := by decide +kernel
theorem dX4_lays_22 : decode cX4_lays 22 = .ok (.iinc 6 1, 3) := by decide +kernel
theorem dX4_lays_25 : decode cX4_lays 25 = .ok (.goto (-22), 3) := by decide +kernel
theorem dX4_lays_28 : decode cX4_lays 28 = .ok (.aload_n 0, 1) := by decide +kernel
theorem dX4_lays_29 : decode cX4_lays 29 = .ok (.getfield 7, 3) := by decide +kernel
theorem dX4_lays_32 : decode cX4_lays 32 = .ok (.iload_n 1, 1) := by decide +kernel
theorem dX4_lays_33 : decode cX4_lays 33 = .ok (.iconst 0, 1) := by decide +kernel
theorem dX4_lays_34 : decode cX4_lays 34 = .ok (.invokestatic 42, 3) := by decide +kernel
theorem dX4_lays_37 : decode cX4_lays 37 = .ok (.iload_n 2, 1) := by decide +kernel
theorem dX4_lays_38 : decode cX4_lays 38 = .ok (.iastore, 1) := by decide +kernel
theorem dX4_lays_39 : decode cX4_lays 39 = .ok (.aload_n 0, 1) := by decide +kernel
theorem dX4_lays_40 : decode cX4_lays 40 = .ok (.getfield 7, 3) := by decide +kernel
theorem dX4_lays_43 : decode cX4_lays 43 = .ok (.iload_n 1, 1) := by decide +kernel
theorem dX4_lays_44 : decode cX4_lays 44 = .ok (.iconst 1, 1) := by decide +kernel
theorem dX4_lays_45 : decode cX4_lays 45 = .ok (.invokestatic 42, 3) := by decide +kernel
theorem dX4_lays_48 : decode cX4_lays 48 = .ok (.iload_n 3, 1) := by decide +kernel
theorem dX4_lays_49 : decode cX4_lays 49 = .ok (.iastore, 1) := by decide +kernel
theorem dX4_lays_50 : decode cX4_lays 50 = .ok (.aload_n 0, 1) := by decide +kernel
theorem dX4_lays_51 : decode cX4_lays 51 = .ok (.getfield 7, 3) := by decide +kernel
theorem dX4_lays_54 : decode cX4_lays 54 = .ok (.iload_n 1, 1) := by decide +kernel
theorem dX4_lays_55 : decode cX4_lays 55 = .ok (.iconst 2, 1) := by decide +kernel
theorem dX4_lays_56 : decode cX4_lays 56 = .ok (.invokestatic 42, 3) := by decide +kernel
theorem dX4_lays_59 : decode cX4_lays 59 = .ok (.iload 4, 2) := by decide +kernel
theorem dX4_lays_61 : decode cX4_lays 61 = .ok (.iastore, 1) := by decide +kernel
theorem dX4_lays_62 : decode cX4_lays 62 = .ok (.aload_n 0, 1) := by decide +kernel
theorem dX4_lays_63 : decode cX4_lays 63 = .ok (.getfield 7, 3) := by decide +kernel
theorem dX4_lays_66 : decode cX4_lays 66 = .ok (.iload_n 1, 1) := by decide +kernel
theorem dX4_lays_67 : decode cX4_lays 67 = .ok (.iconst 3, 1) := by decide +kernel
theorem dX4_lays_68 : decode cX4_lays 68 = .ok (.invokestatic 42, 3) := by decide +kernel
theorem dX4_lays_71 : decode cX4_lays 71 = .ok (.iload 5, 2) := by decide +kernel
theorem dX4_lays_73 : decode cX4_lays 73 = .ok (.iastore, 1) := by decide +kernel
theorem dX4_lays_74 : decode cX4_lays 74 = .ok (.aload_n 0, 1) := by decide +kernel
theorem dX4_lays_75 : decode cX4_lays 75 = .ok (.getfield 7, 3) := by decide +kernel
theorem dX4_lays_78 : decode cX4_lays 78 = .ok (.iload_n 1, 1) := by decide +kernel
theorem dX4_lays_79 : decode cX4_lays 79 = .ok (.bipush 7, 2) := by decide +kernel
theorem dX4_lays_81 : decode cX4_lays 81 = .ok (.invokestatic 42, 3) := by decide +kernel
theorem dX4_lays_84 : decode cX4_lays 84 = .ok (.bipush (-5), 2) := by decide +kernel
theorem dX4_lays_86 : decode cX4_lays 86 = .ok (.iastore, 1) := by decide +kernel
theorem dX4_lays_87 : decode cX4_lays 87 = .ok (.return_, 1) := by decide +kernel
theorem dX4_couldBe_0 : decode cX4_couldBe 0 = .ok (.iconst 1, 1) := by decide +kernel
theorem dX4_couldBe_1 : decode cX4_couldBe 1 = .ok (.istore 5, 2) := by decide +kernel
theorem dX4_couldBe_3 : decode cX4_couldBe 3 = .ok (.iconst 0, 1) := by decide +kernel
theorem dX4_couldBe_4 : decode cX4_couldBe 4 = .ok (.istore 6, 2) := by decide +kernel
theorem dX4_couldBe_6 : decode cX4_couldBe 6 = .ok (.iload 6, 2) := by decide +kernel
theorem dX4_couldBe_8 : decode cX4_couldBe 8 = .ok (.aload_n 0, 1) := by decide +kernel
theorem dX4_couldBe_9 : decode cX4_couldBe 9 = .ok (.getfield 7, 3) := by decide +kernel
theorem dX4_couldBe_12 : decode cX4_couldBe 12 = .ok (.iconst 0, 1) := by decide +kernel
theorem dX4_couldBe_13 : decode cX4_couldBe 13 = .ok (.iaload, 1) := by decide +kernel
theorem dX4_couldBe_14 : decode cX4_couldBe 14 = .ok (.if_icmp .ge 215, 3) := by decide +kernel
theorem dX4_couldBe_17 : decode cX4_couldBe 17 = .ok (.iload_n 1, 1) := by decide +kernel
theorem dX4_couldBe_18 : decode cX4_couldBe 18 = .ok (.aload_n 0, 1) := by decide +kernel
theorem dX4_couldBe_19 : decode cX4_couldBe 19 = .ok (.iload 6, 2) := by decide +kernel
theorem dX4_couldBe_21 : decode cX4_couldBe 21 = .ok (.invokevirtual 52, 3) := by decide +kernel
theorem dX4_couldBe_24 : decode cX4_couldBe 24 = .ok (.if_icmp .gt 40, 3) := by decide +kernel
theorem dX4_couldBe_27 : decode cX4_couldBe 27 = .ok (.iload_n 1, 1) := by decide +kernel
theorem dX4_couldBe_28 : decode cX4_couldBe 28 = .ok (.iload_n 3, 1) := by decide +kernel
theorem dX4_couldBe_29 : decode cX4_couldBe 29 = .ok (.iadd, 1) := by decide +kernel
theorem dX4_couldBe_30 : decode cX4_couldBe 30 = .ok (.aload_n 0, 1) := by decide +kernel
theorem dX4_couldBe_31 : decode cX4_couldBe 31 = .ok (.iload 6, 2) := by decide +kernel
theorem dX4_couldBe_33 : decode cX4_couldBe 33 = .ok (.iconst 0, 1) := by decide +kernel
theorem dX4_couldBe_34 : decode cX4_couldBe 34 = .ok (.invokevirtual 46, 3) := by decide +kernel
theorem dX4_couldBe_37 : decode cX4_couldBe 37 = .ok (.if_icmp .le 27, 3) := by decide +kernel
theorem dX4_couldBe_40 : decode cX4_couldBe 40 = .ok (.iload_n 2, 1) := by decide +kernel
theorem dX4_couldBe_41 : decode cX4_couldBe 41 = .ok (.aload_n 0, 1) := by decide +kernel
theorem dX4_couldBe_42 : decode cX4_couldBe 42 = .ok (.iload 6, 2) := by decide +kernel
theorem dX4_couldBe_44 : decode cX4_couldBe 44 = .ok (.invokevirtual 56, 3) := by decide +kernel
theorem dX4_couldBe_47 : decode cX4_couldBe 47 = .ok (.if_icmp .gt 17, 3) := by decide +kernel
theorem dX4_couldBe_50 : decode cX4_couldBe 50 = .ok (.iload_n 2, 1) := by decide +kernel
theorem dX4_couldBe_51 : decode cX4_couldBe 51 = .ok (.iload 4, 2) := by decide +kernel
theorem dX4_couldBe_53 : decode cX4_couldBe 53 = .ok (.iadd, 1) := by decide +kernel
theorem dX4_couldBe_54 : decode cX4_couldBe 54 = .ok (.aload_n 0, 1) := by decide +kernel
theorem dX4_couldBe_55 : decode cX4_couldBe 55 = .ok (.iload 6, 2) := by decide +kernel
theorem dX4_couldBe_57 : decode cX4_couldBe 57 = .ok (.iconst 1, 1) := by decide +kernel
theorem dX4_couldBe_58 : decode cX4_couldBe 58 = .ok (.invokevirtual 46, 3) := by decide +kernel
theorem dX4_couldBe_61 : decode cX4_couldBe 61 = .ok (.if_icmp .gt 7, 3) := by decide +kernel
theorem dX4_couldBe_64 : decode cX4_couldBe 64 = .ok (.iconst 1, 1) := by decide +kernel
theorem dX4_couldBe_65 : decode cX4_couldBe 65 = .ok (.goto 4, 3) := by decide +kernel
theorem dX4_couldBe_68 : decode cX4_couldBe 68 = .ok (.iconst 0, 1) := by decide +kernel
theorem dX4_couldBe_69 : decode cX4_couldBe 69 = .ok (.istore 7, 2) := by decide +kernel
theorem dX4_couldBe_71 : decode cX4_couldBe 71 = .ok (.iload_n 1, 1) := by decide +kernel
theorem dX4_couldBe_72 : decode cX4_couldBe 72 = .ok (.aload_n 0, 1) := by decide +kernel
theorem dX4_couldBe_73 : decode cX4_couldBe 73 = .ok (.iload 6, 2) := by decide +kernel
theorem dX4_couldBe_75 : decode cX4_couldBe 75 = .ok (.iconst 0, 1) := by decide +kernel
theorem dX4_couldBe_76 : decode cX4_couldBe 76 = .ok (.invokevirtual 46, 3) := by decide +kernel
theorem dX4_couldBe_79 : decode cX4_couldBe 79 = .ok (.if_icmp .le 47, 3) := by decide +kernel
theorem dX4_couldBe_82 : decode cX4_couldBe 82 = .ok (.iload_n 1, 1) := by decide +kernel
theorem dX4_couldBe_83 : decode cX4_couldBe 83 = .ok (.iload_n 3, 1) := by decide +kernel
theorem dX4_couldBe_84 : decode cX4_couldBe 84 = .ok (.iadd, 1) := by decide +kernel
theorem dX4_couldBe_85 : decode cX4_couldBe 85 = .ok (.iconst 1, 1) := by decide +kernel
theorem dX4_couldBe_86 : decode cX4_couldBe 86 = .ok (.isub, 1) := by decide +kernel
theorem dX4_couldBe_87 : decode cX4_couldBe 87 = .ok (.aload_n 0, 1) := by decide +kernel
theorem dX4_couldBe_88 : decode cX4_couldBe 88 = .ok (.iload 6, 2) := by decide +kernel
theorem dX4_couldBe_90 : decode cX4_couldBe 90 = .ok (.invokevirtual 52, 3) := by decide +kernel
theorem dX4_couldBe_93 : decode cX4_couldBe 93 = .ok (.if_icmp .ge 33, 3) := by decide +kernel
theorem dX4_couldBe_96 : decode cX4_couldBe 96 = .ok (.iload_n 2, 1) := by decide +kernel
theorem dX4_couldBe_97 : decode cX4_couldBe 97 = .ok (.aload_n 0, 1) := by decide +kernel
theorem dX4_couldBe_98 : decode cX4_couldBe 98 = .ok (.iload 6, 2) := by decide +kernel
theorem dX4_couldBe_100 : decode cX4_couldBe 100 = .ok (.iconst 1, 1) := by decide +kernel
theorem dX4_couldBe_101 : decode cX4_couldBe 101 = .ok (.invokevirtual 46, 3) := by decide +kernel
theorem dX4_couldBe_104 : decode cX4_couldBe 104 = .ok (.if_icmp .le 22, 3) := by decide +kernel
theorem dX4_couldBe_107 : decode cX4_couldBe 107 = .ok (.iload_n 2, 1) := by decide +kernel
theorem dX4_couldBe_108 : decode cX4_couldBe 108 = .ok (.iload 4, 2) := by decide +kernel
theorem dX4_couldBe_110 : decode cX4_couldBe 110 = .ok (.iadd, 1) := by decide +kernel
theorem dX4_couldBe_111 : decode cX4_couldBe 111 = .ok (.iconst 1, 1) := by decide +kernel
theorem dX4_couldBe_112 : decode cX4_couldBe 112 = .ok (.isub, 1) := by decide +kernel
theorem dX4_couldBe_113 : decode cX4_couldBe 113 = .ok (.aload_n 0, 1) := by decide +kernel
theorem dX4_couldBe_114 : decode cX4_couldBe 114 = .ok (.iload 6, 2) := by decide +kernel
theorem dX4_couldBe_116 : decode cX4_couldBe 116 = .ok (.invokevirtual 56, 3) := by decide +kernel
theorem dX4_couldBe_119 : decode cX4_couldBe 119 = .ok (.if_icmp .ge 7, 3) := by decide +kernel
theorem dX4_couldBe_122 : decode cX4_couldBe 122 = .ok (.iconst 1, 1) := by decide +kernel
theorem dX4_couldBe_123 : decode cX4_couldBe 123 = .ok (.goto 4, 3) := by decide +kernel
theorem dX4_couldBe_126 : decode cX4_couldBe 126 = .ok (.iconst 0, 1) := by decide +kernel
theorem dX4_couldBe_127 : decode cX4_couldBe 127 = .ok (.istore 8, 2) := by decide +kernel
theorem dX4_couldBe_129 : decode cX4_couldBe 129 = .ok (.iload_n 1, 1) := by decide +kernel
theorem dX4_couldBe_130 : decode cX4_couldBe 130 = .ok (.aload_n 0, 1) := by decide +kernel
theorem dX4_couldBe_131 : decode cX4_couldBe 131 = .ok (.iload 6, 2) := by decide +kernel
theorem dX4_couldBe_133 : decode cX4_couldBe 133 = .ok (.iconst 0, 1) := by decide +kernel
theorem dX4_couldBe_134 : decode cX4_couldBe 134 = .ok (.invokevirtual 46, 3) := by decide +kernel
theorem dX4_couldBe_137 : decode cX4_couldBe 137 = .ok (.if_icmp .ge 47, 3) := by decide +kernel
theorem dX4_couldBe_140 : decode cX4_couldBe 140 = .ok (.iload_n 1, 1) := by decide +kernel
theorem dX4_couldBe_141 : decode cX4_couldBe 141 = .ok (.iload_n 3, 1) := by decide +kernel
theorem dX4_couldBe_142 : decode cX4_couldBe 142 = .ok (.iadd, 1) := by decide +kernel
theorem dX4_couldBe_143 : decode cX4_couldBe 143 = .ok (.iconst 1, 1) := by decide +kernel
theorem dX4_couldBe_144 : decode cX4_couldBe 144 = .ok (.isub, 1) := by decide +kernel
theorem dX4_couldBe_145 : decode cX4_couldBe 145 = .ok (.aload_n 0, 1) := by decide +kernel
theorem dX4_couldBe_146 : decode cX4_couldBe 146 = .ok (.iload 6, 2) := by decide +kernel
theorem dX4_couldBe_148 : decode cX4_couldBe 148 = .ok (.invokevirtual 52, 3) := by decide +kernel
theorem dX4_couldBe_151 : decode cX4_couldBe 151 = .ok (.if_icmp .le 33, 3) := by decide +kernel
theorem dX4_couldBe_154 : decode cX4_couldBe 154 = .ok (.iload_n 2, 1) := by decide +kernel
theorem dX4_couldBe_155 : decode cX4_couldBe 155 = .ok (.aload_n 0, 1) := by decide +kernel
theorem dX4_couldBe_156 : decode cX4_couldBe 156 = .ok (.iload 6, 2) := by decide +kernel
theorem dX4_couldBe_158 : decode cX4_couldBe 158 = .ok (.iconst 1, 1) := by decide +kernel
theorem dX4_couldBe_159 : decode cX4_couldBe 159 = .ok (.invokevirtual 46, 3) := by decide +kernel
theorem dX4_couldBe_162 : decode cX4_couldBe 162 = .ok (.if_icmp .ge 22, 3) := by decide +kernel
theorem dX4_couldBe_165 : decode cX4_couldBe 165 = .ok (.iload_n 2, 1) := by decide +kernel
theorem dX4_couldBe_166 : decode cX4_couldBe 166 = .ok (.iload 4, 2) := by decide +kernel
theorem dX4_couldBe_168 : decode cX4_couldBe 168 = .ok (.iadd, 1) := by decide +kernel
theorem dX4_couldBe_169 : decode cX4_couldBe 169 = .ok (.iconst 1, 1) := by decide +kernel
theorem dX4_couldBe_170 : decode cX4_couldBe 170 = .ok (.isub, 1) := by decide +kernel
theorem dX4_couldBe_171 : decode cX4_couldBe 171 = .ok (.aload_n 0, 1) := by decide +kernel
theorem dX4_couldBe_172 : decode cX4_couldBe 172 = .ok (.iload 6, 2) := by decide +kernel
theorem dX4_couldBe_174 : decode cX4_couldBe 174 = .ok (.invokevirtual 56, 3) := by decide +kernel
theorem dX4_couldBe_177 : decode cX4_couldBe 177 = .ok (.if_icmp .le 7, 3) := by decide +kernel
theorem dX4_couldBe_180 : decode cX4_couldBe 180 = .ok (.iconst 1, 1) := by decide +kernel
theorem dX4_couldBe_181 : decode cX4_couldBe 181 = .ok (.goto 4, 3) := by decide +kernel
theorem dX4_couldBe_184 : decode cX4_couldBe 184 = .ok (.iconst 0, 1) := by decide +kernel
theorem dX4_couldBe_185 : decode cX4_couldBe 185 = .ok (.istore 9, 2) := by decide +kernel
theorem dX4_couldBe_187 : decode cX4_couldBe 187 = .ok (.iload 5, 2) := by decide +kernel
theorem dX4_couldBe_189 : decode cX4_couldBe 189 = .ok (.ifCond .eq 31, 3) := by decide +kernel
theorem dX4_couldBe_192 : decode cX4_couldBe 192 = .ok (.iload 7, 2) := by decide +kernel
theorem dX4_couldBe_194 : decode cX4_couldBe 194 = .ok (.ifCond .ne 22, 3) := by decide +kernel
theorem dX4_couldBe_197 : decode cX4_couldBe 197 = .ok (.iload 8, 2) := by decide +kernel
theorem dX4_couldBe_199 : decode cX4_couldBe 199 = .ok (.ifCond .ne 8, 3) := by decide +kernel
theorem dX4_couldBe_202 : decode cX4_couldBe 202 = .ok (.iload 9, 2) := by decide +kernel
theorem dX4_couldBe_204 : decode cX4_couldBe 204 = .ok (.ifCond .eq 16, 3) := by decide +kernel
theorem dX4_couldBe_207 : decode cX4_couldBe 207 = .ok (.aload_n 0, 1) := by decide +kernel
theorem dX4_couldBe_208 : decode cX4_couldBe 208 = .ok (.iload 6, 2) := by decide +kernel
theorem dX4_couldBe_210 : decode cX4_couldBe 210 = .ok (.invokevirtual 66, 3) := by decide +kernel
theorem dX4_couldBe_213 : decode cX4_couldBe 213 = .ok (.ifCond .eq 7, 3) := by decide +kernel
theorem dX4_couldBe_216 : decode cX4_couldBe 216 = .ok (.iconst 1, 1) := by decide +kernel
theorem dX4_couldBe_217 : decode cX4_couldBe 217 = .ok (.goto 4, 3) := by decide +kernel
theorem dX4_couldBe_220 : decode cX4_couldBe 220 = .ok (.iconst 0, 1) := by decide +kernel
theorem dX4_couldBe_221 : decode cX4_couldBe 221 = .ok (.istore 5, 2) := by decide +kernel
theorem dX4_couldBe_223 : decode cX4_couldBe 223 = .ok (.iinc 6 1, 3) := by decide +kernel
theorem dX4_couldBe_226 : decode cX4_couldBe 226 = .ok (.goto (-220), 3) := by decide +kernel
theorem dX4_couldBe_229 : decode cX4_couldBe 229 = .ok (.iload 5, 2) := by decide +kernel
theorem dX4_couldBe_231 : decode cX4_couldBe 231 = .ok (.ireturn, 1) := by decide +kernel
theorem dX4_tell_0 : decode cX4_tell 0 = .ok (.iload_n 1, 1) := by decide +kernel
theorem dX4_tell_1 : decode cX4_tell 1 = .ok (.iconst 0, 1) := by decide +kernel
theorem dX4_tell_2 : decode cX4_tell 2 = .ok (.bipush 31, 2) := by decide +kernel
theorem dX4_tell_4 : decode cX4_tell 4 = .ok (.invokestatic 38, 3) := by decide +kernel
theorem dX4_tell_7 : decode cX4_tell 7 = .ok (.ifCond .eq 38, 3) := by decide +kernel
theorem dX4_tell_10 : decode cX4_tell 10 = .ok (.iload_n 2, 1) := by decide +kernel
theorem dX4_tell_11 : decode cX4_tell 11 = .ok (.iconst 0, 1) := by decide +kernel
theorem dX4_tell_12 : decode cX4_tell 12 = .ok (.bipush 23, 2) := by decide +kernel
theorem dX4_tell_14 : decode cX4_tell 14 = .ok (.invokestatic 38, 3) := by decide +kernel
theorem dX4_tell_17 : decode cX4_tell 17 = .ok (.ifCond .eq 28, 3) := by decide +kernel
theorem dX4_tell_20 : decode cX4_tell 20 = .ok (.iload_n 3, 1) := by decide +kernel
theorem dX4_tell_21 : decode cX4_tell 21 = .ok (.iconst 2, 1) := by decide +kernel
theorem dX4_tell_22 : decode cX4_tell 22 = .ok (.bipush 32, 2) := by decide +kernel
theorem dX4_tell_24 : decode cX4_tell 24 = .ok (.invokestatic 38, 3) := by decide +kernel
theorem dX4_tell_27 : decode cX4_tell 27 = .ok (.ifCond .eq 18, 3) := by decide +kernel
theorem dX4_tell_30 : decode cX4_tell 30 = .ok (.iload 4, 2) := by decide +kernel
theorem dX4_tell_32 : decode cX4_tell 32 = .ok (.iconst 2, 1) := by decide +kernel
theorem dX4_tell_33 : decode cX4_tell 33 = .ok (.bipush 24, 2) := by decide +kernel
theorem dX4_tell_35 : decode cX4_tell 35 = .ok (.invokestatic 38, 3) := by decide +kernel
theorem dX4_tell_38 : decode cX4_tell 38 = .ok (.ifCond .eq 7, 3) := by decide +kernel
theorem dX4_tell_41 : decode cX4_tell 41 = .ok (.iconst 1, 1) := by decide +kernel
theorem dX4_tell_42 : decode cX4_tell 42 = .ok (.goto 4, 3) := by decide +kernel
theorem dX4_tell_45 : decode cX4_tell 45 = .ok (.iconst 0, 1) := by decide +kernel
theorem dX4_tell_46 : decode cX4_tell 46 = .ok (.istore 5, 2) := by decide +kernel
theorem dX4_tell_48 : decode cX4_tell 48 = .ok (.iload 5, 2) := by decide +kernel
theorem dX4_tell_50 : decode cX4_tell 50 = .ok (.ifCond .eq 20, 3) := by decide +kernel
theorem dX4_tell_53 : decode cX4_tell 53 = .ok (.iload_n 1, 1) := by decide +kernel
theorem dX4_tell_54 : decode cX4_tell 54 = .ok (.iload_n 3, 1) := by decide +kernel
theorem dX4_tell_55 : decode cX4_tell 55 = .ok (.iadd, 1) := by decide +kernel
theorem dX4_tell_56 : decode cX4_tell 56 = .ok (.bipush 32, 2) := by decide +kernel
theorem dX4_tell_58 : decode cX4_tell 58 = .ok (.if_icmp .gt 12, 3) := by decide +kernel
theorem dX4_tell_61 : decode cX4_tell 61 = .ok (.iload_n 2, 1) := by decide +kernel
theorem dX4_tell_62 : decode cX4_tell 62 = .ok (.iload 4, 2) := by decide +kernel
theorem dX4_tell_64 : decode cX4_tell 64 = .ok (.iadd, 1) := by decide +kernel
theorem dX4_tell_65 : decode cX4_tell 65 = .ok (.bipush 24, 2) := by decide +kernel
theorem dX4_tell_67 : decode cX4_tell 67 = .ok (.if_icmp .le 6, 3) := by decide +kernel
theorem dX4_tell_70 : decode cX4_tell 70 = .ok (.bipush (-2), 2) := by decide +kernel
theorem dX4_tell_72 : decode cX4_tell 72 = .ok (.ireturn, 1) := by decide +kernel
theorem dX4_tell_73 : decode cX4_tell 73 = .ok (.aload_n 0, 1) := by decide +kernel
theorem dX4_tell_74 : decode cX4_tell 74 = .ok (.iload_n 1, 1) := by decide +kernel
theorem dX4_tell_75 : decode cX4_tell 75 = .ok (.iload_n 2, 1) := by decide +kernel
theorem dX4_tell_76 : decode cX4_tell 76 = .ok (.iload_n 3, 1) := by decide +kernel
theorem dX4_tell_77 : decode cX4_tell 77 = .ok (.iload 4, 2) := by decide +kernel
theorem dX4_tell_79 : decode cX4_tell 79 = .ok (.invokevirtual 117, 3) := by decide +kernel
theorem dX4_tell_82 : decode cX4_tell 82 = .ok (.ifCond .ne 6, 3) := by decide +kernel
theorem dX4_tell_85 : decode cX4_tell 85 = .ok (.bipush (-4), 2) := by decide +kernel
theorem dX4_tell_87 : decode cX4_tell 87 = .ok (.ireturn, 1) := by decide +kernel
theorem dX4_tell_88 : decode cX4_tell 88 = .ok (.aload_n 0, 1) := by decide +kernel
theorem dX4_tell_89 : decode cX4_tell 89 = .ok (.getfield 7, 3) := by decide +kernel
theorem dX4_tell_92 : decode cX4_tell 92 = .ok (.iconst 0, 1) := by decide +kernel
theorem dX4_tell_93 : decode cX4_tell 93 = .ok (.iaload, 1) := by decide +kernel
theorem dX4_tell_94 : decode cX4_tell 94 = .ok (.bipush 12, 2) := by decide +kernel
theorem dX4_tell_96 : decode cX4_tell 96 = .ok (.if_icmp .ne 6, 3) := by decide +kernel
theorem dX4_tell_99 : decode cX4_tell 99 = .ok (.bipush (-3), 2) := by decide +kernel
theorem dX4_tell_101 : decode cX4_tell 101 = .ok (.ireturn, 1) := by decide +kernel
theorem dX4_tell_102 : decode cX4_tell 102 = .ok (.aload_n 0, 1) := by decide +kernel
theorem dX4_tell_103 : decode cX4_tell 103 = .ok (.invokevirtual 121, 3) := by decide +kernel
theorem dX4_tell_106 : decode cX4_tell 106 = .ok (.aload_n 0, 1) := by decide +kernel
theorem dX4_tell_107 : decode cX4_tell 107 = .ok (.invokevirtual 114, 3) := by decide +kernel
theorem dX4_tell_110 : decode cX4_tell 110 = .ok (.aload_n 0, 1) := by decide +kernel
theorem dX4_tell_111 : decode cX4_tell 111 = .ok (.getfield 7, 3) := by decide +kernel
theorem dX4_tell_114 : decode cX4_tell 114 = .ok (.iconst 0, 1) := by decide +kernel
theorem dX4_tell_115 : decode cX4_tell 115 = .ok (.iaload, 1) := by decide +kernel
theorem dX4_tell_116 : decode cX4_tell 116 = .ok (.istore 6, 2) := by decide +kernel
theorem dX4_tell_118 : decode cX4_tell 118 = .ok (.aload_n 0, 1) := by decide +kernel
theorem dX4_tell_119 : decode cX4_tell 119 = .ok (.getfield 7, 3) := by decide +kernel
theorem dX4_tell_122 : decode cX4_tell 122 = .ok (.iconst 0, 1) := by decide +kernel
theorem dX4_tell_123 : decode cX4_tell 123 = .ok (.dup2, 1) := by decide +kernel
theorem dX4_tell_124 : decode cX4_tell 124 = .ok (.iaload, 1) := by decide +kernel
theorem dX4_tell_125 : decode cX4_tell 125 = .ok (.iconst 1, 1) := by decide +kernel
theorem dX4_tell_126 : decode cX4_tell 126 = .ok (.iadd, 1) := by decide +kernel
theorem dX4_tell_127 : decode cX4_tell 127 = .ok (.iastore, 1) := by decide +kernel
theorem dX4_tell_128 : decode cX4_tell 128 = .ok (.aload_n 0, 1) := by decide +kernel
theorem dX4_tell_129 : decode cX4_tell 129 = .ok (.iload 6, 2) := by decide +kernel
theorem dX4_tell_131 : decode cX4_tell 131 = .ok (.iload_n 1, 1) := by decide +kernel
theorem dX4_tell_132 : decode cX4_tell 132 = .ok (.iload_n 2, 1) := by decide +kernel
theorem dX4_tell_133 : decode cX4_tell 133 = .ok (.iload_n 3, 1) := by decide +kernel
theorem dX4_tell_134 : decode cX4_tell 134 = .ok (.iload 4, 2) := by decide +kernel
theorem dX4_tell_136 : decode cX4_tell 136 = .ok (.invokevirtual 124, 3) := by decide +kernel
theorem dX4_tell_139 : decode cX4_tell 139 = .ok (.iload 6, 2) := by decide +kernel
theorem dX4_tell_141 : decode cX4_tell 141 = .ok (.ireturn, 1) := by decide +kernel
theorem dX4_setLead_0 : decode cX4_setLead 0 = .ok (.aload_n 0, 1) := by decide +kernel
theorem dX4_setLead_1 : decode cX4_setLead 1 = .ok (.invokevirtual 121, 3) := by decide +kernel
theorem dX4_setLead_4 : decode cX4_setLead 4 = .ok (.aload_n 0, 1) := by decide +kernel
theorem dX4_setLead_5 : decode cX4_setLead 5 = .ok (.aload_n 0, 1) := by decide +kernel
theorem dX4_setLead_6 : decode cX4_setLead 6 = .ok (.iload_n 1, 1) := by decide +kernel
theorem dX4_setLead_7 : decode cX4_setLead 7 = .ok (.iload_n 2, 1) := by decide +kernel
theorem dX4_setLead_8 : decode cX4_setLead 8 = .ok (.invokevirtual 128, 3) := by decide +kernel
theorem dX4_setLead_11 : decode cX4_setLead 11 = .ok (.invokevirtual 131, 3) := by decide +kernel
theorem dX4_setLead_14 : decode cX4_setLead 14 = .ok (.ireturn, 1) := by decide +kernel
theorem dX4_most_0 : decode cX4_most 0 = .ok (.iload_n 0, 1) := by decide +kernel
theorem dX4_most_1 : decode cX4_most 1 = .ok (.ifCond .ne 8, 3) := by decide +kernel
theorem dX4_most_4 : decode cX4_most 4 = .ok (.bipush 99, 2) := by decide +kernel
theorem dX4_most_6 : decode cX4_most 6 = .ok (.goto 25, 3) := by decide +kernel
theorem dX4_most_9 : decode cX4_most 9 = .ok (.iload_n 0, 1) := by decide +kernel
theorem dX4_most_10 : decode cX4_most 10 = .ok (.iconst 1, 1) := by decide +kernel
theorem dX4_most_11 : decode cX4_most 11 = .ok (.if_icmp .ne 8, 3) := by decide +kernel
theorem dX4_most_14 : decode cX4_most 14 = .ok (.bipush 20, 2) := by decide +kernel
theorem dX4_most_16 : decode cX4_most 16 = .ok (.goto 15, 3) := by decide +kernel
theorem dX4_most_19 : decode cX4_most 19 = .ok (.iload_n 0, 1) := by decide +kernel
theorem dX4_most_20 : decode cX4_most 20 = .ok (.iconst 2, 1) := by decide +kernel
theorem dX4_most_21 : decode cX4_most 21 = .ok (.if_icmp .ne 9, 3) := by decide +kernel
theorem dX4_most_24 : decode cX4_most 24 = .ok (.sipush 999, 3) := by decide +kernel
theorem dX4_most_27 : decode cX4_most 27 = .ok (.goto 4, 3) := by decide +kernel
theorem dX4_most_30 : decode cX4_most 30 = .ok (.iconst 1, 1) := by decide +kernel
theorem dX4_most_31 : decode cX4_most 31 = .ok (.ireturn, 1) := by decide +kernel
theorem dX4_set_0 : decode cX4_set 0 = .ok (.iload_n 1, 1) := by decide +kernel
theorem dX4_set_1 : decode cX4_set 1 = .ok (.iconst 0, 1) := by decide +kernel
theorem dX4_set_2 : decode cX4_set 2 = .ok (.iconst 3, 1) := by decide +kernel
theorem dX4_set_3 : decode cX4_set 3 = .ok (.invokestatic 38, 3) := by decide +kernel
theorem dX4_set_6 : decode cX4_set 6 = .ok (.ifCond .ne 5, 3) := by decide +kernel
theorem dX4_set_9 : decode cX4_set 9 = .ok (.iconst (-1), 1) := by decide +kernel
theorem dX4_set_10 : decode cX4_set 10 = .ok (.ireturn, 1) := by decide +kernel
theorem dX4_set_11 : decode cX4_set 11 = .ok (.iload_n 2, 1) := by decide +kernel
theorem dX4_set_12 : decode cX4_set 12 = .ok (.iload_n 1, 1) := by decide +kernel
theorem dX4_set_13 : decode cX4_set 13 = .ok (.ifCond .ne 7, 3) := by decide +kernel
theorem dX4_set_16 : decode cX4_set 16 = .ok (.iconst 1, 1) := by decide +kernel
theorem dX4_set_17 : decode cX4_set 17 = .ok (.goto 4, 3) := by decide +kernel
theorem dX4_set_20 : decode cX4_set 20 = .ok (.iconst 0, 1) := by decide +kernel
theorem dX4_set_21 : decode cX4_set 21 = .ok (.iload_n 1, 1) := by decide +kernel
theorem dX4_set_22 : decode cX4_set 22 = .ok (.invokestatic 134, 3) := by decide +kernel
theorem dX4_set_25 : decode cX4_set 25 = .ok (.invokestatic 38, 3) := by decide +kernel
theorem dX4_set_28 : decode cX4_set 28 = .ok (.ifCond .ne 6, 3) := by decide +kernel
theorem dX4_set_31 : decode cX4_set 31 = .ok (.bipush (-2), 2) := by decide +kernel
theorem dX4_set_33 : decode cX4_set 33 = .ok (.ireturn, 1) := by decide +kernel
theorem dX4_set_34 : decode cX4_set 34 = .ok (.aload_n 0, 1) := by decide +kernel
theorem dX4_set_35 : decode cX4_set 35 = .ok (.getfield 7, 3) := by decide +kernel
theorem dX4_set_38 : decode cX4_set 38 = .ok (.bipush 7, 2) := by decide +kernel
theorem dX4_set_40 : decode cX4_set 40 = .ok (.iload_n 1, 1) := by decide +kernel
theorem dX4_set_41 : decode cX4_set 41 = .ok (.iadd, 1) := by decide +kernel
theorem dX4_set_42 : decode cX4_set 42 = .ok (.iaload, 1) := by decide +kernel
theorem dX4_set_43 : decode cX4_set 43 = .ok (.istore_n 3, 1) := by decide +kernel
theorem dX4_set_44 : decode cX4_set 44 = .ok (.iload_n 3, 1) := by decide +kernel
theorem dX4_set_45 : decode cX4_set 45 = .ok (.iload_n 2, 1) := by decide +kernel
theorem dX4_set_46 : decode cX4_set 46 = .ok (.if_icmp .ne 6, 3) := by decide +kernel
theorem dX4_set_49 : decode cX4_set 49 = .ok (.bipush (-5), 2) := by decide +kernel
theorem dX4_set_51 : decode cX4_set 51 = .ok (.ireturn, 1) := by decide +kernel
theorem dX4_set_52 : decode cX4_set 52 = .ok (.aload_n 0, 1) := by decide +kernel
theorem dX4_set_53 : decode cX4_set 53 = .ok (.invokevirtual 121, 3) := by decide +kernel
theorem dX4_set_56 : decode cX4_set 56 = .ok (.aload_n 0, 1) := by decide +kernel
theorem dX4_set_57 : decode cX4_set 57 = .ok (.invokevirtual 114, 3) := by decide +kernel
theorem dX4_set_60 : decode cX4_set 60 = .ok (.aload_n 0, 1) := by decide +kernel
theorem dX4_set_61 : decode cX4_set 61 = .ok (.getfield 7, 3) := by decide +kernel
theorem dX4_set_64 : decode cX4_set 64 = .ok (.bipush 7, 2) := by decide +kernel
theorem dX4_set_66 : decode cX4_set 66 = .ok (.iload_n 1, 1) := by decide +kernel
theorem dX4_set_67 : decode cX4_set 67 = .ok (.iadd, 1) := by decide +kernel
theorem dX4_set_68 : decode cX4_set 68 = .ok (.iload_n 2, 1) := by decide +kernel
theorem dX4_set_69 : decode cX4_set 69 = .ok (.iastore, 1) := by decide +kernel
theorem dX4_set_70 : decode cX4_set 70 = .ok (.iload_n 3, 1) := by decide +kernel
theorem dX4_set_71 : decode cX4_set 71 = .ok (.ireturn, 1) := by decide +kernel
theorem dX4_cut_0 : decode cX4_cut 0 = .ok (.aload_n 0, 1) := by decide +kernel
theorem dX4_cut_1 : decode cX4_cut 1 = .ok (.invokevirtual 121, 3) := by decide +kernel
theorem dX4_cut_4 : decode cX4_cut 4 = .ok (.aload_n 0, 1) := by decide +kernel
theorem dX4_cut_5 : decode cX4_cut 5 = .ok (.aload_n 0, 1) := by decide +kernel
theorem dX4_cut_6 : decode cX4_cut 6 = .ok (.iload_n 1, 1) := by decide +kernel
theorem dX4_cut_7 : decode cX4_cut 7 = .ok (.invokevirtual 137, 3) := by decide +kernel
theorem dX4_cut_10 : decode cX4_cut 10 = .ok (.invokevirtual 131, 3) := by decide +kernel
theorem dX4_cut_13 : decode cX4_cut 13 = .ok (.ireturn, 1) := by decide +kernel
theorem dX4_pause_0 : decode cX4_pause 0 = .ok (.aload_n 0, 1) := by decide +kernel
theorem dX4_pause_1 : decode cX4_pause 1 = .ok (.invokevirtual 121, 3) := by decide +kernel
theorem dX4_pause_4 : decode cX4_pause 4 = .ok (.iload_n 1, 1) := by decide +kernel
theorem dX4_pause_5 : decode cX4_pause 5 = .ok (.iconst 1, 1) := by decide +kernel
theorem dX4_pause_6 : decode cX4_pause 6 = .ok (.sipush 999, 3) := by decide +kernel
theorem dX4_pause_9 : decode cX4_pause 9 = .ok (.invokestatic 38, 3) := by decide +kernel
theorem dX4_pause_12 : decode cX4_pause 12 = .ok (.ifCond .eq 15, 3) := by decide +kernel
theorem dX4_pause_15 : decode cX4_pause 15 = .ok (.aload_n 0, 1) := by decide +kernel
theorem dX4_pause_16 : decode cX4_pause 16 = .ok (.aload_n 0, 1) := by decide +kernel
theorem dX4_pause_17 : decode cX4_pause 17 = .ok (.iload_n 1, 1) := by decide +kernel
theorem dX4_pause_18 : decode cX4_pause 18 = .ok (.invokevirtual 140, 3) := by decide +kernel
theorem dX4_pause_21 : decode cX4_pause 21 = .ok (.invokevirtual 131, 3) := by decide +kernel
theorem dX4_pause_24 : decode cX4_pause 24 = .ok (.goto 5, 3) := by decide +kernel
theorem dX4_pause_27 : decode cX4_pause 27 = .ok (.bipush (-2), 2) := by decide +kernel
theorem dX4_pause_29 : decode cX4_pause 29 = .ok (.ireturn, 1) := by decide +kernel
theorem dX4_clean_0 : decode cX4_clean 0 = .ok (.aload_n 0, 1) := by decide +kernel
theorem dX4_clean_1 : decode cX4_clean 1 = .ok (.invokevirtual 121, 3) := by decide +kernel
theorem dX4_clean_4 : decode cX4_clean 4 = .ok (.aload_n 0, 1) := by decide +kernel
theorem dX4_clean_5 : decode cX4_clean 5 = .ok (.aload_n 0, 1) := by decide +kernel
theorem dX4_clean_6 : decode cX4_clean 6 = .ok (.invokevirtual 143, 3) := by decide +kernel
theorem dX4_clean_9 : decode cX4_clean 9 = .ok (.invokevirtual 131, 3) := by decide +kernel
theorem dX4_clean_12 : decode cX4_clean 12 = .ok (.ireturn, 1) := by decide +kernel
theorem dX4_type_0 : decode cX4_type 0 = .ok (.aload_n 0, 1) := by decide +kernel
theorem dX4_type_1 : decode cX4_type 1 = .ok (.getfield 146, 3) := by decide +kernel
theorem dX4_type_4 : decode cX4_type 4 = .ok (.bipush 60, 2) := by decide +kernel
theorem dX4_type_6 : decode cX4_type 6 = .ok (.if_icmp .ne 6, 3) := by decide +kernel
theorem dX4_type_9 : decode cX4_type 9 = .ok (.bipush (-3), 2) := by decide +kernel
theorem dX4_type_11 : decode cX4_type 11 = .ok (.ireturn, 1) := by decide +kernel
theorem dX4_type_12 : decode cX4_type 12 = .ok (.aload_n 0, 1) := by decide +kernel
theorem dX4_type_13 : decode cX4_type 13 = .ok (.getfield 25, 3) := by decide +kernel
theorem dX4_type_16 : decode cX4_type 16 = .ok (.aload_n 0, 1) := by decide +kernel
theorem dX4_type_17 : decode cX4_type 17 = .ok (.getfield 146, 3) := by decide +kernel
theorem dX4_type_20 : decode cX4_type 20 = .ok (.iload_n 1, 1) := by decide +kernel
theorem dX4_type_21 : decode cX4_type 21 = .ok (.iastore, 1) := by decide +kernel
theorem dX4_type_22 : decode cX4_type 22 = .ok (.aload_n 0, 1) := by decide +kernel
theorem dX4_type_23 : decode cX4_type 23 = .ok (.dup, 1) := by decide +kernel
theorem dX4_type_24 : decode cX4_type 24 = .ok (.getfield 146, 3) := by decide +kernel
theorem dX4_type_27 : decode cX4_type 27 = .ok (.iconst 1, 1) := by decide +kernel
theorem dX4_type_28 : decode cX4_type 28 = .ok (.iadd, 1) := by decide +kernel
theorem dX4_type_29 : decode cX4_type 29 = .ok (.putfield 146, 3) := by decide +kernel
theorem dX4_type_32 : decode cX4_type 32 = .ok (.aload_n 0, 1) := by decide +kernel
theorem dX4_type_33 : decode cX4_type 33 = .ok (.getfield 146, 3) := by decide +kernel
theorem dX4_type_36 : decode cX4_type 36 = .ok (.ireturn, 1) := by decide +kernel
theorem dX4_clearText_0 : decode cX4_clearText 0 = .ok (.aload_n 0, 1) := by decide +kernel
theorem dX4_clearText_1 : decode cX4_clearText 1 = .ok (.getfield 146, 3) := by decide +kernel
theorem dX4_clearText_4 : decode cX4_clearText 4 = .ok (.istore_n 1, 1) := by decide +kernel
theorem dX4_clearText_5 : decode cX4_clearText 5 = .ok (.aload_n 0, 1) := by decide +kernel
theorem dX4_clearText_6 : decode cX4_clearText 6 = .ok (.iconst 0, 1) := by decide +kernel
theorem dX4_clearText_7 : decode cX4_clearText 7 = .ok (.putfield 146, 3) := by decide +kernel
theorem dX4_clearText_10 : decode cX4_clearText 10 = .ok (.iload_n 1, 1) := by decide +kernel
theorem dX4_clearText_11 : decode cX4_clearText 11 = .ok (.ireturn, 1) := by decide +kernel
theorem dX4_isNext_0 : decode cX4_isNext 0 = .ok (.aload_n 0, 1) := by decide +kernel
theorem dX4_isNext_1 : decode cX4_isNext 1 = .ok (.getfield 149, 3) := by decide +kernel
theorem dX4_isNext_4 : decode cX4_isNext 4 = .ok (.ifCond .ne 35, 3) := by decide +kernel
theorem dX4_isNext_7 : decode cX4_isNext 7 = .ok (.aload_n 0, 1) := by decide +kernel
theorem dX4_isNext_8 : decode cX4_isNext 8 = .ok (.getfield 153, 3) := by decide +kernel
theorem dX4_isNext_11 : decode cX4_isNext 11 = .ok (.aload_n 0, 1) := by decide +kernel
theorem dX4_isNext_12 : decode cX4_isNext 12 = .ok (.getfield 146, 3) := by decide +kernel
theorem dX4_isNext_15 : decode cX4_isNext 15 = .ok (.if_icmp .ge 24, 3) := by decide +kernel
theorem dX4_isNext_18 : decode cX4_isNext 18 = .ok (.aload_n 0, 1) := by decide +kernel
theorem dX4_isNext_19 : decode cX4_isNext 19 = .ok (.getfield 25, 3) := by decide +kernel
theorem dX4_isNext_22 : decode cX4_isNext 22 = .ok (.aload_n 0, 1) := by decide +kernel
theorem dX4_isNext_23 : decode cX4_isNext 23 = .ok (.getfield 153, 3) := by decide +kernel
theorem dX4_isNext_26 : decode cX4_isNext 26 = .ok (.iaload, 1) := by decide +kernel
theorem dX4_isNext_27 : decode cX4_isNext 27 = .ok (.iload_n 1, 1) := by decide +kernel
theorem dX4_isNext_28 : decode cX4_isNext 28 = .ok (.iload_n 2, 1) := by decide +kernel
theorem dX4_isNext_29 : decode cX4_isNext 29 = .ok (.invokestatic 38, 3) := by decide +kernel
theorem dX4_isNext_32 : decode cX4_isNext 32 = .ok (.ifCond .eq 7, 3) := by decide +kernel
theorem dX4_isNext_35 : decode cX4_isNext 35 = .ok (.iconst 1, 1) := by decide +kernel
theorem dX4_isNext_36 : decode cX4_isNext 36 = .ok (.goto 4, 3) := by decide +kernel
theorem dX4_isNext_39 : decode cX4_isNext 39 = .ok (.iconst 0, 1) := by decide +kernel
theorem dX4_isNext_40 : decode cX4_isNext 40 = .ok (.ireturn, 1) := by decide +kernel
theorem dX4_takesOne_0 : decode cX4_takesOne 0 = .ok (.aload_n 0, 1) := by decide +kernel
theorem dX4_takesOne_1 : decode cX4_takesOne 1 = .ok (.getfield 153, 3) := by decide +kernel
theorem dX4_takesOne_4 : decode cX4_takesOne 4 = .ok (.aload_n 0, 1) := by decide +kernel
theorem dX4_takesOne_5 : decode cX4_takesOne 5 = .ok (.getfield 146, 3) := by decide +kernel
theorem dX4_takesOne_8 : decode cX4_takesOne 8 = .ok (.if_icmp .ge 15, 3) := by decide +kernel
theorem dX4_takesOne_11 : decode cX4_takesOne 11 = .ok (.aload_n 0, 1) := by decide +kernel
theorem dX4_takesOne_12 : decode cX4_takesOne 12 = .ok (.getfield 25, 3) := by decide +kernel
theorem dX4_takesOne_15 : decode cX4_takesOne 15 = .ok (.aload_n 0, 1) := by decide +kernel
theorem dX4_takesOne_16 : decode cX4_takesOne 16 = .ok (.getfield 153, 3) := by decide +kernel
theorem dX4_takesOne_19 : decode cX4_takesOne 19 = .ok (.iaload, 1) := by decide +kernel
theorem dX4_takesOne_20 : decode cX4_takesOne 20 = .ok (.goto 4, 3) := by decide +kernel
theorem dX4_takesOne_23 : decode cX4_takesOne 23 = .ok (.iconst 0, 1) := by decide +kernel
theorem dX4_takesOne_24 : decode cX4_takesOne 24 = .ok (.istore_n 3, 1) := by decide +kernel
theorem dX4_takesOne_25 : decode cX4_takesOne 25 = .ok (.aload_n 0, 1) := by decide +kernel
theorem dX4_takesOne_26 : decode cX4_takesOne 26 = .ok (.aload_n 0, 1) := by decide +kernel
theorem dX4_takesOne_27 : decode cX4_takesOne 27 = .ok (.getfield 149, 3) := by decide +kernel
theorem dX4_takesOne_30 : decode cX4_takesOne 30 = .ok (.ifCond .ne 12, 3) := by decide +kernel
theorem dX4_takesOne_33 : decode cX4_takesOne 33 = .ok (.iload_n 3, 1) := by decide +kernel
theorem dX4_takesOne_34 : decode cX4_takesOne 34 = .ok (.iload_n 1, 1) := by decide +kernel
theorem dX4_takesOne_35 : decode cX4_takesOne 35 = .ok (.iload_n 2, 1) := by decide +kernel
theorem dX4_takesOne_36 : decode cX4_takesOne 36 = .ok (.invokestatic 38, 3) := by decide +kernel
theorem dX4_takesOne_39 : decode cX4_takesOne 39 = .ok (.ifCond .ne 7, 3) := by decide +kernel
theorem dX4_takesOne_42 : decode cX4_takesOne 42 = .ok (.iconst 1, 1) := by decide +kernel
theorem dX4_takesOne_43 : decode cX4_takesOne 43 = .ok (.goto 4, 3) := by decide +kernel
theorem dX4_takesOne_46 : decode cX4_takesOne 46 = .ok (.iconst 0, 1) := by decide +kernel
theorem dX4_takesOne_47 : decode cX4_takesOne 47 = .ok (.putfield 149, 3) := by decide +kernel
theorem dX4_takesOne_50 : decode cX4_takesOne 50 = .ok (.aload_n 0, 1) := by decide +kernel
theorem dX4_takesOne_51 : decode cX4_takesOne 51 = .ok (.dup, 1) := by decide +kernel
theorem dX4_takesOne_52 : decode cX4_takesOne 52 = .ok (.getfield 153, 3) := by decide +kernel
theorem dX4_takesOne_55 : decode cX4_takesOne 55 = .ok (.aload_n 0, 1) := by decide +kernel
theorem dX4_takesOne_56 : decode cX4_takesOne 56 = .ok (.getfield 149, 3) := by decide +kernel
theorem dX4_takesOne_59 : decode cX4_takesOne 59 = .ok (.ifCond .eq 7, 3) := by decide +kernel
theorem dX4_takesOne_62 : decode cX4_takesOne 62 = .ok (.iconst 0, 1) := by decide +kernel
theorem dX4_takesOne_63 : decode cX4_takesOne 63 = .ok (.goto 4, 3) := by decide +kernel
theorem dX4_takesOne_66 : decode cX4_takesOne 66 = .ok (.iconst 1, 1) := by decide +kernel
theorem dX4_takesOne_67 : decode cX4_takesOne 67 = .ok (.iadd, 1) := by decide +kernel
theorem dX4_takesOne_68 : decode cX4_takesOne 68 = .ok (.putfield 153, 3) := by decide +kernel
theorem dX4_takesOne_71 : decode cX4_takesOne 71 = .ok (.iload_n 3, 1) := by decide +kernel
theorem dX4_takesOne_72 : decode cX4_takesOne 72 = .ok (.iload_n 1, 1) := by decide +kernel
theorem dX4_takesOne_73 : decode cX4_takesOne 73 = .ok (.isub, 1) := by decide +kernel
theorem dX4_takesOne_74 : decode cX4_takesOne 74 = .ok (.ireturn, 1) := by decide +kernel
theorem dX4_takesNumber_0 : decode cX4_takesNumber 0 = .ok (.iload_n 1, 1) := by decide +kernel
theorem dX4_takesNumber_1 : decode cX4_takesNumber 1 = .ok (.aload_n 0, 1) := by decide +kernel
theorem dX4_takesNumber_2 : decode cX4_takesNumber 2 = .ok (.bipush 48, 2) := by decide +kernel
theorem dX4_takesNumber_4 : decode cX4_takesNumber 4 = .ok (.iload_n 1, 1) := by decide +kernel
theorem dX4_takesNumber_5 : decode cX4_takesNumber 5 = .ok (.iadd, 1) := by decide +kernel
theorem dX4_takesNumber_6 : decode cX4_takesNumber 6 = .ok (.bipush 57, 2) := by decide +kernel
theorem dX4_takesNumber_8 : decode cX4_takesNumber 8 = .ok (.invokevirtual 156, 3) := by decide +kernel
theorem dX4_takesNumber_11 : decode cX4_takesNumber 11 = .ok (.iadd, 1) := by decide +kernel
theorem dX4_takesNumber_12 : decode cX4_takesNumber 12 = .ok (.istore_n 3, 1) := by decide +kernel
theorem dX4_takesNumber_13 : decode cX4_takesNumber 13 = .ok (.iload_n 3, 1) := by decide +kernel
theorem dX4_takesNumber_14 : decode cX4_takesNumber 14 = .ok (.ifCond .le 7, 3) := by decide +kernel
theorem dX4_takesNumber_17 : decode cX4_takesNumber 17 = .ok (.iconst 1, 1) := by decide +kernel
theorem dX4_takesNumber_18 : decode cX4_takesNumber 18 = .ok (.goto 4, 3) := by decide +kernel
theorem dX4_takesNumber_21 : decode cX4_takesNumber 21 = .ok (.iconst 0, 1) := by decide +kernel
theorem dX4_takesNumber_22 : decode cX4_takesNumber 22 = .ok (.istore 4, 2) := by decide +kernel
theorem dX4_takesNumber_24 : decode cX4_takesNumber 24 = .ok (.iload 4, 2) := by decide +kernel
theorem dX4_takesNumber_26 : decode cX4_takesNumber 26 = .ok (.ifCond .eq 68, 3) := by decide +kernel
theorem dX4_takesNumber_29 : decode cX4_takesNumber 29 = .ok (.aload_n 0, 1) := by decide +kernel
theorem dX4_takesNumber_30 : decode cX4_takesNumber 30 = .ok (.bipush 48, 2) := by decide +kernel
theorem dX4_takesNumber_32 : decode cX4_takesNumber 32 = .ok (.bipush 57, 2) := by decide +kernel
theorem dX4_takesNumber_34 : decode cX4_takesNumber 34 = .ok (.invokevirtual 159, 3) := by decide +kernel
theorem dX4_takesNumber_37 : decode cX4_takesNumber 37 = .ok (.ifCond .eq 28, 3) := by decide +kernel
theorem dX4_takesNumber_40 : decode cX4_takesNumber 40 = .ok (.bipush 10, 2) := by decide +kernel
theorem dX4_takesNumber_42 : decode cX4_takesNumber 42 = .ok (.iload_n 3, 1) := by decide +kernel
theorem dX4_takesNumber_43 : decode cX4_takesNumber 43 = .ok (.imul, 1) := by decide +kernel
theorem dX4_takesNumber_44 : decode cX4_takesNumber 44 = .ok (.aload_n 0, 1) := by decide +kernel
theorem dX4_takesNumber_45 : decode cX4_takesNumber 45 = .ok (.getfield 25, 3) := by decide +kernel
theorem dX4_takesNumber_48 : decode cX4_takesNumber 48 = .ok (.aload_n 0, 1) := by decide +kernel
theorem dX4_takesNumber_49 : decode cX4_takesNumber 49 = .ok (.getfield 153, 3) := by decide +kernel
theorem dX4_takesNumber_52 : decode cX4_takesNumber 52 = .ok (.iaload, 1) := by decide +kernel
theorem dX4_takesNumber_53 : decode cX4_takesNumber 53 = .ok (.iadd, 1) := by decide +kernel
theorem dX4_takesNumber_54 : decode cX4_takesNumber 54 = .ok (.bipush 48, 2) := by decide +kernel
theorem dX4_takesNumber_56 : decode cX4_takesNumber 56 = .ok (.isub, 1) := by decide +kernel
theorem dX4_takesNumber_57 : decode cX4_takesNumber 57 = .ok (.iload_n 2, 1) := by decide +kernel
theorem dX4_takesNumber_58 : decode cX4_takesNumber 58 = .ok (.if_icmp .gt 7, 3) := by decide +kernel
theorem dX4_takesNumber_61 : decode cX4_takesNumber 61 = .ok (.iconst 1, 1) := by decide +kernel
theorem dX4_takesNumber_62 : decode cX4_takesNumber 62 = .ok (.goto 4, 3) := by decide +kernel
theorem dX4_takesNumber_65 : decode cX4_takesNumber 65 = .ok (.iconst 0, 1) := by decide +kernel
theorem dX4_takesNumber_66 : decode cX4_takesNumber 66 = .ok (.istore 4, 2) := by decide +kernel
theorem dX4_takesNumber_68 : decode cX4_takesNumber 68 = .ok (.iload 4, 2) := by decide +kernel
theorem dX4_takesNumber_70 : decode cX4_takesNumber 70 = .ok (.ifCond .eq 19, 3) := by decide +kernel
theorem dX4_takesNumber_73 : decode cX4_takesNumber 73 = .ok (.bipush 10, 2) := by decide +kernel
theorem dX4_takesNumber_75 : decode cX4_takesNumber 75 = .ok (.iload_n 3, 1) := by decide +kernel
theorem dX4_takesNumber_76 : decode cX4_takesNumber 76 = .ok (.imul, 1) := by decide +kernel
theorem dX4_takesNumber_77 : decode cX4_takesNumber 77 = .ok (.aload_n 0, 1) := by decide +kernel
theorem dX4_takesNumber_78 : decode cX4_takesNumber 78 = .ok (.bipush 48, 2) := by decide +kernel
theorem dX4_takesNumber_80 : decode cX4_takesNumber 80 = .ok (.bipush 57, 2) := by decide +kernel
theorem dX4_takesNumber_82 : decode cX4_takesNumber 82 = .ok (.invokevirtual 156, 3) := by decide +kernel
theorem dX4_takesNumber_85 : decode cX4_takesNumber 85 = .ok (.iadd, 1) := by decide +kernel
theorem dX4_takesNumber_86 : decode cX4_takesNumber 86 = .ok (.goto 4, 3) := by decide +kernel
theorem dX4_takesNumber_89 : decode cX4_takesNumber 89 = .ok (.iload_n 3, 1) := by decide +kernel
theorem dX4_takesNumber_90 : decode cX4_takesNumber 90 = .ok (.istore_n 3, 1) := by decide +kernel
theorem dX4_takesNumber_91 : decode cX4_takesNumber 91 = .ok (.goto (-67), 3) := by decide +kernel
theorem dX4_takesNumber_94 : decode cX4_takesNumber 94 = .ok (.iload_n 3, 1) := by decide +kernel
theorem dX4_takesNumber_95 : decode cX4_takesNumber 95 = .ok (.ireturn, 1) := by decide +kernel
theorem dX4_readThing_0 : decode cX4_readThing 0 = .ok (.aload_n 0, 1) := by decide +kernel
theorem dX4_readThing_1 : decode cX4_readThing 1 = .ok (.aload_n 0, 1) := by decide +kernel
theorem dX4_readThing_2 : decode cX4_readThing 2 = .ok (.getfield 153, 3) := by decide +kernel
theorem dX4_readThing_5 : decode cX4_readThing 5 = .ok (.aload_n 0, 1) := by decide +kernel
theorem dX4_readThing_6 : decode cX4_readThing 6 = .ok (.getfield 146, 3) := by decide +kernel
theorem dX4_readThing_9 : decode cX4_readThing 9 = .ok (.if_icmp .ge 15, 3) := by decide +kernel
theorem dX4_readThing_12 : decode cX4_readThing 12 = .ok (.aload_n 0, 1) := by decide +kernel
theorem dX4_readThing_13 : decode cX4_readThing 13 = .ok (.getfield 25, 3) := by decide +kernel
theorem dX4_readThing_16 : decode cX4_readThing 16 = .ok (.aload_n 0, 1) := by decide +kernel
theorem dX4_readThing_17 : decode cX4_readThing 17 = .ok (.getfield 153, 3) := by decide +kernel
theorem dX4_readThing_20 : decode cX4_readThing 20 = .ok (.iaload, 1) := by decide +kernel
theorem dX4_readThing_21 : decode cX4_readThing 21 = .ok (.goto 4, 3) := by decide +kernel
theorem dX4_readThing_24 : decode cX4_readThing 24 = .ok (.iconst 0, 1) := by decide +kernel
theorem dX4_readThing_25 : decode cX4_readThing 25 = .ok (.putfield 162, 3) := by decide +kernel
theorem dX4_readThing_28 : decode cX4_readThing 28 = .ok (.aload_n 0, 1) := by decide +kernel
theorem dX4_readThing_29 : decode cX4_readThing 29 = .ok (.aload_n 0, 1) := by decide +kernel
theorem dX4_readThing_30 : decode cX4_readThing 30 = .ok (.getfield 149, 3) := by decide +kernel
theorem dX4_readThing_33 : decode cX4_readThing 33 = .ok (.ifCond .ne 39, 3) := by decide +kernel
theorem dX4_readThing_36 : decode cX4_readThing 36 = .ok (.aload_n 0, 1) := by decide +kernel
theorem dX4_readThing_37 : decode cX4_readThing 37 = .ok (.getfield 162, 3) := by decide +kernel
theorem dX4_readThing_40 : decode cX4_readThing 40 = .ok (.bipush 99, 2) := by decide +kernel
theorem dX4_readThing_42 : decode cX4_readThing 42 = .ok (.if_icmp .eq 34, 3) := by decide +kernel
theorem dX4_readThing_45 : decode cX4_readThing 45 = .ok (.aload_n 0, 1) := by decide +kernel
theorem dX4_readThing_46 : decode cX4_readThing 46 = .ok (.getfield 162, 3) := by decide +kernel
theorem dX4_readThing_49 : decode cX4_readThing 49 = .ok (.bipush 108, 2) := by decide +kernel
theorem dX4_readThing_51 : decode cX4_readThing 51 = .ok (.if_icmp .eq 25, 3) := by decide +kernel
theorem dX4_readThing_54 : decode cX4_readThing 54 = .ok (.aload_n 0, 1) := by decide +kernel
theorem dX4_readThing_55 : decode cX4_readThing 55 = .ok (.getfield 162, 3) := by decide +kernel
theorem dX4_readThing_58 : decode cX4_readThing 58 = .ok (.bipush 119, 2) := by decide +kernel
theorem dX4_readThing_60 : decode cX4_readThing 60 = .ok (.if_icmp .eq 16, 3) := by decide +kernel
theorem dX4_readThing_63 : decode cX4_readThing 63 = .ok (.aload_n 0, 1) := by decide +kernel
theorem dX4_readThing_64 : decode cX4_readThing 64 = .ok (.getfield 162, 3) := by decide +kernel
theorem dX4_readThing_67 : decode cX4_readThing 67 = .ok (.bipush 107, 2) := by decide +kernel
theorem dX4_readThing_69 : decode cX4_readThing 69 = .ok (.if_icmp .eq 7, 3) := by decide +kernel
theorem dX4_readThing_72 : decode cX4_readThing 72 = .ok (.iconst 1, 1) := by decide +kernel
theorem dX4_readThing_73 : decode cX4_readThing 73 = .ok (.goto 4, 3) := by decide +kernel
theorem dX4_readThing_76 : decode cX4_readThing 76 = .ok (.iconst 0, 1) := by decide +kernel
theorem dX4_readThing_77 : decode cX4_readThing 77 = .ok (.putfield 149, 3) := by decide +kernel
theorem dX4_readThing_80 : decode cX4_readThing 80 = .ok (.aload_n 0, 1) := by decide +kernel
theorem dX4_readThing_81 : decode cX4_readThing 81 = .ok (.dup, 1) := by decide +kernel
theorem dX4_readThing_82 : decode cX4_readThing 82 = .ok (.getfield 153, 3) := by decide +kernel
theorem dX4_readThing_85 : decode cX4_readThing 85 = .ok (.aload_n 0, 1) := by decide +kernel
theorem dX4_readThing_86 : decode cX4_readThing 86 = .ok (.getfield 149, 3) := by decide +kernel
theorem dX4_readThing_89 : decode cX4_readThing 89 = .ok (.ifCond .eq 7, 3) := by decide +kernel
theorem dX4_readThing_92 : decode cX4_readThing 92 = .ok (.iconst 0, 1) := by decide +kernel
theorem dX4_readThing_93 : decode cX4_readThing 93 = .ok (.goto 4, 3) := by decide +kernel
theorem dX4_readThing_96 : decode cX4_readThing 96 = .ok (.iconst 1, 1) := by decide +kernel
theorem dX4_readThing_97 : decode cX4_readThing 97 = .ok (.iadd, 1) := by decide +kernel
theorem dX4_readThing_98 : decode cX4_readThing 98 = .ok (.putfield 153, 3) := by decide +kernel
theorem dX4_readThing_101 : decode cX4_readThing 101 = .ok (.aload_n 0, 1) := by decide +kernel
theorem dX4_readThing_102 : decode cX4_readThing 102 = .ok (.aload_n 0, 1) := by decide +kernel
theorem dX4_readThing_103 : decode cX4_readThing 103 = .ok (.getfield 162, 3) := by decide +kernel
theorem dX4_readThing_106 : decode cX4_readThing 106 = .ok (.bipush 107, 2) := by decide +kernel
theorem dX4_readThing_108 : decode cX4_readThing 108 = .ok (.if_icmp .ne 7, 3) := by decide +kernel
theorem dX4_readThing_111 : decode cX4_readThing 111 = .ok (.iconst 0, 1) := by decide +kernel
theorem dX4_readThing_112 : decode cX4_readThing 112 = .ok (.goto 30, 3) := by decide +kernel
theorem dX4_readThing_115 : decode cX4_readThing 115 = .ok (.aload_n 0, 1) := by decide +kernel
theorem dX4_readThing_116 : decode cX4_readThing 116 = .ok (.getfield 162, 3) := by decide +kernel
theorem dX4_readThing_119 : decode cX4_readThing 119 = .ok (.bipush 119, 2) := by decide +kernel
theorem dX4_readThing_121 : decode cX4_readThing 121 = .ok (.if_icmp .ne 14, 3) := by decide +kernel
theorem dX4_readThing_124 : decode cX4_readThing 124 = .ok (.aload_n 0, 1) := by decide +kernel
theorem dX4_readThing_125 : decode cX4_readThing 125 = .ok (.iconst 1, 1) := by decide +kernel
theorem dX4_readThing_126 : decode cX4_readThing 126 = .ok (.sipush 999, 3) := by decide +kernel
theorem dX4_readThing_129 : decode cX4_readThing 129 = .ok (.invokevirtual 165, 3) := by decide +kernel
theorem dX4_readThing_132 : decode cX4_readThing 132 = .ok (.goto 10, 3) := by decide +kernel
theorem dX4_readThing_135 : decode cX4_readThing 135 = .ok (.aload_n 0, 1) := by decide +kernel
theorem dX4_readThing_136 : decode cX4_readThing 136 = .ok (.iconst 0, 1) := by decide +kernel
theorem dX4_readThing_137 : decode cX4_readThing 137 = .ok (.bipush 11, 2) := by decide +kernel
theorem dX4_readThing_139 : decode cX4_readThing 139 = .ok (.invokevirtual 165, 3) := by decide +kernel
theorem dX4_readThing_142 : decode cX4_readThing 142 = .ok (.putfield 168, 3) := by decide +kernel
theorem dX4_readThing_145 : decode cX4_readThing 145 = .ok (.aload_n 0, 1) := by decide +kernel
theorem dX4_readThing_146 : decode cX4_readThing 146 = .ok (.iconst 0, 1) := by decide +kernel
theorem dX4_readThing_147 : decode cX4_readThing 147 = .ok (.putfield 171, 3) := by decide +kernel
theorem dX4_readThing_150 : decode cX4_readThing 150 = .ok (.aload_n 0, 1) := by decide +kernel
theorem dX4_readThing_151 : decode cX4_readThing 151 = .ok (.getfield 162, 3) := by decide +kernel
theorem dX4_readThing_154 : decode cX4_readThing 154 = .ok (.bipush 108, 2) := by decide +kernel
theorem dX4_readThing_156 : decode cX4_readThing 156 = .ok (.if_icmp .ne 24, 3) := by decide +kernel
theorem dX4_readThing_159 : decode cX4_readThing 159 = .ok (.aload_n 0, 1) := by decide +kernel
theorem dX4_readThing_160 : decode cX4_readThing 160 = .ok (.bipush 64, 2) := by decide +kernel
theorem dX4_readThing_162 : decode cX4_readThing 162 = .ok (.bipush 64, 2) := by decide +kernel
theorem dX4_readThing_164 : decode cX4_readThing 164 = .ok (.invokevirtual 156, 3) := by decide +kernel
theorem dX4_readThing_167 : decode cX4_readThing 167 = .ok (.istore_n 1, 1) := by decide +kernel
theorem dX4_readThing_168 : decode cX4_readThing 168 = .ok (.aload_n 0, 1) := by decide +kernel
theorem dX4_readThing_169 : decode cX4_readThing 169 = .ok (.aload_n 0, 1) := by decide +kernel
theorem dX4_readThing_170 : decode cX4_readThing 170 = .ok (.bipush 48, 2) := by decide +kernel
theorem dX4_readThing_172 : decode cX4_readThing 172 = .ok (.bipush 51, 2) := by decide +kernel
theorem dX4_readThing_174 : decode cX4_readThing 174 = .ok (.invokevirtual 156, 3) := by decide +kernel
theorem dX4_readThing_177 : decode cX4_readThing 177 = .ok (.putfield 171, 3) := by decide +kernel
theorem dX4_readThing_180 : decode cX4_readThing 180 = .ok (.return_, 1) := by decide +kernel
theorem dX4_does_0 : decode cX4_does 0 = .ok (.aload_n 0, 1) := by decide +kernel
theorem dX4_does_1 : decode cX4_does 1 = .ok (.getfield 162, 3) := by decide +kernel
theorem dX4_does_4 : decode cX4_does 4 = .ok (.lookupswitch 67 #[(99, 36), (108, 45), (119, 58)], 36) := by decide +kernel
theorem dX4_does_40 : decode cX4_does 40 = .ok (.aload_n 0, 1) := by decide +kernel
theorem dX4_does_41 : decode cX4_does 41 = .ok (.aload_n 0, 1) := by decide +kernel
theorem dX4_does_42 : decode cX4_does 42 = .ok (.getfield 168, 3) := by decide +kernel
theorem dX4_does_45 : decode cX4_does 45 = .ok (.invokevirtual 137, 3) := by decide +kernel
theorem dX4_does_48 : decode cX4_does 48 = .ok (.ireturn, 1) := by decide +kernel
theorem dX4_does_49 : decode cX4_does 49 = .ok (.aload_n 0, 1) := by decide +kernel
theorem dX4_does_50 : decode cX4_does 50 = .ok (.aload_n 0, 1) := by decide +kernel
theorem dX4_does_51 : decode cX4_does 51 = .ok (.getfield 168, 3) := by decide +kernel
theorem dX4_does_54 : decode cX4_does 54 = .ok (.aload_n 0, 1) := by decide +kernel
theorem dX4_does_55 : decode cX4_does 55 = .ok (.getfield 171, 3) := by decide +kernel
theorem dX4_does_58 : decode cX4_does 58 = .ok (.invokevirtual 128, 3) := by decide +kernel
theorem dX4_does_61 : decode cX4_does 61 = .ok (.ireturn, 1) := by decide +kernel
theorem dX4_does_62 : decode cX4_does 62 = .ok (.aload_n 0, 1) := by decide +kernel
theorem dX4_does_63 : decode cX4_does 63 = .ok (.aload_n 0, 1) := by decide +kernel
theorem dX4_does_64 : decode cX4_does 64 = .ok (.getfield 168, 3) := by decide +kernel
theorem dX4_does_67 : decode cX4_does 67 = .ok (.invokevirtual 140, 3) := by decide +kernel
theorem dX4_does_70 : decode cX4_does 70 = .ok (.ireturn, 1) := by decide +kernel
theorem dX4_does_71 : decode cX4_does 71 = .ok (.aload_n 0, 1) := by decide +kernel
theorem dX4_does_72 : decode cX4_does 72 = .ok (.invokevirtual 143, 3) := by decide +kernel
theorem dX4_does_75 : decode cX4_does 75 = .ok (.ireturn, 1) := by decide +kernel
theorem dX4_runs_0 : decode cX4_runs 0 = .ok (.aload_n 0, 1) := by decide +kernel
theorem dX4_runs_1 : decode cX4_runs 1 = .ok (.iconst 0, 1) := by decide +kernel
theorem dX4_runs_2 : decode cX4_runs 2 = .ok (.putfield 153, 3) := by decide +kernel
theorem dX4_runs_5 : decode cX4_runs 5 = .ok (.aload_n 0, 1) := by decide +kernel
theorem dX4_runs_6 : decode cX4_runs 6 = .ok (.iconst 0, 1) := by decide +kernel
theorem dX4_runs_7 : decode cX4_runs 7 = .ok (.putfield 149, 3) := by decide +kernel
theorem dX4_runs_10 : decode cX4_runs 10 = .ok (.aload_n 0, 1) := by decide +kernel
theorem dX4_runs_11 : decode cX4_runs 11 = .ok (.iconst 0, 1) := by decide +kernel
theorem dX4_runs_12 : decode cX4_runs 12 = .ok (.putfield 174, 3) := by decide +kernel
theorem dX4_runs_15 : decode cX4_runs 15 = .ok (.iconst 0, 1) := by decide +kernel
theorem dX4_runs_16 : decode cX4_runs 16 = .ok (.istore_n 2, 1) := by decide +kernel
theorem dX4_runs_17 : decode cX4_runs 17 = .ok (.iconst 1, 1) := by decide +kernel
theorem dX4_runs_18 : decode cX4_runs 18 = .ok (.istore_n 3, 1) := by decide +kernel
theorem dX4_runs_19 : decode cX4_runs 19 = .ok (.iload_n 3, 1) := by decide +kernel
theorem dX4_runs_20 : decode cX4_runs 20 = .ok (.ifCond .eq 119, 3) := by decide +kernel
theorem dX4_runs_23 : decode cX4_runs 23 = .ok (.aload_n 0, 1) := by decide +kernel
theorem dX4_runs_24 : decode cX4_runs 24 = .ok (.invokevirtual 177, 3) := by decide +kernel
theorem dX4_runs_27 : decode cX4_runs 27 = .ok (.iload_n 1, 1) := by decide +kernel
theorem dX4_runs_28 : decode cX4_runs 28 = .ok (.ifCond .eq 10, 3) := by decide +kernel
theorem dX4_runs_31 : decode cX4_runs 31 = .ok (.aload_n 0, 1) := by decide +kernel
theorem dX4_runs_32 : decode cX4_runs 32 = .ok (.invokevirtual 180, 3) := by decide +kernel
theorem dX4_runs_35 : decode cX4_runs 35 = .ok (.goto 4, 3) := by decide +kernel
theorem dX4_runs_38 : decode cX4_runs 38 = .ok (.iconst 0, 1) := by decide +kernel
theorem dX4_runs_39 : decode cX4_runs 39 = .ok (.istore 4, 2) := by decide +kernel
theorem dX4_runs_41 : decode cX4_runs 41 = .ok (.aload_n 0, 1) := by decide +kernel
theorem dX4_runs_42 : decode cX4_runs 42 = .ok (.iload 4, 2) := by decide +kernel
theorem dX4_runs_44 : decode cX4_runs 44 = .ok (.ifCond .ge 15, 3) := by decide +kernel
theorem dX4_runs_47 : decode cX4_runs 47 = .ok (.iload 4, 2) := by decide +kernel
theorem dX4_runs_49 : decode cX4_runs 49 = .ok (.bipush (-5), 2) := by decide +kernel
theorem dX4_runs_51 : decode cX4_runs 51 = .ok (.if_icmp .eq 8, 3) := by decide +kernel
theorem dX4_runs_54 : decode cX4_runs 54 = .ok (.iload 4, 2) := by decide +kernel
theorem dX4_runs_56 : decode cX4_runs 56 = .ok (.goto 4, 3) := by decide +kernel
theorem dX4_runs_59 : decode cX4_runs 59 = .ok (.iconst 0, 1) := by decide +kernel
theorem dX4_runs_60 : decode cX4_runs 60 = .ok (.putfield 174, 3) := by decide +kernel
theorem dX4_runs_63 : decode cX4_runs 63 = .ok (.iload_n 2, 1) := by decide +kernel
theorem dX4_runs_64 : decode cX4_runs 64 = .ok (.aload_n 0, 1) := by decide +kernel
theorem dX4_runs_65 : decode cX4_runs 65 = .ok (.getfield 174, 3) := by decide +kernel
theorem dX4_runs_68 : decode cX4_runs 68 = .ok (.ifCond .ge 7, 3) := by decide +kernel
theorem dX4_runs_71 : decode cX4_runs 71 = .ok (.iconst 0, 1) := by decide +kernel
theorem dX4_runs_72 : decode cX4_runs 72 = .ok (.goto 4, 3) := by decide +kernel
theorem dX4_runs_75 : decode cX4_runs 75 = .ok (.iconst 1, 1) := by decide +kernel
theorem dX4_runs_76 : decode cX4_runs 76 = .ok (.iadd, 1) := by decide +kernel
theorem dX4_runs_77 : decode cX4_runs 77 = .ok (.istore_n 2, 1) := by decide +kernel
theorem dX4_runs_78 : decode cX4_runs 78 = .ok (.aload_n 0, 1) := by decide +kernel
theorem dX4_runs_79 : decode cX4_runs 79 = .ok (.getfield 174, 3) := by decide +kernel
theorem dX4_runs_82 : decode cX4_runs 82 = .ok (.ifCond .ne 25, 3) := by decide +kernel
theorem dX4_runs_85 : decode cX4_runs 85 = .ok (.aload_n 0, 1) := by decide +kernel
theorem dX4_runs_86 : decode cX4_runs 86 = .ok (.getfield 149, 3) := by decide +kernel
theorem dX4_runs_89 : decode cX4_runs 89 = .ok (.ifCond .ne 18, 3) := by decide +kernel
theorem dX4_runs_92 : decode cX4_runs 92 = .ok (.aload_n 0, 1) := by decide +kernel
theorem dX4_runs_93 : decode cX4_runs 93 = .ok (.getfield 153, 3) := by decide +kernel
theorem dX4_runs_96 : decode cX4_runs 96 = .ok (.aload_n 0, 1) := by decide +kernel
theorem dX4_runs_97 : decode cX4_runs 97 = .ok (.getfield 146, 3) := by decide +kernel
theorem dX4_runs_100 : decode cX4_runs 100 = .ok (.if_icmp .ge 7, 3) := by decide +kernel
theorem dX4_runs_103 : decode cX4_runs 103 = .ok (.iconst 1, 1) := by decide +kernel
theorem dX4_runs_104 : decode cX4_runs 104 = .ok (.goto 4, 3) := by decide +kernel
theorem dX4_runs_107 : decode cX4_runs 107 = .ok (.iconst 0, 1) := by decide +kernel
theorem dX4_runs_108 : decode cX4_runs 108 = .ok (.istore_n 3, 1) := by decide +kernel
theorem dX4_runs_109 : decode cX4_runs 109 = .ok (.iload_n 3, 1) := by decide +kernel
theorem dX4_runs_110 : decode cX4_runs 110 = .ok (.ifCond .eq 26, 3) := by decide +kernel
theorem dX4_runs_113 : decode cX4_runs 113 = .ok (.aload_n 0, 1) := by decide +kernel
theorem dX4_runs_114 : decode cX4_runs 114 = .ok (.bipush 59, 2) := by decide +kernel
theorem dX4_runs_116 : decode cX4_runs 116 = .ok (.bipush 59, 2) := by decide +kernel
theorem dX4_runs_118 : decode cX4_runs 118 = .ok (.invokevirtual 156, 3) := by decide +kernel
theorem dX4_runs_121 : decode cX4_runs 121 = .ok (.istore 5, 2) := by decide +kernel
theorem dX4_runs_123 : decode cX4_runs 123 = .ok (.aload_n 0, 1) := by decide +kernel
theorem dX4_runs_124 : decode cX4_runs 124 = .ok (.getfield 149, 3) := by decide +kernel
theorem dX4_runs_127 : decode cX4_runs 127 = .ok (.ifCond .ne 7, 3) := by decide +kernel
theorem dX4_runs_130 : decode cX4_runs 130 = .ok (.iconst 1, 1) := by decide +kernel
theorem dX4_runs_131 : decode cX4_runs 131 = .ok (.goto 4, 3) := by decide +kernel
theorem dX4_runs_134 : decode cX4_runs 134 = .ok (.iconst 0, 1) := by decide +kernel
theorem dX4_runs_135 : decode cX4_runs 135 = .ok (.istore_n 3, 1) := by decide +kernel
theorem dX4_runs_136 : decode cX4_runs 136 = .ok (.goto (-117), 3) := by decide +kernel
theorem dX4_runs_139 : decode cX4_runs 139 = .ok (.iload_n 2, 1) := by decide +kernel
theorem dX4_runs_140 : decode cX4_runs 140 = .ok (.ireturn, 1) := by decide +kernel
theorem dX4_perform_0 : decode cX4_perform 0 = .ok (.aload_n 0, 1) := by decide +kernel
theorem dX4_perform_1 : decode cX4_perform 1 = .ok (.iconst 0, 1) := by decide +kernel
theorem dX4_perform_2 : decode cX4_perform 2 = .ok (.invokevirtual 183, 3) := by decide +kernel
theorem dX4_perform_5 : decode cX4_perform 5 = .ok (.istore_n 1, 1) := by decide +kernel
theorem dX4_perform_6 : decode cX4_perform 6 = .ok (.aload_n 0, 1) := by decide +kernel
theorem dX4_perform_7 : decode cX4_perform 7 = .ok (.getfield 149, 3) := by decide +kernel
theorem dX4_perform_10 : decode cX4_perform 10 = .ok (.ifCond .eq 11, 3) := by decide +kernel
theorem dX4_perform_13 : decode cX4_perform 13 = .ok (.bipush (-100), 2) := by decide +kernel
theorem dX4_perform_15 : decode cX4_perform 15 = .ok (.aload_n 0, 1) := by decide +kernel
theorem dX4_perform_16 : decode cX4_perform 16 = .ok (.getfield 153, 3) := by decide +kernel
theorem dX4_perform_19 : decode cX4_perform 19 = .ok (.isub, 1) := by decide +kernel
theorem dX4_perform_20 : decode cX4_perform 20 = .ok (.ireturn, 1) := by decide +kernel
theorem dX4_perform_21 : decode cX4_perform 21 = .ok (.aload_n 0, 1) := by decide +kernel
theorem dX4_perform_22 : decode cX4_perform 22 = .ok (.invokevirtual 121, 3) := by decide +kernel
theorem dX4_perform_25 : decode cX4_perform 25 = .ok (.aload_n 0, 1) := by decide +kernel
theorem dX4_perform_26 : decode cX4_perform 26 = .ok (.iconst 1, 1) := by decide +kernel
theorem dX4_perform_27 : decode cX4_perform 27 = .ok (.invokevirtual 183, 3) := by decide +kernel
theorem dX4_perform_30 : decode cX4_perform 30 = .ok (.istore_n 2, 1) := by decide +kernel
theorem dX4_perform_31 : decode cX4_perform 31 = .ok (.aload_n 0, 1) := by decide +kernel
theorem dX4_perform_32 : decode cX4_perform 32 = .ok (.getfield 174, 3) := by decide +kernel
theorem dX4_perform_35 : decode cX4_perform 35 = .ok (.ifCond .ge 45, 3) := by decide +kernel
theorem dX4_perform_38 : decode cX4_perform 38 = .ok (.aload_n 0, 1) := by decide +kernel
theorem dX4_perform_39 : decode cX4_perform 39 = .ok (.iload_n 2, 1) := by decide +kernel
theorem dX4_perform_40 : decode cX4_perform 40 = .ok (.putfield 28, 3) := by decide +kernel
theorem dX4_perform_43 : decode cX4_perform 43 = .ok (.aload_n 0, 1) := by decide +kernel
theorem dX4_perform_44 : decode cX4_perform 44 = .ok (.aload_n 0, 1) := by decide +kernel
theorem dX4_perform_45 : decode cX4_perform 45 = .ok (.getfield 174, 3) := by decide +kernel
theorem dX4_perform_48 : decode cX4_perform 48 = .ok (.putfield 32, 3) := by decide +kernel
theorem dX4_perform_51 : decode cX4_perform 51 = .ok (.iconst 0, 1) := by decide +kernel
theorem dX4_perform_52 : decode cX4_perform 52 = .ok (.istore_n 3, 1) := by decide +kernel
theorem dX4_perform_53 : decode cX4_perform 53 = .ok (.iload_n 3, 1) := by decide +kernel
theorem dX4_perform_54 : decode cX4_perform 54 = .ok (.bipush 119, 2) := by decide +kernel
theorem dX4_perform_56 : decode cX4_perform 56 = .ok (.if_icmp .ge 21, 3) := by decide +kernel
theorem dX4_perform_59 : decode cX4_perform 59 = .ok (.aload_n 0, 1) := by decide +kernel
theorem dX4_perform_60 : decode cX4_perform 60 = .ok (.getfield 7, 3) := by decide +kernel
theorem dX4_perform_63 : decode cX4_perform 63 = .ok (.iload_n 3, 1) := by decide +kernel
theorem dX4_perform_64 : decode cX4_perform 64 = .ok (.aload_n 0, 1) := by decide +kernel
theorem dX4_perform_65 : decode cX4_perform 65 = .ok (.getfield 16, 3) := by decide +kernel
theorem dX4_perform_68 : decode cX4_perform 68 = .ok (.iload_n 3, 1) := by decide +kernel
theorem dX4_perform_69 : decode cX4_perform 69 = .ok (.iaload, 1) := by decide +kernel
theorem dX4_perform_70 : decode cX4_perform 70 = .ok (.iastore, 1) := by decide +kernel
theorem dX4_perform_71 : decode cX4_perform 71 = .ok (.iinc 3 1, 3) := by decide +kernel
theorem dX4_perform_74 : decode cX4_perform 74 = .ok (.goto (-21), 3) := by decide +kernel
theorem dX4_perform_77 : decode cX4_perform 77 = .ok (.bipush (-4), 2) := by decide +kernel
theorem dX4_perform_79 : decode cX4_perform 79 = .ok (.ireturn, 1) := by decide +kernel
theorem dX4_perform_80 : decode cX4_perform 80 = .ok (.aload_n 0, 1) := by decide +kernel
theorem dX4_perform_81 : decode cX4_perform 81 = .ok (.invokevirtual 114, 3) := by decide +kernel
theorem dX4_perform_84 : decode cX4_perform 84 = .ok (.iload_n 2, 1) := by decide +kernel
theorem dX4_perform_85 : decode cX4_perform 85 = .ok (.ireturn, 1) := by decide +kernel
theorem dX4_stopped_0 : decode cX4_stopped 0 = .ok (.iload_n 1, 1) := by decide +kernel
theorem dX4_stopped_1 : decode cX4_stopped 1 = .ok (.ifCond .ne 10, 3) := by decide +kernel
theorem dX4_stopped_4 : decode cX4_stopped 4 = .ok (.aload_n 0, 1) := by decide +kernel
theorem dX4_stopped_5 : decode cX4_stopped 5 = .ok (.getfield 28, 3) := by decide +kernel
theorem dX4_stopped_8 : decode cX4_stopped 8 = .ok (.goto 17, 3) := by decide +kernel
theorem dX4_stopped_11 : decode cX4_stopped 11 = .ok (.iload_n 1, 1) := by decide +kernel
theorem dX4_stopped_12 : decode cX4_stopped 12 = .ok (.iconst 1, 1) := by decide +kernel
theorem dX4_stopped_13 : decode cX4_stopped 13 = .ok (.if_icmp .ne 10, 3) := by decide +kernel
theorem dX4_stopped_16 : decode cX4_stopped 16 = .ok (.aload_n 0, 1) := by decide +kernel
theorem dX4_stopped_17 : decode cX4_stopped 17 = .ok (.getfield 32, 3) := by decide +kernel
theorem dX4_stopped_20 : decode cX4_stopped 20 = .ok (.goto 5, 3) := by decide +kernel
theorem dX4_stopped_23 : decode cX4_stopped 23 = .ok (.bipush (-2), 2) := by decide +kernel
theorem dX4_stopped_25 : decode cX4_stopped 25 = .ok (.ireturn, 1) := by decide +kernel
theorem dX4_undo_0 : decode cX4_undo 0 = .ok (.aload_n 0, 1) := by decide +kernel
theorem dX4_undo_1 : decode cX4_undo 1 = .ok (.getfield 49, 3) := by decide +kernel
theorem dX4_undo_4 : decode cX4_undo 4 = .ok (.ifCond .ne 6, 3) := by decide +kernel
theorem dX4_undo_7 : decode cX4_undo 7 = .ok (.bipush (-5), 2) := by decide +kernel
theorem dX4_undo_9 : decode cX4_undo 9 = .ok (.ireturn, 1) := by decide +kernel
theorem dX4_undo_10 : decode cX4_undo 10 = .ok (.aload_n 0, 1) := by decide +kernel
theorem dX4_undo_11 : decode cX4_undo 11 = .ok (.dup, 1) := by decide +kernel
theorem dX4_undo_12 : decode cX4_undo 12 = .ok (.getfield 49, 3) := by decide +kernel
theorem dX4_undo_15 : decode cX4_undo 15 = .ok (.iconst 1, 1) := by decide +kernel
theorem dX4_undo_16 : decode cX4_undo 16 = .ok (.isub, 1) := by decide +kernel
theorem dX4_undo_17 : decode cX4_undo 17 = .ok (.putfield 49, 3) := by decide +kernel
theorem dX4_undo_20 : decode cX4_undo 20 = .ok (.iconst 0, 1) := by decide +kernel
theorem dX4_undo_21 : decode cX4_undo 21 = .ok (.istore_n 1, 1) := by decide +kernel
theorem dX4_undo_22 : decode cX4_undo 22 = .ok (.iload_n 1, 1) := by decide +kernel
theorem dX4_undo_23 : decode cX4_undo 23 = .ok (.bipush 119, 2) := by decide +kernel
theorem dX4_undo_25 : decode cX4_undo 25 = .ok (.if_icmp .ge 29, 3) := by decide +kernel
theorem dX4_undo_28 : decode cX4_undo 28 = .ok (.aload_n 0, 1) := by decide +kernel
theorem dX4_undo_29 : decode cX4_undo 29 = .ok (.getfield 7, 3) := by decide +kernel
theorem dX4_undo_32 : decode cX4_undo 32 = .ok (.iload_n 1, 1) := by decide +kernel
theorem dX4_undo_33 : decode cX4_undo 33 = .ok (.aload_n 0, 1) := by decide +kernel
theorem dX4_undo_34 : decode cX4_undo 34 = .ok (.getfield 22, 3) := by decide +kernel
theorem dX4_undo_37 : decode cX4_undo 37 = .ok (.bipush 119, 2) := by decide +kernel
theorem dX4_undo_39 : decode cX4_undo 39 = .ok (.aload_n 0, 1) := by decide +kernel
theorem dX4_undo_40 : decode cX4_undo 40 = .ok (.getfield 49, 3) := by decide +kernel
theorem dX4_undo_43 : decode cX4_undo 43 = .ok (.imul, 1) := by decide +kernel
theorem dX4_undo_44 : decode cX4_undo 44 = .ok (.iload_n 1, 1) := by decide +kernel
theorem dX4_undo_45 : decode cX4_undo 45 = .ok (.iadd, 1) := by decide +kernel
theorem dX4_undo_46 : decode cX4_undo 46 = .ok (.iaload, 1) := by decide +kernel
theorem dX4_undo_47 : decode cX4_undo 47 = .ok (.iastore, 1) := by decide +kernel
theorem dX4_undo_48 : decode cX4_undo 48 = .ok (.iinc 1 1, 3) := by decide +kernel
theorem dX4_undo_51 : decode cX4_undo 51 = .ok (.goto (-29), 3) := by decide +kernel
theorem dX4_undo_54 : decode cX4_undo 54 = .ok (.aload_n 0, 1) := by decide +kernel
theorem dX4_undo_55 : decode cX4_undo 55 = .ok (.getfield 49, 3) := by decide +kernel
theorem dX4_undo_58 : decode cX4_undo 58 = .ok (.ireturn, 1) := by decide +kernel
theorem dX4_keep_0 : decode cX4_keep 0 = .ok (.iconst 0, 1) := by decide +kernel
theorem dX4_keep_1 : decode cX4_keep 1 = .ok (.istore_n 1, 1) := by decide +kernel
theorem dX4_keep_2 : decode cX4_keep 2 = .ok (.iload_n 1, 1) := by decide +kernel
theorem dX4_keep_3 : decode cX4_keep 3 = .ok (.bipush 119, 2) := by decide +kernel
theorem dX4_keep_5 : decode cX4_keep 5 = .ok (.if_icmp .ge 21, 3) := by decide +kernel
theorem dX4_keep_8 : decode cX4_keep 8 = .ok (.aload_n 0, 1) := by decide +kernel
theorem dX4_keep_9 : decode cX4_keep 9 = .ok (.getfield 19, 3) := by decide +kernel
theorem dX4_keep_12 : decode cX4_keep 12 = .ok (.iload_n 1, 1) := by decide +kernel
theorem dX4_keep_13 : decode cX4_keep 13 = .ok (.aload_n 0, 1) := by decide +kernel
theorem dX4_keep_14 : decode cX4_keep 14 = .ok (.getfield 7, 3) := by decide +kernel
theorem dX4_keep_17 : decode cX4_keep 17 = .ok (.iload_n 1, 1) := by decide +kernel
theorem dX4_keep_18 : decode cX4_keep 18 = .ok (.iaload, 1) := by decide +kernel
theorem dX4_keep_19 : decode cX4_keep 19 = .ok (.iastore, 1) := by decide +kernel
theorem dX4_keep_20 : decode cX4_keep 20 = .ok (.iinc 1 1, 3) := by decide +kernel
theorem dX4_keep_23 : decode cX4_keep 23 = .ok (.goto (-21), 3) := by decide +kernel
theorem dX4_keep_26 : decode cX4_keep 26 = .ok (.aload_n 0, 1) := by decide +kernel
theorem dX4_keep_27 : decode cX4_keep 27 = .ok (.iconst 1, 1) := by decide +kernel
theorem dX4_keep_28 : decode cX4_keep 28 = .ok (.putfield 187, 3) := by decide +kernel
theorem dX4_keep_31 : decode cX4_keep 31 = .ok (.aload_n 0, 1) := by decide +kernel
theorem dX4_keep_32 : decode cX4_keep 32 = .ok (.getfield 7, 3) := by decide +kernel
theorem dX4_keep_35 : decode cX4_keep 35 = .ok (.iconst 0, 1) := by decide +kernel
theorem dX4_keep_36 : decode cX4_keep 36 = .ok (.iaload, 1) := by decide +kernel
theorem dX4_keep_37 : decode cX4_keep 37 = .ok (.ireturn, 1) := by decide +kernel
theorem dX4_restore_0 : decode cX4_restore 0 = .ok (.aload_n 0, 1) := by decide +kernel
theorem dX4_restore_1 : decode cX4_restore 1 = .ok (.getfield 187, 3) := by decide +kernel
theorem dX4_restore_4 : decode cX4_restore 4 = .ok (.ifCond .ne 6, 3) := by decide +kernel
theorem dX4_restore_7 : decode cX4_restore 7 = .ok (.bipush (-5), 2) := by decide +kernel
theorem dX4_restore_9 : decode cX4_restore 9 = .ok (.ireturn, 1) := by decide +kernel
theorem dX4_restore_10 : decode cX4_restore 10 = .ok (.aload_n 0, 1) := by decide +kernel
theorem dX4_restore_11 : decode cX4_restore 11 = .ok (.invokevirtual 121, 3) := by decide +kernel
theorem dX4_restore_14 : decode cX4_restore 14 = .ok (.aload_n 0, 1) := by decide +kernel
theorem dX4_restore_15 : decode cX4_restore 15 = .ok (.invokevirtual 114, 3) := by decide +kernel
theorem dX4_restore_18 : decode cX4_restore 18 = .ok (.iconst 0, 1) := by decide +kernel
theorem dX4_restore_19 : decode cX4_restore 19 = .ok (.istore_n 1, 1) := by decide +kernel
theorem dX4_restore_20 : decode cX4_restore 20 = .ok (.iload_n 1, 1) := by decide +kernel
theorem dX4_restore_21 : decode cX4_restore 21 = .ok (.bipush 119, 2) := by decide +kernel
theorem dX4_restore_23 : decode cX4_restore 23 = .ok (.if_icmp .ge 21, 3) := by decide +kernel
theorem dX4_restore_26 : decode cX4_restore 26 = .ok (.aload_n 0, 1) := by decide +kernel
theorem dX4_restore_27 : decode cX4_restore 27 = .ok (.getfield 7, 3) := by decide +kernel
theorem dX4_restore_30 : decode cX4_restore 30 = .ok (.iload_n 1, 1) := by decide +kernel
theorem dX4_restore_31 : decode cX4_restore 31 = .ok (.aload_n 0, 1) := by decide +kernel
theorem dX4_restore_32 : decode cX4_restore 32 = .ok (.getfield 19, 3) := by decide +kernel
theorem dX4_restore_35 : decode cX4_restore 35 = .ok (.iload_n 1, 1) := by decide +kernel
theorem dX4_restore_36 : decode cX4_restore 36 = .ok (.iaload, 1) := by decide +kernel
theorem dX4_restore_37 : decode cX4_restore 37 = .ok (.iastore, 1) := by decide +kernel
theorem dX4_restore_38 : decode cX4_restore 38 = .ok (.iinc 1 1, 3) := by decide +kernel
theorem dX4_restore_41 : decode cX4_restore 41 = .ok (.goto (-21), 3) := by decide +kernel
theorem dX4_restore_44 : decode cX4_restore 44 = .ok (.aload_n 0, 1) := by decide +kernel
theorem dX4_restore_45 : decode cX4_restore 45 = .ok (.getfield 7, 3) := by decide +kernel
theorem dX4_restore_48 : decode cX4_restore 48 = .ok (.iconst 0, 1) := by decide +kernel
theorem dX4_restore_49 : decode cX4_restore 49 = .ok (.iaload, 1) := by decide +kernel
theorem dX4_restore_50 : decode cX4_restore 50 = .ok (.ireturn, 1) := by decide +kernel
theorem dX4_shape_0 : decode cX4_shape 0 = .ok (.aload_n 0, 1) := by decide +kernel
theorem dX4_shape_1 : decode cX4_shape 1 = .ok (.iload_n 1, 1) := by decide +kernel
theorem dX4_shape_2 : decode cX4_shape 2 = .ok (.invokevirtual 97, 3) := by decide +kernel
theorem dX4_shape_5 : decode cX4_shape 5 = .ok (.ifCond .ne 5, 3) := by decide +kernel
theorem dX4_shape_8 : decode cX4_shape 8 = .ok (.iconst (-1), 1) := by decide +kernel
theorem dX4_shape_9 : decode cX4_shape 9 = .ok (.ireturn, 1) := by decide +kernel
theorem dX4_shape_10 : decode cX4_shape 10 = .ok (.iload_n 2, 1) := by decide +kernel
theorem dX4_shape_11 : decode cX4_shape 11 = .ok (.tableswitch 67 6 10 #[33, 39, 45, 51, 59], 33) := by decide +kernel
theorem dX4_shape_44 : decode cX4_shape 44 = .ok (.aload_n 0, 1) := by decide +kernel
theorem dX4_shape_45 : decode cX4_shape 45 = .ok (.iload_n 1, 1) := by decide +kernel
theorem dX4_shape_46 : decode cX4_shape 46 = .ok (.invokevirtual 190, 3) := by decide +kernel
theorem dX4_shape_49 : decode cX4_shape 49 = .ok (.ireturn, 1) := by decide +kernel
theorem dX4_shape_50 : decode cX4_shape 50 = .ok (.aload_n 0, 1) := by decide +kernel
theorem dX4_shape_51 : decode cX4_shape 51 = .ok (.iload_n 1, 1) := by decide +kernel
theorem dX4_shape_52 : decode cX4_shape 52 = .ok (.invokevirtual 193, 3) := by decide +kernel
theorem dX4_shape_55 : decode cX4_shape 55 = .ok (.ireturn, 1) := by decide +kernel
theorem dX4_shape_56 : decode cX4_shape 56 = .ok (.aload_n 0, 1) := by decide +kernel
theorem dX4_shape_57 : decode cX4_shape 57 = .ok (.iload_n 1, 1) := by decide +kernel
theorem dX4_shape_58 : decode cX4_shape 58 = .ok (.invokevirtual 79, 3) := by decide +kernel
theorem dX4_shape_61 : decode cX4_shape 61 = .ok (.ireturn, 1) := by decide +kernel
theorem dX4_shape_62 : decode cX4_shape 62 = .ok (.aload_n 0, 1) := by decide +kernel
theorem dX4_shape_63 : decode cX4_shape 63 = .ok (.iload_n 1, 1) := by decide +kernel
theorem dX4_shape_64 : decode cX4_shape 64 = .ok (.bipush 6, 2) := by decide +kernel
theorem dX4_shape_66 : decode cX4_shape 66 = .ok (.invokevirtual 46, 3) := by decide +kernel
theorem dX4_shape_69 : decode cX4_shape 69 = .ok (.ireturn, 1) := by decide +kernel
theorem dX4_shape_70 : decode cX4_shape 70 = .ok (.aload_n 0, 1) := by decide +kernel
theorem dX4_shape_71 : decode cX4_shape 71 = .ok (.iload_n 1, 1) := by decide +kernel
theorem dX4_shape_72 : decode cX4_shape 72 = .ok (.bipush 7, 2) := by decide +kernel
theorem dX4_shape_74 : decode cX4_shape 74 = .ok (.invokevirtual 46, 3) := by decide +kernel
theorem dX4_shape_77 : decode cX4_shape 77 = .ok (.ireturn, 1) := by decide +kernel
theorem dX4_shape_78 : decode cX4_shape 78 = .ok (.iload_n 2, 1) := by decide +kernel
theorem dX4_shape_79 : decode cX4_shape 79 = .ok (.iconst 0, 1) := by decide +kernel
theorem dX4_shape_80 : decode cX4_shape 80 = .ok (.iconst 5, 1) := by decide +kernel
theorem dX4_shape_81 : decode cX4_shape 81 = .ok (.invokestatic 38, 3) := by decide +kernel
theorem dX4_shape_84 : decode cX4_shape 84 = .ok (.ifCond .eq 12, 3) := by decide +kernel
theorem dX4_shape_87 : decode cX4_shape 87 = .ok (.aload_n 0, 1) := by decide +kernel
theorem dX4_shape_88 : decode cX4_shape 88 = .ok (.iload_n 1, 1) := by decide +kernel
theorem dX4_shape_89 : decode cX4_shape 89 = .ok (.iload_n 2, 1) := by decide +kernel
theorem dX4_shape_90 : decode cX4_shape 90 = .ok (.invokevirtual 46, 3) := by decide +kernel
theorem dX4_shape_93 : decode cX4_shape 93 = .ok (.goto 5, 3) := by decide +kernel
theorem dX4_shape_96 : decode cX4_shape 96 = .ok (.bipush (-2), 2) := by decide +kernel
theorem dX4_shape_98 : decode cX4_shape 98 = .ok (.ireturn, 1) := by decide +kernel
theorem dX4_heat_0 : decode cX4_heat 0 = .ok (.iload_n 1, 1) := by decide +kernel
theorem dX4_heat_1 : decode cX4_heat 1 = .ok (.iconst 0, 1) := by decide +kernel
theorem dX4_heat_2 : decode cX4_heat 2 = .ok (.bipush 11, 2) := by decide +kernel
theorem dX4_heat_4 : decode cX4_heat 4 = .ok (.invokestatic 38, 3) := by decide +kernel
theorem dX4_heat_7 : decode cX4_heat 7 = .ok (.ifCond .eq 15, 3) := by decide +kernel
theorem dX4_heat_10 : decode cX4_heat 10 = .ok (.aload_n 0, 1) := by decide +kernel
theorem dX4_heat_11 : decode cX4_heat 11 = .ok (.getfield 7, 3) := by decide +kernel
theorem dX4_heat_14 : decode cX4_heat 14 = .ok (.bipush 11, 2) := by decide +kernel
theorem dX4_heat_16 : decode cX4_heat 16 = .ok (.iload_n 1, 1) := by decide +kernel
theorem dX4_heat_17 : decode cX4_heat 17 = .ok (.iadd, 1) := by decide +kernel
theorem dX4_heat_18 : decode cX4_heat 18 = .ok (.iaload, 1) := by decide +kernel
theorem dX4_heat_19 : decode cX4_heat 19 = .ok (.goto 4, 3) := by decide +kernel
theorem dX4_heat_22 : decode cX4_heat 22 = .ok (.iconst (-1), 1) := by decide +kernel
theorem dX4_heat_23 : decode cX4_heat 23 = .ok (.ireturn, 1) := by decide +kernel
theorem dX4_reason_0 : decode cX4_reason 0 = .ok (.aload_n 0, 1) := by decide +kernel
theorem dX4_reason_1 : decode cX4_reason 1 = .ok (.iload_n 1, 1) := by decide +kernel
theorem dX4_reason_2 : decode cX4_reason 2 = .ok (.invokevirtual 97, 3) := by decide +kernel
theorem dX4_reason_5 : decode cX4_reason 5 = .ok (.ifCond .eq 11, 3) := by decide +kernel
theorem dX4_reason_8 : decode cX4_reason 8 = .ok (.aload_n 0, 1) := by decide +kernel
theorem dX4_reason_9 : decode cX4_reason 9 = .ok (.iload_n 1, 1) := by decide +kernel
theorem dX4_reason_10 : decode cX4_reason 10 = .ok (.invokevirtual 100, 3) := by decide +kernel
theorem dX4_reason_13 : decode cX4_reason 13 = .ok (.goto 4, 3) := by decide +kernel
theorem dX4_reason_16 : decode cX4_reason 16 = .ok (.iconst (-1), 1) := by decide +kernel
theorem dX4_reason_17 : decode cX4_reason 17 = .ok (.ireturn, 1) := by decide +kernel
theorem dX4_ticksOf_0 : decode cX4_ticksOf 0 = .ok (.aload_n 0, 1) := by decide +kernel
theorem dX4_ticksOf_1 : decode cX4_ticksOf 1 = .ok (.iload_n 1, 1) := by decide +kernel
theorem dX4_ticksOf_2 : decode cX4_ticksOf 2 = .ok (.invokevirtual 91, 3) := by decide +kernel
theorem dX4_ticksOf_5 : decode cX4_ticksOf 5 = .ok (.aload_n 0, 1) := by decide +kernel
theorem dX4_ticksOf_6 : decode cX4_ticksOf 6 = .ok (.iload_n 1, 1) := by decide +kernel
theorem dX4_ticksOf_7 : decode cX4_ticksOf 7 = .ok (.invokevirtual 107, 3) := by decide +kernel
theorem dX4_ticksOf_10 : decode cX4_ticksOf 10 = .ok (.iadd, 1) := by decide +kernel
theorem dX4_ticksOf_11 : decode cX4_ticksOf 11 = .ok (.ireturn, 1) := by decide +kernel
theorem dX4_takes_0 : decode cX4_takes 0 = .ok (.aload_n 0, 1) := by decide +kernel
theorem dX4_takes_1 : decode cX4_takes 1 = .ok (.iload_n 1, 1) := by decide +kernel
theorem dX4_takes_2 : decode cX4_takes 2 = .ok (.invokevirtual 97, 3) := by decide +kernel
theorem dX4_takes_5 : decode cX4_takes 5 = .ok (.ifCond .ne 7, 3) := by decide +kernel
theorem dX4_takes_8 : decode cX4_takes 8 = .ok (.iconst (-1), 1) := by decide +kernel
theorem dX4_takes_9 : decode cX4_takes 9 = .ok (.goto 21, 3) := by decide +kernel
theorem dX4_takes_12 : decode cX4_takes 12 = .ok (.aload_n 0, 1) := by decide +kernel
theorem dX4_takes_13 : decode cX4_takes 13 = .ok (.iload_n 1, 1) := by decide +kernel
theorem dX4_takes_14 : decode cX4_takes 14 = .ok (.invokevirtual 66, 3) := by decide +kernel
theorem dX4_takes_17 : decode cX4_takes 17 = .ok (.ifCond .eq 11, 3) := by decide +kernel
theorem dX4_takes_20 : decode cX4_takes 20 = .ok (.aload_n 0, 1) := by decide +kernel
theorem dX4_takes_21 : decode cX4_takes 21 = .ok (.iload_n 1, 1) := by decide +kernel
theorem dX4_takes_22 : decode cX4_takes 22 = .ok (.invokevirtual 196, 3) := by decide +kernel
theorem dX4_takes_25 : decode cX4_takes 25 = .ok (.goto 5, 3) := by decide +kernel
theorem dX4_takes_28 : decode cX4_takes 28 = .ok (.bipush (-4), 2) := by decide +kernel
theorem dX4_takes_30 : decode cX4_takes 30 = .ok (.ireturn, 1) := by decide +kernel
theorem dX4_coolsIn_0 : decode cX4_coolsIn 0 = .ok (.aload_n 0, 1) := by decide +kernel
theorem dX4_coolsIn_1 : decode cX4_coolsIn 1 = .ok (.iload_n 1, 1) := by decide +kernel
theorem dX4_coolsIn_2 : decode cX4_coolsIn 2 = .ok (.invokevirtual 97, 3) := by decide +kernel
theorem dX4_coolsIn_5 : decode cX4_coolsIn 5 = .ok (.ifCond .ne 5, 3) := by decide +kernel
theorem dX4_coolsIn_8 : decode cX4_coolsIn 8 = .ok (.iconst (-1), 1) := by decide +kernel
theorem dX4_coolsIn_9 : decode cX4_coolsIn 9 = .ok (.ireturn, 1) := by decide +kernel
theorem dX4_coolsIn_10 : decode cX4_coolsIn 10 = .ok (.aload_n 0, 1) := by decide +kernel
theorem dX4_coolsIn_11 : decode cX4_coolsIn 11 = .ok (.iload_n 1, 1) := by decide +kernel
theorem dX4_coolsIn_12 : decode cX4_coolsIn 12 = .ok (.invokevirtual 100, 3) := by decide +kernel
theorem dX4_coolsIn_15 : decode cX4_coolsIn 15 = .ok (.iconst 1, 1) := by decide +kernel
theorem dX4_coolsIn_16 : decode cX4_coolsIn 16 = .ok (.iconst 3, 1) := by decide +kernel
theorem dX4_coolsIn_17 : decode cX4_coolsIn 17 = .ok (.invokestatic 38, 3) := by decide +kernel
theorem dX4_coolsIn_20 : decode cX4_coolsIn 20 = .ok (.ifCond .eq 8, 3) := by decide +kernel
theorem dX4_coolsIn_23 : decode cX4_coolsIn 23 = .ok (.bipush (-4), 2) := by decide +kernel
theorem dX4_coolsIn_25 : decode cX4_coolsIn 25 = .ok (.goto 8, 3) := by decide +kernel
theorem dX4_coolsIn_28 : decode cX4_coolsIn 28 = .ok (.aload_n 0, 1) := by decide +kernel
theorem dX4_coolsIn_29 : decode cX4_coolsIn 29 = .ok (.iload_n 1, 1) := by decide +kernel
theorem dX4_coolsIn_30 : decode cX4_coolsIn 30 = .ok (.invokevirtual 199, 3) := by decide +kernel
theorem dX4_coolsIn_33 : decode cX4_coolsIn 33 = .ok (.ireturn, 1) := by decide +kernel
theorem dX4_bestOne_0 : decode cX4_bestOne 0 = .ok (.bipush (-5), 2) := by decide +kernel
theorem dX4_bestOne_2 : decode cX4_bestOne 2 = .ok (.istore_n 1, 1) := by decide +kernel
theorem dX4_bestOne_3 : decode cX4_bestOne 3 = .ok (.aload_n 0, 1) := by decide +kernel
theorem dX4_bestOne_4 : decode cX4_bestOne 4 = .ok (.getfield 7, 3) := by decide +kernel
theorem dX4_bestOne_7 : decode cX4_bestOne 7 = .ok (.iconst 0, 1) := by decide +kernel
theorem dX4_bestOne_8 : decode cX4_bestOne 8 = .ok (.iaload, 1) := by decide +kernel
theorem dX4_bestOne_9 : decode cX4_bestOne 9 = .ok (.iconst 1, 1) := by decide +kernel
theorem dX4_bestOne_10 : decode cX4_bestOne 10 = .ok (.isub, 1) := by decide +kernel
theorem dX4_bestOne_11 : decode cX4_bestOne 11 = .ok (.istore_n 2, 1) := by decide +kernel
theorem dX4_bestOne_12 : decode cX4_bestOne 12 = .ok (.iload_n 2, 1) := by decide +kernel
theorem dX4_bestOne_13 : decode cX4_bestOne 13 = .ok (.ifCond .lt 42, 3) := by decide +kernel
theorem dX4_bestOne_16 : decode cX4_bestOne 16 = .ok (.aload_n 0, 1) := by decide +kernel
theorem dX4_bestOne_17 : decode cX4_bestOne 17 = .ok (.iload_n 2, 1) := by decide +kernel
theorem dX4_bestOne_18 : decode cX4_bestOne 18 = .ok (.invokevirtual 100, 3) := by decide +kernel
theorem dX4_bestOne_21 : decode cX4_bestOne 21 = .ok (.ifCond .ne 26, 3) := by decide +kernel
theorem dX4_bestOne_24 : decode cX4_bestOne 24 = .ok (.iload_n 1, 1) := by decide +kernel
theorem dX4_bestOne_25 : decode cX4_bestOne 25 = .ok (.bipush (-5), 2) := by decide +kernel
theorem dX4_bestOne_27 : decode cX4_bestOne 27 = .ok (.if_icmp .eq 16, 3) := by decide +kernel
theorem dX4_bestOne_30 : decode cX4_bestOne 30 = .ok (.aload_n 0, 1) := by decide +kernel
theorem dX4_bestOne_31 : decode cX4_bestOne 31 = .ok (.iload_n 2, 1) := by decide +kernel
theorem dX4_bestOne_32 : decode cX4_bestOne 32 = .ok (.invokevirtual 196, 3) := by decide +kernel
theorem dX4_bestOne_35 : decode cX4_bestOne 35 = .ok (.aload_n 0, 1) := by decide +kernel
theorem dX4_bestOne_36 : decode cX4_bestOne 36 = .ok (.iload_n 1, 1) := by decide +kernel
theorem dX4_bestOne_37 : decode cX4_bestOne 37 = .ok (.invokevirtual 196, 3) := by decide +kernel
theorem dX4_bestOne_40 : decode cX4_bestOne 40 = .ok (.if_icmp .gt 7, 3) := by decide +kernel
theorem dX4_bestOne_43 : decode cX4_bestOne 43 = .ok (.iload_n 2, 1) := by decide +kernel
theorem dX4_bestOne_44 : decode cX4_bestOne 44 = .ok (.goto 4, 3) := by decide +kernel
theorem dX4_bestOne_47 : decode cX4_bestOne 47 = .ok (.iload_n 1, 1) := by decide +kernel
theorem dX4_bestOne_48 : decode cX4_bestOne 48 = .ok (.istore_n 1, 1) := by decide +kernel
theorem dX4_bestOne_49 : decode cX4_bestOne 49 = .ok (.iinc 2 (-1), 3) := by decide +kernel
theorem dX4_bestOne_52 : decode cX4_bestOne 52 = .ok (.goto (-40), 3) := by decide +kernel
theorem dX4_bestOne_55 : decode cX4_bestOne 55 = .ok (.iload_n 1, 1) := by decide +kernel
theorem dX4_bestOne_56 : decode cX4_bestOne 56 = .ok (.ireturn, 1) := by decide +kernel
theorem dX4_best_0 : decode cX4_best 0 = .ok (.aload_n 0, 1) := by decide +kernel
theorem dX4_best_1 : decode cX4_best 1 = .ok (.invokevirtual 202, 3) := by decide +kernel
theorem dX4_best_4 : decode cX4_best 4 = .ok (.ireturn, 1) := by decide +kernel
theorem dX4_soonest_0 : decode cX4_soonest 0 = .ok (.bipush (-5), 2) := by decide +kernel
theorem dX4_soonest_2 : decode cX4_soonest 2 = .ok (.istore_n 1, 1) := by decide +kernel
theorem dX4_soonest_3 : decode cX4_soonest 3 = .ok (.aload_n 0, 1) := by decide +kernel
theorem dX4_soonest_4 : decode cX4_soonest 4 = .ok (.getfield 7, 3) := by decide +kernel
theorem dX4_soonest_7 : decode cX4_soonest 7 = .ok (.iconst 0, 1) := by decide +kernel
theorem dX4_soonest_8 : decode cX4_soonest 8 = .ok (.iaload, 1) := by decide +kernel
theorem dX4_soonest_9 : decode cX4_soonest 9 = .ok (.iconst 1, 1) := by decide +kernel
theorem dX4_soonest_10 : decode cX4_soonest 10 = .ok (.isub, 1) := by decide +kernel
theorem dX4_soonest_11 : decode cX4_soonest 11 = .ok (.istore_n 2, 1) := by decide +kernel
theorem dX4_soonest_12 : decode cX4_soonest 12 = .ok (.iload_n 2, 1) := by decide +kernel
theorem dX4_soonest_13 : decode cX4_soonest 13 = .ok (.ifCond .lt 63, 3) := by decide +kernel
theorem dX4_soonest_16 : decode cX4_soonest 16 = .ok (.aload_n 0, 1) := by decide +kernel
theorem dX4_soonest_17 : decode cX4_soonest 17 = .ok (.iload_n 2, 1) := by decide +kernel
theorem dX4_soonest_18 : decode cX4_soonest 18 = .ok (.invokevirtual 100, 3) := by decide +kernel
theorem dX4_soonest_21 : decode cX4_soonest 21 = .ok (.iconst 4, 1) := by decide +kernel
theorem dX4_soonest_22 : decode cX4_soonest 22 = .ok (.if_icmp .ne 17, 3) := by decide +kernel
theorem dX4_soonest_25 : decode cX4_soonest 25 = .ok (.aload_n 0, 1) := by decide +kernel
theorem dX4_soonest_26 : decode cX4_soonest 26 = .ok (.iload_n 2, 1) := by decide +kernel
theorem dX4_soonest_27 : decode cX4_soonest 27 = .ok (.invokevirtual 199, 3) := by decide +kernel
theorem dX4_soonest_30 : decode cX4_soonest 30 = .ok (.bipush (-5), 2) := by decide +kernel
theorem dX4_soonest_32 : decode cX4_soonest 32 = .ok (.if_icmp .eq 7, 3) := by decide +kernel
theorem dX4_soonest_35 : decode cX4_soonest 35 = .ok (.iconst 1, 1) := by decide +kernel
theorem dX4_soonest_36 : decode cX4_soonest 36 = .ok (.goto 4, 3) := by decide +kernel
theorem dX4_soonest_39 : decode cX4_soonest 39 = .ok (.iconst 0, 1) := by decide +kernel
theorem dX4_soonest_40 : decode cX4_soonest 40 = .ok (.istore_n 3, 1) := by decide +kernel
theorem dX4_soonest_41 : decode cX4_soonest 41 = .ok (.iload_n 3, 1) := by decide +kernel
theorem dX4_soonest_42 : decode cX4_soonest 42 = .ok (.ifCond .eq 26, 3) := by decide +kernel
theorem dX4_soonest_45 : decode cX4_soonest 45 = .ok (.iload_n 1, 1) := by decide +kernel
theorem dX4_soonest_46 : decode cX4_soonest 46 = .ok (.bipush (-5), 2) := by decide +kernel
theorem dX4_soonest_48 : decode cX4_soonest 48 = .ok (.if_icmp .eq 16, 3) := by decide +kernel
theorem dX4_soonest_51 : decode cX4_soonest 51 = .ok (.aload_n 0, 1) := by decide +kernel
theorem dX4_soonest_52 : decode cX4_soonest 52 = .ok (.iload_n 2, 1) := by decide +kernel
theorem dX4_soonest_53 : decode cX4_soonest 53 = .ok (.invokevirtual 199, 3) := by decide +kernel
theorem dX4_soonest_56 : decode cX4_soonest 56 = .ok (.aload_n 0, 1) := by decide +kernel
theorem dX4_soonest_57 : decode cX4_soonest 57 = .ok (.iload_n 1, 1) := by decide +kernel
theorem dX4_soonest_58 : decode cX4_soonest 58 = .ok (.invokevirtual 199, 3) := by decide +kernel
theorem dX4_soonest_61 : decode cX4_soonest 61 = .ok (.if_icmp .gt 7, 3) := by decide +kernel
theorem dX4_soonest_64 : decode cX4_soonest 64 = .ok (.iload_n 2, 1) := by decide +kernel
theorem dX4_soonest_65 : decode cX4_soonest 65 = .ok (.goto 4, 3) := by decide +kernel
theorem dX4_soonest_68 : decode cX4_soonest 68 = .ok (.iload_n 1, 1) := by decide +kernel
theorem dX4_soonest_69 : decode cX4_soonest 69 = .ok (.istore_n 1, 1) := by decide +kernel
theorem dX4_soonest_70 : decode cX4_soonest 70 = .ok (.iinc 2 (-1), 3) := by decide +kernel
theorem dX4_soonest_73 : decode cX4_soonest 73 = .ok (.goto (-61), 3) := by decide +kernel
theorem dX4_soonest_76 : decode cX4_soonest 76 = .ok (.iload_n 1, 1) := by decide +kernel
theorem dX4_soonest_77 : decode cX4_soonest 77 = .ok (.ireturn, 1) := by decide +kernel
theorem dX4_layOrder_0 : decode cX4_layOrder 0 = .ok (.aload_n 0, 1) := by decide +kernel
theorem dX4_layOrder_1 : decode cX4_layOrder 1 = .ok (.invokevirtual 205, 3) := by decide +kernel
theorem dX4_layOrder_4 : decode cX4_layOrder 4 = .ok (.aload_n 0, 1) := by decide +kernel
theorem dX4_layOrder_5 : decode cX4_layOrder 5 = .ok (.getfield 7, 3) := by decide +kernel
theorem dX4_layOrder_8 : decode cX4_layOrder 8 = .ok (.iconst 4, 1) := by decide +kernel
theorem dX4_layOrder_9 : decode cX4_layOrder 9 = .ok (.iaload, 1) := by decide +kernel
theorem dX4_layOrder_10 : decode cX4_layOrder 10 = .ok (.istore_n 1, 1) := by decide +kernel
theorem dX4_layOrder_11 : decode cX4_layOrder 11 = .ok (.aload_n 0, 1) := by decide +kernel
theorem dX4_layOrder_12 : decode cX4_layOrder 12 = .ok (.iconst 0, 1) := by decide +kernel
theorem dX4_layOrder_13 : decode cX4_layOrder 13 = .ok (.putfield 208, 3) := by decide +kernel
theorem dX4_layOrder_16 : decode cX4_layOrder 16 = .ok (.iconst 1, 1) := by decide +kernel
theorem dX4_layOrder_17 : decode cX4_layOrder 17 = .ok (.istore_n 2, 1) := by decide +kernel
theorem dX4_layOrder_18 : decode cX4_layOrder 18 = .ok (.iload_n 2, 1) := by decide +kernel
theorem dX4_layOrder_19 : decode cX4_layOrder 19 = .ok (.ifCond .eq 92, 3) := by decide +kernel
theorem dX4_layOrder_22 : decode cX4_layOrder 22 = .ok (.aload_n 0, 1) := by decide +kernel
theorem dX4_layOrder_23 : decode cX4_layOrder 23 = .ok (.invokevirtual 202, 3) := by decide +kernel
theorem dX4_layOrder_26 : decode cX4_layOrder 26 = .ok (.istore_n 3, 1) := by decide +kernel
theorem dX4_layOrder_27 : decode cX4_layOrder 27 = .ok (.iload_n 3, 1) := by decide +kernel
theorem dX4_layOrder_28 : decode cX4_layOrder 28 = .ok (.bipush (-5), 2) := by decide +kernel
theorem dX4_layOrder_30 : decode cX4_layOrder 30 = .ok (.if_icmp .ne 35, 3) := by decide +kernel
theorem dX4_layOrder_33 : decode cX4_layOrder 33 = .ok (.aload_n 0, 1) := by decide +kernel
theorem dX4_layOrder_34 : decode cX4_layOrder 34 = .ok (.invokevirtual 211, 3) := by decide +kernel
theorem dX4_layOrder_37 : decode cX4_layOrder 37 = .ok (.istore 4, 2) := by decide +kernel
theorem dX4_layOrder_39 : decode cX4_layOrder 39 = .ok (.aload_n 0, 1) := by decide +kernel
theorem dX4_layOrder_40 : decode cX4_layOrder 40 = .ok (.iload 4, 2) := by decide +kernel
theorem dX4_layOrder_42 : decode cX4_layOrder 42 = .ok (.bipush (-5), 2) := by decide +kernel
theorem dX4_layOrder_44 : decode cX4_layOrder 44 = .ok (.if_icmp .ne 7, 3) := by decide +kernel
theorem dX4_layOrder_47 : decode cX4_layOrder 47 = .ok (.iconst 0, 1) := by decide +kernel
theorem dX4_layOrder_48 : decode cX4_layOrder 48 = .ok (.goto 9, 3) := by decide +kernel
theorem dX4_layOrder_51 : decode cX4_layOrder 51 = .ok (.aload_n 0, 1) := by decide +kernel
theorem dX4_layOrder_52 : decode cX4_layOrder 52 = .ok (.iload 4, 2) := by decide +kernel
theorem dX4_layOrder_54 : decode cX4_layOrder 54 = .ok (.invokevirtual 199, 3) := by decide +kernel
theorem dX4_layOrder_57 : decode cX4_layOrder 57 = .ok (.invokevirtual 103, 3) := by decide +kernel
theorem dX4_layOrder_60 : decode cX4_layOrder 60 = .ok (.aload_n 0, 1) := by decide +kernel
theorem dX4_layOrder_61 : decode cX4_layOrder 61 = .ok (.invokevirtual 202, 3) := by decide +kernel
theorem dX4_layOrder_64 : decode cX4_layOrder 64 = .ok (.istore_n 3, 1) := by decide +kernel
theorem dX4_layOrder_65 : decode cX4_layOrder 65 = .ok (.iload_n 3, 1) := by decide +kernel
theorem dX4_layOrder_66 : decode cX4_layOrder 66 = .ok (.bipush (-5), 2) := by decide +kernel
theorem dX4_layOrder_68 : decode cX4_layOrder 68 = .ok (.if_icmp .eq 7, 3) := by decide +kernel
theorem dX4_layOrder_71 : decode cX4_layOrder 71 = .ok (.iconst 1, 1) := by decide +kernel
theorem dX4_layOrder_72 : decode cX4_layOrder 72 = .ok (.goto 4, 3) := by decide +kernel
theorem dX4_layOrder_75 : decode cX4_layOrder 75 = .ok (.iconst 0, 1) := by decide +kernel
theorem dX4_layOrder_76 : decode cX4_layOrder 76 = .ok (.istore_n 2, 1) := by decide +kernel
theorem dX4_layOrder_77 : decode cX4_layOrder 77 = .ok (.iload_n 2, 1) := by decide +kernel
theorem dX4_layOrder_78 : decode cX4_layOrder 78 = .ok (.ifCond .eq 30, 3) := by decide +kernel
theorem dX4_layOrder_81 : decode cX4_layOrder 81 = .ok (.aload_n 0, 1) := by decide +kernel
theorem dX4_layOrder_82 : decode cX4_layOrder 82 = .ok (.iload_n 3, 1) := by decide +kernel
theorem dX4_layOrder_83 : decode cX4_layOrder 83 = .ok (.invokevirtual 137, 3) := by decide +kernel
theorem dX4_layOrder_86 : decode cX4_layOrder 86 = .ok (.istore 4, 2) := by decide +kernel
theorem dX4_layOrder_88 : decode cX4_layOrder 88 = .ok (.aload_n 0, 1) := by decide +kernel
theorem dX4_layOrder_89 : decode cX4_layOrder 89 = .ok (.getfield 35, 3) := by decide +kernel
theorem dX4_layOrder_92 : decode cX4_layOrder 92 = .ok (.aload_n 0, 1) := by decide +kernel
theorem dX4_layOrder_93 : decode cX4_layOrder 93 = .ok (.getfield 208, 3) := by decide +kernel
theorem dX4_layOrder_96 : decode cX4_layOrder 96 = .ok (.iload_n 3, 1) := by decide +kernel
theorem dX4_layOrder_97 : decode cX4_layOrder 97 = .ok (.iastore, 1) := by decide +kernel
theorem dX4_layOrder_98 : decode cX4_layOrder 98 = .ok (.aload_n 0, 1) := by decide +kernel
theorem dX4_layOrder_99 : decode cX4_layOrder 99 = .ok (.dup, 1) := by decide +kernel
theorem dX4_layOrder_100 : decode cX4_layOrder 100 = .ok (.getfield 208, 3) := by decide +kernel
theorem dX4_layOrder_103 : decode cX4_layOrder 103 = .ok (.iconst 1, 1) := by decide +kernel
theorem dX4_layOrder_104 : decode cX4_layOrder 104 = .ok (.iadd, 1) := by decide +kernel
theorem dX4_layOrder_105 : decode cX4_layOrder 105 = .ok (.putfield 208, 3) := by decide +kernel
theorem dX4_layOrder_108 : decode cX4_layOrder 108 = .ok (.goto (-90), 3) := by decide +kernel
theorem dX4_layOrder_111 : decode cX4_layOrder 111 = .ok (.aload_n 0, 1) := by decide +kernel
theorem dX4_layOrder_112 : decode cX4_layOrder 112 = .ok (.aload_n 0, 1) := by decide +kernel
theorem dX4_layOrder_113 : decode cX4_layOrder 113 = .ok (.getfield 7, 3) := by decide +kernel
theorem dX4_layOrder_116 : decode cX4_layOrder 116 = .ok (.iconst 4, 1) := by decide +kernel
theorem dX4_layOrder_117 : decode cX4_layOrder 117 = .ok (.iaload, 1) := by decide +kernel
theorem dX4_layOrder_118 : decode cX4_layOrder 118 = .ok (.iload_n 1, 1) := by decide +kernel
theorem dX4_layOrder_119 : decode cX4_layOrder 119 = .ok (.isub, 1) := by decide +kernel
theorem dX4_layOrder_120 : decode cX4_layOrder 120 = .ok (.putfield 214, 3) := by decide +kernel
theorem dX4_layOrder_123 : decode cX4_layOrder 123 = .ok (.aload_n 0, 1) := by decide +kernel
theorem dX4_layOrder_124 : decode cX4_layOrder 124 = .ok (.aload_n 0, 1) := by decide +kernel
theorem dX4_layOrder_125 : decode cX4_layOrder 125 = .ok (.iconst 0, 1) := by decide +kernel
theorem dX4_layOrder_126 : decode cX4_layOrder 126 = .ok (.invokevirtual 217, 3) := by decide +kernel
theorem dX4_layOrder_129 : decode cX4_layOrder 129 = .ok (.ifCond .ne 7, 3) := by decide +kernel
theorem dX4_layOrder_132 : decode cX4_layOrder 132 = .ok (.iconst 1, 1) := by decide +kernel
theorem dX4_layOrder_133 : decode cX4_layOrder 133 = .ok (.goto 4, 3) := by decide +kernel
theorem dX4_layOrder_136 : decode cX4_layOrder 136 = .ok (.iconst 0, 1) := by decide +kernel
theorem dX4_layOrder_137 : decode cX4_layOrder 137 = .ok (.putfield 220, 3) := by decide +kernel
theorem dX4_layOrder_140 : decode cX4_layOrder 140 = .ok (.aload_n 0, 1) := by decide +kernel
theorem dX4_layOrder_141 : decode cX4_layOrder 141 = .ok (.invokevirtual 223, 3) := by decide +kernel
theorem dX4_layOrder_144 : decode cX4_layOrder 144 = .ok (.return_, 1) := by decide +kernel
theorem dX4_ordered_0 : decode cX4_ordered 0 = .ok (.iload_n 1, 1) := by decide +kernel
theorem dX4_ordered_1 : decode cX4_ordered 1 = .ok (.ifCond .ge 6, 3) := by decide +kernel
theorem dX4_ordered_4 : decode cX4_ordered 4 = .ok (.bipush (-2), 2) := by decide +kernel
theorem dX4_ordered_6 : decode cX4_ordered 6 = .ok (.ireturn, 1) := by decide +kernel
theorem dX4_ordered_7 : decode cX4_ordered 7 = .ok (.aload_n 0, 1) := by decide +kernel
theorem dX4_ordered_8 : decode cX4_ordered 8 = .ok (.invokevirtual 226, 3) := by decide +kernel
theorem dX4_ordered_11 : decode cX4_ordered 11 = .ok (.iload_n 1, 1) := by decide +kernel
theorem dX4_ordered_12 : decode cX4_ordered 12 = .ok (.aload_n 0, 1) := by decide +kernel
theorem dX4_ordered_13 : decode cX4_ordered 13 = .ok (.getfield 208, 3) := by decide +kernel
theorem dX4_ordered_16 : decode cX4_ordered 16 = .ok (.if_icmp .ge 12, 3) := by decide +kernel
theorem dX4_ordered_19 : decode cX4_ordered 19 = .ok (.aload_n 0, 1) := by decide +kernel
theorem dX4_ordered_20 : decode cX4_ordered 20 = .ok (.getfield 35, 3) := by decide +kernel
theorem dX4_ordered_23 : decode cX4_ordered 23 = .ok (.iload_n 1, 1) := by decide +kernel
theorem dX4_ordered_24 : decode cX4_ordered 24 = .ok (.iaload, 1) := by decide +kernel
theorem dX4_ordered_25 : decode cX4_ordered 25 = .ok (.goto 5, 3) := by decide +kernel
theorem dX4_ordered_28 : decode cX4_ordered 28 = .ok (.bipush (-5), 2) := by decide +kernel
theorem dX4_ordered_30 : decode cX4_ordered 30 = .ok (.ireturn, 1) := by decide +kernel
theorem dX4_allTakes_0 : decode cX4_allTakes 0 = .ok (.aload_n 0, 1) := by decide +kernel
theorem dX4_allTakes_1 : decode cX4_allTakes 1 = .ok (.invokevirtual 226, 3) := by decide +kernel
theorem dX4_allTakes_4 : decode cX4_allTakes 4 = .ok (.aload_n 0, 1) := by decide +kernel
theorem dX4_allTakes_5 : decode cX4_allTakes 5 = .ok (.getfield 220, 3) := by decide +kernel
theorem dX4_allTakes_8 : decode cX4_allTakes 8 = .ok (.ifCond .eq 10, 3) := by decide +kernel
theorem dX4_allTakes_11 : decode cX4_allTakes 11 = .ok (.aload_n 0, 1) := by decide +kernel
theorem dX4_allTakes_12 : decode cX4_allTakes 12 = .ok (.getfield 214, 3) := by decide +kernel
theorem dX4_allTakes_15 : decode cX4_allTakes 15 = .ok (.goto 5, 3) := by decide +kernel
theorem dX4_allTakes_18 : decode cX4_allTakes 18 = .ok (.bipush (-5), 2) := by decide +kernel
theorem dX4_allTakes_20 : decode cX4_allTakes 20 = .ok (.ireturn, 1) := by decide +kernel
theorem dX4_many_0 : decode cX4_many 0 = .ok (.iconst 0, 1) := by decide +kernel
theorem dX4_many_1 : decode cX4_many 1 = .ok (.istore_n 2, 1) := by decide +kernel
theorem dX4_many_2 : decode cX4_many 2 = .ok (.iconst 0, 1) := by decide +kernel
theorem dX4_many_3 : decode cX4_many 3 = .ok (.istore_n 3, 1) := by decide +kernel
theorem dX4_many_4 : decode cX4_many 4 = .ok (.iload_n 3, 1) := by decide +kernel
theorem dX4_many_5 : decode cX4_many 5 = .ok (.aload_n 0, 1) := by decide +kernel
theorem dX4_many_6 : decode cX4_many 6 = .ok (.getfield 7, 3) := by decide +kernel
theorem dX4_many_9 : decode cX4_many 9 = .ok (.iconst 0, 1) := by decide +kernel
theorem dX4_many_10 : decode cX4_many 10 = .ok (.iaload, 1) := by decide +kernel
theorem dX4_many_11 : decode cX4_many 11 = .ok (.if_icmp .ge 27, 3) := by decide +kernel
theorem dX4_many_14 : decode cX4_many 14 = .ok (.iload_n 2, 1) := by decide +kernel
theorem dX4_many_15 : decode cX4_many 15 = .ok (.aload_n 0, 1) := by decide +kernel
theorem dX4_many_16 : decode cX4_many 16 = .ok (.iload_n 3, 1) := by decide +kernel
theorem dX4_many_17 : decode cX4_many 17 = .ok (.iconst 5, 1) := by decide +kernel
theorem dX4_many_18 : decode cX4_many 18 = .ok (.invokevirtual 46, 3) := by decide +kernel
theorem dX4_many_21 : decode cX4_many 21 = .ok (.iload_n 1, 1) := by decide +kernel
theorem dX4_many_22 : decode cX4_many 22 = .ok (.if_icmp .ne 7, 3) := by decide +kernel
theorem dX4_many_25 : decode cX4_many 25 = .ok (.iconst 1, 1) := by decide +kernel
theorem dX4_many_26 : decode cX4_many 26 = .ok (.goto 4, 3) := by decide +kernel
theorem dX4_many_29 : decode cX4_many 29 = .ok (.iconst 0, 1) := by decide +kernel
theorem dX4_many_30 : decode cX4_many 30 = .ok (.iadd, 1) := by decide +kernel
theorem dX4_many_31 : decode cX4_many 31 = .ok (.istore_n 2, 1) := by decide +kernel
theorem dX4_many_32 : decode cX4_many 32 = .ok (.iinc 3 1, 3) := by decide +kernel
theorem dX4_many_35 : decode cX4_many 35 = .ok (.goto (-31), 3) := by decide +kernel
theorem dX4_many_38 : decode cX4_many 38 = .ok (.iload_n 2, 1) := by decide +kernel
theorem dX4_many_39 : decode cX4_many 39 = .ok (.ireturn, 1) := by decide +kernel
theorem dX4_tilted_0 : decode cX4_tilted 0 = .ok (.iconst 0, 1) := by decide +kernel
theorem dX4_tilted_1 : decode cX4_tilted 1 = .ok (.istore_n 1, 1) := by decide +kernel
theorem dX4_tilted_2 : decode cX4_tilted 2 = .ok (.iconst 0, 1) := by decide +kernel
theorem dX4_tilted_3 : decode cX4_tilted 3 = .ok (.istore_n 2, 1) := by decide +kernel
theorem dX4_tilted_4 : decode cX4_tilted 4 = .ok (.iload_n 2, 1) := by decide +kernel
theorem dX4_tilted_5 : decode cX4_tilted 5 = .ok (.aload_n 0, 1) := by decide +kernel
theorem dX4_tilted_6 : decode cX4_tilted 6 = .ok (.getfield 7, 3) := by decide +kernel
theorem dX4_tilted_9 : decode cX4_tilted 9 = .ok (.iconst 0, 1) := by decide +kernel
theorem dX4_tilted_10 : decode cX4_tilted 10 = .ok (.iaload, 1) := by decide +kernel
theorem dX4_tilted_11 : decode cX4_tilted 11 = .ok (.if_icmp .ge 19, 3) := by decide +kernel
theorem dX4_tilted_14 : decode cX4_tilted 14 = .ok (.iload_n 1, 1) := by decide +kernel
theorem dX4_tilted_15 : decode cX4_tilted 15 = .ok (.aload_n 0, 1) := by decide +kernel
theorem dX4_tilted_16 : decode cX4_tilted 16 = .ok (.iload_n 2, 1) := by decide +kernel
theorem dX4_tilted_17 : decode cX4_tilted 17 = .ok (.bipush 6, 2) := by decide +kernel
theorem dX4_tilted_19 : decode cX4_tilted 19 = .ok (.invokevirtual 46, 3) := by decide +kernel
theorem dX4_tilted_22 : decode cX4_tilted 22 = .ok (.iadd, 1) := by decide +kernel
theorem dX4_tilted_23 : decode cX4_tilted 23 = .ok (.istore_n 1, 1) := by decide +kernel
theorem dX4_tilted_24 : decode cX4_tilted 24 = .ok (.iinc 2 1, 3) := by decide +kernel
theorem dX4_tilted_27 : decode cX4_tilted 27 = .ok (.goto (-23), 3) := by decide +kernel
theorem dX4_tilted_30 : decode cX4_tilted 30 = .ok (.iload_n 1, 1) := by decide +kernel
theorem dX4_tilted_31 : decode cX4_tilted 31 = .ok (.ireturn, 1) := by decide +kernel
theorem dX4_hottestSquare_0 : decode cX4_hottestSquare 0 = .ok (.iconst 0, 1) := by decide +kernel
theorem dX4_hottestSquare_1 : decode cX4_hottestSquare 1 = .ok (.istore_n 1, 1) := by decide +kernel
theorem dX4_hottestSquare_2 : decode cX4_hottestSquare 2 = .ok (.bipush 11, 2) := by decide +kernel
theorem dX4_hottestSquare_4 : decode cX4_hottestSquare 4 = .ok (.istore_n 2, 1) := by decide +kernel
theorem dX4_hottestSquare_5 : decode cX4_hottestSquare 5 = .ok (.iload_n 2, 1) := by decide +kernel
theorem dX4_hottestSquare_6 : decode cX4_hottestSquare 6 = .ok (.ifCond .lt 31, 3) := by decide +kernel
theorem dX4_hottestSquare_9 : decode cX4_hottestSquare 9 = .ok (.aload_n 0, 1) := by decide +kernel
theorem dX4_hottestSquare_10 : decode cX4_hottestSquare 10 = .ok (.getfield 7, 3) := by decide +kernel
theorem dX4_hottestSquare_13 : decode cX4_hottestSquare 13 = .ok (.bipush 11, 2) := by decide +kernel
theorem dX4_hottestSquare_15 : decode cX4_hottestSquare 15 = .ok (.iload_n 2, 1) := by decide +kernel
theorem dX4_hottestSquare_16 : decode cX4_hottestSquare 16 = .ok (.iadd, 1) := by decide +kernel
theorem dX4_hottestSquare_17 : decode cX4_hottestSquare 17 = .ok (.iaload, 1) := by decide +kernel
theorem dX4_hottestSquare_18 : decode cX4_hottestSquare 18 = .ok (.aload_n 0, 1) := by decide +kernel
theorem dX4_hottestSquare_19 : decode cX4_hottestSquare 19 = .ok (.invokevirtual 110, 3) := by decide +kernel
theorem dX4_hottestSquare_22 : decode cX4_hottestSquare 22 = .ok (.if_icmp .ne 7, 3) := by decide +kernel
theorem dX4_hottestSquare_25 : decode cX4_hottestSquare 25 = .ok (.iload_n 2, 1) := by decide +kernel
theorem dX4_hottestSquare_26 : decode cX4_hottestSquare 26 = .ok (.goto 4, 3) := by decide +kernel
theorem dX4_hottestSquare_29 : decode cX4_hottestSquare 29 = .ok (.iload_n 1, 1) := by decide +kernel
theorem dX4_hottestSquare_30 : decode cX4_hottestSquare 30 = .ok (.istore_n 1, 1) := by decide +kernel
theorem dX4_hottestSquare_31 : decode cX4_hottestSquare 31 = .ok (.iinc 2 (-1), 3) := by decide +kernel
theorem dX4_hottestSquare_34 : decode cX4_hottestSquare 34 = .ok (.goto (-29), 3) := by decide +kernel
theorem dX4_hottestSquare_37 : decode cX4_hottestSquare 37 = .ok (.iload_n 1, 1) := by decide +kernel
theorem dX4_hottestSquare_38 : decode cX4_hottestSquare 38 = .ok (.ireturn, 1) := by decide +kernel
theorem dX4_allHeat_0 : decode cX4_allHeat 0 = .ok (.iconst 0, 1) := by decide +kernel
theorem dX4_allHeat_1 : decode cX4_allHeat 1 = .ok (.istore_n 1, 1) := by decide +kernel
theorem dX4_allHeat_2 : decode cX4_allHeat 2 = .ok (.iconst 0, 1) := by decide +kernel
theorem dX4_allHeat_3 : decode cX4_allHeat 3 = .ok (.istore_n 2, 1) := by decide +kernel
theorem dX4_allHeat_4 : decode cX4_allHeat 4 = .ok (.iload_n 2, 1) := by decide +kernel
theorem dX4_allHeat_5 : decode cX4_allHeat 5 = .ok (.bipush 12, 2) := by decide +kernel
theorem dX4_allHeat_7 : decode cX4_allHeat 7 = .ok (.if_icmp .ge 21, 3) := by decide +kernel
theorem dX4_allHeat_10 : decode cX4_allHeat 10 = .ok (.iload_n 1, 1) := by decide +kernel
theorem dX4_allHeat_11 : decode cX4_allHeat 11 = .ok (.aload_n 0, 1) := by decide +kernel
theorem dX4_allHeat_12 : decode cX4_allHeat 12 = .ok (.getfield 7, 3) := by decide +kernel
theorem dX4_allHeat_15 : decode cX4_allHeat 15 = .ok (.bipush 11, 2) := by decide +kernel
theorem dX4_allHeat_17 : decode cX4_allHeat 17 = .ok (.iload_n 2, 1) := by decide +kernel
theorem dX4_allHeat_18 : decode cX4_allHeat 18 = .ok (.iadd, 1) := by decide +kernel
theorem dX4_allHeat_19 : decode cX4_allHeat 19 = .ok (.iaload, 1) := by decide +kernel
theorem dX4_allHeat_20 : decode cX4_allHeat 20 = .ok (.iadd, 1) := by decide +kernel
theorem dX4_allHeat_21 : decode cX4_allHeat 21 = .ok (.istore_n 1, 1) := by decide +kernel
theorem dX4_allHeat_22 : decode cX4_allHeat 22 = .ok (.iinc 2 1, 3) := by decide +kernel
theorem dX4_allHeat_25 : decode cX4_allHeat 25 = .ok (.goto (-21), 3) := by decide +kernel
theorem dX4_allHeat_28 : decode cX4_allHeat 28 = .ok (.iload_n 1, 1) := by decide +kernel
theorem dX4_allHeat_29 : decode cX4_allHeat 29 = .ok (.ireturn, 1) := by decide +kernel
theorem dX4_count_0 : decode cX4_count 0 = .ok (.iload_n 1, 1) := by decide +kernel
theorem dX4_count_1 : decode cX4_count 1 = .ok (.tableswitch 184 0 18 #[91, 98, 98, 98, 106, 111, 118, 125, 132, 139, 146, 151, 156, 161, 161, 161, 161, 174, 179], 91) := by decide +kernel
theorem dX4_count_92 : decode cX4_count 92 = .ok (.aload_n 0, 1) := by decide +kernel
theorem dX4_count_93 : decode cX4_count 93 = .ok (.getfield 7, 3) := by decide +kernel
theorem dX4_count_96 : decode cX4_count 96 = .ok (.iconst 0, 1) := by decide +kernel
theorem dX4_count_97 : decode cX4_count 97 = .ok (.iaload, 1) := by decide +kernel
theorem dX4_count_98 : decode cX4_count 98 = .ok (.ireturn, 1) := by decide +kernel
theorem dX4_count_99 : decode cX4_count 99 = .ok (.aload_n 0, 1) := by decide +kernel
theorem dX4_count_100 : decode cX4_count 100 = .ok (.iload_n 1, 1) := by decide +kernel
theorem dX4_count_101 : decode cX4_count 101 = .ok (.iconst 1, 1) := by decide +kernel
theorem dX4_count_102 : decode cX4_count 102 = .ok (.isub, 1) := by decide +kernel
theorem dX4_count_103 : decode cX4_count 103 = .ok (.invokevirtual 217, 3) := by decide +kernel
theorem dX4_count_106 : decode cX4_count 106 = .ok (.ireturn, 1) := by decide +kernel
theorem dX4_count_107 : decode cX4_count 107 = .ok (.aload_n 0, 1) := by decide +kernel
theorem dX4_count_108 : decode cX4_count 108 = .ok (.invokevirtual 229, 3) := by decide +kernel
theorem dX4_count_111 : decode cX4_count 111 = .ok (.ireturn, 1) := by decide +kernel
theorem dX4_count_112 : decode cX4_count 112 = .ok (.aload_n 0, 1) := by decide +kernel
theorem dX4_count_113 : decode cX4_count 113 = .ok (.getfield 7, 3) := by decide +kernel
theorem dX4_count_116 : decode cX4_count 116 = .ok (.iconst 3, 1) := by decide +kernel
theorem dX4_count_117 : decode cX4_count 117 = .ok (.iaload, 1) := by decide +kernel
theorem dX4_count_118 : decode cX4_count 118 = .ok (.ireturn, 1) := by decide +kernel
theorem dX4_count_119 : decode cX4_count 119 = .ok (.aload_n 0, 1) := by decide +kernel
theorem dX4_count_120 : decode cX4_count 120 = .ok (.getfield 7, 3) := by decide +kernel
theorem dX4_count_123 : decode cX4_count 123 = .ok (.iconst 1, 1) := by decide +kernel
theorem dX4_count_124 : decode cX4_count 124 = .ok (.iaload, 1) := by decide +kernel
theorem dX4_count_125 : decode cX4_count 125 = .ok (.ireturn, 1) := by decide +kernel
theorem dX4_count_126 : decode cX4_count 126 = .ok (.aload_n 0, 1) := by decide +kernel
theorem dX4_count_127 : decode cX4_count 127 = .ok (.getfield 7, 3) := by decide +kernel
theorem dX4_count_130 : decode cX4_count 130 = .ok (.iconst 2, 1) := by decide +kernel
theorem dX4_count_131 : decode cX4_count 131 = .ok (.iaload, 1) := by decide +kernel
theorem dX4_count_132 : decode cX4_count 132 = .ok (.ireturn, 1) := by decide +kernel
theorem dX4_count_133 : decode cX4_count 133 = .ok (.aload_n 0, 1) := by decide +kernel
theorem dX4_count_134 : decode cX4_count 134 = .ok (.getfield 7, 3) := by decide +kernel
theorem dX4_count_137 : decode cX4_count 137 = .ok (.iconst 4, 1) := by decide +kernel
theorem dX4_count_138 : decode cX4_count 138 = .ok (.iaload, 1) := by decide +kernel
theorem dX4_count_139 : decode cX4_count 139 = .ok (.ireturn, 1) := by decide +kernel
theorem dX4_count_140 : decode cX4_count 140 = .ok (.aload_n 0, 1) := by decide +kernel
theorem dX4_count_141 : decode cX4_count 141 = .ok (.getfield 7, 3) := by decide +kernel
theorem dX4_count_144 : decode cX4_count 144 = .ok (.iconst 5, 1) := by decide +kernel
theorem dX4_count_145 : decode cX4_count 145 = .ok (.iaload, 1) := by decide +kernel
theorem dX4_count_146 : decode cX4_count 146 = .ok (.ireturn, 1) := by decide +kernel
theorem dX4_count_147 : decode cX4_count 147 = .ok (.aload_n 0, 1) := by decide +kernel
theorem dX4_count_148 : decode cX4_count 148 = .ok (.invokevirtual 110, 3) := by decide +kernel
theorem dX4_count_151 : decode cX4_count 151 = .ok (.ireturn, 1) := by decide +kernel
theorem dX4_count_152 : decode cX4_count 152 = .ok (.aload_n 0, 1) := by decide +kernel
theorem dX4_count_153 : decode cX4_count 153 = .ok (.invokevirtual 232, 3) := by decide +kernel
theorem dX4_count_156 : decode cX4_count 156 = .ok (.ireturn, 1) := by decide +kernel
theorem dX4_count_157 : decode cX4_count 157 = .ok (.aload_n 0, 1) := by decide +kernel
theorem dX4_count_158 : decode cX4_count 158 = .ok (.invokevirtual 235, 3) := by decide +kernel
theorem dX4_count_161 : decode cX4_count 161 = .ok (.ireturn, 1) := by decide +kernel
theorem dX4_count_162 : decode cX4_count 162 = .ok (.aload_n 0, 1) := by decide +kernel
theorem dX4_count_163 : decode cX4_count 163 = .ok (.getfield 7, 3) := by decide +kernel
theorem dX4_count_166 : decode cX4_count 166 = .ok (.bipush 7, 2) := by decide +kernel
theorem dX4_count_168 : decode cX4_count 168 = .ok (.iload_n 1, 1) := by decide +kernel
theorem dX4_count_169 : decode cX4_count 169 = .ok (.iadd, 1) := by decide +kernel
theorem dX4_count_170 : decode cX4_count 170 = .ok (.bipush 13, 2) := by decide +kernel
theorem dX4_count_172 : decode cX4_count 172 = .ok (.isub, 1) := by decide +kernel
theorem dX4_count_173 : decode cX4_count 173 = .ok (.iaload, 1) := by decide +kernel
theorem dX4_count_174 : decode cX4_count 174 = .ok (.ireturn, 1) := by decide +kernel
theorem dX4_count_175 : decode cX4_count 175 = .ok (.aload_n 0, 1) := by decide +kernel
theorem dX4_count_176 : decode cX4_count 176 = .ok (.getfield 49, 3) := by decide +kernel
theorem dX4_count_179 : decode cX4_count 179 = .ok (.ireturn, 1) := by decide +kernel
theorem dX4_count_180 : decode cX4_count 180 = .ok (.aload_n 0, 1) := by decide +kernel
theorem dX4_count_181 : decode cX4_count 181 = .ok (.getfield 146, 3) := by decide +kernel
theorem dX4_count_184 : decode cX4_count 184 = .ok (.ireturn, 1) := by decide +kernel
theorem dX4_count_185 : decode cX4_count 185 = .ok (.bipush (-2), 2) := by decide +kernel
theorem dX4_count_187 : decode cX4_count 187 = .ok (.ireturn, 1) := by decide +kernel
theorem dL_law_0 : decode cL_law 0 = .ok (.new 7, 3) := by decide +kernel
theorem dL_law_3 : decode cL_law 3 = .ok (.dup, 1) := by decide +kernel
theorem dL_law_4 : decode cL_law 4 = .ok (.invokespecial 9, 3) := by decide +kernel
theorem dL_law_7 : decode cL_law 7 = .ok (.astore_n 1, 1) := by decide +kernel
theorem dL_law_8 : decode cL_law 8 = .ok (.new 10, 3) := by decide +kernel
theorem dL_law_11 : decode cL_law 11 = .ok (.dup, 1) := by decide +kernel
theorem dL_law_12 : decode cL_law 12 = .ok (.invokespecial 12, 3) := by decide +kernel
theorem dL_law_15 : decode cL_law 15 = .ok (.astore_n 2, 1) := by decide +kernel
theorem dL_law_16 : decode cL_law 16 = .ok (.iconst 0, 1) := by decide +kernel
theorem dL_law_17 : decode cL_law 17 = .ok (.istore_n 3, 1) := by decide +kernel
theorem dL_law_18 : decode cL_law 18 = .ok (.iload_n 3, 1) := by decide +kernel
theorem dL_law_19 : decode cL_law 19 = .ok (.aload_n 0, 1) := by decide +kernel
theorem dL_law_20 : decode cL_law 20 = .ok (.arraylength, 1) := by decide +kernel
theorem dL_law_21 : decode cL_law 21 = .ok (.iconst 5, 1) := by decide +kernel
theorem dL_law_22 : decode cL_law 22 = .ok (.isub, 1) := by decide +kernel
theorem dL_law_23 : decode cL_law 23 = .ok (.if_icmp .gt 607, 3) := by decide +kernel
theorem dL_law_26 : decode cL_law 26 = .ok (.aload_n 0, 1) := by decide +kernel
theorem dL_law_27 : decode cL_law 27 = .ok (.iload_n 3, 1) := by decide +kernel
theorem dL_law_28 : decode cL_law 28 = .ok (.iaload, 1) := by decide +kernel
theorem dL_law_29 : decode cL_law 29 = .ok (.bipush 31, 2) := by decide +kernel
theorem dL_law_31 : decode cL_law 31 = .ok (.iand, 1) := by decide +kernel
theorem dL_law_32 : decode cL_law 32 = .ok (.tableswitch 592 0 21 #[104, 157, 190, 223, 246, 269, 282, 307, 320, 333, 356, 369, 382, 395, 428, 451, 474, 497, 520, 533, 556, 569], 104) := by decide +kernel
theorem dL_law_136 : decode cL_law 136 = .ok (.aload_n 1, 1) := by decide +kernel
theorem dL_law_137 : decode cL_law 137 = .ok (.aload_n 0, 1) := by decide +kernel
theorem dL_law_138 : decode cL_law 138 = .ok (.iload_n 3, 1) := by decide +kernel
theorem dL_law_139 : decode cL_law 139 = .ok (.iconst 1, 1) := by decide +kernel
theorem dL_law_140 : decode cL_law 140 = .ok (.iadd, 1) := by decide +kernel
theorem dL_law_141 : decode cL_law 141 = .ok (.iaload, 1) := by decide +kernel
theorem dL_law_142 : decode cL_law 142 = .ok (.aload_n 0, 1) := by decide +kernel
theorem dL_law_143 : decode cL_law 143 = .ok (.iload_n 3, 1) := by decide +kernel
theorem dL_law_144 : decode cL_law 144 = .ok (.iconst 2, 1) := by decide +kernel
theorem dL_law_145 : decode cL_law 145 = .ok (.iadd, 1) := by decide +kernel
theorem dL_law_146 : decode cL_law 146 = .ok (.iaload, 1) := by decide +kernel
theorem dL_law_147 : decode cL_law 147 = .ok (.aload_n 0, 1) := by decide +kernel
theorem dL_law_148 : decode cL_law 148 = .ok (.iload_n 3, 1) := by decide +kernel
theorem dL_law_149 : decode cL_law 149 = .ok (.iconst 3, 1) := by decide +kernel
theorem dL_law_150 : decode cL_law 150 = .ok (.iadd, 1) := by decide +kernel
theorem dL_law_151 : decode cL_law 151 = .ok (.iaload, 1) := by decide +kernel
theorem dL_law_152 : decode cL_law 152 = .ok (.aload_n 0, 1) := by decide +kernel
theorem dL_law_153 : decode cL_law 153 = .ok (.iload_n 3, 1) := by decide +kernel
theorem dL_law_154 : decode cL_law 154 = .ok (.iconst 4, 1) := by decide +kernel
theorem dL_law_155 : decode cL_law 155 = .ok (.iadd, 1) := by decide +kernel
theorem dL_law_156 : decode cL_law 156 = .ok (.iaload, 1) := by decide +kernel
theorem dL_law_157 : decode cL_law 157 = .ok (.invokevirtual 13, 3) := by decide +kernel
theorem dL_law_160 : decode cL_law 160 = .ok (.aload_n 2, 1) := by decide +kernel
theorem dL_law_161 : decode cL_law 161 = .ok (.aload_n 0, 1) := by decide +kernel
theorem dL_law_162 : decode cL_law 162 = .ok (.iload_n 3, 1) := by decide +kernel
theorem dL_law_163 : decode cL_law 163 = .ok (.iconst 1, 1) := by decide +kernel
theorem dL_law_164 : decode cL_law 164 = .ok (.iadd, 1) := by decide +kernel
theorem dL_law_165 : decode cL_law 165 = .ok (.iaload, 1) := by decide +kernel
theorem dL_law_166 : decode cL_law 166 = .ok (.aload_n 0, 1) := by decide +kernel
theorem dL_law_167 : decode cL_law 167 = .ok (.iload_n 3, 1) := by decide +kernel
theorem dL_law_168 : decode cL_law 168 = .ok (.iconst 2, 1) := by decide +kernel
theorem dL_law_169 : decode cL_law 169 = .ok (.iadd, 1) := by decide +kernel
theorem dL_law_170 : decode cL_law 170 = .ok (.iaload, 1) := by decide +kernel
theorem dL_law_171 : decode cL_law 171 = .ok (.aload_n 0, 1) := by decide +kernel
theorem dL_law_172 : decode cL_law 172 = .ok (.iload_n 3, 1) := by decide +kernel
theorem dL_law_173 : decode cL_law 173 = .ok (.iconst 3, 1) := by decide +kernel
theorem dL_law_174 : decode cL_law 174 = .ok (.iadd, 1) := by decide +kernel
theorem dL_law_175 : decode cL_law 175 = .ok (.iaload, 1) := by decide +kernel
theorem dL_law_176 : decode cL_law 176 = .ok (.aload_n 0, 1) := by decide +kernel
theorem dL_law_177 : decode cL_law 177 = .ok (.iload_n 3, 1) := by decide +kernel
theorem dL_law_178 : decode cL_law 178 = .ok (.iconst 4, 1) := by decide +kernel
theorem dL_law_179 : decode cL_law 179 = .ok (.iadd, 1) := by decide +kernel
theorem dL_law_180 : decode cL_law 180 = .ok (.iaload, 1) := by decide +kernel
theorem dL_law_181 : decode cL_law 181 = .ok (.invokevirtual 17, 3) := by decide +kernel
theorem dL_law_184 : decode cL_law 184 = .ok (.if_icmp .eq 440, 3) := by decide +kernel
theorem dL_law_187 : decode cL_law 187 = .ok (.iconst 0, 1) := by decide +kernel
theorem dL_law_188 : decode cL_law 188 = .ok (.ireturn, 1) := by decide +kernel
theorem dL_law_189 : decode cL_law 189 = .ok (.aload_n 1, 1) := by decide +kernel
theorem dL_law_190 : decode cL_law 190 = .ok (.aload_n 0, 1) := by decide +kernel
theorem dL_law_191 : decode cL_law 191 = .ok (.iload_n 3, 1) := by decide +kernel
theorem dL_law_192 : decode cL_law 192 = .ok (.iconst 1, 1) := by decide +kernel
theorem dL_law_193 : decode cL_law 193 = .ok (.iadd, 1) := by decide +kernel
theorem dL_law_194 : decode cL_law 194 = .ok (.iaload, 1) := by decide +kernel
theorem dL_law_195 : decode cL_law 195 = .ok (.aload_n 0, 1) := by decide +kernel
theorem dL_law_196 : decode cL_law 196 = .ok (.iload_n 3, 1) := by decide +kernel
theorem dL_law_197 : decode cL_law 197 = .ok (.iconst 2, 1) := by decide +kernel
theorem dL_law_198 : decode cL_law 198 = .ok (.iadd, 1) := by decide +kernel
theorem dL_law_199 : decode cL_law 199 = .ok (.iaload, 1) := by decide +kernel
theorem dL_law_200 : decode cL_law 200 = .ok (.invokevirtual 18, 3) := by decide +kernel
theorem dL_law_203 : decode cL_law 203 = .ok (.aload_n 2, 1) := by decide +kernel
theorem dL_law_204 : decode cL_law 204 = .ok (.aload_n 0, 1) := by decide +kernel
theorem dL_law_205 : decode cL_law 205 = .ok (.iload_n 3, 1) := by decide +kernel
theorem dL_law_206 : decode cL_law 206 = .ok (.iconst 1, 1) := by decide +kernel
theorem dL_law_207 : decode cL_law 207 = .ok (.iadd, 1) := by decide +kernel
theorem dL_law_208 : decode cL_law 208 = .ok (.iaload, 1) := by decide +kernel
theorem dL_law_209 : decode cL_law 209 = .ok (.aload_n 0, 1) := by decide +kernel
theorem dL_law_210 : decode cL_law 210 = .ok (.iload_n 3, 1) := by decide +kernel
theorem dL_law_211 : decode cL_law 211 = .ok (.iconst 2, 1) := by decide +kernel
theorem dL_law_212 : decode cL_law 212 = .ok (.iadd, 1) := by decide +kernel
theorem dL_law_213 : decode cL_law 213 = .ok (.iaload, 1) := by decide +kernel
theorem dL_law_214 : decode cL_law 214 = .ok (.invokevirtual 22, 3) := by decide +kernel
theorem dL_law_217 : decode cL_law 217 = .ok (.if_icmp .eq 407, 3) := by decide +kernel
theorem dL_law_220 : decode cL_law 220 = .ok (.iconst 0, 1) := by decide +kernel
theorem dL_law_221 : decode cL_law 221 = .ok (.ireturn, 1) := by decide +kernel
theorem dL_law_222 : decode cL_law 222 = .ok (.aload_n 1, 1) := by decide +kernel
theorem dL_law_223 : decode cL_law 223 = .ok (.aload_n 0, 1) := by decide +kernel
theorem dL_law_224 : decode cL_law 224 = .ok (.iload_n 3, 1) := by decide +kernel
theorem dL_law_225 : decode cL_law 225 = .ok (.iconst 1, 1) := by decide +kernel
theorem dL_law_226 : decode cL_law 226 = .ok (.iadd, 1) := by decide +kernel
theorem dL_law_227 : decode cL_law 227 = .ok (.iaload, 1) := by decide +kernel
theorem dL_law_228 : decode cL_law 228 = .ok (.aload_n 0, 1) := by decide +kernel
theorem dL_law_229 : decode cL_law 229 = .ok (.iload_n 3, 1) := by decide +kernel
theorem dL_law_230 : decode cL_law 230 = .ok (.iconst 2, 1) := by decide +kernel
theorem dL_law_231 : decode cL_law 231 = .ok (.iadd, 1) := by decide +kernel
theorem dL_law_232 : decode cL_law 232 = .ok (.iaload, 1) := by decide +kernel
theorem dL_law_233 : decode cL_law 233 = .ok (.invokevirtual 23, 3) := by decide +kernel
theorem dL_law_236 : decode cL_law 236 = .ok (.aload_n 2, 1) := by decide +kernel
theorem dL_law_237 : decode cL_law 237 = .ok (.aload_n 0, 1) := by decide +kernel
theorem dL_law_238 : decode cL_law 238 = .ok (.iload_n 3, 1) := by decide +kernel
theorem dL_law_239 : decode cL_law 239 = .ok (.iconst 1, 1) := by decide +kernel
theorem dL_law_240 : decode cL_law 240 = .ok (.iadd, 1) := by decide +kernel
theorem dL_law_241 : decode cL_law 241 = .ok (.iaload, 1) := by decide +kernel
theorem dL_law_242 : decode cL_law 242 = .ok (.aload_n 0, 1) := by decide +kernel
theorem dL_law_243 : decode cL_law 243 = .ok (.iload_n 3, 1) := by decide +kernel
theorem dL_law_244 : decode cL_law 244 = .ok (.iconst 2, 1) := by decide +kernel
theorem dL_law_245 : decode cL_law 245 = .ok (.iadd, 1) := by decide +kernel
theorem dL_law_246 : decode cL_law 246 = .ok (.iaload, 1) := by decide +kernel
theorem dL_law_247 : decode cL_law 247 = .ok (.invokevirtual 26, 3) := by decide +kernel
theorem dL_law_250 : decode cL_law 250 = .ok (.if_icmp .eq 374, 3) := by decide +kernel
theorem dL_law_253 : decode cL_law 253 = .ok (.iconst 0, 1) := by decide +kernel
theorem dL_law_254 : decode cL_law 254 = .ok (.ireturn, 1) := by decide +kernel
theorem dL_law_255 : decode cL_law 255 = .ok (.aload_n 1, 1) := by decide +kernel
theorem dL_law_256 : decode cL_law 256 = .ok (.aload_n 0, 1) := by decide +kernel
theorem dL_law_257 : decode cL_law 257 = .ok (.iload_n 3, 1) := by decide +kernel
theorem dL_law_258 : decode cL_law 258 = .ok (.iconst 1, 1) := by decide +kernel
theorem dL_law_259 : decode cL_law 259 = .ok (.iadd, 1) := by decide +kernel
theorem dL_law_260 : decode cL_law 260 = .ok (.iaload, 1) := by decide +kernel
theorem dL_law_261 : decode cL_law 261 = .ok (.invokevirtual 27, 3) := by decide +kernel
theorem dL_law_264 : decode cL_law 264 = .ok (.aload_n 2, 1) := by decide +kernel
theorem dL_law_265 : decode cL_law 265 = .ok (.aload_n 0, 1) := by decide +kernel
theorem dL_law_266 : decode cL_law 266 = .ok (.iload_n 3, 1) := by decide +kernel
theorem dL_law_267 : decode cL_law 267 = .ok (.iconst 1, 1) := by decide +kernel
theorem dL_law_268 : decode cL_law 268 = .ok (.iadd, 1) := by decide +kernel
theorem dL_law_269 : decode cL_law 269 = .ok (.iaload, 1) := by decide +kernel
theorem dL_law_270 : decode cL_law 270 = .ok (.invokevirtual 31, 3) := by decide +kernel
theorem dL_law_273 : decode cL_law 273 = .ok (.if_icmp .eq 351, 3) := by decide +kernel
theorem dL_law_276 : decode cL_law 276 = .ok (.iconst 0, 1) := by decide +kernel
theorem dL_law_277 : decode cL_law 277 = .ok (.ireturn, 1) := by decide +kernel
theorem dL_law_278 : decode cL_law 278 = .ok (.aload_n 1, 1) := by decide +kernel
theorem dL_law_279 : decode cL_law 279 = .ok (.aload_n 0, 1) := by decide +kernel
theorem dL_law_280 : decode cL_law 280 = .ok (.iload_n 3, 1) := by decide +kernel
theorem dL_law_281 : decode cL_law 281 = .ok (.iconst 1, 1) := by decide +kernel
theorem dL_law_282 : decode cL_law 282 = .ok (.iadd, 1) := by decide +kernel
theorem dL_law_283 : decode cL_law 283 = .ok (.iaload, 1) := by decide +kernel
theorem dL_law_284 : decode cL_law 284 = .ok (.invokevirtual 32, 3) := by decide +kernel
theorem dL_law_287 : decode cL_law 287 = .ok (.aload_n 2, 1) := by decide +kernel
theorem dL_law_288 : decode cL_law 288 = .ok (.aload_n 0, 1) := by decide +kernel
theorem dL_law_289 : decode cL_law 289 = .ok (.iload_n 3, 1) := by decide +kernel
theorem dL_law_290 : decode cL_law 290 = .ok (.iconst 1, 1) := by decide +kernel
theorem dL_law_291 : decode cL_law 291 = .ok (.iadd, 1) := by decide +kernel
theorem dL_law_292 : decode cL_law 292 = .ok (.iaload, 1) := by decide +kernel
theorem dL_law_293 : decode cL_law 293 = .ok (.invokevirtual 35, 3) := by decide +kernel
theorem dL_law_296 : decode cL_law 296 = .ok (.if_icmp .eq 328, 3) := by decide +kernel
theorem dL_law_299 : decode cL_law 299 = .ok (.iconst 0, 1) := by decide +kernel
theorem dL_law_300 : decode cL_law 300 = .ok (.ireturn, 1) := by decide +kernel
theorem dL_law_301 : decode cL_law 301 = .ok (.aload_n 1, 1) := by decide +kernel
theorem dL_law_302 : decode cL_law 302 = .ok (.invokevirtual 36, 3) := by decide +kernel
theorem dL_law_305 : decode cL_law 305 = .ok (.aload_n 2, 1) := by decide +kernel
theorem dL_law_306 : decode cL_law 306 = .ok (.invokevirtual 40, 3) := by decide +kernel
theorem dL_law_309 : decode cL_law 309 = .ok (.if_icmp .eq 315, 3) := by decide +kernel
theorem dL_law_312 : decode cL_law 312 = .ok (.iconst 0, 1) := by decide +kernel
theorem dL_law_313 : decode cL_law 313 = .ok (.ireturn, 1) := by decide +kernel
theorem dL_law_314 : decode cL_law 314 = .ok (.aload_n 1, 1) := by decide +kernel
theorem dL_law_315 : decode cL_law 315 = .ok (.aload_n 0, 1) := by decide +kernel
theorem dL_law_316 : decode cL_law 316 = .ok (.iload_n 3, 1) := by decide +kernel
theorem dL_law_317 : decode cL_law 317 = .ok (.iconst 1, 1) := by decide +kernel
theorem dL_law_318 : decode cL_law 318 = .ok (.iadd, 1) := by decide +kernel
theorem dL_law_319 : decode cL_law 319 = .ok (.iaload, 1) := by decide +kernel
theorem dL_law_320 : decode cL_law 320 = .ok (.i2c, 1) := by decide +kernel
theorem dL_law_321 : decode cL_law 321 = .ok (.invokevirtual 41, 3) := by decide +kernel
theorem dL_law_324 : decode cL_law 324 = .ok (.aload_n 2, 1) := by decide +kernel
theorem dL_law_325 : decode cL_law 325 = .ok (.aload_n 0, 1) := by decide +kernel
theorem dL_law_326 : decode cL_law 326 = .ok (.iload_n 3, 1) := by decide +kernel
theorem dL_law_327 : decode cL_law 327 = .ok (.iconst 1, 1) := by decide +kernel
theorem dL_law_328 : decode cL_law 328 = .ok (.iadd, 1) := by decide +kernel
theorem dL_law_329 : decode cL_law 329 = .ok (.iaload, 1) := by decide +kernel
theorem dL_law_330 : decode cL_law 330 = .ok (.i2c, 1) := by decide +kernel
theorem dL_law_331 : decode cL_law 331 = .ok (.invokevirtual 45, 3) := by decide +kernel
theorem dL_law_334 : decode cL_law 334 = .ok (.if_icmp .eq 290, 3) := by decide +kernel
theorem dL_law_337 : decode cL_law 337 = .ok (.iconst 0, 1) := by decide +kernel
theorem dL_law_338 : decode cL_law 338 = .ok (.ireturn, 1) := by decide +kernel
theorem dL_law_339 : decode cL_law 339 = .ok (.aload_n 1, 1) := by decide +kernel
theorem dL_law_340 : decode cL_law 340 = .ok (.invokevirtual 46, 3) := by decide +kernel
theorem dL_law_343 : decode cL_law 343 = .ok (.aload_n 2, 1) := by decide +kernel
theorem dL_law_344 : decode cL_law 344 = .ok (.invokevirtual 49, 3) := by decide +kernel
theorem dL_law_347 : decode cL_law 347 = .ok (.if_icmp .eq 277, 3) := by decide +kernel
theorem dL_law_350 : decode cL_law 350 = .ok (.iconst 0, 1) := by decide +kernel
theorem dL_law_351 : decode cL_law 351 = .ok (.ireturn, 1) := by decide +kernel
theorem dL_law_352 : decode cL_law 352 = .ok (.aload_n 1, 1) := by decide +kernel
theorem dL_law_353 : decode cL_law 353 = .ok (.invokevirtual 50, 3) := by decide +kernel
theorem dL_law_356 : decode cL_law 356 = .ok (.aload_n 2, 1) := by decide +kernel
theorem dL_law_357 : decode cL_law 357 = .ok (.invokevirtual 53, 3) := by decide +kernel
theorem dL_law_360 : decode cL_law 360 = .ok (.if_icmp .eq 264, 3) := by decide +kernel
theorem dL_law_363 : decode cL_law 363 = .ok (.iconst 0, 1) := by decide +kernel
theorem dL_law_364 : decode cL_law 364 = .ok (.ireturn, 1) := by decide +kernel
theorem dL_law_365 : decode cL_law 365 = .ok (.aload_n 1, 1) := by decide +kernel
theorem dL_law_366 : decode cL_law 366 = .ok (.aload_n 0, 1) := by decide +kernel
theorem dL_law_367 : decode cL_law 367 = .ok (.iload_n 3, 1) := by decide +kernel
theorem dL_law_368 : decode cL_law 368 = .ok (.iconst 1, 1) := by decide +kernel
theorem dL_law_369 : decode cL_law 369 = .ok (.iadd, 1) := by decide +kernel
theorem dL_law_370 : decode cL_law 370 = .ok (.iaload, 1) := by decide +kernel
theorem dL_law_371 : decode cL_law 371 = .ok (.invokevirtual 54, 3) := by decide +kernel
theorem dL_law_374 : decode cL_law 374 = .ok (.aload_n 2, 1) := by decide +kernel
theorem dL_law_375 : decode cL_law 375 = .ok (.aload_n 0, 1) := by decide +kernel
theorem dL_law_376 : decode cL_law 376 = .ok (.iload_n 3, 1) := by decide +kernel
theorem dL_law_377 : decode cL_law 377 = .ok (.iconst 1, 1) := by decide +kernel
theorem dL_law_378 : decode cL_law 378 = .ok (.iadd, 1) := by decide +kernel
theorem dL_law_379 : decode cL_law 379 = .ok (.iaload, 1) := by decide +kernel
theorem dL_law_380 : decode cL_law 380 = .ok (.invokevirtual 57, 3) := by decide +kernel
theorem dL_law_383 : decode cL_law 383 = .ok (.if_icmp .eq 241, 3) := by decide +kernel
theorem dL_law_386 : decode cL_law 386 = .ok (.iconst 0, 1) := by decide +kernel
theorem dL_law_387 : decode cL_law 387 = .ok (.ireturn, 1) := by decide +kernel
theorem dL_law_388 : decode cL_law 388 = .ok (.aload_n 1, 1) := by decide +kernel
theorem dL_law_389 : decode cL_law 389 = .ok (.invokevirtual 58, 3) := by decide +kernel
theorem dL_law_392 : decode cL_law 392 = .ok (.aload_n 2, 1) := by decide +kernel
theorem dL_law_393 : decode cL_law 393 = .ok (.invokevirtual 61, 3) := by decide +kernel
theorem dL_law_396 : decode cL_law 396 = .ok (.if_icmp .eq 228, 3) := by decide +kernel
theorem dL_law_399 : decode cL_law 399 = .ok (.iconst 0, 1) := by decide +kernel
theorem dL_law_400 : decode cL_law 400 = .ok (.ireturn, 1) := by decide +kernel
theorem dL_law_401 : decode cL_law 401 = .ok (.aload_n 1, 1) := by decide +kernel
theorem dL_law_402 : decode cL_law 402 = .ok (.invokevirtual 62, 3) := by decide +kernel
theorem dL_law_405 : decode cL_law 405 = .ok (.aload_n 2, 1) := by decide +kernel
theorem dL_law_406 : decode cL_law 406 = .ok (.invokevirtual 65, 3) := by decide +kernel
theorem dL_law_409 : decode cL_law 409 = .ok (.if_icmp .eq 215, 3) := by decide +kernel
theorem dL_law_412 : decode cL_law 412 = .ok (.iconst 0, 1) := by decide +kernel
theorem dL_law_413 : decode cL_law 413 = .ok (.ireturn, 1) := by decide +kernel
theorem dL_law_414 : decode cL_law 414 = .ok (.aload_n 1, 1) := by decide +kernel
theorem dL_law_415 : decode cL_law 415 = .ok (.invokevirtual 66, 3) := by decide +kernel
theorem dL_law_418 : decode cL_law 418 = .ok (.aload_n 2, 1) := by decide +kernel
theorem dL_law_419 : decode cL_law 419 = .ok (.invokevirtual 69, 3) := by decide +kernel
theorem dL_law_422 : decode cL_law 422 = .ok (.if_icmp .eq 202, 3) := by decide +kernel
theorem dL_law_425 : decode cL_law 425 = .ok (.iconst 0, 1) := by decide +kernel
theorem dL_law_426 : decode cL_law 426 = .ok (.ireturn, 1) := by decide +kernel
theorem dL_law_427 : decode cL_law 427 = .ok (.aload_n 1, 1) := by decide +kernel
theorem dL_law_428 : decode cL_law 428 = .ok (.aload_n 0, 1) := by decide +kernel
theorem dL_law_429 : decode cL_law 429 = .ok (.iload_n 3, 1) := by decide +kernel
theorem dL_law_430 : decode cL_law 430 = .ok (.iconst 1, 1) := by decide +kernel
theorem dL_law_431 : decode cL_law 431 = .ok (.iadd, 1) := by decide +kernel
theorem dL_law_432 : decode cL_law 432 = .ok (.iaload, 1) := by decide +kernel
theorem dL_law_433 : decode cL_law 433 = .ok (.aload_n 0, 1) := by decide +kernel
theorem dL_law_434 : decode cL_law 434 = .ok (.iload_n 3, 1) := by decide +kernel
theorem dL_law_435 : decode cL_law 435 = .ok (.iconst 2, 1) := by decide +kernel
theorem dL_law_436 : decode cL_law 436 = .ok (.iadd, 1) := by decide +kernel
theorem dL_law_437 : decode cL_law 437 = .ok (.iaload, 1) := by decide +kernel
theorem dL_law_438 : decode cL_law 438 = .ok (.invokevirtual 70, 3) := by decide +kernel
theorem dL_law_441 : decode cL_law 441 = .ok (.aload_n 2, 1) := by decide +kernel
theorem dL_law_442 : decode cL_law 442 = .ok (.aload_n 0, 1) := by decide +kernel
theorem dL_law_443 : decode cL_law 443 = .ok (.iload_n 3, 1) := by decide +kernel
theorem dL_law_444 : decode cL_law 444 = .ok (.iconst 1, 1) := by decide +kernel
theorem dL_law_445 : decode cL_law 445 = .ok (.iadd, 1) := by decide +kernel
theorem dL_law_446 : decode cL_law 446 = .ok (.iaload, 1) := by decide +kernel
theorem dL_law_447 : decode cL_law 447 = .ok (.aload_n 0, 1) := by decide +kernel
theorem dL_law_448 : decode cL_law 448 = .ok (.iload_n 3, 1) := by decide +kernel
theorem dL_law_449 : decode cL_law 449 = .ok (.iconst 2, 1) := by decide +kernel
theorem dL_law_450 : decode cL_law 450 = .ok (.iadd, 1) := by decide +kernel
theorem dL_law_451 : decode cL_law 451 = .ok (.iaload, 1) := by decide +kernel
theorem dL_law_452 : decode cL_law 452 = .ok (.invokevirtual 73, 3) := by decide +kernel
theorem dL_law_455 : decode cL_law 455 = .ok (.if_icmp .eq 169, 3) := by decide +kernel
theorem dL_law_458 : decode cL_law 458 = .ok (.iconst 0, 1) := by decide +kernel
theorem dL_law_459 : decode cL_law 459 = .ok (.ireturn, 1) := by decide +kernel
theorem dL_law_460 : decode cL_law 460 = .ok (.aload_n 1, 1) := by decide +kernel
theorem dL_law_461 : decode cL_law 461 = .ok (.aload_n 0, 1) := by decide +kernel
theorem dL_law_462 : decode cL_law 462 = .ok (.iload_n 3, 1) := by decide +kernel
theorem dL_law_463 : decode cL_law 463 = .ok (.iconst 1, 1) := by decide +kernel
theorem dL_law_464 : decode cL_law 464 = .ok (.iadd, 1) := by decide +kernel
theorem dL_law_465 : decode cL_law 465 = .ok (.iaload, 1) := by decide +kernel
theorem dL_law_466 : decode cL_law 466 = .ok (.invokevirtual 74, 3) := by decide +kernel
theorem dL_law_469 : decode cL_law 469 = .ok (.aload_n 2, 1) := by decide +kernel
theorem dL_law_470 : decode cL_law 470 = .ok (.aload_n 0, 1) := by decide +kernel
theorem dL_law_471 : decode cL_law 471 = .ok (.iload_n 3, 1) := by decide +kernel
theorem dL_law_472 : decode cL_law 472 = .ok (.iconst 1, 1) := by decide +kernel
theorem dL_law_473 : decode cL_law 473 = .ok (.iadd, 1) := by decide +kernel
theorem dL_law_474 : decode cL_law 474 = .ok (.iaload, 1) := by decide +kernel
theorem dL_law_475 : decode cL_law 475 = .ok (.invokevirtual 77, 3) := by decide +kernel
theorem dL_law_478 : decode cL_law 478 = .ok (.if_icmp .eq 146, 3) := by decide +kernel
theorem dL_law_481 : decode cL_law 481 = .ok (.iconst 0, 1) := by decide +kernel
theorem dL_law_482 : decode cL_law 482 = .ok (.ireturn, 1) := by decide +kernel
theorem dL_law_483 : decode cL_law 483 = .ok (.aload_n 1, 1) := by decide +kernel
theorem dL_law_484 : decode cL_law 484 = .ok (.aload_n 0, 1) := by decide +kernel
theorem dL_law_485 : decode cL_law 485 = .ok (.iload_n 3, 1) := by decide +kernel
theorem dL_law_486 : decode cL_law 486 = .ok (.iconst 1, 1) := by decide +kernel
theorem dL_law_487 : decode cL_law 487 = .ok (.iadd, 1) := by decide +kernel
theorem dL_law_488 : decode cL_law 488 = .ok (.iaload, 1) := by decide +kernel
theorem dL_law_489 : decode cL_law 489 = .ok (.invokevirtual 78, 3) := by decide +kernel
theorem dL_law_492 : decode cL_law 492 = .ok (.aload_n 2, 1) := by decide +kernel
theorem dL_law_493 : decode cL_law 493 = .ok (.aload_n 0, 1) := by decide +kernel
theorem dL_law_494 : decode cL_law 494 = .ok (.iload_n 3, 1) := by decide +kernel
theorem dL_law_495 : decode cL_law 495 = .ok (.iconst 1, 1) := by decide +kernel
theorem dL_law_496 : decode cL_law 496 = .ok (.iadd, 1) := by decide +kernel
theorem dL_law_497 : decode cL_law 497 = .ok (.iaload, 1) := by decide +kernel
theorem dL_law_498 : decode cL_law 498 = .ok (.invokevirtual 81, 3) := by decide +kernel
theorem dL_law_501 : decode cL_law 501 = .ok (.if_icmp .eq 123, 3) := by decide +kernel
theorem dL_law_504 : decode cL_law 504 = .ok (.iconst 0, 1) := by decide +kernel
theorem dL_law_505 : decode cL_law 505 = .ok (.ireturn, 1) := by decide +kernel
theorem dL_law_506 : decode cL_law 506 = .ok (.aload_n 1, 1) := by decide +kernel
theorem dL_law_507 : decode cL_law 507 = .ok (.aload_n 0, 1) := by decide +kernel
theorem dL_law_508 : decode cL_law 508 = .ok (.iload_n 3, 1) := by decide +kernel
theorem dL_law_509 : decode cL_law 509 = .ok (.iconst 1, 1) := by decide +kernel
theorem dL_law_510 : decode cL_law 510 = .ok (.iadd, 1) := by decide +kernel
theorem dL_law_511 : decode cL_law 511 = .ok (.iaload, 1) := by decide +kernel
theorem dL_law_512 : decode cL_law 512 = .ok (.invokevirtual 82, 3) := by decide +kernel
theorem dL_law_515 : decode cL_law 515 = .ok (.aload_n 2, 1) := by decide +kernel
theorem dL_law_516 : decode cL_law 516 = .ok (.aload_n 0, 1) := by decide +kernel
theorem dL_law_517 : decode cL_law 517 = .ok (.iload_n 3, 1) := by decide +kernel
theorem dL_law_518 : decode cL_law 518 = .ok (.iconst 1, 1) := by decide +kernel
theorem dL_law_519 : decode cL_law 519 = .ok (.iadd, 1) := by decide +kernel
theorem dL_law_520 : decode cL_law 520 = .ok (.iaload, 1) := by decide +kernel
theorem dL_law_521 : decode cL_law 521 = .ok (.invokevirtual 85, 3) := by decide +kernel
theorem dL_law_524 : decode cL_law 524 = .ok (.if_icmp .eq 100, 3) := by decide +kernel
theorem dL_law_527 : decode cL_law 527 = .ok (.iconst 0, 1) := by decide +kernel
theorem dL_law_528 : decode cL_law 528 = .ok (.ireturn, 1) := by decide +kernel
theorem dL_law_529 : decode cL_law 529 = .ok (.aload_n 1, 1) := by decide +kernel
theorem dL_law_530 : decode cL_law 530 = .ok (.aload_n 0, 1) := by decide +kernel
theorem dL_law_531 : decode cL_law 531 = .ok (.iload_n 3, 1) := by decide +kernel
theorem dL_law_532 : decode cL_law 532 = .ok (.iconst 1, 1) := by decide +kernel
theorem dL_law_533 : decode cL_law 533 = .ok (.iadd, 1) := by decide +kernel
theorem dL_law_534 : decode cL_law 534 = .ok (.iaload, 1) := by decide +kernel
theorem dL_law_535 : decode cL_law 535 = .ok (.invokevirtual 86, 3) := by decide +kernel
theorem dL_law_538 : decode cL_law 538 = .ok (.aload_n 2, 1) := by decide +kernel
theorem dL_law_539 : decode cL_law 539 = .ok (.aload_n 0, 1) := by decide +kernel
theorem dL_law_540 : decode cL_law 540 = .ok (.iload_n 3, 1) := by decide +kernel
theorem dL_law_541 : decode cL_law 541 = .ok (.iconst 1, 1) := by decide +kernel
theorem dL_law_542 : decode cL_law 542 = .ok (.iadd, 1) := by decide +kernel
theorem dL_law_543 : decode cL_law 543 = .ok (.iaload, 1) := by decide +kernel
theorem dL_law_544 : decode cL_law 544 = .ok (.invokevirtual 89, 3) := by decide +kernel
theorem dL_law_547 : decode cL_law 547 = .ok (.if_icmp .eq 77, 3) := by decide +kernel
theorem dL_law_550 : decode cL_law 550 = .ok (.iconst 0, 1) := by decide +kernel
theorem dL_law_551 : decode cL_law 551 = .ok (.ireturn, 1) := by decide +kernel
theorem dL_law_552 : decode cL_law 552 = .ok (.aload_n 1, 1) := by decide +kernel
theorem dL_law_553 : decode cL_law 553 = .ok (.invokevirtual 90, 3) := by decide +kernel
theorem dL_law_556 : decode cL_law 556 = .ok (.aload_n 2, 1) := by decide +kernel
theorem dL_law_557 : decode cL_law 557 = .ok (.invokevirtual 93, 3) := by decide +kernel
theorem dL_law_560 : decode cL_law 560 = .ok (.if_icmp .eq 64, 3) := by decide +kernel
theorem dL_law_563 : decode cL_law 563 = .ok (.iconst 0, 1) := by decide +kernel
theorem dL_law_564 : decode cL_law 564 = .ok (.ireturn, 1) := by decide +kernel
theorem dL_law_565 : decode cL_law 565 = .ok (.aload_n 1, 1) := by decide +kernel
theorem dL_law_566 : decode cL_law 566 = .ok (.aload_n 0, 1) := by decide +kernel
theorem dL_law_567 : decode cL_law 567 = .ok (.iload_n 3, 1) := by decide +kernel
theorem dL_law_568 : decode cL_law 568 = .ok (.iconst 1, 1) := by decide +kernel
theorem dL_law_569 : decode cL_law 569 = .ok (.iadd, 1) := by decide +kernel
theorem dL_law_570 : decode cL_law 570 = .ok (.iaload, 1) := by decide +kernel
theorem dL_law_571 : decode cL_law 571 = .ok (.invokevirtual 94, 3) := by decide +kernel
theorem dL_law_574 : decode cL_law 574 = .ok (.aload_n 2, 1) := by decide +kernel
theorem dL_law_575 : decode cL_law 575 = .ok (.aload_n 0, 1) := by decide +kernel
theorem dL_law_576 : decode cL_law 576 = .ok (.iload_n 3, 1) := by decide +kernel
theorem dL_law_577 : decode cL_law 577 = .ok (.iconst 1, 1) := by decide +kernel
theorem dL_law_578 : decode cL_law 578 = .ok (.iadd, 1) := by decide +kernel
theorem dL_law_579 : decode cL_law 579 = .ok (.iaload, 1) := by decide +kernel
theorem dL_law_580 : decode cL_law 580 = .ok (.invokevirtual 97, 3) := by decide +kernel
theorem dL_law_583 : decode cL_law 583 = .ok (.if_icmp .eq 41, 3) := by decide +kernel
theorem dL_law_586 : decode cL_law 586 = .ok (.iconst 0, 1) := by decide +kernel
theorem dL_law_587 : decode cL_law 587 = .ok (.ireturn, 1) := by decide +kernel
theorem dL_law_588 : decode cL_law 588 = .ok (.aload_n 1, 1) := by decide +kernel
theorem dL_law_589 : decode cL_law 589 = .ok (.invokevirtual 98, 3) := by decide +kernel
theorem dL_law_592 : decode cL_law 592 = .ok (.aload_n 2, 1) := by decide +kernel
theorem dL_law_593 : decode cL_law 593 = .ok (.invokevirtual 101, 3) := by decide +kernel
theorem dL_law_596 : decode cL_law 596 = .ok (.if_icmp .eq 28, 3) := by decide +kernel
theorem dL_law_599 : decode cL_law 599 = .ok (.iconst 0, 1) := by decide +kernel
theorem dL_law_600 : decode cL_law 600 = .ok (.ireturn, 1) := by decide +kernel
theorem dL_law_601 : decode cL_law 601 = .ok (.aload_n 1, 1) := by decide +kernel
theorem dL_law_602 : decode cL_law 602 = .ok (.aload_n 0, 1) := by decide +kernel
theorem dL_law_603 : decode cL_law 603 = .ok (.iload_n 3, 1) := by decide +kernel
theorem dL_law_604 : decode cL_law 604 = .ok (.iconst 1, 1) := by decide +kernel
theorem dL_law_605 : decode cL_law 605 = .ok (.iadd, 1) := by decide +kernel
theorem dL_law_606 : decode cL_law 606 = .ok (.iaload, 1) := by decide +kernel
theorem dL_law_607 : decode cL_law 607 = .ok (.invokevirtual 102, 3) := by decide +kernel
theorem dL_law_610 : decode cL_law 610 = .ok (.aload_n 2, 1) := by decide +kernel
theorem dL_law_611 : decode cL_law 611 = .ok (.aload_n 0, 1) := by decide +kernel
theorem dL_law_612 : decode cL_law 612 = .ok (.iload_n 3, 1) := by decide +kernel
theorem dL_law_613 : decode cL_law 613 = .ok (.iconst 1, 1) := by decide +kernel
theorem dL_law_614 : decode cL_law 614 = .ok (.iadd, 1) := by decide +kernel
theorem dL_law_615 : decode cL_law 615 = .ok (.iaload, 1) := by decide +kernel
theorem dL_law_616 : decode cL_law 616 = .ok (.invokevirtual 105, 3) := by decide +kernel
theorem dL_law_619 : decode cL_law 619 = .ok (.if_icmp .eq 5, 3) := by decide +kernel
theorem dL_law_622 : decode cL_law 622 = .ok (.iconst 0, 1) := by decide +kernel
theorem dL_law_623 : decode cL_law 623 = .ok (.ireturn, 1) := by decide +kernel
theorem dL_law_624 : decode cL_law 624 = .ok (.iinc 3 5, 3) := by decide +kernel
theorem dL_law_627 : decode cL_law 627 = .ok (.goto (-609), 3) := by decide +kernel
theorem dL_law_630 : decode cL_law 630 = .ok (.iconst 1, 1) := by decide +kernel
theorem dL_law_631 : decode cL_law 631 = .ok (.ireturn, 1) := by decide +kernel
abbrev vwCl : List vw_C := [(RX0, TX0, 7), (RX1, TX1, 9), (RX2, TX2, 10), (RX3, TX3, 10), (RX4, TX4, 21)]
