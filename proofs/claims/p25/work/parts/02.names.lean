/-! ===== BEGIN words of one list among another's, by their places ===== -/
/-! ===== END ===== -/

/-! ===== BEGIN printed: names, fields, word lists, decode rows ===== -/
def RX0 : String := "BeamCuts$Plan"
def TX0 : u_T := fun k => match k with
  | 0 => ("BeamCuts$Plan", "letters", "[C", true)
  | 1 => ("BeamCuts$Plan", "kinds", "[I", true)
  | 2 => ("BeamCuts$Plan", "firsts", "[I", true)
  | 3 => ("BeamCuts$Plan", "seconds", "[I", true)
  | 4 => ("BeamCuts$Plan", "length", "I", false)
  | 5 => ("BeamCuts$Plan", "size", "I", false)
  | _ => ("BeamCuts$Plan", "at", "I", false)
def tyX0 : Nat → FieldType := fun k => match k with
  | 0 => .array .char
  | 1 => .array .int
  | 2 => .array .int
  | 3 => .array .int
  | 4 => .int
  | 5 => .int
  | _ => .int
abbrev wsX00 : List Cond := u_ws RX0 TX0 7
theorem nmX0 : ∀ a, a < 7 → ∀ b, b < 7 → a ≠ b → (TX0 a).2.1 ≠ (TX0 b).2.1 := by decide +kernel
theorem tyX0_ok : ∀ k, k < 7 → parseFieldDescriptor (TX0 k).2.2.1 = some (tyX0 k) := by decide +kernel
abbrev cX0_init : ByteArray := prog_2_method_1_code
def yX0_init : MethodName := ⟨RX0, "<init>", "()V"⟩
def RX1 : String := "BeamCuts$Shape"
def TX1 : u_T := fun k => match k with
  | 0 => ("BeamCuts$Shape", "left", "I", false)
  | 1 => ("BeamCuts$Shape", "top", "I", false)
  | 2 => ("BeamCuts$Shape", "width", "I", false)
  | 3 => ("BeamCuts$Shape", "height", "I", false)
  | 4 => ("BeamCuts$Shape", "lead", "I", false)
  | 5 => ("BeamCuts$Shape", "condition", "I", false)
  | 6 => ("BeamCuts$Shape", "tilted", "I", false)
  | 7 => ("BeamCuts$Shape", "rank", "I", false)
  | _ => ("BeamCuts$Shape", "edgeIn", "[I", true)
def tyX1 : Nat → FieldType := fun k => match k with
  | 0 => .int
  | 1 => .int
  | 2 => .int
  | 3 => .int
  | 4 => .int
  | 5 => .int
  | 6 => .int
  | 7 => .int
  | _ => .array .int
abbrev wsX10 : List Cond := u_ws RX1 TX1 9
theorem nmX1 : ∀ a, a < 9 → ∀ b, b < 9 → a ≠ b → (TX1 a).2.1 ≠ (TX1 b).2.1 := by decide +kernel
theorem tyX1_ok : ∀ k, k < 9 → parseFieldDescriptor (TX1 k).2.2.1 = some (tyX1 k) := by decide +kernel
abbrev cX1_init : ByteArray := prog_3_method_1_code
def yX1_init : MethodName := ⟨RX1, "<init>", "()V"⟩
abbrev cX1_copyFrom : ByteArray := prog_3_method_2_code
def yX1_copyFrom : MethodName := ⟨RX1, "copyFrom", "(LBeamCuts$Shape;)V"⟩
abbrev cX1_place : ByteArray := prog_3_method_3_code
def yX1_place : MethodName := ⟨RX1, "place", "(IIII)V"⟩
abbrev cX1_fieldsIn : ByteArray := prog_3_method_4_code
def yX1_fieldsIn : MethodName := ⟨RX1, "fieldsIn", "(II)I"⟩
abbrev cX1_isInside : ByteArray := prog_3_method_5_code
def yX1_isInside : MethodName := ⟨RX1, "isInside", "(LBeamCuts$Shape;)Z"⟩
abbrev cX1_isApartFrom : ByteArray := prog_3_method_6_code
def yX1_isApartFrom : MethodName := ⟨RX1, "isApartFrom", "(LBeamCuts$Shape;)Z"⟩
abbrev cX1_edge : ByteArray := prog_3_method_7_code
def yX1_edge : MethodName := ⟨RX1, "edge", "()I"⟩
abbrev cX1_leadColumn : ByteArray := prog_3_method_8_code
def yX1_leadColumn : MethodName := ⟨RX1, "leadColumn", "()I"⟩
abbrev cX1_leadRow : ByteArray := prog_3_method_9_code
def yX1_leadRow : MethodName := ⟨RX1, "leadRow", "()I"⟩
abbrev cX1_leadSquare : ByteArray := prog_3_method_10_code
def yX1_leadSquare : MethodName := ⟨RX1, "leadSquare", "()I"⟩
def RX2 : String := "BeamCuts$Sheet"
def TX2 : u_T := fun k => match k with
  | 0 => ("BeamCuts$Sheet", "shapes", "[LBeamCuts$Shape;", true)
  | 1 => ("BeamCuts$Sheet", "heats", "[I", true)
  | 2 => ("BeamCuts$Sheet", "settings", "[I", true)
  | 3 => ("BeamCuts$Sheet", "told", "I", false)
  | 4 => ("BeamCuts$Sheet", "column", "I", false)
  | 5 => ("BeamCuts$Sheet", "row", "I", false)
  | 6 => ("BeamCuts$Sheet", "dirt", "I", false)
  | 7 => ("BeamCuts$Sheet", "ticks", "I", false)
  | 8 => ("BeamCuts$Sheet", "burningTicks", "I", false)
  | _ => ("BeamCuts$Sheet", "cuts", "I", false)
def tyX2 : Nat → FieldType := fun k => match k with
  | 0 => .array (.object "BeamCuts$Shape")
  | 1 => .array .int
  | 2 => .array .int
  | 3 => .int
  | 4 => .int
  | 5 => .int
  | 6 => .int
  | 7 => .int
  | 8 => .int
  | _ => .int
abbrev wsX20 : List Cond := u_ws RX2 TX2 10
theorem nmX2 : ∀ a, a < 10 → ∀ b, b < 10 → a ≠ b → (TX2 a).2.1 ≠ (TX2 b).2.1 := by decide +kernel
theorem tyX2_ok : ∀ k, k < 10 → parseFieldDescriptor (TX2 k).2.2.1 = some (tyX2 k) := by decide +kernel
abbrev cX2_init : ByteArray := prog_4_method_1_code
def yX2_init : MethodName := ⟨RX2, "<init>", "()V"⟩
abbrev cX2_copyFrom : ByteArray := prog_4_method_2_code
def yX2_copyFrom : MethodName := ⟨RX2, "copyFrom", "(LBeamCuts$Sheet;)V"⟩
abbrev cX2_knows : ByteArray := prog_4_method_3_code
def yX2_knows : MethodName := ⟨RX2, "knows", "(I)Z"⟩
abbrev cX2_addShape : ByteArray := prog_4_method_4_code
def yX2_addShape : MethodName := ⟨RX2, "addShape", "(IIII)I"⟩
abbrev cX2_fits : ByteArray := prog_4_method_5_code
def yX2_fits : MethodName := ⟨RX2, "fits", "(LBeamCuts$Shape;)Z"⟩
abbrev cX2_changeLead : ByteArray := prog_4_method_6_code
def yX2_changeLead : MethodName := ⟨RX2, "changeLead", "(II)I"⟩
abbrev cX2_changeSetting : ByteArray := prog_4_method_7_code
def yX2_changeSetting : MethodName := ⟨RX2, "changeSetting", "(II)I"⟩
abbrev cX2_cutShape : ByteArray := prog_4_method_8_code
def yX2_cutShape : MethodName := ⟨RX2, "cutShape", "(I)I"⟩
abbrev cX2_burnEdge : ByteArray := prog_4_method_9_code
def yX2_burnEdge : MethodName := ⟨RX2, "burnEdge", "(LBeamCuts$Shape;)V"⟩
abbrev cX2_loseShapesInside : ByteArray := prog_4_method_10_code
def yX2_loseShapesInside : MethodName := ⟨RX2, "loseShapesInside", "(LBeamCuts$Shape;)I"⟩
abbrev cX2_waitFor : ByteArray := prog_4_method_11_code
def yX2_waitFor : MethodName := ⟨RX2, "waitFor", "(I)I"⟩
abbrev cX2_cleanLens : ByteArray := prog_4_method_12_code
def yX2_cleanLens : MethodName := ⟨RX2, "cleanLens", "()I"⟩
abbrev cX2_coolFor : ByteArray := prog_4_method_13_code
def yX2_coolFor : MethodName := ⟨RX2, "coolFor", "(I)V"⟩
abbrev cX2_wayTo : ByteArray := prog_4_method_14_code
def yX2_wayTo : MethodName := ⟨RX2, "wayTo", "(LBeamCuts$Shape;)I"⟩
abbrev cX2_burningOf : ByteArray := prog_4_method_15_code
def yX2_burningOf : MethodName := ⟨RX2, "burningOf", "(LBeamCuts$Shape;)I"⟩
abbrev cX2_reasonAgainst : ByteArray := prog_4_method_16_code
def yX2_reasonAgainst : MethodName := ⟨RX2, "reasonAgainst", "(I)I"⟩
abbrev cX2_holdsWholeShape : ByteArray := prog_4_method_17_code
def yX2_holdsWholeShape : MethodName := ⟨RX2, "holdsWholeShape", "(LBeamCuts$Shape;)Z"⟩
abbrev cX2_heatOver : ByteArray := prog_4_method_18_code
def yX2_heatOver : MethodName := ⟨RX2, "heatOver", "(LBeamCuts$Shape;)I"⟩
abbrev cX2_ticksToCut : ByteArray := prog_4_method_19_code
def yX2_ticksToCut : MethodName := ⟨RX2, "ticksToCut", "(I)I"⟩
abbrev cX2_ticksToCool : ByteArray := prog_4_method_20_code
def yX2_ticksToCool : MethodName := ⟨RX2, "ticksToCool", "(I)I"⟩
abbrev cX2_bestShape : ByteArray := prog_4_method_21_code
def yX2_bestShape : MethodName := ⟨RX2, "bestShape", "()I"⟩
abbrev cX2_fewestTicksToCool : ByteArray := prog_4_method_22_code
def yX2_fewestTicksToCool : MethodName := ⟨RX2, "fewestTicksToCool", "()I"⟩
abbrev cX2_cutNext : ByteArray := prog_4_method_23_code
def yX2_cutNext : MethodName := ⟨RX2, "cutNext", "()I"⟩
abbrev cX2_heatIn : ByteArray := prog_4_method_24_code
def yX2_heatIn : MethodName := ⟨RX2, "heatIn", "(I)I"⟩
abbrev cX2_greatestHeat : ByteArray := prog_4_method_25_code
def yX2_greatestHeat : MethodName := ⟨RX2, "greatestHeat", "()I"⟩
abbrev cX2_hottestSquare : ByteArray := prog_4_method_26_code
def yX2_hottestSquare : MethodName := ⟨RX2, "hottestSquare", "()I"⟩
abbrev cX2_allHeat : ByteArray := prog_4_method_27_code
def yX2_allHeat : MethodName := ⟨RX2, "allHeat", "()I"⟩
abbrev cX2_shapesThatAre : ByteArray := prog_4_method_28_code
def yX2_shapesThatAre : MethodName := ⟨RX2, "shapesThatAre", "(I)I"⟩
abbrev cX2_shapesThatTilted : ByteArray := prog_4_method_29_code
def yX2_shapesThatTilted : MethodName := ⟨RX2, "shapesThatTilted", "()I"⟩
abbrev cX2_outerOf : ByteArray := prog_4_method_30_code
def yX2_outerOf : MethodName := ⟨RX2, "outerOf", "(LBeamCuts$Shape;)I"⟩
abbrev cX2_setInside : ByteArray := prog_4_method_31_code
def yX2_setInside : MethodName := ⟨RX2, "setInside", "(LBeamCuts$Shape;)I"⟩
abbrev cX2_factOfShape : ByteArray := prog_4_method_32_code
def yX2_factOfShape : MethodName := ⟨RX2, "factOfShape", "(II)I"⟩
abbrev cX2_factOfSheet : ByteArray := prog_4_method_33_code
def yX2_factOfSheet : MethodName := ⟨RX2, "factOfSheet", "(I)I"⟩
def RX3 : String := "BeamCuts"
def TX3 : u_T := fun k => match k with
  | 0 => ("BeamCuts", "sheet", "LBeamCuts$Sheet;", true)
  | 1 => ("BeamCuts", "before", "LBeamCuts$Sheet;", true)
  | 2 => ("BeamCuts", "trial", "LBeamCuts$Sheet;", true)
  | 3 => ("BeamCuts", "snapshot", "LBeamCuts$Sheet;", true)
  | 4 => ("BeamCuts", "history", "[LBeamCuts$Sheet;", true)
  | 5 => ("BeamCuts", "plan", "LBeamCuts$Plan;", true)
  | 6 => ("BeamCuts", "states", "I", false)
  | 7 => ("BeamCuts", "hasSnapshot", "Z", false)
  | 8 => ("BeamCuts", "stopNumber", "I", false)
  | _ => ("BeamCuts", "stopError", "I", false)
def tyX3 : Nat → FieldType := fun k => match k with
  | 0 => .object "BeamCuts$Sheet"
  | 1 => .object "BeamCuts$Sheet"
  | 2 => .object "BeamCuts$Sheet"
  | 3 => .object "BeamCuts$Sheet"
  | 4 => .array (.object "BeamCuts$Sheet")
  | 5 => .object "BeamCuts$Plan"
  | 6 => .int
  | 7 => .boolean
  | 8 => .int
  | _ => .int
abbrev wsX30 : List Cond := u_ws RX3 TX3 10
theorem nmX3 : ∀ a, a < 10 → ∀ b, b < 10 → a ≠ b → (TX3 a).2.1 ≠ (TX3 b).2.1 := by decide +kernel
theorem tyX3_ok : ∀ k, k < 10 → parseFieldDescriptor (TX3 k).2.2.1 = some (tyX3 k) := by decide +kernel
abbrev cX3_init : ByteArray := prog_1_method_1_code
def yX3_init : MethodName := ⟨RX3, "<init>", "()V"⟩
abbrev cX3_tell : ByteArray := prog_1_method_2_code
def yX3_tell : MethodName := ⟨RX3, "tell", "(IIII)I"⟩
abbrev cX3_setLead : ByteArray := prog_1_method_3_code
def yX3_setLead : MethodName := ⟨RX3, "setLead", "(II)I"⟩
abbrev cX3_set : ByteArray := prog_1_method_4_code
def yX3_set : MethodName := ⟨RX3, "set", "(II)I"⟩
abbrev cX3_cut : ByteArray := prog_1_method_5_code
def yX3_cut : MethodName := ⟨RX3, "cut", "(I)I"⟩
abbrev cX3_pause : ByteArray := prog_1_method_6_code
def yX3_pause : MethodName := ⟨RX3, "pause", "(I)I"⟩
abbrev cX3_clean : ByteArray := prog_1_method_7_code
def yX3_clean : MethodName := ⟨RX3, "clean", "()I"⟩
abbrev cX3_undo : ByteArray := prog_1_method_12_code
def yX3_undo : MethodName := ⟨RX3, "undo", "()I"⟩
abbrev cX3_restore : ByteArray := prog_1_method_14_code
def yX3_restore : MethodName := ⟨RX3, "restore", "()I"⟩
abbrev cX3_shape : ByteArray := prog_1_method_15_code
def yX3_shape : MethodName := ⟨RX3, "shape", "(II)I"⟩
abbrev cX3_heat : ByteArray := prog_1_method_16_code
def yX3_heat : MethodName := ⟨RX3, "heat", "(I)I"⟩
abbrev cX3_reason : ByteArray := prog_1_method_17_code
def yX3_reason : MethodName := ⟨RX3, "reason", "(I)I"⟩
abbrev cX3_takes : ByteArray := prog_1_method_18_code
def yX3_takes : MethodName := ⟨RX3, "takes", "(I)I"⟩
abbrev cX3_coolsIn : ByteArray := prog_1_method_19_code
def yX3_coolsIn : MethodName := ⟨RX3, "coolsIn", "(I)I"⟩
abbrev cX3_best : ByteArray := prog_1_method_20_code
def yX3_best : MethodName := ⟨RX3, "best", "()I"⟩
abbrev cX3_ordered : ByteArray := prog_1_method_21_code
def yX3_ordered : MethodName := ⟨RX3, "ordered", "(I)I"⟩
abbrev cX3_allTakes : ByteArray := prog_1_method_22_code
def yX3_allTakes : MethodName := ⟨RX3, "allTakes", "()I"⟩
abbrev cX3_count : ByteArray := prog_1_method_23_code
def yX3_count : MethodName := ⟨RX3, "count", "(I)I"⟩
abbrev cX3_recorded : ByteArray := prog_1_method_24_code
def yX3_recorded : MethodName := ⟨RX3, "recorded", "(I)I"⟩
abbrev cX3_dropOldestState : ByteArray := prog_1_method_25_code
def yX3_dropOldestState : MethodName := ⟨RX3, "dropOldestState", "()V"⟩
abbrev cX3_isIn : ByteArray := prog_1_method_26_code
def yX3_isIn : MethodName := ⟨RX3, "isIn", "(III)Z"⟩
def RX4 : String := "BeamCutsModel"
def TX4 : u_T := fun k => match k with
  | _ => ("", "", "", false)
def tyX4 : Nat → FieldType := fun k => match k with
  | _ => .int
abbrev wsX40 : List Cond := u_ws RX4 TX4 0
theorem nmX4 : ∀ a, a < 0 → ∀ b, b < 0 → a ≠ b → (TX4 a).2.1 ≠ (TX4 b).2.1 := by decide +kernel
theorem tyX4_ok : ∀ k, k < 0 → parseFieldDescriptor (TX4 k).2.2.1 = some (tyX4 k) := by decide +kernel
def RL : String := "BeamCutsLaw"
abbrev cL_cell : ByteArray := method_2_code
def yL_cell : MethodName := ⟨RL, "cell", "([II)I"⟩
abbrev cL_low : ByteArray := method_3_code
def yL_low : MethodName := ⟨RL, "low", "(II)I"⟩
abbrev cL_act : ByteArray := method_4_code
def yL_act : MethodName := ⟨RL, "act", "(LBeamCuts;III)I"⟩
abbrev cL_within : ByteArray := method_5_code
def yL_within : MethodName := ⟨RL, "within", "(LBeamCuts;II)I"⟩
abbrev cL_isInside : ByteArray := method_6_code
def yL_isInside : MethodName := ⟨RL, "isInside", "(LBeamCuts;II)Z"⟩
abbrev cL_isEdge : ByteArray := method_7_code
def yL_isEdge : MethodName := ⟨RL, "isEdge", "(LBeamCuts;III)Z"⟩
abbrev cL_edgeIn : ByteArray := method_8_code
def yL_edgeIn : MethodName := ⟨RL, "edgeIn", "(LBeamCuts;II)I"⟩
abbrev cL_off : ByteArray := method_9_code
def yL_off : MethodName := ⟨RL, "off", "(II)I"⟩
abbrev cL_goes : ByteArray := method_10_code
def yL_goes : MethodName := ⟨RL, "goes", "(LBeamCuts;I)I"⟩
abbrev cL_isShape : ByteArray := method_11_code
def yL_isShape : MethodName := ⟨RL, "isShape", "(LBeamCuts;I)Z"⟩
abbrev cL_holds : ByteArray := method_12_code
def yL_holds : MethodName := ⟨RL, "holds", "(LBeamCuts;)Z"⟩
abbrev cL_tries : ByteArray := method_13_code
def yL_tries : MethodName := ⟨RL, "tries", "(LBeamCuts;I)Z"⟩
abbrev cL_goesThrough : ByteArray := method_14_code
def yL_goesThrough : MethodName := ⟨RL, "goesThrough", "(LBeamCuts;)Z"⟩
abbrev cL_law : ByteArray := code
def yL_law : MethodName := ⟨RL, "law", "([I)Z"⟩
theorem dX0_init_0 : decode cX0_init 0 = .ok (.aload_n 0, 1) := by decide +kernel
theorem dX0_init_1 : decode cX0_init 1 = .ok (.invokespecial 3, 3) := by decide +kernel
theorem dX0_init_4 : decode cX0_init 4 = .ok (.aload_n 0, 1) := by decide +kernel
theorem dX0_init_5 : decode cX0_init 5 = .ok (.bipush 60, 2) := by decide +kernel
theorem dX0_init_7 : decode cX0_init 7 = .ok (.newarray .char, 2) := by decide +kernel
theorem dX0_init_9 : decode cX0_init 9 = .ok (.putfield 11, 3) := by decide +kernel
theorem dX0_init_12 : decode cX0_init 12 = .ok (.aload_n 0, 1) := by decide +kernel
theorem dX0_init_13 : decode cX0_init 13 = .ok (.bipush 30, 2) := by decide +kernel
theorem dX0_init_15 : decode cX0_init 15 = .ok (.newarray .int, 2) := by decide +kernel
theorem dX0_init_17 : decode cX0_init 17 = .ok (.putfield 15, 3) := by decide +kernel
theorem dX0_init_20 : decode cX0_init 20 = .ok (.aload_n 0, 1) := by decide +kernel
theorem dX0_init_21 : decode cX0_init 21 = .ok (.bipush 30, 2) := by decide +kernel
theorem dX0_init_23 : decode cX0_init 23 = .ok (.newarray .int, 2) := by decide +kernel
theorem dX0_init_25 : decode cX0_init 25 = .ok (.putfield 19, 3) := by decide +kernel
theorem dX0_init_28 : decode cX0_init 28 = .ok (.aload_n 0, 1) := by decide +kernel
theorem dX0_init_29 : decode cX0_init 29 = .ok (.bipush 30, 2) := by decide +kernel
theorem dX0_init_31 : decode cX0_init 31 = .ok (.newarray .int, 2) := by decide +kernel
theorem dX0_init_33 : decode cX0_init 33 = .ok (.putfield 22, 3) := by decide +kernel
theorem dX0_init_36 : decode cX0_init 36 = .ok (.aload_n 0, 1) := by decide +kernel
theorem dX0_init_37 : decode cX0_init 37 = .ok (.iconst 0, 1) := by decide +kernel
theorem dX0_init_38 : decode cX0_init 38 = .ok (.putfield 25, 3) := by decide +kernel
theorem dX0_init_41 : decode cX0_init 41 = .ok (.aload_n 0, 1) := by decide +kernel
theorem dX0_init_42 : decode cX0_init 42 = .ok (.iconst 0, 1) := by decide +kernel
theorem dX0_init_43 : decode cX0_init 43 = .ok (.putfield 29, 3) := by decide +kernel
theorem dX0_init_46 : decode cX0_init 46 = .ok (.aload_n 0, 1) := by decide +kernel
theorem dX0_init_47 : decode cX0_init 47 = .ok (.iconst 0, 1) := by decide +kernel
theorem dX0_init_48 : decode cX0_init 48 = .ok (.putfield 32, 3) := by decide +kernel
theorem dX0_init_51 : decode cX0_init 51 = .ok (.return_, 1) := by decide +kernel
theorem dX1_init_0 : decode cX1_init 0 = .ok (.aload_n 0, 1) := by decide +kernel
theorem dX1_init_1 : decode cX1_init 1 = .ok (.invokespecial 3, 3) := by decide +kernel
theorem dX1_init_4 : decode cX1_init 4 = .ok (.aload_n 0, 1) := by decide +kernel
theorem dX1_init_5 : decode cX1_init 5 = .ok (.iconst 0, 1) := by decide +kernel
theorem dX1_init_6 : decode cX1_init 6 = .ok (.putfield 9, 3) := by decide +kernel
theorem dX1_init_9 : decode cX1_init 9 = .ok (.aload_n 0, 1) := by decide +kernel
theorem dX1_init_10 : decode cX1_init 10 = .ok (.iconst 0, 1) := by decide +kernel
theorem dX1_init_11 : decode cX1_init 11 = .ok (.putfield 15, 3) := by decide +kernel
theorem dX1_init_14 : decode cX1_init 14 = .ok (.aload_n 0, 1) := by decide +kernel
theorem dX1_init_15 : decode cX1_init 15 = .ok (.iconst 2, 1) := by decide +kernel
theorem dX1_init_16 : decode cX1_init 16 = .ok (.putfield 18, 3) := by decide +kernel
theorem dX1_init_19 : decode cX1_init 19 = .ok (.aload_n 0, 1) := by decide +kernel
theorem dX1_init_20 : decode cX1_init 20 = .ok (.iconst 2, 1) := by decide +kernel
theorem dX1_init_21 : decode cX1_init 21 = .ok (.putfield 21, 3) := by decide +kernel
theorem dX1_init_24 : decode cX1_init 24 = .ok (.aload_n 0, 1) := by decide +kernel
theorem dX1_init_25 : decode cX1_init 25 = .ok (.iconst 0, 1) := by decide +kernel
theorem dX1_init_26 : decode cX1_init 26 = .ok (.putfield 24, 3) := by decide +kernel
theorem dX1_init_29 : decode cX1_init 29 = .ok (.aload_n 0, 1) := by decide +kernel
theorem dX1_init_30 : decode cX1_init 30 = .ok (.iconst 0, 1) := by decide +kernel
theorem dX1_init_31 : decode cX1_init 31 = .ok (.putfield 27, 3) := by decide +kernel
theorem dX1_init_34 : decode cX1_init 34 = .ok (.aload_n 0, 1) := by decide +kernel
theorem dX1_init_35 : decode cX1_init 35 = .ok (.iconst 0, 1) := by decide +kernel
theorem dX1_init_36 : decode cX1_init 36 = .ok (.putfield 30, 3) := by decide +kernel
theorem dX1_init_39 : decode cX1_init 39 = .ok (.aload_n 0, 1) := by decide +kernel
theorem dX1_init_40 : decode cX1_init 40 = .ok (.bipush (-5), 2) := by decide +kernel
theorem dX1_init_42 : decode cX1_init 42 = .ok (.putfield 33, 3) := by decide +kernel
theorem dX1_init_45 : decode cX1_init 45 = .ok (.aload_n 0, 1) := by decide +kernel
theorem dX1_init_46 : decode cX1_init 46 = .ok (.bipush 12, 2) := by decide +kernel
theorem dX1_init_48 : decode cX1_init 48 = .ok (.newarray .int, 2) := by decide +kernel
theorem dX1_init_50 : decode cX1_init 50 = .ok (.putfield 38, 3) := by decide +kernel
theorem dX1_init_53 : decode cX1_init 53 = .ok (.return_, 1) := by decide +kernel
theorem dX1_copyFrom_0 : decode cX1_copyFrom 0 = .ok (.aload_n 0, 1) := by decide +kernel
theorem dX1_copyFrom_1 : decode cX1_copyFrom 1 = .ok (.aload_n 1, 1) := by decide +kernel
theorem dX1_copyFrom_2 : decode cX1_copyFrom 2 = .ok (.getfield 9, 3) := by decide +kernel
theorem dX1_copyFrom_5 : decode cX1_copyFrom 5 = .ok (.putfield 9, 3) := by decide +kernel
theorem dX1_copyFrom_8 : decode cX1_copyFrom 8 = .ok (.aload_n 0, 1) := by decide +kernel
theorem dX1_copyFrom_9 : decode cX1_copyFrom 9 = .ok (.aload_n 1, 1) := by decide +kernel
theorem dX1_copyFrom_10 : decode cX1_copyFrom 10 = .ok (.getfield 15, 3) := by decide +kernel
theorem dX1_copyFrom_13 : decode cX1_copyFrom 13 = .ok (.putfield 15, 3) := by decide +kernel
theorem dX1_copyFrom_16 : decode cX1_copyFrom 16 = .ok (.aload_n 0, 1) := by decide +kernel
theorem dX1_copyFrom_17 : decode cX1_copyFrom 17 = .ok (.aload_n 1, 1) := by decide +kernel
theorem dX1_copyFrom_18 : decode cX1_copyFrom 18 = .ok (.getfield 18, 3) := by decide +kernel
theorem dX1_copyFrom_21 : decode cX1_copyFrom 21 = .ok (.putfield 18, 3) := by decide +kernel
theorem dX1_copyFrom_24 : decode cX1_copyFrom 24 = .ok (.aload_n 0, 1) := by decide +kernel
theorem dX1_copyFrom_25 : decode cX1_copyFrom 25 = .ok (.aload_n 1, 1) := by decide +kernel
theorem dX1_copyFrom_26 : decode cX1_copyFrom 26 = .ok (.getfield 21, 3) := by decide +kernel
theorem dX1_copyFrom_29 : decode cX1_copyFrom 29 = .ok (.putfield 21, 3) := by decide +kernel
theorem dX1_copyFrom_32 : decode cX1_copyFrom 32 = .ok (.aload_n 0, 1) := by decide +kernel
theorem dX1_copyFrom_33 : decode cX1_copyFrom 33 = .ok (.aload_n 1, 1) := by decide +kernel
theorem dX1_copyFrom_34 : decode cX1_copyFrom 34 = .ok (.getfield 24, 3) := by decide +kernel
theorem dX1_copyFrom_37 : decode cX1_copyFrom 37 = .ok (.putfield 24, 3) := by decide +kernel
theorem dX1_copyFrom_40 : decode cX1_copyFrom 40 = .ok (.aload_n 0, 1) := by decide +kernel
theorem dX1_copyFrom_41 : decode cX1_copyFrom 41 = .ok (.aload_n 1, 1) := by decide +kernel
theorem dX1_copyFrom_42 : decode cX1_copyFrom 42 = .ok (.getfield 27, 3) := by decide +kernel
theorem dX1_copyFrom_45 : decode cX1_copyFrom 45 = .ok (.putfield 27, 3) := by decide +kernel
theorem dX1_copyFrom_48 : decode cX1_copyFrom 48 = .ok (.aload_n 0, 1) := by decide +kernel
theorem dX1_copyFrom_49 : decode cX1_copyFrom 49 = .ok (.aload_n 1, 1) := by decide +kernel
theorem dX1_copyFrom_50 : decode cX1_copyFrom 50 = .ok (.getfield 30, 3) := by decide +kernel
theorem dX1_copyFrom_53 : decode cX1_copyFrom 53 = .ok (.putfield 30, 3) := by decide +kernel
theorem dX1_copyFrom_56 : decode cX1_copyFrom 56 = .ok (.aload_n 0, 1) := by decide +kernel
theorem dX1_copyFrom_57 : decode cX1_copyFrom 57 = .ok (.aload_n 1, 1) := by decide +kernel
theorem dX1_copyFrom_58 : decode cX1_copyFrom 58 = .ok (.getfield 33, 3) := by decide +kernel
theorem dX1_copyFrom_61 : decode cX1_copyFrom 61 = .ok (.putfield 33, 3) := by decide +kernel
theorem dX1_copyFrom_64 : decode cX1_copyFrom 64 = .ok (.iconst 0, 1) := by decide +kernel
theorem dX1_copyFrom_65 : decode cX1_copyFrom 65 = .ok (.istore_n 2, 1) := by decide +kernel
theorem dX1_copyFrom_66 : decode cX1_copyFrom 66 = .ok (.iload_n 2, 1) := by decide +kernel
theorem dX1_copyFrom_67 : decode cX1_copyFrom 67 = .ok (.bipush 12, 2) := by decide +kernel
theorem dX1_copyFrom_69 : decode cX1_copyFrom 69 = .ok (.if_icmp .ge 21, 3) := by decide +kernel
theorem dX1_copyFrom_72 : decode cX1_copyFrom 72 = .ok (.aload_n 0, 1) := by decide +kernel
theorem dX1_copyFrom_73 : decode cX1_copyFrom 73 = .ok (.getfield 38, 3) := by decide +kernel
theorem dX1_copyFrom_76 : decode cX1_copyFrom 76 = .ok (.iload_n 2, 1) := by decide +kernel
theorem dX1_copyFrom_77 : decode cX1_copyFrom 77 = .ok (.aload_n 1, 1) := by decide +kernel
theorem dX1_copyFrom_78 : decode cX1_copyFrom 78 = .ok (.getfield 38, 3) := by decide +kernel
theorem dX1_copyFrom_81 : decode cX1_copyFrom 81 = .ok (.iload_n 2, 1) := by decide +kernel
theorem dX1_copyFrom_82 : decode cX1_copyFrom 82 = .ok (.iaload, 1) := by decide +kernel
theorem dX1_copyFrom_83 : decode cX1_copyFrom 83 = .ok (.iastore, 1) := by decide +kernel
theorem dX1_copyFrom_84 : decode cX1_copyFrom 84 = .ok (.iinc 2 1, 3) := by decide +kernel
theorem dX1_copyFrom_87 : decode cX1_copyFrom 87 = .ok (.goto (-21), 3) := by decide +kernel
theorem dX1_copyFrom_90 : decode cX1_copyFrom 90 = .ok (.return_, 1) := by decide +kernel
theorem dX1_place_0 : decode cX1_place 0 = .ok (.aload_n 0, 1) := by decide +kernel
theorem dX1_place_1 : decode cX1_place 1 = .ok (.iload_n 1, 1) := by decide +kernel
theorem dX1_place_2 : decode cX1_place 2 = .ok (.putfield 9, 3) := by decide +kernel
theorem dX1_place_5 : decode cX1_place 5 = .ok (.aload_n 0, 1) := by decide +kernel
theorem dX1_place_6 : decode cX1_place 6 = .ok (.iload_n 2, 1) := by decide +kernel
theorem dX1_place_7 : decode cX1_place 7 = .ok (.putfield 15, 3) := by decide +kernel
theorem dX1_place_10 : decode cX1_place 10 = .ok (.aload_n 0, 1) := by decide +kernel
theorem dX1_place_11 : decode cX1_place 11 = .ok (.iload_n 3, 1) := by decide +kernel
theorem dX1_place_12 : decode cX1_place 12 = .ok (.putfield 18, 3) := by decide +kernel
theorem dX1_place_15 : decode cX1_place 15 = .ok (.aload_n 0, 1) := by decide +kernel
theorem dX1_place_16 : decode cX1_place 16 = .ok (.iload 4, 2) := by decide +kernel
theorem dX1_place_18 : decode cX1_place 18 = .ok (.putfield 21, 3) := by decide +kernel
theorem dX1_place_21 : decode cX1_place 21 = .ok (.aload_n 0, 1) := by decide +kernel
theorem dX1_place_22 : decode cX1_place 22 = .ok (.iconst 0, 1) := by decide +kernel
theorem dX1_place_23 : decode cX1_place 23 = .ok (.putfield 24, 3) := by decide +kernel
theorem dX1_place_26 : decode cX1_place 26 = .ok (.aload_n 0, 1) := by decide +kernel
theorem dX1_place_27 : decode cX1_place 27 = .ok (.iconst 0, 1) := by decide +kernel
theorem dX1_place_28 : decode cX1_place 28 = .ok (.putfield 27, 3) := by decide +kernel
theorem dX1_place_31 : decode cX1_place 31 = .ok (.aload_n 0, 1) := by decide +kernel
theorem dX1_place_32 : decode cX1_place 32 = .ok (.iconst 0, 1) := by decide +kernel
theorem dX1_place_33 : decode cX1_place 33 = .ok (.putfield 30, 3) := by decide +kernel
theorem dX1_place_36 : decode cX1_place 36 = .ok (.aload_n 0, 1) := by decide +kernel
theorem dX1_place_37 : decode cX1_place 37 = .ok (.bipush (-5), 2) := by decide +kernel
theorem dX1_place_39 : decode cX1_place 39 = .ok (.putfield 33, 3) := by decide +kernel
theorem dX1_place_42 : decode cX1_place 42 = .ok (.iconst 0, 1) := by decide +kernel
theorem dX1_place_43 : decode cX1_place 43 = .ok (.istore 5, 2) := by decide +kernel
theorem dX1_place_45 : decode cX1_place 45 = .ok (.iload 5, 2) := by decide +kernel
theorem dX1_place_47 : decode cX1_place 47 = .ok (.bipush 12, 2) := by decide +kernel
theorem dX1_place_49 : decode cX1_place 49 = .ok (.if_icmp .ge 31, 3) := by decide +kernel
theorem dX1_place_52 : decode cX1_place 52 = .ok (.aload_n 0, 1) := by decide +kernel
theorem dX1_place_53 : decode cX1_place 53 = .ok (.getfield 38, 3) := by decide +kernel
theorem dX1_place_56 : decode cX1_place 56 = .ok (.iload 5, 2) := by decide +kernel
theorem dX1_place_58 : decode cX1_place 58 = .ok (.aload_n 0, 1) := by decide +kernel
theorem dX1_place_59 : decode cX1_place 59 = .ok (.iload 5, 2) := by decide +kernel
theorem dX1_place_61 : decode cX1_place 61 = .ok (.iconst 0, 1) := by decide +kernel
theorem dX1_place_62 : decode cX1_place 62 = .ok (.invokevirtual 42, 3) := by decide +kernel
theorem dX1_place_65 : decode cX1_place 65 = .ok (.aload_n 0, 1) := by decide +kernel
theorem dX1_place_66 : decode cX1_place 66 = .ok (.iload 5, 2) := by decide +kernel
theorem dX1_place_68 : decode cX1_place 68 = .ok (.iconst 1, 1) := by decide +kernel
theorem dX1_place_69 : decode cX1_place 69 = .ok (.invokevirtual 42, 3) := by decide +kernel
theorem dX1_place_72 : decode cX1_place 72 = .ok (.isub, 1) := by decide +kernel
theorem dX1_place_73 : decode cX1_place 73 = .ok (.iastore, 1) := by decide +kernel
theorem dX1_place_74 : decode cX1_place 74 = .ok (.iinc 5 1, 3) := by decide +kernel
theorem dX1_place_77 : decode cX1_place 77 = .ok (.goto (-32), 3) := by decide +kernel
theorem dX1_place_80 : decode cX1_place 80 = .ok (.return_, 1) := by decide +kernel
theorem dX1_fieldsIn_0 : decode cX1_fieldsIn 0 = .ok (.iload_n 1, 1) := by decide +kernel
theorem dX1_fieldsIn_1 : decode cX1_fieldsIn 1 = .ok (.iconst 4, 1) := by decide +kernel
theorem dX1_fieldsIn_2 : decode cX1_fieldsIn 2 = .ok (.irem, 1) := by decide +kernel
theorem dX1_fieldsIn_3 : decode cX1_fieldsIn 3 = .ok (.bipush 8, 2) := by decide +kernel
theorem dX1_fieldsIn_5 : decode cX1_fieldsIn 5 = .ok (.imul, 1) := by decide +kernel
theorem dX1_fieldsIn_6 : decode cX1_fieldsIn 6 = .ok (.istore_n 3, 1) := by decide +kernel
theorem dX1_fieldsIn_7 : decode cX1_fieldsIn 7 = .ok (.iload_n 1, 1) := by decide +kernel
theorem dX1_fieldsIn_8 : decode cX1_fieldsIn 8 = .ok (.iconst 4, 1) := by decide +kernel
theorem dX1_fieldsIn_9 : decode cX1_fieldsIn 9 = .ok (.idiv, 1) := by decide +kernel
theorem dX1_fieldsIn_10 : decode cX1_fieldsIn 10 = .ok (.bipush 8, 2) := by decide +kernel
theorem dX1_fieldsIn_12 : decode cX1_fieldsIn 12 = .ok (.imul, 1) := by decide +kernel
theorem dX1_fieldsIn_13 : decode cX1_fieldsIn 13 = .ok (.istore 4, 2) := by decide +kernel
theorem dX1_fieldsIn_15 : decode cX1_fieldsIn 15 = .ok (.aload_n 0, 1) := by decide +kernel
theorem dX1_fieldsIn_16 : decode cX1_fieldsIn 16 = .ok (.getfield 9, 3) := by decide +kernel
theorem dX1_fieldsIn_19 : decode cX1_fieldsIn 19 = .ok (.aload_n 0, 1) := by decide +kernel
theorem dX1_fieldsIn_20 : decode cX1_fieldsIn 20 = .ok (.getfield 18, 3) := by decide +kernel
theorem dX1_fieldsIn_23 : decode cX1_fieldsIn 23 = .ok (.iadd, 1) := by decide +kernel
theorem dX1_fieldsIn_24 : decode cX1_fieldsIn 24 = .ok (.iload_n 2, 1) := by decide +kernel
theorem dX1_fieldsIn_25 : decode cX1_fieldsIn 25 = .ok (.isub, 1) := by decide +kernel
theorem dX1_fieldsIn_26 : decode cX1_fieldsIn 26 = .ok (.iload_n 3, 1) := by decide +kernel
theorem dX1_fieldsIn_27 : decode cX1_fieldsIn 27 = .ok (.bipush 8, 2) := by decide +kernel
theorem dX1_fieldsIn_29 : decode cX1_fieldsIn 29 = .ok (.iadd, 1) := by decide +kernel
theorem dX1_fieldsIn_30 : decode cX1_fieldsIn 30 = .ok (.invokestatic 46, 3) := by decide +kernel
theorem dX1_fieldsIn_33 : decode cX1_fieldsIn 33 = .ok (.aload_n 0, 1) := by decide +kernel
theorem dX1_fieldsIn_34 : decode cX1_fieldsIn 34 = .ok (.getfield 9, 3) := by decide +kernel
theorem dX1_fieldsIn_37 : decode cX1_fieldsIn 37 = .ok (.iload_n 2, 1) := by decide +kernel
theorem dX1_fieldsIn_38 : decode cX1_fieldsIn 38 = .ok (.iadd, 1) := by decide +kernel
theorem dX1_fieldsIn_39 : decode cX1_fieldsIn 39 = .ok (.iload_n 3, 1) := by decide +kernel
theorem dX1_fieldsIn_40 : decode cX1_fieldsIn 40 = .ok (.invokestatic 51, 3) := by decide +kernel
theorem dX1_fieldsIn_43 : decode cX1_fieldsIn 43 = .ok (.isub, 1) := by decide +kernel
theorem dX1_fieldsIn_44 : decode cX1_fieldsIn 44 = .ok (.istore 5, 2) := by decide +kernel
theorem dX1_fieldsIn_46 : decode cX1_fieldsIn 46 = .ok (.aload_n 0, 1) := by decide +kernel
theorem dX1_fieldsIn_47 : decode cX1_fieldsIn 47 = .ok (.getfield 15, 3) := by decide +kernel
theorem dX1_fieldsIn_50 : decode cX1_fieldsIn 50 = .ok (.aload_n 0, 1) := by decide +kernel
theorem dX1_fieldsIn_51 : decode cX1_fieldsIn 51 = .ok (.getfield 21, 3) := by decide +kernel
theorem dX1_fieldsIn_54 : decode cX1_fieldsIn 54 = .ok (.iadd, 1) := by decide +kernel
theorem dX1_fieldsIn_55 : decode cX1_fieldsIn 55 = .ok (.iload_n 2, 1) := by decide +kernel
theorem dX1_fieldsIn_56 : decode cX1_fieldsIn 56 = .ok (.isub, 1) := by decide +kernel
theorem dX1_fieldsIn_57 : decode cX1_fieldsIn 57 = .ok (.iload 4, 2) := by decide +kernel
theorem dX1_fieldsIn_59 : decode cX1_fieldsIn 59 = .ok (.bipush 8, 2) := by decide +kernel
theorem dX1_fieldsIn_61 : decode cX1_fieldsIn 61 = .ok (.iadd, 1) := by decide +kernel
theorem dX1_fieldsIn_62 : decode cX1_fieldsIn 62 = .ok (.invokestatic 46, 3) := by decide +kernel
theorem dX1_fieldsIn_65 : decode cX1_fieldsIn 65 = .ok (.aload_n 0, 1) := by decide +kernel
theorem dX1_fieldsIn_66 : decode cX1_fieldsIn 66 = .ok (.getfield 15, 3) := by decide +kernel
theorem dX1_fieldsIn_69 : decode cX1_fieldsIn 69 = .ok (.iload_n 2, 1) := by decide +kernel
theorem dX1_fieldsIn_70 : decode cX1_fieldsIn 70 = .ok (.iadd, 1) := by decide +kernel
theorem dX1_fieldsIn_71 : decode cX1_fieldsIn 71 = .ok (.iload 4, 2) := by decide +kernel
theorem dX1_fieldsIn_73 : decode cX1_fieldsIn 73 = .ok (.invokestatic 51, 3) := by decide +kernel
theorem dX1_fieldsIn_76 : decode cX1_fieldsIn 76 = .ok (.isub, 1) := by decide +kernel
theorem dX1_fieldsIn_77 : decode cX1_fieldsIn 77 = .ok (.istore 6, 2) := by decide +kernel
theorem dX1_fieldsIn_79 : decode cX1_fieldsIn 79 = .ok (.iload 5, 2) := by decide +kernel
theorem dX1_fieldsIn_81 : decode cX1_fieldsIn 81 = .ok (.iconst 0, 1) := by decide +kernel
theorem dX1_fieldsIn_82 : decode cX1_fieldsIn 82 = .ok (.invokestatic 51, 3) := by decide +kernel
theorem dX1_fieldsIn_85 : decode cX1_fieldsIn 85 = .ok (.iload 6, 2) := by decide +kernel
theorem dX1_fieldsIn_87 : decode cX1_fieldsIn 87 = .ok (.iconst 0, 1) := by decide +kernel
theorem dX1_fieldsIn_88 : decode cX1_fieldsIn 88 = .ok (.invokestatic 51, 3) := by decide +kernel
theorem dX1_fieldsIn_91 : decode cX1_fieldsIn 91 = .ok (.imul, 1) := by decide +kernel
theorem dX1_fieldsIn_92 : decode cX1_fieldsIn 92 = .ok (.ireturn, 1) := by decide +kernel
theorem dX1_isInside_0 : decode cX1_isInside 0 = .ok (.aload_n 0, 1) := by decide +kernel
theorem dX1_isInside_1 : decode cX1_isInside 1 = .ok (.getfield 9, 3) := by decide +kernel
theorem dX1_isInside_4 : decode cX1_isInside 4 = .ok (.aload_n 1, 1) := by decide +kernel
theorem dX1_isInside_5 : decode cX1_isInside 5 = .ok (.getfield 9, 3) := by decide +kernel
theorem dX1_isInside_8 : decode cX1_isInside 8 = .ok (.if_icmp .le 60, 3) := by decide +kernel
theorem dX1_isInside_11 : decode cX1_isInside 11 = .ok (.aload_n 0, 1) := by decide +kernel
theorem dX1_isInside_12 : decode cX1_isInside 12 = .ok (.getfield 9, 3) := by decide +kernel
theorem dX1_isInside_15 : decode cX1_isInside 15 = .ok (.aload_n 0, 1) := by decide +kernel
theorem dX1_isInside_16 : decode cX1_isInside 16 = .ok (.getfield 18, 3) := by decide +kernel
theorem dX1_isInside_19 : decode cX1_isInside 19 = .ok (.iadd, 1) := by decide +kernel
theorem dX1_isInside_20 : decode cX1_isInside 20 = .ok (.aload_n 1, 1) := by decide +kernel
theorem dX1_isInside_21 : decode cX1_isInside 21 = .ok (.getfield 9, 3) := by decide +kernel
theorem dX1_isInside_24 : decode cX1_isInside 24 = .ok (.aload_n 1, 1) := by decide +kernel
theorem dX1_isInside_25 : decode cX1_isInside 25 = .ok (.getfield 18, 3) := by decide +kernel
theorem dX1_isInside_28 : decode cX1_isInside 28 = .ok (.iadd, 1) := by decide +kernel
theorem dX1_isInside_29 : decode cX1_isInside 29 = .ok (.if_icmp .ge 39, 3) := by decide +kernel
theorem dX1_isInside_32 : decode cX1_isInside 32 = .ok (.aload_n 0, 1) := by decide +kernel
theorem dX1_isInside_33 : decode cX1_isInside 33 = .ok (.getfield 15, 3) := by decide +kernel
theorem dX1_isInside_36 : decode cX1_isInside 36 = .ok (.aload_n 1, 1) := by decide +kernel
theorem dX1_isInside_37 : decode cX1_isInside 37 = .ok (.getfield 15, 3) := by decide +kernel
theorem dX1_isInside_40 : decode cX1_isInside 40 = .ok (.if_icmp .le 28, 3) := by decide +kernel
theorem dX1_isInside_43 : decode cX1_isInside 43 = .ok (.aload_n 0, 1) := by decide +kernel
theorem dX1_isInside_44 : decode cX1_isInside 44 = .ok (.getfield 15, 3) := by decide +kernel
theorem dX1_isInside_47 : decode cX1_isInside 47 = .ok (.aload_n 0, 1) := by decide +kernel
theorem dX1_isInside_48 : decode cX1_isInside 48 = .ok (.getfield 21, 3) := by decide +kernel
theorem dX1_isInside_51 : decode cX1_isInside 51 = .ok (.iadd, 1) := by decide +kernel
theorem dX1_isInside_52 : decode cX1_isInside 52 = .ok (.aload_n 1, 1) := by decide +kernel
theorem dX1_isInside_53 : decode cX1_isInside 53 = .ok (.getfield 15, 3) := by decide +kernel
theorem dX1_isInside_56 : decode cX1_isInside 56 = .ok (.aload_n 1, 1) := by decide +kernel
theorem dX1_isInside_57 : decode cX1_isInside 57 = .ok (.getfield 21, 3) := by decide +kernel
theorem dX1_isInside_60 : decode cX1_isInside 60 = .ok (.iadd, 1) := by decide +kernel
theorem dX1_isInside_61 : decode cX1_isInside 61 = .ok (.if_icmp .ge 7, 3) := by decide +kernel
theorem dX1_isInside_64 : decode cX1_isInside 64 = .ok (.iconst 1, 1) := by decide +kernel
theorem dX1_isInside_65 : decode cX1_isInside 65 = .ok (.goto 4, 3) := by decide +kernel
theorem dX1_isInside_68 : decode cX1_isInside 68 = .ok (.iconst 0, 1) := by decide +kernel
theorem dX1_isInside_69 : decode cX1_isInside 69 = .ok (.ireturn, 1) := by decide +kernel
theorem dX1_isApartFrom_0 : decode cX1_isApartFrom 0 = .ok (.aload_n 0, 1) := by decide +kernel
theorem dX1_isApartFrom_1 : decode cX1_isApartFrom 1 = .ok (.getfield 9, 3) := by decide +kernel
theorem dX1_isApartFrom_4 : decode cX1_isApartFrom 4 = .ok (.aload_n 0, 1) := by decide +kernel
theorem dX1_isApartFrom_5 : decode cX1_isApartFrom 5 = .ok (.getfield 18, 3) := by decide +kernel
theorem dX1_isApartFrom_8 : decode cX1_isApartFrom 8 = .ok (.iadd, 1) := by decide +kernel
theorem dX1_isApartFrom_9 : decode cX1_isApartFrom 9 = .ok (.aload_n 1, 1) := by decide +kernel
theorem dX1_isApartFrom_10 : decode cX1_isApartFrom 10 = .ok (.getfield 9, 3) := by decide +kernel
theorem dX1_isApartFrom_13 : decode cX1_isApartFrom 13 = .ok (.if_icmp .le 51, 3) := by decide +kernel
theorem dX1_isApartFrom_16 : decode cX1_isApartFrom 16 = .ok (.aload_n 1, 1) := by decide +kernel
theorem dX1_isApartFrom_17 : decode cX1_isApartFrom 17 = .ok (.getfield 9, 3) := by decide +kernel
theorem dX1_isApartFrom_20 : decode cX1_isApartFrom 20 = .ok (.aload_n 1, 1) := by decide +kernel
theorem dX1_isApartFrom_21 : decode cX1_isApartFrom 21 = .ok (.getfield 18, 3) := by decide +kernel
theorem dX1_isApartFrom_24 : decode cX1_isApartFrom 24 = .ok (.iadd, 1) := by decide +kernel
theorem dX1_isApartFrom_25 : decode cX1_isApartFrom 25 = .ok (.aload_n 0, 1) := by decide +kernel
theorem dX1_isApartFrom_26 : decode cX1_isApartFrom 26 = .ok (.getfield 9, 3) := by decide +kernel
theorem dX1_isApartFrom_29 : decode cX1_isApartFrom 29 = .ok (.if_icmp .le 35, 3) := by decide +kernel
theorem dX1_isApartFrom_32 : decode cX1_isApartFrom 32 = .ok (.aload_n 0, 1) := by decide +kernel
theorem dX1_isApartFrom_33 : decode cX1_isApartFrom 33 = .ok (.getfield 15, 3) := by decide +kernel
theorem dX1_isApartFrom_36 : decode cX1_isApartFrom 36 = .ok (.aload_n 0, 1) := by decide +kernel
theorem dX1_isApartFrom_37 : decode cX1_isApartFrom 37 = .ok (.getfield 21, 3) := by decide +kernel
theorem dX1_isApartFrom_40 : decode cX1_isApartFrom 40 = .ok (.iadd, 1) := by decide +kernel
theorem dX1_isApartFrom_41 : decode cX1_isApartFrom 41 = .ok (.aload_n 1, 1) := by decide +kernel
theorem dX1_isApartFrom_42 : decode cX1_isApartFrom 42 = .ok (.getfield 15, 3) := by decide +kernel
theorem dX1_isApartFrom_45 : decode cX1_isApartFrom 45 = .ok (.if_icmp .le 19, 3) := by decide +kernel
theorem dX1_isApartFrom_48 : decode cX1_isApartFrom 48 = .ok (.aload_n 1, 1) := by decide +kernel
theorem dX1_isApartFrom_49 : decode cX1_isApartFrom 49 = .ok (.getfield 15, 3) := by decide +kernel
theorem dX1_isApartFrom_52 : decode cX1_isApartFrom 52 = .ok (.aload_n 1, 1) := by decide +kernel
theorem dX1_isApartFrom_53 : decode cX1_isApartFrom 53 = .ok (.getfield 21, 3) := by decide +kernel
theorem dX1_isApartFrom_56 : decode cX1_isApartFrom 56 = .ok (.iadd, 1) := by decide +kernel
theorem dX1_isApartFrom_57 : decode cX1_isApartFrom 57 = .ok (.aload_n 0, 1) := by decide +kernel
theorem dX1_isApartFrom_58 : decode cX1_isApartFrom 58 = .ok (.getfield 15, 3) := by decide +kernel
theorem dX1_isApartFrom_61 : decode cX1_isApartFrom 61 = .ok (.if_icmp .gt 7, 3) := by decide +kernel
theorem dX1_isApartFrom_64 : decode cX1_isApartFrom 64 = .ok (.iconst 1, 1) := by decide +kernel
theorem dX1_isApartFrom_65 : decode cX1_isApartFrom 65 = .ok (.goto 4, 3) := by decide +kernel
theorem dX1_isApartFrom_68 : decode cX1_isApartFrom 68 = .ok (.iconst 0, 1) := by decide +kernel
theorem dX1_isApartFrom_69 : decode cX1_isApartFrom 69 = .ok (.ireturn, 1) := by decide +kernel
theorem dX1_edge_0 : decode cX1_edge 0 = .ok (.iconst 2, 1) := by decide +kernel
theorem dX1_edge_1 : decode cX1_edge 1 = .ok (.aload_n 0, 1) := by decide +kernel
theorem dX1_edge_2 : decode cX1_edge 2 = .ok (.getfield 18, 3) := by decide +kernel
theorem dX1_edge_5 : decode cX1_edge 5 = .ok (.aload_n 0, 1) := by decide +kernel
theorem dX1_edge_6 : decode cX1_edge 6 = .ok (.getfield 21, 3) := by decide +kernel
theorem dX1_edge_9 : decode cX1_edge 9 = .ok (.iadd, 1) := by decide +kernel
theorem dX1_edge_10 : decode cX1_edge 10 = .ok (.imul, 1) := by decide +kernel
theorem dX1_edge_11 : decode cX1_edge 11 = .ok (.iconst 4, 1) := by decide +kernel
theorem dX1_edge_12 : decode cX1_edge 12 = .ok (.isub, 1) := by decide +kernel
theorem dX1_edge_13 : decode cX1_edge 13 = .ok (.ireturn, 1) := by decide +kernel
theorem dX1_leadColumn_0 : decode cX1_leadColumn 0 = .ok (.aload_n 0, 1) := by decide +kernel
theorem dX1_leadColumn_1 : decode cX1_leadColumn 1 = .ok (.getfield 24, 3) := by decide +kernel
theorem dX1_leadColumn_4 : decode cX1_leadColumn 4 = .ok (.iconst 1, 1) := by decide +kernel
theorem dX1_leadColumn_5 : decode cX1_leadColumn 5 = .ok (.if_icmp .eq 11, 3) := by decide +kernel
theorem dX1_leadColumn_8 : decode cX1_leadColumn 8 = .ok (.aload_n 0, 1) := by decide +kernel
theorem dX1_leadColumn_9 : decode cX1_leadColumn 9 = .ok (.getfield 24, 3) := by decide +kernel
theorem dX1_leadColumn_12 : decode cX1_leadColumn 12 = .ok (.iconst 2, 1) := by decide +kernel
theorem dX1_leadColumn_13 : decode cX1_leadColumn 13 = .ok (.if_icmp .ne 17, 3) := by decide +kernel
theorem dX1_leadColumn_16 : decode cX1_leadColumn 16 = .ok (.aload_n 0, 1) := by decide +kernel
theorem dX1_leadColumn_17 : decode cX1_leadColumn 17 = .ok (.getfield 9, 3) := by decide +kernel
theorem dX1_leadColumn_20 : decode cX1_leadColumn 20 = .ok (.aload_n 0, 1) := by decide +kernel
theorem dX1_leadColumn_21 : decode cX1_leadColumn 21 = .ok (.getfield 18, 3) := by decide +kernel
theorem dX1_leadColumn_24 : decode cX1_leadColumn 24 = .ok (.iadd, 1) := by decide +kernel
theorem dX1_leadColumn_25 : decode cX1_leadColumn 25 = .ok (.iconst 1, 1) := by decide +kernel
theorem dX1_leadColumn_26 : decode cX1_leadColumn 26 = .ok (.isub, 1) := by decide +kernel
theorem dX1_leadColumn_27 : decode cX1_leadColumn 27 = .ok (.goto 7, 3) := by decide +kernel
theorem dX1_leadColumn_30 : decode cX1_leadColumn 30 = .ok (.aload_n 0, 1) := by decide +kernel
theorem dX1_leadColumn_31 : decode cX1_leadColumn 31 = .ok (.getfield 9, 3) := by decide +kernel
theorem dX1_leadColumn_34 : decode cX1_leadColumn 34 = .ok (.ireturn, 1) := by decide +kernel
theorem dX1_leadRow_0 : decode cX1_leadRow 0 = .ok (.aload_n 0, 1) := by decide +kernel
theorem dX1_leadRow_1 : decode cX1_leadRow 1 = .ok (.getfield 24, 3) := by decide +kernel
theorem dX1_leadRow_4 : decode cX1_leadRow 4 = .ok (.iconst 2, 1) := by decide +kernel
theorem dX1_leadRow_5 : decode cX1_leadRow 5 = .ok (.if_icmp .eq 11, 3) := by decide +kernel
theorem dX1_leadRow_8 : decode cX1_leadRow 8 = .ok (.aload_n 0, 1) := by decide +kernel
theorem dX1_leadRow_9 : decode cX1_leadRow 9 = .ok (.getfield 24, 3) := by decide +kernel
theorem dX1_leadRow_12 : decode cX1_leadRow 12 = .ok (.iconst 3, 1) := by decide +kernel
theorem dX1_leadRow_13 : decode cX1_leadRow 13 = .ok (.if_icmp .ne 17, 3) := by decide +kernel
theorem dX1_leadRow_16 : decode cX1_leadRow 16 = .ok (.aload_n 0, 1) := by decide +kernel
theorem dX1_leadRow_17 : decode cX1_leadRow 17 = .ok (.getfield 15, 3) := by decide +kernel
theorem dX1_leadRow_20 : decode cX1_leadRow 20 = .ok (.aload_n 0, 1) := by decide +kernel
theorem dX1_leadRow_21 : decode cX1_leadRow 21 = .ok (.getfield 21, 3) := by decide +kernel
theorem dX1_leadRow_24 : decode cX1_leadRow 24 = .ok (.iadd, 1) := by decide +kernel
theorem dX1_leadRow_25 : decode cX1_leadRow 25 = .ok (.iconst 1, 1) := by decide +kernel
theorem dX1_leadRow_26 : decode cX1_leadRow 26 = .ok (.isub, 1) := by decide +kernel
theorem dX1_leadRow_27 : decode cX1_leadRow 27 = .ok (.goto 7, 3) := by decide +kernel
theorem dX1_leadRow_30 : decode cX1_leadRow 30 = .ok (.aload_n 0, 1) := by decide +kernel
theorem dX1_leadRow_31 : decode cX1_leadRow 31 = .ok (.getfield 15, 3) := by decide +kernel
theorem dX1_leadRow_34 : decode cX1_leadRow 34 = .ok (.ireturn, 1) := by decide +kernel
theorem dX1_leadSquare_0 : decode cX1_leadSquare 0 = .ok (.aload_n 0, 1) := by decide +kernel
theorem dX1_leadSquare_1 : decode cX1_leadSquare 1 = .ok (.invokevirtual 54, 3) := by decide +kernel
theorem dX1_leadSquare_4 : decode cX1_leadSquare 4 = .ok (.bipush 8, 2) := by decide +kernel
theorem dX1_leadSquare_6 : decode cX1_leadSquare 6 = .ok (.idiv, 1) := by decide +kernel
theorem dX1_leadSquare_7 : decode cX1_leadSquare 7 = .ok (.iconst 4, 1) := by decide +kernel
theorem dX1_leadSquare_8 : decode cX1_leadSquare 8 = .ok (.aload_n 0, 1) := by decide +kernel
theorem dX1_leadSquare_9 : decode cX1_leadSquare 9 = .ok (.invokevirtual 58, 3) := by decide +kernel
theorem dX1_leadSquare_12 : decode cX1_leadSquare 12 = .ok (.bipush 8, 2) := by decide +kernel
theorem dX1_leadSquare_14 : decode cX1_leadSquare 14 = .ok (.idiv, 1) := by decide +kernel
theorem dX1_leadSquare_15 : decode cX1_leadSquare 15 = .ok (.imul, 1) := by decide +kernel
theorem dX1_leadSquare_16 : decode cX1_leadSquare 16 = .ok (.iadd, 1) := by decide +kernel
theorem dX1_leadSquare_17 : decode cX1_leadSquare 17 = .ok (.ireturn, 1) := by decide +kernel
theorem dX2_init_0 : decode cX2_init 0 = .ok (.aload_n 0, 1) := by decide +kernel
theorem dX2_init_1 : decode cX2_init 1 = .ok (.invokespecial 3, 3) := by decide +kernel
theorem dX2_init_4 : decode cX2_init 4 = .ok (.aload_n 0, 1) := by decide +kernel
theorem dX2_init_5 : decode cX2_init 5 = .ok (.bipush 13, 2) := by decide +kernel
theorem dX2_init_7 : decode cX2_init 7 = .ok (.anewarray 11, 3) := by decide +kernel
theorem dX2_init_10 : decode cX2_init 10 = .ok (.putfield 13, 3) := by decide +kernel
theorem dX2_init_13 : decode cX2_init 13 = .ok (.iconst 0, 1) := by decide +kernel
theorem dX2_init_14 : decode cX2_init 14 = .ok (.istore_n 1, 1) := by decide +kernel
theorem dX2_init_15 : decode cX2_init 15 = .ok (.iload_n 1, 1) := by decide +kernel
theorem dX2_init_16 : decode cX2_init 16 = .ok (.bipush 12, 2) := by decide +kernel
theorem dX2_init_18 : decode cX2_init 18 = .ok (.if_icmp .gt 22, 3) := by decide +kernel
theorem dX2_init_21 : decode cX2_init 21 = .ok (.aload_n 0, 1) := by decide +kernel
theorem dX2_init_22 : decode cX2_init 22 = .ok (.getfield 13, 3) := by decide +kernel
theorem dX2_init_25 : decode cX2_init 25 = .ok (.iload_n 1, 1) := by decide +kernel
theorem dX2_init_26 : decode cX2_init 26 = .ok (.new 11, 3) := by decide +kernel
theorem dX2_init_29 : decode cX2_init 29 = .ok (.dup, 1) := by decide +kernel
theorem dX2_init_30 : decode cX2_init 30 = .ok (.invokespecial 17, 3) := by decide +kernel
theorem dX2_init_33 : decode cX2_init 33 = .ok (.aastore, 1) := by decide +kernel
theorem dX2_init_34 : decode cX2_init 34 = .ok (.iinc 1 1, 3) := by decide +kernel
theorem dX2_init_37 : decode cX2_init 37 = .ok (.goto (-22), 3) := by decide +kernel
theorem dX2_init_40 : decode cX2_init 40 = .ok (.aload_n 0, 1) := by decide +kernel
theorem dX2_init_41 : decode cX2_init 41 = .ok (.bipush 12, 2) := by decide +kernel
theorem dX2_init_43 : decode cX2_init 43 = .ok (.newarray .int, 2) := by decide +kernel
theorem dX2_init_45 : decode cX2_init 45 = .ok (.putfield 18, 3) := by decide +kernel
theorem dX2_init_48 : decode cX2_init 48 = .ok (.aload_n 0, 1) := by decide +kernel
theorem dX2_init_49 : decode cX2_init 49 = .ok (.iconst 4, 1) := by decide +kernel
theorem dX2_init_50 : decode cX2_init 50 = .ok (.newarray .int, 2) := by decide +kernel
theorem dX2_init_52 : decode cX2_init 52 = .ok (.putfield 22, 3) := by decide +kernel
theorem dX2_init_55 : decode cX2_init 55 = .ok (.aload_n 0, 1) := by decide +kernel
theorem dX2_init_56 : decode cX2_init 56 = .ok (.getfield 22, 3) := by decide +kernel
theorem dX2_init_59 : decode cX2_init 59 = .ok (.iconst 0, 1) := by decide +kernel
theorem dX2_init_60 : decode cX2_init 60 = .ok (.bipush 20, 2) := by decide +kernel
theorem dX2_init_62 : decode cX2_init 62 = .ok (.iastore, 1) := by decide +kernel
theorem dX2_init_63 : decode cX2_init 63 = .ok (.aload_n 0, 1) := by decide +kernel
theorem dX2_init_64 : decode cX2_init 64 = .ok (.getfield 22, 3) := by decide +kernel
theorem dX2_init_67 : decode cX2_init 67 = .ok (.iconst 1, 1) := by decide +kernel
theorem dX2_init_68 : decode cX2_init 68 = .ok (.iconst 1, 1) := by decide +kernel
theorem dX2_init_69 : decode cX2_init 69 = .ok (.iastore, 1) := by decide +kernel
theorem dX2_init_70 : decode cX2_init 70 = .ok (.aload_n 0, 1) := by decide +kernel
theorem dX2_init_71 : decode cX2_init 71 = .ok (.getfield 22, 3) := by decide +kernel
theorem dX2_init_74 : decode cX2_init 74 = .ok (.iconst 2, 1) := by decide +kernel
theorem dX2_init_75 : decode cX2_init 75 = .ok (.sipush 150, 3) := by decide +kernel
theorem dX2_init_78 : decode cX2_init 78 = .ok (.iastore, 1) := by decide +kernel
theorem dX2_init_79 : decode cX2_init 79 = .ok (.aload_n 0, 1) := by decide +kernel
theorem dX2_init_80 : decode cX2_init 80 = .ok (.getfield 22, 3) := by decide +kernel
theorem dX2_init_83 : decode cX2_init 83 = .ok (.iconst 3, 1) := by decide +kernel
theorem dX2_init_84 : decode cX2_init 84 = .ok (.iconst 1, 1) := by decide +kernel
theorem dX2_init_85 : decode cX2_init 85 = .ok (.iastore, 1) := by decide +kernel
theorem dX2_init_86 : decode cX2_init 86 = .ok (.aload_n 0, 1) := by decide +kernel
theorem dX2_init_87 : decode cX2_init 87 = .ok (.iconst 0, 1) := by decide +kernel
theorem dX2_init_88 : decode cX2_init 88 = .ok (.putfield 25, 3) := by decide +kernel
theorem dX2_init_91 : decode cX2_init 91 = .ok (.aload_n 0, 1) := by decide +kernel
theorem dX2_init_92 : decode cX2_init 92 = .ok (.iconst 0, 1) := by decide +kernel
theorem dX2_init_93 : decode cX2_init 93 = .ok (.putfield 29, 3) := by decide +kernel
theorem dX2_init_96 : decode cX2_init 96 = .ok (.aload_n 0, 1) := by decide +kernel
theorem dX2_init_97 : decode cX2_init 97 = .ok (.iconst 0, 1) := by decide +kernel
theorem dX2_init_98 : decode cX2_init 98 = .ok (.putfield 32, 3) := by decide +kernel
theorem dX2_init_101 : decode cX2_init 101 = .ok (.aload_n 0, 1) := by decide +kernel
theorem dX2_init_102 : decode cX2_init 102 = .ok (.iconst 0, 1) := by decide +kernel
theorem dX2_init_103 : decode cX2_init 103 = .ok (.putfield 35, 3) := by decide +kernel
theorem dX2_init_106 : decode cX2_init 106 = .ok (.aload_n 0, 1) := by decide +kernel
theorem dX2_init_107 : decode cX2_init 107 = .ok (.iconst 0, 1) := by decide +kernel
theorem dX2_init_108 : decode cX2_init 108 = .ok (.putfield 38, 3) := by decide +kernel
theorem dX2_init_111 : decode cX2_init 111 = .ok (.aload_n 0, 1) := by decide +kernel
theorem dX2_init_112 : decode cX2_init 112 = .ok (.iconst 0, 1) := by decide +kernel
theorem dX2_init_113 : decode cX2_init 113 = .ok (.putfield 41, 3) := by decide +kernel
theorem dX2_init_116 : decode cX2_init 116 = .ok (.aload_n 0, 1) := by decide +kernel
theorem dX2_init_117 : decode cX2_init 117 = .ok (.iconst 0, 1) := by decide +kernel
theorem dX2_init_118 : decode cX2_init 118 = .ok (.putfield 44, 3) := by decide +kernel
theorem dX2_init_121 : decode cX2_init 121 = .ok (.return_, 1) := by decide +kernel
theorem dX2_copyFrom_0 : decode cX2_copyFrom 0 = .ok (.iconst 0, 1) := by decide +kernel
theorem dX2_copyFrom_1 : decode cX2_copyFrom 1 = .ok (.istore_n 2, 1) := by decide +kernel
theorem dX2_copyFrom_2 : decode cX2_copyFrom 2 = .ok (.iload_n 2, 1) := by decide +kernel
theorem dX2_copyFrom_3 : decode cX2_copyFrom 3 = .ok (.aload_n 1, 1) := by decide +kernel
theorem dX2_copyFrom_4 : decode cX2_copyFrom 4 = .ok (.getfield 25, 3) := by decide +kernel
theorem dX2_copyFrom_7 : decode cX2_copyFrom 7 = .ok (.if_icmp .ge 24, 3) := by decide +kernel
theorem dX2_copyFrom_10 : decode cX2_copyFrom 10 = .ok (.aload_n 0, 1) := by decide +kernel
theorem dX2_copyFrom_11 : decode cX2_copyFrom 11 = .ok (.getfield 13, 3) := by decide +kernel
theorem dX2_copyFrom_14 : decode cX2_copyFrom 14 = .ok (.iload_n 2, 1) := by decide +kernel
theorem dX2_copyFrom_15 : decode cX2_copyFrom 15 = .ok (.aaload, 1) := by decide +kernel
theorem dX2_copyFrom_16 : decode cX2_copyFrom 16 = .ok (.aload_n 1, 1) := by decide +kernel
theorem dX2_copyFrom_17 : decode cX2_copyFrom 17 = .ok (.getfield 13, 3) := by decide +kernel
theorem dX2_copyFrom_20 : decode cX2_copyFrom 20 = .ok (.iload_n 2, 1) := by decide +kernel
theorem dX2_copyFrom_21 : decode cX2_copyFrom 21 = .ok (.aaload, 1) := by decide +kernel
theorem dX2_copyFrom_22 : decode cX2_copyFrom 22 = .ok (.invokevirtual 47, 3) := by decide +kernel
theorem dX2_copyFrom_25 : decode cX2_copyFrom 25 = .ok (.iinc 2 1, 3) := by decide +kernel
theorem dX2_copyFrom_28 : decode cX2_copyFrom 28 = .ok (.goto (-26), 3) := by decide +kernel
theorem dX2_copyFrom_31 : decode cX2_copyFrom 31 = .ok (.iconst 0, 1) := by decide +kernel
theorem dX2_copyFrom_32 : decode cX2_copyFrom 32 = .ok (.istore_n 2, 1) := by decide +kernel
theorem dX2_copyFrom_33 : decode cX2_copyFrom 33 = .ok (.iload_n 2, 1) := by decide +kernel
theorem dX2_copyFrom_34 : decode cX2_copyFrom 34 = .ok (.bipush 12, 2) := by decide +kernel
theorem dX2_copyFrom_36 : decode cX2_copyFrom 36 = .ok (.if_icmp .ge 21, 3) := by decide +kernel
theorem dX2_copyFrom_39 : decode cX2_copyFrom 39 = .ok (.aload_n 0, 1) := by decide +kernel
theorem dX2_copyFrom_40 : decode cX2_copyFrom 40 = .ok (.getfield 18, 3) := by decide +kernel
theorem dX2_copyFrom_43 : decode cX2_copyFrom 43 = .ok (.iload_n 2, 1) := by decide +kernel
theorem dX2_copyFrom_44 : decode cX2_copyFrom 44 = .ok (.aload_n 1, 1) := by decide +kernel
theorem dX2_copyFrom_45 : decode cX2_copyFrom 45 = .ok (.getfield 18, 3) := by decide +kernel
theorem dX2_copyFrom_48 : decode cX2_copyFrom 48 = .ok (.iload_n 2, 1) := by decide +kernel
theorem dX2_copyFrom_49 : decode cX2_copyFrom 49 = .ok (.iaload, 1) := by decide +kernel
theorem dX2_copyFrom_50 : decode cX2_copyFrom 50 = .ok (.iastore, 1) := by decide +kernel
theorem dX2_copyFrom_51 : decode cX2_copyFrom 51 = .ok (.iinc 2 1, 3) := by decide +kernel
theorem dX2_copyFrom_54 : decode cX2_copyFrom 54 = .ok (.goto (-21), 3) := by decide +kernel
theorem dX2_copyFrom_57 : decode cX2_copyFrom 57 = .ok (.iconst 0, 1) := by decide +kernel
theorem dX2_copyFrom_58 : decode cX2_copyFrom 58 = .ok (.istore_n 2, 1) := by decide +kernel
theorem dX2_copyFrom_59 : decode cX2_copyFrom 59 = .ok (.iload_n 2, 1) := by decide +kernel
theorem dX2_copyFrom_60 : decode cX2_copyFrom 60 = .ok (.iconst 4, 1) := by decide +kernel
theorem dX2_copyFrom_61 : decode cX2_copyFrom 61 = .ok (.if_icmp .ge 21, 3) := by decide +kernel
theorem dX2_copyFrom_64 : decode cX2_copyFrom 64 = .ok (.aload_n 0, 1) := by decide +kernel
theorem dX2_copyFrom_65 : decode cX2_copyFrom 65 = .ok (.getfield 22, 3) := by decide +kernel
theorem dX2_copyFrom_68 : decode cX2_copyFrom 68 = .ok (.iload_n 2, 1) := by decide +kernel
theorem dX2_copyFrom_69 : decode cX2_copyFrom 69 = .ok (.aload_n 1, 1) := by decide +kernel
theorem dX2_copyFrom_70 : decode cX2_copyFrom 70 = .ok (.getfield 22, 3) := by decide +kernel
theorem dX2_copyFrom_73 : decode cX2_copyFrom 73 = .ok (.iload_n 2, 1) := by decide +kernel
theorem dX2_copyFrom_74 : decode cX2_copyFrom 74 = .ok (.iaload, 1) := by decide +kernel
theorem dX2_copyFrom_75 : decode cX2_copyFrom 75 = .ok (.iastore, 1) := by decide +kernel
theorem dX2_copyFrom_76 : decode cX2_copyFrom 76 = .ok (.iinc 2 1, 3) := by decide +kernel
theorem dX2_copyFrom_79 : decode cX2_copyFrom 79 = .ok (.goto (-20), 3) := by decide +kernel
theorem dX2_copyFrom_82 : decode cX2_copyFrom 82 = .ok (.aload_n 0, 1) := by decide +kernel
theorem dX2_copyFrom_83 : decode cX2_copyFrom 83 = .ok (.aload_n 1, 1) := by decide +kernel
theorem dX2_copyFrom_84 : decode cX2_copyFrom 84 = .ok (.getfield 25, 3) := by decide +kernel
theorem dX2_copyFrom_87 : decode cX2_copyFrom 87 = .ok (.putfield 25, 3) := by decide +kernel
theorem dX2_copyFrom_90 : decode cX2_copyFrom 90 = .ok (.aload_n 0, 1) := by decide +kernel
theorem dX2_copyFrom_91 : decode cX2_copyFrom 91 = .ok (.aload_n 1, 1) := by decide +kernel
theorem dX2_copyFrom_92 : decode cX2_copyFrom 92 = .ok (.getfield 29, 3) := by decide +kernel
theorem dX2_copyFrom_95 : decode cX2_copyFrom 95 = .ok (.putfield 29, 3) := by decide +kernel
theorem dX2_copyFrom_98 : decode cX2_copyFrom 98 = .ok (.aload_n 0, 1) := by decide +kernel
theorem dX2_copyFrom_99 : decode cX2_copyFrom 99 = .ok (.aload_n 1, 1) := by decide +kernel
theorem dX2_copyFrom_100 : decode cX2_copyFrom 100 = .ok (.getfield 32, 3) := by decide +kernel
theorem dX2_copyFrom_103 : decode cX2_copyFrom 103 = .ok (.putfield 32, 3) := by decide +kernel
theorem dX2_copyFrom_106 : decode cX2_copyFrom 106 = .ok (.aload_n 0, 1) := by decide +kernel
theorem dX2_copyFrom_107 : decode cX2_copyFrom 107 = .ok (.aload_n 1, 1) := by decide +kernel
theorem dX2_copyFrom_108 : decode cX2_copyFrom 108 = .ok (.getfield 35, 3) := by decide +kernel
theorem dX2_copyFrom_111 : decode cX2_copyFrom 111 = .ok (.putfield 35, 3) := by decide +kernel
theorem dX2_copyFrom_114 : decode cX2_copyFrom 114 = .ok (.aload_n 0, 1) := by decide +kernel
theorem dX2_copyFrom_115 : decode cX2_copyFrom 115 = .ok (.aload_n 1, 1) := by decide +kernel
theorem dX2_copyFrom_116 : decode cX2_copyFrom 116 = .ok (.getfield 38, 3) := by decide +kernel
theorem dX2_copyFrom_119 : decode cX2_copyFrom 119 = .ok (.putfield 38, 3) := by decide +kernel
theorem dX2_copyFrom_122 : decode cX2_copyFrom 122 = .ok (.aload_n 0, 1) := by decide +kernel
theorem dX2_copyFrom_123 : decode cX2_copyFrom 123 = .ok (.aload_n 1, 1) := by decide +kernel
theorem dX2_copyFrom_124 : decode cX2_copyFrom 124 = .ok (.getfield 41, 3) := by decide +kernel
theorem dX2_copyFrom_127 : decode cX2_copyFrom 127 = .ok (.putfield 41, 3) := by decide +kernel
theorem dX2_copyFrom_130 : decode cX2_copyFrom 130 = .ok (.aload_n 0, 1) := by decide +kernel
theorem dX2_copyFrom_131 : decode cX2_copyFrom 131 = .ok (.aload_n 1, 1) := by decide +kernel
theorem dX2_copyFrom_132 : decode cX2_copyFrom 132 = .ok (.getfield 44, 3) := by decide +kernel
theorem dX2_copyFrom_135 : decode cX2_copyFrom 135 = .ok (.putfield 44, 3) := by decide +kernel
theorem dX2_copyFrom_138 : decode cX2_copyFrom 138 = .ok (.return_, 1) := by decide +kernel
theorem dX2_knows_0 : decode cX2_knows 0 = .ok (.iload_n 1, 1) := by decide +kernel
theorem dX2_knows_1 : decode cX2_knows 1 = .ok (.ifCond .lt 21, 3) := by decide +kernel
theorem dX2_knows_4 : decode cX2_knows 4 = .ok (.iload_n 1, 1) := by decide +kernel
theorem dX2_knows_5 : decode cX2_knows 5 = .ok (.aload_n 0, 1) := by decide +kernel
theorem dX2_knows_6 : decode cX2_knows 6 = .ok (.getfield 25, 3) := by decide +kernel
theorem dX2_knows_9 : decode cX2_knows 9 = .ok (.if_icmp .ge 13, 3) := by decide +kernel
theorem dX2_knows_12 : decode cX2_knows 12 = .ok (.iload_n 1, 1) := by decide +kernel
theorem dX2_knows_13 : decode cX2_knows 13 = .ok (.bipush 12, 2) := by decide +kernel
theorem dX2_knows_15 : decode cX2_knows 15 = .ok (.if_icmp .ge 7, 3) := by decide +kernel
theorem dX2_knows_18 : decode cX2_knows 18 = .ok (.iconst 1, 1) := by decide +kernel
theorem dX2_knows_19 : decode cX2_knows 19 = .ok (.goto 4, 3) := by decide +kernel
theorem dX2_knows_22 : decode cX2_knows 22 = .ok (.iconst 0, 1) := by decide +kernel
theorem dX2_knows_23 : decode cX2_knows 23 = .ok (.ireturn, 1) := by decide +kernel
theorem dX2_addShape_0 : decode cX2_addShape 0 = .ok (.iload_n 1, 1) := by decide +kernel
theorem dX2_addShape_1 : decode cX2_addShape 1 = .ok (.iconst 0, 1) := by decide +kernel
theorem dX2_addShape_2 : decode cX2_addShape 2 = .ok (.bipush 31, 2) := by decide +kernel
theorem dX2_addShape_4 : decode cX2_addShape 4 = .ok (.invokestatic 51, 3) := by decide +kernel
theorem dX2_addShape_7 : decode cX2_addShape 7 = .ok (.ifCond .eq 51, 3) := by decide +kernel
theorem dX2_addShape_10 : decode cX2_addShape 10 = .ok (.iload_n 2, 1) := by decide +kernel
theorem dX2_addShape_11 : decode cX2_addShape 11 = .ok (.iconst 0, 1) := by decide +kernel
theorem dX2_addShape_12 : decode cX2_addShape 12 = .ok (.bipush 23, 2) := by decide +kernel
theorem dX2_addShape_14 : decode cX2_addShape 14 = .ok (.invokestatic 51, 3) := by decide +kernel
theorem dX2_addShape_17 : decode cX2_addShape 17 = .ok (.ifCond .eq 41, 3) := by decide +kernel
theorem dX2_addShape_20 : decode cX2_addShape 20 = .ok (.iload_n 3, 1) := by decide +kernel
theorem dX2_addShape_21 : decode cX2_addShape 21 = .ok (.iconst 2, 1) := by decide +kernel
theorem dX2_addShape_22 : decode cX2_addShape 22 = .ok (.bipush 32, 2) := by decide +kernel
theorem dX2_addShape_24 : decode cX2_addShape 24 = .ok (.invokestatic 51, 3) := by decide +kernel
theorem dX2_addShape_27 : decode cX2_addShape 27 = .ok (.ifCond .eq 31, 3) := by decide +kernel
theorem dX2_addShape_30 : decode cX2_addShape 30 = .ok (.iload 4, 2) := by decide +kernel
theorem dX2_addShape_32 : decode cX2_addShape 32 = .ok (.iconst 2, 1) := by decide +kernel
theorem dX2_addShape_33 : decode cX2_addShape 33 = .ok (.bipush 24, 2) := by decide +kernel
theorem dX2_addShape_35 : decode cX2_addShape 35 = .ok (.invokestatic 51, 3) := by decide +kernel
theorem dX2_addShape_38 : decode cX2_addShape 38 = .ok (.ifCond .eq 20, 3) := by decide +kernel
theorem dX2_addShape_41 : decode cX2_addShape 41 = .ok (.iload_n 1, 1) := by decide +kernel
theorem dX2_addShape_42 : decode cX2_addShape 42 = .ok (.iload_n 3, 1) := by decide +kernel
theorem dX2_addShape_43 : decode cX2_addShape 43 = .ok (.iadd, 1) := by decide +kernel
theorem dX2_addShape_44 : decode cX2_addShape 44 = .ok (.bipush 32, 2) := by decide +kernel
theorem dX2_addShape_46 : decode cX2_addShape 46 = .ok (.if_icmp .gt 12, 3) := by decide +kernel
theorem dX2_addShape_49 : decode cX2_addShape 49 = .ok (.iload_n 2, 1) := by decide +kernel
theorem dX2_addShape_50 : decode cX2_addShape 50 = .ok (.iload 4, 2) := by decide +kernel
theorem dX2_addShape_52 : decode cX2_addShape 52 = .ok (.iadd, 1) := by decide +kernel
theorem dX2_addShape_53 : decode cX2_addShape 53 = .ok (.bipush 24, 2) := by decide +kernel
theorem dX2_addShape_55 : decode cX2_addShape 55 = .ok (.if_icmp .le 6, 3) := by decide +kernel
theorem dX2_addShape_58 : decode cX2_addShape 58 = .ok (.bipush (-2), 2) := by decide +kernel
theorem dX2_addShape_60 : decode cX2_addShape 60 = .ok (.ireturn, 1) := by decide +kernel
theorem dX2_addShape_61 : decode cX2_addShape 61 = .ok (.aload_n 0, 1) := by decide +kernel
theorem dX2_addShape_62 : decode cX2_addShape 62 = .ok (.getfield 13, 3) := by decide +kernel
theorem dX2_addShape_65 : decode cX2_addShape 65 = .ok (.aload_n 0, 1) := by decide +kernel
theorem dX2_addShape_66 : decode cX2_addShape 66 = .ok (.getfield 25, 3) := by decide +kernel
theorem dX2_addShape_69 : decode cX2_addShape 69 = .ok (.aaload, 1) := by decide +kernel
theorem dX2_addShape_70 : decode cX2_addShape 70 = .ok (.astore 5, 2) := by decide +kernel
theorem dX2_addShape_72 : decode cX2_addShape 72 = .ok (.aload 5, 2) := by decide +kernel
theorem dX2_addShape_74 : decode cX2_addShape 74 = .ok (.iload_n 1, 1) := by decide +kernel
theorem dX2_addShape_75 : decode cX2_addShape 75 = .ok (.iload_n 2, 1) := by decide +kernel
theorem dX2_addShape_76 : decode cX2_addShape 76 = .ok (.iload_n 3, 1) := by decide +kernel
theorem dX2_addShape_77 : decode cX2_addShape 77 = .ok (.iload 4, 2) := by decide +kernel
theorem dX2_addShape_79 : decode cX2_addShape 79 = .ok (.invokevirtual 55, 3) := by decide +kernel
theorem dX2_addShape_82 : decode cX2_addShape 82 = .ok (.aload_n 0, 1) := by decide +kernel
theorem dX2_addShape_83 : decode cX2_addShape 83 = .ok (.aload 5, 2) := by decide +kernel
theorem dX2_addShape_85 : decode cX2_addShape 85 = .ok (.invokevirtual 59, 3) := by decide +kernel
theorem dX2_addShape_88 : decode cX2_addShape 88 = .ok (.ifCond .ne 6, 3) := by decide +kernel
theorem dX2_addShape_91 : decode cX2_addShape 91 = .ok (.bipush (-4), 2) := by decide +kernel
theorem dX2_addShape_93 : decode cX2_addShape 93 = .ok (.ireturn, 1) := by decide +kernel
theorem dX2_addShape_94 : decode cX2_addShape 94 = .ok (.aload_n 0, 1) := by decide +kernel
theorem dX2_addShape_95 : decode cX2_addShape 95 = .ok (.getfield 25, 3) := by decide +kernel
theorem dX2_addShape_98 : decode cX2_addShape 98 = .ok (.bipush 12, 2) := by decide +kernel
theorem dX2_addShape_100 : decode cX2_addShape 100 = .ok (.if_icmp .lt 6, 3) := by decide +kernel
theorem dX2_addShape_103 : decode cX2_addShape 103 = .ok (.bipush (-3), 2) := by decide +kernel
theorem dX2_addShape_105 : decode cX2_addShape 105 = .ok (.ireturn, 1) := by decide +kernel
theorem dX2_addShape_106 : decode cX2_addShape 106 = .ok (.aload_n 0, 1) := by decide +kernel
theorem dX2_addShape_107 : decode cX2_addShape 107 = .ok (.dup, 1) := by decide +kernel
theorem dX2_addShape_108 : decode cX2_addShape 108 = .ok (.getfield 25, 3) := by decide +kernel
theorem dX2_addShape_111 : decode cX2_addShape 111 = .ok (.iconst 1, 1) := by decide +kernel
theorem dX2_addShape_112 : decode cX2_addShape 112 = .ok (.iadd, 1) := by decide +kernel
theorem dX2_addShape_113 : decode cX2_addShape 113 = .ok (.putfield 25, 3) := by decide +kernel
theorem dX2_addShape_116 : decode cX2_addShape 116 = .ok (.aload_n 0, 1) := by decide +kernel
theorem dX2_addShape_117 : decode cX2_addShape 117 = .ok (.getfield 25, 3) := by decide +kernel
theorem dX2_addShape_120 : decode cX2_addShape 120 = .ok (.iconst 1, 1) := by decide +kernel
theorem dX2_addShape_121 : decode cX2_addShape 121 = .ok (.isub, 1) := by decide +kernel
theorem dX2_addShape_122 : decode cX2_addShape 122 = .ok (.ireturn, 1) := by decide +kernel
theorem dX2_fits_0 : decode cX2_fits 0 = .ok (.iconst 0, 1) := by decide +kernel
theorem dX2_fits_1 : decode cX2_fits 1 = .ok (.istore_n 2, 1) := by decide +kernel
theorem dX2_fits_2 : decode cX2_fits 2 = .ok (.iload_n 2, 1) := by decide +kernel
theorem dX2_fits_3 : decode cX2_fits 3 = .ok (.aload_n 0, 1) := by decide +kernel
theorem dX2_fits_4 : decode cX2_fits 4 = .ok (.getfield 25, 3) := by decide +kernel
theorem dX2_fits_7 : decode cX2_fits 7 = .ok (.if_icmp .ge 64, 3) := by decide +kernel
theorem dX2_fits_10 : decode cX2_fits 10 = .ok (.aload_n 0, 1) := by decide +kernel
theorem dX2_fits_11 : decode cX2_fits 11 = .ok (.getfield 13, 3) := by decide +kernel
theorem dX2_fits_14 : decode cX2_fits 14 = .ok (.iload_n 2, 1) := by decide +kernel
theorem dX2_fits_15 : decode cX2_fits 15 = .ok (.aaload, 1) := by decide +kernel
theorem dX2_fits_16 : decode cX2_fits 16 = .ok (.astore_n 3, 1) := by decide +kernel
theorem dX2_fits_17 : decode cX2_fits 17 = .ok (.aload_n 1, 1) := by decide +kernel
theorem dX2_fits_18 : decode cX2_fits 18 = .ok (.aload_n 3, 1) := by decide +kernel
theorem dX2_fits_19 : decode cX2_fits 19 = .ok (.invokevirtual 63, 3) := by decide +kernel
theorem dX2_fits_22 : decode cX2_fits 22 = .ok (.ifCond .ne 11, 3) := by decide +kernel
theorem dX2_fits_25 : decode cX2_fits 25 = .ok (.aload_n 3, 1) := by decide +kernel
theorem dX2_fits_26 : decode cX2_fits 26 = .ok (.aload_n 1, 1) := by decide +kernel
theorem dX2_fits_27 : decode cX2_fits 27 = .ok (.invokevirtual 63, 3) := by decide +kernel
theorem dX2_fits_30 : decode cX2_fits 30 = .ok (.ifCond .eq 7, 3) := by decide +kernel
theorem dX2_fits_33 : decode cX2_fits 33 = .ok (.iconst 1, 1) := by decide +kernel
theorem dX2_fits_34 : decode cX2_fits 34 = .ok (.goto 4, 3) := by decide +kernel
theorem dX2_fits_37 : decode cX2_fits 37 = .ok (.iconst 0, 1) := by decide +kernel
theorem dX2_fits_38 : decode cX2_fits 38 = .ok (.istore 4, 2) := by decide +kernel
theorem dX2_fits_40 : decode cX2_fits 40 = .ok (.iload 4, 2) := by decide +kernel
theorem dX2_fits_42 : decode cX2_fits 42 = .ok (.ifCond .eq 13, 3) := by decide +kernel
theorem dX2_fits_45 : decode cX2_fits 45 = .ok (.aload_n 3, 1) := by decide +kernel
theorem dX2_fits_46 : decode cX2_fits 46 = .ok (.getfield 66, 3) := by decide +kernel
theorem dX2_fits_49 : decode cX2_fits 49 = .ok (.ifCond .eq 16, 3) := by decide +kernel
theorem dX2_fits_52 : decode cX2_fits 52 = .ok (.goto 11, 3) := by decide +kernel
theorem dX2_fits_55 : decode cX2_fits 55 = .ok (.aload_n 1, 1) := by decide +kernel
theorem dX2_fits_56 : decode cX2_fits 56 = .ok (.aload_n 3, 1) := by decide +kernel
theorem dX2_fits_57 : decode cX2_fits 57 = .ok (.invokevirtual 69, 3) := by decide +kernel
theorem dX2_fits_60 : decode cX2_fits 60 = .ok (.ifCond .ne 5, 3) := by decide +kernel
theorem dX2_fits_63 : decode cX2_fits 63 = .ok (.iconst 0, 1) := by decide +kernel
theorem dX2_fits_64 : decode cX2_fits 64 = .ok (.ireturn, 1) := by decide +kernel
theorem dX2_fits_65 : decode cX2_fits 65 = .ok (.iinc 2 1, 3) := by decide +kernel
theorem dX2_fits_68 : decode cX2_fits 68 = .ok (.goto (-66), 3) := by decide +kernel
theorem dX2_fits_71 : decode cX2_fits 71 = .ok (.iconst 1, 1) := by decide +kernel
theorem dX2_fits_72 : decode cX2_fits 72 = .ok (.ireturn, 1) := by decide +kernel
theorem dX2_changeLead_0 : decode cX2_changeLead 0 = .ok (.aload_n 0, 1) := by decide +kernel
theorem dX2_changeLead_1 : decode cX2_changeLead 1 = .ok (.iload_n 1, 1) := by decide +kernel
theorem dX2_changeLead_2 : decode cX2_changeLead 2 = .ok (.invokevirtual 72, 3) := by decide +kernel
theorem dX2_changeLead_5 : decode cX2_changeLead 5 = .ok (.ifCond .eq 12, 3) := by decide +kernel
theorem dX2_changeLead_8 : decode cX2_changeLead 8 = .ok (.iload_n 2, 1) := by decide +kernel
theorem dX2_changeLead_9 : decode cX2_changeLead 9 = .ok (.iconst 0, 1) := by decide +kernel
theorem dX2_changeLead_10 : decode cX2_changeLead 10 = .ok (.iconst 3, 1) := by decide +kernel
theorem dX2_changeLead_11 : decode cX2_changeLead 11 = .ok (.invokestatic 51, 3) := by decide +kernel
theorem dX2_changeLead_14 : decode cX2_changeLead 14 = .ok (.ifCond .ne 5, 3) := by decide +kernel
theorem dX2_changeLead_17 : decode cX2_changeLead 17 = .ok (.iconst (-1), 1) := by decide +kernel
theorem dX2_changeLead_18 : decode cX2_changeLead 18 = .ok (.ireturn, 1) := by decide +kernel
theorem dX2_changeLead_19 : decode cX2_changeLead 19 = .ok (.aload_n 0, 1) := by decide +kernel
theorem dX2_changeLead_20 : decode cX2_changeLead 20 = .ok (.getfield 13, 3) := by decide +kernel
theorem dX2_changeLead_23 : decode cX2_changeLead 23 = .ok (.iload_n 1, 1) := by decide +kernel
theorem dX2_changeLead_24 : decode cX2_changeLead 24 = .ok (.aaload, 1) := by decide +kernel
theorem dX2_changeLead_25 : decode cX2_changeLead 25 = .ok (.astore_n 3, 1) := by decide +kernel
theorem dX2_changeLead_26 : decode cX2_changeLead 26 = .ok (.aload_n 3, 1) := by decide +kernel
theorem dX2_changeLead_27 : decode cX2_changeLead 27 = .ok (.getfield 66, 3) := by decide +kernel
theorem dX2_changeLead_30 : decode cX2_changeLead 30 = .ok (.ifCond .eq 6, 3) := by decide +kernel
theorem dX2_changeLead_33 : decode cX2_changeLead 33 = .ok (.bipush (-4), 2) := by decide +kernel
theorem dX2_changeLead_35 : decode cX2_changeLead 35 = .ok (.ireturn, 1) := by decide +kernel
theorem dX2_changeLead_36 : decode cX2_changeLead 36 = .ok (.aload_n 3, 1) := by decide +kernel
theorem dX2_changeLead_37 : decode cX2_changeLead 37 = .ok (.getfield 76, 3) := by decide +kernel
theorem dX2_changeLead_40 : decode cX2_changeLead 40 = .ok (.iload_n 2, 1) := by decide +kernel
theorem dX2_changeLead_41 : decode cX2_changeLead 41 = .ok (.if_icmp .ne 6, 3) := by decide +kernel
theorem dX2_changeLead_44 : decode cX2_changeLead 44 = .ok (.bipush (-5), 2) := by decide +kernel
theorem dX2_changeLead_46 : decode cX2_changeLead 46 = .ok (.ireturn, 1) := by decide +kernel
theorem dX2_changeLead_47 : decode cX2_changeLead 47 = .ok (.aload_n 3, 1) := by decide +kernel
theorem dX2_changeLead_48 : decode cX2_changeLead 48 = .ok (.getfield 76, 3) := by decide +kernel
theorem dX2_changeLead_51 : decode cX2_changeLead 51 = .ok (.istore 4, 2) := by decide +kernel
theorem dX2_changeLead_53 : decode cX2_changeLead 53 = .ok (.aload_n 3, 1) := by decide +kernel
theorem dX2_changeLead_54 : decode cX2_changeLead 54 = .ok (.iload_n 2, 1) := by decide +kernel
theorem dX2_changeLead_55 : decode cX2_changeLead 55 = .ok (.putfield 76, 3) := by decide +kernel
theorem dX2_changeLead_58 : decode cX2_changeLead 58 = .ok (.iload 4, 2) := by decide +kernel
theorem dX2_changeLead_60 : decode cX2_changeLead 60 = .ok (.ireturn, 1) := by decide +kernel
theorem dX2_changeSetting_0 : decode cX2_changeSetting 0 = .ok (.iload_n 1, 1) := by decide +kernel
theorem dX2_changeSetting_1 : decode cX2_changeSetting 1 = .ok (.iconst 0, 1) := by decide +kernel
theorem dX2_changeSetting_2 : decode cX2_changeSetting 2 = .ok (.iconst 3, 1) := by decide +kernel
theorem dX2_changeSetting_3 : decode cX2_changeSetting 3 = .ok (.invokestatic 51, 3) := by decide +kernel
theorem dX2_changeSetting_6 : decode cX2_changeSetting 6 = .ok (.ifCond .ne 5, 3) := by decide +kernel
theorem dX2_changeSetting_9 : decode cX2_changeSetting 9 = .ok (.iconst (-1), 1) := by decide +kernel
theorem dX2_changeSetting_10 : decode cX2_changeSetting 10 = .ok (.ireturn, 1) := by decide +kernel
theorem dX2_changeSetting_11 : decode cX2_changeSetting 11 = .ok (.iload_n 2, 1) := by decide +kernel
theorem dX2_changeSetting_12 : decode cX2_changeSetting 12 = .ok (.getstatic 79, 3) := by decide +kernel
theorem dX2_changeSetting_15 : decode cX2_changeSetting 15 = .ok (.iload_n 1, 1) := by decide +kernel
theorem dX2_changeSetting_16 : decode cX2_changeSetting 16 = .ok (.iaload, 1) := by decide +kernel
theorem dX2_changeSetting_17 : decode cX2_changeSetting 17 = .ok (.getstatic 82, 3) := by decide +kernel
theorem dX2_changeSetting_20 : decode cX2_changeSetting 20 = .ok (.iload_n 1, 1) := by decide +kernel
theorem dX2_changeSetting_21 : decode cX2_changeSetting 21 = .ok (.iaload, 1) := by decide +kernel
theorem dX2_changeSetting_22 : decode cX2_changeSetting 22 = .ok (.invokestatic 51, 3) := by decide +kernel
theorem dX2_changeSetting_25 : decode cX2_changeSetting 25 = .ok (.ifCond .ne 6, 3) := by decide +kernel
theorem dX2_changeSetting_28 : decode cX2_changeSetting 28 = .ok (.bipush (-2), 2) := by decide +kernel
theorem dX2_changeSetting_30 : decode cX2_changeSetting 30 = .ok (.ireturn, 1) := by decide +kernel
theorem dX2_changeSetting_31 : decode cX2_changeSetting 31 = .ok (.aload_n 0, 1) := by decide +kernel
theorem dX2_changeSetting_32 : decode cX2_changeSetting 32 = .ok (.getfield 22, 3) := by decide +kernel
theorem dX2_changeSetting_35 : decode cX2_changeSetting 35 = .ok (.iload_n 1, 1) := by decide +kernel
theorem dX2_changeSetting_36 : decode cX2_changeSetting 36 = .ok (.iaload, 1) := by decide +kernel
theorem dX2_changeSetting_37 : decode cX2_changeSetting 37 = .ok (.iload_n 2, 1) := by decide +kernel
theorem dX2_changeSetting_38 : decode cX2_changeSetting 38 = .ok (.if_icmp .ne 6, 3) := by decide +kernel
theorem dX2_changeSetting_41 : decode cX2_changeSetting 41 = .ok (.bipush (-5), 2) := by decide +kernel
theorem dX2_changeSetting_43 : decode cX2_changeSetting 43 = .ok (.ireturn, 1) := by decide +kernel
theorem dX2_changeSetting_44 : decode cX2_changeSetting 44 = .ok (.aload_n 0, 1) := by decide +kernel
theorem dX2_changeSetting_45 : decode cX2_changeSetting 45 = .ok (.getfield 22, 3) := by decide +kernel
theorem dX2_changeSetting_48 : decode cX2_changeSetting 48 = .ok (.iload_n 1, 1) := by decide +kernel
theorem dX2_changeSetting_49 : decode cX2_changeSetting 49 = .ok (.iaload, 1) := by decide +kernel
theorem dX2_changeSetting_50 : decode cX2_changeSetting 50 = .ok (.istore_n 3, 1) := by decide +kernel
theorem dX2_changeSetting_51 : decode cX2_changeSetting 51 = .ok (.aload_n 0, 1) := by decide +kernel
theorem dX2_changeSetting_52 : decode cX2_changeSetting 52 = .ok (.getfield 22, 3) := by decide +kernel
theorem dX2_changeSetting_55 : decode cX2_changeSetting 55 = .ok (.iload_n 1, 1) := by decide +kernel
theorem dX2_changeSetting_56 : decode cX2_changeSetting 56 = .ok (.iload_n 2, 1) := by decide +kernel
theorem dX2_changeSetting_57 : decode cX2_changeSetting 57 = .ok (.iastore, 1) := by decide +kernel
theorem dX2_changeSetting_58 : decode cX2_changeSetting 58 = .ok (.iload_n 3, 1) := by decide +kernel
theorem dX2_changeSetting_59 : decode cX2_changeSetting 59 = .ok (.ireturn, 1) := by decide +kernel
theorem dX2_cutShape_0 : decode cX2_cutShape 0 = .ok (.aload_n 0, 1) := by decide +kernel
theorem dX2_cutShape_1 : decode cX2_cutShape 1 = .ok (.iload_n 1, 1) := by decide +kernel
theorem dX2_cutShape_2 : decode cX2_cutShape 2 = .ok (.invokevirtual 72, 3) := by decide +kernel
theorem dX2_cutShape_5 : decode cX2_cutShape 5 = .ok (.ifCond .ne 5, 3) := by decide +kernel
theorem dX2_cutShape_8 : decode cX2_cutShape 8 = .ok (.iconst (-1), 1) := by decide +kernel
theorem dX2_cutShape_9 : decode cX2_cutShape 9 = .ok (.ireturn, 1) := by decide +kernel
theorem dX2_cutShape_10 : decode cX2_cutShape 10 = .ok (.aload_n 0, 1) := by decide +kernel
theorem dX2_cutShape_11 : decode cX2_cutShape 11 = .ok (.iload_n 1, 1) := by decide +kernel
theorem dX2_cutShape_12 : decode cX2_cutShape 12 = .ok (.invokevirtual 85, 3) := by decide +kernel
theorem dX2_cutShape_15 : decode cX2_cutShape 15 = .ok (.istore_n 2, 1) := by decide +kernel
theorem dX2_cutShape_16 : decode cX2_cutShape 16 = .ok (.iload_n 2, 1) := by decide +kernel
theorem dX2_cutShape_17 : decode cX2_cutShape 17 = .ok (.ifCond .eq 8, 3) := by decide +kernel
theorem dX2_cutShape_20 : decode cX2_cutShape 20 = .ok (.bipush (-10), 2) := by decide +kernel
theorem dX2_cutShape_22 : decode cX2_cutShape 22 = .ok (.iload_n 2, 1) := by decide +kernel
theorem dX2_cutShape_23 : decode cX2_cutShape 23 = .ok (.isub, 1) := by decide +kernel
theorem dX2_cutShape_24 : decode cX2_cutShape 24 = .ok (.ireturn, 1) := by decide +kernel
theorem dX2_cutShape_25 : decode cX2_cutShape 25 = .ok (.aload_n 0, 1) := by decide +kernel
theorem dX2_cutShape_26 : decode cX2_cutShape 26 = .ok (.getfield 13, 3) := by decide +kernel
theorem dX2_cutShape_29 : decode cX2_cutShape 29 = .ok (.iload_n 1, 1) := by decide +kernel
theorem dX2_cutShape_30 : decode cX2_cutShape 30 = .ok (.aaload, 1) := by decide +kernel
theorem dX2_cutShape_31 : decode cX2_cutShape 31 = .ok (.astore_n 3, 1) := by decide +kernel
theorem dX2_cutShape_32 : decode cX2_cutShape 32 = .ok (.aload_n 0, 1) := by decide +kernel
theorem dX2_cutShape_33 : decode cX2_cutShape 33 = .ok (.aload_n 0, 1) := by decide +kernel
theorem dX2_cutShape_34 : decode cX2_cutShape 34 = .ok (.aload_n 3, 1) := by decide +kernel
theorem dX2_cutShape_35 : decode cX2_cutShape 35 = .ok (.invokevirtual 89, 3) := by decide +kernel
theorem dX2_cutShape_38 : decode cX2_cutShape 38 = .ok (.invokevirtual 93, 3) := by decide +kernel
theorem dX2_cutShape_41 : decode cX2_cutShape 41 = .ok (.aload_n 0, 1) := by decide +kernel
theorem dX2_cutShape_42 : decode cX2_cutShape 42 = .ok (.aload_n 3, 1) := by decide +kernel
theorem dX2_cutShape_43 : decode cX2_cutShape 43 = .ok (.invokevirtual 97, 3) := by decide +kernel
theorem dX2_cutShape_46 : decode cX2_cutShape 46 = .ok (.putfield 29, 3) := by decide +kernel
theorem dX2_cutShape_49 : decode cX2_cutShape 49 = .ok (.aload_n 0, 1) := by decide +kernel
theorem dX2_cutShape_50 : decode cX2_cutShape 50 = .ok (.aload_n 3, 1) := by decide +kernel
theorem dX2_cutShape_51 : decode cX2_cutShape 51 = .ok (.invokevirtual 101, 3) := by decide +kernel
theorem dX2_cutShape_54 : decode cX2_cutShape 54 = .ok (.putfield 32, 3) := by decide +kernel
theorem dX2_cutShape_57 : decode cX2_cutShape 57 = .ok (.aload_n 0, 1) := by decide +kernel
theorem dX2_cutShape_58 : decode cX2_cutShape 58 = .ok (.aload_n 3, 1) := by decide +kernel
theorem dX2_cutShape_59 : decode cX2_cutShape 59 = .ok (.invokevirtual 104, 3) := by decide +kernel
theorem dX2_cutShape_62 : decode cX2_cutShape 62 = .ok (.aload_n 3, 1) := by decide +kernel
theorem dX2_cutShape_63 : decode cX2_cutShape 63 = .ok (.iconst 1, 1) := by decide +kernel
theorem dX2_cutShape_64 : decode cX2_cutShape 64 = .ok (.putfield 66, 3) := by decide +kernel
theorem dX2_cutShape_67 : decode cX2_cutShape 67 = .ok (.aload_n 3, 1) := by decide +kernel
theorem dX2_cutShape_68 : decode cX2_cutShape 68 = .ok (.aload_n 0, 1) := by decide +kernel
theorem dX2_cutShape_69 : decode cX2_cutShape 69 = .ok (.getfield 44, 3) := by decide +kernel
theorem dX2_cutShape_72 : decode cX2_cutShape 72 = .ok (.putfield 107, 3) := by decide +kernel
theorem dX2_cutShape_75 : decode cX2_cutShape 75 = .ok (.aload_n 0, 1) := by decide +kernel
theorem dX2_cutShape_76 : decode cX2_cutShape 76 = .ok (.dup, 1) := by decide +kernel
theorem dX2_cutShape_77 : decode cX2_cutShape 77 = .ok (.getfield 44, 3) := by decide +kernel
theorem dX2_cutShape_80 : decode cX2_cutShape 80 = .ok (.iconst 1, 1) := by decide +kernel
theorem dX2_cutShape_81 : decode cX2_cutShape 81 = .ok (.iadd, 1) := by decide +kernel
theorem dX2_cutShape_82 : decode cX2_cutShape 82 = .ok (.putfield 44, 3) := by decide +kernel
theorem dX2_cutShape_85 : decode cX2_cutShape 85 = .ok (.aload_n 3, 1) := by decide +kernel
theorem dX2_cutShape_86 : decode cX2_cutShape 86 = .ok (.aload_n 0, 1) := by decide +kernel
theorem dX2_cutShape_87 : decode cX2_cutShape 87 = .ok (.aload_n 3, 1) := by decide +kernel
theorem dX2_cutShape_88 : decode cX2_cutShape 88 = .ok (.invokevirtual 110, 3) := by decide +kernel
theorem dX2_cutShape_91 : decode cX2_cutShape 91 = .ok (.invokevirtual 113, 3) := by decide +kernel
theorem dX2_cutShape_94 : decode cX2_cutShape 94 = .ok (.aload_n 0, 1) := by decide +kernel
theorem dX2_cutShape_95 : decode cX2_cutShape 95 = .ok (.invokevirtual 116, 3) := by decide +kernel
theorem dX2_cutShape_98 : decode cX2_cutShape 98 = .ok (.if_icmp .ne 7, 3) := by decide +kernel
theorem dX2_cutShape_101 : decode cX2_cutShape 101 = .ok (.iconst 1, 1) := by decide +kernel
theorem dX2_cutShape_102 : decode cX2_cutShape 102 = .ok (.goto 4, 3) := by decide +kernel
theorem dX2_cutShape_105 : decode cX2_cutShape 105 = .ok (.iconst 0, 1) := by decide +kernel
theorem dX2_cutShape_106 : decode cX2_cutShape 106 = .ok (.putfield 119, 3) := by decide +kernel
theorem dX2_cutShape_109 : decode cX2_cutShape 109 = .ok (.aload_n 0, 1) := by decide +kernel
theorem dX2_cutShape_110 : decode cX2_cutShape 110 = .ok (.aload_n 3, 1) := by decide +kernel
theorem dX2_cutShape_111 : decode cX2_cutShape 111 = .ok (.invokevirtual 122, 3) := by decide +kernel
theorem dX2_cutShape_114 : decode cX2_cutShape 114 = .ok (.ireturn, 1) := by decide +kernel
theorem dX2_burnEdge_0 : decode cX2_burnEdge 0 = .ok (.aload_n 0, 1) := by decide +kernel
theorem dX2_burnEdge_1 : decode cX2_burnEdge 1 = .ok (.aload_n 1, 1) := by decide +kernel
theorem dX2_burnEdge_2 : decode cX2_burnEdge 2 = .ok (.invokevirtual 125, 3) := by decide +kernel
theorem dX2_burnEdge_5 : decode cX2_burnEdge 5 = .ok (.istore_n 2, 1) := by decide +kernel
theorem dX2_burnEdge_6 : decode cX2_burnEdge 6 = .ok (.aload_n 0, 1) := by decide +kernel
theorem dX2_burnEdge_7 : decode cX2_burnEdge 7 = .ok (.dup, 1) := by decide +kernel
theorem dX2_burnEdge_8 : decode cX2_burnEdge 8 = .ok (.getfield 38, 3) := by decide +kernel
theorem dX2_burnEdge_11 : decode cX2_burnEdge 11 = .ok (.iload_n 2, 1) := by decide +kernel
theorem dX2_burnEdge_12 : decode cX2_burnEdge 12 = .ok (.iadd, 1) := by decide +kernel
theorem dX2_burnEdge_13 : decode cX2_burnEdge 13 = .ok (.putfield 38, 3) := by decide +kernel
theorem dX2_burnEdge_16 : decode cX2_burnEdge 16 = .ok (.aload_n 0, 1) := by decide +kernel
theorem dX2_burnEdge_17 : decode cX2_burnEdge 17 = .ok (.dup, 1) := by decide +kernel
theorem dX2_burnEdge_18 : decode cX2_burnEdge 18 = .ok (.getfield 41, 3) := by decide +kernel
theorem dX2_burnEdge_21 : decode cX2_burnEdge 21 = .ok (.iload_n 2, 1) := by decide +kernel
theorem dX2_burnEdge_22 : decode cX2_burnEdge 22 = .ok (.iadd, 1) := by decide +kernel
theorem dX2_burnEdge_23 : decode cX2_burnEdge 23 = .ok (.putfield 41, 3) := by decide +kernel
theorem dX2_burnEdge_26 : decode cX2_burnEdge 26 = .ok (.iconst 0, 1) := by decide +kernel
theorem dX2_burnEdge_27 : decode cX2_burnEdge 27 = .ok (.istore_n 3, 1) := by decide +kernel
theorem dX2_burnEdge_28 : decode cX2_burnEdge 28 = .ok (.iload_n 3, 1) := by decide +kernel
theorem dX2_burnEdge_29 : decode cX2_burnEdge 29 = .ok (.bipush 12, 2) := by decide +kernel
theorem dX2_burnEdge_31 : decode cX2_burnEdge 31 = .ok (.if_icmp .ge 24, 3) := by decide +kernel
theorem dX2_burnEdge_34 : decode cX2_burnEdge 34 = .ok (.aload_n 0, 1) := by decide +kernel
theorem dX2_burnEdge_35 : decode cX2_burnEdge 35 = .ok (.getfield 18, 3) := by decide +kernel
theorem dX2_burnEdge_38 : decode cX2_burnEdge 38 = .ok (.iload_n 3, 1) := by decide +kernel
theorem dX2_burnEdge_39 : decode cX2_burnEdge 39 = .ok (.dup2, 1) := by decide +kernel
theorem dX2_burnEdge_40 : decode cX2_burnEdge 40 = .ok (.iaload, 1) := by decide +kernel
theorem dX2_burnEdge_41 : decode cX2_burnEdge 41 = .ok (.aload_n 1, 1) := by decide +kernel
theorem dX2_burnEdge_42 : decode cX2_burnEdge 42 = .ok (.getfield 128, 3) := by decide +kernel
theorem dX2_burnEdge_45 : decode cX2_burnEdge 45 = .ok (.iload_n 3, 1) := by decide +kernel
theorem dX2_burnEdge_46 : decode cX2_burnEdge 46 = .ok (.iaload, 1) := by decide +kernel
theorem dX2_burnEdge_47 : decode cX2_burnEdge 47 = .ok (.iadd, 1) := by decide +kernel
theorem dX2_burnEdge_48 : decode cX2_burnEdge 48 = .ok (.iastore, 1) := by decide +kernel
theorem dX2_burnEdge_49 : decode cX2_burnEdge 49 = .ok (.iinc 3 1, 3) := by decide +kernel
theorem dX2_burnEdge_52 : decode cX2_burnEdge 52 = .ok (.goto (-24), 3) := by decide +kernel
theorem dX2_burnEdge_55 : decode cX2_burnEdge 55 = .ok (.aload_n 0, 1) := by decide +kernel
theorem dX2_burnEdge_56 : decode cX2_burnEdge 56 = .ok (.dup, 1) := by decide +kernel
theorem dX2_burnEdge_57 : decode cX2_burnEdge 57 = .ok (.getfield 35, 3) := by decide +kernel
theorem dX2_burnEdge_60 : decode cX2_burnEdge 60 = .ok (.iconst 1, 1) := by decide +kernel
theorem dX2_burnEdge_61 : decode cX2_burnEdge 61 = .ok (.iadd, 1) := by decide +kernel
theorem dX2_burnEdge_62 : decode cX2_burnEdge 62 = .ok (.putfield 35, 3) := by decide +kernel
theorem dX2_burnEdge_65 : decode cX2_burnEdge 65 = .ok (.return_, 1) := by decide +kernel
theorem dX2_loseShapesInside_0 : decode cX2_loseShapesInside 0 = .ok (.iconst 0, 1) := by decide +kernel
theorem dX2_loseShapesInside_1 : decode cX2_loseShapesInside 1 = .ok (.istore_n 2, 1) := by decide +kernel
theorem dX2_loseShapesInside_2 : decode cX2_loseShapesInside 2 = .ok (.iconst 0, 1) := by decide +kernel
theorem dX2_loseShapesInside_3 : decode cX2_loseShapesInside 3 = .ok (.istore_n 3, 1) := by decide +kernel
theorem dX2_loseShapesInside_4 : decode cX2_loseShapesInside 4 = .ok (.iload_n 3, 1) := by decide +kernel
theorem dX2_loseShapesInside_5 : decode cX2_loseShapesInside 5 = .ok (.aload_n 0, 1) := by decide +kernel
theorem dX2_loseShapesInside_6 : decode cX2_loseShapesInside 6 = .ok (.getfield 25, 3) := by decide +kernel
theorem dX2_loseShapesInside_9 : decode cX2_loseShapesInside 9 = .ok (.if_icmp .ge 43, 3) := by decide +kernel
theorem dX2_loseShapesInside_12 : decode cX2_loseShapesInside 12 = .ok (.aload_n 0, 1) := by decide +kernel
theorem dX2_loseShapesInside_13 : decode cX2_loseShapesInside 13 = .ok (.getfield 13, 3) := by decide +kernel
theorem dX2_loseShapesInside_16 : decode cX2_loseShapesInside 16 = .ok (.iload_n 3, 1) := by decide +kernel
theorem dX2_loseShapesInside_17 : decode cX2_loseShapesInside 17 = .ok (.aaload, 1) := by decide +kernel
theorem dX2_loseShapesInside_18 : decode cX2_loseShapesInside 18 = .ok (.astore 4, 2) := by decide +kernel
theorem dX2_loseShapesInside_20 : decode cX2_loseShapesInside 20 = .ok (.aload 4, 2) := by decide +kernel
theorem dX2_loseShapesInside_22 : decode cX2_loseShapesInside 22 = .ok (.getfield 66, 3) := by decide +kernel
theorem dX2_loseShapesInside_25 : decode cX2_loseShapesInside 25 = .ok (.ifCond .ne 21, 3) := by decide +kernel
theorem dX2_loseShapesInside_28 : decode cX2_loseShapesInside 28 = .ok (.aload 4, 2) := by decide +kernel
theorem dX2_loseShapesInside_30 : decode cX2_loseShapesInside 30 = .ok (.aload_n 1, 1) := by decide +kernel
theorem dX2_loseShapesInside_31 : decode cX2_loseShapesInside 31 = .ok (.invokevirtual 63, 3) := by decide +kernel
theorem dX2_loseShapesInside_34 : decode cX2_loseShapesInside 34 = .ok (.ifCond .eq 12, 3) := by decide +kernel
theorem dX2_loseShapesInside_37 : decode cX2_loseShapesInside 37 = .ok (.aload 4, 2) := by decide +kernel
theorem dX2_loseShapesInside_39 : decode cX2_loseShapesInside 39 = .ok (.iconst 2, 1) := by decide +kernel
theorem dX2_loseShapesInside_40 : decode cX2_loseShapesInside 40 = .ok (.putfield 66, 3) := by decide +kernel
theorem dX2_loseShapesInside_43 : decode cX2_loseShapesInside 43 = .ok (.iinc 2 1, 3) := by decide +kernel
theorem dX2_loseShapesInside_46 : decode cX2_loseShapesInside 46 = .ok (.iinc 3 1, 3) := by decide +kernel
theorem dX2_loseShapesInside_49 : decode cX2_loseShapesInside 49 = .ok (.goto (-45), 3) := by decide +kernel
theorem dX2_loseShapesInside_52 : decode cX2_loseShapesInside 52 = .ok (.iload_n 2, 1) := by decide +kernel
theorem dX2_loseShapesInside_53 : decode cX2_loseShapesInside 53 = .ok (.ireturn, 1) := by decide +kernel
theorem dX2_waitFor_0 : decode cX2_waitFor 0 = .ok (.iload_n 1, 1) := by decide +kernel
theorem dX2_waitFor_1 : decode cX2_waitFor 1 = .ok (.iconst 1, 1) := by decide +kernel
theorem dX2_waitFor_2 : decode cX2_waitFor 2 = .ok (.sipush 999, 3) := by decide +kernel
theorem dX2_waitFor_5 : decode cX2_waitFor 5 = .ok (.invokestatic 51, 3) := by decide +kernel
theorem dX2_waitFor_8 : decode cX2_waitFor 8 = .ok (.ifCond .ne 6, 3) := by decide +kernel
theorem dX2_waitFor_11 : decode cX2_waitFor 11 = .ok (.bipush (-2), 2) := by decide +kernel
theorem dX2_waitFor_13 : decode cX2_waitFor 13 = .ok (.ireturn, 1) := by decide +kernel
theorem dX2_waitFor_14 : decode cX2_waitFor 14 = .ok (.aload_n 0, 1) := by decide +kernel
theorem dX2_waitFor_15 : decode cX2_waitFor 15 = .ok (.iload_n 1, 1) := by decide +kernel
theorem dX2_waitFor_16 : decode cX2_waitFor 16 = .ok (.invokevirtual 93, 3) := by decide +kernel
theorem dX2_waitFor_19 : decode cX2_waitFor 19 = .ok (.aload_n 0, 1) := by decide +kernel
theorem dX2_waitFor_20 : decode cX2_waitFor 20 = .ok (.invokevirtual 116, 3) := by decide +kernel
theorem dX2_waitFor_23 : decode cX2_waitFor 23 = .ok (.ireturn, 1) := by decide +kernel
theorem dX2_cleanLens_0 : decode cX2_cleanLens 0 = .ok (.aload_n 0, 1) := by decide +kernel
theorem dX2_cleanLens_1 : decode cX2_cleanLens 1 = .ok (.getfield 35, 3) := by decide +kernel
theorem dX2_cleanLens_4 : decode cX2_cleanLens 4 = .ok (.ifCond .ne 6, 3) := by decide +kernel
theorem dX2_cleanLens_7 : decode cX2_cleanLens 7 = .ok (.bipush (-5), 2) := by decide +kernel
theorem dX2_cleanLens_9 : decode cX2_cleanLens 9 = .ok (.ireturn, 1) := by decide +kernel
theorem dX2_cleanLens_10 : decode cX2_cleanLens 10 = .ok (.aload_n 0, 1) := by decide +kernel
theorem dX2_cleanLens_11 : decode cX2_cleanLens 11 = .ok (.getfield 35, 3) := by decide +kernel
theorem dX2_cleanLens_14 : decode cX2_cleanLens 14 = .ok (.istore_n 1, 1) := by decide +kernel
theorem dX2_cleanLens_15 : decode cX2_cleanLens 15 = .ok (.aload_n 0, 1) := by decide +kernel
theorem dX2_cleanLens_16 : decode cX2_cleanLens 16 = .ok (.aload_n 0, 1) := by decide +kernel
theorem dX2_cleanLens_17 : decode cX2_cleanLens 17 = .ok (.getfield 22, 3) := by decide +kernel
theorem dX2_cleanLens_20 : decode cX2_cleanLens 20 = .ok (.iconst 0, 1) := by decide +kernel
theorem dX2_cleanLens_21 : decode cX2_cleanLens 21 = .ok (.iaload, 1) := by decide +kernel
theorem dX2_cleanLens_22 : decode cX2_cleanLens 22 = .ok (.invokevirtual 93, 3) := by decide +kernel
theorem dX2_cleanLens_25 : decode cX2_cleanLens 25 = .ok (.aload_n 0, 1) := by decide +kernel
theorem dX2_cleanLens_26 : decode cX2_cleanLens 26 = .ok (.iconst 0, 1) := by decide +kernel
theorem dX2_cleanLens_27 : decode cX2_cleanLens 27 = .ok (.putfield 35, 3) := by decide +kernel
theorem dX2_cleanLens_30 : decode cX2_cleanLens 30 = .ok (.iload_n 1, 1) := by decide +kernel
theorem dX2_cleanLens_31 : decode cX2_cleanLens 31 = .ok (.ireturn, 1) := by decide +kernel
theorem dX2_coolFor_0 : decode cX2_coolFor 0 = .ok (.aload_n 0, 1) := by decide +kernel
theorem dX2_coolFor_1 : decode cX2_coolFor 1 = .ok (.dup, 1) := by decide +kernel
theorem dX2_coolFor_2 : decode cX2_coolFor 2 = .ok (.getfield 38, 3) := by decide +kernel
theorem dX2_coolFor_5 : decode cX2_coolFor 5 = .ok (.iload_n 1, 1) := by decide +kernel
theorem dX2_coolFor_6 : decode cX2_coolFor 6 = .ok (.iadd, 1) := by decide +kernel
theorem dX2_coolFor_7 : decode cX2_coolFor 7 = .ok (.putfield 38, 3) := by decide +kernel
theorem dX2_coolFor_10 : decode cX2_coolFor 10 = .ok (.iconst 0, 1) := by decide +kernel
theorem dX2_coolFor_11 : decode cX2_coolFor 11 = .ok (.istore_n 2, 1) := by decide +kernel
theorem dX2_coolFor_12 : decode cX2_coolFor 12 = .ok (.iload_n 2, 1) := by decide +kernel
theorem dX2_coolFor_13 : decode cX2_coolFor 13 = .ok (.bipush 12, 2) := by decide +kernel
theorem dX2_coolFor_15 : decode cX2_coolFor 15 = .ok (.if_icmp .ge 34, 3) := by decide +kernel
theorem dX2_coolFor_18 : decode cX2_coolFor 18 = .ok (.aload_n 0, 1) := by decide +kernel
theorem dX2_coolFor_19 : decode cX2_coolFor 19 = .ok (.getfield 18, 3) := by decide +kernel
theorem dX2_coolFor_22 : decode cX2_coolFor 22 = .ok (.iload_n 2, 1) := by decide +kernel
theorem dX2_coolFor_23 : decode cX2_coolFor 23 = .ok (.aload_n 0, 1) := by decide +kernel
theorem dX2_coolFor_24 : decode cX2_coolFor 24 = .ok (.getfield 18, 3) := by decide +kernel
theorem dX2_coolFor_27 : decode cX2_coolFor 27 = .ok (.iload_n 2, 1) := by decide +kernel
theorem dX2_coolFor_28 : decode cX2_coolFor 28 = .ok (.iaload, 1) := by decide +kernel
theorem dX2_coolFor_29 : decode cX2_coolFor 29 = .ok (.iload_n 1, 1) := by decide +kernel
theorem dX2_coolFor_30 : decode cX2_coolFor 30 = .ok (.aload_n 0, 1) := by decide +kernel
theorem dX2_coolFor_31 : decode cX2_coolFor 31 = .ok (.getfield 22, 3) := by decide +kernel
theorem dX2_coolFor_34 : decode cX2_coolFor 34 = .ok (.iconst 1, 1) := by decide +kernel
theorem dX2_coolFor_35 : decode cX2_coolFor 35 = .ok (.iaload, 1) := by decide +kernel
theorem dX2_coolFor_36 : decode cX2_coolFor 36 = .ok (.imul, 1) := by decide +kernel
theorem dX2_coolFor_37 : decode cX2_coolFor 37 = .ok (.isub, 1) := by decide +kernel
theorem dX2_coolFor_38 : decode cX2_coolFor 38 = .ok (.iconst 0, 1) := by decide +kernel
theorem dX2_coolFor_39 : decode cX2_coolFor 39 = .ok (.invokestatic 131, 3) := by decide +kernel
theorem dX2_coolFor_42 : decode cX2_coolFor 42 = .ok (.iastore, 1) := by decide +kernel
theorem dX2_coolFor_43 : decode cX2_coolFor 43 = .ok (.iinc 2 1, 3) := by decide +kernel
theorem dX2_coolFor_46 : decode cX2_coolFor 46 = .ok (.goto (-34), 3) := by decide +kernel
theorem dX2_coolFor_49 : decode cX2_coolFor 49 = .ok (.return_, 1) := by decide +kernel
theorem dX2_wayTo_0 : decode cX2_wayTo 0 = .ok (.aload_n 1, 1) := by decide +kernel
theorem dX2_wayTo_1 : decode cX2_wayTo 1 = .ok (.invokevirtual 97, 3) := by decide +kernel
theorem dX2_wayTo_4 : decode cX2_wayTo 4 = .ok (.aload_n 0, 1) := by decide +kernel
theorem dX2_wayTo_5 : decode cX2_wayTo 5 = .ok (.getfield 29, 3) := by decide +kernel
theorem dX2_wayTo_8 : decode cX2_wayTo 8 = .ok (.isub, 1) := by decide +kernel
theorem dX2_wayTo_9 : decode cX2_wayTo 9 = .ok (.invokestatic 137, 3) := by decide +kernel
theorem dX2_wayTo_12 : decode cX2_wayTo 12 = .ok (.aload_n 1, 1) := by decide +kernel
theorem dX2_wayTo_13 : decode cX2_wayTo 13 = .ok (.invokevirtual 101, 3) := by decide +kernel
theorem dX2_wayTo_16 : decode cX2_wayTo 16 = .ok (.aload_n 0, 1) := by decide +kernel
theorem dX2_wayTo_17 : decode cX2_wayTo 17 = .ok (.getfield 32, 3) := by decide +kernel
theorem dX2_wayTo_20 : decode cX2_wayTo 20 = .ok (.isub, 1) := by decide +kernel
theorem dX2_wayTo_21 : decode cX2_wayTo 21 = .ok (.invokestatic 137, 3) := by decide +kernel
theorem dX2_wayTo_24 : decode cX2_wayTo 24 = .ok (.iadd, 1) := by decide +kernel
theorem dX2_wayTo_25 : decode cX2_wayTo 25 = .ok (.ireturn, 1) := by decide +kernel
theorem dX2_burningOf_0 : decode cX2_burningOf 0 = .ok (.aload_n 1, 1) := by decide +kernel
theorem dX2_burningOf_1 : decode cX2_burningOf 1 = .ok (.invokevirtual 140, 3) := by decide +kernel
theorem dX2_burningOf_4 : decode cX2_burningOf 4 = .ok (.iconst 2, 1) := by decide +kernel
theorem dX2_burningOf_5 : decode cX2_burningOf 5 = .ok (.aload_n 0, 1) := by decide +kernel
theorem dX2_burningOf_6 : decode cX2_burningOf 6 = .ok (.getfield 35, 3) := by decide +kernel
theorem dX2_burningOf_9 : decode cX2_burningOf 9 = .ok (.iconst 4, 1) := by decide +kernel
theorem dX2_burningOf_10 : decode cX2_burningOf 10 = .ok (.idiv, 1) := by decide +kernel
theorem dX2_burningOf_11 : decode cX2_burningOf 11 = .ok (.iadd, 1) := by decide +kernel
theorem dX2_burningOf_12 : decode cX2_burningOf 12 = .ok (.imul, 1) := by decide +kernel
theorem dX2_burningOf_13 : decode cX2_burningOf 13 = .ok (.ireturn, 1) := by decide +kernel
theorem dX2_reasonAgainst_0 : decode cX2_reasonAgainst 0 = .ok (.aload_n 0, 1) := by decide +kernel
theorem dX2_reasonAgainst_1 : decode cX2_reasonAgainst 1 = .ok (.getfield 13, 3) := by decide +kernel
theorem dX2_reasonAgainst_4 : decode cX2_reasonAgainst 4 = .ok (.iload_n 1, 1) := by decide +kernel
theorem dX2_reasonAgainst_5 : decode cX2_reasonAgainst 5 = .ok (.aaload, 1) := by decide +kernel
theorem dX2_reasonAgainst_6 : decode cX2_reasonAgainst 6 = .ok (.astore_n 2, 1) := by decide +kernel
theorem dX2_reasonAgainst_7 : decode cX2_reasonAgainst 7 = .ok (.aload_n 2, 1) := by decide +kernel
theorem dX2_reasonAgainst_8 : decode cX2_reasonAgainst 8 = .ok (.getfield 66, 3) := by decide +kernel
theorem dX2_reasonAgainst_11 : decode cX2_reasonAgainst 11 = .ok (.iconst 1, 1) := by decide +kernel
theorem dX2_reasonAgainst_12 : decode cX2_reasonAgainst 12 = .ok (.if_icmp .ne 5, 3) := by decide +kernel
theorem dX2_reasonAgainst_15 : decode cX2_reasonAgainst 15 = .ok (.iconst 1, 1) := by decide +kernel
theorem dX2_reasonAgainst_16 : decode cX2_reasonAgainst 16 = .ok (.ireturn, 1) := by decide +kernel
theorem dX2_reasonAgainst_17 : decode cX2_reasonAgainst 17 = .ok (.aload_n 2, 1) := by decide +kernel
theorem dX2_reasonAgainst_18 : decode cX2_reasonAgainst 18 = .ok (.getfield 66, 3) := by decide +kernel
theorem dX2_reasonAgainst_21 : decode cX2_reasonAgainst 21 = .ok (.iconst 2, 1) := by decide +kernel
theorem dX2_reasonAgainst_22 : decode cX2_reasonAgainst 22 = .ok (.if_icmp .ne 5, 3) := by decide +kernel
theorem dX2_reasonAgainst_25 : decode cX2_reasonAgainst 25 = .ok (.iconst 2, 1) := by decide +kernel
theorem dX2_reasonAgainst_26 : decode cX2_reasonAgainst 26 = .ok (.ireturn, 1) := by decide +kernel
theorem dX2_reasonAgainst_27 : decode cX2_reasonAgainst 27 = .ok (.aload_n 0, 1) := by decide +kernel
theorem dX2_reasonAgainst_28 : decode cX2_reasonAgainst 28 = .ok (.getfield 22, 3) := by decide +kernel
theorem dX2_reasonAgainst_31 : decode cX2_reasonAgainst 31 = .ok (.iconst 3, 1) := by decide +kernel
theorem dX2_reasonAgainst_32 : decode cX2_reasonAgainst 32 = .ok (.iaload, 1) := by decide +kernel
theorem dX2_reasonAgainst_33 : decode cX2_reasonAgainst 33 = .ok (.iconst 1, 1) := by decide +kernel
theorem dX2_reasonAgainst_34 : decode cX2_reasonAgainst 34 = .ok (.if_icmp .ne 13, 3) := by decide +kernel
theorem dX2_reasonAgainst_37 : decode cX2_reasonAgainst 37 = .ok (.aload_n 0, 1) := by decide +kernel
theorem dX2_reasonAgainst_38 : decode cX2_reasonAgainst 38 = .ok (.aload_n 2, 1) := by decide +kernel
theorem dX2_reasonAgainst_39 : decode cX2_reasonAgainst 39 = .ok (.invokevirtual 143, 3) := by decide +kernel
theorem dX2_reasonAgainst_42 : decode cX2_reasonAgainst 42 = .ok (.ifCond .eq 5, 3) := by decide +kernel
theorem dX2_reasonAgainst_45 : decode cX2_reasonAgainst 45 = .ok (.iconst 3, 1) := by decide +kernel
theorem dX2_reasonAgainst_46 : decode cX2_reasonAgainst 46 = .ok (.ireturn, 1) := by decide +kernel
theorem dX2_reasonAgainst_47 : decode cX2_reasonAgainst 47 = .ok (.aload_n 0, 1) := by decide +kernel
theorem dX2_reasonAgainst_48 : decode cX2_reasonAgainst 48 = .ok (.aload_n 2, 1) := by decide +kernel
theorem dX2_reasonAgainst_49 : decode cX2_reasonAgainst 49 = .ok (.invokevirtual 146, 3) := by decide +kernel
theorem dX2_reasonAgainst_52 : decode cX2_reasonAgainst 52 = .ok (.aload_n 0, 1) := by decide +kernel
theorem dX2_reasonAgainst_53 : decode cX2_reasonAgainst 53 = .ok (.aload_n 2, 1) := by decide +kernel
theorem dX2_reasonAgainst_54 : decode cX2_reasonAgainst 54 = .ok (.invokevirtual 89, 3) := by decide +kernel
theorem dX2_reasonAgainst_57 : decode cX2_reasonAgainst 57 = .ok (.aload_n 0, 1) := by decide +kernel
theorem dX2_reasonAgainst_58 : decode cX2_reasonAgainst 58 = .ok (.getfield 22, 3) := by decide +kernel
theorem dX2_reasonAgainst_61 : decode cX2_reasonAgainst 61 = .ok (.iconst 1, 1) := by decide +kernel
theorem dX2_reasonAgainst_62 : decode cX2_reasonAgainst 62 = .ok (.iaload, 1) := by decide +kernel
theorem dX2_reasonAgainst_63 : decode cX2_reasonAgainst 63 = .ok (.imul, 1) := by decide +kernel
theorem dX2_reasonAgainst_64 : decode cX2_reasonAgainst 64 = .ok (.if_icmp .le 7, 3) := by decide +kernel
theorem dX2_reasonAgainst_67 : decode cX2_reasonAgainst 67 = .ok (.iconst 4, 1) := by decide +kernel
theorem dX2_reasonAgainst_68 : decode cX2_reasonAgainst 68 = .ok (.goto 4, 3) := by decide +kernel
theorem dX2_reasonAgainst_71 : decode cX2_reasonAgainst 71 = .ok (.iconst 0, 1) := by decide +kernel
theorem dX2_reasonAgainst_72 : decode cX2_reasonAgainst 72 = .ok (.ireturn, 1) := by decide +kernel
theorem dX2_holdsWholeShape_0 : decode cX2_holdsWholeShape 0 = .ok (.iconst 0, 1) := by decide +kernel
theorem dX2_holdsWholeShape_1 : decode cX2_holdsWholeShape 1 = .ok (.istore_n 2, 1) := by decide +kernel
theorem dX2_holdsWholeShape_2 : decode cX2_holdsWholeShape 2 = .ok (.iload_n 2, 1) := by decide +kernel
theorem dX2_holdsWholeShape_3 : decode cX2_holdsWholeShape 3 = .ok (.aload_n 0, 1) := by decide +kernel
theorem dX2_holdsWholeShape_4 : decode cX2_holdsWholeShape 4 = .ok (.getfield 25, 3) := by decide +kernel
theorem dX2_holdsWholeShape_7 : decode cX2_holdsWholeShape 7 = .ok (.if_icmp .ge 36, 3) := by decide +kernel
theorem dX2_holdsWholeShape_10 : decode cX2_holdsWholeShape 10 = .ok (.aload_n 0, 1) := by decide +kernel
theorem dX2_holdsWholeShape_11 : decode cX2_holdsWholeShape 11 = .ok (.getfield 13, 3) := by decide +kernel
theorem dX2_holdsWholeShape_14 : decode cX2_holdsWholeShape 14 = .ok (.iload_n 2, 1) := by decide +kernel
theorem dX2_holdsWholeShape_15 : decode cX2_holdsWholeShape 15 = .ok (.aaload, 1) := by decide +kernel
theorem dX2_holdsWholeShape_16 : decode cX2_holdsWholeShape 16 = .ok (.getfield 66, 3) := by decide +kernel
theorem dX2_holdsWholeShape_19 : decode cX2_holdsWholeShape 19 = .ok (.ifCond .ne 18, 3) := by decide +kernel
theorem dX2_holdsWholeShape_22 : decode cX2_holdsWholeShape 22 = .ok (.aload_n 0, 1) := by decide +kernel
theorem dX2_holdsWholeShape_23 : decode cX2_holdsWholeShape 23 = .ok (.getfield 13, 3) := by decide +kernel
theorem dX2_holdsWholeShape_26 : decode cX2_holdsWholeShape 26 = .ok (.iload_n 2, 1) := by decide +kernel
theorem dX2_holdsWholeShape_27 : decode cX2_holdsWholeShape 27 = .ok (.aaload, 1) := by decide +kernel
theorem dX2_holdsWholeShape_28 : decode cX2_holdsWholeShape 28 = .ok (.aload_n 1, 1) := by decide +kernel
theorem dX2_holdsWholeShape_29 : decode cX2_holdsWholeShape 29 = .ok (.invokevirtual 63, 3) := by decide +kernel
theorem dX2_holdsWholeShape_32 : decode cX2_holdsWholeShape 32 = .ok (.ifCond .eq 5, 3) := by decide +kernel
theorem dX2_holdsWholeShape_35 : decode cX2_holdsWholeShape 35 = .ok (.iconst 1, 1) := by decide +kernel
theorem dX2_holdsWholeShape_36 : decode cX2_holdsWholeShape 36 = .ok (.ireturn, 1) := by decide +kernel
theorem dX2_holdsWholeShape_37 : decode cX2_holdsWholeShape 37 = .ok (.iinc 2 1, 3) := by decide +kernel
theorem dX2_holdsWholeShape_40 : decode cX2_holdsWholeShape 40 = .ok (.goto (-38), 3) := by decide +kernel
theorem dX2_holdsWholeShape_43 : decode cX2_holdsWholeShape 43 = .ok (.iconst 0, 1) := by decide +kernel
theorem dX2_holdsWholeShape_44 : decode cX2_holdsWholeShape 44 = .ok (.ireturn, 1) := by decide +kernel
theorem dX2_heatOver_0 : decode cX2_heatOver 0 = .ok (.iconst 0, 1) := by decide +kernel
theorem dX2_heatOver_1 : decode cX2_heatOver 1 = .ok (.istore_n 2, 1) := by decide +kernel
theorem dX2_heatOver_2 : decode cX2_heatOver 2 = .ok (.iconst 0, 1) := by decide +kernel
theorem dX2_heatOver_3 : decode cX2_heatOver 3 = .ok (.istore_n 3, 1) := by decide +kernel
theorem dX2_heatOver_4 : decode cX2_heatOver 4 = .ok (.iload_n 3, 1) := by decide +kernel
theorem dX2_heatOver_5 : decode cX2_heatOver 5 = .ok (.bipush 12, 2) := by decide +kernel
theorem dX2_heatOver_7 : decode cX2_heatOver 7 = .ok (.if_icmp .ge 29, 3) := by decide +kernel
theorem dX2_heatOver_10 : decode cX2_heatOver 10 = .ok (.aload_n 1, 1) := by decide +kernel
theorem dX2_heatOver_11 : decode cX2_heatOver 11 = .ok (.getfield 128, 3) := by decide +kernel
theorem dX2_heatOver_14 : decode cX2_heatOver 14 = .ok (.iload_n 3, 1) := by decide +kernel
theorem dX2_heatOver_15 : decode cX2_heatOver 15 = .ok (.iaload, 1) := by decide +kernel
theorem dX2_heatOver_16 : decode cX2_heatOver 16 = .ok (.ifCond .le 14, 3) := by decide +kernel
theorem dX2_heatOver_19 : decode cX2_heatOver 19 = .ok (.iload_n 2, 1) := by decide +kernel
theorem dX2_heatOver_20 : decode cX2_heatOver 20 = .ok (.aload_n 0, 1) := by decide +kernel
theorem dX2_heatOver_21 : decode cX2_heatOver 21 = .ok (.getfield 18, 3) := by decide +kernel
theorem dX2_heatOver_24 : decode cX2_heatOver 24 = .ok (.iload_n 3, 1) := by decide +kernel
theorem dX2_heatOver_25 : decode cX2_heatOver 25 = .ok (.iaload, 1) := by decide +kernel
theorem dX2_heatOver_26 : decode cX2_heatOver 26 = .ok (.invokestatic 131, 3) := by decide +kernel
theorem dX2_heatOver_29 : decode cX2_heatOver 29 = .ok (.istore_n 2, 1) := by decide +kernel
theorem dX2_heatOver_30 : decode cX2_heatOver 30 = .ok (.iinc 3 1, 3) := by decide +kernel
theorem dX2_heatOver_33 : decode cX2_heatOver 33 = .ok (.goto (-29), 3) := by decide +kernel
theorem dX2_heatOver_36 : decode cX2_heatOver 36 = .ok (.iload_n 2, 1) := by decide +kernel
theorem dX2_heatOver_37 : decode cX2_heatOver 37 = .ok (.aload_n 0, 1) := by decide +kernel
theorem dX2_heatOver_38 : decode cX2_heatOver 38 = .ok (.getfield 22, 3) := by decide +kernel
theorem dX2_heatOver_41 : decode cX2_heatOver 41 = .ok (.iconst 2, 1) := by decide +kernel
theorem dX2_heatOver_42 : decode cX2_heatOver 42 = .ok (.iaload, 1) := by decide +kernel
theorem dX2_heatOver_43 : decode cX2_heatOver 43 = .ok (.isub, 1) := by decide +kernel
theorem dX2_heatOver_44 : decode cX2_heatOver 44 = .ok (.ireturn, 1) := by decide +kernel
theorem dX2_ticksToCut_0 : decode cX2_ticksToCut 0 = .ok (.aload_n 0, 1) := by decide +kernel
theorem dX2_ticksToCut_1 : decode cX2_ticksToCut 1 = .ok (.iload_n 1, 1) := by decide +kernel
theorem dX2_ticksToCut_2 : decode cX2_ticksToCut 2 = .ok (.invokevirtual 72, 3) := by decide +kernel
theorem dX2_ticksToCut_5 : decode cX2_ticksToCut 5 = .ok (.ifCond .ne 5, 3) := by decide +kernel
theorem dX2_ticksToCut_8 : decode cX2_ticksToCut 8 = .ok (.iconst (-1), 1) := by decide +kernel
theorem dX2_ticksToCut_9 : decode cX2_ticksToCut 9 = .ok (.ireturn, 1) := by decide +kernel
theorem dX2_ticksToCut_10 : decode cX2_ticksToCut 10 = .ok (.aload_n 0, 1) := by decide +kernel
theorem dX2_ticksToCut_11 : decode cX2_ticksToCut 11 = .ok (.getfield 13, 3) := by decide +kernel
theorem dX2_ticksToCut_14 : decode cX2_ticksToCut 14 = .ok (.iload_n 1, 1) := by decide +kernel
theorem dX2_ticksToCut_15 : decode cX2_ticksToCut 15 = .ok (.aaload, 1) := by decide +kernel
theorem dX2_ticksToCut_16 : decode cX2_ticksToCut 16 = .ok (.astore_n 2, 1) := by decide +kernel
theorem dX2_ticksToCut_17 : decode cX2_ticksToCut 17 = .ok (.aload_n 2, 1) := by decide +kernel
theorem dX2_ticksToCut_18 : decode cX2_ticksToCut 18 = .ok (.getfield 66, 3) := by decide +kernel
theorem dX2_ticksToCut_21 : decode cX2_ticksToCut 21 = .ok (.ifCond .ne 17, 3) := by decide +kernel
theorem dX2_ticksToCut_24 : decode cX2_ticksToCut 24 = .ok (.aload_n 0, 1) := by decide +kernel
theorem dX2_ticksToCut_25 : decode cX2_ticksToCut 25 = .ok (.aload_n 2, 1) := by decide +kernel
theorem dX2_ticksToCut_26 : decode cX2_ticksToCut 26 = .ok (.invokevirtual 89, 3) := by decide +kernel
theorem dX2_ticksToCut_29 : decode cX2_ticksToCut 29 = .ok (.aload_n 0, 1) := by decide +kernel
theorem dX2_ticksToCut_30 : decode cX2_ticksToCut 30 = .ok (.aload_n 2, 1) := by decide +kernel
theorem dX2_ticksToCut_31 : decode cX2_ticksToCut 31 = .ok (.invokevirtual 125, 3) := by decide +kernel
theorem dX2_ticksToCut_34 : decode cX2_ticksToCut 34 = .ok (.iadd, 1) := by decide +kernel
theorem dX2_ticksToCut_35 : decode cX2_ticksToCut 35 = .ok (.goto 5, 3) := by decide +kernel
theorem dX2_ticksToCut_38 : decode cX2_ticksToCut 38 = .ok (.bipush (-4), 2) := by decide +kernel
theorem dX2_ticksToCut_40 : decode cX2_ticksToCut 40 = .ok (.ireturn, 1) := by decide +kernel
theorem dX2_ticksToCool_0 : decode cX2_ticksToCool 0 = .ok (.aload_n 0, 1) := by decide +kernel
theorem dX2_ticksToCool_1 : decode cX2_ticksToCool 1 = .ok (.iload_n 1, 1) := by decide +kernel
theorem dX2_ticksToCool_2 : decode cX2_ticksToCool 2 = .ok (.invokevirtual 72, 3) := by decide +kernel
theorem dX2_ticksToCool_5 : decode cX2_ticksToCool 5 = .ok (.ifCond .ne 5, 3) := by decide +kernel
theorem dX2_ticksToCool_8 : decode cX2_ticksToCool 8 = .ok (.iconst (-1), 1) := by decide +kernel
theorem dX2_ticksToCool_9 : decode cX2_ticksToCool 9 = .ok (.ireturn, 1) := by decide +kernel
theorem dX2_ticksToCool_10 : decode cX2_ticksToCool 10 = .ok (.aload_n 0, 1) := by decide +kernel
theorem dX2_ticksToCool_11 : decode cX2_ticksToCool 11 = .ok (.iload_n 1, 1) := by decide +kernel
theorem dX2_ticksToCool_12 : decode cX2_ticksToCool 12 = .ok (.invokevirtual 85, 3) := by decide +kernel
theorem dX2_ticksToCool_15 : decode cX2_ticksToCool 15 = .ok (.istore_n 2, 1) := by decide +kernel
theorem dX2_ticksToCool_16 : decode cX2_ticksToCool 16 = .ok (.iload_n 2, 1) := by decide +kernel
theorem dX2_ticksToCool_17 : decode cX2_ticksToCool 17 = .ok (.ifCond .ne 5, 3) := by decide +kernel
theorem dX2_ticksToCool_20 : decode cX2_ticksToCool 20 = .ok (.iconst 0, 1) := by decide +kernel
theorem dX2_ticksToCool_21 : decode cX2_ticksToCool 21 = .ok (.ireturn, 1) := by decide +kernel
theorem dX2_ticksToCool_22 : decode cX2_ticksToCool 22 = .ok (.iload_n 2, 1) := by decide +kernel
theorem dX2_ticksToCool_23 : decode cX2_ticksToCool 23 = .ok (.iconst 4, 1) := by decide +kernel
theorem dX2_ticksToCool_24 : decode cX2_ticksToCool 24 = .ok (.if_icmp .eq 6, 3) := by decide +kernel
theorem dX2_ticksToCool_27 : decode cX2_ticksToCool 27 = .ok (.bipush (-4), 2) := by decide +kernel
theorem dX2_ticksToCool_29 : decode cX2_ticksToCool 29 = .ok (.ireturn, 1) := by decide +kernel
theorem dX2_ticksToCool_30 : decode cX2_ticksToCool 30 = .ok (.aload_n 0, 1) := by decide +kernel
theorem dX2_ticksToCool_31 : decode cX2_ticksToCool 31 = .ok (.getfield 22, 3) := by decide +kernel
theorem dX2_ticksToCool_34 : decode cX2_ticksToCool 34 = .ok (.iconst 1, 1) := by decide +kernel
theorem dX2_ticksToCool_35 : decode cX2_ticksToCool 35 = .ok (.iaload, 1) := by decide +kernel
theorem dX2_ticksToCool_36 : decode cX2_ticksToCool 36 = .ok (.istore_n 3, 1) := by decide +kernel
theorem dX2_ticksToCool_37 : decode cX2_ticksToCool 37 = .ok (.iload_n 3, 1) := by decide +kernel
theorem dX2_ticksToCool_38 : decode cX2_ticksToCool 38 = .ok (.ifCond .gt 6, 3) := by decide +kernel
theorem dX2_ticksToCool_41 : decode cX2_ticksToCool 41 = .ok (.bipush (-5), 2) := by decide +kernel
theorem dX2_ticksToCool_43 : decode cX2_ticksToCool 43 = .ok (.ireturn, 1) := by decide +kernel
theorem dX2_ticksToCool_44 : decode cX2_ticksToCool 44 = .ok (.aload_n 0, 1) := by decide +kernel
theorem dX2_ticksToCool_45 : decode cX2_ticksToCool 45 = .ok (.getfield 13, 3) := by decide +kernel
theorem dX2_ticksToCool_48 : decode cX2_ticksToCool 48 = .ok (.iload_n 1, 1) := by decide +kernel
theorem dX2_ticksToCool_49 : decode cX2_ticksToCool 49 = .ok (.aaload, 1) := by decide +kernel
theorem dX2_ticksToCool_50 : decode cX2_ticksToCool 50 = .ok (.astore 4, 2) := by decide +kernel
theorem dX2_ticksToCool_52 : decode cX2_ticksToCool 52 = .ok (.aload_n 0, 1) := by decide +kernel
theorem dX2_ticksToCool_53 : decode cX2_ticksToCool 53 = .ok (.aload 4, 2) := by decide +kernel
theorem dX2_ticksToCool_55 : decode cX2_ticksToCool 55 = .ok (.invokevirtual 146, 3) := by decide +kernel
theorem dX2_ticksToCool_58 : decode cX2_ticksToCool 58 = .ok (.iload_n 3, 1) := by decide +kernel
theorem dX2_ticksToCool_59 : decode cX2_ticksToCool 59 = .ok (.iadd, 1) := by decide +kernel
theorem dX2_ticksToCool_60 : decode cX2_ticksToCool 60 = .ok (.iconst 1, 1) := by decide +kernel
theorem dX2_ticksToCool_61 : decode cX2_ticksToCool 61 = .ok (.isub, 1) := by decide +kernel
theorem dX2_ticksToCool_62 : decode cX2_ticksToCool 62 = .ok (.iload_n 3, 1) := by decide +kernel
theorem dX2_ticksToCool_63 : decode cX2_ticksToCool 63 = .ok (.idiv, 1) := by decide +kernel
theorem dX2_ticksToCool_64 : decode cX2_ticksToCool 64 = .ok (.aload_n 0, 1) := by decide +kernel
theorem dX2_ticksToCool_65 : decode cX2_ticksToCool 65 = .ok (.aload 4, 2) := by decide +kernel
theorem dX2_ticksToCool_67 : decode cX2_ticksToCool 67 = .ok (.invokevirtual 89, 3) := by decide +kernel
theorem dX2_ticksToCool_70 : decode cX2_ticksToCool 70 = .ok (.isub, 1) := by decide +kernel
theorem dX2_ticksToCool_71 : decode cX2_ticksToCool 71 = .ok (.ireturn, 1) := by decide +kernel
theorem dX2_bestShape_0 : decode cX2_bestShape 0 = .ok (.bipush (-5), 2) := by decide +kernel
theorem dX2_bestShape_2 : decode cX2_bestShape 2 = .ok (.istore_n 1, 1) := by decide +kernel
theorem dX2_bestShape_3 : decode cX2_bestShape 3 = .ok (.iconst 0, 1) := by decide +kernel
theorem dX2_bestShape_4 : decode cX2_bestShape 4 = .ok (.istore_n 2, 1) := by decide +kernel
theorem dX2_bestShape_5 : decode cX2_bestShape 5 = .ok (.iconst 0, 1) := by decide +kernel
theorem dX2_bestShape_6 : decode cX2_bestShape 6 = .ok (.istore_n 3, 1) := by decide +kernel
theorem dX2_bestShape_7 : decode cX2_bestShape 7 = .ok (.iload_n 3, 1) := by decide +kernel
theorem dX2_bestShape_8 : decode cX2_bestShape 8 = .ok (.aload_n 0, 1) := by decide +kernel
theorem dX2_bestShape_9 : decode cX2_bestShape 9 = .ok (.getfield 25, 3) := by decide +kernel
theorem dX2_bestShape_12 : decode cX2_bestShape 12 = .ok (.if_icmp .ge 41, 3) := by decide +kernel
theorem dX2_bestShape_15 : decode cX2_bestShape 15 = .ok (.aload_n 0, 1) := by decide +kernel
theorem dX2_bestShape_16 : decode cX2_bestShape 16 = .ok (.iload_n 3, 1) := by decide +kernel
theorem dX2_bestShape_17 : decode cX2_bestShape 17 = .ok (.invokevirtual 85, 3) := by decide +kernel
theorem dX2_bestShape_20 : decode cX2_bestShape 20 = .ok (.ifCond .ne 27, 3) := by decide +kernel
theorem dX2_bestShape_23 : decode cX2_bestShape 23 = .ok (.aload_n 0, 1) := by decide +kernel
theorem dX2_bestShape_24 : decode cX2_bestShape 24 = .ok (.iload_n 3, 1) := by decide +kernel
theorem dX2_bestShape_25 : decode cX2_bestShape 25 = .ok (.invokevirtual 149, 3) := by decide +kernel
theorem dX2_bestShape_28 : decode cX2_bestShape 28 = .ok (.istore 4, 2) := by decide +kernel
theorem dX2_bestShape_30 : decode cX2_bestShape 30 = .ok (.iload_n 1, 1) := by decide +kernel
theorem dX2_bestShape_31 : decode cX2_bestShape 31 = .ok (.bipush (-5), 2) := by decide +kernel
theorem dX2_bestShape_33 : decode cX2_bestShape 33 = .ok (.if_icmp .eq 9, 3) := by decide +kernel
theorem dX2_bestShape_36 : decode cX2_bestShape 36 = .ok (.iload 4, 2) := by decide +kernel
theorem dX2_bestShape_38 : decode cX2_bestShape 38 = .ok (.iload_n 2, 1) := by decide +kernel
theorem dX2_bestShape_39 : decode cX2_bestShape 39 = .ok (.if_icmp .ge 8, 3) := by decide +kernel
theorem dX2_bestShape_42 : decode cX2_bestShape 42 = .ok (.iload_n 3, 1) := by decide +kernel
theorem dX2_bestShape_43 : decode cX2_bestShape 43 = .ok (.istore_n 1, 1) := by decide +kernel
theorem dX2_bestShape_44 : decode cX2_bestShape 44 = .ok (.iload 4, 2) := by decide +kernel
theorem dX2_bestShape_46 : decode cX2_bestShape 46 = .ok (.istore_n 2, 1) := by decide +kernel
theorem dX2_bestShape_47 : decode cX2_bestShape 47 = .ok (.iinc 3 1, 3) := by decide +kernel
theorem dX2_bestShape_50 : decode cX2_bestShape 50 = .ok (.goto (-43), 3) := by decide +kernel
theorem dX2_bestShape_53 : decode cX2_bestShape 53 = .ok (.iload_n 1, 1) := by decide +kernel
theorem dX2_bestShape_54 : decode cX2_bestShape 54 = .ok (.ireturn, 1) := by decide +kernel
theorem dX2_fewestTicksToCool_0 : decode cX2_fewestTicksToCool 0 = .ok (.bipush (-5), 2) := by decide +kernel
theorem dX2_fewestTicksToCool_2 : decode cX2_fewestTicksToCool 2 = .ok (.istore_n 1, 1) := by decide +kernel
theorem dX2_fewestTicksToCool_3 : decode cX2_fewestTicksToCool 3 = .ok (.iconst 0, 1) := by decide +kernel
theorem dX2_fewestTicksToCool_4 : decode cX2_fewestTicksToCool 4 = .ok (.istore_n 2, 1) := by decide +kernel
theorem dX2_fewestTicksToCool_5 : decode cX2_fewestTicksToCool 5 = .ok (.iload_n 2, 1) := by decide +kernel
theorem dX2_fewestTicksToCool_6 : decode cX2_fewestTicksToCool 6 = .ok (.aload_n 0, 1) := by decide +kernel
theorem dX2_fewestTicksToCool_7 : decode cX2_fewestTicksToCool 7 = .ok (.getfield 25, 3) := by decide +kernel
theorem dX2_fewestTicksToCool_10 : decode cX2_fewestTicksToCool 10 = .ok (.if_icmp .ge 32, 3) := by decide +kernel
theorem dX2_fewestTicksToCool_13 : decode cX2_fewestTicksToCool 13 = .ok (.aload_n 0, 1) := by decide +kernel
theorem dX2_fewestTicksToCool_14 : decode cX2_fewestTicksToCool 14 = .ok (.iload_n 2, 1) := by decide +kernel
theorem dX2_fewestTicksToCool_15 : decode cX2_fewestTicksToCool 15 = .ok (.invokevirtual 152, 3) := by decide +kernel
theorem dX2_fewestTicksToCool_18 : decode cX2_fewestTicksToCool 18 = .ok (.istore_n 3, 1) := by decide +kernel
theorem dX2_fewestTicksToCool_19 : decode cX2_fewestTicksToCool 19 = .ok (.iload_n 3, 1) := by decide +kernel
theorem dX2_fewestTicksToCool_20 : decode cX2_fewestTicksToCool 20 = .ok (.ifCond .lt 16, 3) := by decide +kernel
theorem dX2_fewestTicksToCool_23 : decode cX2_fewestTicksToCool 23 = .ok (.iload_n 1, 1) := by decide +kernel
theorem dX2_fewestTicksToCool_24 : decode cX2_fewestTicksToCool 24 = .ok (.bipush (-5), 2) := by decide +kernel
theorem dX2_fewestTicksToCool_26 : decode cX2_fewestTicksToCool 26 = .ok (.if_icmp .eq 8, 3) := by decide +kernel
theorem dX2_fewestTicksToCool_29 : decode cX2_fewestTicksToCool 29 = .ok (.iload_n 3, 1) := by decide +kernel
theorem dX2_fewestTicksToCool_30 : decode cX2_fewestTicksToCool 30 = .ok (.iload_n 1, 1) := by decide +kernel
theorem dX2_fewestTicksToCool_31 : decode cX2_fewestTicksToCool 31 = .ok (.if_icmp .ge 5, 3) := by decide +kernel
theorem dX2_fewestTicksToCool_34 : decode cX2_fewestTicksToCool 34 = .ok (.iload_n 3, 1) := by decide +kernel
theorem dX2_fewestTicksToCool_35 : decode cX2_fewestTicksToCool 35 = .ok (.istore_n 1, 1) := by decide +kernel
theorem dX2_fewestTicksToCool_36 : decode cX2_fewestTicksToCool 36 = .ok (.iinc 2 1, 3) := by decide +kernel
theorem dX2_fewestTicksToCool_39 : decode cX2_fewestTicksToCool 39 = .ok (.goto (-34), 3) := by decide +kernel
theorem dX2_fewestTicksToCool_42 : decode cX2_fewestTicksToCool 42 = .ok (.iload_n 1, 1) := by decide +kernel
theorem dX2_fewestTicksToCool_43 : decode cX2_fewestTicksToCool 43 = .ok (.ireturn, 1) := by decide +kernel
theorem dX2_cutNext_0 : decode cX2_cutNext 0 = .ok (.aload_n 0, 1) := by decide +kernel
theorem dX2_cutNext_1 : decode cX2_cutNext 1 = .ok (.invokevirtual 155, 3) := by decide +kernel
theorem dX2_cutNext_4 : decode cX2_cutNext 4 = .ok (.istore_n 1, 1) := by decide +kernel
theorem dX2_cutNext_5 : decode cX2_cutNext 5 = .ok (.iload_n 1, 1) := by decide +kernel
theorem dX2_cutNext_6 : decode cX2_cutNext 6 = .ok (.bipush (-5), 2) := by decide +kernel
theorem dX2_cutNext_8 : decode cX2_cutNext 8 = .ok (.if_icmp .ne 27, 3) := by decide +kernel
theorem dX2_cutNext_11 : decode cX2_cutNext 11 = .ok (.aload_n 0, 1) := by decide +kernel
theorem dX2_cutNext_12 : decode cX2_cutNext 12 = .ok (.invokevirtual 158, 3) := by decide +kernel
theorem dX2_cutNext_15 : decode cX2_cutNext 15 = .ok (.istore_n 2, 1) := by decide +kernel
theorem dX2_cutNext_16 : decode cX2_cutNext 16 = .ok (.iload_n 2, 1) := by decide +kernel
theorem dX2_cutNext_17 : decode cX2_cutNext 17 = .ok (.bipush (-5), 2) := by decide +kernel
theorem dX2_cutNext_19 : decode cX2_cutNext 19 = .ok (.if_icmp .ne 6, 3) := by decide +kernel
theorem dX2_cutNext_22 : decode cX2_cutNext 22 = .ok (.bipush (-5), 2) := by decide +kernel
theorem dX2_cutNext_24 : decode cX2_cutNext 24 = .ok (.ireturn, 1) := by decide +kernel
theorem dX2_cutNext_25 : decode cX2_cutNext 25 = .ok (.aload_n 0, 1) := by decide +kernel
theorem dX2_cutNext_26 : decode cX2_cutNext 26 = .ok (.iload_n 2, 1) := by decide +kernel
theorem dX2_cutNext_27 : decode cX2_cutNext 27 = .ok (.invokevirtual 93, 3) := by decide +kernel
theorem dX2_cutNext_30 : decode cX2_cutNext 30 = .ok (.aload_n 0, 1) := by decide +kernel
theorem dX2_cutNext_31 : decode cX2_cutNext 31 = .ok (.invokevirtual 155, 3) := by decide +kernel
theorem dX2_cutNext_34 : decode cX2_cutNext 34 = .ok (.istore_n 1, 1) := by decide +kernel
theorem dX2_cutNext_35 : decode cX2_cutNext 35 = .ok (.iload_n 1, 1) := by decide +kernel
theorem dX2_cutNext_36 : decode cX2_cutNext 36 = .ok (.bipush (-5), 2) := by decide +kernel
theorem dX2_cutNext_38 : decode cX2_cutNext 38 = .ok (.if_icmp .eq 9, 3) := by decide +kernel
theorem dX2_cutNext_41 : decode cX2_cutNext 41 = .ok (.aload_n 0, 1) := by decide +kernel
theorem dX2_cutNext_42 : decode cX2_cutNext 42 = .ok (.iload_n 1, 1) := by decide +kernel
theorem dX2_cutNext_43 : decode cX2_cutNext 43 = .ok (.invokevirtual 161, 3) := by decide +kernel
theorem dX2_cutNext_46 : decode cX2_cutNext 46 = .ok (.pop, 1) := by decide +kernel
theorem dX2_cutNext_47 : decode cX2_cutNext 47 = .ok (.iload_n 1, 1) := by decide +kernel
theorem dX2_cutNext_48 : decode cX2_cutNext 48 = .ok (.ireturn, 1) := by decide +kernel
theorem dX2_heatIn_0 : decode cX2_heatIn 0 = .ok (.iload_n 1, 1) := by decide +kernel
theorem dX2_heatIn_1 : decode cX2_heatIn 1 = .ok (.iconst 0, 1) := by decide +kernel
theorem dX2_heatIn_2 : decode cX2_heatIn 2 = .ok (.bipush 11, 2) := by decide +kernel
theorem dX2_heatIn_4 : decode cX2_heatIn 4 = .ok (.invokestatic 51, 3) := by decide +kernel
theorem dX2_heatIn_7 : decode cX2_heatIn 7 = .ok (.ifCond .eq 12, 3) := by decide +kernel
theorem dX2_heatIn_10 : decode cX2_heatIn 10 = .ok (.aload_n 0, 1) := by decide +kernel
theorem dX2_heatIn_11 : decode cX2_heatIn 11 = .ok (.getfield 18, 3) := by decide +kernel
theorem dX2_heatIn_14 : decode cX2_heatIn 14 = .ok (.iload_n 1, 1) := by decide +kernel
theorem dX2_heatIn_15 : decode cX2_heatIn 15 = .ok (.iaload, 1) := by decide +kernel
theorem dX2_heatIn_16 : decode cX2_heatIn 16 = .ok (.goto 4, 3) := by decide +kernel
theorem dX2_heatIn_19 : decode cX2_heatIn 19 = .ok (.iconst (-1), 1) := by decide +kernel
theorem dX2_heatIn_20 : decode cX2_heatIn 20 = .ok (.ireturn, 1) := by decide +kernel
theorem dX2_greatestHeat_0 : decode cX2_greatestHeat 0 = .ok (.aload_n 0, 1) := by decide +kernel
theorem dX2_greatestHeat_1 : decode cX2_greatestHeat 1 = .ok (.getfield 18, 3) := by decide +kernel
theorem dX2_greatestHeat_4 : decode cX2_greatestHeat 4 = .ok (.aload_n 0, 1) := by decide +kernel
theorem dX2_greatestHeat_5 : decode cX2_greatestHeat 5 = .ok (.invokevirtual 164, 3) := by decide +kernel
theorem dX2_greatestHeat_8 : decode cX2_greatestHeat 8 = .ok (.iaload, 1) := by decide +kernel
theorem dX2_greatestHeat_9 : decode cX2_greatestHeat 9 = .ok (.ireturn, 1) := by decide +kernel
theorem dX2_hottestSquare_0 : decode cX2_hottestSquare 0 = .ok (.iconst 0, 1) := by decide +kernel
theorem dX2_hottestSquare_1 : decode cX2_hottestSquare 1 = .ok (.istore_n 1, 1) := by decide +kernel
theorem dX2_hottestSquare_2 : decode cX2_hottestSquare 2 = .ok (.iconst 1, 1) := by decide +kernel
theorem dX2_hottestSquare_3 : decode cX2_hottestSquare 3 = .ok (.istore_n 2, 1) := by decide +kernel
theorem dX2_hottestSquare_4 : decode cX2_hottestSquare 4 = .ok (.iload_n 2, 1) := by decide +kernel
theorem dX2_hottestSquare_5 : decode cX2_hottestSquare 5 = .ok (.bipush 12, 2) := by decide +kernel
theorem dX2_hottestSquare_7 : decode cX2_hottestSquare 7 = .ok (.if_icmp .ge 26, 3) := by decide +kernel
theorem dX2_hottestSquare_10 : decode cX2_hottestSquare 10 = .ok (.aload_n 0, 1) := by decide +kernel
theorem dX2_hottestSquare_11 : decode cX2_hottestSquare 11 = .ok (.getfield 18, 3) := by decide +kernel
theorem dX2_hottestSquare_14 : decode cX2_hottestSquare 14 = .ok (.iload_n 2, 1) := by decide +kernel
theorem dX2_hottestSquare_15 : decode cX2_hottestSquare 15 = .ok (.iaload, 1) := by decide +kernel
theorem dX2_hottestSquare_16 : decode cX2_hottestSquare 16 = .ok (.aload_n 0, 1) := by decide +kernel
theorem dX2_hottestSquare_17 : decode cX2_hottestSquare 17 = .ok (.getfield 18, 3) := by decide +kernel
theorem dX2_hottestSquare_20 : decode cX2_hottestSquare 20 = .ok (.iload_n 1, 1) := by decide +kernel
theorem dX2_hottestSquare_21 : decode cX2_hottestSquare 21 = .ok (.iaload, 1) := by decide +kernel
theorem dX2_hottestSquare_22 : decode cX2_hottestSquare 22 = .ok (.if_icmp .le 5, 3) := by decide +kernel
theorem dX2_hottestSquare_25 : decode cX2_hottestSquare 25 = .ok (.iload_n 2, 1) := by decide +kernel
theorem dX2_hottestSquare_26 : decode cX2_hottestSquare 26 = .ok (.istore_n 1, 1) := by decide +kernel
theorem dX2_hottestSquare_27 : decode cX2_hottestSquare 27 = .ok (.iinc 2 1, 3) := by decide +kernel
theorem dX2_hottestSquare_30 : decode cX2_hottestSquare 30 = .ok (.goto (-26), 3) := by decide +kernel
theorem dX2_hottestSquare_33 : decode cX2_hottestSquare 33 = .ok (.iload_n 1, 1) := by decide +kernel
theorem dX2_hottestSquare_34 : decode cX2_hottestSquare 34 = .ok (.ireturn, 1) := by decide +kernel
theorem dX2_allHeat_0 : decode cX2_allHeat 0 = .ok (.iconst 0, 1) := by decide +kernel
theorem dX2_allHeat_1 : decode cX2_allHeat 1 = .ok (.istore_n 1, 1) := by decide +kernel
theorem dX2_allHeat_2 : decode cX2_allHeat 2 = .ok (.iconst 0, 1) := by decide +kernel
theorem dX2_allHeat_3 : decode cX2_allHeat 3 = .ok (.istore_n 2, 1) := by decide +kernel
theorem dX2_allHeat_4 : decode cX2_allHeat 4 = .ok (.iload_n 2, 1) := by decide +kernel
theorem dX2_allHeat_5 : decode cX2_allHeat 5 = .ok (.bipush 12, 2) := by decide +kernel
theorem dX2_allHeat_7 : decode cX2_allHeat 7 = .ok (.if_icmp .ge 18, 3) := by decide +kernel
theorem dX2_allHeat_10 : decode cX2_allHeat 10 = .ok (.iload_n 1, 1) := by decide +kernel
theorem dX2_allHeat_11 : decode cX2_allHeat 11 = .ok (.aload_n 0, 1) := by decide +kernel
theorem dX2_allHeat_12 : decode cX2_allHeat 12 = .ok (.getfield 18, 3) := by decide +kernel
theorem dX2_allHeat_15 : decode cX2_allHeat 15 = .ok (.iload_n 2, 1) := by decide +kernel
theorem dX2_allHeat_16 : decode cX2_allHeat 16 = .ok (.iaload, 1) := by decide +kernel
theorem dX2_allHeat_17 : decode cX2_allHeat 17 = .ok (.iadd, 1) := by decide +kernel
theorem dX2_allHeat_18 : decode cX2_allHeat 18 = .ok (.istore_n 1, 1) := by decide +kernel
theorem dX2_allHeat_19 : decode cX2_allHeat 19 = .ok (.iinc 2 1, 3) := by decide +kernel
theorem dX2_allHeat_22 : decode cX2_allHeat 22 = .ok (.goto (-18), 3) := by decide +kernel
theorem dX2_allHeat_25 : decode cX2_allHeat 25 = .ok (.iload_n 1, 1) := by decide +kernel
theorem dX2_allHeat_26 : decode cX2_allHeat 26 = .ok (.ireturn, 1) := by decide +kernel
theorem dX2_shapesThatAre_0 : decode cX2_shapesThatAre 0 = .ok (.iconst 0, 1) := by decide +kernel
theorem dX2_shapesThatAre_1 : decode cX2_shapesThatAre 1 = .ok (.istore_n 2, 1) := by decide +kernel
theorem dX2_shapesThatAre_2 : decode cX2_shapesThatAre 2 = .ok (.iconst 0, 1) := by decide +kernel
theorem dX2_shapesThatAre_3 : decode cX2_shapesThatAre 3 = .ok (.istore_n 3, 1) := by decide +kernel
theorem dX2_shapesThatAre_4 : decode cX2_shapesThatAre 4 = .ok (.iload_n 3, 1) := by decide +kernel
theorem dX2_shapesThatAre_5 : decode cX2_shapesThatAre 5 = .ok (.aload_n 0, 1) := by decide +kernel
theorem dX2_shapesThatAre_6 : decode cX2_shapesThatAre 6 = .ok (.getfield 25, 3) := by decide +kernel
theorem dX2_shapesThatAre_9 : decode cX2_shapesThatAre 9 = .ok (.if_icmp .ge 25, 3) := by decide +kernel
theorem dX2_shapesThatAre_12 : decode cX2_shapesThatAre 12 = .ok (.aload_n 0, 1) := by decide +kernel
theorem dX2_shapesThatAre_13 : decode cX2_shapesThatAre 13 = .ok (.getfield 13, 3) := by decide +kernel
theorem dX2_shapesThatAre_16 : decode cX2_shapesThatAre 16 = .ok (.iload_n 3, 1) := by decide +kernel
theorem dX2_shapesThatAre_17 : decode cX2_shapesThatAre 17 = .ok (.aaload, 1) := by decide +kernel
theorem dX2_shapesThatAre_18 : decode cX2_shapesThatAre 18 = .ok (.getfield 66, 3) := by decide +kernel
theorem dX2_shapesThatAre_21 : decode cX2_shapesThatAre 21 = .ok (.iload_n 1, 1) := by decide +kernel
theorem dX2_shapesThatAre_22 : decode cX2_shapesThatAre 22 = .ok (.if_icmp .ne 6, 3) := by decide +kernel
theorem dX2_shapesThatAre_25 : decode cX2_shapesThatAre 25 = .ok (.iinc 2 1, 3) := by decide +kernel
theorem dX2_shapesThatAre_28 : decode cX2_shapesThatAre 28 = .ok (.iinc 3 1, 3) := by decide +kernel
theorem dX2_shapesThatAre_31 : decode cX2_shapesThatAre 31 = .ok (.goto (-27), 3) := by decide +kernel
theorem dX2_shapesThatAre_34 : decode cX2_shapesThatAre 34 = .ok (.iload_n 2, 1) := by decide +kernel
theorem dX2_shapesThatAre_35 : decode cX2_shapesThatAre 35 = .ok (.ireturn, 1) := by decide +kernel
theorem dX2_shapesThatTilted_0 : decode cX2_shapesThatTilted 0 = .ok (.iconst 0, 1) := by decide +kernel
theorem dX2_shapesThatTilted_1 : decode cX2_shapesThatTilted 1 = .ok (.istore_n 1, 1) := by decide +kernel
theorem dX2_shapesThatTilted_2 : decode cX2_shapesThatTilted 2 = .ok (.iconst 0, 1) := by decide +kernel
theorem dX2_shapesThatTilted_3 : decode cX2_shapesThatTilted 3 = .ok (.istore_n 2, 1) := by decide +kernel
theorem dX2_shapesThatTilted_4 : decode cX2_shapesThatTilted 4 = .ok (.iload_n 2, 1) := by decide +kernel
theorem dX2_shapesThatTilted_5 : decode cX2_shapesThatTilted 5 = .ok (.aload_n 0, 1) := by decide +kernel
theorem dX2_shapesThatTilted_6 : decode cX2_shapesThatTilted 6 = .ok (.getfield 25, 3) := by decide +kernel
theorem dX2_shapesThatTilted_9 : decode cX2_shapesThatTilted 9 = .ok (.if_icmp .ge 21, 3) := by decide +kernel
theorem dX2_shapesThatTilted_12 : decode cX2_shapesThatTilted 12 = .ok (.iload_n 1, 1) := by decide +kernel
theorem dX2_shapesThatTilted_13 : decode cX2_shapesThatTilted 13 = .ok (.aload_n 0, 1) := by decide +kernel
theorem dX2_shapesThatTilted_14 : decode cX2_shapesThatTilted 14 = .ok (.getfield 13, 3) := by decide +kernel
theorem dX2_shapesThatTilted_17 : decode cX2_shapesThatTilted 17 = .ok (.iload_n 2, 1) := by decide +kernel
theorem dX2_shapesThatTilted_18 : decode cX2_shapesThatTilted 18 = .ok (.aaload, 1) := by decide +kernel
theorem dX2_shapesThatTilted_19 : decode cX2_shapesThatTilted 19 = .ok (.getfield 119, 3) := by decide +kernel
theorem dX2_shapesThatTilted_22 : decode cX2_shapesThatTilted 22 = .ok (.iadd, 1) := by decide +kernel
theorem dX2_shapesThatTilted_23 : decode cX2_shapesThatTilted 23 = .ok (.istore_n 1, 1) := by decide +kernel
theorem dX2_shapesThatTilted_24 : decode cX2_shapesThatTilted 24 = .ok (.iinc 2 1, 3) := by decide +kernel
theorem dX2_shapesThatTilted_27 : decode cX2_shapesThatTilted 27 = .ok (.goto (-23), 3) := by decide +kernel
theorem dX2_shapesThatTilted_30 : decode cX2_shapesThatTilted 30 = .ok (.iload_n 1, 1) := by decide +kernel
theorem dX2_shapesThatTilted_31 : decode cX2_shapesThatTilted 31 = .ok (.ireturn, 1) := by decide +kernel
theorem dX2_outerOf_0 : decode cX2_outerOf 0 = .ok (.bipush (-5), 2) := by decide +kernel
theorem dX2_outerOf_2 : decode cX2_outerOf 2 = .ok (.istore_n 2, 1) := by decide +kernel
theorem dX2_outerOf_3 : decode cX2_outerOf 3 = .ok (.iconst 0, 1) := by decide +kernel
theorem dX2_outerOf_4 : decode cX2_outerOf 4 = .ok (.istore_n 3, 1) := by decide +kernel
theorem dX2_outerOf_5 : decode cX2_outerOf 5 = .ok (.iload_n 3, 1) := by decide +kernel
theorem dX2_outerOf_6 : decode cX2_outerOf 6 = .ok (.aload_n 0, 1) := by decide +kernel
theorem dX2_outerOf_7 : decode cX2_outerOf 7 = .ok (.getfield 25, 3) := by decide +kernel
theorem dX2_outerOf_10 : decode cX2_outerOf 10 = .ok (.if_icmp .ge 48, 3) := by decide +kernel
theorem dX2_outerOf_13 : decode cX2_outerOf 13 = .ok (.aload_n 1, 1) := by decide +kernel
theorem dX2_outerOf_14 : decode cX2_outerOf 14 = .ok (.aload_n 0, 1) := by decide +kernel
theorem dX2_outerOf_15 : decode cX2_outerOf 15 = .ok (.getfield 13, 3) := by decide +kernel
theorem dX2_outerOf_18 : decode cX2_outerOf 18 = .ok (.iload_n 3, 1) := by decide +kernel
theorem dX2_outerOf_19 : decode cX2_outerOf 19 = .ok (.aaload, 1) := by decide +kernel
theorem dX2_outerOf_20 : decode cX2_outerOf 20 = .ok (.invokevirtual 63, 3) := by decide +kernel
theorem dX2_outerOf_23 : decode cX2_outerOf 23 = .ok (.ifCond .eq 29, 3) := by decide +kernel
theorem dX2_outerOf_26 : decode cX2_outerOf 26 = .ok (.iload_n 2, 1) := by decide +kernel
theorem dX2_outerOf_27 : decode cX2_outerOf 27 = .ok (.bipush (-5), 2) := by decide +kernel
theorem dX2_outerOf_29 : decode cX2_outerOf 29 = .ok (.if_icmp .eq 21, 3) := by decide +kernel
theorem dX2_outerOf_32 : decode cX2_outerOf 32 = .ok (.aload_n 0, 1) := by decide +kernel
theorem dX2_outerOf_33 : decode cX2_outerOf 33 = .ok (.getfield 13, 3) := by decide +kernel
theorem dX2_outerOf_36 : decode cX2_outerOf 36 = .ok (.iload_n 3, 1) := by decide +kernel
theorem dX2_outerOf_37 : decode cX2_outerOf 37 = .ok (.aaload, 1) := by decide +kernel
theorem dX2_outerOf_38 : decode cX2_outerOf 38 = .ok (.aload_n 0, 1) := by decide +kernel
theorem dX2_outerOf_39 : decode cX2_outerOf 39 = .ok (.getfield 13, 3) := by decide +kernel
theorem dX2_outerOf_42 : decode cX2_outerOf 42 = .ok (.iload_n 2, 1) := by decide +kernel
theorem dX2_outerOf_43 : decode cX2_outerOf 43 = .ok (.aaload, 1) := by decide +kernel
theorem dX2_outerOf_44 : decode cX2_outerOf 44 = .ok (.invokevirtual 63, 3) := by decide +kernel
theorem dX2_outerOf_47 : decode cX2_outerOf 47 = .ok (.ifCond .eq 5, 3) := by decide +kernel
theorem dX2_outerOf_50 : decode cX2_outerOf 50 = .ok (.iload_n 3, 1) := by decide +kernel
theorem dX2_outerOf_51 : decode cX2_outerOf 51 = .ok (.istore_n 2, 1) := by decide +kernel
theorem dX2_outerOf_52 : decode cX2_outerOf 52 = .ok (.iinc 3 1, 3) := by decide +kernel
theorem dX2_outerOf_55 : decode cX2_outerOf 55 = .ok (.goto (-50), 3) := by decide +kernel
theorem dX2_outerOf_58 : decode cX2_outerOf 58 = .ok (.iload_n 2, 1) := by decide +kernel
theorem dX2_outerOf_59 : decode cX2_outerOf 59 = .ok (.ireturn, 1) := by decide +kernel
theorem dX2_setInside_0 : decode cX2_setInside 0 = .ok (.iconst 0, 1) := by decide +kernel
theorem dX2_setInside_1 : decode cX2_setInside 1 = .ok (.istore_n 2, 1) := by decide +kernel
theorem dX2_setInside_2 : decode cX2_setInside 2 = .ok (.iconst 0, 1) := by decide +kernel
theorem dX2_setInside_3 : decode cX2_setInside 3 = .ok (.istore_n 3, 1) := by decide +kernel
theorem dX2_setInside_4 : decode cX2_setInside 4 = .ok (.iload_n 3, 1) := by decide +kernel
theorem dX2_setInside_5 : decode cX2_setInside 5 = .ok (.aload_n 0, 1) := by decide +kernel
theorem dX2_setInside_6 : decode cX2_setInside 6 = .ok (.getfield 25, 3) := by decide +kernel
theorem dX2_setInside_9 : decode cX2_setInside 9 = .ok (.if_icmp .ge 28, 3) := by decide +kernel
theorem dX2_setInside_12 : decode cX2_setInside 12 = .ok (.aload_n 0, 1) := by decide +kernel
theorem dX2_setInside_13 : decode cX2_setInside 13 = .ok (.getfield 13, 3) := by decide +kernel
theorem dX2_setInside_16 : decode cX2_setInside 16 = .ok (.iload_n 3, 1) := by decide +kernel
theorem dX2_setInside_17 : decode cX2_setInside 17 = .ok (.aaload, 1) := by decide +kernel
theorem dX2_setInside_18 : decode cX2_setInside 18 = .ok (.aload_n 1, 1) := by decide +kernel
theorem dX2_setInside_19 : decode cX2_setInside 19 = .ok (.invokevirtual 63, 3) := by decide +kernel
theorem dX2_setInside_22 : decode cX2_setInside 22 = .ok (.ifCond .eq 9, 3) := by decide +kernel
theorem dX2_setInside_25 : decode cX2_setInside 25 = .ok (.iload_n 2, 1) := by decide +kernel
theorem dX2_setInside_26 : decode cX2_setInside 26 = .ok (.iconst 1, 1) := by decide +kernel
theorem dX2_setInside_27 : decode cX2_setInside 27 = .ok (.iload_n 3, 1) := by decide +kernel
theorem dX2_setInside_28 : decode cX2_setInside 28 = .ok (.ishl, 1) := by decide +kernel
theorem dX2_setInside_29 : decode cX2_setInside 29 = .ok (.ior, 1) := by decide +kernel
theorem dX2_setInside_30 : decode cX2_setInside 30 = .ok (.istore_n 2, 1) := by decide +kernel
theorem dX2_setInside_31 : decode cX2_setInside 31 = .ok (.iinc 3 1, 3) := by decide +kernel
theorem dX2_setInside_34 : decode cX2_setInside 34 = .ok (.goto (-30), 3) := by decide +kernel
theorem dX2_setInside_37 : decode cX2_setInside 37 = .ok (.iload_n 2, 1) := by decide +kernel
theorem dX2_setInside_38 : decode cX2_setInside 38 = .ok (.ireturn, 1) := by decide +kernel
theorem dX2_factOfShape_0 : decode cX2_factOfShape 0 = .ok (.aload_n 0, 1) := by decide +kernel
theorem dX2_factOfShape_1 : decode cX2_factOfShape 1 = .ok (.iload_n 1, 1) := by decide +kernel
theorem dX2_factOfShape_2 : decode cX2_factOfShape 2 = .ok (.invokevirtual 72, 3) := by decide +kernel
theorem dX2_factOfShape_5 : decode cX2_factOfShape 5 = .ok (.ifCond .ne 5, 3) := by decide +kernel
theorem dX2_factOfShape_8 : decode cX2_factOfShape 8 = .ok (.iconst (-1), 1) := by decide +kernel
theorem dX2_factOfShape_9 : decode cX2_factOfShape 9 = .ok (.ireturn, 1) := by decide +kernel
theorem dX2_factOfShape_10 : decode cX2_factOfShape 10 = .ok (.aload_n 0, 1) := by decide +kernel
theorem dX2_factOfShape_11 : decode cX2_factOfShape 11 = .ok (.getfield 13, 3) := by decide +kernel
theorem dX2_factOfShape_14 : decode cX2_factOfShape 14 = .ok (.iload_n 1, 1) := by decide +kernel
theorem dX2_factOfShape_15 : decode cX2_factOfShape 15 = .ok (.aaload, 1) := by decide +kernel
theorem dX2_factOfShape_16 : decode cX2_factOfShape 16 = .ok (.astore_n 3, 1) := by decide +kernel
theorem dX2_factOfShape_17 : decode cX2_factOfShape 17 = .ok (.iload_n 2, 1) := by decide +kernel
theorem dX2_factOfShape_18 : decode cX2_factOfShape 18 = .ok (.tableswitch 115 0 10 #[58, 63, 68, 73, 78, 83, 88, 94, 100, 105, 110], 58) := by decide +kernel
theorem dX2_factOfShape_76 : decode cX2_factOfShape 76 = .ok (.aload_n 3, 1) := by decide +kernel
theorem dX2_factOfShape_77 : decode cX2_factOfShape 77 = .ok (.getfield 167, 3) := by decide +kernel
theorem dX2_factOfShape_80 : decode cX2_factOfShape 80 = .ok (.ireturn, 1) := by decide +kernel
theorem dX2_factOfShape_81 : decode cX2_factOfShape 81 = .ok (.aload_n 3, 1) := by decide +kernel
theorem dX2_factOfShape_82 : decode cX2_factOfShape 82 = .ok (.getfield 170, 3) := by decide +kernel
theorem dX2_factOfShape_85 : decode cX2_factOfShape 85 = .ok (.ireturn, 1) := by decide +kernel
theorem dX2_factOfShape_86 : decode cX2_factOfShape 86 = .ok (.aload_n 3, 1) := by decide +kernel
theorem dX2_factOfShape_87 : decode cX2_factOfShape 87 = .ok (.getfield 173, 3) := by decide +kernel
theorem dX2_factOfShape_90 : decode cX2_factOfShape 90 = .ok (.ireturn, 1) := by decide +kernel
theorem dX2_factOfShape_91 : decode cX2_factOfShape 91 = .ok (.aload_n 3, 1) := by decide +kernel
theorem dX2_factOfShape_92 : decode cX2_factOfShape 92 = .ok (.getfield 176, 3) := by decide +kernel
theorem dX2_factOfShape_95 : decode cX2_factOfShape 95 = .ok (.ireturn, 1) := by decide +kernel
theorem dX2_factOfShape_96 : decode cX2_factOfShape 96 = .ok (.aload_n 3, 1) := by decide +kernel
theorem dX2_factOfShape_97 : decode cX2_factOfShape 97 = .ok (.getfield 76, 3) := by decide +kernel
theorem dX2_factOfShape_100 : decode cX2_factOfShape 100 = .ok (.ireturn, 1) := by decide +kernel
theorem dX2_factOfShape_101 : decode cX2_factOfShape 101 = .ok (.aload_n 3, 1) := by decide +kernel
theorem dX2_factOfShape_102 : decode cX2_factOfShape 102 = .ok (.getfield 66, 3) := by decide +kernel
theorem dX2_factOfShape_105 : decode cX2_factOfShape 105 = .ok (.ireturn, 1) := by decide +kernel
theorem dX2_factOfShape_106 : decode cX2_factOfShape 106 = .ok (.aload_n 0, 1) := by decide +kernel
theorem dX2_factOfShape_107 : decode cX2_factOfShape 107 = .ok (.aload_n 3, 1) := by decide +kernel
theorem dX2_factOfShape_108 : decode cX2_factOfShape 108 = .ok (.invokevirtual 179, 3) := by decide +kernel
theorem dX2_factOfShape_111 : decode cX2_factOfShape 111 = .ok (.ireturn, 1) := by decide +kernel
theorem dX2_factOfShape_112 : decode cX2_factOfShape 112 = .ok (.aload_n 0, 1) := by decide +kernel
theorem dX2_factOfShape_113 : decode cX2_factOfShape 113 = .ok (.aload_n 3, 1) := by decide +kernel
theorem dX2_factOfShape_114 : decode cX2_factOfShape 114 = .ok (.invokevirtual 182, 3) := by decide +kernel
theorem dX2_factOfShape_117 : decode cX2_factOfShape 117 = .ok (.ireturn, 1) := by decide +kernel
theorem dX2_factOfShape_118 : decode cX2_factOfShape 118 = .ok (.aload_n 3, 1) := by decide +kernel
theorem dX2_factOfShape_119 : decode cX2_factOfShape 119 = .ok (.invokevirtual 140, 3) := by decide +kernel
theorem dX2_factOfShape_122 : decode cX2_factOfShape 122 = .ok (.ireturn, 1) := by decide +kernel
theorem dX2_factOfShape_123 : decode cX2_factOfShape 123 = .ok (.aload_n 3, 1) := by decide +kernel
theorem dX2_factOfShape_124 : decode cX2_factOfShape 124 = .ok (.getfield 119, 3) := by decide +kernel
theorem dX2_factOfShape_127 : decode cX2_factOfShape 127 = .ok (.ireturn, 1) := by decide +kernel
theorem dX2_factOfShape_128 : decode cX2_factOfShape 128 = .ok (.aload_n 3, 1) := by decide +kernel
theorem dX2_factOfShape_129 : decode cX2_factOfShape 129 = .ok (.getfield 107, 3) := by decide +kernel
theorem dX2_factOfShape_132 : decode cX2_factOfShape 132 = .ok (.ireturn, 1) := by decide +kernel
theorem dX2_factOfShape_133 : decode cX2_factOfShape 133 = .ok (.bipush (-2), 2) := by decide +kernel
theorem dX2_factOfShape_135 : decode cX2_factOfShape 135 = .ok (.ireturn, 1) := by decide +kernel
theorem dX2_factOfSheet_0 : decode cX2_factOfSheet 0 = .ok (.iload_n 1, 1) := by decide +kernel
theorem dX2_factOfSheet_1 : decode cX2_factOfSheet 1 = .ok (.tableswitch 179 0 16 #[83, 88, 94, 100, 106, 111, 116, 121, 126, 131, 136, 141, 146, 151, 158, 165, 172], 83) := by decide +kernel
theorem dX2_factOfSheet_84 : decode cX2_factOfSheet 84 = .ok (.aload_n 0, 1) := by decide +kernel
theorem dX2_factOfSheet_85 : decode cX2_factOfSheet 85 = .ok (.getfield 25, 3) := by decide +kernel
theorem dX2_factOfSheet_88 : decode cX2_factOfSheet 88 = .ok (.ireturn, 1) := by decide +kernel
theorem dX2_factOfSheet_89 : decode cX2_factOfSheet 89 = .ok (.aload_n 0, 1) := by decide +kernel
theorem dX2_factOfSheet_90 : decode cX2_factOfSheet 90 = .ok (.iconst 0, 1) := by decide +kernel
theorem dX2_factOfSheet_91 : decode cX2_factOfSheet 91 = .ok (.invokevirtual 185, 3) := by decide +kernel
theorem dX2_factOfSheet_94 : decode cX2_factOfSheet 94 = .ok (.ireturn, 1) := by decide +kernel
theorem dX2_factOfSheet_95 : decode cX2_factOfSheet 95 = .ok (.aload_n 0, 1) := by decide +kernel
theorem dX2_factOfSheet_96 : decode cX2_factOfSheet 96 = .ok (.iconst 1, 1) := by decide +kernel
theorem dX2_factOfSheet_97 : decode cX2_factOfSheet 97 = .ok (.invokevirtual 185, 3) := by decide +kernel
theorem dX2_factOfSheet_100 : decode cX2_factOfSheet 100 = .ok (.ireturn, 1) := by decide +kernel
theorem dX2_factOfSheet_101 : decode cX2_factOfSheet 101 = .ok (.aload_n 0, 1) := by decide +kernel
theorem dX2_factOfSheet_102 : decode cX2_factOfSheet 102 = .ok (.iconst 2, 1) := by decide +kernel
theorem dX2_factOfSheet_103 : decode cX2_factOfSheet 103 = .ok (.invokevirtual 185, 3) := by decide +kernel
theorem dX2_factOfSheet_106 : decode cX2_factOfSheet 106 = .ok (.ireturn, 1) := by decide +kernel
theorem dX2_factOfSheet_107 : decode cX2_factOfSheet 107 = .ok (.aload_n 0, 1) := by decide +kernel
theorem dX2_factOfSheet_108 : decode cX2_factOfSheet 108 = .ok (.invokevirtual 188, 3) := by decide +kernel
theorem dX2_factOfSheet_111 : decode cX2_factOfSheet 111 = .ok (.ireturn, 1) := by decide +kernel
theorem dX2_factOfSheet_112 : decode cX2_factOfSheet 112 = .ok (.aload_n 0, 1) := by decide +kernel
theorem dX2_factOfSheet_113 : decode cX2_factOfSheet 113 = .ok (.getfield 35, 3) := by decide +kernel
theorem dX2_factOfSheet_116 : decode cX2_factOfSheet 116 = .ok (.ireturn, 1) := by decide +kernel
theorem dX2_factOfSheet_117 : decode cX2_factOfSheet 117 = .ok (.aload_n 0, 1) := by decide +kernel
theorem dX2_factOfSheet_118 : decode cX2_factOfSheet 118 = .ok (.getfield 29, 3) := by decide +kernel
theorem dX2_factOfSheet_121 : decode cX2_factOfSheet 121 = .ok (.ireturn, 1) := by decide +kernel
theorem dX2_factOfSheet_122 : decode cX2_factOfSheet 122 = .ok (.aload_n 0, 1) := by decide +kernel
theorem dX2_factOfSheet_123 : decode cX2_factOfSheet 123 = .ok (.getfield 32, 3) := by decide +kernel
theorem dX2_factOfSheet_126 : decode cX2_factOfSheet 126 = .ok (.ireturn, 1) := by decide +kernel
theorem dX2_factOfSheet_127 : decode cX2_factOfSheet 127 = .ok (.aload_n 0, 1) := by decide +kernel
theorem dX2_factOfSheet_128 : decode cX2_factOfSheet 128 = .ok (.getfield 38, 3) := by decide +kernel
theorem dX2_factOfSheet_131 : decode cX2_factOfSheet 131 = .ok (.ireturn, 1) := by decide +kernel
theorem dX2_factOfSheet_132 : decode cX2_factOfSheet 132 = .ok (.aload_n 0, 1) := by decide +kernel
theorem dX2_factOfSheet_133 : decode cX2_factOfSheet 133 = .ok (.getfield 41, 3) := by decide +kernel
theorem dX2_factOfSheet_136 : decode cX2_factOfSheet 136 = .ok (.ireturn, 1) := by decide +kernel
theorem dX2_factOfSheet_137 : decode cX2_factOfSheet 137 = .ok (.aload_n 0, 1) := by decide +kernel
theorem dX2_factOfSheet_138 : decode cX2_factOfSheet 138 = .ok (.invokevirtual 116, 3) := by decide +kernel
theorem dX2_factOfSheet_141 : decode cX2_factOfSheet 141 = .ok (.ireturn, 1) := by decide +kernel
theorem dX2_factOfSheet_142 : decode cX2_factOfSheet 142 = .ok (.aload_n 0, 1) := by decide +kernel
theorem dX2_factOfSheet_143 : decode cX2_factOfSheet 143 = .ok (.invokevirtual 164, 3) := by decide +kernel
theorem dX2_factOfSheet_146 : decode cX2_factOfSheet 146 = .ok (.ireturn, 1) := by decide +kernel
theorem dX2_factOfSheet_147 : decode cX2_factOfSheet 147 = .ok (.aload_n 0, 1) := by decide +kernel
theorem dX2_factOfSheet_148 : decode cX2_factOfSheet 148 = .ok (.invokevirtual 191, 3) := by decide +kernel
theorem dX2_factOfSheet_151 : decode cX2_factOfSheet 151 = .ok (.ireturn, 1) := by decide +kernel
theorem dX2_factOfSheet_152 : decode cX2_factOfSheet 152 = .ok (.aload_n 0, 1) := by decide +kernel
theorem dX2_factOfSheet_153 : decode cX2_factOfSheet 153 = .ok (.getfield 22, 3) := by decide +kernel
theorem dX2_factOfSheet_156 : decode cX2_factOfSheet 156 = .ok (.iconst 0, 1) := by decide +kernel
theorem dX2_factOfSheet_157 : decode cX2_factOfSheet 157 = .ok (.iaload, 1) := by decide +kernel
theorem dX2_factOfSheet_158 : decode cX2_factOfSheet 158 = .ok (.ireturn, 1) := by decide +kernel
theorem dX2_factOfSheet_159 : decode cX2_factOfSheet 159 = .ok (.aload_n 0, 1) := by decide +kernel
theorem dX2_factOfSheet_160 : decode cX2_factOfSheet 160 = .ok (.getfield 22, 3) := by decide +kernel
theorem dX2_factOfSheet_163 : decode cX2_factOfSheet 163 = .ok (.iconst 1, 1) := by decide +kernel
theorem dX2_factOfSheet_164 : decode cX2_factOfSheet 164 = .ok (.iaload, 1) := by decide +kernel
theorem dX2_factOfSheet_165 : decode cX2_factOfSheet 165 = .ok (.ireturn, 1) := by decide +kernel
theorem dX2_factOfSheet_166 : decode cX2_factOfSheet 166 = .ok (.aload_n 0, 1) := by decide +kernel
theorem dX2_factOfSheet_167 : decode cX2_factOfSheet 167 = .ok (.getfield 22, 3) := by decide +kernel
theorem dX2_factOfSheet_170 : decode cX2_factOfSheet 170 = .ok (.iconst 2, 1) := by decide +kernel
theorem dX2_factOfSheet_171 : decode cX2_factOfSheet 171 = .ok (.iaload, 1) := by decide +kernel
theorem dX2_factOfSheet_172 : decode cX2_factOfSheet 172 = .ok (.ireturn, 1) := by decide +kernel
theorem dX2_factOfSheet_173 : decode cX2_factOfSheet 173 = .ok (.aload_n 0, 1) := by decide +kernel
theorem dX2_factOfSheet_174 : decode cX2_factOfSheet 174 = .ok (.getfield 22, 3) := by decide +kernel
theorem dX2_factOfSheet_177 : decode cX2_factOfSheet 177 = .ok (.iconst 3, 1) := by decide +kernel
theorem dX2_factOfSheet_178 : decode cX2_factOfSheet 178 = .ok (.iaload, 1) := by decide +kernel
theorem dX2_factOfSheet_179 : decode cX2_factOfSheet 179 = .ok (.ireturn, 1) := by decide +kernel
theorem dX2_factOfSheet_180 : decode cX2_factOfSheet 180 = .ok (.bipush (-2), 2) := by decide +kernel
theorem dX2_factOfSheet_182 : decode cX2_factOfSheet 182 = .ok (.ireturn, 1) := by decide +kernel
theorem dX3_init_0 : decode cX3_init 0 = .ok (.aload_n 0, 1) := by decide +kernel
theorem dX3_init_1 : decode cX3_init 1 = .ok (.invokespecial 1, 3) := by decide +kernel
theorem dX3_init_4 : decode cX3_init 4 = .ok (.aload_n 0, 1) := by decide +kernel
theorem dX3_init_5 : decode cX3_init 5 = .ok (.new 7, 3) := by decide +kernel
theorem dX3_init_8 : decode cX3_init 8 = .ok (.dup, 1) := by decide +kernel
theorem dX3_init_9 : decode cX3_init 9 = .ok (.invokespecial 9, 3) := by decide +kernel
theorem dX3_init_12 : decode cX3_init 12 = .ok (.putfield 10, 3) := by decide +kernel
theorem dX3_init_15 : decode cX3_init 15 = .ok (.aload_n 0, 1) := by decide +kernel
theorem dX3_init_16 : decode cX3_init 16 = .ok (.new 7, 3) := by decide +kernel
theorem dX3_init_19 : decode cX3_init 19 = .ok (.dup, 1) := by decide +kernel
theorem dX3_init_20 : decode cX3_init 20 = .ok (.invokespecial 9, 3) := by decide +kernel
theorem dX3_init_23 : decode cX3_init 23 = .ok (.putfield 16, 3) := by decide +kernel
theorem dX3_init_26 : decode cX3_init 26 = .ok (.aload_n 0, 1) := by decide +kernel
theorem dX3_init_27 : decode cX3_init 27 = .ok (.new 7, 3) := by decide +kernel
theorem dX3_init_30 : decode cX3_init 30 = .ok (.dup, 1) := by decide +kernel
theorem dX3_init_31 : decode cX3_init 31 = .ok (.invokespecial 9, 3) := by decide +kernel
theorem dX3_init_34 : decode cX3_init 34 = .ok (.putfield 19, 3) := by decide +kernel
theorem dX3_init_37 : decode cX3_init 37 = .ok (.aload_n 0, 1) := by decide +kernel
theorem dX3_init_38 : decode cX3_init 38 = .ok (.new 7, 3) := by decide +kernel
theorem dX3_init_41 : decode cX3_init 41 = .ok (.dup, 1) := by decide +kernel
theorem dX3_init_42 : decode cX3_init 42 = .ok (.invokespecial 9, 3) := by decide +kernel
theorem dX3_init_45 : decode cX3_init 45 = .ok (.putfield 22, 3) := by decide +kernel
theorem dX3_init_48 : decode cX3_init 48 = .ok (.aload_n 0, 1) := by decide +kernel
theorem dX3_init_49 : decode cX3_init 49 = .ok (.iconst 4, 1) := by decide +kernel
theorem dX3_init_50 : decode cX3_init 50 = .ok (.anewarray 7, 3) := by decide +kernel
theorem dX3_init_53 : decode cX3_init 53 = .ok (.putfield 25, 3) := by decide +kernel
theorem dX3_init_56 : decode cX3_init 56 = .ok (.iconst 0, 1) := by decide +kernel
theorem dX3_init_57 : decode cX3_init 57 = .ok (.istore_n 1, 1) := by decide +kernel
theorem dX3_init_58 : decode cX3_init 58 = .ok (.iload_n 1, 1) := by decide +kernel
theorem dX3_init_59 : decode cX3_init 59 = .ok (.iconst 4, 1) := by decide +kernel
theorem dX3_init_60 : decode cX3_init 60 = .ok (.if_icmp .ge 22, 3) := by decide +kernel
theorem dX3_init_63 : decode cX3_init 63 = .ok (.aload_n 0, 1) := by decide +kernel
theorem dX3_init_64 : decode cX3_init 64 = .ok (.getfield 25, 3) := by decide +kernel
theorem dX3_init_67 : decode cX3_init 67 = .ok (.iload_n 1, 1) := by decide +kernel
theorem dX3_init_68 : decode cX3_init 68 = .ok (.new 7, 3) := by decide +kernel
theorem dX3_init_71 : decode cX3_init 71 = .ok (.dup, 1) := by decide +kernel
theorem dX3_init_72 : decode cX3_init 72 = .ok (.invokespecial 9, 3) := by decide +kernel
theorem dX3_init_75 : decode cX3_init 75 = .ok (.aastore, 1) := by decide +kernel
theorem dX3_init_76 : decode cX3_init 76 = .ok (.iinc 1 1, 3) := by decide +kernel
theorem dX3_init_79 : decode cX3_init 79 = .ok (.goto (-21), 3) := by decide +kernel
theorem dX3_init_82 : decode cX3_init 82 = .ok (.aload_n 0, 1) := by decide +kernel
theorem dX3_init_83 : decode cX3_init 83 = .ok (.new 29, 3) := by decide +kernel
theorem dX3_init_86 : decode cX3_init 86 = .ok (.dup, 1) := by decide +kernel
theorem dX3_init_87 : decode cX3_init 87 = .ok (.invokespecial 31, 3) := by decide +kernel
theorem dX3_init_90 : decode cX3_init 90 = .ok (.putfield 32, 3) := by decide +kernel
theorem dX3_init_93 : decode cX3_init 93 = .ok (.aload_n 0, 1) := by decide +kernel
theorem dX3_init_94 : decode cX3_init 94 = .ok (.iconst 0, 1) := by decide +kernel
theorem dX3_init_95 : decode cX3_init 95 = .ok (.putfield 36, 3) := by decide +kernel
theorem dX3_init_98 : decode cX3_init 98 = .ok (.aload_n 0, 1) := by decide +kernel
theorem dX3_init_99 : decode cX3_init 99 = .ok (.iconst 0, 1) := by decide +kernel
theorem dX3_init_100 : decode cX3_init 100 = .ok (.putfield 40, 3) := by decide +kernel
theorem dX3_init_103 : decode cX3_init 103 = .ok (.aload_n 0, 1) := by decide +kernel
theorem dX3_init_104 : decode cX3_init 104 = .ok (.iconst 0, 1) := by decide +kernel
theorem dX3_init_105 : decode cX3_init 105 = .ok (.putfield 44, 3) := by decide +kernel
theorem dX3_init_108 : decode cX3_init 108 = .ok (.aload_n 0, 1) := by decide +kernel
theorem dX3_init_109 : decode cX3_init 109 = .ok (.iconst 0, 1) := by decide +kernel
theorem dX3_init_110 : decode cX3_init 110 = .ok (.putfield 47, 3) := by decide +kernel
theorem dX3_init_113 : decode cX3_init 113 = .ok (.return_, 1) := by decide +kernel
theorem dX3_tell_0 : decode cX3_tell 0 = .ok (.aload_n 0, 1) := by decide +kernel
theorem dX3_tell_1 : decode cX3_tell 1 = .ok (.getfield 16, 3) := by decide +kernel
theorem dX3_tell_4 : decode cX3_tell 4 = .ok (.aload_n 0, 1) := by decide +kernel
theorem dX3_tell_5 : decode cX3_tell 5 = .ok (.getfield 10, 3) := by decide +kernel
theorem dX3_tell_8 : decode cX3_tell 8 = .ok (.invokevirtual 50, 3) := by decide +kernel
theorem dX3_tell_11 : decode cX3_tell 11 = .ok (.aload_n 0, 1) := by decide +kernel
theorem dX3_tell_12 : decode cX3_tell 12 = .ok (.aload_n 0, 1) := by decide +kernel
theorem dX3_tell_13 : decode cX3_tell 13 = .ok (.getfield 10, 3) := by decide +kernel
theorem dX3_tell_16 : decode cX3_tell 16 = .ok (.iload_n 1, 1) := by decide +kernel
theorem dX3_tell_17 : decode cX3_tell 17 = .ok (.iload_n 2, 1) := by decide +kernel
theorem dX3_tell_18 : decode cX3_tell 18 = .ok (.iload_n 3, 1) := by decide +kernel
theorem dX3_tell_19 : decode cX3_tell 19 = .ok (.iload 4, 2) := by decide +kernel
theorem dX3_tell_21 : decode cX3_tell 21 = .ok (.invokevirtual 54, 3) := by decide +kernel
theorem dX3_tell_24 : decode cX3_tell 24 = .ok (.invokevirtual 58, 3) := by decide +kernel
theorem dX3_tell_27 : decode cX3_tell 27 = .ok (.ireturn, 1) := by decide +kernel
theorem dX3_setLead_0 : decode cX3_setLead 0 = .ok (.aload_n 0, 1) := by decide +kernel
theorem dX3_setLead_1 : decode cX3_setLead 1 = .ok (.getfield 16, 3) := by decide +kernel
theorem dX3_setLead_4 : decode cX3_setLead 4 = .ok (.aload_n 0, 1) := by decide +kernel
theorem dX3_setLead_5 : decode cX3_setLead 5 = .ok (.getfield 10, 3) := by decide +kernel
theorem dX3_setLead_8 : decode cX3_setLead 8 = .ok (.invokevirtual 50, 3) := by decide +kernel
theorem dX3_setLead_11 : decode cX3_setLead 11 = .ok (.aload_n 0, 1) := by decide +kernel
theorem dX3_setLead_12 : decode cX3_setLead 12 = .ok (.aload_n 0, 1) := by decide +kernel
theorem dX3_setLead_13 : decode cX3_setLead 13 = .ok (.getfield 10, 3) := by decide +kernel
theorem dX3_setLead_16 : decode cX3_setLead 16 = .ok (.iload_n 1, 1) := by decide +kernel
theorem dX3_setLead_17 : decode cX3_setLead 17 = .ok (.iload_n 2, 1) := by decide +kernel
theorem dX3_setLead_18 : decode cX3_setLead 18 = .ok (.invokevirtual 62, 3) := by decide +kernel
theorem dX3_setLead_21 : decode cX3_setLead 21 = .ok (.invokevirtual 58, 3) := by decide +kernel
theorem dX3_setLead_24 : decode cX3_setLead 24 = .ok (.ireturn, 1) := by decide +kernel
theorem dX3_set_0 : decode cX3_set 0 = .ok (.aload_n 0, 1) := by decide +kernel
theorem dX3_set_1 : decode cX3_set 1 = .ok (.getfield 16, 3) := by decide +kernel
theorem dX3_set_4 : decode cX3_set 4 = .ok (.aload_n 0, 1) := by decide +kernel
theorem dX3_set_5 : decode cX3_set 5 = .ok (.getfield 10, 3) := by decide +kernel
theorem dX3_set_8 : decode cX3_set 8 = .ok (.invokevirtual 50, 3) := by decide +kernel
theorem dX3_set_11 : decode cX3_set 11 = .ok (.aload_n 0, 1) := by decide +kernel
theorem dX3_set_12 : decode cX3_set 12 = .ok (.aload_n 0, 1) := by decide +kernel
theorem dX3_set_13 : decode cX3_set 13 = .ok (.getfield 10, 3) := by decide +kernel
theorem dX3_set_16 : decode cX3_set 16 = .ok (.iload_n 1, 1) := by decide +kernel
theorem dX3_set_17 : decode cX3_set 17 = .ok (.iload_n 2, 1) := by decide +kernel
theorem dX3_set_18 : decode cX3_set 18 = .ok (.invokevirtual 66, 3) := by decide +kernel
theorem dX3_set_21 : decode cX3_set 21 = .ok (.invokevirtual 58, 3) := by decide +kernel
theorem dX3_set_24 : decode cX3_set 24 = .ok (.ireturn, 1) := by decide +kernel
theorem dX3_cut_0 : decode cX3_cut 0 = .ok (.aload_n 0, 1) := by decide +kernel
theorem dX3_cut_1 : decode cX3_cut 1 = .ok (.getfield 16, 3) := by decide +kernel
theorem dX3_cut_4 : decode cX3_cut 4 = .ok (.aload_n 0, 1) := by decide +kernel
theorem dX3_cut_5 : decode cX3_cut 5 = .ok (.getfield 10, 3) := by decide +kernel
theorem dX3_cut_8 : decode cX3_cut 8 = .ok (.invokevirtual 50, 3) := by decide +kernel
theorem dX3_cut_11 : decode cX3_cut 11 = .ok (.aload_n 0, 1) := by decide +kernel
theorem dX3_cut_12 : decode cX3_cut 12 = .ok (.aload_n 0, 1) := by decide +kernel
theorem dX3_cut_13 : decode cX3_cut 13 = .ok (.getfield 10, 3) := by decide +kernel
theorem dX3_cut_16 : decode cX3_cut 16 = .ok (.iload_n 1, 1) := by decide +kernel
theorem dX3_cut_17 : decode cX3_cut 17 = .ok (.invokevirtual 69, 3) := by decide +kernel
theorem dX3_cut_20 : decode cX3_cut 20 = .ok (.invokevirtual 58, 3) := by decide +kernel
theorem dX3_cut_23 : decode cX3_cut 23 = .ok (.ireturn, 1) := by decide +kernel
theorem dX3_pause_0 : decode cX3_pause 0 = .ok (.aload_n 0, 1) := by decide +kernel
theorem dX3_pause_1 : decode cX3_pause 1 = .ok (.getfield 16, 3) := by decide +kernel
theorem dX3_pause_4 : decode cX3_pause 4 = .ok (.aload_n 0, 1) := by decide +kernel
theorem dX3_pause_5 : decode cX3_pause 5 = .ok (.getfield 10, 3) := by decide +kernel
theorem dX3_pause_8 : decode cX3_pause 8 = .ok (.invokevirtual 50, 3) := by decide +kernel
theorem dX3_pause_11 : decode cX3_pause 11 = .ok (.aload_n 0, 1) := by decide +kernel
theorem dX3_pause_12 : decode cX3_pause 12 = .ok (.aload_n 0, 1) := by decide +kernel
theorem dX3_pause_13 : decode cX3_pause 13 = .ok (.getfield 10, 3) := by decide +kernel
theorem dX3_pause_16 : decode cX3_pause 16 = .ok (.iload_n 1, 1) := by decide +kernel
theorem dX3_pause_17 : decode cX3_pause 17 = .ok (.invokevirtual 72, 3) := by decide +kernel
theorem dX3_pause_20 : decode cX3_pause 20 = .ok (.invokevirtual 58, 3) := by decide +kernel
theorem dX3_pause_23 : decode cX3_pause 23 = .ok (.ireturn, 1) := by decide +kernel
theorem dX3_clean_0 : decode cX3_clean 0 = .ok (.aload_n 0, 1) := by decide +kernel
theorem dX3_clean_1 : decode cX3_clean 1 = .ok (.getfield 16, 3) := by decide +kernel
theorem dX3_clean_4 : decode cX3_clean 4 = .ok (.aload_n 0, 1) := by decide +kernel
theorem dX3_clean_5 : decode cX3_clean 5 = .ok (.getfield 10, 3) := by decide +kernel
theorem dX3_clean_8 : decode cX3_clean 8 = .ok (.invokevirtual 50, 3) := by decide +kernel
theorem dX3_clean_11 : decode cX3_clean 11 = .ok (.aload_n 0, 1) := by decide +kernel
theorem dX3_clean_12 : decode cX3_clean 12 = .ok (.aload_n 0, 1) := by decide +kernel
theorem dX3_clean_13 : decode cX3_clean 13 = .ok (.getfield 10, 3) := by decide +kernel
theorem dX3_clean_16 : decode cX3_clean 16 = .ok (.invokevirtual 75, 3) := by decide +kernel
theorem dX3_clean_19 : decode cX3_clean 19 = .ok (.invokevirtual 58, 3) := by decide +kernel
theorem dX3_clean_22 : decode cX3_clean 22 = .ok (.ireturn, 1) := by decide +kernel
theorem dX3_undo_0 : decode cX3_undo 0 = .ok (.aload_n 0, 1) := by decide +kernel
theorem dX3_undo_1 : decode cX3_undo 1 = .ok (.getfield 36, 3) := by decide +kernel
theorem dX3_undo_4 : decode cX3_undo 4 = .ok (.ifCond .le 11, 3) := by decide +kernel
theorem dX3_undo_7 : decode cX3_undo 7 = .ok (.aload_n 0, 1) := by decide +kernel
theorem dX3_undo_8 : decode cX3_undo 8 = .ok (.getfield 36, 3) := by decide +kernel
theorem dX3_undo_11 : decode cX3_undo 11 = .ok (.iconst 4, 1) := by decide +kernel
theorem dX3_undo_12 : decode cX3_undo 12 = .ok (.if_icmp .le 6, 3) := by decide +kernel
theorem dX3_undo_15 : decode cX3_undo 15 = .ok (.bipush (-5), 2) := by decide +kernel
theorem dX3_undo_17 : decode cX3_undo 17 = .ok (.ireturn, 1) := by decide +kernel
theorem dX3_undo_18 : decode cX3_undo 18 = .ok (.aload_n 0, 1) := by decide +kernel
theorem dX3_undo_19 : decode cX3_undo 19 = .ok (.dup, 1) := by decide +kernel
theorem dX3_undo_20 : decode cX3_undo 20 = .ok (.getfield 36, 3) := by decide +kernel
theorem dX3_undo_23 : decode cX3_undo 23 = .ok (.iconst 1, 1) := by decide +kernel
theorem dX3_undo_24 : decode cX3_undo 24 = .ok (.isub, 1) := by decide +kernel
theorem dX3_undo_25 : decode cX3_undo 25 = .ok (.putfield 36, 3) := by decide +kernel
theorem dX3_undo_28 : decode cX3_undo 28 = .ok (.aload_n 0, 1) := by decide +kernel
theorem dX3_undo_29 : decode cX3_undo 29 = .ok (.getfield 10, 3) := by decide +kernel
theorem dX3_undo_32 : decode cX3_undo 32 = .ok (.aload_n 0, 1) := by decide +kernel
theorem dX3_undo_33 : decode cX3_undo 33 = .ok (.getfield 25, 3) := by decide +kernel
theorem dX3_undo_36 : decode cX3_undo 36 = .ok (.aload_n 0, 1) := by decide +kernel
theorem dX3_undo_37 : decode cX3_undo 37 = .ok (.getfield 36, 3) := by decide +kernel
theorem dX3_undo_40 : decode cX3_undo 40 = .ok (.aaload, 1) := by decide +kernel
theorem dX3_undo_41 : decode cX3_undo 41 = .ok (.invokevirtual 50, 3) := by decide +kernel
theorem dX3_undo_44 : decode cX3_undo 44 = .ok (.aload_n 0, 1) := by decide +kernel
theorem dX3_undo_45 : decode cX3_undo 45 = .ok (.getfield 36, 3) := by decide +kernel
theorem dX3_undo_48 : decode cX3_undo 48 = .ok (.ireturn, 1) := by decide +kernel
theorem dX3_restore_0 : decode cX3_restore 0 = .ok (.aload_n 0, 1) := by decide +kernel
theorem dX3_restore_1 : decode cX3_restore 1 = .ok (.getfield 40, 3) := by decide +kernel
theorem dX3_restore_4 : decode cX3_restore 4 = .ok (.ifCond .ne 6, 3) := by decide +kernel
theorem dX3_restore_7 : decode cX3_restore 7 = .ok (.bipush (-5), 2) := by decide +kernel
theorem dX3_restore_9 : decode cX3_restore 9 = .ok (.ireturn, 1) := by decide +kernel
theorem dX3_restore_10 : decode cX3_restore 10 = .ok (.aload_n 0, 1) := by decide +kernel
theorem dX3_restore_11 : decode cX3_restore 11 = .ok (.getfield 16, 3) := by decide +kernel
theorem dX3_restore_14 : decode cX3_restore 14 = .ok (.aload_n 0, 1) := by decide +kernel
theorem dX3_restore_15 : decode cX3_restore 15 = .ok (.getfield 10, 3) := by decide +kernel
theorem dX3_restore_18 : decode cX3_restore 18 = .ok (.invokevirtual 50, 3) := by decide +kernel
theorem dX3_restore_21 : decode cX3_restore 21 = .ok (.aload_n 0, 1) := by decide +kernel
theorem dX3_restore_22 : decode cX3_restore 22 = .ok (.getfield 10, 3) := by decide +kernel
theorem dX3_restore_25 : decode cX3_restore 25 = .ok (.aload_n 0, 1) := by decide +kernel
theorem dX3_restore_26 : decode cX3_restore 26 = .ok (.getfield 22, 3) := by decide +kernel
theorem dX3_restore_29 : decode cX3_restore 29 = .ok (.invokevirtual 50, 3) := by decide +kernel
theorem dX3_restore_32 : decode cX3_restore 32 = .ok (.aload_n 0, 1) := by decide +kernel
theorem dX3_restore_33 : decode cX3_restore 33 = .ok (.aload_n 0, 1) := by decide +kernel
theorem dX3_restore_34 : decode cX3_restore 34 = .ok (.getfield 10, 3) := by decide +kernel
theorem dX3_restore_37 : decode cX3_restore 37 = .ok (.getfield 96, 3) := by decide +kernel
theorem dX3_restore_40 : decode cX3_restore 40 = .ok (.invokevirtual 58, 3) := by decide +kernel
theorem dX3_restore_43 : decode cX3_restore 43 = .ok (.ireturn, 1) := by decide +kernel
theorem dX3_shape_0 : decode cX3_shape 0 = .ok (.aload_n 0, 1) := by decide +kernel
theorem dX3_shape_1 : decode cX3_shape 1 = .ok (.getfield 10, 3) := by decide +kernel
theorem dX3_shape_4 : decode cX3_shape 4 = .ok (.iload_n 1, 1) := by decide +kernel
theorem dX3_shape_5 : decode cX3_shape 5 = .ok (.iload_n 2, 1) := by decide +kernel
theorem dX3_shape_6 : decode cX3_shape 6 = .ok (.invokevirtual 99, 3) := by decide +kernel
theorem dX3_shape_9 : decode cX3_shape 9 = .ok (.ireturn, 1) := by decide +kernel
theorem dX3_heat_0 : decode cX3_heat 0 = .ok (.aload_n 0, 1) := by decide +kernel
theorem dX3_heat_1 : decode cX3_heat 1 = .ok (.getfield 10, 3) := by decide +kernel
theorem dX3_heat_4 : decode cX3_heat 4 = .ok (.iload_n 1, 1) := by decide +kernel
theorem dX3_heat_5 : decode cX3_heat 5 = .ok (.invokevirtual 102, 3) := by decide +kernel
theorem dX3_heat_8 : decode cX3_heat 8 = .ok (.ireturn, 1) := by decide +kernel
theorem dX3_reason_0 : decode cX3_reason 0 = .ok (.aload_n 0, 1) := by decide +kernel
theorem dX3_reason_1 : decode cX3_reason 1 = .ok (.getfield 10, 3) := by decide +kernel
theorem dX3_reason_4 : decode cX3_reason 4 = .ok (.iload_n 1, 1) := by decide +kernel
theorem dX3_reason_5 : decode cX3_reason 5 = .ok (.invokevirtual 105, 3) := by decide +kernel
theorem dX3_reason_8 : decode cX3_reason 8 = .ok (.ifCond .eq 14, 3) := by decide +kernel
theorem dX3_reason_11 : decode cX3_reason 11 = .ok (.aload_n 0, 1) := by decide +kernel
theorem dX3_reason_12 : decode cX3_reason 12 = .ok (.getfield 10, 3) := by decide +kernel
theorem dX3_reason_15 : decode cX3_reason 15 = .ok (.iload_n 1, 1) := by decide +kernel
theorem dX3_reason_16 : decode cX3_reason 16 = .ok (.invokevirtual 109, 3) := by decide +kernel
theorem dX3_reason_19 : decode cX3_reason 19 = .ok (.goto 4, 3) := by decide +kernel
theorem dX3_reason_22 : decode cX3_reason 22 = .ok (.iconst (-1), 1) := by decide +kernel
theorem dX3_reason_23 : decode cX3_reason 23 = .ok (.ireturn, 1) := by decide +kernel
theorem dX3_takes_0 : decode cX3_takes 0 = .ok (.aload_n 0, 1) := by decide +kernel
theorem dX3_takes_1 : decode cX3_takes 1 = .ok (.getfield 10, 3) := by decide +kernel
theorem dX3_takes_4 : decode cX3_takes 4 = .ok (.iload_n 1, 1) := by decide +kernel
theorem dX3_takes_5 : decode cX3_takes 5 = .ok (.invokevirtual 112, 3) := by decide +kernel
theorem dX3_takes_8 : decode cX3_takes 8 = .ok (.ireturn, 1) := by decide +kernel
theorem dX3_coolsIn_0 : decode cX3_coolsIn 0 = .ok (.aload_n 0, 1) := by decide +kernel
theorem dX3_coolsIn_1 : decode cX3_coolsIn 1 = .ok (.getfield 10, 3) := by decide +kernel
theorem dX3_coolsIn_4 : decode cX3_coolsIn 4 = .ok (.iload_n 1, 1) := by decide +kernel
theorem dX3_coolsIn_5 : decode cX3_coolsIn 5 = .ok (.invokevirtual 115, 3) := by decide +kernel
theorem dX3_coolsIn_8 : decode cX3_coolsIn 8 = .ok (.ireturn, 1) := by decide +kernel
theorem dX3_best_0 : decode cX3_best 0 = .ok (.aload_n 0, 1) := by decide +kernel
theorem dX3_best_1 : decode cX3_best 1 = .ok (.getfield 10, 3) := by decide +kernel
theorem dX3_best_4 : decode cX3_best 4 = .ok (.invokevirtual 118, 3) := by decide +kernel
theorem dX3_best_7 : decode cX3_best 7 = .ok (.ireturn, 1) := by decide +kernel
theorem dX3_ordered_0 : decode cX3_ordered 0 = .ok (.iload_n 1, 1) := by decide +kernel
theorem dX3_ordered_1 : decode cX3_ordered 1 = .ok (.ifCond .ge 6, 3) := by decide +kernel
theorem dX3_ordered_4 : decode cX3_ordered 4 = .ok (.bipush (-2), 2) := by decide +kernel
theorem dX3_ordered_6 : decode cX3_ordered 6 = .ok (.ireturn, 1) := by decide +kernel
theorem dX3_ordered_7 : decode cX3_ordered 7 = .ok (.iload_n 1, 1) := by decide +kernel
theorem dX3_ordered_8 : decode cX3_ordered 8 = .ok (.bipush 12, 2) := by decide +kernel
theorem dX3_ordered_10 : decode cX3_ordered 10 = .ok (.if_icmp .lt 6, 3) := by decide +kernel
theorem dX3_ordered_13 : decode cX3_ordered 13 = .ok (.bipush (-5), 2) := by decide +kernel
theorem dX3_ordered_15 : decode cX3_ordered 15 = .ok (.ireturn, 1) := by decide +kernel
theorem dX3_ordered_16 : decode cX3_ordered 16 = .ok (.aload_n 0, 1) := by decide +kernel
theorem dX3_ordered_17 : decode cX3_ordered 17 = .ok (.getfield 19, 3) := by decide +kernel
theorem dX3_ordered_20 : decode cX3_ordered 20 = .ok (.aload_n 0, 1) := by decide +kernel
theorem dX3_ordered_21 : decode cX3_ordered 21 = .ok (.getfield 10, 3) := by decide +kernel
theorem dX3_ordered_24 : decode cX3_ordered 24 = .ok (.invokevirtual 50, 3) := by decide +kernel
theorem dX3_ordered_27 : decode cX3_ordered 27 = .ok (.bipush (-5), 2) := by decide +kernel
theorem dX3_ordered_29 : decode cX3_ordered 29 = .ok (.istore_n 2, 1) := by decide +kernel
theorem dX3_ordered_30 : decode cX3_ordered 30 = .ok (.iconst 0, 1) := by decide +kernel
theorem dX3_ordered_31 : decode cX3_ordered 31 = .ok (.istore_n 3, 1) := by decide +kernel
theorem dX3_ordered_32 : decode cX3_ordered 32 = .ok (.iload_n 3, 1) := by decide +kernel
theorem dX3_ordered_33 : decode cX3_ordered 33 = .ok (.iload_n 1, 1) := by decide +kernel
theorem dX3_ordered_34 : decode cX3_ordered 34 = .ok (.if_icmp .gt 26, 3) := by decide +kernel
theorem dX3_ordered_37 : decode cX3_ordered 37 = .ok (.aload_n 0, 1) := by decide +kernel
theorem dX3_ordered_38 : decode cX3_ordered 38 = .ok (.getfield 19, 3) := by decide +kernel
theorem dX3_ordered_41 : decode cX3_ordered 41 = .ok (.invokevirtual 121, 3) := by decide +kernel
theorem dX3_ordered_44 : decode cX3_ordered 44 = .ok (.istore_n 2, 1) := by decide +kernel
theorem dX3_ordered_45 : decode cX3_ordered 45 = .ok (.iload_n 2, 1) := by decide +kernel
theorem dX3_ordered_46 : decode cX3_ordered 46 = .ok (.bipush (-5), 2) := by decide +kernel
theorem dX3_ordered_48 : decode cX3_ordered 48 = .ok (.if_icmp .ne 6, 3) := by decide +kernel
theorem dX3_ordered_51 : decode cX3_ordered 51 = .ok (.bipush (-5), 2) := by decide +kernel
theorem dX3_ordered_53 : decode cX3_ordered 53 = .ok (.ireturn, 1) := by decide +kernel
theorem dX3_ordered_54 : decode cX3_ordered 54 = .ok (.iinc 3 1, 3) := by decide +kernel
theorem dX3_ordered_57 : decode cX3_ordered 57 = .ok (.goto (-25), 3) := by decide +kernel
theorem dX3_ordered_60 : decode cX3_ordered 60 = .ok (.iload_n 2, 1) := by decide +kernel
theorem dX3_ordered_61 : decode cX3_ordered 61 = .ok (.ireturn, 1) := by decide +kernel
theorem dX3_allTakes_0 : decode cX3_allTakes 0 = .ok (.aload_n 0, 1) := by decide +kernel
theorem dX3_allTakes_1 : decode cX3_allTakes 1 = .ok (.getfield 19, 3) := by decide +kernel
theorem dX3_allTakes_4 : decode cX3_allTakes 4 = .ok (.aload_n 0, 1) := by decide +kernel
theorem dX3_allTakes_5 : decode cX3_allTakes 5 = .ok (.getfield 10, 3) := by decide +kernel
theorem dX3_allTakes_8 : decode cX3_allTakes 8 = .ok (.invokevirtual 50, 3) := by decide +kernel
theorem dX3_allTakes_11 : decode cX3_allTakes 11 = .ok (.iconst 0, 1) := by decide +kernel
theorem dX3_allTakes_12 : decode cX3_allTakes 12 = .ok (.istore_n 1, 1) := by decide +kernel
theorem dX3_allTakes_13 : decode cX3_allTakes 13 = .ok (.iload_n 1, 1) := by decide +kernel
theorem dX3_allTakes_14 : decode cX3_allTakes 14 = .ok (.bipush 12, 2) := by decide +kernel
theorem dX3_allTakes_16 : decode cX3_allTakes 16 = .ok (.if_icmp .ge 24, 3) := by decide +kernel
theorem dX3_allTakes_19 : decode cX3_allTakes 19 = .ok (.aload_n 0, 1) := by decide +kernel
theorem dX3_allTakes_20 : decode cX3_allTakes 20 = .ok (.getfield 19, 3) := by decide +kernel
theorem dX3_allTakes_23 : decode cX3_allTakes 23 = .ok (.invokevirtual 121, 3) := by decide +kernel
theorem dX3_allTakes_26 : decode cX3_allTakes 26 = .ok (.bipush (-5), 2) := by decide +kernel
theorem dX3_allTakes_28 : decode cX3_allTakes 28 = .ok (.if_icmp .ne 6, 3) := by decide +kernel
theorem dX3_allTakes_31 : decode cX3_allTakes 31 = .ok (.goto 9, 3) := by decide +kernel
theorem dX3_allTakes_34 : decode cX3_allTakes 34 = .ok (.iinc 1 1, 3) := by decide +kernel
theorem dX3_allTakes_37 : decode cX3_allTakes 37 = .ok (.goto (-24), 3) := by decide +kernel
theorem dX3_allTakes_40 : decode cX3_allTakes 40 = .ok (.aload_n 0, 1) := by decide +kernel
theorem dX3_allTakes_41 : decode cX3_allTakes 41 = .ok (.getfield 19, 3) := by decide +kernel
theorem dX3_allTakes_44 : decode cX3_allTakes 44 = .ok (.iconst 0, 1) := by decide +kernel
theorem dX3_allTakes_45 : decode cX3_allTakes 45 = .ok (.invokevirtual 126, 3) := by decide +kernel
theorem dX3_allTakes_48 : decode cX3_allTakes 48 = .ok (.ifCond .ne 21, 3) := by decide +kernel
theorem dX3_allTakes_51 : decode cX3_allTakes 51 = .ok (.aload_n 0, 1) := by decide +kernel
theorem dX3_allTakes_52 : decode cX3_allTakes 52 = .ok (.getfield 19, 3) := by decide +kernel
theorem dX3_allTakes_55 : decode cX3_allTakes 55 = .ok (.getfield 129, 3) := by decide +kernel
theorem dX3_allTakes_58 : decode cX3_allTakes 58 = .ok (.aload_n 0, 1) := by decide +kernel
theorem dX3_allTakes_59 : decode cX3_allTakes 59 = .ok (.getfield 10, 3) := by decide +kernel
theorem dX3_allTakes_62 : decode cX3_allTakes 62 = .ok (.getfield 129, 3) := by decide +kernel
theorem dX3_allTakes_65 : decode cX3_allTakes 65 = .ok (.isub, 1) := by decide +kernel
theorem dX3_allTakes_66 : decode cX3_allTakes 66 = .ok (.goto 5, 3) := by decide +kernel
theorem dX3_allTakes_69 : decode cX3_allTakes 69 = .ok (.bipush (-5), 2) := by decide +kernel
theorem dX3_allTakes_71 : decode cX3_allTakes 71 = .ok (.ireturn, 1) := by decide +kernel
theorem dX3_count_0 : decode cX3_count 0 = .ok (.iload_n 1, 1) := by decide +kernel
theorem dX3_count_1 : decode cX3_count 1 = .ok (.bipush 17, 2) := by decide +kernel
theorem dX3_count_3 : decode cX3_count 3 = .ok (.if_icmp .ne 8, 3) := by decide +kernel
theorem dX3_count_6 : decode cX3_count 6 = .ok (.aload_n 0, 1) := by decide +kernel
theorem dX3_count_7 : decode cX3_count 7 = .ok (.getfield 36, 3) := by decide +kernel
theorem dX3_count_10 : decode cX3_count 10 = .ok (.ireturn, 1) := by decide +kernel
theorem dX3_count_11 : decode cX3_count 11 = .ok (.iload_n 1, 1) := by decide +kernel
theorem dX3_count_12 : decode cX3_count 12 = .ok (.bipush 18, 2) := by decide +kernel
theorem dX3_count_14 : decode cX3_count 14 = .ok (.if_icmp .ne 11, 3) := by decide +kernel
theorem dX3_count_17 : decode cX3_count 17 = .ok (.aload_n 0, 1) := by decide +kernel
theorem dX3_count_18 : decode cX3_count 18 = .ok (.getfield 32, 3) := by decide +kernel
theorem dX3_count_21 : decode cX3_count 21 = .ok (.getfield 132, 3) := by decide +kernel
theorem dX3_count_24 : decode cX3_count 24 = .ok (.ireturn, 1) := by decide +kernel
theorem dX3_count_25 : decode cX3_count 25 = .ok (.aload_n 0, 1) := by decide +kernel
theorem dX3_count_26 : decode cX3_count 26 = .ok (.getfield 10, 3) := by decide +kernel
theorem dX3_count_29 : decode cX3_count 29 = .ok (.iload_n 1, 1) := by decide +kernel
theorem dX3_count_30 : decode cX3_count 30 = .ok (.invokevirtual 135, 3) := by decide +kernel
theorem dX3_count_33 : decode cX3_count 33 = .ok (.ireturn, 1) := by decide +kernel
theorem dX3_recorded_0 : decode cX3_recorded 0 = .ok (.iload_n 1, 1) := by decide +kernel
theorem dX3_recorded_1 : decode cX3_recorded 1 = .ok (.ifCond .lt 41, 3) := by decide +kernel
theorem dX3_recorded_4 : decode cX3_recorded 4 = .ok (.aload_n 0, 1) := by decide +kernel
theorem dX3_recorded_5 : decode cX3_recorded 5 = .ok (.getfield 36, 3) := by decide +kernel
theorem dX3_recorded_8 : decode cX3_recorded 8 = .ok (.iconst 4, 1) := by decide +kernel
theorem dX3_recorded_9 : decode cX3_recorded 9 = .ok (.if_icmp .lt 7, 3) := by decide +kernel
theorem dX3_recorded_12 : decode cX3_recorded 12 = .ok (.aload_n 0, 1) := by decide +kernel
theorem dX3_recorded_13 : decode cX3_recorded 13 = .ok (.invokevirtual 138, 3) := by decide +kernel
theorem dX3_recorded_16 : decode cX3_recorded 16 = .ok (.aload_n 0, 1) := by decide +kernel
theorem dX3_recorded_17 : decode cX3_recorded 17 = .ok (.getfield 25, 3) := by decide +kernel
theorem dX3_recorded_20 : decode cX3_recorded 20 = .ok (.aload_n 0, 1) := by decide +kernel
theorem dX3_recorded_21 : decode cX3_recorded 21 = .ok (.getfield 36, 3) := by decide +kernel
theorem dX3_recorded_24 : decode cX3_recorded 24 = .ok (.aaload, 1) := by decide +kernel
theorem dX3_recorded_25 : decode cX3_recorded 25 = .ok (.aload_n 0, 1) := by decide +kernel
theorem dX3_recorded_26 : decode cX3_recorded 26 = .ok (.getfield 16, 3) := by decide +kernel
theorem dX3_recorded_29 : decode cX3_recorded 29 = .ok (.invokevirtual 50, 3) := by decide +kernel
theorem dX3_recorded_32 : decode cX3_recorded 32 = .ok (.aload_n 0, 1) := by decide +kernel
theorem dX3_recorded_33 : decode cX3_recorded 33 = .ok (.dup, 1) := by decide +kernel
theorem dX3_recorded_34 : decode cX3_recorded 34 = .ok (.getfield 36, 3) := by decide +kernel
theorem dX3_recorded_37 : decode cX3_recorded 37 = .ok (.iconst 1, 1) := by decide +kernel
theorem dX3_recorded_38 : decode cX3_recorded 38 = .ok (.iadd, 1) := by decide +kernel
theorem dX3_recorded_39 : decode cX3_recorded 39 = .ok (.putfield 36, 3) := by decide +kernel
theorem dX3_recorded_42 : decode cX3_recorded 42 = .ok (.iload_n 1, 1) := by decide +kernel
theorem dX3_recorded_43 : decode cX3_recorded 43 = .ok (.ireturn, 1) := by decide +kernel
theorem dX3_dropOldestState_0 : decode cX3_dropOldestState 0 = .ok (.aload_n 0, 1) := by decide +kernel
theorem dX3_dropOldestState_1 : decode cX3_dropOldestState 1 = .ok (.getfield 25, 3) := by decide +kernel
theorem dX3_dropOldestState_4 : decode cX3_dropOldestState 4 = .ok (.iconst 0, 1) := by decide +kernel
theorem dX3_dropOldestState_5 : decode cX3_dropOldestState 5 = .ok (.aaload, 1) := by decide +kernel
theorem dX3_dropOldestState_6 : decode cX3_dropOldestState 6 = .ok (.astore_n 1, 1) := by decide +kernel
theorem dX3_dropOldestState_7 : decode cX3_dropOldestState 7 = .ok (.iconst 1, 1) := by decide +kernel
theorem dX3_dropOldestState_8 : decode cX3_dropOldestState 8 = .ok (.istore_n 2, 1) := by decide +kernel
theorem dX3_dropOldestState_9 : decode cX3_dropOldestState 9 = .ok (.iload_n 2, 1) := by decide +kernel
theorem dX3_dropOldestState_10 : decode cX3_dropOldestState 10 = .ok (.iconst 4, 1) := by decide +kernel
theorem dX3_dropOldestState_11 : decode cX3_dropOldestState 11 = .ok (.if_icmp .ge 23, 3) := by decide +kernel
theorem dX3_dropOldestState_14 : decode cX3_dropOldestState 14 = .ok (.aload_n 0, 1) := by decide +kernel
theorem dX3_dropOldestState_15 : decode cX3_dropOldestState 15 = .ok (.getfield 25, 3) := by decide +kernel
theorem dX3_dropOldestState_18 : decode cX3_dropOldestState 18 = .ok (.iload_n 2, 1) := by decide +kernel
theorem dX3_dropOldestState_19 : decode cX3_dropOldestState 19 = .ok (.iconst 1, 1) := by decide +kernel
theorem dX3_dropOldestState_20 : decode cX3_dropOldestState 20 = .ok (.isub, 1) := by decide +kernel
theorem dX3_dropOldestState_21 : decode cX3_dropOldestState 21 = .ok (.aload_n 0, 1) := by decide +kernel
theorem dX3_dropOldestState_22 : decode cX3_dropOldestState 22 = .ok (.getfield 25, 3) := by decide +kernel
theorem dX3_dropOldestState_25 : decode cX3_dropOldestState 25 = .ok (.iload_n 2, 1) := by decide +kernel
theorem dX3_dropOldestState_26 : decode cX3_dropOldestState 26 = .ok (.aaload, 1) := by decide +kernel
theorem dX3_dropOldestState_27 : decode cX3_dropOldestState 27 = .ok (.aastore, 1) := by decide +kernel
theorem dX3_dropOldestState_28 : decode cX3_dropOldestState 28 = .ok (.iinc 2 1, 3) := by decide +kernel
theorem dX3_dropOldestState_31 : decode cX3_dropOldestState 31 = .ok (.goto (-22), 3) := by decide +kernel
theorem dX3_dropOldestState_34 : decode cX3_dropOldestState 34 = .ok (.aload_n 0, 1) := by decide +kernel
theorem dX3_dropOldestState_35 : decode cX3_dropOldestState 35 = .ok (.getfield 25, 3) := by decide +kernel
theorem dX3_dropOldestState_38 : decode cX3_dropOldestState 38 = .ok (.iconst 3, 1) := by decide +kernel
theorem dX3_dropOldestState_39 : decode cX3_dropOldestState 39 = .ok (.aload_n 1, 1) := by decide +kernel
theorem dX3_dropOldestState_40 : decode cX3_dropOldestState 40 = .ok (.aastore, 1) := by decide +kernel
theorem dX3_dropOldestState_41 : decode cX3_dropOldestState 41 = .ok (.aload_n 0, 1) := by decide +kernel
theorem dX3_dropOldestState_42 : decode cX3_dropOldestState 42 = .ok (.iconst 3, 1) := by decide +kernel
theorem dX3_dropOldestState_43 : decode cX3_dropOldestState 43 = .ok (.putfield 36, 3) := by decide +kernel
theorem dX3_dropOldestState_46 : decode cX3_dropOldestState 46 = .ok (.return_, 1) := by decide +kernel
theorem dX3_isIn_0 : decode cX3_isIn 0 = .ok (.iload_n 0, 1) := by decide +kernel
theorem dX3_isIn_1 : decode cX3_isIn 1 = .ok (.iload_n 1, 1) := by decide +kernel
theorem dX3_isIn_2 : decode cX3_isIn 2 = .ok (.if_icmp .lt 12, 3) := by decide +kernel
theorem dX3_isIn_5 : decode cX3_isIn 5 = .ok (.iload_n 0, 1) := by decide +kernel
theorem dX3_isIn_6 : decode cX3_isIn 6 = .ok (.iload_n 2, 1) := by decide +kernel
theorem dX3_isIn_7 : decode cX3_isIn 7 = .ok (.if_icmp .gt 7, 3) := by decide +kernel
theorem dX3_isIn_10 : decode cX3_isIn 10 = .ok (.iconst 1, 1) := by decide +kernel
theorem dX3_isIn_11 : decode cX3_isIn 11 = .ok (.goto 4, 3) := by decide +kernel
theorem dX3_isIn_14 : decode cX3_isIn 14 = .ok (.iconst 0, 1) := by decide +kernel
theorem dX3_isIn_15 : decode cX3_isIn 15 = .ok (.ireturn, 1) := by decide +kernel
theorem dL_cell_0 : decode cL_cell 0 = .ok (.iload_n 1, 1) := by decide +kernel
theorem dL_cell_1 : decode cL_cell 1 = .ok (.aload_n 0, 1) := by decide +kernel
theorem dL_cell_2 : decode cL_cell 2 = .ok (.arraylength, 1) := by decide +kernel
theorem dL_cell_3 : decode cL_cell 3 = .ok (.if_icmp .ge 9, 3) := by decide +kernel
theorem dL_cell_6 : decode cL_cell 6 = .ok (.aload_n 0, 1) := by decide +kernel
theorem dL_cell_7 : decode cL_cell 7 = .ok (.iload_n 1, 1) := by decide +kernel
theorem dL_cell_8 : decode cL_cell 8 = .ok (.iaload, 1) := by decide +kernel
theorem dL_cell_9 : decode cL_cell 9 = .ok (.goto 11, 3) := by decide +kernel
theorem dL_cell_12 : decode cL_cell 12 = .ok (.ldc 7, 2) := by decide +kernel
theorem dL_cell_14 : decode cL_cell 14 = .ok (.iload_n 1, 1) := by decide +kernel
theorem dL_cell_15 : decode cL_cell 15 = .ok (.imul, 1) := by decide +kernel
theorem dL_cell_16 : decode cL_cell 16 = .ok (.sipush 977, 3) := by decide +kernel
theorem dL_cell_19 : decode cL_cell 19 = .ok (.iadd, 1) := by decide +kernel
theorem dL_cell_20 : decode cL_cell 20 = .ok (.ireturn, 1) := by decide +kernel
theorem dL_low_0 : decode cL_low 0 = .ok (.iload_n 0, 1) := by decide +kernel
theorem dL_low_1 : decode cL_low 1 = .ok (.ldc 8, 2) := by decide +kernel
theorem dL_low_3 : decode cL_low 3 = .ok (.iand, 1) := by decide +kernel
theorem dL_low_4 : decode cL_low 4 = .ok (.iload_n 1, 1) := by decide +kernel
theorem dL_low_5 : decode cL_low 5 = .ok (.irem, 1) := by decide +kernel
theorem dL_low_6 : decode cL_low 6 = .ok (.ireturn, 1) := by decide +kernel
theorem dL_act_0 : decode cL_act 0 = .ok (.iload_n 2, 1) := by decide +kernel
theorem dL_act_1 : decode cL_act 1 = .ok (.aload_n 0, 1) := by decide +kernel
theorem dL_act_2 : decode cL_act 2 = .ok (.iconst 0, 1) := by decide +kernel
theorem dL_act_3 : decode cL_act 3 = .ok (.invokevirtual 9, 3) := by decide +kernel
theorem dL_act_6 : decode cL_act 6 = .ok (.iconst 1, 1) := by decide +kernel
theorem dL_act_7 : decode cL_act 7 = .ok (.iadd, 1) := by decide +kernel
theorem dL_act_8 : decode cL_act 8 = .ok (.invokestatic 15, 3) := by decide +kernel
theorem dL_act_11 : decode cL_act 11 = .ok (.istore 4, 2) := by decide +kernel
theorem dL_act_13 : decode cL_act 13 = .ok (.iload_n 1, 1) := by decide +kernel
theorem dL_act_14 : decode cL_act 14 = .ok (.tableswitch 142 0 11 #[62, 62, 62, 99, 99, 107, 107, 107, 107, 114, 126, 137], 62) := by decide +kernel
theorem dL_act_76 : decode cL_act 76 = .ok (.aload_n 0, 1) := by decide +kernel
theorem dL_act_77 : decode cL_act 77 = .ok (.iload_n 2, 1) := by decide +kernel
theorem dL_act_78 : decode cL_act 78 = .ok (.bipush 31, 2) := by decide +kernel
theorem dL_act_80 : decode cL_act 80 = .ok (.invokestatic 15, 3) := by decide +kernel
theorem dL_act_83 : decode cL_act 83 = .ok (.iload_n 2, 1) := by decide +kernel
theorem dL_act_84 : decode cL_act 84 = .ok (.iconst 5, 1) := by decide +kernel
theorem dL_act_85 : decode cL_act 85 = .ok (.ishr, 1) := by decide +kernel
theorem dL_act_86 : decode cL_act 86 = .ok (.bipush 23, 2) := by decide +kernel
theorem dL_act_88 : decode cL_act 88 = .ok (.invokestatic 15, 3) := by decide +kernel
theorem dL_act_91 : decode cL_act 91 = .ok (.iconst 2, 1) := by decide +kernel
theorem dL_act_92 : decode cL_act 92 = .ok (.iload_n 3, 1) := by decide +kernel
theorem dL_act_93 : decode cL_act 93 = .ok (.bipush 14, 2) := by decide +kernel
theorem dL_act_95 : decode cL_act 95 = .ok (.invokestatic 15, 3) := by decide +kernel
theorem dL_act_98 : decode cL_act 98 = .ok (.iadd, 1) := by decide +kernel
theorem dL_act_99 : decode cL_act 99 = .ok (.iconst 2, 1) := by decide +kernel
theorem dL_act_100 : decode cL_act 100 = .ok (.iload_n 3, 1) := by decide +kernel
theorem dL_act_101 : decode cL_act 101 = .ok (.iconst 4, 1) := by decide +kernel
theorem dL_act_102 : decode cL_act 102 = .ok (.ishr, 1) := by decide +kernel
theorem dL_act_103 : decode cL_act 103 = .ok (.bipush 10, 2) := by decide +kernel
theorem dL_act_105 : decode cL_act 105 = .ok (.invokestatic 15, 3) := by decide +kernel
theorem dL_act_108 : decode cL_act 108 = .ok (.iadd, 1) := by decide +kernel
theorem dL_act_109 : decode cL_act 109 = .ok (.invokevirtual 21, 3) := by decide +kernel
theorem dL_act_112 : decode cL_act 112 = .ok (.ireturn, 1) := by decide +kernel
theorem dL_act_113 : decode cL_act 113 = .ok (.aload_n 0, 1) := by decide +kernel
theorem dL_act_114 : decode cL_act 114 = .ok (.iload 4, 2) := by decide +kernel
theorem dL_act_116 : decode cL_act 116 = .ok (.iload_n 3, 1) := by decide +kernel
theorem dL_act_117 : decode cL_act 117 = .ok (.invokestatic 25, 3) := by decide +kernel
theorem dL_act_120 : decode cL_act 120 = .ok (.ireturn, 1) := by decide +kernel
theorem dL_act_121 : decode cL_act 121 = .ok (.aload_n 0, 1) := by decide +kernel
theorem dL_act_122 : decode cL_act 122 = .ok (.iload 4, 2) := by decide +kernel
theorem dL_act_124 : decode cL_act 124 = .ok (.invokevirtual 29, 3) := by decide +kernel
theorem dL_act_127 : decode cL_act 127 = .ok (.ireturn, 1) := by decide +kernel
theorem dL_act_128 : decode cL_act 128 = .ok (.aload_n 0, 1) := by decide +kernel
theorem dL_act_129 : decode cL_act 129 = .ok (.iload 4, 2) := by decide +kernel
theorem dL_act_131 : decode cL_act 131 = .ok (.iload_n 3, 1) := by decide +kernel
theorem dL_act_132 : decode cL_act 132 = .ok (.iconst 5, 1) := by decide +kernel
theorem dL_act_133 : decode cL_act 133 = .ok (.invokestatic 15, 3) := by decide +kernel
theorem dL_act_136 : decode cL_act 136 = .ok (.invokevirtual 32, 3) := by decide +kernel
theorem dL_act_139 : decode cL_act 139 = .ok (.ireturn, 1) := by decide +kernel
theorem dL_act_140 : decode cL_act 140 = .ok (.aload_n 0, 1) := by decide +kernel
theorem dL_act_141 : decode cL_act 141 = .ok (.iload_n 2, 1) := by decide +kernel
theorem dL_act_142 : decode cL_act 142 = .ok (.bipush 60, 2) := by decide +kernel
theorem dL_act_144 : decode cL_act 144 = .ok (.invokestatic 15, 3) := by decide +kernel
theorem dL_act_147 : decode cL_act 147 = .ok (.invokevirtual 35, 3) := by decide +kernel
theorem dL_act_150 : decode cL_act 150 = .ok (.ireturn, 1) := by decide +kernel
theorem dL_act_151 : decode cL_act 151 = .ok (.aload_n 0, 1) := by decide +kernel
theorem dL_act_152 : decode cL_act 152 = .ok (.invokevirtual 38, 3) := by decide +kernel
theorem dL_act_155 : decode cL_act 155 = .ok (.ireturn, 1) := by decide +kernel
theorem dL_act_156 : decode cL_act 156 = .ok (.iload_n 2, 1) := by decide +kernel
theorem dL_act_157 : decode cL_act 157 = .ok (.iconst 5, 1) := by decide +kernel
theorem dL_act_158 : decode cL_act 158 = .ok (.invokestatic 15, 3) := by decide +kernel
theorem dL_act_161 : decode cL_act 161 = .ok (.istore 5, 2) := by decide +kernel
theorem dL_act_163 : decode cL_act 163 = .ok (.aload_n 0, 1) := by decide +kernel
theorem dL_act_164 : decode cL_act 164 = .ok (.iload 5, 2) := by decide +kernel
theorem dL_act_166 : decode cL_act 166 = .ok (.iload 5, 2) := by decide +kernel
theorem dL_act_168 : decode cL_act 168 = .ok (.iconst 2, 1) := by decide +kernel
theorem dL_act_169 : decode cL_act 169 = .ok (.if_icmp .ne 12, 3) := by decide +kernel
theorem dL_act_172 : decode cL_act 172 = .ok (.iload_n 3, 1) := by decide +kernel
theorem dL_act_173 : decode cL_act 173 = .ok (.bipush 120, 2) := by decide +kernel
theorem dL_act_175 : decode cL_act 175 = .ok (.invokestatic 15, 3) := by decide +kernel
theorem dL_act_178 : decode cL_act 178 = .ok (.goto 21, 3) := by decide +kernel
theorem dL_act_181 : decode cL_act 181 = .ok (.iload 5, 2) := by decide +kernel
theorem dL_act_183 : decode cL_act 183 = .ok (.iconst 3, 1) := by decide +kernel
theorem dL_act_184 : decode cL_act 184 = .ok (.if_icmp .ne 9, 3) := by decide +kernel
theorem dL_act_187 : decode cL_act 187 = .ok (.iload_n 3, 1) := by decide +kernel
theorem dL_act_188 : decode cL_act 188 = .ok (.iconst 1, 1) := by decide +kernel
theorem dL_act_189 : decode cL_act 189 = .ok (.iand, 1) := by decide +kernel
theorem dL_act_190 : decode cL_act 190 = .ok (.goto 9, 3) := by decide +kernel
theorem dL_act_193 : decode cL_act 193 = .ok (.iload_n 3, 1) := by decide +kernel
theorem dL_act_194 : decode cL_act 194 = .ok (.bipush 9, 2) := by decide +kernel
theorem dL_act_196 : decode cL_act 196 = .ok (.invokestatic 15, 3) := by decide +kernel
theorem dL_act_199 : decode cL_act 199 = .ok (.invokevirtual 42, 3) := by decide +kernel
theorem dL_act_202 : decode cL_act 202 = .ok (.ireturn, 1) := by decide +kernel
theorem dL_within_0 : decode cL_within 0 = .ok (.iload_n 1, 1) := by decide +kernel
theorem dL_within_1 : decode cL_within 1 = .ok (.aload_n 0, 1) := by decide +kernel
theorem dL_within_2 : decode cL_within 2 = .ok (.iconst 0, 1) := by decide +kernel
theorem dL_within_3 : decode cL_within 3 = .ok (.invokevirtual 9, 3) := by decide +kernel
theorem dL_within_6 : decode cL_within 6 = .ok (.if_icmp .eq 23, 3) := by decide +kernel
theorem dL_within_9 : decode cL_within 9 = .ok (.aload_n 0, 1) := by decide +kernel
theorem dL_within_10 : decode cL_within 10 = .ok (.iload_n 1, 1) := by decide +kernel
theorem dL_within_11 : decode cL_within 11 = .ok (.iconst 2, 1) := by decide +kernel
theorem dL_within_12 : decode cL_within 12 = .ok (.invokevirtual 45, 3) := by decide +kernel
theorem dL_within_15 : decode cL_within 15 = .ok (.iconst 4, 1) := by decide +kernel
theorem dL_within_16 : decode cL_within 16 = .ok (.if_icmp .lt 13, 3) := by decide +kernel
theorem dL_within_19 : decode cL_within 19 = .ok (.aload_n 0, 1) := by decide +kernel
theorem dL_within_20 : decode cL_within 20 = .ok (.iload_n 1, 1) := by decide +kernel
theorem dL_within_21 : decode cL_within 21 = .ok (.iconst 3, 1) := by decide +kernel
theorem dL_within_22 : decode cL_within 22 = .ok (.invokevirtual 45, 3) := by decide +kernel
theorem dL_within_25 : decode cL_within 25 = .ok (.iconst 4, 1) := by decide +kernel
theorem dL_within_26 : decode cL_within 26 = .ok (.if_icmp .ge 13, 3) := by decide +kernel
theorem dL_within_29 : decode cL_within 29 = .ok (.aload_n 0, 1) := by decide +kernel
theorem dL_within_30 : decode cL_within 30 = .ok (.iconst 0, 1) := by decide +kernel
theorem dL_within_31 : decode cL_within 31 = .ok (.iconst 0, 1) := by decide +kernel
theorem dL_within_32 : decode cL_within 32 = .ok (.bipush 33, 2) := by decide +kernel
theorem dL_within_34 : decode cL_within 34 = .ok (.iconst 2, 1) := by decide +kernel
theorem dL_within_35 : decode cL_within 35 = .ok (.invokevirtual 21, 3) := by decide +kernel
theorem dL_within_38 : decode cL_within 38 = .ok (.ireturn, 1) := by decide +kernel
theorem dL_within_39 : decode cL_within 39 = .ok (.iconst 2, 1) := by decide +kernel
theorem dL_within_40 : decode cL_within 40 = .ok (.iload_n 2, 1) := by decide +kernel
theorem dL_within_41 : decode cL_within 41 = .ok (.aload_n 0, 1) := by decide +kernel
theorem dL_within_42 : decode cL_within 42 = .ok (.iload_n 1, 1) := by decide +kernel
theorem dL_within_43 : decode cL_within 43 = .ok (.iconst 2, 1) := by decide +kernel
theorem dL_within_44 : decode cL_within 44 = .ok (.invokevirtual 45, 3) := by decide +kernel
theorem dL_within_47 : decode cL_within 47 = .ok (.iconst 3, 1) := by decide +kernel
theorem dL_within_48 : decode cL_within 48 = .ok (.isub, 1) := by decide +kernel
theorem dL_within_49 : decode cL_within 49 = .ok (.invokestatic 15, 3) := by decide +kernel
theorem dL_within_52 : decode cL_within 52 = .ok (.iadd, 1) := by decide +kernel
theorem dL_within_53 : decode cL_within 53 = .ok (.istore_n 3, 1) := by decide +kernel
theorem dL_within_54 : decode cL_within 54 = .ok (.iconst 2, 1) := by decide +kernel
theorem dL_within_55 : decode cL_within 55 = .ok (.iload_n 2, 1) := by decide +kernel
theorem dL_within_56 : decode cL_within 56 = .ok (.iconst 5, 1) := by decide +kernel
theorem dL_within_57 : decode cL_within 57 = .ok (.ishr, 1) := by decide +kernel
theorem dL_within_58 : decode cL_within 58 = .ok (.aload_n 0, 1) := by decide +kernel
theorem dL_within_59 : decode cL_within 59 = .ok (.iload_n 1, 1) := by decide +kernel
theorem dL_within_60 : decode cL_within 60 = .ok (.iconst 3, 1) := by decide +kernel
theorem dL_within_61 : decode cL_within 61 = .ok (.invokevirtual 45, 3) := by decide +kernel
theorem dL_within_64 : decode cL_within 64 = .ok (.iconst 3, 1) := by decide +kernel
theorem dL_within_65 : decode cL_within 65 = .ok (.isub, 1) := by decide +kernel
theorem dL_within_66 : decode cL_within 66 = .ok (.invokestatic 15, 3) := by decide +kernel
theorem dL_within_69 : decode cL_within 69 = .ok (.iadd, 1) := by decide +kernel
theorem dL_within_70 : decode cL_within 70 = .ok (.istore 4, 2) := by decide +kernel
theorem dL_within_72 : decode cL_within 72 = .ok (.aload_n 0, 1) := by decide +kernel
theorem dL_within_73 : decode cL_within 73 = .ok (.aload_n 0, 1) := by decide +kernel
theorem dL_within_74 : decode cL_within 74 = .ok (.iload_n 1, 1) := by decide +kernel
theorem dL_within_75 : decode cL_within 75 = .ok (.iconst 0, 1) := by decide +kernel
theorem dL_within_76 : decode cL_within 76 = .ok (.invokevirtual 45, 3) := by decide +kernel
theorem dL_within_79 : decode cL_within 79 = .ok (.iconst 1, 1) := by decide +kernel
theorem dL_within_80 : decode cL_within 80 = .ok (.iadd, 1) := by decide +kernel
theorem dL_within_81 : decode cL_within 81 = .ok (.aload_n 0, 1) := by decide +kernel
theorem dL_within_82 : decode cL_within 82 = .ok (.iload_n 1, 1) := by decide +kernel
theorem dL_within_83 : decode cL_within 83 = .ok (.iconst 1, 1) := by decide +kernel
theorem dL_within_84 : decode cL_within 84 = .ok (.invokevirtual 45, 3) := by decide +kernel
theorem dL_within_87 : decode cL_within 87 = .ok (.iconst 1, 1) := by decide +kernel
theorem dL_within_88 : decode cL_within 88 = .ok (.iadd, 1) := by decide +kernel
theorem dL_within_89 : decode cL_within 89 = .ok (.iload_n 3, 1) := by decide +kernel
theorem dL_within_90 : decode cL_within 90 = .ok (.iload 4, 2) := by decide +kernel
theorem dL_within_92 : decode cL_within 92 = .ok (.invokevirtual 21, 3) := by decide +kernel
theorem dL_within_95 : decode cL_within 95 = .ok (.ireturn, 1) := by decide +kernel
theorem dL_isInside_0 : decode cL_isInside 0 = .ok (.aload_n 0, 1) := by decide +kernel
theorem dL_isInside_1 : decode cL_isInside 1 = .ok (.iload_n 1, 1) := by decide +kernel
theorem dL_isInside_2 : decode cL_isInside 2 = .ok (.iconst 0, 1) := by decide +kernel
theorem dL_isInside_3 : decode cL_isInside 3 = .ok (.invokevirtual 45, 3) := by decide +kernel
theorem dL_isInside_6 : decode cL_isInside 6 = .ok (.aload_n 0, 1) := by decide +kernel
theorem dL_isInside_7 : decode cL_isInside 7 = .ok (.iload_n 2, 1) := by decide +kernel
theorem dL_isInside_8 : decode cL_isInside 8 = .ok (.iconst 0, 1) := by decide +kernel
theorem dL_isInside_9 : decode cL_isInside 9 = .ok (.invokevirtual 45, 3) := by decide +kernel
theorem dL_isInside_12 : decode cL_isInside 12 = .ok (.if_icmp .le 36, 3) := by decide +kernel
theorem dL_isInside_15 : decode cL_isInside 15 = .ok (.aload_n 0, 1) := by decide +kernel
theorem dL_isInside_16 : decode cL_isInside 16 = .ok (.iload_n 1, 1) := by decide +kernel
theorem dL_isInside_17 : decode cL_isInside 17 = .ok (.iconst 0, 1) := by decide +kernel
theorem dL_isInside_18 : decode cL_isInside 18 = .ok (.invokevirtual 45, 3) := by decide +kernel
theorem dL_isInside_21 : decode cL_isInside 21 = .ok (.aload_n 0, 1) := by decide +kernel
theorem dL_isInside_22 : decode cL_isInside 22 = .ok (.iload_n 1, 1) := by decide +kernel
theorem dL_isInside_23 : decode cL_isInside 23 = .ok (.iconst 2, 1) := by decide +kernel
theorem dL_isInside_24 : decode cL_isInside 24 = .ok (.invokevirtual 45, 3) := by decide +kernel
theorem dL_isInside_27 : decode cL_isInside 27 = .ok (.iadd, 1) := by decide +kernel
theorem dL_isInside_28 : decode cL_isInside 28 = .ok (.aload_n 0, 1) := by decide +kernel
theorem dL_isInside_29 : decode cL_isInside 29 = .ok (.iload_n 2, 1) := by decide +kernel
theorem dL_isInside_30 : decode cL_isInside 30 = .ok (.iconst 0, 1) := by decide +kernel
theorem dL_isInside_31 : decode cL_isInside 31 = .ok (.invokevirtual 45, 3) := by decide +kernel
theorem dL_isInside_34 : decode cL_isInside 34 = .ok (.aload_n 0, 1) := by decide +kernel
theorem dL_isInside_35 : decode cL_isInside 35 = .ok (.iload_n 2, 1) := by decide +kernel
theorem dL_isInside_36 : decode cL_isInside 36 = .ok (.iconst 2, 1) := by decide +kernel
theorem dL_isInside_37 : decode cL_isInside 37 = .ok (.invokevirtual 45, 3) := by decide +kernel
theorem dL_isInside_40 : decode cL_isInside 40 = .ok (.iadd, 1) := by decide +kernel
theorem dL_isInside_41 : decode cL_isInside 41 = .ok (.if_icmp .ge 7, 3) := by decide +kernel
theorem dL_isInside_44 : decode cL_isInside 44 = .ok (.iconst 1, 1) := by decide +kernel
theorem dL_isInside_45 : decode cL_isInside 45 = .ok (.goto 4, 3) := by decide +kernel
theorem dL_isInside_48 : decode cL_isInside 48 = .ok (.iconst 0, 1) := by decide +kernel
theorem dL_isInside_49 : decode cL_isInside 49 = .ok (.istore_n 3, 1) := by decide +kernel
theorem dL_isInside_50 : decode cL_isInside 50 = .ok (.iload_n 3, 1) := by decide +kernel
theorem dL_isInside_51 : decode cL_isInside 51 = .ok (.ifCond .eq 51, 3) := by decide +kernel
theorem dL_isInside_54 : decode cL_isInside 54 = .ok (.aload_n 0, 1) := by decide +kernel
theorem dL_isInside_55 : decode cL_isInside 55 = .ok (.iload_n 1, 1) := by decide +kernel
theorem dL_isInside_56 : decode cL_isInside 56 = .ok (.iconst 1, 1) := by decide +kernel
theorem dL_isInside_57 : decode cL_isInside 57 = .ok (.invokevirtual 45, 3) := by decide +kernel
theorem dL_isInside_60 : decode cL_isInside 60 = .ok (.aload_n 0, 1) := by decide +kernel
theorem dL_isInside_61 : decode cL_isInside 61 = .ok (.iload_n 2, 1) := by decide +kernel
theorem dL_isInside_62 : decode cL_isInside 62 = .ok (.iconst 1, 1) := by decide +kernel
theorem dL_isInside_63 : decode cL_isInside 63 = .ok (.invokevirtual 45, 3) := by decide +kernel
theorem dL_isInside_66 : decode cL_isInside 66 = .ok (.if_icmp .le 36, 3) := by decide +kernel
theorem dL_isInside_69 : decode cL_isInside 69 = .ok (.aload_n 0, 1) := by decide +kernel
theorem dL_isInside_70 : decode cL_isInside 70 = .ok (.iload_n 1, 1) := by decide +kernel
theorem dL_isInside_71 : decode cL_isInside 71 = .ok (.iconst 1, 1) := by decide +kernel
theorem dL_isInside_72 : decode cL_isInside 72 = .ok (.invokevirtual 45, 3) := by decide +kernel
theorem dL_isInside_75 : decode cL_isInside 75 = .ok (.aload_n 0, 1) := by decide +kernel
theorem dL_isInside_76 : decode cL_isInside 76 = .ok (.iload_n 1, 1) := by decide +kernel
theorem dL_isInside_77 : decode cL_isInside 77 = .ok (.iconst 3, 1) := by decide +kernel
theorem dL_isInside_78 : decode cL_isInside 78 = .ok (.invokevirtual 45, 3) := by decide +kernel
theorem dL_isInside_81 : decode cL_isInside 81 = .ok (.iadd, 1) := by decide +kernel
theorem dL_isInside_82 : decode cL_isInside 82 = .ok (.aload_n 0, 1) := by decide +kernel
theorem dL_isInside_83 : decode cL_isInside 83 = .ok (.iload_n 2, 1) := by decide +kernel
theorem dL_isInside_84 : decode cL_isInside 84 = .ok (.iconst 1, 1) := by decide +kernel
theorem dL_isInside_85 : decode cL_isInside 85 = .ok (.invokevirtual 45, 3) := by decide +kernel
theorem dL_isInside_88 : decode cL_isInside 88 = .ok (.aload_n 0, 1) := by decide +kernel
theorem dL_isInside_89 : decode cL_isInside 89 = .ok (.iload_n 2, 1) := by decide +kernel
theorem dL_isInside_90 : decode cL_isInside 90 = .ok (.iconst 3, 1) := by decide +kernel
theorem dL_isInside_91 : decode cL_isInside 91 = .ok (.invokevirtual 45, 3) := by decide +kernel
theorem dL_isInside_94 : decode cL_isInside 94 = .ok (.iadd, 1) := by decide +kernel
theorem dL_isInside_95 : decode cL_isInside 95 = .ok (.if_icmp .ge 7, 3) := by decide +kernel
theorem dL_isInside_98 : decode cL_isInside 98 = .ok (.iconst 1, 1) := by decide +kernel
theorem dL_isInside_99 : decode cL_isInside 99 = .ok (.goto 4, 3) := by decide +kernel
theorem dL_isInside_102 : decode cL_isInside 102 = .ok (.iconst 0, 1) := by decide +kernel
theorem dL_isInside_103 : decode cL_isInside 103 = .ok (.ireturn, 1) := by decide +kernel
theorem dL_isEdge_0 : decode cL_isEdge 0 = .ok (.iload_n 2, 1) := by decide +kernel
theorem dL_isEdge_1 : decode cL_isEdge 1 = .ok (.aload_n 0, 1) := by decide +kernel
theorem dL_isEdge_2 : decode cL_isEdge 2 = .ok (.iload_n 1, 1) := by decide +kernel
theorem dL_isEdge_3 : decode cL_isEdge 3 = .ok (.iconst 0, 1) := by decide +kernel
theorem dL_isEdge_4 : decode cL_isEdge 4 = .ok (.invokevirtual 45, 3) := by decide +kernel
theorem dL_isEdge_7 : decode cL_isEdge 7 = .ok (.isub, 1) := by decide +kernel
theorem dL_isEdge_8 : decode cL_isEdge 8 = .ok (.istore 4, 2) := by decide +kernel
theorem dL_isEdge_10 : decode cL_isEdge 10 = .ok (.iload_n 3, 1) := by decide +kernel
theorem dL_isEdge_11 : decode cL_isEdge 11 = .ok (.aload_n 0, 1) := by decide +kernel
theorem dL_isEdge_12 : decode cL_isEdge 12 = .ok (.iload_n 1, 1) := by decide +kernel
theorem dL_isEdge_13 : decode cL_isEdge 13 = .ok (.iconst 1, 1) := by decide +kernel
theorem dL_isEdge_14 : decode cL_isEdge 14 = .ok (.invokevirtual 45, 3) := by decide +kernel
theorem dL_isEdge_17 : decode cL_isEdge 17 = .ok (.isub, 1) := by decide +kernel
theorem dL_isEdge_18 : decode cL_isEdge 18 = .ok (.istore 5, 2) := by decide +kernel
theorem dL_isEdge_20 : decode cL_isEdge 20 = .ok (.iload 4, 2) := by decide +kernel
theorem dL_isEdge_22 : decode cL_isEdge 22 = .ok (.ifCond .lt 34, 3) := by decide +kernel
theorem dL_isEdge_25 : decode cL_isEdge 25 = .ok (.iload 5, 2) := by decide +kernel
theorem dL_isEdge_27 : decode cL_isEdge 27 = .ok (.ifCond .lt 29, 3) := by decide +kernel
theorem dL_isEdge_30 : decode cL_isEdge 30 = .ok (.iload 4, 2) := by decide +kernel
theorem dL_isEdge_32 : decode cL_isEdge 32 = .ok (.aload_n 0, 1) := by decide +kernel
theorem dL_isEdge_33 : decode cL_isEdge 33 = .ok (.iload_n 1, 1) := by decide +kernel
theorem dL_isEdge_34 : decode cL_isEdge 34 = .ok (.iconst 2, 1) := by decide +kernel
theorem dL_isEdge_35 : decode cL_isEdge 35 = .ok (.invokevirtual 45, 3) := by decide +kernel
theorem dL_isEdge_38 : decode cL_isEdge 38 = .ok (.if_icmp .ge 18, 3) := by decide +kernel
theorem dL_isEdge_41 : decode cL_isEdge 41 = .ok (.iload 5, 2) := by decide +kernel
theorem dL_isEdge_43 : decode cL_isEdge 43 = .ok (.aload_n 0, 1) := by decide +kernel
theorem dL_isEdge_44 : decode cL_isEdge 44 = .ok (.iload_n 1, 1) := by decide +kernel
theorem dL_isEdge_45 : decode cL_isEdge 45 = .ok (.iconst 3, 1) := by decide +kernel
theorem dL_isEdge_46 : decode cL_isEdge 46 = .ok (.invokevirtual 45, 3) := by decide +kernel
theorem dL_isEdge_49 : decode cL_isEdge 49 = .ok (.if_icmp .ge 7, 3) := by decide +kernel
theorem dL_isEdge_52 : decode cL_isEdge 52 = .ok (.iconst 1, 1) := by decide +kernel
theorem dL_isEdge_53 : decode cL_isEdge 53 = .ok (.goto 4, 3) := by decide +kernel
theorem dL_isEdge_56 : decode cL_isEdge 56 = .ok (.iconst 0, 1) := by decide +kernel
theorem dL_isEdge_57 : decode cL_isEdge 57 = .ok (.istore 6, 2) := by decide +kernel
theorem dL_isEdge_59 : decode cL_isEdge 59 = .ok (.iload 6, 2) := by decide +kernel
theorem dL_isEdge_61 : decode cL_isEdge 61 = .ok (.ifCond .eq 43, 3) := by decide +kernel
theorem dL_isEdge_64 : decode cL_isEdge 64 = .ok (.iload 4, 2) := by decide +kernel
theorem dL_isEdge_66 : decode cL_isEdge 66 = .ok (.ifCond .eq 34, 3) := by decide +kernel
theorem dL_isEdge_69 : decode cL_isEdge 69 = .ok (.iload 5, 2) := by decide +kernel
theorem dL_isEdge_71 : decode cL_isEdge 71 = .ok (.ifCond .eq 29, 3) := by decide +kernel
theorem dL_isEdge_74 : decode cL_isEdge 74 = .ok (.iload 4, 2) := by decide +kernel
theorem dL_isEdge_76 : decode cL_isEdge 76 = .ok (.aload_n 0, 1) := by decide +kernel
theorem dL_isEdge_77 : decode cL_isEdge 77 = .ok (.iload_n 1, 1) := by decide +kernel
theorem dL_isEdge_78 : decode cL_isEdge 78 = .ok (.iconst 2, 1) := by decide +kernel
theorem dL_isEdge_79 : decode cL_isEdge 79 = .ok (.invokevirtual 45, 3) := by decide +kernel
theorem dL_isEdge_82 : decode cL_isEdge 82 = .ok (.iconst 1, 1) := by decide +kernel
theorem dL_isEdge_83 : decode cL_isEdge 83 = .ok (.isub, 1) := by decide +kernel
theorem dL_isEdge_84 : decode cL_isEdge 84 = .ok (.if_icmp .eq 16, 3) := by decide +kernel
theorem dL_isEdge_87 : decode cL_isEdge 87 = .ok (.iload 5, 2) := by decide +kernel
theorem dL_isEdge_89 : decode cL_isEdge 89 = .ok (.aload_n 0, 1) := by decide +kernel
theorem dL_isEdge_90 : decode cL_isEdge 90 = .ok (.iload_n 1, 1) := by decide +kernel
theorem dL_isEdge_91 : decode cL_isEdge 91 = .ok (.iconst 3, 1) := by decide +kernel
theorem dL_isEdge_92 : decode cL_isEdge 92 = .ok (.invokevirtual 45, 3) := by decide +kernel
theorem dL_isEdge_95 : decode cL_isEdge 95 = .ok (.iconst 1, 1) := by decide +kernel
theorem dL_isEdge_96 : decode cL_isEdge 96 = .ok (.isub, 1) := by decide +kernel
theorem dL_isEdge_97 : decode cL_isEdge 97 = .ok (.if_icmp .ne 7, 3) := by decide +kernel
theorem dL_isEdge_100 : decode cL_isEdge 100 = .ok (.iconst 1, 1) := by decide +kernel
theorem dL_isEdge_101 : decode cL_isEdge 101 = .ok (.goto 4, 3) := by decide +kernel
theorem dL_isEdge_104 : decode cL_isEdge 104 = .ok (.iconst 0, 1) := by decide +kernel
theorem dL_isEdge_105 : decode cL_isEdge 105 = .ok (.ireturn, 1) := by decide +kernel
theorem dL_edgeIn_0 : decode cL_edgeIn 0 = .ok (.iconst 0, 1) := by decide +kernel
theorem dL_edgeIn_1 : decode cL_edgeIn 1 = .ok (.istore_n 3, 1) := by decide +kernel
theorem dL_edgeIn_2 : decode cL_edgeIn 2 = .ok (.iconst 0, 1) := by decide +kernel
theorem dL_edgeIn_3 : decode cL_edgeIn 3 = .ok (.istore 4, 2) := by decide +kernel
theorem dL_edgeIn_5 : decode cL_edgeIn 5 = .ok (.iload 4, 2) := by decide +kernel
theorem dL_edgeIn_7 : decode cL_edgeIn 7 = .ok (.bipush 64, 2) := by decide +kernel
theorem dL_edgeIn_9 : decode cL_edgeIn 9 = .ok (.if_icmp .ge 49, 3) := by decide +kernel
theorem dL_edgeIn_12 : decode cL_edgeIn 12 = .ok (.iload_n 3, 1) := by decide +kernel
theorem dL_edgeIn_13 : decode cL_edgeIn 13 = .ok (.aload_n 0, 1) := by decide +kernel
theorem dL_edgeIn_14 : decode cL_edgeIn 14 = .ok (.iload_n 1, 1) := by decide +kernel
theorem dL_edgeIn_15 : decode cL_edgeIn 15 = .ok (.iload_n 2, 1) := by decide +kernel
theorem dL_edgeIn_16 : decode cL_edgeIn 16 = .ok (.iconst 4, 1) := by decide +kernel
theorem dL_edgeIn_17 : decode cL_edgeIn 17 = .ok (.irem, 1) := by decide +kernel
theorem dL_edgeIn_18 : decode cL_edgeIn 18 = .ok (.bipush 8, 2) := by decide +kernel
theorem dL_edgeIn_20 : decode cL_edgeIn 20 = .ok (.imul, 1) := by decide +kernel
theorem dL_edgeIn_21 : decode cL_edgeIn 21 = .ok (.iload 4, 2) := by decide +kernel
theorem dL_edgeIn_23 : decode cL_edgeIn 23 = .ok (.bipush 8, 2) := by decide +kernel
theorem dL_edgeIn_25 : decode cL_edgeIn 25 = .ok (.irem, 1) := by decide +kernel
theorem dL_edgeIn_26 : decode cL_edgeIn 26 = .ok (.iadd, 1) := by decide +kernel
theorem dL_edgeIn_27 : decode cL_edgeIn 27 = .ok (.iload_n 2, 1) := by decide +kernel
theorem dL_edgeIn_28 : decode cL_edgeIn 28 = .ok (.iconst 4, 1) := by decide +kernel
theorem dL_edgeIn_29 : decode cL_edgeIn 29 = .ok (.idiv, 1) := by decide +kernel
theorem dL_edgeIn_30 : decode cL_edgeIn 30 = .ok (.bipush 8, 2) := by decide +kernel
theorem dL_edgeIn_32 : decode cL_edgeIn 32 = .ok (.imul, 1) := by decide +kernel
theorem dL_edgeIn_33 : decode cL_edgeIn 33 = .ok (.iload 4, 2) := by decide +kernel
theorem dL_edgeIn_35 : decode cL_edgeIn 35 = .ok (.bipush 8, 2) := by decide +kernel
theorem dL_edgeIn_37 : decode cL_edgeIn 37 = .ok (.idiv, 1) := by decide +kernel
theorem dL_edgeIn_38 : decode cL_edgeIn 38 = .ok (.iadd, 1) := by decide +kernel
theorem dL_edgeIn_39 : decode cL_edgeIn 39 = .ok (.invokestatic 48, 3) := by decide +kernel
theorem dL_edgeIn_42 : decode cL_edgeIn 42 = .ok (.ifCond .eq 7, 3) := by decide +kernel
theorem dL_edgeIn_45 : decode cL_edgeIn 45 = .ok (.iconst 1, 1) := by decide +kernel
theorem dL_edgeIn_46 : decode cL_edgeIn 46 = .ok (.goto 4, 3) := by decide +kernel
theorem dL_edgeIn_49 : decode cL_edgeIn 49 = .ok (.iconst 0, 1) := by decide +kernel
theorem dL_edgeIn_50 : decode cL_edgeIn 50 = .ok (.iadd, 1) := by decide +kernel
theorem dL_edgeIn_51 : decode cL_edgeIn 51 = .ok (.istore_n 3, 1) := by decide +kernel
theorem dL_edgeIn_52 : decode cL_edgeIn 52 = .ok (.iinc 4 1, 3) := by decide +kernel
theorem dL_edgeIn_55 : decode cL_edgeIn 55 = .ok (.goto (-50), 3) := by decide +kernel
theorem dL_edgeIn_58 : decode cL_edgeIn 58 = .ok (.iload_n 3, 1) := by decide +kernel
theorem dL_edgeIn_59 : decode cL_edgeIn 59 = .ok (.ireturn, 1) := by decide +kernel
theorem dL_off_0 : decode cL_off 0 = .ok (.iload_n 0, 1) := by decide +kernel
theorem dL_off_1 : decode cL_off 1 = .ok (.iload_n 1, 1) := by decide +kernel
theorem dL_off_2 : decode cL_off 2 = .ok (.if_icmp .le 9, 3) := by decide +kernel
theorem dL_off_5 : decode cL_off 5 = .ok (.iload_n 0, 1) := by decide +kernel
theorem dL_off_6 : decode cL_off 6 = .ok (.iload_n 1, 1) := by decide +kernel
theorem dL_off_7 : decode cL_off 7 = .ok (.isub, 1) := by decide +kernel
theorem dL_off_8 : decode cL_off 8 = .ok (.goto 6, 3) := by decide +kernel
theorem dL_off_11 : decode cL_off 11 = .ok (.iload_n 1, 1) := by decide +kernel
theorem dL_off_12 : decode cL_off 12 = .ok (.iload_n 0, 1) := by decide +kernel
theorem dL_off_13 : decode cL_off 13 = .ok (.isub, 1) := by decide +kernel
theorem dL_off_14 : decode cL_off 14 = .ok (.ireturn, 1) := by decide +kernel
theorem dL_goes_0 : decode cL_goes 0 = .ok (.aload_n 0, 1) := by decide +kernel
theorem dL_goes_1 : decode cL_goes 1 = .ok (.iload_n 1, 1) := by decide +kernel
theorem dL_goes_2 : decode cL_goes 2 = .ok (.iconst 4, 1) := by decide +kernel
theorem dL_goes_3 : decode cL_goes 3 = .ok (.invokevirtual 45, 3) := by decide +kernel
theorem dL_goes_6 : decode cL_goes 6 = .ok (.istore_n 2, 1) := by decide +kernel
theorem dL_goes_7 : decode cL_goes 7 = .ok (.aload_n 0, 1) := by decide +kernel
theorem dL_goes_8 : decode cL_goes 8 = .ok (.iload_n 1, 1) := by decide +kernel
theorem dL_goes_9 : decode cL_goes 9 = .ok (.iconst 0, 1) := by decide +kernel
theorem dL_goes_10 : decode cL_goes 10 = .ok (.invokevirtual 45, 3) := by decide +kernel
theorem dL_goes_13 : decode cL_goes 13 = .ok (.iload_n 2, 1) := by decide +kernel
theorem dL_goes_14 : decode cL_goes 14 = .ok (.iconst 1, 1) := by decide +kernel
theorem dL_goes_15 : decode cL_goes 15 = .ok (.if_icmp .eq 8, 3) := by decide +kernel
theorem dL_goes_18 : decode cL_goes 18 = .ok (.iload_n 2, 1) := by decide +kernel
theorem dL_goes_19 : decode cL_goes 19 = .ok (.iconst 2, 1) := by decide +kernel
theorem dL_goes_20 : decode cL_goes 20 = .ok (.if_icmp .ne 14, 3) := by decide +kernel
theorem dL_goes_23 : decode cL_goes 23 = .ok (.aload_n 0, 1) := by decide +kernel
theorem dL_goes_24 : decode cL_goes 24 = .ok (.iload_n 1, 1) := by decide +kernel
theorem dL_goes_25 : decode cL_goes 25 = .ok (.iconst 2, 1) := by decide +kernel
theorem dL_goes_26 : decode cL_goes 26 = .ok (.invokevirtual 45, 3) := by decide +kernel
theorem dL_goes_29 : decode cL_goes 29 = .ok (.iconst 1, 1) := by decide +kernel
theorem dL_goes_30 : decode cL_goes 30 = .ok (.isub, 1) := by decide +kernel
theorem dL_goes_31 : decode cL_goes 31 = .ok (.goto 4, 3) := by decide +kernel
theorem dL_goes_34 : decode cL_goes 34 = .ok (.iconst 0, 1) := by decide +kernel
theorem dL_goes_35 : decode cL_goes 35 = .ok (.iadd, 1) := by decide +kernel
theorem dL_goes_36 : decode cL_goes 36 = .ok (.istore_n 3, 1) := by decide +kernel
theorem dL_goes_37 : decode cL_goes 37 = .ok (.aload_n 0, 1) := by decide +kernel
theorem dL_goes_38 : decode cL_goes 38 = .ok (.iload_n 1, 1) := by decide +kernel
theorem dL_goes_39 : decode cL_goes 39 = .ok (.iconst 1, 1) := by decide +kernel
theorem dL_goes_40 : decode cL_goes 40 = .ok (.invokevirtual 45, 3) := by decide +kernel
theorem dL_goes_43 : decode cL_goes 43 = .ok (.iload_n 2, 1) := by decide +kernel
theorem dL_goes_44 : decode cL_goes 44 = .ok (.iconst 1, 1) := by decide +kernel
theorem dL_goes_45 : decode cL_goes 45 = .ok (.if_icmp .le 14, 3) := by decide +kernel
theorem dL_goes_48 : decode cL_goes 48 = .ok (.aload_n 0, 1) := by decide +kernel
theorem dL_goes_49 : decode cL_goes 49 = .ok (.iload_n 1, 1) := by decide +kernel
theorem dL_goes_50 : decode cL_goes 50 = .ok (.iconst 3, 1) := by decide +kernel
theorem dL_goes_51 : decode cL_goes 51 = .ok (.invokevirtual 45, 3) := by decide +kernel
theorem dL_goes_54 : decode cL_goes 54 = .ok (.iconst 1, 1) := by decide +kernel
theorem dL_goes_55 : decode cL_goes 55 = .ok (.isub, 1) := by decide +kernel
theorem dL_goes_56 : decode cL_goes 56 = .ok (.goto 4, 3) := by decide +kernel
theorem dL_goes_59 : decode cL_goes 59 = .ok (.iconst 0, 1) := by decide +kernel
theorem dL_goes_60 : decode cL_goes 60 = .ok (.iadd, 1) := by decide +kernel
theorem dL_goes_61 : decode cL_goes 61 = .ok (.istore 4, 2) := by decide +kernel
theorem dL_goes_63 : decode cL_goes 63 = .ok (.iload_n 3, 1) := by decide +kernel
theorem dL_goes_64 : decode cL_goes 64 = .ok (.aload_n 0, 1) := by decide +kernel
theorem dL_goes_65 : decode cL_goes 65 = .ok (.bipush 6, 2) := by decide +kernel
theorem dL_goes_67 : decode cL_goes 67 = .ok (.invokevirtual 9, 3) := by decide +kernel
theorem dL_goes_70 : decode cL_goes 70 = .ok (.invokestatic 52, 3) := by decide +kernel
theorem dL_goes_73 : decode cL_goes 73 = .ok (.iload 4, 2) := by decide +kernel
theorem dL_goes_75 : decode cL_goes 75 = .ok (.aload_n 0, 1) := by decide +kernel
theorem dL_goes_76 : decode cL_goes 76 = .ok (.bipush 7, 2) := by decide +kernel
theorem dL_goes_78 : decode cL_goes 78 = .ok (.invokevirtual 9, 3) := by decide +kernel
theorem dL_goes_81 : decode cL_goes 81 = .ok (.invokestatic 52, 3) := by decide +kernel
theorem dL_goes_84 : decode cL_goes 84 = .ok (.iadd, 1) := by decide +kernel
theorem dL_goes_85 : decode cL_goes 85 = .ok (.ireturn, 1) := by decide +kernel
theorem dL_isShape_0 : decode cL_isShape 0 = .ok (.iconst 0, 1) := by decide +kernel
theorem dL_isShape_1 : decode cL_isShape 1 = .ok (.istore_n 2, 1) := by decide +kernel
theorem dL_isShape_2 : decode cL_isShape 2 = .ok (.bipush (-5), 2) := by decide +kernel
theorem dL_isShape_4 : decode cL_isShape 4 = .ok (.istore_n 3, 1) := by decide +kernel
theorem dL_isShape_5 : decode cL_isShape 5 = .ok (.aload_n 0, 1) := by decide +kernel
theorem dL_isShape_6 : decode cL_isShape 6 = .ok (.iload_n 1, 1) := by decide +kernel
theorem dL_isShape_7 : decode cL_isShape 7 = .ok (.iconst 5, 1) := by decide +kernel
theorem dL_isShape_8 : decode cL_isShape 8 = .ok (.invokevirtual 45, 3) := by decide +kernel
theorem dL_isShape_11 : decode cL_isShape 11 = .ok (.istore 4, 2) := by decide +kernel
theorem dL_isShape_13 : decode cL_isShape 13 = .ok (.iconst 0, 1) := by decide +kernel
theorem dL_isShape_14 : decode cL_isShape 14 = .ok (.istore 5, 2) := by decide +kernel
theorem dL_isShape_16 : decode cL_isShape 16 = .ok (.iconst 0, 1) := by decide +kernel
theorem dL_isShape_17 : decode cL_isShape 17 = .ok (.istore 6, 2) := by decide +kernel
theorem dL_isShape_19 : decode cL_isShape 19 = .ok (.iconst 1, 1) := by decide +kernel
theorem dL_isShape_20 : decode cL_isShape 20 = .ok (.istore 7, 2) := by decide +kernel
theorem dL_isShape_22 : decode cL_isShape 22 = .ok (.iconst 0, 1) := by decide +kernel
theorem dL_isShape_23 : decode cL_isShape 23 = .ok (.istore 8, 2) := by decide +kernel
theorem dL_isShape_25 : decode cL_isShape 25 = .ok (.iload 8, 2) := by decide +kernel
theorem dL_isShape_27 : decode cL_isShape 27 = .ok (.aload_n 0, 1) := by decide +kernel
theorem dL_isShape_28 : decode cL_isShape 28 = .ok (.iconst 0, 1) := by decide +kernel
theorem dL_isShape_29 : decode cL_isShape 29 = .ok (.invokevirtual 9, 3) := by decide +kernel
theorem dL_isShape_32 : decode cL_isShape 32 = .ok (.if_icmp .ge 239, 3) := by decide +kernel
theorem dL_isShape_35 : decode cL_isShape 35 = .ok (.iload 7, 2) := by decide +kernel
theorem dL_isShape_37 : decode cL_isShape 37 = .ok (.ifCond .eq 234, 3) := by decide +kernel
theorem dL_isShape_40 : decode cL_isShape 40 = .ok (.iload_n 2, 1) := by decide +kernel
theorem dL_isShape_41 : decode cL_isShape 41 = .ok (.aload_n 0, 1) := by decide +kernel
theorem dL_isShape_42 : decode cL_isShape 42 = .ok (.iload 8, 2) := by decide +kernel
theorem dL_isShape_44 : decode cL_isShape 44 = .ok (.iload_n 1, 1) := by decide +kernel
theorem dL_isShape_45 : decode cL_isShape 45 = .ok (.invokestatic 55, 3) := by decide +kernel
theorem dL_isShape_48 : decode cL_isShape 48 = .ok (.ifCond .eq 10, 3) := by decide +kernel
theorem dL_isShape_51 : decode cL_isShape 51 = .ok (.iconst 1, 1) := by decide +kernel
theorem dL_isShape_52 : decode cL_isShape 52 = .ok (.iload 8, 2) := by decide +kernel
theorem dL_isShape_54 : decode cL_isShape 54 = .ok (.ishl, 1) := by decide +kernel
theorem dL_isShape_55 : decode cL_isShape 55 = .ok (.goto 4, 3) := by decide +kernel
theorem dL_isShape_58 : decode cL_isShape 58 = .ok (.iconst 0, 1) := by decide +kernel
theorem dL_isShape_59 : decode cL_isShape 59 = .ok (.ior, 1) := by decide +kernel
theorem dL_isShape_60 : decode cL_isShape 60 = .ok (.istore_n 2, 1) := by decide +kernel
theorem dL_isShape_61 : decode cL_isShape 61 = .ok (.iload 6, 2) := by decide +kernel
theorem dL_isShape_63 : decode cL_isShape 63 = .ok (.ifCond .ne 23, 3) := by decide +kernel
theorem dL_isShape_66 : decode cL_isShape 66 = .ok (.aload_n 0, 1) := by decide +kernel
theorem dL_isShape_67 : decode cL_isShape 67 = .ok (.iload 8, 2) := by decide +kernel
theorem dL_isShape_69 : decode cL_isShape 69 = .ok (.iload_n 1, 1) := by decide +kernel
theorem dL_isShape_70 : decode cL_isShape 70 = .ok (.invokestatic 55, 3) := by decide +kernel
theorem dL_isShape_73 : decode cL_isShape 73 = .ok (.ifCond .eq 17, 3) := by decide +kernel
theorem dL_isShape_76 : decode cL_isShape 76 = .ok (.aload_n 0, 1) := by decide +kernel
theorem dL_isShape_77 : decode cL_isShape 77 = .ok (.iload 8, 2) := by decide +kernel
theorem dL_isShape_79 : decode cL_isShape 79 = .ok (.iconst 5, 1) := by decide +kernel
theorem dL_isShape_80 : decode cL_isShape 80 = .ok (.invokevirtual 45, 3) := by decide +kernel
theorem dL_isShape_83 : decode cL_isShape 83 = .ok (.ifCond .ne 7, 3) := by decide +kernel
theorem dL_isShape_86 : decode cL_isShape 86 = .ok (.iconst 1, 1) := by decide +kernel
theorem dL_isShape_87 : decode cL_isShape 87 = .ok (.goto 4, 3) := by decide +kernel
theorem dL_isShape_90 : decode cL_isShape 90 = .ok (.iconst 0, 1) := by decide +kernel
theorem dL_isShape_91 : decode cL_isShape 91 = .ok (.istore 6, 2) := by decide +kernel
theorem dL_isShape_93 : decode cL_isShape 93 = .ok (.aload_n 0, 1) := by decide +kernel
theorem dL_isShape_94 : decode cL_isShape 94 = .ok (.iload_n 1, 1) := by decide +kernel
theorem dL_isShape_95 : decode cL_isShape 95 = .ok (.iload 8, 2) := by decide +kernel
theorem dL_isShape_97 : decode cL_isShape 97 = .ok (.invokestatic 55, 3) := by decide +kernel
theorem dL_isShape_100 : decode cL_isShape 100 = .ok (.ifCond .eq 24, 3) := by decide +kernel
theorem dL_isShape_103 : decode cL_isShape 103 = .ok (.iload_n 3, 1) := by decide +kernel
theorem dL_isShape_104 : decode cL_isShape 104 = .ok (.bipush (-5), 2) := by decide +kernel
theorem dL_isShape_106 : decode cL_isShape 106 = .ok (.if_icmp .eq 13, 3) := by decide +kernel
theorem dL_isShape_109 : decode cL_isShape 109 = .ok (.aload_n 0, 1) := by decide +kernel
theorem dL_isShape_110 : decode cL_isShape 110 = .ok (.iload 8, 2) := by decide +kernel
theorem dL_isShape_112 : decode cL_isShape 112 = .ok (.iload_n 3, 1) := by decide +kernel
theorem dL_isShape_113 : decode cL_isShape 113 = .ok (.invokestatic 55, 3) := by decide +kernel
theorem dL_isShape_116 : decode cL_isShape 116 = .ok (.ifCond .eq 8, 3) := by decide +kernel
theorem dL_isShape_119 : decode cL_isShape 119 = .ok (.iload 8, 2) := by decide +kernel
theorem dL_isShape_121 : decode cL_isShape 121 = .ok (.goto 4, 3) := by decide +kernel
theorem dL_isShape_124 : decode cL_isShape 124 = .ok (.iload_n 3, 1) := by decide +kernel
theorem dL_isShape_125 : decode cL_isShape 125 = .ok (.istore_n 3, 1) := by decide +kernel
theorem dL_isShape_126 : decode cL_isShape 126 = .ok (.aload_n 0, 1) := by decide +kernel
theorem dL_isShape_127 : decode cL_isShape 127 = .ok (.iload 8, 2) := by decide +kernel
theorem dL_isShape_129 : decode cL_isShape 129 = .ok (.iconst 0, 1) := by decide +kernel
theorem dL_isShape_130 : decode cL_isShape 130 = .ok (.invokevirtual 45, 3) := by decide +kernel
theorem dL_isShape_133 : decode cL_isShape 133 = .ok (.aload_n 0, 1) := by decide +kernel
theorem dL_isShape_134 : decode cL_isShape 134 = .ok (.iload 8, 2) := by decide +kernel
theorem dL_isShape_136 : decode cL_isShape 136 = .ok (.iconst 2, 1) := by decide +kernel
theorem dL_isShape_137 : decode cL_isShape 137 = .ok (.invokevirtual 45, 3) := by decide +kernel
theorem dL_isShape_140 : decode cL_isShape 140 = .ok (.iadd, 1) := by decide +kernel
theorem dL_isShape_141 : decode cL_isShape 141 = .ok (.aload_n 0, 1) := by decide +kernel
theorem dL_isShape_142 : decode cL_isShape 142 = .ok (.iload_n 1, 1) := by decide +kernel
theorem dL_isShape_143 : decode cL_isShape 143 = .ok (.iconst 0, 1) := by decide +kernel
theorem dL_isShape_144 : decode cL_isShape 144 = .ok (.invokevirtual 45, 3) := by decide +kernel
theorem dL_isShape_147 : decode cL_isShape 147 = .ok (.if_icmp .le 73, 3) := by decide +kernel
theorem dL_isShape_150 : decode cL_isShape 150 = .ok (.aload_n 0, 1) := by decide +kernel
theorem dL_isShape_151 : decode cL_isShape 151 = .ok (.iload_n 1, 1) := by decide +kernel
theorem dL_isShape_152 : decode cL_isShape 152 = .ok (.iconst 0, 1) := by decide +kernel
theorem dL_isShape_153 : decode cL_isShape 153 = .ok (.invokevirtual 45, 3) := by decide +kernel
theorem dL_isShape_156 : decode cL_isShape 156 = .ok (.aload_n 0, 1) := by decide +kernel
theorem dL_isShape_157 : decode cL_isShape 157 = .ok (.iload_n 1, 1) := by decide +kernel
theorem dL_isShape_158 : decode cL_isShape 158 = .ok (.iconst 2, 1) := by decide +kernel
theorem dL_isShape_159 : decode cL_isShape 159 = .ok (.invokevirtual 45, 3) := by decide +kernel
theorem dL_isShape_162 : decode cL_isShape 162 = .ok (.iadd, 1) := by decide +kernel
theorem dL_isShape_163 : decode cL_isShape 163 = .ok (.aload_n 0, 1) := by decide +kernel
theorem dL_isShape_164 : decode cL_isShape 164 = .ok (.iload 8, 2) := by decide +kernel
theorem dL_isShape_166 : decode cL_isShape 166 = .ok (.iconst 0, 1) := by decide +kernel
theorem dL_isShape_167 : decode cL_isShape 167 = .ok (.invokevirtual 45, 3) := by decide +kernel
theorem dL_isShape_170 : decode cL_isShape 170 = .ok (.if_icmp .le 50, 3) := by decide +kernel
theorem dL_isShape_173 : decode cL_isShape 173 = .ok (.aload_n 0, 1) := by decide +kernel
theorem dL_isShape_174 : decode cL_isShape 174 = .ok (.iload 8, 2) := by decide +kernel
theorem dL_isShape_176 : decode cL_isShape 176 = .ok (.iconst 1, 1) := by decide +kernel
theorem dL_isShape_177 : decode cL_isShape 177 = .ok (.invokevirtual 45, 3) := by decide +kernel
theorem dL_isShape_180 : decode cL_isShape 180 = .ok (.aload_n 0, 1) := by decide +kernel
theorem dL_isShape_181 : decode cL_isShape 181 = .ok (.iload 8, 2) := by decide +kernel
theorem dL_isShape_183 : decode cL_isShape 183 = .ok (.iconst 3, 1) := by decide +kernel
theorem dL_isShape_184 : decode cL_isShape 184 = .ok (.invokevirtual 45, 3) := by decide +kernel
theorem dL_isShape_187 : decode cL_isShape 187 = .ok (.iadd, 1) := by decide +kernel
theorem dL_isShape_188 : decode cL_isShape 188 = .ok (.aload_n 0, 1) := by decide +kernel
theorem dL_isShape_189 : decode cL_isShape 189 = .ok (.iload_n 1, 1) := by decide +kernel
theorem dL_isShape_190 : decode cL_isShape 190 = .ok (.iconst 1, 1) := by decide +kernel
theorem dL_isShape_191 : decode cL_isShape 191 = .ok (.invokevirtual 45, 3) := by decide +kernel
theorem dL_isShape_194 : decode cL_isShape 194 = .ok (.if_icmp .le 26, 3) := by decide +kernel
theorem dL_isShape_197 : decode cL_isShape 197 = .ok (.aload_n 0, 1) := by decide +kernel
theorem dL_isShape_198 : decode cL_isShape 198 = .ok (.iload_n 1, 1) := by decide +kernel
theorem dL_isShape_199 : decode cL_isShape 199 = .ok (.iconst 1, 1) := by decide +kernel
theorem dL_isShape_200 : decode cL_isShape 200 = .ok (.invokevirtual 45, 3) := by decide +kernel
theorem dL_isShape_203 : decode cL_isShape 203 = .ok (.aload_n 0, 1) := by decide +kernel
theorem dL_isShape_204 : decode cL_isShape 204 = .ok (.iload_n 1, 1) := by decide +kernel
theorem dL_isShape_205 : decode cL_isShape 205 = .ok (.iconst 3, 1) := by decide +kernel
theorem dL_isShape_206 : decode cL_isShape 206 = .ok (.invokevirtual 45, 3) := by decide +kernel
theorem dL_isShape_209 : decode cL_isShape 209 = .ok (.iadd, 1) := by decide +kernel
theorem dL_isShape_210 : decode cL_isShape 210 = .ok (.aload_n 0, 1) := by decide +kernel
theorem dL_isShape_211 : decode cL_isShape 211 = .ok (.iload 8, 2) := by decide +kernel
theorem dL_isShape_213 : decode cL_isShape 213 = .ok (.iconst 1, 1) := by decide +kernel
theorem dL_isShape_214 : decode cL_isShape 214 = .ok (.invokevirtual 45, 3) := by decide +kernel
theorem dL_isShape_217 : decode cL_isShape 217 = .ok (.if_icmp .gt 7, 3) := by decide +kernel
theorem dL_isShape_220 : decode cL_isShape 220 = .ok (.iconst 1, 1) := by decide +kernel
theorem dL_isShape_221 : decode cL_isShape 221 = .ok (.goto 4, 3) := by decide +kernel
theorem dL_isShape_224 : decode cL_isShape 224 = .ok (.iconst 0, 1) := by decide +kernel
theorem dL_isShape_225 : decode cL_isShape 225 = .ok (.istore 9, 2) := by decide +kernel
theorem dL_isShape_227 : decode cL_isShape 227 = .ok (.iload 8, 2) := by decide +kernel
theorem dL_isShape_229 : decode cL_isShape 229 = .ok (.iload_n 1, 1) := by decide +kernel
theorem dL_isShape_230 : decode cL_isShape 230 = .ok (.if_icmp .eq 28, 3) := by decide +kernel
theorem dL_isShape_233 : decode cL_isShape 233 = .ok (.iload 9, 2) := by decide +kernel
theorem dL_isShape_235 : decode cL_isShape 235 = .ok (.ifCond .ne 23, 3) := by decide +kernel
theorem dL_isShape_238 : decode cL_isShape 238 = .ok (.aload_n 0, 1) := by decide +kernel
theorem dL_isShape_239 : decode cL_isShape 239 = .ok (.iload 8, 2) := by decide +kernel
theorem dL_isShape_241 : decode cL_isShape 241 = .ok (.iload_n 1, 1) := by decide +kernel
theorem dL_isShape_242 : decode cL_isShape 242 = .ok (.invokestatic 55, 3) := by decide +kernel
theorem dL_isShape_245 : decode cL_isShape 245 = .ok (.ifCond .ne 13, 3) := by decide +kernel
theorem dL_isShape_248 : decode cL_isShape 248 = .ok (.aload_n 0, 1) := by decide +kernel
theorem dL_isShape_249 : decode cL_isShape 249 = .ok (.iload_n 1, 1) := by decide +kernel
theorem dL_isShape_250 : decode cL_isShape 250 = .ok (.iload 8, 2) := by decide +kernel
theorem dL_isShape_252 : decode cL_isShape 252 = .ok (.invokestatic 55, 3) := by decide +kernel
theorem dL_isShape_255 : decode cL_isShape 255 = .ok (.ifCond .eq 7, 3) := by decide +kernel
theorem dL_isShape_258 : decode cL_isShape 258 = .ok (.iconst 1, 1) := by decide +kernel
theorem dL_isShape_259 : decode cL_isShape 259 = .ok (.goto 4, 3) := by decide +kernel
theorem dL_isShape_262 : decode cL_isShape 262 = .ok (.iconst 0, 1) := by decide +kernel
theorem dL_isShape_263 : decode cL_isShape 263 = .ok (.istore 7, 2) := by decide +kernel
theorem dL_isShape_265 : decode cL_isShape 265 = .ok (.iinc 8 1, 3) := by decide +kernel
theorem dL_isShape_268 : decode cL_isShape 268 = .ok (.goto (-243), 3) := by decide +kernel
theorem dL_isShape_271 : decode cL_isShape 271 = .ok (.iconst 2, 1) := by decide +kernel
theorem dL_isShape_272 : decode cL_isShape 272 = .ok (.aload_n 0, 1) := by decide +kernel
theorem dL_isShape_273 : decode cL_isShape 273 = .ok (.iload_n 1, 1) := by decide +kernel
theorem dL_isShape_274 : decode cL_isShape 274 = .ok (.iconst 2, 1) := by decide +kernel
theorem dL_isShape_275 : decode cL_isShape 275 = .ok (.invokevirtual 45, 3) := by decide +kernel
theorem dL_isShape_278 : decode cL_isShape 278 = .ok (.aload_n 0, 1) := by decide +kernel
theorem dL_isShape_279 : decode cL_isShape 279 = .ok (.iload_n 1, 1) := by decide +kernel
theorem dL_isShape_280 : decode cL_isShape 280 = .ok (.iconst 3, 1) := by decide +kernel
theorem dL_isShape_281 : decode cL_isShape 281 = .ok (.invokevirtual 45, 3) := by decide +kernel
theorem dL_isShape_284 : decode cL_isShape 284 = .ok (.iadd, 1) := by decide +kernel
theorem dL_isShape_285 : decode cL_isShape 285 = .ok (.imul, 1) := by decide +kernel
theorem dL_isShape_286 : decode cL_isShape 286 = .ok (.iconst 4, 1) := by decide +kernel
theorem dL_isShape_287 : decode cL_isShape 287 = .ok (.isub, 1) := by decide +kernel
theorem dL_isShape_288 : decode cL_isShape 288 = .ok (.istore 8, 2) := by decide +kernel
theorem dL_isShape_290 : decode cL_isShape 290 = .ok (.iconst 0, 1) := by decide +kernel
theorem dL_isShape_291 : decode cL_isShape 291 = .ok (.istore 9, 2) := by decide +kernel
theorem dL_isShape_293 : decode cL_isShape 293 = .ok (.iconst 0, 1) := by decide +kernel
theorem dL_isShape_294 : decode cL_isShape 294 = .ok (.istore 10, 2) := by decide +kernel
theorem dL_isShape_296 : decode cL_isShape 296 = .ok (.iconst 0, 1) := by decide +kernel
theorem dL_isShape_297 : decode cL_isShape 297 = .ok (.istore 11, 2) := by decide +kernel
theorem dL_isShape_299 : decode cL_isShape 299 = .ok (.iload 11, 2) := by decide +kernel
theorem dL_isShape_301 : decode cL_isShape 301 = .ok (.bipush 12, 2) := by decide +kernel
theorem dL_isShape_303 : decode cL_isShape 303 = .ok (.if_icmp .ge 83, 3) := by decide +kernel
theorem dL_isShape_306 : decode cL_isShape 306 = .ok (.aload_n 0, 1) := by decide +kernel
theorem dL_isShape_307 : decode cL_isShape 307 = .ok (.iload 11, 2) := by decide +kernel
theorem dL_isShape_309 : decode cL_isShape 309 = .ok (.invokevirtual 59, 3) := by decide +kernel
theorem dL_isShape_312 : decode cL_isShape 312 = .ok (.aload_n 0, 1) := by decide +kernel
theorem dL_isShape_313 : decode cL_isShape 313 = .ok (.iload_n 1, 1) := by decide +kernel
theorem dL_isShape_314 : decode cL_isShape 314 = .ok (.invokestatic 62, 3) := by decide +kernel
theorem dL_isShape_317 : decode cL_isShape 317 = .ok (.aload_n 0, 1) := by decide +kernel
theorem dL_isShape_318 : decode cL_isShape 318 = .ok (.bipush 14, 2) := by decide +kernel
theorem dL_isShape_320 : decode cL_isShape 320 = .ok (.invokevirtual 9, 3) := by decide +kernel
theorem dL_isShape_323 : decode cL_isShape 323 = .ok (.imul, 1) := by decide +kernel
theorem dL_isShape_324 : decode cL_isShape 324 = .ok (.isub, 1) := by decide +kernel
theorem dL_isShape_325 : decode cL_isShape 325 = .ok (.istore 12, 2) := by decide +kernel
theorem dL_isShape_327 : decode cL_isShape 327 = .ok (.aload_n 0, 1) := by decide +kernel
theorem dL_isShape_328 : decode cL_isShape 328 = .ok (.iload_n 1, 1) := by decide +kernel
theorem dL_isShape_329 : decode cL_isShape 329 = .ok (.iload 11, 2) := by decide +kernel
theorem dL_isShape_331 : decode cL_isShape 331 = .ok (.invokestatic 66, 3) := by decide +kernel
theorem dL_isShape_334 : decode cL_isShape 334 = .ok (.istore 13, 2) := by decide +kernel
theorem dL_isShape_336 : decode cL_isShape 336 = .ok (.iload 9, 2) := by decide +kernel
theorem dL_isShape_338 : decode cL_isShape 338 = .ok (.iload 13, 2) := by decide +kernel
theorem dL_isShape_340 : decode cL_isShape 340 = .ok (.iadd, 1) := by decide +kernel
theorem dL_isShape_341 : decode cL_isShape 341 = .ok (.istore 9, 2) := by decide +kernel
theorem dL_isShape_343 : decode cL_isShape 343 = .ok (.iload 5, 2) := by decide +kernel
theorem dL_isShape_345 : decode cL_isShape 345 = .ok (.ifCond .ne 28, 3) := by decide +kernel
theorem dL_isShape_348 : decode cL_isShape 348 = .ok (.iload 13, 2) := by decide +kernel
theorem dL_isShape_350 : decode cL_isShape 350 = .ok (.ifCond .le 27, 3) := by decide +kernel
theorem dL_isShape_353 : decode cL_isShape 353 = .ok (.iload 12, 2) := by decide +kernel
theorem dL_isShape_355 : decode cL_isShape 355 = .ok (.ifCond .le 8, 3) := by decide +kernel
theorem dL_isShape_358 : decode cL_isShape 358 = .ok (.iload 12, 2) := by decide +kernel
theorem dL_isShape_360 : decode cL_isShape 360 = .ok (.goto 4, 3) := by decide +kernel
theorem dL_isShape_363 : decode cL_isShape 363 = .ok (.iconst 0, 1) := by decide +kernel
theorem dL_isShape_364 : decode cL_isShape 364 = .ok (.aload_n 0, 1) := by decide +kernel
theorem dL_isShape_365 : decode cL_isShape 365 = .ok (.bipush 15, 2) := by decide +kernel
theorem dL_isShape_367 : decode cL_isShape 367 = .ok (.invokevirtual 9, 3) := by decide +kernel
theorem dL_isShape_370 : decode cL_isShape 370 = .ok (.if_icmp .le 7, 3) := by decide +kernel
theorem dL_isShape_373 : decode cL_isShape 373 = .ok (.iconst 1, 1) := by decide +kernel
theorem dL_isShape_374 : decode cL_isShape 374 = .ok (.goto 4, 3) := by decide +kernel
theorem dL_isShape_377 : decode cL_isShape 377 = .ok (.iconst 0, 1) := by decide +kernel
theorem dL_isShape_378 : decode cL_isShape 378 = .ok (.istore 5, 2) := by decide +kernel
theorem dL_isShape_380 : decode cL_isShape 380 = .ok (.iinc 11 1, 3) := by decide +kernel
theorem dL_isShape_383 : decode cL_isShape 383 = .ok (.goto (-84), 3) := by decide +kernel
theorem dL_isShape_386 : decode cL_isShape 386 = .ok (.iload 4, 2) := by decide +kernel
theorem dL_isShape_388 : decode cL_isShape 388 = .ok (.ifCond .le 8, 3) := by decide +kernel
theorem dL_isShape_391 : decode cL_isShape 391 = .ok (.iload 4, 2) := by decide +kernel
theorem dL_isShape_393 : decode cL_isShape 393 = .ok (.goto 32, 3) := by decide +kernel
theorem dL_isShape_396 : decode cL_isShape 396 = .ok (.aload_n 0, 1) := by decide +kernel
theorem dL_isShape_397 : decode cL_isShape 397 = .ok (.bipush 16, 2) := by decide +kernel
theorem dL_isShape_399 : decode cL_isShape 399 = .ok (.invokevirtual 9, 3) := by decide +kernel
theorem dL_isShape_402 : decode cL_isShape 402 = .ok (.iconst 1, 1) := by decide +kernel
theorem dL_isShape_403 : decode cL_isShape 403 = .ok (.if_icmp .ne 12, 3) := by decide +kernel
theorem dL_isShape_406 : decode cL_isShape 406 = .ok (.iload 6, 2) := by decide +kernel
theorem dL_isShape_408 : decode cL_isShape 408 = .ok (.ifCond .eq 7, 3) := by decide +kernel
theorem dL_isShape_411 : decode cL_isShape 411 = .ok (.iconst 3, 1) := by decide +kernel
theorem dL_isShape_412 : decode cL_isShape 412 = .ok (.goto 13, 3) := by decide +kernel
theorem dL_isShape_415 : decode cL_isShape 415 = .ok (.iload 5, 2) := by decide +kernel
theorem dL_isShape_417 : decode cL_isShape 417 = .ok (.ifCond .eq 7, 3) := by decide +kernel
theorem dL_isShape_420 : decode cL_isShape 420 = .ok (.iconst 4, 1) := by decide +kernel
theorem dL_isShape_421 : decode cL_isShape 421 = .ok (.goto 4, 3) := by decide +kernel
theorem dL_isShape_424 : decode cL_isShape 424 = .ok (.iconst 0, 1) := by decide +kernel
theorem dL_isShape_425 : decode cL_isShape 425 = .ok (.istore 11, 2) := by decide +kernel
theorem dL_isShape_427 : decode cL_isShape 427 = .ok (.iload 7, 2) := by decide +kernel
theorem dL_isShape_429 : decode cL_isShape 429 = .ok (.ifCond .eq 94, 3) := by decide +kernel
theorem dL_isShape_432 : decode cL_isShape 432 = .ok (.iload 9, 2) := by decide +kernel
theorem dL_isShape_434 : decode cL_isShape 434 = .ok (.iload 8, 2) := by decide +kernel
theorem dL_isShape_436 : decode cL_isShape 436 = .ok (.if_icmp .ne 87, 3) := by decide +kernel
theorem dL_isShape_439 : decode cL_isShape 439 = .ok (.aload_n 0, 1) := by decide +kernel
theorem dL_isShape_440 : decode cL_isShape 440 = .ok (.iload_n 1, 1) := by decide +kernel
theorem dL_isShape_441 : decode cL_isShape 441 = .ok (.bipush 8, 2) := by decide +kernel
theorem dL_isShape_443 : decode cL_isShape 443 = .ok (.invokevirtual 45, 3) := by decide +kernel
theorem dL_isShape_446 : decode cL_isShape 446 = .ok (.iload 8, 2) := by decide +kernel
theorem dL_isShape_448 : decode cL_isShape 448 = .ok (.if_icmp .ne 75, 3) := by decide +kernel
theorem dL_isShape_451 : decode cL_isShape 451 = .ok (.aload_n 0, 1) := by decide +kernel
theorem dL_isShape_452 : decode cL_isShape 452 = .ok (.iload_n 1, 1) := by decide +kernel
theorem dL_isShape_453 : decode cL_isShape 453 = .ok (.bipush 7, 2) := by decide +kernel
theorem dL_isShape_455 : decode cL_isShape 455 = .ok (.invokevirtual 45, 3) := by decide +kernel
theorem dL_isShape_458 : decode cL_isShape 458 = .ok (.iload_n 2, 1) := by decide +kernel
theorem dL_isShape_459 : decode cL_isShape 459 = .ok (.if_icmp .ne 64, 3) := by decide +kernel
theorem dL_isShape_462 : decode cL_isShape 462 = .ok (.aload_n 0, 1) := by decide +kernel
theorem dL_isShape_463 : decode cL_isShape 463 = .ok (.iload_n 1, 1) := by decide +kernel
theorem dL_isShape_464 : decode cL_isShape 464 = .ok (.bipush 6, 2) := by decide +kernel
theorem dL_isShape_466 : decode cL_isShape 466 = .ok (.invokevirtual 45, 3) := by decide +kernel
theorem dL_isShape_469 : decode cL_isShape 469 = .ok (.iload_n 3, 1) := by decide +kernel
theorem dL_isShape_470 : decode cL_isShape 470 = .ok (.if_icmp .ne 53, 3) := by decide +kernel
theorem dL_isShape_473 : decode cL_isShape 473 = .ok (.aload_n 0, 1) := by decide +kernel
theorem dL_isShape_474 : decode cL_isShape 474 = .ok (.iload_n 1, 1) := by decide +kernel
theorem dL_isShape_475 : decode cL_isShape 475 = .ok (.invokevirtual 69, 3) := by decide +kernel
theorem dL_isShape_478 : decode cL_isShape 478 = .ok (.iload 11, 2) := by decide +kernel
theorem dL_isShape_480 : decode cL_isShape 480 = .ok (.if_icmp .ne 43, 3) := by decide +kernel
theorem dL_isShape_483 : decode cL_isShape 483 = .ok (.aload_n 0, 1) := by decide +kernel
theorem dL_isShape_484 : decode cL_isShape 484 = .ok (.iload_n 1, 1) := by decide +kernel
theorem dL_isShape_485 : decode cL_isShape 485 = .ok (.invokevirtual 72, 3) := by decide +kernel
theorem dL_isShape_488 : decode cL_isShape 488 = .ok (.iload 4, 2) := by decide +kernel
theorem dL_isShape_490 : decode cL_isShape 490 = .ok (.ifCond .le 8, 3) := by decide +kernel
theorem dL_isShape_493 : decode cL_isShape 493 = .ok (.bipush (-4), 2) := by decide +kernel
theorem dL_isShape_495 : decode cL_isShape 495 = .ok (.goto 21, 3) := by decide +kernel
theorem dL_isShape_498 : decode cL_isShape 498 = .ok (.aload_n 0, 1) := by decide +kernel
theorem dL_isShape_499 : decode cL_isShape 499 = .ok (.iload_n 1, 1) := by decide +kernel
theorem dL_isShape_500 : decode cL_isShape 500 = .ok (.invokestatic 62, 3) := by decide +kernel
theorem dL_isShape_503 : decode cL_isShape 503 = .ok (.iconst 2, 1) := by decide +kernel
theorem dL_isShape_504 : decode cL_isShape 504 = .ok (.aload_n 0, 1) := by decide +kernel
theorem dL_isShape_505 : decode cL_isShape 505 = .ok (.iconst 5, 1) := by decide +kernel
theorem dL_isShape_506 : decode cL_isShape 506 = .ok (.invokevirtual 9, 3) := by decide +kernel
theorem dL_isShape_509 : decode cL_isShape 509 = .ok (.iconst 4, 1) := by decide +kernel
theorem dL_isShape_510 : decode cL_isShape 510 = .ok (.idiv, 1) := by decide +kernel
theorem dL_isShape_511 : decode cL_isShape 511 = .ok (.iadd, 1) := by decide +kernel
theorem dL_isShape_512 : decode cL_isShape 512 = .ok (.iload 8, 2) := by decide +kernel
theorem dL_isShape_514 : decode cL_isShape 514 = .ok (.imul, 1) := by decide +kernel
theorem dL_isShape_515 : decode cL_isShape 515 = .ok (.iadd, 1) := by decide +kernel
theorem dL_isShape_516 : decode cL_isShape 516 = .ok (.if_icmp .ne 7, 3) := by decide +kernel
theorem dL_isShape_519 : decode cL_isShape 519 = .ok (.iconst 1, 1) := by decide +kernel
theorem dL_isShape_520 : decode cL_isShape 520 = .ok (.goto 4, 3) := by decide +kernel
theorem dL_isShape_523 : decode cL_isShape 523 = .ok (.iconst 0, 1) := by decide +kernel
theorem dL_isShape_524 : decode cL_isShape 524 = .ok (.istore 7, 2) := by decide +kernel
theorem dL_isShape_526 : decode cL_isShape 526 = .ok (.iload 7, 2) := by decide +kernel
theorem dL_isShape_528 : decode cL_isShape 528 = .ok (.ifCond .eq 88, 3) := by decide +kernel
theorem dL_isShape_531 : decode cL_isShape 531 = .ok (.aload_n 0, 1) := by decide +kernel
theorem dL_isShape_532 : decode cL_isShape 532 = .ok (.iload_n 1, 1) := by decide +kernel
theorem dL_isShape_533 : decode cL_isShape 533 = .ok (.bipush 10, 2) := by decide +kernel
theorem dL_isShape_535 : decode cL_isShape 535 = .ok (.invokevirtual 45, 3) := by decide +kernel
theorem dL_isShape_538 : decode cL_isShape 538 = .ok (.bipush (-5), 2) := by decide +kernel
theorem dL_isShape_540 : decode cL_isShape 540 = .ok (.if_icmp .ne 7, 3) := by decide +kernel
theorem dL_isShape_543 : decode cL_isShape 543 = .ok (.iconst 1, 1) := by decide +kernel
theorem dL_isShape_544 : decode cL_isShape 544 = .ok (.goto 4, 3) := by decide +kernel
theorem dL_isShape_547 : decode cL_isShape 547 = .ok (.iconst 0, 1) := by decide +kernel
theorem dL_isShape_548 : decode cL_isShape 548 = .ok (.iload 4, 2) := by decide +kernel
theorem dL_isShape_550 : decode cL_isShape 550 = .ok (.iconst 1, 1) := by decide +kernel
theorem dL_isShape_551 : decode cL_isShape 551 = .ok (.if_icmp .eq 7, 3) := by decide +kernel
theorem dL_isShape_554 : decode cL_isShape 554 = .ok (.iconst 1, 1) := by decide +kernel
theorem dL_isShape_555 : decode cL_isShape 555 = .ok (.goto 4, 3) := by decide +kernel
theorem dL_isShape_558 : decode cL_isShape 558 = .ok (.iconst 0, 1) := by decide +kernel
theorem dL_isShape_559 : decode cL_isShape 559 = .ok (.if_icmp .ne 57, 3) := by decide +kernel
theorem dL_isShape_562 : decode cL_isShape 562 = .ok (.iload 4, 2) := by decide +kernel
theorem dL_isShape_564 : decode cL_isShape 564 = .ok (.iconst 1, 1) := by decide +kernel
theorem dL_isShape_565 : decode cL_isShape 565 = .ok (.if_icmp .eq 13, 3) := by decide +kernel
theorem dL_isShape_568 : decode cL_isShape 568 = .ok (.aload_n 0, 1) := by decide +kernel
theorem dL_isShape_569 : decode cL_isShape 569 = .ok (.iload_n 1, 1) := by decide +kernel
theorem dL_isShape_570 : decode cL_isShape 570 = .ok (.bipush 9, 2) := by decide +kernel
theorem dL_isShape_572 : decode cL_isShape 572 = .ok (.invokevirtual 45, 3) := by decide +kernel
theorem dL_isShape_575 : decode cL_isShape 575 = .ok (.ifCond .ne 41, 3) := by decide +kernel
theorem dL_isShape_578 : decode cL_isShape 578 = .ok (.iload 11, 2) := by decide +kernel
theorem dL_isShape_580 : decode cL_isShape 580 = .ok (.ifCond .gt 11, 3) := by decide +kernel
theorem dL_isShape_583 : decode cL_isShape 583 = .ok (.aload_n 0, 1) := by decide +kernel
theorem dL_isShape_584 : decode cL_isShape 584 = .ok (.iload_n 1, 1) := by decide +kernel
theorem dL_isShape_585 : decode cL_isShape 585 = .ok (.invokevirtual 75, 3) := by decide +kernel
theorem dL_isShape_588 : decode cL_isShape 588 = .ok (.ifCond .ne 28, 3) := by decide +kernel
theorem dL_isShape_591 : decode cL_isShape 591 = .ok (.iload 11, 2) := by decide +kernel
theorem dL_isShape_593 : decode cL_isShape 593 = .ok (.ifCond .eq 19, 3) := by decide +kernel
theorem dL_isShape_596 : decode cL_isShape 596 = .ok (.iload 11, 2) := by decide +kernel
theorem dL_isShape_598 : decode cL_isShape 598 = .ok (.iconst 4, 1) := by decide +kernel
theorem dL_isShape_599 : decode cL_isShape 599 = .ok (.if_icmp .eq 13, 3) := by decide +kernel
theorem dL_isShape_602 : decode cL_isShape 602 = .ok (.aload_n 0, 1) := by decide +kernel
theorem dL_isShape_603 : decode cL_isShape 603 = .ok (.iload_n 1, 1) := by decide +kernel
theorem dL_isShape_604 : decode cL_isShape 604 = .ok (.invokevirtual 75, 3) := by decide +kernel
theorem dL_isShape_607 : decode cL_isShape 607 = .ok (.bipush (-4), 2) := by decide +kernel
theorem dL_isShape_609 : decode cL_isShape 609 = .ok (.if_icmp .ne 7, 3) := by decide +kernel
theorem dL_isShape_612 : decode cL_isShape 612 = .ok (.iconst 1, 1) := by decide +kernel
theorem dL_isShape_613 : decode cL_isShape 613 = .ok (.goto 4, 3) := by decide +kernel
theorem dL_isShape_616 : decode cL_isShape 616 = .ok (.iconst 0, 1) := by decide +kernel
theorem dL_isShape_617 : decode cL_isShape 617 = .ok (.istore 7, 2) := by decide +kernel
theorem dL_isShape_619 : decode cL_isShape 619 = .ok (.iload 7, 2) := by decide +kernel
theorem dL_isShape_621 : decode cL_isShape 621 = .ok (.ifCond .eq 49, 3) := by decide +kernel
theorem dL_isShape_624 : decode cL_isShape 624 = .ok (.iload 11, 2) := by decide +kernel
theorem dL_isShape_626 : decode cL_isShape 626 = .ok (.iconst 4, 1) := by decide +kernel
theorem dL_isShape_627 : decode cL_isShape 627 = .ok (.if_icmp .ne 39, 3) := by decide +kernel
theorem dL_isShape_630 : decode cL_isShape 630 = .ok (.aload_n 0, 1) := by decide +kernel
theorem dL_isShape_631 : decode cL_isShape 631 = .ok (.bipush 14, 2) := by decide +kernel
theorem dL_isShape_633 : decode cL_isShape 633 = .ok (.invokevirtual 9, 3) := by decide +kernel
theorem dL_isShape_636 : decode cL_isShape 636 = .ok (.ifCond .ne 13, 3) := by decide +kernel
theorem dL_isShape_639 : decode cL_isShape 639 = .ok (.aload_n 0, 1) := by decide +kernel
theorem dL_isShape_640 : decode cL_isShape 640 = .ok (.iload_n 1, 1) := by decide +kernel
theorem dL_isShape_641 : decode cL_isShape 641 = .ok (.invokevirtual 75, 3) := by decide +kernel
theorem dL_isShape_644 : decode cL_isShape 644 = .ok (.bipush (-5), 2) := by decide +kernel
theorem dL_isShape_646 : decode cL_isShape 646 = .ok (.if_icmp .eq 20, 3) := by decide +kernel
theorem dL_isShape_649 : decode cL_isShape 649 = .ok (.aload_n 0, 1) := by decide +kernel
theorem dL_isShape_650 : decode cL_isShape 650 = .ok (.bipush 14, 2) := by decide +kernel
theorem dL_isShape_652 : decode cL_isShape 652 = .ok (.invokevirtual 9, 3) := by decide +kernel
theorem dL_isShape_655 : decode cL_isShape 655 = .ok (.ifCond .le 15, 3) := by decide +kernel
theorem dL_isShape_658 : decode cL_isShape 658 = .ok (.aload_n 0, 1) := by decide +kernel
theorem dL_isShape_659 : decode cL_isShape 659 = .ok (.iload_n 1, 1) := by decide +kernel
theorem dL_isShape_660 : decode cL_isShape 660 = .ok (.invokevirtual 75, 3) := by decide +kernel
theorem dL_isShape_663 : decode cL_isShape 663 = .ok (.ifCond .le 7, 3) := by decide +kernel
theorem dL_isShape_666 : decode cL_isShape 666 = .ok (.iconst 1, 1) := by decide +kernel
theorem dL_isShape_667 : decode cL_isShape 667 = .ok (.goto 4, 3) := by decide +kernel
theorem dL_isShape_670 : decode cL_isShape 670 = .ok (.iconst 0, 1) := by decide +kernel
theorem dL_isShape_671 : decode cL_isShape 671 = .ok (.ireturn, 1) := by decide +kernel
theorem dL_holds_0 : decode cL_holds 0 = .ok (.aload_n 0, 1) := by decide +kernel
theorem dL_holds_1 : decode cL_holds 1 = .ok (.iconst 0, 1) := by decide +kernel
theorem dL_holds_2 : decode cL_holds 2 = .ok (.invokevirtual 9, 3) := by decide +kernel
theorem dL_holds_5 : decode cL_holds 5 = .ok (.istore_n 1, 1) := by decide +kernel
theorem dL_holds_6 : decode cL_holds 6 = .ok (.iconst 0, 1) := by decide +kernel
theorem dL_holds_7 : decode cL_holds 7 = .ok (.istore_n 2, 1) := by decide +kernel
theorem dL_holds_8 : decode cL_holds 8 = .ok (.iconst 0, 1) := by decide +kernel
theorem dL_holds_9 : decode cL_holds 9 = .ok (.istore_n 3, 1) := by decide +kernel
theorem dL_holds_10 : decode cL_holds 10 = .ok (.iconst 0, 1) := by decide +kernel
theorem dL_holds_11 : decode cL_holds 11 = .ok (.istore 4, 2) := by decide +kernel
theorem dL_holds_13 : decode cL_holds 13 = .ok (.iconst 0, 1) := by decide +kernel
theorem dL_holds_14 : decode cL_holds 14 = .ok (.istore 5, 2) := by decide +kernel
theorem dL_holds_16 : decode cL_holds 16 = .ok (.iconst 0, 1) := by decide +kernel
theorem dL_holds_17 : decode cL_holds 17 = .ok (.istore 6, 2) := by decide +kernel
theorem dL_holds_19 : decode cL_holds 19 = .ok (.bipush (-5), 2) := by decide +kernel
theorem dL_holds_21 : decode cL_holds 21 = .ok (.istore 7, 2) := by decide +kernel
theorem dL_holds_23 : decode cL_holds 23 = .ok (.aload_n 0, 1) := by decide +kernel
theorem dL_holds_24 : decode cL_holds 24 = .ok (.iload_n 1, 1) := by decide +kernel
theorem dL_holds_25 : decode cL_holds 25 = .ok (.iconst 0, 1) := by decide +kernel
theorem dL_holds_26 : decode cL_holds 26 = .ok (.invokevirtual 45, 3) := by decide +kernel
theorem dL_holds_29 : decode cL_holds 29 = .ok (.iconst (-1), 1) := by decide +kernel
theorem dL_holds_30 : decode cL_holds 30 = .ok (.if_icmp .ne 17, 3) := by decide +kernel
theorem dL_holds_33 : decode cL_holds 33 = .ok (.aload_n 0, 1) := by decide +kernel
theorem dL_holds_34 : decode cL_holds 34 = .ok (.bipush 12, 2) := by decide +kernel
theorem dL_holds_36 : decode cL_holds 36 = .ok (.invokevirtual 59, 3) := by decide +kernel
theorem dL_holds_39 : decode cL_holds 39 = .ok (.iconst (-1), 1) := by decide +kernel
theorem dL_holds_40 : decode cL_holds 40 = .ok (.if_icmp .ne 7, 3) := by decide +kernel
theorem dL_holds_43 : decode cL_holds 43 = .ok (.iconst 1, 1) := by decide +kernel
theorem dL_holds_44 : decode cL_holds 44 = .ok (.goto 4, 3) := by decide +kernel
theorem dL_holds_47 : decode cL_holds 47 = .ok (.iconst 0, 1) := by decide +kernel
theorem dL_holds_48 : decode cL_holds 48 = .ok (.istore 8, 2) := by decide +kernel
theorem dL_holds_50 : decode cL_holds 50 = .ok (.iload_n 1, 1) := by decide +kernel
theorem dL_holds_51 : decode cL_holds 51 = .ok (.iconst 1, 1) := by decide +kernel
theorem dL_holds_52 : decode cL_holds 52 = .ok (.isub, 1) := by decide +kernel
theorem dL_holds_53 : decode cL_holds 53 = .ok (.istore 9, 2) := by decide +kernel
theorem dL_holds_55 : decode cL_holds 55 = .ok (.iload 9, 2) := by decide +kernel
theorem dL_holds_57 : decode cL_holds 57 = .ok (.ifCond .lt 144, 3) := by decide +kernel
theorem dL_holds_60 : decode cL_holds 60 = .ok (.iload 8, 2) := by decide +kernel
theorem dL_holds_62 : decode cL_holds 62 = .ok (.ifCond .eq 139, 3) := by decide +kernel
theorem dL_holds_65 : decode cL_holds 65 = .ok (.aload_n 0, 1) := by decide +kernel
theorem dL_holds_66 : decode cL_holds 66 = .ok (.iload 9, 2) := by decide +kernel
theorem dL_holds_68 : decode cL_holds 68 = .ok (.invokestatic 78, 3) := by decide +kernel
theorem dL_holds_71 : decode cL_holds 71 = .ok (.istore 8, 2) := by decide +kernel
theorem dL_holds_73 : decode cL_holds 73 = .ok (.iload_n 2, 1) := by decide +kernel
theorem dL_holds_74 : decode cL_holds 74 = .ok (.aload_n 0, 1) := by decide +kernel
theorem dL_holds_75 : decode cL_holds 75 = .ok (.iload 9, 2) := by decide +kernel
theorem dL_holds_77 : decode cL_holds 77 = .ok (.iconst 5, 1) := by decide +kernel
theorem dL_holds_78 : decode cL_holds 78 = .ok (.invokevirtual 45, 3) := by decide +kernel
theorem dL_holds_81 : decode cL_holds 81 = .ok (.ifCond .ne 7, 3) := by decide +kernel
theorem dL_holds_84 : decode cL_holds 84 = .ok (.iconst 1, 1) := by decide +kernel
theorem dL_holds_85 : decode cL_holds 85 = .ok (.goto 4, 3) := by decide +kernel
theorem dL_holds_88 : decode cL_holds 88 = .ok (.iconst 0, 1) := by decide +kernel
theorem dL_holds_89 : decode cL_holds 89 = .ok (.iadd, 1) := by decide +kernel
theorem dL_holds_90 : decode cL_holds 90 = .ok (.istore_n 2, 1) := by decide +kernel
theorem dL_holds_91 : decode cL_holds 91 = .ok (.iload_n 3, 1) := by decide +kernel
theorem dL_holds_92 : decode cL_holds 92 = .ok (.aload_n 0, 1) := by decide +kernel
theorem dL_holds_93 : decode cL_holds 93 = .ok (.iload 9, 2) := by decide +kernel
theorem dL_holds_95 : decode cL_holds 95 = .ok (.iconst 5, 1) := by decide +kernel
theorem dL_holds_96 : decode cL_holds 96 = .ok (.invokevirtual 45, 3) := by decide +kernel
theorem dL_holds_99 : decode cL_holds 99 = .ok (.iconst 1, 1) := by decide +kernel
theorem dL_holds_100 : decode cL_holds 100 = .ok (.if_icmp .ne 7, 3) := by decide +kernel
theorem dL_holds_103 : decode cL_holds 103 = .ok (.iconst 1, 1) := by decide +kernel
theorem dL_holds_104 : decode cL_holds 104 = .ok (.goto 4, 3) := by decide +kernel
theorem dL_holds_107 : decode cL_holds 107 = .ok (.iconst 0, 1) := by decide +kernel
theorem dL_holds_108 : decode cL_holds 108 = .ok (.iadd, 1) := by decide +kernel
theorem dL_holds_109 : decode cL_holds 109 = .ok (.istore_n 3, 1) := by decide +kernel
theorem dL_holds_110 : decode cL_holds 110 = .ok (.iload 4, 2) := by decide +kernel
theorem dL_holds_112 : decode cL_holds 112 = .ok (.aload_n 0, 1) := by decide +kernel
theorem dL_holds_113 : decode cL_holds 113 = .ok (.iload 9, 2) := by decide +kernel
theorem dL_holds_115 : decode cL_holds 115 = .ok (.bipush 9, 2) := by decide +kernel
theorem dL_holds_117 : decode cL_holds 117 = .ok (.invokevirtual 45, 3) := by decide +kernel
theorem dL_holds_120 : decode cL_holds 120 = .ok (.iadd, 1) := by decide +kernel
theorem dL_holds_121 : decode cL_holds 121 = .ok (.istore 4, 2) := by decide +kernel
theorem dL_holds_123 : decode cL_holds 123 = .ok (.iload 5, 2) := by decide +kernel
theorem dL_holds_125 : decode cL_holds 125 = .ok (.aload_n 0, 1) := by decide +kernel
theorem dL_holds_126 : decode cL_holds 126 = .ok (.iload 9, 2) := by decide +kernel
theorem dL_holds_128 : decode cL_holds 128 = .ok (.bipush 10, 2) := by decide +kernel
theorem dL_holds_130 : decode cL_holds 130 = .ok (.invokevirtual 45, 3) := by decide +kernel
theorem dL_holds_133 : decode cL_holds 133 = .ok (.bipush (-5), 2) := by decide +kernel
theorem dL_holds_135 : decode cL_holds 135 = .ok (.if_icmp .ne 7, 3) := by decide +kernel
theorem dL_holds_138 : decode cL_holds 138 = .ok (.iconst 0, 1) := by decide +kernel
theorem dL_holds_139 : decode cL_holds 139 = .ok (.goto 13, 3) := by decide +kernel
theorem dL_holds_142 : decode cL_holds 142 = .ok (.iconst 1, 1) := by decide +kernel
theorem dL_holds_143 : decode cL_holds 143 = .ok (.aload_n 0, 1) := by decide +kernel
theorem dL_holds_144 : decode cL_holds 144 = .ok (.iload 9, 2) := by decide +kernel
theorem dL_holds_146 : decode cL_holds 146 = .ok (.bipush 10, 2) := by decide +kernel
theorem dL_holds_148 : decode cL_holds 148 = .ok (.invokevirtual 45, 3) := by decide +kernel
theorem dL_holds_151 : decode cL_holds 151 = .ok (.ishl, 1) := by decide +kernel
theorem dL_holds_152 : decode cL_holds 152 = .ok (.ior, 1) := by decide +kernel
theorem dL_holds_153 : decode cL_holds 153 = .ok (.istore 5, 2) := by decide +kernel
theorem dL_holds_155 : decode cL_holds 155 = .ok (.aload_n 0, 1) := by decide +kernel
theorem dL_holds_156 : decode cL_holds 156 = .ok (.iload 9, 2) := by decide +kernel
theorem dL_holds_158 : decode cL_holds 158 = .ok (.invokevirtual 69, 3) := by decide +kernel
theorem dL_holds_161 : decode cL_holds 161 = .ok (.ifCond .ne 30, 3) := by decide +kernel
theorem dL_holds_164 : decode cL_holds 164 = .ok (.iload 7, 2) := by decide +kernel
theorem dL_holds_166 : decode cL_holds 166 = .ok (.bipush (-5), 2) := by decide +kernel
theorem dL_holds_168 : decode cL_holds 168 = .ok (.if_icmp .eq 18, 3) := by decide +kernel
theorem dL_holds_171 : decode cL_holds 171 = .ok (.aload_n 0, 1) := by decide +kernel
theorem dL_holds_172 : decode cL_holds 172 = .ok (.iload 9, 2) := by decide +kernel
theorem dL_holds_174 : decode cL_holds 174 = .ok (.invokevirtual 72, 3) := by decide +kernel
theorem dL_holds_177 : decode cL_holds 177 = .ok (.aload_n 0, 1) := by decide +kernel
theorem dL_holds_178 : decode cL_holds 178 = .ok (.iload 7, 2) := by decide +kernel
theorem dL_holds_180 : decode cL_holds 180 = .ok (.invokevirtual 72, 3) := by decide +kernel
theorem dL_holds_183 : decode cL_holds 183 = .ok (.if_icmp .gt 8, 3) := by decide +kernel
theorem dL_holds_186 : decode cL_holds 186 = .ok (.iload 9, 2) := by decide +kernel
theorem dL_holds_188 : decode cL_holds 188 = .ok (.goto 5, 3) := by decide +kernel
theorem dL_holds_191 : decode cL_holds 191 = .ok (.iload 7, 2) := by decide +kernel
theorem dL_holds_193 : decode cL_holds 193 = .ok (.istore 7, 2) := by decide +kernel
theorem dL_holds_195 : decode cL_holds 195 = .ok (.iinc 9 (-1), 3) := by decide +kernel
theorem dL_holds_198 : decode cL_holds 198 = .ok (.goto (-143), 3) := by decide +kernel
theorem dL_holds_201 : decode cL_holds 201 = .ok (.iconst 0, 1) := by decide +kernel
theorem dL_holds_202 : decode cL_holds 202 = .ok (.istore 9, 2) := by decide +kernel
theorem dL_holds_204 : decode cL_holds 204 = .ok (.iload 9, 2) := by decide +kernel
theorem dL_holds_206 : decode cL_holds 206 = .ok (.bipush 12, 2) := by decide +kernel
theorem dL_holds_208 : decode cL_holds 208 = .ok (.if_icmp .ge 82, 3) := by decide +kernel
theorem dL_holds_211 : decode cL_holds 211 = .ok (.iload 8, 2) := by decide +kernel
theorem dL_holds_213 : decode cL_holds 213 = .ok (.ifCond .eq 77, 3) := by decide +kernel
theorem dL_holds_216 : decode cL_holds 216 = .ok (.iload 6, 2) := by decide +kernel
theorem dL_holds_218 : decode cL_holds 218 = .ok (.aload_n 0, 1) := by decide +kernel
theorem dL_holds_219 : decode cL_holds 219 = .ok (.iload 9, 2) := by decide +kernel
theorem dL_holds_221 : decode cL_holds 221 = .ok (.invokevirtual 59, 3) := by decide +kernel
theorem dL_holds_224 : decode cL_holds 224 = .ok (.iadd, 1) := by decide +kernel
theorem dL_holds_225 : decode cL_holds 225 = .ok (.istore 6, 2) := by decide +kernel
theorem dL_holds_227 : decode cL_holds 227 = .ok (.aload_n 0, 1) := by decide +kernel
theorem dL_holds_228 : decode cL_holds 228 = .ok (.iload 9, 2) := by decide +kernel
theorem dL_holds_230 : decode cL_holds 230 = .ok (.invokevirtual 59, 3) := by decide +kernel
theorem dL_holds_233 : decode cL_holds 233 = .ok (.ifCond .lt 48, 3) := by decide +kernel
theorem dL_holds_236 : decode cL_holds 236 = .ok (.aload_n 0, 1) := by decide +kernel
theorem dL_holds_237 : decode cL_holds 237 = .ok (.iload 9, 2) := by decide +kernel
theorem dL_holds_239 : decode cL_holds 239 = .ok (.invokevirtual 59, 3) := by decide +kernel
theorem dL_holds_242 : decode cL_holds 242 = .ok (.aload_n 0, 1) := by decide +kernel
theorem dL_holds_243 : decode cL_holds 243 = .ok (.bipush 10, 2) := by decide +kernel
theorem dL_holds_245 : decode cL_holds 245 = .ok (.invokevirtual 9, 3) := by decide +kernel
theorem dL_holds_248 : decode cL_holds 248 = .ok (.if_icmp .gt 33, 3) := by decide +kernel
theorem dL_holds_251 : decode cL_holds 251 = .ok (.iload 9, 2) := by decide +kernel
theorem dL_holds_253 : decode cL_holds 253 = .ok (.aload_n 0, 1) := by decide +kernel
theorem dL_holds_254 : decode cL_holds 254 = .ok (.bipush 11, 2) := by decide +kernel
theorem dL_holds_256 : decode cL_holds 256 = .ok (.invokevirtual 9, 3) := by decide +kernel
theorem dL_holds_259 : decode cL_holds 259 = .ok (.if_icmp .ge 18, 3) := by decide +kernel
theorem dL_holds_262 : decode cL_holds 262 = .ok (.aload_n 0, 1) := by decide +kernel
theorem dL_holds_263 : decode cL_holds 263 = .ok (.iload 9, 2) := by decide +kernel
theorem dL_holds_265 : decode cL_holds 265 = .ok (.invokevirtual 59, 3) := by decide +kernel
theorem dL_holds_268 : decode cL_holds 268 = .ok (.aload_n 0, 1) := by decide +kernel
theorem dL_holds_269 : decode cL_holds 269 = .ok (.bipush 10, 2) := by decide +kernel
theorem dL_holds_271 : decode cL_holds 271 = .ok (.invokevirtual 9, 3) := by decide +kernel
theorem dL_holds_274 : decode cL_holds 274 = .ok (.if_icmp .ge 7, 3) := by decide +kernel
theorem dL_holds_277 : decode cL_holds 277 = .ok (.iconst 1, 1) := by decide +kernel
theorem dL_holds_278 : decode cL_holds 278 = .ok (.goto 4, 3) := by decide +kernel
theorem dL_holds_281 : decode cL_holds 281 = .ok (.iconst 0, 1) := by decide +kernel
theorem dL_holds_282 : decode cL_holds 282 = .ok (.istore 8, 2) := by decide +kernel
theorem dL_holds_284 : decode cL_holds 284 = .ok (.iinc 9 1, 3) := by decide +kernel
theorem dL_holds_287 : decode cL_holds 287 = .ok (.goto (-83), 3) := by decide +kernel
theorem dL_holds_290 : decode cL_holds 290 = .ok (.iload 8, 2) := by decide +kernel
theorem dL_holds_292 : decode cL_holds 292 = .ok (.ifCond .eq 112, 3) := by decide +kernel
theorem dL_holds_295 : decode cL_holds 295 = .ok (.iload_n 2, 1) := by decide +kernel
theorem dL_holds_296 : decode cL_holds 296 = .ok (.aload_n 0, 1) := by decide +kernel
theorem dL_holds_297 : decode cL_holds 297 = .ok (.iconst 1, 1) := by decide +kernel
theorem dL_holds_298 : decode cL_holds 298 = .ok (.invokevirtual 9, 3) := by decide +kernel
theorem dL_holds_301 : decode cL_holds 301 = .ok (.if_icmp .ne 103, 3) := by decide +kernel
theorem dL_holds_304 : decode cL_holds 304 = .ok (.iload_n 3, 1) := by decide +kernel
theorem dL_holds_305 : decode cL_holds 305 = .ok (.aload_n 0, 1) := by decide +kernel
theorem dL_holds_306 : decode cL_holds 306 = .ok (.iconst 2, 1) := by decide +kernel
theorem dL_holds_307 : decode cL_holds 307 = .ok (.invokevirtual 9, 3) := by decide +kernel
theorem dL_holds_310 : decode cL_holds 310 = .ok (.if_icmp .ne 94, 3) := by decide +kernel
theorem dL_holds_313 : decode cL_holds 313 = .ok (.iload_n 1, 1) := by decide +kernel
theorem dL_holds_314 : decode cL_holds 314 = .ok (.iload_n 2, 1) := by decide +kernel
theorem dL_holds_315 : decode cL_holds 315 = .ok (.iload_n 3, 1) := by decide +kernel
theorem dL_holds_316 : decode cL_holds 316 = .ok (.iadd, 1) := by decide +kernel
theorem dL_holds_317 : decode cL_holds 317 = .ok (.aload_n 0, 1) := by decide +kernel
theorem dL_holds_318 : decode cL_holds 318 = .ok (.iconst 3, 1) := by decide +kernel
theorem dL_holds_319 : decode cL_holds 319 = .ok (.invokevirtual 9, 3) := by decide +kernel
theorem dL_holds_322 : decode cL_holds 322 = .ok (.iadd, 1) := by decide +kernel
theorem dL_holds_323 : decode cL_holds 323 = .ok (.if_icmp .ne 81, 3) := by decide +kernel
theorem dL_holds_326 : decode cL_holds 326 = .ok (.iload 4, 2) := by decide +kernel
theorem dL_holds_328 : decode cL_holds 328 = .ok (.aload_n 0, 1) := by decide +kernel
theorem dL_holds_329 : decode cL_holds 329 = .ok (.iconst 4, 1) := by decide +kernel
theorem dL_holds_330 : decode cL_holds 330 = .ok (.invokevirtual 9, 3) := by decide +kernel
theorem dL_holds_333 : decode cL_holds 333 = .ok (.if_icmp .ne 71, 3) := by decide +kernel
theorem dL_holds_336 : decode cL_holds 336 = .ok (.iload 5, 2) := by decide +kernel
theorem dL_holds_338 : decode cL_holds 338 = .ok (.iconst 1, 1) := by decide +kernel
theorem dL_holds_339 : decode cL_holds 339 = .ok (.iload_n 3, 1) := by decide +kernel
theorem dL_holds_340 : decode cL_holds 340 = .ok (.ishl, 1) := by decide +kernel
theorem dL_holds_341 : decode cL_holds 341 = .ok (.iconst 1, 1) := by decide +kernel
theorem dL_holds_342 : decode cL_holds 342 = .ok (.isub, 1) := by decide +kernel
theorem dL_holds_343 : decode cL_holds 343 = .ok (.if_icmp .ne 61, 3) := by decide +kernel
theorem dL_holds_346 : decode cL_holds 346 = .ok (.iload 6, 2) := by decide +kernel
theorem dL_holds_348 : decode cL_holds 348 = .ok (.aload_n 0, 1) := by decide +kernel
theorem dL_holds_349 : decode cL_holds 349 = .ok (.bipush 12, 2) := by decide +kernel
theorem dL_holds_351 : decode cL_holds 351 = .ok (.invokevirtual 9, 3) := by decide +kernel
theorem dL_holds_354 : decode cL_holds 354 = .ok (.if_icmp .ne 50, 3) := by decide +kernel
theorem dL_holds_357 : decode cL_holds 357 = .ok (.aload_n 0, 1) := by decide +kernel
theorem dL_holds_358 : decode cL_holds 358 = .ok (.aload_n 0, 1) := by decide +kernel
theorem dL_holds_359 : decode cL_holds 359 = .ok (.bipush 11, 2) := by decide +kernel
theorem dL_holds_361 : decode cL_holds 361 = .ok (.invokevirtual 9, 3) := by decide +kernel
theorem dL_holds_364 : decode cL_holds 364 = .ok (.invokevirtual 59, 3) := by decide +kernel
theorem dL_holds_367 : decode cL_holds 367 = .ok (.aload_n 0, 1) := by decide +kernel
theorem dL_holds_368 : decode cL_holds 368 = .ok (.bipush 10, 2) := by decide +kernel
theorem dL_holds_370 : decode cL_holds 370 = .ok (.invokevirtual 9, 3) := by decide +kernel
theorem dL_holds_373 : decode cL_holds 373 = .ok (.if_icmp .ne 31, 3) := by decide +kernel
theorem dL_holds_376 : decode cL_holds 376 = .ok (.aload_n 0, 1) := by decide +kernel
theorem dL_holds_377 : decode cL_holds 377 = .ok (.invokevirtual 82, 3) := by decide +kernel
theorem dL_holds_380 : decode cL_holds 380 = .ok (.iload 7, 2) := by decide +kernel
theorem dL_holds_382 : decode cL_holds 382 = .ok (.if_icmp .ne 22, 3) := by decide +kernel
theorem dL_holds_385 : decode cL_holds 385 = .ok (.aload_n 0, 1) := by decide +kernel
theorem dL_holds_386 : decode cL_holds 386 = .ok (.bipush 9, 2) := by decide +kernel
theorem dL_holds_388 : decode cL_holds 388 = .ok (.invokevirtual 9, 3) := by decide +kernel
theorem dL_holds_391 : decode cL_holds 391 = .ok (.aload_n 0, 1) := by decide +kernel
theorem dL_holds_392 : decode cL_holds 392 = .ok (.bipush 8, 2) := by decide +kernel
theorem dL_holds_394 : decode cL_holds 394 = .ok (.invokevirtual 9, 3) := by decide +kernel
theorem dL_holds_397 : decode cL_holds 397 = .ok (.if_icmp .gt 7, 3) := by decide +kernel
theorem dL_holds_400 : decode cL_holds 400 = .ok (.iconst 1, 1) := by decide +kernel
theorem dL_holds_401 : decode cL_holds 401 = .ok (.goto 4, 3) := by decide +kernel
theorem dL_holds_404 : decode cL_holds 404 = .ok (.iconst 0, 1) := by decide +kernel
theorem dL_holds_405 : decode cL_holds 405 = .ok (.ireturn, 1) := by decide +kernel
theorem dL_tries_0 : decode cL_tries 0 = .ok (.aload_n 0, 1) := by decide +kernel
theorem dL_tries_1 : decode cL_tries 1 = .ok (.iconst 0, 1) := by decide +kernel
theorem dL_tries_2 : decode cL_tries 2 = .ok (.invokevirtual 9, 3) := by decide +kernel
theorem dL_tries_5 : decode cL_tries 5 = .ok (.istore_n 2, 1) := by decide +kernel
theorem dL_tries_6 : decode cL_tries 6 = .ok (.iload_n 1, 1) := by decide +kernel
theorem dL_tries_7 : decode cL_tries 7 = .ok (.iload_n 2, 1) := by decide +kernel
theorem dL_tries_8 : decode cL_tries 8 = .ok (.iconst 1, 1) := by decide +kernel
theorem dL_tries_9 : decode cL_tries 9 = .ok (.iadd, 1) := by decide +kernel
theorem dL_tries_10 : decode cL_tries 10 = .ok (.invokestatic 15, 3) := by decide +kernel
theorem dL_tries_13 : decode cL_tries 13 = .ok (.istore_n 3, 1) := by decide +kernel
theorem dL_tries_14 : decode cL_tries 14 = .ok (.aload_n 0, 1) := by decide +kernel
theorem dL_tries_15 : decode cL_tries 15 = .ok (.iload_n 3, 1) := by decide +kernel
theorem dL_tries_16 : decode cL_tries 16 = .ok (.invokevirtual 69, 3) := by decide +kernel
theorem dL_tries_19 : decode cL_tries 19 = .ok (.istore 4, 2) := by decide +kernel
theorem dL_tries_21 : decode cL_tries 21 = .ok (.aload_n 0, 1) := by decide +kernel
theorem dL_tries_22 : decode cL_tries 22 = .ok (.bipush 8, 2) := by decide +kernel
theorem dL_tries_24 : decode cL_tries 24 = .ok (.invokevirtual 9, 3) := by decide +kernel
theorem dL_tries_27 : decode cL_tries 27 = .ok (.istore 5, 2) := by decide +kernel
theorem dL_tries_29 : decode cL_tries 29 = .ok (.iconst 1, 1) := by decide +kernel
theorem dL_tries_30 : decode cL_tries 30 = .ok (.istore 6, 2) := by decide +kernel
theorem dL_tries_32 : decode cL_tries 32 = .ok (.iload 4, 2) := by decide +kernel
theorem dL_tries_34 : decode cL_tries 34 = .ok (.ifCond .ne 113, 3) := by decide +kernel
theorem dL_tries_37 : decode cL_tries 37 = .ok (.aload_n 0, 1) := by decide +kernel
theorem dL_tries_38 : decode cL_tries 38 = .ok (.iload_n 3, 1) := by decide +kernel
theorem dL_tries_39 : decode cL_tries 39 = .ok (.invokevirtual 72, 3) := by decide +kernel
theorem dL_tries_42 : decode cL_tries 42 = .ok (.istore 7, 2) := by decide +kernel
theorem dL_tries_44 : decode cL_tries 44 = .ok (.aload_n 0, 1) := by decide +kernel
theorem dL_tries_45 : decode cL_tries 45 = .ok (.iload_n 3, 1) := by decide +kernel
theorem dL_tries_46 : decode cL_tries 46 = .ok (.bipush 8, 2) := by decide +kernel
theorem dL_tries_48 : decode cL_tries 48 = .ok (.invokevirtual 45, 3) := by decide +kernel
theorem dL_tries_51 : decode cL_tries 51 = .ok (.istore 8, 2) := by decide +kernel
theorem dL_tries_53 : decode cL_tries 53 = .ok (.aload_n 0, 1) := by decide +kernel
theorem dL_tries_54 : decode cL_tries 54 = .ok (.bipush 9, 2) := by decide +kernel
theorem dL_tries_56 : decode cL_tries 56 = .ok (.invokevirtual 9, 3) := by decide +kernel
theorem dL_tries_59 : decode cL_tries 59 = .ok (.istore 9, 2) := by decide +kernel
theorem dL_tries_61 : decode cL_tries 61 = .ok (.aload_n 0, 1) := by decide +kernel
theorem dL_tries_62 : decode cL_tries 62 = .ok (.iconst 5, 1) := by decide +kernel
theorem dL_tries_63 : decode cL_tries 63 = .ok (.invokevirtual 9, 3) := by decide +kernel
theorem dL_tries_66 : decode cL_tries 66 = .ok (.istore 10, 2) := by decide +kernel
theorem dL_tries_68 : decode cL_tries 68 = .ok (.aload_n 0, 1) := by decide +kernel
theorem dL_tries_69 : decode cL_tries 69 = .ok (.iload_n 3, 1) := by decide +kernel
theorem dL_tries_70 : decode cL_tries 70 = .ok (.invokevirtual 29, 3) := by decide +kernel
theorem dL_tries_73 : decode cL_tries 73 = .ok (.ifCond .lt 71, 3) := by decide +kernel
theorem dL_tries_76 : decode cL_tries 76 = .ok (.aload_n 0, 1) := by decide +kernel
theorem dL_tries_77 : decode cL_tries 77 = .ok (.bipush 8, 2) := by decide +kernel
theorem dL_tries_79 : decode cL_tries 79 = .ok (.invokevirtual 9, 3) := by decide +kernel
theorem dL_tries_82 : decode cL_tries 82 = .ok (.iload 5, 2) := by decide +kernel
theorem dL_tries_84 : decode cL_tries 84 = .ok (.iload 7, 2) := by decide +kernel
theorem dL_tries_86 : decode cL_tries 86 = .ok (.iadd, 1) := by decide +kernel
theorem dL_tries_87 : decode cL_tries 87 = .ok (.if_icmp .ne 57, 3) := by decide +kernel
theorem dL_tries_90 : decode cL_tries 90 = .ok (.aload_n 0, 1) := by decide +kernel
theorem dL_tries_91 : decode cL_tries 91 = .ok (.bipush 9, 2) := by decide +kernel
theorem dL_tries_93 : decode cL_tries 93 = .ok (.invokevirtual 9, 3) := by decide +kernel
theorem dL_tries_96 : decode cL_tries 96 = .ok (.iload 9, 2) := by decide +kernel
theorem dL_tries_98 : decode cL_tries 98 = .ok (.iconst 2, 1) := by decide +kernel
theorem dL_tries_99 : decode cL_tries 99 = .ok (.iload 10, 2) := by decide +kernel
theorem dL_tries_101 : decode cL_tries 101 = .ok (.iconst 4, 1) := by decide +kernel
theorem dL_tries_102 : decode cL_tries 102 = .ok (.idiv, 1) := by decide +kernel
theorem dL_tries_103 : decode cL_tries 103 = .ok (.iadd, 1) := by decide +kernel
theorem dL_tries_104 : decode cL_tries 104 = .ok (.iload 8, 2) := by decide +kernel
theorem dL_tries_106 : decode cL_tries 106 = .ok (.imul, 1) := by decide +kernel
theorem dL_tries_107 : decode cL_tries 107 = .ok (.iadd, 1) := by decide +kernel
theorem dL_tries_108 : decode cL_tries 108 = .ok (.if_icmp .ne 36, 3) := by decide +kernel
theorem dL_tries_111 : decode cL_tries 111 = .ok (.aload_n 0, 1) := by decide +kernel
theorem dL_tries_112 : decode cL_tries 112 = .ok (.iconst 5, 1) := by decide +kernel
theorem dL_tries_113 : decode cL_tries 113 = .ok (.invokevirtual 9, 3) := by decide +kernel
theorem dL_tries_116 : decode cL_tries 116 = .ok (.iload 10, 2) := by decide +kernel
theorem dL_tries_118 : decode cL_tries 118 = .ok (.iconst 1, 1) := by decide +kernel
theorem dL_tries_119 : decode cL_tries 119 = .ok (.iadd, 1) := by decide +kernel
theorem dL_tries_120 : decode cL_tries 120 = .ok (.if_icmp .ne 24, 3) := by decide +kernel
theorem dL_tries_123 : decode cL_tries 123 = .ok (.aload_n 0, 1) := by decide +kernel
theorem dL_tries_124 : decode cL_tries 124 = .ok (.iload_n 3, 1) := by decide +kernel
theorem dL_tries_125 : decode cL_tries 125 = .ok (.iconst 5, 1) := by decide +kernel
theorem dL_tries_126 : decode cL_tries 126 = .ok (.invokevirtual 45, 3) := by decide +kernel
theorem dL_tries_129 : decode cL_tries 129 = .ok (.iconst 1, 1) := by decide +kernel
theorem dL_tries_130 : decode cL_tries 130 = .ok (.if_icmp .ne 14, 3) := by decide +kernel
theorem dL_tries_133 : decode cL_tries 133 = .ok (.aload_n 0, 1) := by decide +kernel
theorem dL_tries_134 : decode cL_tries 134 = .ok (.invokevirtual 85, 3) := by decide +kernel
theorem dL_tries_137 : decode cL_tries 137 = .ok (.ifCond .lt 7, 3) := by decide +kernel
theorem dL_tries_140 : decode cL_tries 140 = .ok (.iconst 1, 1) := by decide +kernel
theorem dL_tries_141 : decode cL_tries 141 = .ok (.goto 4, 3) := by decide +kernel
theorem dL_tries_144 : decode cL_tries 144 = .ok (.iconst 0, 1) := by decide +kernel
theorem dL_tries_145 : decode cL_tries 145 = .ok (.istore 6, 2) := by decide +kernel
theorem dL_tries_147 : decode cL_tries 147 = .ok (.iload 4, 2) := by decide +kernel
theorem dL_tries_149 : decode cL_tries 149 = .ok (.iconst 4, 1) := by decide +kernel
theorem dL_tries_150 : decode cL_tries 150 = .ok (.if_icmp .ne 11, 3) := by decide +kernel
theorem dL_tries_153 : decode cL_tries 153 = .ok (.aload_n 0, 1) := by decide +kernel
theorem dL_tries_154 : decode cL_tries 154 = .ok (.iload_n 3, 1) := by decide +kernel
theorem dL_tries_155 : decode cL_tries 155 = .ok (.invokevirtual 75, 3) := by decide +kernel
theorem dL_tries_158 : decode cL_tries 158 = .ok (.goto 4, 3) := by decide +kernel
theorem dL_tries_161 : decode cL_tries 161 = .ok (.iconst 0, 1) := by decide +kernel
theorem dL_tries_162 : decode cL_tries 162 = .ok (.istore 7, 2) := by decide +kernel
theorem dL_tries_164 : decode cL_tries 164 = .ok (.iload 6, 2) := by decide +kernel
theorem dL_tries_166 : decode cL_tries 166 = .ok (.ifCond .eq 80, 3) := by decide +kernel
theorem dL_tries_169 : decode cL_tries 169 = .ok (.iload 7, 2) := by decide +kernel
theorem dL_tries_171 : decode cL_tries 171 = .ok (.ifCond .le 75, 3) := by decide +kernel
theorem dL_tries_174 : decode cL_tries 174 = .ok (.iload 7, 2) := by decide +kernel
theorem dL_tries_176 : decode cL_tries 176 = .ok (.sipush 1000, 3) := by decide +kernel
theorem dL_tries_179 : decode cL_tries 179 = .ok (.if_icmp .ge 67, 3) := by decide +kernel
theorem dL_tries_182 : decode cL_tries 182 = .ok (.aload_n 0, 1) := by decide +kernel
theorem dL_tries_183 : decode cL_tries 183 = .ok (.iload 7, 2) := by decide +kernel
theorem dL_tries_185 : decode cL_tries 185 = .ok (.invokevirtual 35, 3) := by decide +kernel
theorem dL_tries_188 : decode cL_tries 188 = .ok (.ifCond .lt 55, 3) := by decide +kernel
theorem dL_tries_191 : decode cL_tries 191 = .ok (.aload_n 0, 1) := by decide +kernel
theorem dL_tries_192 : decode cL_tries 192 = .ok (.iload_n 3, 1) := by decide +kernel
theorem dL_tries_193 : decode cL_tries 193 = .ok (.invokevirtual 69, 3) := by decide +kernel
theorem dL_tries_196 : decode cL_tries 196 = .ok (.ifCond .ne 47, 3) := by decide +kernel
theorem dL_tries_199 : decode cL_tries 199 = .ok (.aload_n 0, 1) := by decide +kernel
theorem dL_tries_200 : decode cL_tries 200 = .ok (.invokevirtual 85, 3) := by decide +kernel
theorem dL_tries_203 : decode cL_tries 203 = .ok (.ifCond .lt 40, 3) := by decide +kernel
theorem dL_tries_206 : decode cL_tries 206 = .ok (.iload 7, 2) := by decide +kernel
theorem dL_tries_208 : decode cL_tries 208 = .ok (.iconst 1, 1) := by decide +kernel
theorem dL_tries_209 : decode cL_tries 209 = .ok (.if_icmp .eq 30, 3) := by decide +kernel
theorem dL_tries_212 : decode cL_tries 212 = .ok (.aload_n 0, 1) := by decide +kernel
theorem dL_tries_213 : decode cL_tries 213 = .ok (.iload 7, 2) := by decide +kernel
theorem dL_tries_215 : decode cL_tries 215 = .ok (.iconst 1, 1) := by decide +kernel
theorem dL_tries_216 : decode cL_tries 216 = .ok (.isub, 1) := by decide +kernel
theorem dL_tries_217 : decode cL_tries 217 = .ok (.invokevirtual 35, 3) := by decide +kernel
theorem dL_tries_220 : decode cL_tries 220 = .ok (.ifCond .lt 23, 3) := by decide +kernel
theorem dL_tries_223 : decode cL_tries 223 = .ok (.aload_n 0, 1) := by decide +kernel
theorem dL_tries_224 : decode cL_tries 224 = .ok (.iload_n 3, 1) := by decide +kernel
theorem dL_tries_225 : decode cL_tries 225 = .ok (.invokevirtual 69, 3) := by decide +kernel
theorem dL_tries_228 : decode cL_tries 228 = .ok (.iconst 4, 1) := by decide +kernel
theorem dL_tries_229 : decode cL_tries 229 = .ok (.if_icmp .ne 14, 3) := by decide +kernel
theorem dL_tries_232 : decode cL_tries 232 = .ok (.aload_n 0, 1) := by decide +kernel
theorem dL_tries_233 : decode cL_tries 233 = .ok (.invokevirtual 85, 3) := by decide +kernel
theorem dL_tries_236 : decode cL_tries 236 = .ok (.ifCond .lt 7, 3) := by decide +kernel
theorem dL_tries_239 : decode cL_tries 239 = .ok (.iconst 1, 1) := by decide +kernel
theorem dL_tries_240 : decode cL_tries 240 = .ok (.goto 4, 3) := by decide +kernel
theorem dL_tries_243 : decode cL_tries 243 = .ok (.iconst 0, 1) := by decide +kernel
theorem dL_tries_244 : decode cL_tries 244 = .ok (.istore 6, 2) := by decide +kernel
theorem dL_tries_246 : decode cL_tries 246 = .ok (.iload 6, 2) := by decide +kernel
theorem dL_tries_248 : decode cL_tries 248 = .ok (.ifCond .eq 18, 3) := by decide +kernel
theorem dL_tries_251 : decode cL_tries 251 = .ok (.aload_n 0, 1) := by decide +kernel
theorem dL_tries_252 : decode cL_tries 252 = .ok (.bipush 8, 2) := by decide +kernel
theorem dL_tries_254 : decode cL_tries 254 = .ok (.invokevirtual 9, 3) := by decide +kernel
theorem dL_tries_257 : decode cL_tries 257 = .ok (.iload 5, 2) := by decide +kernel
theorem dL_tries_259 : decode cL_tries 259 = .ok (.if_icmp .ne 7, 3) := by decide +kernel
theorem dL_tries_262 : decode cL_tries 262 = .ok (.iconst 1, 1) := by decide +kernel
theorem dL_tries_263 : decode cL_tries 263 = .ok (.goto 4, 3) := by decide +kernel
theorem dL_tries_266 : decode cL_tries 266 = .ok (.iconst 0, 1) := by decide +kernel
theorem dL_tries_267 : decode cL_tries 267 = .ok (.ireturn, 1) := by decide +kernel
theorem dL_goesThrough_0 : decode cL_goesThrough 0 = .ok (.aload_n 0, 1) := by decide +kernel
theorem dL_goesThrough_1 : decode cL_goesThrough 1 = .ok (.iconst 1, 1) := by decide +kernel
theorem dL_goesThrough_2 : decode cL_goesThrough 2 = .ok (.invokevirtual 9, 3) := by decide +kernel
theorem dL_goesThrough_5 : decode cL_goesThrough 5 = .ok (.istore_n 1, 1) := by decide +kernel
theorem dL_goesThrough_6 : decode cL_goesThrough 6 = .ok (.aload_n 0, 1) := by decide +kernel
theorem dL_goesThrough_7 : decode cL_goesThrough 7 = .ok (.invokevirtual 88, 3) := by decide +kernel
theorem dL_goesThrough_10 : decode cL_goesThrough 10 = .ok (.istore_n 2, 1) := by decide +kernel
theorem dL_goesThrough_11 : decode cL_goesThrough 11 = .ok (.iconst 0, 1) := by decide +kernel
theorem dL_goesThrough_12 : decode cL_goesThrough 12 = .ok (.istore_n 3, 1) := by decide +kernel
theorem dL_goesThrough_13 : decode cL_goesThrough 13 = .ok (.aload_n 0, 1) := by decide +kernel
theorem dL_goesThrough_14 : decode cL_goesThrough 14 = .ok (.bipush 8, 2) := by decide +kernel
theorem dL_goesThrough_16 : decode cL_goesThrough 16 = .ok (.invokevirtual 9, 3) := by decide +kernel
theorem dL_goesThrough_19 : decode cL_goesThrough 19 = .ok (.istore 4, 2) := by decide +kernel
theorem dL_goesThrough_21 : decode cL_goesThrough 21 = .ok (.bipush 12, 2) := by decide +kernel
theorem dL_goesThrough_23 : decode cL_goesThrough 23 = .ok (.newarray .int, 2) := by decide +kernel
theorem dL_goesThrough_25 : decode cL_goesThrough 25 = .ok (.astore 5, 2) := by decide +kernel
theorem dL_goesThrough_27 : decode cL_goesThrough 27 = .ok (.iload_n 3, 1) := by decide +kernel
theorem dL_goesThrough_28 : decode cL_goesThrough 28 = .ok (.bipush 12, 2) := by decide +kernel
theorem dL_goesThrough_30 : decode cL_goesThrough 30 = .ok (.if_icmp .ge 28, 3) := by decide +kernel
theorem dL_goesThrough_33 : decode cL_goesThrough 33 = .ok (.aload_n 0, 1) := by decide +kernel
theorem dL_goesThrough_34 : decode cL_goesThrough 34 = .ok (.iload_n 3, 1) := by decide +kernel
theorem dL_goesThrough_35 : decode cL_goesThrough 35 = .ok (.invokevirtual 91, 3) := by decide +kernel
theorem dL_goesThrough_38 : decode cL_goesThrough 38 = .ok (.bipush (-5), 2) := by decide +kernel
theorem dL_goesThrough_40 : decode cL_goesThrough 40 = .ok (.if_icmp .eq 18, 3) := by decide +kernel
theorem dL_goesThrough_43 : decode cL_goesThrough 43 = .ok (.aload 5, 2) := by decide +kernel
theorem dL_goesThrough_45 : decode cL_goesThrough 45 = .ok (.iload_n 3, 1) := by decide +kernel
theorem dL_goesThrough_46 : decode cL_goesThrough 46 = .ok (.aload_n 0, 1) := by decide +kernel
theorem dL_goesThrough_47 : decode cL_goesThrough 47 = .ok (.iload_n 3, 1) := by decide +kernel
theorem dL_goesThrough_48 : decode cL_goesThrough 48 = .ok (.invokevirtual 91, 3) := by decide +kernel
theorem dL_goesThrough_51 : decode cL_goesThrough 51 = .ok (.iastore, 1) := by decide +kernel
theorem dL_goesThrough_52 : decode cL_goesThrough 52 = .ok (.iinc 3 1, 3) := by decide +kernel
theorem dL_goesThrough_55 : decode cL_goesThrough 55 = .ok (.goto (-28), 3) := by decide +kernel
theorem dL_goesThrough_58 : decode cL_goesThrough 58 = .ok (.iload_n 3, 1) := by decide +kernel
theorem dL_goesThrough_59 : decode cL_goesThrough 59 = .ok (.iload_n 1, 1) := by decide +kernel
theorem dL_goesThrough_60 : decode cL_goesThrough 60 = .ok (.if_icmp .gt 7, 3) := by decide +kernel
theorem dL_goesThrough_63 : decode cL_goesThrough 63 = .ok (.iconst 1, 1) := by decide +kernel
theorem dL_goesThrough_64 : decode cL_goesThrough 64 = .ok (.goto 4, 3) := by decide +kernel
theorem dL_goesThrough_67 : decode cL_goesThrough 67 = .ok (.iconst 0, 1) := by decide +kernel
theorem dL_goesThrough_68 : decode cL_goesThrough 68 = .ok (.istore 6, 2) := by decide +kernel
theorem dL_goesThrough_70 : decode cL_goesThrough 70 = .ok (.iconst 0, 1) := by decide +kernel
theorem dL_goesThrough_71 : decode cL_goesThrough 71 = .ok (.istore 7, 2) := by decide +kernel
theorem dL_goesThrough_73 : decode cL_goesThrough 73 = .ok (.iload 7, 2) := by decide +kernel
theorem dL_goesThrough_75 : decode cL_goesThrough 75 = .ok (.iload_n 3, 1) := by decide +kernel
theorem dL_goesThrough_76 : decode cL_goesThrough 76 = .ok (.if_icmp .ge 153, 3) := by decide +kernel
theorem dL_goesThrough_79 : decode cL_goesThrough 79 = .ok (.iload 6, 2) := by decide +kernel
theorem dL_goesThrough_81 : decode cL_goesThrough 81 = .ok (.ifCond .eq 148, 3) := by decide +kernel
theorem dL_goesThrough_84 : decode cL_goesThrough 84 = .ok (.aload_n 0, 1) := by decide +kernel
theorem dL_goesThrough_85 : decode cL_goesThrough 85 = .ok (.invokevirtual 82, 3) := by decide +kernel
theorem dL_goesThrough_88 : decode cL_goesThrough 88 = .ok (.bipush (-5), 2) := by decide +kernel
theorem dL_goesThrough_90 : decode cL_goesThrough 90 = .ok (.if_icmp .eq 25, 3) := by decide +kernel
theorem dL_goesThrough_93 : decode cL_goesThrough 93 = .ok (.aload_n 0, 1) := by decide +kernel
theorem dL_goesThrough_94 : decode cL_goesThrough 94 = .ok (.invokevirtual 82, 3) := by decide +kernel
theorem dL_goesThrough_97 : decode cL_goesThrough 97 = .ok (.aload 5, 2) := by decide +kernel
theorem dL_goesThrough_99 : decode cL_goesThrough 99 = .ok (.iload 7, 2) := by decide +kernel
theorem dL_goesThrough_101 : decode cL_goesThrough 101 = .ok (.iaload, 1) := by decide +kernel
theorem dL_goesThrough_102 : decode cL_goesThrough 102 = .ok (.if_icmp .ne 7, 3) := by decide +kernel
theorem dL_goesThrough_105 : decode cL_goesThrough 105 = .ok (.iconst 1, 1) := by decide +kernel
theorem dL_goesThrough_106 : decode cL_goesThrough 106 = .ok (.goto 4, 3) := by decide +kernel
theorem dL_goesThrough_109 : decode cL_goesThrough 109 = .ok (.iconst 0, 1) := by decide +kernel
theorem dL_goesThrough_110 : decode cL_goesThrough 110 = .ok (.istore 6, 2) := by decide +kernel
theorem dL_goesThrough_112 : decode cL_goesThrough 112 = .ok (.goto 75, 3) := by decide +kernel
theorem dL_goesThrough_115 : decode cL_goesThrough 115 = .ok (.aload_n 0, 1) := by decide +kernel
theorem dL_goesThrough_116 : decode cL_goesThrough 116 = .ok (.aload 5, 2) := by decide +kernel
theorem dL_goesThrough_118 : decode cL_goesThrough 118 = .ok (.iload 7, 2) := by decide +kernel
theorem dL_goesThrough_120 : decode cL_goesThrough 120 = .ok (.iaload, 1) := by decide +kernel
theorem dL_goesThrough_121 : decode cL_goesThrough 121 = .ok (.invokevirtual 75, 3) := by decide +kernel
theorem dL_goesThrough_124 : decode cL_goesThrough 124 = .ok (.istore 8, 2) := by decide +kernel
theorem dL_goesThrough_126 : decode cL_goesThrough 126 = .ok (.iload 8, 2) := by decide +kernel
theorem dL_goesThrough_128 : decode cL_goesThrough 128 = .ok (.ifCond .le 7, 3) := by decide +kernel
theorem dL_goesThrough_131 : decode cL_goesThrough 131 = .ok (.iconst 1, 1) := by decide +kernel
theorem dL_goesThrough_132 : decode cL_goesThrough 132 = .ok (.goto 4, 3) := by decide +kernel
theorem dL_goesThrough_135 : decode cL_goesThrough 135 = .ok (.iconst 0, 1) := by decide +kernel
theorem dL_goesThrough_136 : decode cL_goesThrough 136 = .ok (.istore 6, 2) := by decide +kernel
theorem dL_goesThrough_138 : decode cL_goesThrough 138 = .ok (.iload 6, 2) := by decide +kernel
theorem dL_goesThrough_140 : decode cL_goesThrough 140 = .ok (.ifCond .eq 47, 3) := by decide +kernel
theorem dL_goesThrough_143 : decode cL_goesThrough 143 = .ok (.iload 8, 2) := by decide +kernel
theorem dL_goesThrough_145 : decode cL_goesThrough 145 = .ok (.ifCond .le 42, 3) := by decide +kernel
theorem dL_goesThrough_148 : decode cL_goesThrough 148 = .ok (.aload_n 0, 1) := by decide +kernel
theorem dL_goesThrough_149 : decode cL_goesThrough 149 = .ok (.iload 8, 2) := by decide +kernel
theorem dL_goesThrough_151 : decode cL_goesThrough 151 = .ok (.sipush 999, 3) := by decide +kernel
theorem dL_goesThrough_154 : decode cL_goesThrough 154 = .ok (.if_icmp .ge 8, 3) := by decide +kernel
theorem dL_goesThrough_157 : decode cL_goesThrough 157 = .ok (.iload 8, 2) := by decide +kernel
theorem dL_goesThrough_159 : decode cL_goesThrough 159 = .ok (.goto 6, 3) := by decide +kernel
theorem dL_goesThrough_162 : decode cL_goesThrough 162 = .ok (.sipush 999, 3) := by decide +kernel
theorem dL_goesThrough_165 : decode cL_goesThrough 165 = .ok (.invokevirtual 35, 3) := by decide +kernel
theorem dL_goesThrough_168 : decode cL_goesThrough 168 = .ok (.ifCond .lt 7, 3) := by decide +kernel
theorem dL_goesThrough_171 : decode cL_goesThrough 171 = .ok (.iconst 1, 1) := by decide +kernel
theorem dL_goesThrough_172 : decode cL_goesThrough 172 = .ok (.goto 4, 3) := by decide +kernel
theorem dL_goesThrough_175 : decode cL_goesThrough 175 = .ok (.iconst 0, 1) := by decide +kernel
theorem dL_goesThrough_176 : decode cL_goesThrough 176 = .ok (.istore 6, 2) := by decide +kernel
theorem dL_goesThrough_178 : decode cL_goesThrough 178 = .ok (.iinc 8 (-999), 6) := by decide +kernel
theorem dL_goesThrough_184 : decode cL_goesThrough 184 = .ok (.goto (-46), 3) := by decide +kernel
theorem dL_goesThrough_187 : decode cL_goesThrough 187 = .ok (.iload 6, 2) := by decide +kernel
theorem dL_goesThrough_189 : decode cL_goesThrough 189 = .ok (.ifCond .eq 31, 3) := by decide +kernel
theorem dL_goesThrough_192 : decode cL_goesThrough 192 = .ok (.aload_n 0, 1) := by decide +kernel
theorem dL_goesThrough_193 : decode cL_goesThrough 193 = .ok (.invokevirtual 82, 3) := by decide +kernel
theorem dL_goesThrough_196 : decode cL_goesThrough 196 = .ok (.aload 5, 2) := by decide +kernel
theorem dL_goesThrough_198 : decode cL_goesThrough 198 = .ok (.iload 7, 2) := by decide +kernel
theorem dL_goesThrough_200 : decode cL_goesThrough 200 = .ok (.iaload, 1) := by decide +kernel
theorem dL_goesThrough_201 : decode cL_goesThrough 201 = .ok (.if_icmp .ne 19, 3) := by decide +kernel
theorem dL_goesThrough_204 : decode cL_goesThrough 204 = .ok (.aload_n 0, 1) := by decide +kernel
theorem dL_goesThrough_205 : decode cL_goesThrough 205 = .ok (.aload 5, 2) := by decide +kernel
theorem dL_goesThrough_207 : decode cL_goesThrough 207 = .ok (.iload 7, 2) := by decide +kernel
theorem dL_goesThrough_209 : decode cL_goesThrough 209 = .ok (.iaload, 1) := by decide +kernel
theorem dL_goesThrough_210 : decode cL_goesThrough 210 = .ok (.invokevirtual 29, 3) := by decide +kernel
theorem dL_goesThrough_213 : decode cL_goesThrough 213 = .ok (.ifCond .lt 7, 3) := by decide +kernel
theorem dL_goesThrough_216 : decode cL_goesThrough 216 = .ok (.iconst 1, 1) := by decide +kernel
theorem dL_goesThrough_217 : decode cL_goesThrough 217 = .ok (.goto 4, 3) := by decide +kernel
theorem dL_goesThrough_220 : decode cL_goesThrough 220 = .ok (.iconst 0, 1) := by decide +kernel
theorem dL_goesThrough_221 : decode cL_goesThrough 221 = .ok (.istore 6, 2) := by decide +kernel
theorem dL_goesThrough_223 : decode cL_goesThrough 223 = .ok (.iinc 7 1, 3) := by decide +kernel
theorem dL_goesThrough_226 : decode cL_goesThrough 226 = .ok (.goto (-153), 3) := by decide +kernel
theorem dL_goesThrough_229 : decode cL_goesThrough 229 = .ok (.iload 6, 2) := by decide +kernel
theorem dL_goesThrough_231 : decode cL_goesThrough 231 = .ok (.ifCond .eq 45, 3) := by decide +kernel
theorem dL_goesThrough_234 : decode cL_goesThrough 234 = .ok (.iload_n 2, 1) := by decide +kernel
theorem dL_goesThrough_235 : decode cL_goesThrough 235 = .ok (.bipush (-5), 2) := by decide +kernel
theorem dL_goesThrough_237 : decode cL_goesThrough 237 = .ok (.if_icmp .ne 14, 3) := by decide +kernel
theorem dL_goesThrough_240 : decode cL_goesThrough 240 = .ok (.aload_n 0, 1) := by decide +kernel
theorem dL_goesThrough_241 : decode cL_goesThrough 241 = .ok (.iconst 1, 1) := by decide +kernel
theorem dL_goesThrough_242 : decode cL_goesThrough 242 = .ok (.invokevirtual 9, 3) := by decide +kernel
theorem dL_goesThrough_245 : decode cL_goesThrough 245 = .ok (.ifCond .le 31, 3) := by decide +kernel
theorem dL_goesThrough_248 : decode cL_goesThrough 248 = .ok (.goto 24, 3) := by decide +kernel
theorem dL_goesThrough_251 : decode cL_goesThrough 251 = .ok (.aload_n 0, 1) := by decide +kernel
theorem dL_goesThrough_252 : decode cL_goesThrough 252 = .ok (.iconst 1, 1) := by decide +kernel
theorem dL_goesThrough_253 : decode cL_goesThrough 253 = .ok (.invokevirtual 9, 3) := by decide +kernel
theorem dL_goesThrough_256 : decode cL_goesThrough 256 = .ok (.ifCond .ne 20, 3) := by decide +kernel
theorem dL_goesThrough_259 : decode cL_goesThrough 259 = .ok (.aload_n 0, 1) := by decide +kernel
theorem dL_goesThrough_260 : decode cL_goesThrough 260 = .ok (.bipush 8, 2) := by decide +kernel
theorem dL_goesThrough_262 : decode cL_goesThrough 262 = .ok (.invokevirtual 9, 3) := by decide +kernel
theorem dL_goesThrough_265 : decode cL_goesThrough 265 = .ok (.iload 4, 2) := by decide +kernel
theorem dL_goesThrough_267 : decode cL_goesThrough 267 = .ok (.iload_n 2, 1) := by decide +kernel
theorem dL_goesThrough_268 : decode cL_goesThrough 268 = .ok (.iadd, 1) := by decide +kernel
theorem dL_goesThrough_269 : decode cL_goesThrough 269 = .ok (.if_icmp .ne 7, 3) := by decide +kernel
theorem dL_goesThrough_272 : decode cL_goesThrough 272 = .ok (.iconst 1, 1) := by decide +kernel
theorem dL_goesThrough_273 : decode cL_goesThrough 273 = .ok (.goto 4, 3) := by decide +kernel
theorem dL_goesThrough_276 : decode cL_goesThrough 276 = .ok (.iconst 0, 1) := by decide +kernel
theorem dL_goesThrough_277 : decode cL_goesThrough 277 = .ok (.ireturn, 1) := by decide +kernel
theorem dL_law_0 : decode cL_law 0 = .ok (.new 10, 3) := by decide +kernel
theorem dL_law_3 : decode cL_law 3 = .ok (.dup, 1) := by decide +kernel
theorem dL_law_4 : decode cL_law 4 = .ok (.invokespecial 94, 3) := by decide +kernel
theorem dL_law_7 : decode cL_law 7 = .ok (.astore_n 1, 1) := by decide +kernel
theorem dL_law_8 : decode cL_law 8 = .ok (.aload_n 1, 1) := by decide +kernel
theorem dL_law_9 : decode cL_law 9 = .ok (.invokestatic 95, 3) := by decide +kernel
theorem dL_law_12 : decode cL_law 12 = .ok (.ifCond .eq 32, 3) := by decide +kernel
theorem dL_law_15 : decode cL_law 15 = .ok (.aload_n 1, 1) := by decide +kernel
theorem dL_law_16 : decode cL_law 16 = .ok (.invokevirtual 85, 3) := by decide +kernel
theorem dL_law_19 : decode cL_law 19 = .ok (.bipush (-5), 2) := by decide +kernel
theorem dL_law_21 : decode cL_law 21 = .ok (.if_icmp .ne 23, 3) := by decide +kernel
theorem dL_law_24 : decode cL_law 24 = .ok (.aload_n 1, 1) := by decide +kernel
theorem dL_law_25 : decode cL_law 25 = .ok (.invokevirtual 99, 3) := by decide +kernel
theorem dL_law_28 : decode cL_law 28 = .ok (.bipush (-5), 2) := by decide +kernel
theorem dL_law_30 : decode cL_law 30 = .ok (.if_icmp .ne 14, 3) := by decide +kernel
theorem dL_law_33 : decode cL_law 33 = .ok (.aload_n 1, 1) := by decide +kernel
theorem dL_law_34 : decode cL_law 34 = .ok (.invokevirtual 88, 3) := by decide +kernel
theorem dL_law_37 : decode cL_law 37 = .ok (.ifCond .ne 7, 3) := by decide +kernel
theorem dL_law_40 : decode cL_law 40 = .ok (.iconst 1, 1) := by decide +kernel
theorem dL_law_41 : decode cL_law 41 = .ok (.goto 4, 3) := by decide +kernel
theorem dL_law_44 : decode cL_law 44 = .ok (.iconst 0, 1) := by decide +kernel
theorem dL_law_45 : decode cL_law 45 = .ok (.istore_n 2, 1) := by decide +kernel
theorem dL_law_46 : decode cL_law 46 = .ok (.aload_n 0, 1) := by decide +kernel
theorem dL_law_47 : decode cL_law 47 = .ok (.arraylength, 1) := by decide +kernel
theorem dL_law_48 : decode cL_law 48 = .ok (.iconst 3, 1) := by decide +kernel
theorem dL_law_49 : decode cL_law 49 = .ok (.idiv, 1) := by decide +kernel
theorem dL_law_50 : decode cL_law 50 = .ok (.bipush 32, 2) := by decide +kernel
theorem dL_law_52 : decode cL_law 52 = .ok (.if_icmp .le 8, 3) := by decide +kernel
theorem dL_law_55 : decode cL_law 55 = .ok (.bipush 32, 2) := by decide +kernel
theorem dL_law_57 : decode cL_law 57 = .ok (.goto 7, 3) := by decide +kernel
theorem dL_law_60 : decode cL_law 60 = .ok (.aload_n 0, 1) := by decide +kernel
theorem dL_law_61 : decode cL_law 61 = .ok (.arraylength, 1) := by decide +kernel
theorem dL_law_62 : decode cL_law 62 = .ok (.iconst 3, 1) := by decide +kernel
theorem dL_law_63 : decode cL_law 63 = .ok (.idiv, 1) := by decide +kernel
theorem dL_law_64 : decode cL_law 64 = .ok (.istore_n 3, 1) := by decide +kernel
theorem dL_law_65 : decode cL_law 65 = .ok (.iconst 0, 1) := by decide +kernel
theorem dL_law_66 : decode cL_law 66 = .ok (.istore 4, 2) := by decide +kernel
theorem dL_law_68 : decode cL_law 68 = .ok (.iload 4, 2) := by decide +kernel
theorem dL_law_70 : decode cL_law 70 = .ok (.iload_n 3, 1) := by decide +kernel
theorem dL_law_71 : decode cL_law 71 = .ok (.if_icmp .ge 131, 3) := by decide +kernel
theorem dL_law_74 : decode cL_law 74 = .ok (.iload_n 2, 1) := by decide +kernel
theorem dL_law_75 : decode cL_law 75 = .ok (.ifCond .eq 127, 3) := by decide +kernel
theorem dL_law_78 : decode cL_law 78 = .ok (.aload_n 1, 1) := by decide +kernel
theorem dL_law_79 : decode cL_law 79 = .ok (.bipush 17, 2) := by decide +kernel
theorem dL_law_81 : decode cL_law 81 = .ok (.invokevirtual 9, 3) := by decide +kernel
theorem dL_law_84 : decode cL_law 84 = .ok (.istore 5, 2) := by decide +kernel
theorem dL_law_86 : decode cL_law 86 = .ok (.aload_n 1, 1) := by decide +kernel
theorem dL_law_87 : decode cL_law 87 = .ok (.aload_n 0, 1) := by decide +kernel
theorem dL_law_88 : decode cL_law 88 = .ok (.iconst 3, 1) := by decide +kernel
theorem dL_law_89 : decode cL_law 89 = .ok (.iload 4, 2) := by decide +kernel
theorem dL_law_91 : decode cL_law 91 = .ok (.imul, 1) := by decide +kernel
theorem dL_law_92 : decode cL_law 92 = .ok (.invokestatic 102, 3) := by decide +kernel
theorem dL_law_95 : decode cL_law 95 = .ok (.bipush 13, 2) := by decide +kernel
theorem dL_law_97 : decode cL_law 97 = .ok (.invokestatic 15, 3) := by decide +kernel
theorem dL_law_100 : decode cL_law 100 = .ok (.aload_n 0, 1) := by decide +kernel
theorem dL_law_101 : decode cL_law 101 = .ok (.iconst 3, 1) := by decide +kernel
theorem dL_law_102 : decode cL_law 102 = .ok (.iload 4, 2) := by decide +kernel
theorem dL_law_104 : decode cL_law 104 = .ok (.imul, 1) := by decide +kernel
theorem dL_law_105 : decode cL_law 105 = .ok (.iconst 1, 1) := by decide +kernel
theorem dL_law_106 : decode cL_law 106 = .ok (.iadd, 1) := by decide +kernel
theorem dL_law_107 : decode cL_law 107 = .ok (.invokestatic 102, 3) := by decide +kernel
theorem dL_law_110 : decode cL_law 110 = .ok (.aload_n 0, 1) := by decide +kernel
theorem dL_law_111 : decode cL_law 111 = .ok (.iconst 3, 1) := by decide +kernel
theorem dL_law_112 : decode cL_law 112 = .ok (.iload 4, 2) := by decide +kernel
theorem dL_law_114 : decode cL_law 114 = .ok (.imul, 1) := by decide +kernel
theorem dL_law_115 : decode cL_law 115 = .ok (.iconst 2, 1) := by decide +kernel
theorem dL_law_116 : decode cL_law 116 = .ok (.iadd, 1) := by decide +kernel
theorem dL_law_117 : decode cL_law 117 = .ok (.invokestatic 102, 3) := by decide +kernel
theorem dL_law_120 : decode cL_law 120 = .ok (.invokestatic 106, 3) := by decide +kernel
theorem dL_law_123 : decode cL_law 123 = .ok (.istore 6, 2) := by decide +kernel
theorem dL_law_125 : decode cL_law 125 = .ok (.aload_n 1, 1) := by decide +kernel
theorem dL_law_126 : decode cL_law 126 = .ok (.bipush 17, 2) := by decide +kernel
theorem dL_law_128 : decode cL_law 128 = .ok (.invokevirtual 9, 3) := by decide +kernel
theorem dL_law_131 : decode cL_law 131 = .ok (.iload 6, 2) := by decide +kernel
theorem dL_law_133 : decode cL_law 133 = .ok (.ifCond .ge 8, 3) := by decide +kernel
theorem dL_law_136 : decode cL_law 136 = .ok (.iload 5, 2) := by decide +kernel
theorem dL_law_138 : decode cL_law 138 = .ok (.goto 17, 3) := by decide +kernel
theorem dL_law_141 : decode cL_law 141 = .ok (.iload 5, 2) := by decide +kernel
theorem dL_law_143 : decode cL_law 143 = .ok (.iconst 4, 1) := by decide +kernel
theorem dL_law_144 : decode cL_law 144 = .ok (.if_icmp .ne 7, 3) := by decide +kernel
theorem dL_law_147 : decode cL_law 147 = .ok (.iconst 4, 1) := by decide +kernel
theorem dL_law_148 : decode cL_law 148 = .ok (.goto 7, 3) := by decide +kernel
theorem dL_law_151 : decode cL_law 151 = .ok (.iload 5, 2) := by decide +kernel
theorem dL_law_153 : decode cL_law 153 = .ok (.iconst 1, 1) := by decide +kernel
theorem dL_law_154 : decode cL_law 154 = .ok (.iadd, 1) := by decide +kernel
theorem dL_law_155 : decode cL_law 155 = .ok (.if_icmp .ne 39, 3) := by decide +kernel
theorem dL_law_158 : decode cL_law 158 = .ok (.aload_n 1, 1) := by decide +kernel
theorem dL_law_159 : decode cL_law 159 = .ok (.invokestatic 95, 3) := by decide +kernel
theorem dL_law_162 : decode cL_law 162 = .ok (.ifCond .eq 32, 3) := by decide +kernel
theorem dL_law_165 : decode cL_law 165 = .ok (.iload 4, 2) := by decide +kernel
theorem dL_law_167 : decode cL_law 167 = .ok (.iconst 3, 1) := by decide +kernel
theorem dL_law_168 : decode cL_law 168 = .ok (.irem, 1) := by decide +kernel
theorem dL_law_169 : decode cL_law 169 = .ok (.iconst 2, 1) := by decide +kernel
theorem dL_law_170 : decode cL_law 170 = .ok (.if_icmp .ne 20, 3) := by decide +kernel
theorem dL_law_173 : decode cL_law 173 = .ok (.aload_n 1, 1) := by decide +kernel
theorem dL_law_174 : decode cL_law 174 = .ok (.aload_n 0, 1) := by decide +kernel
theorem dL_law_175 : decode cL_law 175 = .ok (.iconst 3, 1) := by decide +kernel
theorem dL_law_176 : decode cL_law 176 = .ok (.iload 4, 2) := by decide +kernel
theorem dL_law_178 : decode cL_law 178 = .ok (.imul, 1) := by decide +kernel
theorem dL_law_179 : decode cL_law 179 = .ok (.iconst 2, 1) := by decide +kernel
theorem dL_law_180 : decode cL_law 180 = .ok (.iadd, 1) := by decide +kernel
theorem dL_law_181 : decode cL_law 181 = .ok (.invokestatic 102, 3) := by decide +kernel
theorem dL_law_184 : decode cL_law 184 = .ok (.invokestatic 110, 3) := by decide +kernel
theorem dL_law_187 : decode cL_law 187 = .ok (.ifCond .eq 7, 3) := by decide +kernel
theorem dL_law_190 : decode cL_law 190 = .ok (.iconst 1, 1) := by decide +kernel
theorem dL_law_191 : decode cL_law 191 = .ok (.goto 4, 3) := by decide +kernel
theorem dL_law_194 : decode cL_law 194 = .ok (.iconst 0, 1) := by decide +kernel
theorem dL_law_195 : decode cL_law 195 = .ok (.istore_n 2, 1) := by decide +kernel
theorem dL_law_196 : decode cL_law 196 = .ok (.iinc 4 1, 3) := by decide +kernel
theorem dL_law_199 : decode cL_law 199 = .ok (.goto (-131), 3) := by decide +kernel
theorem dL_law_202 : decode cL_law 202 = .ok (.iload_n 2, 1) := by decide +kernel
theorem dL_law_203 : decode cL_law 203 = .ok (.ifCond .eq 21, 3) := by decide +kernel
theorem dL_law_206 : decode cL_law 206 = .ok (.aload_n 1, 1) := by decide +kernel
theorem dL_law_207 : decode cL_law 207 = .ok (.invokestatic 113, 3) := by decide +kernel
theorem dL_law_210 : decode cL_law 210 = .ok (.ifCond .eq 14, 3) := by decide +kernel
theorem dL_law_213 : decode cL_law 213 = .ok (.aload_n 1, 1) := by decide +kernel
theorem dL_law_214 : decode cL_law 214 = .ok (.invokestatic 95, 3) := by decide +kernel
theorem dL_law_217 : decode cL_law 217 = .ok (.ifCond .eq 7, 3) := by decide +kernel
theorem dL_law_220 : decode cL_law 220 = .ok (.iconst 1, 1) := by decide +kernel
theorem dL_law_221 : decode cL_law 221 = .ok (.goto 4, 3) := by decide +kernel
theorem dL_law_224 : decode cL_law 224 = .ok (.iconst 0, 1) := by decide +kernel
theorem dL_law_225 : decode cL_law 225 = .ok (.ireturn, 1) := by decide +kernel
abbrev vwCl : List vw_C := [(RX0, TX0, 7), (RX1, TX1, 9), (RX2, TX2, 10), (RX3, TX3, 10)]
