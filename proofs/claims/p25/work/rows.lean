section
-- ===== PART A: goes FIRST, ahead of the names: the tables' words, and 'selects' of the private methods out of them =====
/-- a private method of a class that the tables say can be made, by its rows of tables_1 -/
def lw_okq (q : MethodName × Nat) : Prop := (q.1.cls ≠ "java/lang/invoke/MethodHandle" ∧ q.1.cls ≠ "java/lang/invoke/VarHandle") ∧ Cond.instantiable q.1.cls q.2 ∈ tables_1 ∧ Cond.privateMethod q.1 ∈ tables_1 ∧ Cond.instanceMethod q.1 ∈ tables_1
theorem lw_p0 : lw_okq (⟨"BeamCuts", "recorded", "(I)I"⟩, 10) := ⟨⟨by decide +kernel, by decide +kernel⟩, List.mem_of_getElem? (i := 7) (by decide +kernel), List.mem_of_getElem? (i := 177) (by decide +kernel), List.mem_of_getElem? (i := 178) (by decide +kernel)⟩
theorem lw_p1 : lw_okq (⟨"BeamCuts", "dropOldestState", "()V"⟩, 10) := ⟨⟨by decide +kernel, by decide +kernel⟩, List.mem_of_getElem? (i := 7) (by decide +kernel), List.mem_of_getElem? (i := 181) (by decide +kernel), List.mem_of_getElem? (i := 182) (by decide +kernel)⟩
theorem lw_p2 : lw_okq (⟨"BeamCuts$Sheet", "holdsWholeShape", "(LBeamCuts$Shape;)Z"⟩, 10) := ⟨⟨by decide +kernel, by decide +kernel⟩, List.mem_of_getElem? (i := 15) (by decide +kernel), List.mem_of_getElem? (i := 201) (by decide +kernel), List.mem_of_getElem? (i := 202) (by decide +kernel)⟩
theorem lw_p3 : lw_okq (⟨"BeamCuts$Sheet", "heatOver", "(LBeamCuts$Shape;)I"⟩, 10) := ⟨⟨by decide +kernel, by decide +kernel⟩, List.mem_of_getElem? (i := 15) (by decide +kernel), List.mem_of_getElem? (i := 209) (by decide +kernel), List.mem_of_getElem? (i := 210) (by decide +kernel)⟩
theorem lw_p4 : lw_okq (⟨"BeamCuts$Sheet", "wayTo", "(LBeamCuts$Shape;)I"⟩, 10) := ⟨⟨by decide +kernel, by decide +kernel⟩, List.mem_of_getElem? (i := 15) (by decide +kernel), List.mem_of_getElem? (i := 216) (by decide +kernel), List.mem_of_getElem? (i := 217) (by decide +kernel)⟩
theorem lw_p5 : lw_okq (⟨"BeamCuts$Sheet", "burningOf", "(LBeamCuts$Shape;)I"⟩, 10) := ⟨⟨by decide +kernel, by decide +kernel⟩, List.mem_of_getElem? (i := 15) (by decide +kernel), List.mem_of_getElem? (i := 239) (by decide +kernel), List.mem_of_getElem? (i := 240) (by decide +kernel)⟩
theorem lw_p6 : lw_okq (⟨"BeamCuts$Sheet", "fewestTicksToCool", "()I"⟩, 10) := ⟨⟨by decide +kernel, by decide +kernel⟩, List.mem_of_getElem? (i := 15) (by decide +kernel), List.mem_of_getElem? (i := 247) (by decide +kernel), List.mem_of_getElem? (i := 248) (by decide +kernel)⟩
theorem lw_p7 : lw_okq (⟨"BeamCuts$Sheet", "coolFor", "(I)V"⟩, 10) := ⟨⟨by decide +kernel, by decide +kernel⟩, List.mem_of_getElem? (i := 15) (by decide +kernel), List.mem_of_getElem? (i := 255) (by decide +kernel), List.mem_of_getElem? (i := 256) (by decide +kernel)⟩
theorem lw_p8 : lw_okq (⟨"BeamCuts$Sheet", "burnEdge", "(LBeamCuts$Shape;)V"⟩, 10) := ⟨⟨by decide +kernel, by decide +kernel⟩, List.mem_of_getElem? (i := 15) (by decide +kernel), List.mem_of_getElem? (i := 263) (by decide +kernel), List.mem_of_getElem? (i := 264) (by decide +kernel)⟩
theorem lw_p9 : lw_okq (⟨"BeamCuts$Sheet", "greatestHeat", "()I"⟩, 10) := ⟨⟨by decide +kernel, by decide +kernel⟩, List.mem_of_getElem? (i := 15) (by decide +kernel), List.mem_of_getElem? (i := 280) (by decide +kernel), List.mem_of_getElem? (i := 281) (by decide +kernel)⟩
theorem lw_p10 : lw_okq (⟨"BeamCuts$Sheet", "hottestSquare", "()I"⟩, 10) := ⟨⟨by decide +kernel, by decide +kernel⟩, List.mem_of_getElem? (i := 15) (by decide +kernel), List.mem_of_getElem? (i := 284) (by decide +kernel), List.mem_of_getElem? (i := 285) (by decide +kernel)⟩
theorem lw_p11 : lw_okq (⟨"BeamCuts$Sheet", "loseShapesInside", "(LBeamCuts$Shape;)I"⟩, 10) := ⟨⟨by decide +kernel, by decide +kernel⟩, List.mem_of_getElem? (i := 15) (by decide +kernel), List.mem_of_getElem? (i := 288) (by decide +kernel), List.mem_of_getElem? (i := 289) (by decide +kernel)⟩
theorem lw_p12 : lw_okq (⟨"BeamCuts$Sheet", "shapesThatTilted", "()I"⟩, 10) := ⟨⟨by decide +kernel, by decide +kernel⟩, List.mem_of_getElem? (i := 15) (by decide +kernel), List.mem_of_getElem? (i := 305) (by decide +kernel), List.mem_of_getElem? (i := 306) (by decide +kernel)⟩
theorem lw_p13 : lw_okq (⟨"BeamCuts$Sheet", "allHeat", "()I"⟩, 10) := ⟨⟨by decide +kernel, by decide +kernel⟩, List.mem_of_getElem? (i := 15) (by decide +kernel), List.mem_of_getElem? (i := 309) (by decide +kernel), List.mem_of_getElem? (i := 310) (by decide +kernel)⟩
theorem lw_p14 : lw_okq (⟨"BeamCuts$Shape", "fieldsIn", "(II)I"⟩, 9) := ⟨⟨by decide +kernel, by decide +kernel⟩, List.mem_of_getElem? (i := 22) (by decide +kernel), List.mem_of_getElem? (i := 336) (by decide +kernel), List.mem_of_getElem? (i := 337) (by decide +kernel)⟩
theorem lw_p15 : lw_okq (⟨"BeamCuts$Sheet", "fits", "(LBeamCuts$Shape;)Z"⟩, 10) := ⟨⟨by decide +kernel, by decide +kernel⟩, List.mem_of_getElem? (i := 15) (by decide +kernel), List.mem_of_getElem? (i := 344) (by decide +kernel), List.mem_of_getElem? (i := 345) (by decide +kernel)⟩
def lw_privs_1 : List (MethodName × Nat) := [(⟨"BeamCuts", "recorded", "(I)I"⟩, 10), (⟨"BeamCuts", "dropOldestState", "()V"⟩, 10), (⟨"BeamCuts$Sheet", "holdsWholeShape", "(LBeamCuts$Shape;)Z"⟩, 10), (⟨"BeamCuts$Sheet", "heatOver", "(LBeamCuts$Shape;)I"⟩, 10), (⟨"BeamCuts$Sheet", "wayTo", "(LBeamCuts$Shape;)I"⟩, 10), (⟨"BeamCuts$Sheet", "burningOf", "(LBeamCuts$Shape;)I"⟩, 10), (⟨"BeamCuts$Sheet", "fewestTicksToCool", "()I"⟩, 10), (⟨"BeamCuts$Sheet", "coolFor", "(I)V"⟩, 10), (⟨"BeamCuts$Sheet", "burnEdge", "(LBeamCuts$Shape;)V"⟩, 10), (⟨"BeamCuts$Sheet", "greatestHeat", "()I"⟩, 10), (⟨"BeamCuts$Sheet", "hottestSquare", "()I"⟩, 10), (⟨"BeamCuts$Sheet", "loseShapesInside", "(LBeamCuts$Shape;)I"⟩, 10), (⟨"BeamCuts$Sheet", "shapesThatTilted", "()I"⟩, 10), (⟨"BeamCuts$Sheet", "allHeat", "()I"⟩, 10), (⟨"BeamCuts$Shape", "fieldsIn", "(II)I"⟩, 9), (⟨"BeamCuts$Sheet", "fits", "(LBeamCuts$Shape;)Z"⟩, 10)]
theorem lw_r1 : ∀ q ∈ lw_privs_1, lw_okq q := List.forall_mem_cons.mpr ⟨lw_p0, List.forall_mem_cons.mpr ⟨lw_p1, List.forall_mem_cons.mpr ⟨lw_p2, List.forall_mem_cons.mpr ⟨lw_p3, List.forall_mem_cons.mpr ⟨lw_p4, List.forall_mem_cons.mpr ⟨lw_p5, List.forall_mem_cons.mpr ⟨lw_p6, List.forall_mem_cons.mpr ⟨lw_p7, List.forall_mem_cons.mpr ⟨lw_p8, List.forall_mem_cons.mpr ⟨lw_p9, List.forall_mem_cons.mpr ⟨lw_p10, List.forall_mem_cons.mpr ⟨lw_p11, List.forall_mem_cons.mpr ⟨lw_p12, List.forall_mem_cons.mpr ⟨lw_p13, List.forall_mem_cons.mpr ⟨lw_p14, List.forall_mem_cons.mpr ⟨lw_p15, fun _ h => absurd h List.not_mem_nil⟩⟩⟩⟩⟩⟩⟩⟩⟩⟩⟩⟩⟩⟩⟩⟩
theorem lw_p16 : lw_okq (⟨"BeamCuts$Sheet", "outerOf", "(LBeamCuts$Shape;)I"⟩, 10) := ⟨⟨by decide +kernel, by decide +kernel⟩, List.mem_of_getElem? (i := 15) (by decide +kernel), List.mem_of_getElem? (i := 363) (by decide +kernel), List.mem_of_getElem? (i := 364) (by decide +kernel)⟩
theorem lw_p17 : lw_okq (⟨"BeamCuts$Sheet", "setInside", "(LBeamCuts$Shape;)I"⟩, 10) := ⟨⟨by decide +kernel, by decide +kernel⟩, List.mem_of_getElem? (i := 15) (by decide +kernel), List.mem_of_getElem? (i := 367) (by decide +kernel), List.mem_of_getElem? (i := 368) (by decide +kernel)⟩
def lw_privs_2 : List (MethodName × Nat) := [(⟨"BeamCuts$Sheet", "outerOf", "(LBeamCuts$Shape;)I"⟩, 10), (⟨"BeamCuts$Sheet", "setInside", "(LBeamCuts$Shape;)I"⟩, 10)]
theorem lw_r2 : ∀ q ∈ lw_privs_2, lw_okq q := List.forall_mem_cons.mpr ⟨lw_p16, List.forall_mem_cons.mpr ⟨lw_p17, fun _ h => absurd h List.not_mem_nil⟩⟩
def lw_privs : List (MethodName × Nat) := lw_privs_1 ++ (lw_privs_2)
def lw_tbl : List Cond := k2_sels lw_privs ++ tables_1
theorem lw_privs_ok : ∀ q ∈ lw_privs, lw_okq q := by
  show ∀ q ∈ lw_privs_1 ++ (lw_privs_2), lw_okq q
  exact List.forall_mem_append.mpr ⟨lw_r1, lw_r2⟩
end
section
/-! ===== BEGIN words of one list among another's, by their places ===== -/
/-! ===== END ===== -/

/-! ===== BEGIN printed: names, fields, word lists, decode rows ===== -/
def RX0 : String := "BeamCuts$Plan"
def TX0 : u_T := fun k => match k with
  | 0 => ("BeamCuts$Plan", "letters", "[C", true)
  | 1 => ("BeamCuts$Plan", "kinds", "[I", true)
  | 2 => ("BeamCuts$Plan", "firsts", "[I", true)
  | 3 => ("BeamCuts$Plan", "seconds", "[I", true)
  | 4 => ("BeamCuts$Plan", "length", "I", false)
  | 5 => ("BeamCuts$Plan", "size", "I", false)
  | _ => ("BeamCuts$Plan", "at", "I", false)
def tyX0 : Nat → FieldType := fun k => match k with
  | 0 => .array .char
  | 1 => .array .int
  | 2 => .array .int
  | 3 => .array .int
  | 4 => .int
  | 5 => .int
  | _ => .int
abbrev wsX00 : List Cond := u_ws RX0 TX0 7
theorem nmX0 : ∀ a, a < 7 → ∀ b, b < 7 → a ≠ b → (TX0 a).2.1 ≠ (TX0 b).2.1 := by decide +kernel
theorem tyX0_ok : ∀ k, k < 7 → parseFieldDescriptor (TX0 k).2.2.1 = some (tyX0 k) := by decide +kernel
abbrev cX0_init : ByteArray := prog_2_method_1_code
def yX0_init : MethodName := ⟨RX0, "<init>", "()V"⟩
def RX1 : String := "BeamCuts$Shape"
def TX1 : u_T := fun k => match k with
  | 0 => ("BeamCuts$Shape", "left", "I", false)
  | 1 => ("BeamCuts$Shape", "top", "I", false)
  | 2 => ("BeamCuts$Shape", "width", "I", false)
  | 3 => ("BeamCuts$Shape", "height", "I", false)
  | 4 => ("BeamCuts$Shape", "lead", "I", false)
  | 5 => ("BeamCuts$Shape", "condition", "I", false)
  | 6 => ("BeamCuts$Shape", "tilted", "I", false)
  | 7 => ("BeamCuts$Shape", "rank", "I", false)
  | _ => ("BeamCuts$Shape", "edgeIn", "[I", true)
def tyX1 : Nat → FieldType := fun k => match k with
  | 0 => .int
  | 1 => .int
  | 2 => .int
  | 3 => .int
  | 4 => .int
  | 5 => .int
  | 6 => .int
  | 7 => .int
  | _ => .array .int
abbrev wsX10 : List Cond := u_ws RX1 TX1 9
theorem nmX1 : ∀ a, a < 9 → ∀ b, b < 9 → a ≠ b → (TX1 a).2.1 ≠ (TX1 b).2.1 := by decide +kernel
theorem tyX1_ok : ∀ k, k < 9 → parseFieldDescriptor (TX1 k).2.2.1 = some (tyX1 k) := by decide +kernel
abbrev cX1_init : ByteArray := prog_3_method_1_code
def yX1_init : MethodName := ⟨RX1, "<init>", "()V"⟩
abbrev cX1_copyFrom : ByteArray := prog_3_method_2_code
def yX1_copyFrom : MethodName := ⟨RX1, "copyFrom", "(LBeamCuts$Shape;)V"⟩
abbrev cX1_place : ByteArray := prog_3_method_3_code
def yX1_place : MethodName := ⟨RX1, "place", "(IIII)V"⟩
abbrev cX1_fieldsIn : ByteArray := prog_3_method_4_code
def yX1_fieldsIn : MethodName := ⟨RX1, "fieldsIn", "(II)I"⟩
abbrev cX1_isInside : ByteArray := prog_3_method_5_code
def yX1_isInside : MethodName := ⟨RX1, "isInside", "(LBeamCuts$Shape;)Z"⟩
abbrev cX1_isApartFrom : ByteArray := prog_3_method_6_code
def yX1_isApartFrom : MethodName := ⟨RX1, "isApartFrom", "(LBeamCuts$Shape;)Z"⟩
abbrev cX1_edge : ByteArray := prog_3_method_7_code
def yX1_edge : MethodName := ⟨RX1, "edge", "()I"⟩
abbrev cX1_leadColumn : ByteArray := prog_3_method_8_code
def yX1_leadColumn : MethodName := ⟨RX1, "leadColumn", "()I"⟩
abbrev cX1_leadRow : ByteArray := prog_3_method_9_code
def yX1_leadRow : MethodName := ⟨RX1, "leadRow", "()I"⟩
abbrev cX1_leadSquare : ByteArray := prog_3_method_10_code
def yX1_leadSquare : MethodName := ⟨RX1, "leadSquare", "()I"⟩
def RX2 : String := "BeamCuts$Sheet"
def TX2 : u_T := fun k => match k with
  | 0 => ("BeamCuts$Sheet", "shapes", "[LBeamCuts$Shape;", true)
  | 1 => ("BeamCuts$Sheet", "heats", "[I", true)
  | 2 => ("BeamCuts$Sheet", "settings", "[I", true)
  | 3 => ("BeamCuts$Sheet", "told", "I", false)
  | 4 => ("BeamCuts$Sheet", "column", "I", false)
  | 5 => ("BeamCuts$Sheet", "row", "I", false)
  | 6 => ("BeamCuts$Sheet", "dirt", "I", false)
  | 7 => ("BeamCuts$Sheet", "ticks", "I", false)
  | 8 => ("BeamCuts$Sheet", "burningTicks", "I", false)
  | _ => ("BeamCuts$Sheet", "cuts", "I", false)
def tyX2 : Nat → FieldType := fun k => match k with
  | 0 => .array (.object "BeamCuts$Shape")
  | 1 => .array .int
  | 2 => .array .int
  | 3 => .int
  | 4 => .int
  | 5 => .int
  | 6 => .int
  | 7 => .int
  | 8 => .int
  | _ => .int
abbrev wsX20 : List Cond := u_ws RX2 TX2 10
theorem nmX2 : ∀ a, a < 10 → ∀ b, b < 10 → a ≠ b → (TX2 a).2.1 ≠ (TX2 b).2.1 := by decide +kernel
theorem tyX2_ok : ∀ k, k < 10 → parseFieldDescriptor (TX2 k).2.2.1 = some (tyX2 k) := by decide +kernel
abbrev cX2_init : ByteArray := prog_4_method_1_code
def yX2_init : MethodName := ⟨RX2, "<init>", "()V"⟩
abbrev cX2_copyFrom : ByteArray := prog_4_method_2_code
def yX2_copyFrom : MethodName := ⟨RX2, "copyFrom", "(LBeamCuts$Sheet;)V"⟩
abbrev cX2_knows : ByteArray := prog_4_method_3_code
def yX2_knows : MethodName := ⟨RX2, "knows", "(I)Z"⟩
abbrev cX2_addShape : ByteArray := prog_4_method_4_code
def yX2_addShape : MethodName := ⟨RX2, "addShape", "(IIII)I"⟩
abbrev cX2_fits : ByteArray := prog_4_method_5_code
def yX2_fits : MethodName := ⟨RX2, "fits", "(LBeamCuts$Shape;)Z"⟩
abbrev cX2_changeLead : ByteArray := prog_4_method_6_code
def yX2_changeLead : MethodName := ⟨RX2, "changeLead", "(II)I"⟩
abbrev cX2_changeSetting : ByteArray := prog_4_method_7_code
def yX2_changeSetting : MethodName := ⟨RX2, "changeSetting", "(II)I"⟩
abbrev cX2_cutShape : ByteArray := prog_4_method_8_code
def yX2_cutShape : MethodName := ⟨RX2, "cutShape", "(I)I"⟩
abbrev cX2_burnEdge : ByteArray := prog_4_method_9_code
def yX2_burnEdge : MethodName := ⟨RX2, "burnEdge", "(LBeamCuts$Shape;)V"⟩
abbrev cX2_loseShapesInside : ByteArray := prog_4_method_10_code
def yX2_loseShapesInside : MethodName := ⟨RX2, "loseShapesInside", "(LBeamCuts$Shape;)I"⟩
abbrev cX2_waitFor : ByteArray := prog_4_method_11_code
def yX2_waitFor : MethodName := ⟨RX2, "waitFor", "(I)I"⟩
abbrev cX2_cleanLens : ByteArray := prog_4_method_12_code
def yX2_cleanLens : MethodName := ⟨RX2, "cleanLens", "()I"⟩
abbrev cX2_coolFor : ByteArray := prog_4_method_13_code
def yX2_coolFor : MethodName := ⟨RX2, "coolFor", "(I)V"⟩
abbrev cX2_wayTo : ByteArray := prog_4_method_14_code
def yX2_wayTo : MethodName := ⟨RX2, "wayTo", "(LBeamCuts$Shape;)I"⟩
abbrev cX2_burningOf : ByteArray := prog_4_method_15_code
def yX2_burningOf : MethodName := ⟨RX2, "burningOf", "(LBeamCuts$Shape;)I"⟩
abbrev cX2_reasonAgainst : ByteArray := prog_4_method_16_code
def yX2_reasonAgainst : MethodName := ⟨RX2, "reasonAgainst", "(I)I"⟩
abbrev cX2_holdsWholeShape : ByteArray := prog_4_method_17_code
def yX2_holdsWholeShape : MethodName := ⟨RX2, "holdsWholeShape", "(LBeamCuts$Shape;)Z"⟩
abbrev cX2_heatOver : ByteArray := prog_4_method_18_code
def yX2_heatOver : MethodName := ⟨RX2, "heatOver", "(LBeamCuts$Shape;)I"⟩
abbrev cX2_ticksToCut : ByteArray := prog_4_method_19_code
def yX2_ticksToCut : MethodName := ⟨RX2, "ticksToCut", "(I)I"⟩
abbrev cX2_ticksToCool : ByteArray := prog_4_method_20_code
def yX2_ticksToCool : MethodName := ⟨RX2, "ticksToCool", "(I)I"⟩
abbrev cX2_bestShape : ByteArray := prog_4_method_21_code
def yX2_bestShape : MethodName := ⟨RX2, "bestShape", "()I"⟩
abbrev cX2_fewestTicksToCool : ByteArray := prog_4_method_22_code
def yX2_fewestTicksToCool : MethodName := ⟨RX2, "fewestTicksToCool", "()I"⟩
abbrev cX2_cutNext : ByteArray := prog_4_method_23_code
def yX2_cutNext : MethodName := ⟨RX2, "cutNext", "()I"⟩
abbrev cX2_heatIn : ByteArray := prog_4_method_24_code
def yX2_heatIn : MethodName := ⟨RX2, "heatIn", "(I)I"⟩
abbrev cX2_greatestHeat : ByteArray := prog_4_method_25_code
def yX2_greatestHeat : MethodName := ⟨RX2, "greatestHeat", "()I"⟩
abbrev cX2_hottestSquare : ByteArray := prog_4_method_26_code
def yX2_hottestSquare : MethodName := ⟨RX2, "hottestSquare", "()I"⟩
abbrev cX2_allHeat : ByteArray := prog_4_method_27_code
def yX2_allHeat : MethodName := ⟨RX2, "allHeat", "()I"⟩
abbrev cX2_shapesThatAre : ByteArray := prog_4_method_28_code
def yX2_shapesThatAre : MethodName := ⟨RX2, "shapesThatAre", "(I)I"⟩
abbrev cX2_shapesThatTilted : ByteArray := prog_4_method_29_code
def yX2_shapesThatTilted : MethodName := ⟨RX2, "shapesThatTilted", "()I"⟩
abbrev cX2_outerOf : ByteArray := prog_4_method_30_code
def yX2_outerOf : MethodName := ⟨RX2, "outerOf", "(LBeamCuts$Shape;)I"⟩
abbrev cX2_setInside : ByteArray := prog_4_method_31_code
def yX2_setInside : MethodName := ⟨RX2, "setInside", "(LBeamCuts$Shape;)I"⟩
abbrev cX2_factOfShape : ByteArray := prog_4_method_32_code
def yX2_factOfShape : MethodName := ⟨RX2, "factOfShape", "(II)I"⟩
abbrev cX2_factOfSheet : ByteArray := prog_4_method_33_code
def yX2_factOfSheet : MethodName := ⟨RX2, "factOfSheet", "(I)I"⟩
def RX3 : String := "BeamCuts"
def TX3 : u_T := fun k => match k with
  | 0 => ("BeamCuts", "sheet", "LBeamCuts$Sheet;", true)
  | 1 => ("BeamCuts", "before", "LBeamCuts$Sheet;", true)
  | 2 => ("BeamCuts", "trial", "LBeamCuts$Sheet;", true)
  | 3 => ("BeamCuts", "snapshot", "LBeamCuts$Sheet;", true)
  | 4 => ("BeamCuts", "history", "[LBeamCuts$Sheet;", true)
  | 5 => ("BeamCuts", "plan", "LBeamCuts$Plan;", true)
  | 6 => ("BeamCuts", "states", "I", false)
  | 7 => ("BeamCuts", "hasSnapshot", "Z", false)
  | 8 => ("BeamCuts", "stopNumber", "I", false)
  | _ => ("BeamCuts", "stopError", "I", false)
def tyX3 : Nat → FieldType := fun k => match k with
  | 0 => .object "BeamCuts$Sheet"
  | 1 => .object "BeamCuts$Sheet"
  | 2 => .object "BeamCuts$Sheet"
  | 3 => .object "BeamCuts$Sheet"
  | 4 => .array (.object "BeamCuts$Sheet")
  | 5 => .object "BeamCuts$Plan"
  | 6 => .int
  | 7 => .boolean
  | 8 => .int
  | _ => .int
abbrev wsX30 : List Cond := u_ws RX3 TX3 10
theorem nmX3 : ∀ a, a < 10 → ∀ b, b < 10 → a ≠ b → (TX3 a).2.1 ≠ (TX3 b).2.1 := by decide +kernel
theorem tyX3_ok : ∀ k, k < 10 → parseFieldDescriptor (TX3 k).2.2.1 = some (tyX3 k) := by decide +kernel
abbrev cX3_init : ByteArray := prog_1_method_1_code
def yX3_init : MethodName := ⟨RX3, "<init>", "()V"⟩
abbrev cX3_tell : ByteArray := prog_1_method_2_code
def yX3_tell : MethodName := ⟨RX3, "tell", "(IIII)I"⟩
abbrev cX3_setLead : ByteArray := prog_1_method_3_code
def yX3_setLead : MethodName := ⟨RX3, "setLead", "(II)I"⟩
abbrev cX3_set : ByteArray := prog_1_method_4_code
def yX3_set : MethodName := ⟨RX3, "set", "(II)I"⟩
abbrev cX3_cut : ByteArray := prog_1_method_5_code
def yX3_cut : MethodName := ⟨RX3, "cut", "(I)I"⟩
abbrev cX3_pause : ByteArray := prog_1_method_6_code
def yX3_pause : MethodName := ⟨RX3, "pause", "(I)I"⟩
abbrev cX3_clean : ByteArray := prog_1_method_7_code
def yX3_clean : MethodName := ⟨RX3, "clean", "()I"⟩
abbrev cX3_undo : ByteArray := prog_1_method_12_code
def yX3_undo : MethodName := ⟨RX3, "undo", "()I"⟩
abbrev cX3_restore : ByteArray := prog_1_method_14_code
def yX3_restore : MethodName := ⟨RX3, "restore", "()I"⟩
abbrev cX3_shape : ByteArray := prog_1_method_15_code
def yX3_shape : MethodName := ⟨RX3, "shape", "(II)I"⟩
abbrev cX3_heat : ByteArray := prog_1_method_16_code
def yX3_heat : MethodName := ⟨RX3, "heat", "(I)I"⟩
abbrev cX3_reason : ByteArray := prog_1_method_17_code
def yX3_reason : MethodName := ⟨RX3, "reason", "(I)I"⟩
abbrev cX3_takes : ByteArray := prog_1_method_18_code
def yX3_takes : MethodName := ⟨RX3, "takes", "(I)I"⟩
abbrev cX3_coolsIn : ByteArray := prog_1_method_19_code
def yX3_coolsIn : MethodName := ⟨RX3, "coolsIn", "(I)I"⟩
abbrev cX3_best : ByteArray := prog_1_method_20_code
def yX3_best : MethodName := ⟨RX3, "best", "()I"⟩
abbrev cX3_ordered : ByteArray := prog_1_method_21_code
def yX3_ordered : MethodName := ⟨RX3, "ordered", "(I)I"⟩
abbrev cX3_allTakes : ByteArray := prog_1_method_22_code
def yX3_allTakes : MethodName := ⟨RX3, "allTakes", "()I"⟩
abbrev cX3_count : ByteArray := prog_1_method_23_code
def yX3_count : MethodName := ⟨RX3, "count", "(I)I"⟩
abbrev cX3_recorded : ByteArray := prog_1_method_24_code
def yX3_recorded : MethodName := ⟨RX3, "recorded", "(I)I"⟩
abbrev cX3_dropOldestState : ByteArray := prog_1_method_25_code
def yX3_dropOldestState : MethodName := ⟨RX3, "dropOldestState", "()V"⟩
abbrev cX3_isIn : ByteArray := prog_1_method_26_code
def yX3_isIn : MethodName := ⟨RX3, "isIn", "(III)Z"⟩
def RX4 : String := "BeamCutsModel"
def TX4 : u_T := fun k => match k with
  | _ => ("", "", "", false)
def tyX4 : Nat → FieldType := fun k => match k with
  | _ => .int
abbrev wsX40 : List Cond := u_ws RX4 TX4 0
theorem nmX4 : ∀ a, a < 0 → ∀ b, b < 0 → a ≠ b → (TX4 a).2.1 ≠ (TX4 b).2.1 := by decide +kernel
theorem tyX4_ok : ∀ k, k < 0 → parseFieldDescriptor (TX4 k).2.2.1 = some (tyX4 k) := by decide +kernel
def RL : String := "BeamCutsLaw"
abbrev cL_cell : ByteArray := method_2_code
def yL_cell : MethodName := ⟨RL, "cell", "([II)I"⟩
abbrev cL_low : ByteArray := method_3_code
def yL_low : MethodName := ⟨RL, "low", "(II)I"⟩
abbrev cL_act : ByteArray := method_4_code
def yL_act : MethodName := ⟨RL, "act", "(LBeamCuts;III)I"⟩
abbrev cL_within : ByteArray := method_5_code
def yL_within : MethodName := ⟨RL, "within", "(LBeamCuts;II)I"⟩
abbrev cL_isInside : ByteArray := method_6_code
def yL_isInside : MethodName := ⟨RL, "isInside", "(LBeamCuts;II)Z"⟩
abbrev cL_isEdge : ByteArray := method_7_code
def yL_isEdge : MethodName := ⟨RL, "isEdge", "(LBeamCuts;III)Z"⟩
abbrev cL_edgeIn : ByteArray := method_8_code
def yL_edgeIn : MethodName := ⟨RL, "edgeIn", "(LBeamCuts;II)I"⟩
abbrev cL_off : ByteArray := method_9_code
def yL_off : MethodName := ⟨RL, "off", "(II)I"⟩
abbrev cL_goes : ByteArray := method_10_code
def yL_goes : MethodName := ⟨RL, "goes", "(LBeamCuts;I)I"⟩
abbrev cL_isShape : ByteArray := method_11_code
def yL_isShape : MethodName := ⟨RL, "isShape", "(LBeamCuts;I)Z"⟩
abbrev cL_holds : ByteArray := method_12_code
def yL_holds : MethodName := ⟨RL, "holds", "(LBeamCuts;)Z"⟩
abbrev cL_tries : ByteArray := method_13_code
def yL_tries : MethodName := ⟨RL, "tries", "(LBeamCuts;I)Z"⟩
abbrev cL_goesThrough : ByteArray := method_14_code
def yL_goesThrough : MethodName := ⟨RL, "goesThrough", "(LBeamCuts;)Z"⟩
abbrev cL_law : ByteArray := code
def yL_law : MethodName := ⟨RL, "law", "([I)Z"⟩
theorem dX0_init_0 : decode cX0_init 0 = .ok (.aload_n 0, 1) := by decide +kernel
theorem dX0_init_1 : decode cX0_init 1 = .ok (.invokespecial 3, 3) := by decide +kernel
theorem dX0_init_4 : decode cX0_init 4 = .ok (.aload_n 0, 1) := by decide +kernel
theorem dX0_init_5 : decode cX0_init 5 = .ok (.bipush 60, 2) := by decide +kernel
theorem dX0_init_7 : decode cX0_init 7 = .ok (.newarray .char, 2) := by decide +kernel
theorem dX0_init_9 : decode cX0_init 9 = .ok (.putfield 11, 3) := by decide +kernel
theorem dX0_init_12 : decode cX0_init 12 = .ok (.aload_n 0, 1) := by decide +kernel
theorem dX0_init_13 : decode cX0_init 13 = .ok (.bipush 30, 2) := by decide +kernel
theorem dX0_init_15 : decode cX0_init 15 = .ok (.newarray .int, 2) := by decide +kernel
theorem dX0_init_17 : decode cX0_init 17 = .ok (.putfield 15, 3) := by decide +kernel
theorem dX0_init_20 : decode cX0_init 20 = .ok (.aload_n 0, 1) := by decide +kernel
theorem dX0_init_21 : decode cX0_init 21 = .ok (.bipush 30, 2) := by decide +kernel
theorem dX0_init_23 : decode cX0_init 23 = .ok (.newarray .int, 2) := by decide +kernel
theorem dX0_init_25 : decode cX0_init 25 = .ok (.putfield 19, 3) := by decide +kernel
theorem dX0_init_28 : decode cX0_init 28 = .ok (.aload_n 0, 1) := by decide +kernel
theorem dX0_init_29 : decode cX0_init 29 = .ok (.bipush 30, 2) := by decide +kernel
theorem dX0_init_31 : decode cX0_init 31 = .ok (.newarray .int, 2) := by decide +kernel
theorem dX0_init_33 : decode cX0_init 33 = .ok (.putfield 22, 3) := by decide +kernel
theorem dX0_init_36 : decode cX0_init 36 = .ok (.aload_n 0, 1) := by decide +kernel
theorem dX0_init_37 : decode cX0_init 37 = .ok (.iconst 0, 1) := by decide +kernel
theorem dX0_init_38 : decode cX0_init 38 = .ok (.putfield 25, 3) := by decide +kernel
theorem dX0_init_41 : decode cX0_init 41 = .ok (.aload_n 0, 1) := by decide +kernel
theorem dX0_init_42 : decode cX0_init 42 = .ok (.iconst 0, 1) := by decide +kernel
theorem dX0_init_43 : decode cX0_init 43 = .ok (.putfield 29, 3) := by decide +kernel
theorem dX0_init_46 : decode cX0_init 46 = .ok (.aload_n 0, 1) := by decide +kernel
theorem dX0_init_47 : decode cX0_init 47 = .ok (.iconst 0, 1) := by decide +kernel
theorem dX0_init_48 : decode cX0_init 48 = .ok (.putfield 32, 3) := by decide +kernel
theorem dX0_init_51 : decode cX0_init 51 = .ok (.return_, 1) := by decide +kernel
theorem dX1_init_0 : decode cX1_init 0 = .ok (.aload_n 0, 1) := by decide +kernel
theorem dX1_init_1 : decode cX1_init 1 = .ok (.invokespecial 3, 3) := by decide +kernel
theorem dX1_init_4 : decode cX1_init 4 = .ok (.aload_n 0, 1) := by decide +kernel
theorem dX1_init_5 : decode cX1_init 5 = .ok (.iconst 0, 1) := by decide +kernel
theorem dX1_init_6 : decode cX1_init 6 = .ok (.putfield 9, 3) := by decide +kernel
theorem dX1_init_9 : decode cX1_init 9 = .ok (.aload_n 0, 1) := by decide +kernel
theorem dX1_init_10 : decode cX1_init 10 = .ok (.iconst 0, 1) := by decide +kernel
theorem dX1_init_11 : decode cX1_init 11 = .ok (.putfield 15, 3) := by decide +kernel
theorem dX1_init_14 : decode cX1_init 14 = .ok (.aload_n 0, 1) := by decide +kernel
theorem dX1_init_15 : decode cX1_init 15 = .ok (.iconst 2, 1) := by decide +kernel
theorem dX1_init_16 : decode cX1_init 16 = .ok (.putfield 18, 3) := by decide +kernel
theorem dX1_init_19 : decode cX1_init 19 = .ok (.aload_n 0, 1) := by decide +kernel
theorem dX1_init_20 : decode cX1_init 20 = .ok (.iconst 2, 1) := by decide +kernel
theorem dX1_init_21 : decode cX1_init 21 = .ok (.putfield 21, 3) := by decide +kernel
theorem dX1_init_24 : decode cX1_init 24 = .ok (.aload_n 0, 1) := by decide +kernel
theorem dX1_init_25 : decode cX1_init 25 = .ok (.iconst 0, 1) := by decide +kernel
theorem dX1_init_26 : decode cX1_init 26 = .ok (.putfield 24, 3) := by decide +kernel
theorem dX1_init_29 : decode cX1_init 29 = .ok (.aload_n 0, 1) := by decide +kernel
theorem dX1_init_30 : decode cX1_init 30 = .ok (.iconst 0, 1) := by decide +kernel
theorem dX1_init_31 : decode cX1_init 31 = .ok (.putfield 27, 3) := by decide +kernel
theorem dX1_init_34 : decode cX1_init 34 = .ok (.aload_n 0, 1) := by decide +kernel
theorem dX1_init_35 : decode cX1_init 35 = .ok (.iconst 0, 1) := by decide +kernel
theorem dX1_init_36 : decode cX1_init 36 = .ok (.putfield 30, 3) := by decide +kernel
theorem dX1_init_39 : decode cX1_init 39 = .ok (.aload_n 0, 1) := by decide +kernel
theorem dX1_init_40 : decode cX1_init 40 = .ok (.bipush (-5), 2) := by decide +kernel
theorem dX1_init_42 : decode cX1_init 42 = .ok (.putfield 33, 3) := by decide +kernel
theorem dX1_init_45 : decode cX1_init 45 = .ok (.aload_n 0, 1) := by decide +kernel
theorem dX1_init_46 : decode cX1_init 46 = .ok (.bipush 12, 2) := by decide +kernel
theorem dX1_init_48 : decode cX1_init 48 = .ok (.newarray .int, 2) := by decide +kernel
theorem dX1_init_50 : decode cX1_init 50 = .ok (.putfield 38, 3) := by decide +kernel
theorem dX1_init_53 : decode cX1_init 53 = .ok (.return_, 1) := by decide +kernel
theorem dX1_copyFrom_0 : decode cX1_copyFrom 0 = .ok (.aload_n 0, 1) := by decide +kernel
theorem dX1_copyFrom_1 : decode cX1_copyFrom 1 = .ok (.aload_n 1, 1) := by decide +kernel
theorem dX1_copyFrom_2 : decode cX1_copyFrom 2 = .ok (.getfield 9, 3) := by decide +kernel
theorem dX1_copyFrom_5 : decode cX1_copyFrom 5 = .ok (.putfield 9, 3) := by decide +kernel
theorem dX1_copyFrom_8 : decode cX1_copyFrom 8 = .ok (.aload_n 0, 1) := by decide +kernel
theorem dX1_copyFrom_9 : decode cX1_copyFrom 9 = .ok (.aload_n 1, 1) := by decide +kernel
theorem dX1_copyFrom_10 : decode cX1_copyFrom 10 = .ok (.getfield 15, 3) := by decide +kernel
theorem dX1_copyFrom_13 : decode cX1_copyFrom 13 = .ok (.putfield 15, 3) := by decide +kernel
theorem dX1_copyFrom_16 : decode cX1_copyFrom 16 = .ok (.aload_n 0, 1) := by decide +kernel
theorem dX1_copyFrom_17 : decode cX1_copyFrom 17 = .ok (.aload_n 1, 1) := by decide +kernel
theorem dX1_copyFrom_18 : decode cX1_copyFrom 18 = .ok (.getfield 18, 3) := by decide +kernel
theorem dX1_copyFrom_21 : decode cX1_copyFrom 21 = .ok (.putfield 18, 3) := by decide +kernel
theorem dX1_copyFrom_24 : decode cX1_copyFrom 24 = .ok (.aload_n 0, 1) := by decide +kernel
theorem dX1_copyFrom_25 : decode cX1_copyFrom 25 = .ok (.aload_n 1, 1) := by decide +kernel
theorem dX1_copyFrom_26 : decode cX1_copyFrom 26 = .ok (.getfield 21, 3) := by decide +kernel
theorem dX1_copyFrom_29 : decode cX1_copyFrom 29 = .ok (.putfield 21, 3) := by decide +kernel
theorem dX1_copyFrom_32 : decode cX1_copyFrom 32 = .ok (.aload_n 0, 1) := by decide +kernel
theorem dX1_copyFrom_33 : decode cX1_copyFrom 33 = .ok (.aload_n 1, 1) := by decide +kernel
theorem dX1_copyFrom_34 : decode cX1_copyFrom 34 = .ok (.getfield 24, 3) := by decide +kernel
theorem dX1_copyFrom_37 : decode cX1_copyFrom 37 = .ok (.putfield 24, 3) := by decide +kernel
theorem dX1_copyFrom_40 : decode cX1_copyFrom 40 = .ok (.aload_n 0, 1) := by decide +kernel
theorem dX1_copyFrom_41 : decode cX1_copyFrom 41 = .ok (.aload_n 1, 1) := by decide +kernel
theorem dX1_copyFrom_42 : decode cX1_copyFrom 42 = .ok (.getfield 27, 3) := by decide +kernel
theorem dX1_copyFrom_45 : decode cX1_copyFrom 45 = .ok (.putfield 27, 3) := by decide +kernel
theorem dX1_copyFrom_48 : decode cX1_copyFrom 48 = .ok (.aload_n 0, 1) := by decide +kernel
theorem dX1_copyFrom_49 : decode cX1_copyFrom 49 = .ok (.aload_n 1, 1) := by decide +kernel
theorem dX1_copyFrom_50 : decode cX1_copyFrom 50 = .ok (.getfield 30, 3) := by decide +kernel
theorem dX1_copyFrom_53 : decode cX1_copyFrom 53 = .ok (.putfield 30, 3) := by decide +kernel
theorem dX1_copyFrom_56 : decode cX1_copyFrom 56 = .ok (.aload_n 0, 1) := by decide +kernel
theorem dX1_copyFrom_57 : decode cX1_copyFrom 57 = .ok (.aload_n 1, 1) := by decide +kernel
theorem dX1_copyFrom_58 : decode cX1_copyFrom 58 = .ok (.getfield 33, 3) := by decide +kernel
theorem dX1_copyFrom_61 : decode cX1_copyFrom 61 = .ok (.putfield 33, 3) := by decide +kernel
theorem dX1_copyFrom_64 : decode cX1_copyFrom 64 = .ok (.iconst 0, 1) := by decide +kernel
theorem dX1_copyFrom_65 : decode cX1_copyFrom 65 = .ok (.istore_n 2, 1) := by decide +kernel
theorem dX1_copyFrom_66 : decode cX1_copyFrom 66 = .ok (.iload_n 2, 1) := by decide +kernel
theorem dX1_copyFrom_67 : decode cX1_copyFrom 67 = .ok (.bipush 12, 2) := by decide +kernel
theorem dX1_copyFrom_69 : decode cX1_copyFrom 69 = .ok (.if_icmp .ge 21, 3) := by decide +kernel
theorem dX1_copyFrom_72 : decode cX1_copyFrom 72 = .ok (.aload_n 0, 1) := by decide +kernel
theorem dX1_copyFrom_73 : decode cX1_copyFrom 73 = .ok (.getfield 38, 3) := by decide +kernel
theorem dX1_copyFrom_76 : decode cX1_copyFrom 76 = .ok (.iload_n 2, 1) := by decide +kernel
theorem dX1_copyFrom_77 : decode cX1_copyFrom 77 = .ok (.aload_n 1, 1) := by decide +kernel
theorem dX1_copyFrom_78 : decode cX1_copyFrom 78 = .ok (.getfield 38, 3) := by decide +kernel
theorem dX1_copyFrom_81 : decode cX1_copyFrom 81 = .ok (.iload_n 2, 1) := by decide +kernel
theorem dX1_copyFrom_82 : decode cX1_copyFrom 82 = .ok (.iaload, 1) := by decide +kernel
theorem dX1_copyFrom_83 : decode cX1_copyFrom 83 = .ok (.iastore, 1) := by decide +kernel
theorem dX1_copyFrom_84 : decode cX1_copyFrom 84 = .ok (.iinc 2 1, 3) := by decide +kernel
theorem dX1_copyFrom_87 : decode cX1_copyFrom 87 = .ok (.goto (-21), 3) := by decide +kernel
theorem dX1_copyFrom_90 : decode cX1_copyFrom 90 = .ok (.return_, 1) := by decide +kernel
theorem dX1_place_0 : decode cX1_place 0 = .ok (.aload_n 0, 1) := by decide +kernel
theorem dX1_place_1 : decode cX1_place 1 = .ok (.iload_n 1, 1) := by decide +kernel
theorem dX1_place_2 : decode cX1_place 2 = .ok (.putfield 9, 3) := by decide +kernel
theorem dX1_place_5 : decode cX1_place 5 = .ok (.aload_n 0, 1) := by decide +kernel
theorem dX1_place_6 : decode cX1_place 6 = .ok (.iload_n 2, 1) := by decide +kernel
theorem dX1_place_7 : decode cX1_place 7 = .ok (.putfield 15, 3) := by decide +kernel
theorem dX1_place_10 : decode cX1_place 10 = .ok (.aload_n 0, 1) := by decide +kernel
theorem dX1_place_11 : decode cX1_place 11 = .ok (.iload_n 3, 1) := by decide +kernel
theorem dX1_place_12 : decode cX1_place 12 = .ok (.putfield 18, 3) := by decide +kernel
theorem dX1_place_15 : decode cX1_place 15 = .ok (.aload_n 0, 1) := by decide +kernel
theorem dX1_place_16 : decode cX1_place 16 = .ok (.iload 4, 2) := by decide +kernel
theorem dX1_place_18 : decode cX1_place 18 = .ok (.putfield 21, 3) := by decide +kernel
theorem dX1_place_21 : decode cX1_place 21 = .ok (.aload_n 0, 1) := by decide +kernel
theorem dX1_place_22 : decode cX1_place 22 = .ok (.iconst 0, 1) := by decide +kernel
theorem dX1_place_23 : decode cX1_place 23 = .ok (.putfield 24, 3) := by decide +kernel
theorem dX1_place_26 : decode cX1_place 26 = .ok (.aload_n 0, 1) := by decide +kernel
theorem dX1_place_27 : decode cX1_place 27 = .ok (.iconst 0, 1) := by decide +kernel
theorem dX1_place_28 : decode cX1_place 28 = .ok (.putfield 27, 3) := by decide +kernel
theorem dX1_place_31 : decode cX1_place 31 = .ok (.aload_n 0, 1) := by decide +kernel
theorem dX1_place_32 : decode cX1_place 32 = .ok (.iconst 0, 1) := by decide +kernel
theorem dX1_place_33 : decode cX1_place 33 = .ok (.putfield 30, 3) := by decide +kernel
theorem dX1_place_36 : decode cX1_place 36 = .ok (.aload_n 0, 1) := by decide +kernel
theorem dX1_place_37 : decode cX1_place 37 = .ok (.bipush (-5), 2) := by decide +kernel
theorem dX1_place_39 : decode cX1_place 39 = .ok (.putfield 33, 3) := by decide +kernel
theorem dX1_place_42 : decode cX1_place 42 = .ok (.iconst 0, 1) := by decide +kernel
theorem dX1_place_43 : decode cX1_place 43 = .ok (.istore 5, 2) := by decide +kernel
theorem dX1_place_45 : decode cX1_place 45 = .ok (.iload 5, 2) := by decide +kernel
theorem dX1_place_47 : decode cX1_place 47 = .ok (.bipush 12, 2) := by decide +kernel
theorem dX1_place_49 : decode cX1_place 49 = .ok (.if_icmp .ge 31, 3) := by decide +kernel
theorem dX1_place_52 : decode cX1_place 52 = .ok (.aload_n 0, 1) := by decide +kernel
theorem dX1_place_53 : decode cX1_place 53 = .ok (.getfield 38, 3) := by decide +kernel
theorem dX1_place_56 : decode cX1_place 56 = .ok (.iload 5, 2) := by decide +kernel
theorem dX1_place_58 : decode cX1_place 58 = .ok (.aload_n 0, 1) := by decide +kernel
theorem dX1_place_59 : decode cX1_place 59 = .ok (.iload 5, 2) := by decide +kernel
theorem dX1_place_61 : decode cX1_place 61 = .ok (.iconst 0, 1) := by decide +kernel
theorem dX1_place_62 : decode cX1_place 62 = .ok (.invokevirtual 42, 3) := by decide +kernel
theorem dX1_place_65 : decode cX1_place 65 = .ok (.aload_n 0, 1) := by decide +kernel
theorem dX1_place_66 : decode cX1_place 66 = .ok (.iload 5, 2) := by decide +kernel
theorem dX1_place_68 : decode cX1_place 68 = .ok (.iconst 1, 1) := by decide +kernel
theorem dX1_place_69 : decode cX1_place 69 = .ok (.invokevirtual 42, 3) := by decide +kernel
theorem dX1_place_72 : decode cX1_place 72 = .ok (.isub, 1) := by decide +kernel
theorem dX1_place_73 : decode cX1_place 73 = .ok (.iastore, 1) := by decide +kernel
theorem dX1_place_74 : decode cX1_place 74 = .ok (.iinc 5 1, 3) := by decide +kernel
theorem dX1_place_77 : decode cX1_place 77 = .ok (.goto (-32), 3) := by decide +kernel
theorem dX1_place_80 : decode cX1_place 80 = .ok (.return_, 1) := by decide +kernel
theorem dX1_fieldsIn_0 : decode cX1_fieldsIn 0 = .ok (.iload_n 1, 1) := by decide +kernel
theorem dX1_fieldsIn_1 : decode cX1_fieldsIn 1 = .ok (.iconst 4, 1) := by decide +kernel
theorem dX1_fieldsIn_2 : decode cX1_fieldsIn 2 = .ok (.irem, 1) := by decide +kernel
theorem dX1_fieldsIn_3 : decode cX1_fieldsIn 3 = .ok (.bipush 8, 2) := by decide +kernel
theorem dX1_fieldsIn_5 : decode cX1_fieldsIn 5 = .ok (.imul, 1) := by decide +kernel
theorem dX1_fieldsIn_6 : decode cX1_fieldsIn 6 = .ok (.istore_n 3, 1) := by decide +kernel
theorem dX1_fieldsIn_7 : decode cX1_fieldsIn 7 = .ok (.iload_n 1, 1) := by decide +kernel
theorem dX1_fieldsIn_8 : decode cX1_fieldsIn 8 = .ok (.iconst 4, 1) := by decide +kernel
theorem dX1_fieldsIn_9 : decode cX1_fieldsIn 9 = .ok (.idiv, 1) := by decide +kernel
theorem dX1_fieldsIn_10 : decode cX1_fieldsIn 10 = .ok (.bipush 8, 2) := by decide +kernel
theorem dX1_fieldsIn_12 : decode cX1_fieldsIn 12 = .ok (.imul, 1) := by decide +kernel
theorem dX1_fieldsIn_13 : decode cX1_fieldsIn 13 = .ok (.istore 4, 2) := by decide +kernel
theorem dX1_fieldsIn_15 : decode cX1_fieldsIn 15 = .ok (.aload_n 0, 1) := by decide +kernel
theorem dX1_fieldsIn_16 : decode cX1_fieldsIn 16 = .ok (.getfield 9, 3) := by decide +kernel
theorem dX1_fieldsIn_19 : decode cX1_fieldsIn 19 = .ok (.aload_n 0, 1) := by decide +kernel
theorem dX1_fieldsIn_20 : decode cX1_fieldsIn 20 = .ok (.getfield 18, 3) := by decide +kernel
theorem dX1_fieldsIn_23 : decode cX1_fieldsIn 23 = .ok (.iadd, 1) := by decide +kernel
theorem dX1_fieldsIn_24 : decode cX1_fieldsIn 24 = .ok (.iload_n 2, 1) := by decide +kernel
theorem dX1_fieldsIn_25 : decode cX1_fieldsIn 25 = .ok (.isub, 1) := by decide +kernel
theorem dX1_fieldsIn_26 : decode cX1_fieldsIn 26 = .ok (.iload_n 3, 1) := by decide +kernel
theorem dX1_fieldsIn_27 : decode cX1_fieldsIn 27 = .ok (.bipush 8, 2) := by decide +kernel
theorem dX1_fieldsIn_29 : decode cX1_fieldsIn 29 = .ok (.iadd, 1) := by decide +kernel
theorem dX1_fieldsIn_30 : decode cX1_fieldsIn 30 = .ok (.invokestatic 46, 3) := by decide +kernel
theorem dX1_fieldsIn_33 : decode cX1_fieldsIn 33 = .ok (.aload_n 0, 1) := by decide +kernel
theorem dX1_fieldsIn_34 : decode cX1_fieldsIn 34 = .ok (.getfield 9, 3) := by decide +kernel
theorem dX1_fieldsIn_37 : decode cX1_fieldsIn 37 = .ok (.iload_n 2, 1) := by decide +kernel
theorem dX1_fieldsIn_38 : decode cX1_fieldsIn 38 = .ok (.iadd, 1) := by decide +kernel
theorem dX1_fieldsIn_39 : decode cX1_fieldsIn 39 = .ok (.iload_n 3, 1) := by decide +kernel
theorem dX1_fieldsIn_40 : decode cX1_fieldsIn 40 = .ok (.invokestatic 51, 3) := by decide +kernel
theorem dX1_fieldsIn_43 : decode cX1_fieldsIn 43 = .ok (.isub, 1) := by decide +kernel
theorem dX1_fieldsIn_44 : decode cX1_fieldsIn 44 = .ok (.istore 5, 2) := by decide +kernel
theorem dX1_fieldsIn_46 : decode cX1_fieldsIn 46 = .ok (.aload_n 0, 1) := by decide +kernel
theorem dX1_fieldsIn_47 : decode cX1_fieldsIn 47 = .ok (.getfield 15, 3) := by decide +kernel
theorem dX1_fieldsIn_50 : decode cX1_fieldsIn 50 = .ok (.aload_n 0, 1) := by decide +kernel
theorem dX1_fieldsIn_51 : decode cX1_fieldsIn 51 = .ok (.getfield 21, 3) := by decide +kernel
theorem dX1_fieldsIn_54 : decode cX1_fieldsIn 54 = .ok (.iadd, 1) := by decide +kernel
theorem dX1_fieldsIn_55 : decode cX1_fieldsIn 55 = .ok (.iload_n 2, 1) := by decide +kernel
theorem dX1_fieldsIn_56 : decode cX1_fieldsIn 56 = .ok (.isub, 1) := by decide +kernel
theorem dX1_fieldsIn_57 : decode cX1_fieldsIn 57 = .ok (.iload 4, 2) := by decide +kernel
theorem dX1_fieldsIn_59 : decode cX1_fieldsIn 59 = .ok (.bipush 8, 2) := by decide +kernel
theorem dX1_fieldsIn_61 : decode cX1_fieldsIn 61 = .ok (.iadd, 1) := by decide +kernel
theorem dX1_fieldsIn_62 : decode cX1_fieldsIn 62 = .ok (.invokestatic 46, 3) := by decide +kernel
theorem dX1_fieldsIn_65 : decode cX1_fieldsIn 65 = .ok (.aload_n 0, 1) := by decide +kernel
theorem dX1_fieldsIn_66 : decode cX1_fieldsIn 66 = .ok (.getfield 15, 3) := by decide +kernel
theorem dX1_fieldsIn_69 : decode cX1_fieldsIn 69 = .ok (.iload_n 2, 1) := by decide +kernel
theorem dX1_fieldsIn_70 : decode cX1_fieldsIn 70 = .ok (.iadd, 1) := by decide +kernel
theorem dX1_fieldsIn_71 : decode cX1_fieldsIn 71 = .ok (.iload 4, 2) := by decide +kernel
theorem dX1_fieldsIn_73 : decode cX1_fieldsIn 73 = .ok (.invokestatic 51, 3) := by decide +kernel
theorem dX1_fieldsIn_76 : decode cX1_fieldsIn 76 = .ok (.isub, 1) := by decide +kernel
theorem dX1_fieldsIn_77 : decode cX1_fieldsIn 77 = .ok (.istore 6, 2) := by decide +kernel
theorem dX1_fieldsIn_79 : decode cX1_fieldsIn 79 = .ok (.iload 5, 2) := by decide +kernel
theorem dX1_fieldsIn_81 : decode cX1_fieldsIn 81 = .ok (.iconst 0, 1) := by decide +kernel
theorem dX1_fieldsIn_82 : decode cX1_fieldsIn 82 = .ok (.invokestatic 51, 3) := by decide +kernel
theorem dX1_fieldsIn_85 : decode cX1_fieldsIn 85 = .ok (.iload 6, 2) := by decide +kernel
theorem dX1_fieldsIn_87 : decode cX1_fieldsIn 87 = .ok (.iconst 0, 1) := by decide +kernel
theorem dX1_fieldsIn_88 : decode cX1_fieldsIn 88 = .ok (.invokestatic 51, 3) := by decide +kernel
theorem dX1_fieldsIn_91 : decode cX1_fieldsIn 91 = .ok (.imul, 1) := by decide +kernel
theorem dX1_fieldsIn_92 : decode cX1_fieldsIn 92 = .ok (.ireturn, 1) := by decide +kernel
theorem dX1_isInside_0 : decode cX1_isInside 0 = .ok (.aload_n 0, 1) := by decide +kernel
theorem dX1_isInside_1 : decode cX1_isInside 1 = .ok (.getfield 9, 3) := by decide +kernel
theorem dX1_isInside_4 : decode cX1_isInside 4 = .ok (.aload_n 1, 1) := by decide +kernel
theorem dX1_isInside_5 : decode cX1_isInside 5 = .ok (.getfield 9, 3) := by decide +kernel
theorem dX1_isInside_8 : decode cX1_isInside 8 = .ok (.if_icmp .le 60, 3) := by decide +kernel
theorem dX1_isInside_11 : decode cX1_isInside 11 = .ok (.aload_n 0, 1) := by decide +kernel
theorem dX1_isInside_12 : decode cX1_isInside 12 = .ok (.getfield 9, 3) := by decide +kernel
theorem dX1_isInside_15 : decode cX1_isInside 15 = .ok (.aload_n 0, 1) := by decide +kernel
theorem dX1_isInside_16 : decode cX1_isInside 16 = .ok (.getfield 18, 3) := by decide +kernel
theorem dX1_isInside_19 : decode cX1_isInside 19 = .ok (.iadd, 1) := by decide +kernel
theorem dX1_isInside_20 : decode cX1_isInside 20 = .ok (.aload_n 1, 1) := by decide +kernel
theorem dX1_isInside_21 : decode cX1_isInside 21 = .ok (.getfield 9, 3) := by decide +kernel
theorem dX1_isInside_24 : decode cX1_isInside 24 = .ok (.aload_n 1, 1) := by decide +kernel
theorem dX1_isInside_25 : decode cX1_isInside 25 = .ok (.getfield 18, 3) := by decide +kernel
theorem dX1_isInside_28 : decode cX1_isInside 28 = .ok (.iadd, 1) := by decide +kernel
theorem dX1_isInside_29 : decode cX1_isInside 29 = .ok (.if_icmp .ge 39, 3) := by decide +kernel
theorem dX1_isInside_32 : decode cX1_isInside 32 = .ok (.aload_n 0, 1) := by decide +kernel
theorem dX1_isInside_33 : decode cX1_isInside 33 = .ok (.getfield 15, 3) := by decide +kernel
theorem dX1_isInside_36 : decode cX1_isInside 36 = .ok (.aload_n 1, 1) := by decide +kernel
theorem dX1_isInside_37 : decode cX1_isInside 37 = .ok (.getfield 15, 3) := by decide +kernel
theorem dX1_isInside_40 : decode cX1_isInside 40 = .ok (.if_icmp .le 28, 3) := by decide +kernel
theorem dX1_isInside_43 : decode cX1_isInside 43 = .ok (.aload_n 0, 1) := by decide +kernel
theorem dX1_isInside_44 : decode cX1_isInside 44 = .ok (.getfield 15, 3) := by decide +kernel
theorem dX1_isInside_47 : decode cX1_isInside 47 = .ok (.aload_n 0, 1) := by decide +kernel
theorem dX1_isInside_48 : decode cX1_isInside 48 = .ok (.getfield 21, 3) := by decide +kernel
theorem dX1_isInside_51 : decode cX1_isInside 51 = .ok (.iadd, 1) := by decide +kernel
theorem dX1_isInside_52 : decode cX1_isInside 52 = .ok (.aload_n 1, 1) := by decide +kernel
theorem dX1_isInside_53 : decode cX1_isInside 53 = .ok (.getfield 15, 3) := by decide +kernel
theorem dX1_isInside_56 : decode cX1_isInside 56 = .ok (.aload_n 1, 1) := by decide +kernel
theorem dX1_isInside_57 : decode cX1_isInside 57 = .ok (.getfield 21, 3) := by decide +kernel
theorem dX1_isInside_60 : decode cX1_isInside 60 = .ok (.iadd, 1) := by decide +kernel
theorem dX1_isInside_61 : decode cX1_isInside 61 = .ok (.if_icmp .ge 7, 3) := by decide +kernel
theorem dX1_isInside_64 : decode cX1_isInside 64 = .ok (.iconst 1, 1) := by decide +kernel
theorem dX1_isInside_65 : decode cX1_isInside 65 = .ok (.goto 4, 3) := by decide +kernel
theorem dX1_isInside_68 : decode cX1_isInside 68 = .ok (.iconst 0, 1) := by decide +kernel
theorem dX1_isInside_69 : decode cX1_isInside 69 = .ok (.ireturn, 1) := by decide +kernel
theorem dX1_isApartFrom_0 : decode cX1_isApartFrom 0 = .ok (.aload_n 0, 1) := by decide +kernel
theorem dX1_isApartFrom_1 : decode cX1_isApartFrom 1 = .ok (.getfield 9, 3) := by decide +kernel
theorem dX1_isApartFrom_4 : decode cX1_isApartFrom 4 = .ok (.aload_n 0, 1) := by decide +kernel
theorem dX1_isApartFrom_5 : decode cX1_isApartFrom 5 = .ok (.getfield 18, 3) := by decide +kernel
theorem dX1_isApartFrom_8 : decode cX1_isApartFrom 8 = .ok (.iadd, 1) := by decide +kernel
theorem dX1_isApartFrom_9 : decode cX1_isApartFrom 9 = .ok (.aload_n 1, 1) := by decide +kernel
theorem dX1_isApartFrom_10 : decode cX1_isApartFrom 10 = .ok (.getfield 9, 3) := by decide +kernel
theorem dX1_isApartFrom_13 : decode cX1_isApartFrom 13 = .ok (.if_icmp .le 51, 3) := by decide +kernel
theorem dX1_isApartFrom_16 : decode cX1_isApartFrom 16 = .ok (.aload_n 1, 1) := by decide +kernel
theorem dX1_isApartFrom_17 : decode cX1_isApartFrom 17 = .ok (.getfield 9, 3) := by decide +kernel
theorem dX1_isApartFrom_20 : decode cX1_isApartFrom 20 = .ok (.aload_n 1, 1) := by decide +kernel
theorem dX1_isApartFrom_21 : decode cX1_isApartFrom 21 = .ok (.getfield 18, 3) := by decide +kernel
theorem dX1_isApartFrom_24 : decode cX1_isApartFrom 24 = .ok (.iadd, 1) := by decide +kernel
theorem dX1_isApartFrom_25 : decode cX1_isApartFrom 25 = .ok (.aload_n 0, 1) := by decide +kernel
theorem dX1_isApartFrom_26 : decode cX1_isApartFrom 26 = .ok (.getfield 9, 3) := by decide +kernel
theorem dX1_isApartFrom_29 : decode cX1_isApartFrom 29 = .ok (.if_icmp .le 35, 3) := by decide +kernel
theorem dX1_isApartFrom_32 : decode cX1_isApartFrom 32 = .ok (.aload_n 0, 1) := by decide +kernel
theorem dX1_isApartFrom_33 : decode cX1_isApartFrom 33 = .ok (.getfield 15, 3) := by decide +kernel
theorem dX1_isApartFrom_36 : decode cX1_isApartFrom 36 = .ok (.aload_n 0, 1) := by decide +kernel
theorem dX1_isApartFrom_37 : decode cX1_isApartFrom 37 = .ok (.getfield 21, 3) := by decide +kernel
theorem dX1_isApartFrom_40 : decode cX1_isApartFrom 40 = .ok (.iadd, 1) := by decide +kernel
theorem dX1_isApartFrom_41 : decode cX1_isApartFrom 41 = .ok (.aload_n 1, 1) := by decide +kernel
theorem dX1_isApartFrom_42 : decode cX1_isApartFrom 42 = .ok (.getfield 15, 3) := by decide +kernel
theorem dX1_isApartFrom_45 : decode cX1_isApartFrom 45 = .ok (.if_icmp .le 19, 3) := by decide +kernel
theorem dX1_isApartFrom_48 : decode cX1_isApartFrom 48 = .ok (.aload_n 1, 1) := by decide +kernel
theorem dX1_isApartFrom_49 : decode cX1_isApartFrom 49 = .ok (.getfield 15, 3) := by decide +kernel
theorem dX1_isApartFrom_52 : decode cX1_isApartFrom 52 = .ok (.aload_n 1, 1) := by decide +kernel
theorem dX1_isApartFrom_53 : decode cX1_isApartFrom 53 = .ok (.getfield 21, 3) := by decide +kernel
theorem dX1_isApartFrom_56 : decode cX1_isApartFrom 56 = .ok (.iadd, 1) := by decide +kernel
theorem dX1_isApartFrom_57 : decode cX1_isApartFrom 57 = .ok (.aload_n 0, 1) := by decide +kernel
theorem dX1_isApartFrom_58 : decode cX1_isApartFrom 58 = .ok (.getfield 15, 3) := by decide +kernel
theorem dX1_isApartFrom_61 : decode cX1_isApartFrom 61 = .ok (.if_icmp .gt 7, 3) := by decide +kernel
theorem dX1_isApartFrom_64 : decode cX1_isApartFrom 64 = .ok (.iconst 1, 1) := by decide +kernel
theorem dX1_isApartFrom_65 : decode cX1_isApartFrom 65 = .ok (.goto 4, 3) := by decide +kernel
theorem dX1_isApartFrom_68 : decode cX1_isApartFrom 68 = .ok (.iconst 0, 1) := by decide +kernel
theorem dX1_isApartFrom_69 : decode cX1_isApartFrom 69 = .ok (.ireturn, 1) := by decide +kernel
theorem dX1_edge_0 : decode cX1_edge 0 = .ok (.iconst 2, 1) := by decide +kernel
theorem dX1_edge_1 : decode cX1_edge 1 = .ok (.aload_n 0, 1) := by decide +kernel
theorem dX1_edge_2 : decode cX1_edge 2 = .ok (.getfield 18, 3) := by decide +kernel
theorem dX1_edge_5 : decode cX1_edge 5 = .ok (.aload_n 0, 1) := by decide +kernel
theorem dX1_edge_6 : decode cX1_edge 6 = .ok (.getfield 21, 3) := by decide +kernel
theorem dX1_edge_9 : decode cX1_edge 9 = .ok (.iadd, 1) := by decide +kernel
theorem dX1_edge_10 : decode cX1_edge 10 = .ok (.imul, 1) := by decide +kernel
theorem dX1_edge_11 : decode cX1_edge 11 = .ok (.iconst 4, 1) := by decide +kernel
theorem dX1_edge_12 : decode cX1_edge 12 = .ok (.isub, 1) := by decide +kernel
theorem dX1_edge_13 : decode cX1_edge 13 = .ok (.ireturn, 1) := by decide +kernel
theorem dX1_leadColumn_0 : decode cX1_leadColumn 0 = .ok (.aload_n 0, 1) := by decide +kernel
theorem dX1_leadColumn_1 : decode cX1_leadColumn 1 = .ok (.getfield 24, 3) := by decide +kernel
theorem dX1_leadColumn_4 : decode cX1_leadColumn 4 = .ok (.iconst 1, 1) := by decide +kernel
theorem dX1_leadColumn_5 : decode cX1_leadColumn 5 = .ok (.if_icmp .eq 11, 3) := by decide +kernel
theorem dX1_leadColumn_8 : decode cX1_leadColumn 8 = .ok (.aload_n 0, 1) := by decide +kernel
theorem dX1_leadColumn_9 : decode cX1_leadColumn 9 = .ok (.getfield 24, 3) := by decide +kernel
theorem dX1_leadColumn_12 : decode cX1_leadColumn 12 = .ok (.iconst 2, 1) := by decide +kernel
theorem dX1_leadColumn_13 : decode cX1_leadColumn 13 = .ok (.if_icmp .ne 17, 3) := by decide +kernel
theorem dX1_leadColumn_16 : decode cX1_leadColumn 16 = .ok (.aload_n 0, 1) := by decide +kernel
theorem dX1_leadColumn_17 : decode cX1_leadColumn 17 = .ok (.getfield 9, 3) := by decide +kernel
theorem dX1_leadColumn_20 : decode cX1_leadColumn 20 = .ok (.aload_n 0, 1) := by decide +kernel
theorem dX1_leadColumn_21 : decode cX1_leadColumn 21 = .ok (.getfield 18, 3) := by decide +kernel
theorem dX1_leadColumn_24 : decode cX1_leadColumn 24 = .ok (.iadd, 1) := by decide +kernel
theorem dX1_leadColumn_25 : decode cX1_leadColumn 25 = .ok (.iconst 1, 1) := by decide +kernel
theorem dX1_leadColumn_26 : decode cX1_leadColumn 26 = .ok (.isub, 1) := by decide +kernel
theorem dX1_leadColumn_27 : decode cX1_leadColumn 27 = .ok (.goto 7, 3) := by decide +kernel
theorem dX1_leadColumn_30 : decode cX1_leadColumn 30 = .ok (.aload_n 0, 1) := by decide +kernel
theorem dX1_leadColumn_31 : decode cX1_leadColumn 31 = .ok (.getfield 9, 3) := by decide +kernel
theorem dX1_leadColumn_34 : decode cX1_leadColumn 34 = .ok (.ireturn, 1) := by decide +kernel
theorem dX1_leadRow_0 : decode cX1_leadRow 0 = .ok (.aload_n 0, 1) := by decide +kernel
theorem dX1_leadRow_1 : decode cX1_leadRow 1 = .ok (.getfield 24, 3) := by decide +kernel
theorem dX1_leadRow_4 : decode cX1_leadRow 4 = .ok (.iconst 2, 1) := by decide +kernel
theorem dX1_leadRow_5 : decode cX1_leadRow 5 = .ok (.if_icmp .eq 11, 3) := by decide +kernel
theorem dX1_leadRow_8 : decode cX1_leadRow 8 = .ok (.aload_n 0, 1) := by decide +kernel
theorem dX1_leadRow_9 : decode cX1_leadRow 9 = .ok (.getfield 24, 3) := by decide +kernel
theorem dX1_leadRow_12 : decode cX1_leadRow 12 = .ok (.iconst 3, 1) := by decide +kernel
theorem dX1_leadRow_13 : decode cX1_leadRow 13 = .ok (.if_icmp .ne 17, 3) := by decide +kernel
theorem dX1_leadRow_16 : decode cX1_leadRow 16 = .ok (.aload_n 0, 1) := by decide +kernel
theorem dX1_leadRow_17 : decode cX1_leadRow 17 = .ok (.getfield 15, 3) := by decide +kernel
theorem dX1_leadRow_20 : decode cX1_leadRow 20 = .ok (.aload_n 0, 1) := by decide +kernel
theorem dX1_leadRow_21 : decode cX1_leadRow 21 = .ok (.getfield 21, 3) := by decide +kernel
theorem dX1_leadRow_24 : decode cX1_leadRow 24 = .ok (.iadd, 1) := by decide +kernel
theorem dX1_leadRow_25 : decode cX1_leadRow 25 = .ok (.iconst 1, 1) := by decide +kernel
theorem dX1_leadRow_26 : decode cX1_leadRow 26 = .ok (.isub, 1) := by decide +kernel
theorem dX1_leadRow_27 : decode cX1_leadRow 27 = .ok (.goto 7, 3) := by decide +kernel
theorem dX1_leadRow_30 : decode cX1_leadRow 30 = .ok (.aload_n 0, 1) := by decide +kernel
theorem dX1_leadRow_31 : decode cX1_leadRow 31 = .ok (.getfield 15, 3) := by decide +kernel
theorem dX1_leadRow_34 : decode cX1_leadRow 34 = .ok (.ireturn, 1) := by decide +kernel
theorem dX1_leadSquare_0 : decode cX1_leadSquare 0 = .ok (.aload_n 0, 1) := by decide +kernel
theorem dX1_leadSquare_1 : decode cX1_leadSquare 1 = .ok (.invokevirtual 54, 3) := by decide +kernel
theorem dX1_leadSquare_4 : decode cX1_leadSquare 4 = .ok (.bipush 8, 2) := by decide +kernel
theorem dX1_leadSquare_6 : decode cX1_leadSquare 6 = .ok (.idiv, 1) := by decide +kernel
theorem dX1_leadSquare_7 : decode cX1_leadSquare 7 = .ok (.iconst 4, 1) := by decide +kernel
theorem dX1_leadSquare_8 : decode cX1_leadSquare 8 = .ok (.aload_n 0, 1) := by decide +kernel
theorem dX1_leadSquare_9 : decode cX1_leadSquare 9 = .ok (.invokevirtual 58, 3) := by decide +kernel
theorem dX1_leadSquare_12 : decode cX1_leadSquare 12 = .ok (.bipush 8, 2) := by decide +kernel
theorem dX1_leadSquare_14 : decode cX1_leadSquare 14 = .ok (.idiv, 1) := by decide +kernel
theorem dX1_leadSquare_15 : decode cX1_leadSquare 15 = .ok (.imul, 1) := by decide +kernel
theorem dX1_leadSquare_16 : decode cX1_leadSquare 16 = .ok (.iadd, 1) := by decide +kernel
theorem dX1_leadSquare_17 : decode cX1_leadSquare 17 = .ok (.ireturn, 1) := by decide +kernel
theorem dX2_init_0 : decode cX2_init 0 = .ok (.aload_n 0, 1) := by decide +kernel
theorem dX2_init_1 : decode cX2_init 1 = .ok (.invokespecial 3, 3) := by decide +kernel
theorem dX2_init_4 : decode cX2_init 4 = .ok (.aload_n 0, 1) := by decide +kernel
theorem dX2_init_5 : decode cX2_init 5 = .ok (.bipush 13, 2) := by decide +kernel
theorem dX2_init_7 : decode cX2_init 7 = .ok (.anewarray 11, 3) := by decide +kernel
theorem dX2_init_10 : decode cX2_init 10 = .ok (.putfield 13, 3) := by decide +kernel
theorem dX2_init_13 : decode cX2_init 13 = .ok (.iconst 0, 1) := by decide +kernel
theorem dX2_init_14 : decode cX2_init 14 = .ok (.istore_n 1, 1) := by decide +kernel
theorem dX2_init_15 : decode cX2_init 15 = .ok (.iload_n 1, 1) := by decide +kernel
theorem dX2_init_16 : decode cX2_init 16 = .ok (.bipush 12, 2) := by decide +kernel
theorem dX2_init_18 : decode cX2_init 18 = .ok (.if_icmp .gt 22, 3) := by decide +kernel
theorem dX2_init_21 : decode cX2_init 21 = .ok (.aload_n 0, 1) := by decide +kernel
theorem dX2_init_22 : decode cX2_init 22 = .ok (.getfield 13, 3) := by decide +kernel
theorem dX2_init_25 : decode cX2_init 25 = .ok (.iload_n 1, 1) := by decide +kernel
theorem dX2_init_26 : decode cX2_init 26 = .ok (.new 11, 3) := by decide +kernel
theorem dX2_init_29 : decode cX2_init 29 = .ok (.dup, 1) := by decide +kernel
theorem dX2_init_30 : decode cX2_init 30 = .ok (.invokespecial 17, 3) := by decide +kernel
theorem dX2_init_33 : decode cX2_init 33 = .ok (.aastore, 1) := by decide +kernel
theorem dX2_init_34 : decode cX2_init 34 = .ok (.iinc 1 1, 3) := by decide +kernel
theorem dX2_init_37 : decode cX2_init 37 = .ok (.goto (-22), 3) := by decide +kernel
theorem dX2_init_40 : decode cX2_init 40 = .ok (.aload_n 0, 1) := by decide +kernel
theorem dX2_init_41 : decode cX2_init 41 = .ok (.bipush 12, 2) := by decide +kernel
theorem dX2_init_43 : decode cX2_init 43 = .ok (.newarray .int, 2) := by decide +kernel
theorem dX2_init_45 : decode cX2_init 45 = .ok (.putfield 18, 3) := by decide +kernel
theorem dX2_init_48 : decode cX2_init 48 = .ok (.aload_n 0, 1) := by decide +kernel
theorem dX2_init_49 : decode cX2_init 49 = .ok (.iconst 4, 1) := by decide +kernel
theorem dX2_init_50 : decode cX2_init 50 = .ok (.newarray .int, 2) := by decide +kernel
theorem dX2_init_52 : decode cX2_init 52 = .ok (.putfield 22, 3) := by decide +kernel
theorem dX2_init_55 : decode cX2_init 55 = .ok (.aload_n 0, 1) := by decide +kernel
theorem dX2_init_56 : decode cX2_init 56 = .ok (.getfield 22, 3) := by decide +kernel
theorem dX2_init_59 : decode cX2_init 59 = .ok (.iconst 0, 1) := by decide +kernel
theorem dX2_init_60 : decode cX2_init 60 = .ok (.bipush 20, 2) := by decide +kernel
theorem dX2_init_62 : decode cX2_init 62 = .ok (.iastore, 1) := by decide +kernel
theorem dX2_init_63 : decode cX2_init 63 = .ok (.aload_n 0, 1) := by decide +kernel
theorem dX2_init_64 : decode cX2_init 64 = .ok (.getfield 22, 3) := by decide +kernel
theorem dX2_init_67 : decode cX2_init 67 = .ok (.iconst 1, 1) := by decide +kernel
theorem dX2_init_68 : decode cX2_init 68 = .ok (.iconst 1, 1) := by decide +kernel
theorem dX2_init_69 : decode cX2_init 69 = .ok (.iastore, 1) := by decide +kernel
theorem dX2_init_70 : decode cX2_init 70 = .ok (.aload_n 0, 1) := by decide +kernel
theorem dX2_init_71 : decode cX2_init 71 = .ok (.getfield 22, 3) := by decide +kernel
theorem dX2_init_74 : decode cX2_init 74 = .ok (.iconst 2, 1) := by decide +kernel
theorem dX2_init_75 : decode cX2_init 75 = .ok (.sipush 150, 3) := by decide +kernel
theorem dX2_init_78 : decode cX2_init 78 = .ok (.iastore, 1) := by decide +kernel
theorem dX2_init_79 : decode cX2_init 79 = .ok (.aload_n 0, 1) := by decide +kernel
theorem dX2_init_80 : decode cX2_init 80 = .ok (.getfield 22, 3) := by decide +kernel
theorem dX2_init_83 : decode cX2_init 83 = .ok (.iconst 3, 1) := by decide +kernel
theorem dX2_init_84 : decode cX2_init 84 = .ok (.iconst 1, 1) := by decide +kernel
theorem dX2_init_85 : decode cX2_init 85 = .ok (.iastore, 1) := by decide +kernel
theorem dX2_init_86 : decode cX2_init 86 = .ok (.aload_n 0, 1) := by decide +kernel
theorem dX2_init_87 : decode cX2_init 87 = .ok (.iconst 0, 1) := by decide +kernel
theorem dX2_init_88 : decode cX2_init 88 = .ok (.putfield 25, 3) := by decide +kernel
theorem dX2_init_91 : decode cX2_init 91 = .ok (.aload_n 0, 1) := by decide +kernel
theorem dX2_init_92 : decode cX2_init 92 = .ok (.iconst 0, 1) := by decide +kernel
theorem dX2_init_93 : decode cX2_init 93 = .ok (.putfield 29, 3) := by decide +kernel
theorem dX2_init_96 : decode cX2_init 96 = .ok (.aload_n 0, 1) := by decide +kernel
theorem dX2_init_97 : decode cX2_init 97 = .ok (.iconst 0, 1) := by decide +kernel
theorem dX2_init_98 : decode cX2_init 98 = .ok (.putfield 32, 3) := by decide +kernel
theorem dX2_init_101 : decode cX2_init 101 = .ok (.aload_n 0, 1) := by decide +kernel
theorem dX2_init_102 : decode cX2_init 102 = .ok (.iconst 0, 1) := by decide +kernel
theorem dX2_init_103 : decode cX2_init 103 = .ok (.putfield 35, 3) := by decide +kernel
theorem dX2_init_106 : decode cX2_init 106 = .ok (.aload_n 0, 1) := by decide +kernel
theorem dX2_init_107 : decode cX2_init 107 = .ok (.iconst 0, 1) := by decide +kernel
theorem dX2_init_108 : decode cX2_init 108 = .ok (.putfield 38, 3) := by decide +kernel
theorem dX2_init_111 : decode cX2_init 111 = .ok (.aload_n 0, 1) := by decide +kernel
theorem dX2_init_112 : decode cX2_init 112 = .ok (.iconst 0, 1) := by decide +kernel
theorem dX2_init_113 : decode cX2_init 113 = .ok (.putfield 41, 3) := by decide +kernel
theorem dX2_init_116 : decode cX2_init 116 = .ok (.aload_n 0, 1) := by decide +kernel
theorem dX2_init_117 : decode cX2_init 117 = .ok (.iconst 0, 1) := by decide +kernel
theorem dX2_init_118 : decode cX2_init 118 = .ok (.putfield 44, 3) := by decide +kernel
theorem dX2_init_121 : decode cX2_init 121 = .ok (.return_, 1) := by decide +kernel
theorem dX2_copyFrom_0 : decode cX2_copyFrom 0 = .ok (.iconst 0, 1) := by decide +kernel
theorem dX2_copyFrom_1 : decode cX2_copyFrom 1 = .ok (.istore_n 2, 1) := by decide +kernel
theorem dX2_copyFrom_2 : decode cX2_copyFrom 2 = .ok (.iload_n 2, 1) := by decide +kernel
theorem dX2_copyFrom_3 : decode cX2_copyFrom 3 = .ok (.aload_n 1, 1) := by decide +kernel
theorem dX2_copyFrom_4 : decode cX2_copyFrom 4 = .ok (.getfield 25, 3) := by decide +kernel
theorem dX2_copyFrom_7 : decode cX2_copyFrom 7 = .ok (.if_icmp .ge 24, 3) := by decide +kernel
theorem dX2_copyFrom_10 : decode cX2_copyFrom 10 = .ok (.aload_n 0, 1) := by decide +kernel
theorem dX2_copyFrom_11 : decode cX2_copyFrom 11 = .ok (.getfield 13, 3) := by decide +kernel
theorem dX2_copyFrom_14 : decode cX2_copyFrom 14 = .ok (.iload_n 2, 1) := by decide +kernel
theorem dX2_copyFrom_15 : decode cX2_copyFrom 15 = .ok (.aaload, 1) := by decide +kernel
theorem dX2_copyFrom_16 : decode cX2_copyFrom 16 = .ok (.aload_n 1, 1) := by decide +kernel
theorem dX2_copyFrom_17 : decode cX2_copyFrom 17 = .ok (.getfield 13, 3) := by decide +kernel
theorem dX2_copyFrom_20 : decode cX2_copyFrom 20 = .ok (.iload_n 2, 1) := by decide +kernel
theorem dX2_copyFrom_21 : decode cX2_copyFrom 21 = .ok (.aaload, 1) := by decide +kernel
theorem dX2_copyFrom_22 : decode cX2_copyFrom 22 = .ok (.invokevirtual 47, 3) := by decide +kernel
theorem dX2_copyFrom_25 : decode cX2_copyFrom 25 = .ok (.iinc 2 1, 3) := by decide +kernel
theorem dX2_copyFrom_28 : decode cX2_copyFrom 28 = .ok (.goto (-26), 3) := by decide +kernel
theorem dX2_copyFrom_31 : decode cX2_copyFrom 31 = .ok (.iconst 0, 1) := by decide +kernel
theorem dX2_copyFrom_32 : decode cX2_copyFrom 32 = .ok (.istore_n 2, 1) := by decide +kernel
theorem dX2_copyFrom_33 : decode cX2_copyFrom 33 = .ok (.iload_n 2, 1) := by decide +kernel
theorem dX2_copyFrom_34 : decode cX2_copyFrom 34 = .ok (.bipush 12, 2) := by decide +kernel
theorem dX2_copyFrom_36 : decode cX2_copyFrom 36 = .ok (.if_icmp .ge 21, 3) := by decide +kernel
theorem dX2_copyFrom_39 : decode cX2_copyFrom 39 = .ok (.aload_n 0, 1) := by decide +kernel
theorem dX2_copyFrom_40 : decode cX2_copyFrom 40 = .ok (.getfield 18, 3) := by decide +kernel
theorem dX2_copyFrom_43 : decode cX2_copyFrom 43 = .ok (.iload_n 2, 1) := by decide +kernel
theorem dX2_copyFrom_44 : decode cX2_copyFrom 44 = .ok (.aload_n 1, 1) := by decide +kernel
theorem dX2_copyFrom_45 : decode cX2_copyFrom 45 = .ok (.getfield 18, 3) := by decide +kernel
theorem dX2_copyFrom_48 : decode cX2_copyFrom 48 = .ok (.iload_n 2, 1) := by decide +kernel
theorem dX2_copyFrom_49 : decode cX2_copyFrom 49 = .ok (.iaload, 1) := by decide +kernel
theorem dX2_copyFrom_50 : decode cX2_copyFrom 50 = .ok (.iastore, 1) := by decide +kernel
theorem dX2_copyFrom_51 : decode cX2_copyFrom 51 = .ok (.iinc 2 1, 3) := by decide +kernel
theorem dX2_copyFrom_54 : decode cX2_copyFrom 54 = .ok (.goto (-21), 3) := by decide +kernel
theorem dX2_copyFrom_57 : decode cX2_copyFrom 57 = .ok (.iconst 0, 1) := by decide +kernel
theorem dX2_copyFrom_58 : decode cX2_copyFrom 58 = .ok (.istore_n 2, 1) := by decide +kernel
theorem dX2_copyFrom_59 : decode cX2_copyFrom 59 = .ok (.iload_n 2, 1) := by decide +kernel
theorem dX2_copyFrom_60 : decode cX2_copyFrom 60 = .ok (.iconst 4, 1) := by decide +kernel
theorem dX2_copyFrom_61 : decode cX2_copyFrom 61 = .ok (.if_icmp .ge 21, 3) := by decide +kernel
theorem dX2_copyFrom_64 : decode cX2_copyFrom 64 = .ok (.aload_n 0, 1) := by decide +kernel
theorem dX2_copyFrom_65 : decode cX2_copyFrom 65 = .ok (.getfield 22, 3) := by decide +kernel
theorem dX2_copyFrom_68 : decode cX2_copyFrom 68 = .ok (.iload_n 2, 1) := by decide +kernel
theorem dX2_copyFrom_69 : decode cX2_copyFrom 69 = .ok (.aload_n 1, 1) := by decide +kernel
theorem dX2_copyFrom_70 : decode cX2_copyFrom 70 = .ok (.getfield 22, 3) := by decide +kernel
theorem dX2_copyFrom_73 : decode cX2_copyFrom 73 = .ok (.iload_n 2, 1) := by decide +kernel
theorem dX2_copyFrom_74 : decode cX2_copyFrom 74 = .ok (.iaload, 1) := by decide +kernel
theorem dX2_copyFrom_75 : decode cX2_copyFrom 75 = .ok (.iastore, 1) := by decide +kernel
theorem dX2_copyFrom_76 : decode cX2_copyFrom 76 = .ok (.iinc 2 1, 3) := by decide +kernel
theorem dX2_copyFrom_79 : decode cX2_copyFrom 79 = .ok (.goto (-20), 3) := by decide +kernel
theorem dX2_copyFrom_82 : decode cX2_copyFrom 82 = .ok (.aload_n 0, 1) := by decide +kernel
theorem dX2_copyFrom_83 : decode cX2_copyFrom 83 = .ok (.aload_n 1, 1) := by decide +kernel
theorem dX2_copyFrom_84 : decode cX2_copyFrom 84 = .ok (.getfield 25, 3) := by decide +kernel
theorem dX2_copyFrom_87 : decode cX2_copyFrom 87 = .ok (.putfield 25, 3) := by decide +kernel
theorem dX2_copyFrom_90 : decode cX2_copyFrom 90 = .ok (.aload_n 0, 1) := by decide +kernel
theorem dX2_copyFrom_91 : decode cX2_copyFrom 91 = .ok (.aload_n 1, 1) := by decide +kernel
theorem dX2_copyFrom_92 : decode cX2_copyFrom 92 = .ok (.getfield 29, 3) := by decide +kernel
theorem dX2_copyFrom_95 : decode cX2_copyFrom 95 = .ok (.putfield 29, 3) := by decide +kernel
theorem dX2_copyFrom_98 : decode cX2_copyFrom 98 = .ok (.aload_n 0, 1) := by decide +kernel
theorem dX2_copyFrom_99 : decode cX2_copyFrom 99 = .ok (.aload_n 1, 1) := by decide +kernel
theorem dX2_copyFrom_100 : decode cX2_copyFrom 100 = .ok (.getfield 32, 3) := by decide +kernel
theorem dX2_copyFrom_103 : decode cX2_copyFrom 103 = .ok (.putfield 32, 3) := by decide +kernel
theorem dX2_copyFrom_106 : decode cX2_copyFrom 106 = .ok (.aload_n 0, 1) := by decide +kernel
theorem dX2_copyFrom_107 : decode cX2_copyFrom 107 = .ok (.aload_n 1, 1) := by decide +kernel
theorem dX2_copyFrom_108 : decode cX2_copyFrom 108 = .ok (.getfield 35, 3) := by decide +kernel
theorem dX2_copyFrom_111 : decode cX2_copyFrom 111 = .ok (.putfield 35, 3) := by decide +kernel
theorem dX2_copyFrom_114 : decode cX2_copyFrom 114 = .ok (.aload_n 0, 1) := by decide +kernel
theorem dX2_copyFrom_115 : decode cX2_copyFrom 115 = .ok (.aload_n 1, 1) := by decide +kernel
theorem dX2_copyFrom_116 : decode cX2_copyFrom 116 = .ok (.getfield 38, 3) := by decide +kernel
theorem dX2_copyFrom_119 : decode cX2_copyFrom 119 = .ok (.putfield 38, 3) := by decide +kernel
theorem dX2_copyFrom_122 : decode cX2_copyFrom 122 = .ok (.aload_n 0, 1) := by decide +kernel
theorem dX2_copyFrom_123 : decode cX2_copyFrom 123 = .ok (.aload_n 1, 1) := by decide +kernel
theorem dX2_copyFrom_124 : decode cX2_copyFrom 124 = .ok (.getfield 41, 3) := by decide +kernel
theorem dX2_copyFrom_127 : decode cX2_copyFrom 127 = .ok (.putfield 41, 3) := by decide +kernel
theorem dX2_copyFrom_130 : decode cX2_copyFrom 130 = .ok (.aload_n 0, 1) := by decide +kernel
theorem dX2_copyFrom_131 : decode cX2_copyFrom 131 = .ok (.aload_n 1, 1) := by decide +kernel
theorem dX2_copyFrom_132 : decode cX2_copyFrom 132 = .ok (.getfield 44, 3) := by decide +kernel
theorem dX2_copyFrom_135 : decode cX2_copyFrom 135 = .ok (.putfield 44, 3) := by decide +kernel
theorem dX2_copyFrom_138 : decode cX2_copyFrom 138 = .ok (.return_, 1) := by decide +kernel
theorem dX2_knows_0 : decode cX2_knows 0 = .ok (.iload_n 1, 1) := by decide +kernel
theorem dX2_knows_1 : decode cX2_knows 1 = .ok (.ifCond .lt 21, 3) := by decide +kernel
theorem dX2_knows_4 : decode cX2_knows 4 = .ok (.iload_n 1, 1) := by decide +kernel
theorem dX2_knows_5 : decode cX2_knows 5 = .ok (.aload_n 0, 1) := by decide +kernel
theorem dX2_knows_6 : decode cX2_knows 6 = .ok (.getfield 25, 3) := by decide +kernel
theorem dX2_knows_9 : decode cX2_knows 9 = .ok (.if_icmp .ge 13, 3) := by decide +kernel
theorem dX2_knows_12 : decode cX2_knows 12 = .ok (.iload_n 1, 1) := by decide +kernel
theorem dX2_knows_13 : decode cX2_knows 13 = .ok (.bipush 12, 2) := by decide +kernel
theorem dX2_knows_15 : decode cX2_knows 15 = .ok (.if_icmp .ge 7, 3) := by decide +kernel
theorem dX2_knows_18 : decode cX2_knows 18 = .ok (.iconst 1, 1) := by decide +kernel
theorem dX2_knows_19 : decode cX2_knows 19 = .ok (.goto 4, 3) := by decide +kernel
theorem dX2_knows_22 : decode cX2_knows 22 = .ok (.iconst 0, 1) := by decide +kernel
theorem dX2_knows_23 : decode cX2_knows 23 = .ok (.ireturn, 1) := by decide +kernel
theorem dX2_addShape_0 : decode cX2_addShape 0 = .ok (.iload_n 1, 1) := by decide +kernel
theorem dX2_addShape_1 : decode cX2_addShape 1 = .ok (.iconst 0, 1) := by decide +kernel
theorem dX2_addShape_2 : decode cX2_addShape 2 = .ok (.bipush 31, 2) := by decide +kernel
theorem dX2_addShape_4 : decode cX2_addShape 4 = .ok (.invokestatic 51, 3) := by decide +kernel
theorem dX2_addShape_7 : decode cX2_addShape 7 = .ok (.ifCond .eq 51, 3) := by decide +kernel
theorem dX2_addShape_10 : decode cX2_addShape 10 = .ok (.iload_n 2, 1) := by decide +kernel
theorem dX2_addShape_11 : decode cX2_addShape 11 = .ok (.iconst 0, 1) := by decide +kernel
theorem dX2_addShape_12 : decode cX2_addShape 12 = .ok (.bipush 23, 2) := by decide +kernel
theorem dX2_addShape_14 : decode cX2_addShape 14 = .ok (.invokestatic 51, 3) := by decide +kernel
theorem dX2_addShape_17 : decode cX2_addShape 17 = .ok (.ifCond .eq 41, 3) := by decide +kernel
theorem dX2_addShape_20 : decode cX2_addShape 20 = .ok (.iload_n 3, 1) := by decide +kernel
theorem dX2_addShape_21 : decode cX2_addShape 21 = .ok (.iconst 2, 1) := by decide +kernel
theorem dX2_addShape_22 : decode cX2_addShape 22 = .ok (.bipush 32, 2) := by decide +kernel
theorem dX2_addShape_24 : decode cX2_addShape 24 = .ok (.invokestatic 51, 3) := by decide +kernel
theorem dX2_addShape_27 : decode cX2_addShape 27 = .ok (.ifCond .eq 31, 3) := by decide +kernel
theorem dX2_addShape_30 : decode cX2_addShape 30 = .ok (.iload 4, 2) := by decide +kernel
theorem dX2_addShape_32 : decode cX2_addShape 32 = .ok (.iconst 2, 1) := by decide +kernel
theorem dX2_addShape_33 : decode cX2_addShape 33 = .ok (.bipush 24, 2) := by decide +kernel
theorem dX2_addShape_35 : decode cX2_addShape 35 = .ok (.invokestatic 51, 3) := by decide +kernel
theorem dX2_addShape_38 : decode cX2_addShape 38 = .ok (.ifCond .eq 20, 3) := by decide +kernel
theorem dX2_addShape_41 : decode cX2_addShape 41 = .ok (.iload_n 1, 1) := by decide +kernel
theorem dX2_addShape_42 : decode cX2_addShape 42 = .ok (.iload_n 3, 1) := by decide +kernel
theorem dX2_addShape_43 : decode cX2_addShape 43 = .ok (.iadd, 1) := by decide +kernel
theorem dX2_addShape_44 : decode cX2_addShape 44 = .ok (.bipush 32, 2) := by decide +kernel
theorem dX2_addShape_46 : decode cX2_addShape 46 = .ok (.if_icmp .gt 12, 3) := by decide +kernel
theorem dX2_addShape_49 : decode cX2_addShape 49 = .ok (.iload_n 2, 1) := by decide +kernel
theorem dX2_addShape_50 : decode cX2_addShape 50 = .ok (.iload 4, 2) := by decide +kernel
theorem dX2_addShape_52 : decode cX2_addShape 52 = .ok (.iadd, 1) := by decide +kernel
theorem dX2_addShape_53 : decode cX2_addShape 53 = .ok (.bipush 24, 2) := by decide +kernel
theorem dX2_addShape_55 : decode cX2_addShape 55 = .ok (.if_icmp .le 6, 3) := by decide +kernel
theorem dX2_addShape_58 : decode cX2_addShape 58 = .ok (.bipush (-2), 2) := by decide +kernel
theorem dX2_addShape_60 : decode cX2_addShape 60 = .ok (.ireturn, 1) := by decide +kernel
theorem dX2_addShape_61 : decode cX2_addShape 61 = .ok (.aload_n 0, 1) := by decide +kernel
theorem dX2_addShape_62 : decode cX2_addShape 62 = .ok (.getfield 13, 3) := by decide +kernel
theorem dX2_addShape_65 : decode cX2_addShape 65 = .ok (.aload_n 0, 1) := by decide +kernel
theorem dX2_addShape_66 : decode cX2_addShape 66 = .ok (.getfield 25, 3) := by decide +kernel
theorem dX2_addShape_69 : decode cX2_addShape 69 = .ok (.aaload, 1) := by decide +kernel
theorem dX2_addShape_70 : decode cX2_addShape 70 = .ok (.astore 5, 2) := by decide +kernel
theorem dX2_addShape_72 : decode cX2_addShape 72 = .ok (.aload 5, 2) := by decide +kernel
theorem dX2_addShape_74 : decode cX2_addShape 74 = .ok (.iload_n 1, 1) := by decide +kernel
theorem dX2_addShape_75 : decode cX2_addShape 75 = .ok (.iload_n 2, 1) := by decide +kernel
theorem dX2_addShape_76 : decode cX2_addShape 76 = .ok (.iload_n 3, 1) := by decide +kernel
theorem dX2_addShape_77 : decode cX2_addShape 77 = .ok (.iload 4, 2) := by decide +kernel
theorem dX2_addShape_79 : decode cX2_addShape 79 = .ok (.invokevirtual 55, 3) := by decide +kernel
theorem dX2_addShape_82 : decode cX2_addShape 82 = .ok (.aload_n 0, 1) := by decide +kernel
theorem dX2_addShape_83 : decode cX2_addShape 83 = .ok (.aload 5, 2) := by decide +kernel
theorem dX2_addShape_85 : decode cX2_addShape 85 = .ok (.invokevirtual 59, 3) := by decide +kernel
theorem dX2_addShape_88 : decode cX2_addShape 88 = .ok (.ifCond .ne 6, 3) := by decide +kernel
theorem dX2_addShape_91 : decode cX2_addShape 91 = .ok (.bipush (-4), 2) := by decide +kernel
theorem dX2_addShape_93 : decode cX2_addShape 93 = .ok (.ireturn, 1) := by decide +kernel
theorem dX2_addShape_94 : decode cX2_addShape 94 = .ok (.aload_n 0, 1) := by decide +kernel
theorem dX2_addShape_95 : decode cX2_addShape 95 = .ok (.getfield 25, 3) := by decide +kernel
theorem dX2_addShape_98 : decode cX2_addShape 98 = .ok (.bipush 12, 2) := by decide +kernel
theorem dX2_addShape_100 : decode cX2_addShape 100 = .ok (.if_icmp .lt 6, 3) := by decide +kernel
theorem dX2_addShape_103 : decode cX2_addShape 103 = .ok (.bipush (-3), 2) := by decide +kernel
theorem dX2_addShape_105 : decode cX2_addShape 105 = .ok (.ireturn, 1) := by decide +kernel
theorem dX2_addShape_106 : decode cX2_addShape 106 = .ok (.aload_n 0, 1) := by decide +kernel
theorem dX2_addShape_107 : decode cX2_addShape 107 = .ok (.dup, 1) := by decide +kernel
theorem dX2_addShape_108 : decode cX2_addShape 108 = .ok (.getfield 25, 3) := by decide +kernel
theorem dX2_addShape_111 : decode cX2_addShape 111 = .ok (.iconst 1, 1) := by decide +kernel
theorem dX2_addShape_112 : decode cX2_addShape 112 = .ok (.iadd, 1) := by decide +kernel
theorem dX2_addShape_113 : decode cX2_addShape 113 = .ok (.putfield 25, 3) := by decide +kernel
theorem dX2_addShape_116 : decode cX2_addShape 116 = .ok (.aload_n 0, 1) := by decide +kernel
theorem dX2_addShape_117 : decode cX2_addShape 117 = .ok (.getfield 25, 3) := by decide +kernel
theorem dX2_addShape_120 : decode cX2_addShape 120 = .ok (.iconst 1, 1) := by decide +kernel
theorem dX2_addShape_121 : decode cX2_addShape 121 = .ok (.isub, 1) := by decide +kernel
theorem dX2_addShape_122 : decode cX2_addShape 122 = .ok (.ireturn, 1) := by decide +kernel
theorem dX2_fits_0 : decode cX2_fits 0 = .ok (.iconst 0, 1) := by decide +kernel
theorem dX2_fits_1 : decode cX2_fits 1 = .ok (.istore_n 2, 1) := by decide +kernel
theorem dX2_fits_2 : decode cX2_fits 2 = .ok (.iload_n 2, 1) := by decide +kernel
theorem dX2_fits_3 : decode cX2_fits 3 = .ok (.aload_n 0, 1) := by decide +kernel
theorem dX2_fits_4 : decode cX2_fits 4 = .ok (.getfield 25, 3) := by decide +kernel
theorem dX2_fits_7 : decode cX2_fits 7 = .ok (.if_icmp .ge 64, 3) := by decide +kernel
theorem dX2_fits_10 : decode cX2_fits 10 = .ok (.aload_n 0, 1) := by decide +kernel
theorem dX2_fits_11 : decode cX2_fits 11 = .ok (.getfield 13, 3) := by decide +kernel
theorem dX2_fits_14 : decode cX2_fits 14 = .ok (.iload_n 2, 1) := by decide +kernel
theorem dX2_fits_15 : decode cX2_fits 15 = .ok (.aaload, 1) := by decide +kernel
theorem dX2_fits_16 : decode cX2_fits 16 = .ok (.astore_n 3, 1) := by decide +kernel
theorem dX2_fits_17 : decode cX2_fits 17 = .ok (.aload_n 1, 1) := by decide +kernel
theorem dX2_fits_18 : decode cX2_fits 18 = .ok (.aload_n 3, 1) := by decide +kernel
theorem dX2_fits_19 : decode cX2_fits 19 = .ok (.invokevirtual 63, 3) := by decide +kernel
theorem dX2_fits_22 : decode cX2_fits 22 = .ok (.ifCond .ne 11, 3) := by decide +kernel
theorem dX2_fits_25 : decode cX2_fits 25 = .ok (.aload_n 3, 1) := by decide +kernel
theorem dX2_fits_26 : decode cX2_fits 26 = .ok (.aload_n 1, 1) := by decide +kernel
theorem dX2_fits_27 : decode cX2_fits 27 = .ok (.invokevirtual 63, 3) := by decide +kernel
theorem dX2_fits_30 : decode cX2_fits 30 = .ok (.ifCond .eq 7, 3) := by decide +kernel
theorem dX2_fits_33 : decode cX2_fits 33 = .ok (.iconst 1, 1) := by decide +kernel
theorem dX2_fits_34 : decode cX2_fits 34 = .ok (.goto 4, 3) := by decide +kernel
theorem dX2_fits_37 : decode cX2_fits 37 = .ok (.iconst 0, 1) := by decide +kernel
theorem dX2_fits_38 : decode cX2_fits 38 = .ok (.istore 4, 2) := by decide +kernel
theorem dX2_fits_40 : decode cX2_fits 40 = .ok (.iload 4, 2) := by decide +kernel
theorem dX2_fits_42 : decode cX2_fits 42 = .ok (.ifCond .eq 13, 3) := by decide +kernel
theorem dX2_fits_45 : decode cX2_fits 45 = .ok (.aload_n 3, 1) := by decide +kernel
theorem dX2_fits_46 : decode cX2_fits 46 = .ok (.getfield 66, 3) := by decide +kernel
theorem dX2_fits_49 : decode cX2_fits 49 = .ok (.ifCond .eq 16, 3) := by decide +kernel
theorem dX2_fits_52 : decode cX2_fits 52 = .ok (.goto 11, 3) := by decide +kernel
theorem dX2_fits_55 : decode cX2_fits 55 = .ok (.aload_n 1, 1) := by decide +kernel
theorem dX2_fits_56 : decode cX2_fits 56 = .ok (.aload_n 3, 1) := by decide +kernel
theorem dX2_fits_57 : decode cX2_fits 57 = .ok (.invokevirtual 69, 3) := by decide +kernel
theorem dX2_fits_60 : decode cX2_fits 60 = .ok (.ifCond .ne 5, 3) := by decide +kernel
theorem dX2_fits_63 : decode cX2_fits 63 = .ok (.iconst 0, 1) := by decide +kernel
theorem dX2_fits_64 : decode cX2_fits 64 = .ok (.ireturn, 1) := by decide +kernel
theorem dX2_fits_65 : decode cX2_fits 65 = .ok (.iinc 2 1, 3) := by decide +kernel
theorem dX2_fits_68 : decode cX2_fits 68 = .ok (.goto (-66), 3) := by decide +kernel
theorem dX2_fits_71 : decode cX2_fits 71 = .ok (.iconst 1, 1) := by decide +kernel
theorem dX2_fits_72 : decode cX2_fits 72 = .ok (.ireturn, 1) := by decide +kernel
theorem dX2_changeLead_0 : decode cX2_changeLead 0 = .ok (.aload_n 0, 1) := by decide +kernel
theorem dX2_changeLead_1 : decode cX2_changeLead 1 = .ok (.iload_n 1, 1) := by decide +kernel
theorem dX2_changeLead_2 : decode cX2_changeLead 2 = .ok (.invokevirtual 72, 3) := by decide +kernel
theorem dX2_changeLead_5 : decode cX2_changeLead 5 = .ok (.ifCond .eq 12, 3) := by decide +kernel
theorem dX2_changeLead_8 : decode cX2_changeLead 8 = .ok (.iload_n 2, 1) := by decide +kernel
theorem dX2_changeLead_9 : decode cX2_changeLead 9 = .ok (.iconst 0, 1) := by decide +kernel
theorem dX2_changeLead_10 : decode cX2_changeLead 10 = .ok (.iconst 3, 1) := by decide +kernel
theorem dX2_changeLead_11 : decode cX2_changeLead 11 = .ok (.invokestatic 51, 3) := by decide +kernel
theorem dX2_changeLead_14 : decode cX2_changeLead 14 = .ok (.ifCond .ne 5, 3) := by decide +kernel
theorem dX2_changeLead_17 : decode cX2_changeLead 17 = .ok (.iconst (-1), 1) := by decide +kernel
theorem dX2_changeLead_18 : decode cX2_changeLead 18 = .ok (.ireturn, 1) := by decide +kernel
theorem dX2_changeLead_19 : decode cX2_changeLead 19 = .ok (.aload_n 0, 1) := by decide +kernel
theorem dX2_changeLead_20 : decode cX2_changeLead 20 = .ok (.getfield 13, 3) := by decide +kernel
theorem dX2_changeLead_23 : decode cX2_changeLead 23 = .ok (.iload_n 1, 1) := by decide +kernel
theorem dX2_changeLead_24 : decode cX2_changeLead 24 = .ok (.aaload, 1) := by decide +kernel
theorem dX2_changeLead_25 : decode cX2_changeLead 25 = .ok (.astore_n 3, 1) := by decide +kernel
theorem dX2_changeLead_26 : decode cX2_changeLead 26 = .ok (.aload_n 3, 1) := by decide +kernel
theorem dX2_changeLead_27 : decode cX2_changeLead 27 = .ok (.getfield 66, 3) := by decide +kernel
theorem dX2_changeLead_30 : decode cX2_changeLead 30 = .ok (.ifCond .eq 6, 3) := by decide +kernel
theorem dX2_changeLead_33 : decode cX2_changeLead 33 = .ok (.bipush (-4), 2) := by decide +kernel
theorem dX2_changeLead_35 : decode cX2_changeLead 35 = .ok (.ireturn, 1) := by decide +kernel
theorem dX2_changeLead_36 : decode cX2_changeLead 36 = .ok (.aload_n 3, 1) := by decide +kernel
theorem dX2_changeLead_37 : decode cX2_changeLead 37 = .ok (.getfield 76, 3) := by decide +kernel
theorem dX2_changeLead_40 : decode cX2_changeLead 40 = .ok (.iload_n 2, 1) := by decide +kernel
theorem dX2_changeLead_41 : decode cX2_changeLead 41 = .ok (.if_icmp .ne 6, 3) := by decide +kernel
theorem dX2_changeLead_44 : decode cX2_changeLead 44 = .ok (.bipush (-5), 2) := by decide +kernel
theorem dX2_changeLead_46 : decode cX2_changeLead 46 = .ok (.ireturn, 1) := by decide +kernel
theorem dX2_changeLead_47 : decode cX2_changeLead 47 = .ok (.aload_n 3, 1) := by decide +kernel
theorem dX2_changeLead_48 : decode cX2_changeLead 48 = .ok (.getfield 76, 3) := by decide +kernel
theorem dX2_changeLead_51 : decode cX2_changeLead 51 = .ok (.istore 4, 2) := by decide +kernel
theorem dX2_changeLead_53 : decode cX2_changeLead 53 = .ok (.aload_n 3, 1) := by decide +kernel
theorem dX2_changeLead_54 : decode cX2_changeLead 54 = .ok (.iload_n 2, 1) := by decide +kernel
theorem dX2_changeLead_55 : decode cX2_changeLead 55 = .ok (.putfield 76, 3) := by decide +kernel
theorem dX2_changeLead_58 : decode cX2_changeLead 58 = .ok (.iload 4, 2) := by decide +kernel
theorem dX2_changeLead_60 : decode cX2_changeLead 60 = .ok (.ireturn, 1) := by decide +kernel
theorem dX2_changeSetting_0 : decode cX2_changeSetting 0 = .ok (.iload_n 1, 1) := by decide +kernel
theorem dX2_changeSetting_1 : decode cX2_changeSetting 1 = .ok (.iconst 0, 1) := by decide +kernel
theorem dX2_changeSetting_2 : decode cX2_changeSetting 2 = .ok (.iconst 3, 1) := by decide +kernel
theorem dX2_changeSetting_3 : decode cX2_changeSetting 3 = .ok (.invokestatic 51, 3) := by decide +kernel
theorem dX2_changeSetting_6 : decode cX2_changeSetting 6 = .ok (.ifCond .ne 5, 3) := by decide +kernel
theorem dX2_changeSetting_9 : decode cX2_changeSetting 9 = .ok (.iconst (-1), 1) := by decide +kernel
theorem dX2_changeSetting_10 : decode cX2_changeSetting 10 = .ok (.ireturn, 1) := by decide +kernel
theorem dX2_changeSetting_11 : decode cX2_changeSetting 11 = .ok (.iload_n 2, 1) := by decide +kernel
theorem dX2_changeSetting_12 : decode cX2_changeSetting 12 = .ok (.getstatic 79, 3) := by decide +kernel
theorem dX2_changeSetting_15 : decode cX2_changeSetting 15 = .ok (.iload_n 1, 1) := by decide +kernel
theorem dX2_changeSetting_16 : decode cX2_changeSetting 16 = .ok (.iaload, 1) := by decide +kernel
theorem dX2_changeSetting_17 : decode cX2_changeSetting 17 = .ok (.getstatic 82, 3) := by decide +kernel
theorem dX2_changeSetting_20 : decode cX2_changeSetting 20 = .ok (.iload_n 1, 1) := by decide +kernel
theorem dX2_changeSetting_21 : decode cX2_changeSetting 21 = .ok (.iaload, 1) := by decide +kernel
theorem dX2_changeSetting_22 : decode cX2_changeSetting 22 = .ok (.invokestatic 51, 3) := by decide +kernel
theorem dX2_changeSetting_25 : decode cX2_changeSetting 25 = .ok (.ifCond .ne 6, 3) := by decide +kernel
theorem dX2_changeSetting_28 : decode cX2_changeSetting 28 = .ok (.bipush (-2), 2) := by decide +kernel
theorem dX2_changeSetting_30 : decode cX2_changeSetting 30 = .ok (.ireturn, 1) := by decide +kernel
theorem dX2_changeSetting_31 : decode cX2_changeSetting 31 = .ok (.aload_n 0, 1) := by decide +kernel
theorem dX2_changeSetting_32 : decode cX2_changeSetting 32 = .ok (.getfield 22, 3) := by decide +kernel
theorem dX2_changeSetting_35 : decode cX2_changeSetting 35 = .ok (.iload_n 1, 1) := by decide +kernel
theorem dX2_changeSetting_36 : decode cX2_changeSetting 36 = .ok (.iaload, 1) := by decide +kernel
theorem dX2_changeSetting_37 : decode cX2_changeSetting 37 = .ok (.iload_n 2, 1) := by decide +kernel
theorem dX2_changeSetting_38 : decode cX2_changeSetting 38 = .ok (.if_icmp .ne 6, 3) := by decide +kernel
theorem dX2_changeSetting_41 : decode cX2_changeSetting 41 = .ok (.bipush (-5), 2) := by decide +kernel
theorem dX2_changeSetting_43 : decode cX2_changeSetting 43 = .ok (.ireturn, 1) := by decide +kernel
theorem dX2_changeSetting_44 : decode cX2_changeSetting 44 = .ok (.aload_n 0, 1) := by decide +kernel
theorem dX2_changeSetting_45 : decode cX2_changeSetting 45 = .ok (.getfield 22, 3) := by decide +kernel
theorem dX2_changeSetting_48 : decode cX2_changeSetting 48 = .ok (.iload_n 1, 1) := by decide +kernel
theorem dX2_changeSetting_49 : decode cX2_changeSetting 49 = .ok (.iaload, 1) := by decide +kernel
theorem dX2_changeSetting_50 : decode cX2_changeSetting 50 = .ok (.istore_n 3, 1) := by decide +kernel
theorem dX2_changeSetting_51 : decode cX2_changeSetting 51 = .ok (.aload_n 0, 1) := by decide +kernel
theorem dX2_changeSetting_52 : decode cX2_changeSetting 52 = .ok (.getfield 22, 3) := by decide +kernel
theorem dX2_changeSetting_55 : decode cX2_changeSetting 55 = .ok (.iload_n 1, 1) := by decide +kernel
theorem dX2_changeSetting_56 : decode cX2_changeSetting 56 = .ok (.iload_n 2, 1) := by decide +kernel
theorem dX2_changeSetting_57 : decode cX2_changeSetting 57 = .ok (.iastore, 1) := by decide +kernel
theorem dX2_changeSetting_58 : decode cX2_changeSetting 58 = .ok (.iload_n 3, 1) := by decide +kernel
theorem dX2_changeSetting_59 : decode cX2_changeSetting 59 = .ok (.ireturn, 1) := by decide +kernel
theorem dX2_cutShape_0 : decode cX2_cutShape 0 = .ok (.aload_n 0, 1) := by decide +kernel
theorem dX2_cutShape_1 : decode cX2_cutShape 1 = .ok (.iload_n 1, 1) := by decide +kernel
theorem dX2_cutShape_2 : decode cX2_cutShape 2 = .ok (.invokevirtual 72, 3) := by decide +kernel
theorem dX2_cutShape_5 : decode cX2_cutShape 5 = .ok (.ifCond .ne 5, 3) := by decide +kernel
theorem dX2_cutShape_8 : decode cX2_cutShape 8 = .ok (.iconst (-1), 1) := by decide +kernel
theorem dX2_cutShape_9 : decode cX2_cutShape 9 = .ok (.ireturn, 1) := by decide +kernel
theorem dX2_cutShape_10 : decode cX2_cutShape 10 = .ok (.aload_n 0, 1) := by decide +kernel
theorem dX2_cutShape_11 : decode cX2_cutShape 11 = .ok (.iload_n 1, 1) := by decide +kernel
theorem dX2_cutShape_12 : decode cX2_cutShape 12 = .ok (.invokevirtual 85, 3) := by decide +kernel
theorem dX2_cutShape_15 : decode cX2_cutShape 15 = .ok (.istore_n 2, 1) := by decide +kernel
theorem dX2_cutShape_16 : decode cX2_cutShape 16 = .ok (.iload_n 2, 1) := by decide +kernel
theorem dX2_cutShape_17 : decode cX2_cutShape 17 = .ok (.ifCond .eq 8, 3) := by decide +kernel
theorem dX2_cutShape_20 : decode cX2_cutShape 20 = .ok (.bipush (-10), 2) := by decide +kernel
theorem dX2_cutShape_22 : decode cX2_cutShape 22 = .ok (.iload_n 2, 1) := by decide +kernel
theorem dX2_cutShape_23 : decode cX2_cutShape 23 = .ok (.isub, 1) := by decide +kernel
theorem dX2_cutShape_24 : decode cX2_cutShape 24 = .ok (.ireturn, 1) := by decide +kernel
theorem dX2_cutShape_25 : decode cX2_cutShape 25 = .ok (.aload_n 0, 1) := by decide +kernel
theorem dX2_cutShape_26 : decode cX2_cutShape 26 = .ok (.getfield 13, 3) := by decide +kernel
theorem dX2_cutShape_29 : decode cX2_cutShape 29 = .ok (.iload_n 1, 1) := by decide +kernel
theorem dX2_cutShape_30 : decode cX2_cutShape 30 = .ok (.aaload, 1) := by decide +kernel
theorem dX2_cutShape_31 : decode cX2_cutShape 31 = .ok (.astore_n 3, 1) := by decide +kernel
theorem dX2_cutShape_32 : decode cX2_cutShape 32 = .ok (.aload_n 0, 1) := by decide +kernel
theorem dX2_cutShape_33 : decode cX2_cutShape 33 = .ok (.aload_n 0, 1) := by decide +kernel
theorem dX2_cutShape_34 : decode cX2_cutShape 34 = .ok (.aload_n 3, 1) := by decide +kernel
theorem dX2_cutShape_35 : decode cX2_cutShape 35 = .ok (.invokevirtual 89, 3) := by decide +kernel
theorem dX2_cutShape_38 : decode cX2_cutShape 38 = .ok (.invokevirtual 93, 3) := by decide +kernel
theorem dX2_cutShape_41 : decode cX2_cutShape 41 = .ok (.aload_n 0, 1) := by decide +kernel
theorem dX2_cutShape_42 : decode cX2_cutShape 42 = .ok (.aload_n 3, 1) := by decide +kernel
theorem dX2_cutShape_43 : decode cX2_cutShape 43 = .ok (.invokevirtual 97, 3) := by decide +kernel
theorem dX2_cutShape_46 : decode cX2_cutShape 46 = .ok (.putfield 29, 3) := by decide +kernel
theorem dX2_cutShape_49 : decode cX2_cutShape 49 = .ok (.aload_n 0, 1) := by decide +kernel
theorem dX2_cutShape_50 : decode cX2_cutShape 50 = .ok (.aload_n 3, 1) := by decide +kernel
theorem dX2_cutShape_51 : decode cX2_cutShape 51 = .ok (.invokevirtual 101, 3) := by decide +kernel
theorem dX2_cutShape_54 : decode cX2_cutShape 54 = .ok (.putfield 32, 3) := by decide +kernel
theorem dX2_cutShape_57 : decode cX2_cutShape 57 = .ok (.aload_n 0, 1) := by decide +kernel
theorem dX2_cutShape_58 : decode cX2_cutShape 58 = .ok (.aload_n 3, 1) := by decide +kernel
theorem dX2_cutShape_59 : decode cX2_cutShape 59 = .ok (.invokevirtual 104, 3) := by decide +kernel
theorem dX2_cutShape_62 : decode cX2_cutShape 62 = .ok (.aload_n 3, 1) := by decide +kernel
theorem dX2_cutShape_63 : decode cX2_cutShape 63 = .ok (.iconst 1, 1) := by decide +kernel
theorem dX2_cutShape_64 : decode cX2_cutShape 64 = .ok (.putfield 66, 3) := by decide +kernel
theorem dX2_cutShape_67 : decode cX2_cutShape 67 = .ok (.aload_n 3, 1) := by decide +kernel
theorem dX2_cutShape_68 : decode cX2_cutShape 68 = .ok (.aload_n 0, 1) := by decide +kernel
theorem dX2_cutShape_69 : decode cX2_cutShape 69 = .ok (.getfield 44, 3) := by decide +kernel
theorem dX2_cutShape_72 : decode cX2_cutShape 72 = .ok (.putfield 107, 3) := by decide +kernel
theorem dX2_cutShape_75 : decode cX2_cutShape 75 = .ok (.aload_n 0, 1) := by decide +kernel
theorem dX2_cutShape_76 : decode cX2_cutShape 76 = .ok (.dup, 1) := by decide +kernel
theorem dX2_cutShape_77 : decode cX2_cutShape 77 = .ok (.getfield 44, 3) := by decide +kernel
theorem dX2_cutShape_80 : decode cX2_cutShape 80 = .ok (.iconst 1, 1) := by decide +kernel
theorem dX2_cutShape_81 : decode cX2_cutShape 81 = .ok (.iadd, 1) := by decide +kernel
theorem dX2_cutShape_82 : decode cX2_cutShape 82 = .ok (.putfield 44, 3) := by decide +kernel
theorem dX2_cutShape_85 : decode cX2_cutShape 85 = .ok (.aload_n 3, 1) := by decide +kernel
theorem dX2_cutShape_86 : decode cX2_cutShape 86 = .ok (.aload_n 0, 1) := by decide +kernel
theorem dX2_cutShape_87 : decode cX2_cutShape 87 = .ok (.aload_n 3, 1) := by decide +kernel
theorem dX2_cutShape_88 : decode cX2_cutShape 88 = .ok (.invokevirtual 110, 3) := by decide +kernel
theorem dX2_cutShape_91 : decode cX2_cutShape 91 = .ok (.invokevirtual 113, 3) := by decide +kernel
theorem dX2_cutShape_94 : decode cX2_cutShape 94 = .ok (.aload_n 0, 1) := by decide +kernel
theorem dX2_cutShape_95 : decode cX2_cutShape 95 = .ok (.invokevirtual 116, 3) := by decide +kernel
theorem dX2_cutShape_98 : decode cX2_cutShape 98 = .ok (.if_icmp .ne 7, 3) := by decide +kernel
theorem dX2_cutShape_101 : decode cX2_cutShape 101 = .ok (.iconst 1, 1) := by decide +kernel
theorem dX2_cutShape_102 : decode cX2_cutShape 102 = .ok (.goto 4, 3) := by decide +kernel
theorem dX2_cutShape_105 : decode cX2_cutShape 105 = .ok (.iconst 0, 1) := by decide +kernel
theorem dX2_cutShape_106 : decode cX2_cutShape 106 = .ok (.putfield 119, 3) := by decide +kernel
theorem dX2_cutShape_109 : decode cX2_cutShape 109 = .ok (.aload_n 0, 1) := by decide +kernel
theorem dX2_cutShape_110 : decode cX2_cutShape 110 = .ok (.aload_n 3, 1) := by decide +kernel
theorem dX2_cutShape_111 : decode cX2_cutShape 111 = .ok (.invokevirtual 122, 3) := by decide +kernel
theorem dX2_cutShape_114 : decode cX2_cutShape 114 = .ok (.ireturn, 1) := by decide +kernel
theorem dX2_burnEdge_0 : decode cX2_burnEdge 0 = .ok (.aload_n 0, 1) := by decide +kernel
theorem dX2_burnEdge_1 : decode cX2_burnEdge 1 = .ok (.aload_n 1, 1) := by decide +kernel
theorem dX2_burnEdge_2 : decode cX2_burnEdge 2 = .ok (.invokevirtual 125, 3) := by decide +kernel
theorem dX2_burnEdge_5 : decode cX2_burnEdge 5 = .ok (.istore_n 2, 1) := by decide +kernel
theorem dX2_burnEdge_6 : decode cX2_burnEdge 6 = .ok (.aload_n 0, 1) := by decide +kernel
theorem dX2_burnEdge_7 : decode cX2_burnEdge 7 = .ok (.dup, 1) := by decide +kernel
theorem dX2_burnEdge_8 : decode cX2_burnEdge 8 = .ok (.getfield 38, 3) := by decide +kernel
theorem dX2_burnEdge_11 : decode cX2_burnEdge 11 = .ok (.iload_n 2, 1) := by decide +kernel
theorem dX2_burnEdge_12 : decode cX2_burnEdge 12 = .ok (.iadd, 1) := by decide +kernel
theorem dX2_burnEdge_13 : decode cX2_burnEdge 13 = .ok (.putfield 38, 3) := by decide +kernel
theorem dX2_burnEdge_16 : decode cX2_burnEdge 16 = .ok (.aload_n 0, 1) := by decide +kernel
theorem dX2_burnEdge_17 : decode cX2_burnEdge 17 = .ok (.dup, 1) := by decide +kernel
theorem dX2_burnEdge_18 : decode cX2_burnEdge 18 = .ok (.getfield 41, 3) := by decide +kernel
theorem dX2_burnEdge_21 : decode cX2_burnEdge 21 = .ok (.iload_n 2, 1) := by decide +kernel
theorem dX2_burnEdge_22 : decode cX2_burnEdge 22 = .ok (.iadd, 1) := by decide +kernel
theorem dX2_burnEdge_23 : decode cX2_burnEdge 23 = .ok (.putfield 41, 3) := by decide +kernel
theorem dX2_burnEdge_26 : decode cX2_burnEdge 26 = .ok (.iconst 0, 1) := by decide +kernel
theorem dX2_burnEdge_27 : decode cX2_burnEdge 27 = .ok (.istore_n 3, 1) := by decide +kernel
theorem dX2_burnEdge_28 : decode cX2_burnEdge 28 = .ok (.iload_n 3, 1) := by decide +kernel
theorem dX2_burnEdge_29 : decode cX2_burnEdge 29 = .ok (.bipush 12, 2) := by decide +kernel
theorem dX2_burnEdge_31 : decode cX2_burnEdge 31 = .ok (.if_icmp .ge 24, 3) := by decide +kernel
theorem dX2_burnEdge_34 : decode cX2_burnEdge 34 = .ok (.aload_n 0, 1) := by decide +kernel
theorem dX2_burnEdge_35 : decode cX2_burnEdge 35 = .ok (.getfield 18, 3) := by decide +kernel
theorem dX2_burnEdge_38 : decode cX2_burnEdge 38 = .ok (.iload_n 3, 1) := by decide +kernel
theorem dX2_burnEdge_39 : decode cX2_burnEdge 39 = .ok (.dup2, 1) := by decide +kernel
theorem dX2_burnEdge_40 : decode cX2_burnEdge 40 = .ok (.iaload, 1) := by decide +kernel
theorem dX2_burnEdge_41 : decode cX2_burnEdge 41 = .ok (.aload_n 1, 1) := by decide +kernel
theorem dX2_burnEdge_42 : decode cX2_burnEdge 42 = .ok (.getfield 128, 3) := by decide +kernel
theorem dX2_burnEdge_45 : decode cX2_burnEdge 45 = .ok (.iload_n 3, 1) := by decide +kernel
theorem dX2_burnEdge_46 : decode cX2_burnEdge 46 = .ok (.iaload, 1) := by decide +kernel
theorem dX2_burnEdge_47 : decode cX2_burnEdge 47 = .ok (.iadd, 1) := by decide +kernel
theorem dX2_burnEdge_48 : decode cX2_burnEdge 48 = .ok (.iastore, 1) := by decide +kernel
theorem dX2_burnEdge_49 : decode cX2_burnEdge 49 = .ok (.iinc 3 1, 3) := by decide +kernel
theorem dX2_burnEdge_52 : decode cX2_burnEdge 52 = .ok (.goto (-24), 3) := by decide +kernel
theorem dX2_burnEdge_55 : decode cX2_burnEdge 55 = .ok (.aload_n 0, 1) := by decide +kernel
theorem dX2_burnEdge_56 : decode cX2_burnEdge 56 = .ok (.dup, 1) := by decide +kernel
theorem dX2_burnEdge_57 : decode cX2_burnEdge 57 = .ok (.getfield 35, 3) := by decide +kernel
theorem dX2_burnEdge_60 : decode cX2_burnEdge 60 = .ok (.iconst 1, 1) := by decide +kernel
theorem dX2_burnEdge_61 : decode cX2_burnEdge 61 = .ok (.iadd, 1) := by decide +kernel
theorem dX2_burnEdge_62 : decode cX2_burnEdge 62 = .ok (.putfield 35, 3) := by decide +kernel
theorem dX2_burnEdge_65 : decode cX2_burnEdge 65 = .ok (.return_, 1) := by decide +kernel
theorem dX2_loseShapesInside_0 : decode cX2_loseShapesInside 0 = .ok (.iconst 0, 1) := by decide +kernel
theorem dX2_loseShapesInside_1 : decode cX2_loseShapesInside 1 = .ok (.istore_n 2, 1) := by decide +kernel
theorem dX2_loseShapesInside_2 : decode cX2_loseShapesInside 2 = .ok (.iconst 0, 1) := by decide +kernel
theorem dX2_loseShapesInside_3 : decode cX2_loseShapesInside 3 = .ok (.istore_n 3, 1) := by decide +kernel
theorem dX2_loseShapesInside_4 : decode cX2_loseShapesInside 4 = .ok (.iload_n 3, 1) := by decide +kernel
theorem dX2_loseShapesInside_5 : decode cX2_loseShapesInside 5 = .ok (.aload_n 0, 1) := by decide +kernel
theorem dX2_loseShapesInside_6 : decode cX2_loseShapesInside 6 = .ok (.getfield 25, 3) := by decide +kernel
theorem dX2_loseShapesInside_9 : decode cX2_loseShapesInside 9 = .ok (.if_icmp .ge 43, 3) := by decide +kernel
theorem dX2_loseShapesInside_12 : decode cX2_loseShapesInside 12 = .ok (.aload_n 0, 1) := by decide +kernel
theorem dX2_loseShapesInside_13 : decode cX2_loseShapesInside 13 = .ok (.getfield 13, 3) := by decide +kernel
theorem dX2_loseShapesInside_16 : decode cX2_loseShapesInside 16 = .ok (.iload_n 3, 1) := by decide +kernel
theorem dX2_loseShapesInside_17 : decode cX2_loseShapesInside 17 = .ok (.aaload, 1) := by decide +kernel
theorem dX2_loseShapesInside_18 : decode cX2_loseShapesInside 18 = .ok (.astore 4, 2) := by decide +kernel
theorem dX2_loseShapesInside_20 : decode cX2_loseShapesInside 20 = .ok (.aload 4, 2) := by decide +kernel
theorem dX2_loseShapesInside_22 : decode cX2_loseShapesInside 22 = .ok (.getfield 66, 3) := by decide +kernel
theorem dX2_loseShapesInside_25 : decode cX2_loseShapesInside 25 = .ok (.ifCond .ne 21, 3) := by decide +kernel
theorem dX2_loseShapesInside_28 : decode cX2_loseShapesInside 28 = .ok (.aload 4, 2) := by decide +kernel
theorem dX2_loseShapesInside_30 : decode cX2_loseShapesInside 30 = .ok (.aload_n 1, 1) := by decide +kernel
theorem dX2_loseShapesInside_31 : decode cX2_loseShapesInside 31 = .ok (.invokevirtual 63, 3) := by decide +kernel
theorem dX2_loseShapesInside_34 : decode cX2_loseShapesInside 34 = .ok (.ifCond .eq 12, 3) := by decide +kernel
theorem dX2_loseShapesInside_37 : decode cX2_loseShapesInside 37 = .ok (.aload 4, 2) := by decide +kernel
theorem dX2_loseShapesInside_39 : decode cX2_loseShapesInside 39 = .ok (.iconst 2, 1) := by decide +kernel
theorem dX2_loseShapesInside_40 : decode cX2_loseShapesInside 40 = .ok (.putfield 66, 3) := by decide +kernel
theorem dX2_loseShapesInside_43 : decode cX2_loseShapesInside 43 = .ok (.iinc 2 1, 3) := by decide +kernel
theorem dX2_loseShapesInside_46 : decode cX2_loseShapesInside 46 = .ok (.iinc 3 1, 3) := by decide +kernel
theorem dX2_loseShapesInside_49 : decode cX2_loseShapesInside 49 = .ok (.goto (-45), 3) := by decide +kernel
theorem dX2_loseShapesInside_52 : decode cX2_loseShapesInside 52 = .ok (.iload_n 2, 1) := by decide +kernel
theorem dX2_loseShapesInside_53 : decode cX2_loseShapesInside 53 = .ok (.ireturn, 1) := by decide +kernel
theorem dX2_waitFor_0 : decode cX2_waitFor 0 = .ok (.iload_n 1, 1) := by decide +kernel
theorem dX2_waitFor_1 : decode cX2_waitFor 1 = .ok (.iconst 1, 1) := by decide +kernel
theorem dX2_waitFor_2 : decode cX2_waitFor 2 = .ok (.sipush 999, 3) := by decide +kernel
theorem dX2_waitFor_5 : decode cX2_waitFor 5 = .ok (.invokestatic 51, 3) := by decide +kernel
theorem dX2_waitFor_8 : decode cX2_waitFor 8 = .ok (.ifCond .ne 6, 3) := by decide +kernel
theorem dX2_waitFor_11 : decode cX2_waitFor 11 = .ok (.bipush (-2), 2) := by decide +kernel
theorem dX2_waitFor_13 : decode cX2_waitFor 13 = .ok (.ireturn, 1) := by decide +kernel
theorem dX2_waitFor_14 : decode cX2_waitFor 14 = .ok (.aload_n 0, 1) := by decide +kernel
theorem dX2_waitFor_15 : decode cX2_waitFor 15 = .ok (.iload_n 1, 1) := by decide +kernel
theorem dX2_waitFor_16 : decode cX2_waitFor 16 = .ok (.invokevirtual 93, 3) := by decide +kernel
theorem dX2_waitFor_19 : decode cX2_waitFor 19 = .ok (.aload_n 0, 1) := by decide +kernel
theorem dX2_waitFor_20 : decode cX2_waitFor 20 = .ok (.invokevirtual 116, 3) := by decide +kernel
theorem dX2_waitFor_23 : decode cX2_waitFor 23 = .ok (.ireturn, 1) := by decide +kernel
theorem dX2_cleanLens_0 : decode cX2_cleanLens 0 = .ok (.aload_n 0, 1) := by decide +kernel
theorem dX2_cleanLens_1 : decode cX2_cleanLens 1 = .ok (.getfield 35, 3) := by decide +kernel
theorem dX2_cleanLens_4 : decode cX2_cleanLens 4 = .ok (.ifCond .ne 6, 3) := by decide +kernel
theorem dX2_cleanLens_7 : decode cX2_cleanLens 7 = .ok (.bipush (-5), 2) := by decide +kernel
theorem dX2_cleanLens_9 : decode cX2_cleanLens 9 = .ok (.ireturn, 1) := by decide +kernel
theorem dX2_cleanLens_10 : decode cX2_cleanLens 10 = .ok (.aload_n 0, 1) := by decide +kernel
theorem dX2_cleanLens_11 : decode cX2_cleanLens 11 = .ok (.getfield 35, 3) := by decide +kernel
theorem dX2_cleanLens_14 : decode cX2_cleanLens 14 = .ok (.istore_n 1, 1) := by decide +kernel
theorem dX2_cleanLens_15 : decode cX2_cleanLens 15 = .ok (.aload_n 0, 1) := by decide +kernel
theorem dX2_cleanLens_16 : decode cX2_cleanLens 16 = .ok (.aload_n 0, 1) := by decide +kernel
theorem dX2_cleanLens_17 : decode cX2_cleanLens 17 = .ok (.getfield 22, 3) := by decide +kernel
theorem dX2_cleanLens_20 : decode cX2_cleanLens 20 = .ok (.iconst 0, 1) := by decide +kernel
theorem dX2_cleanLens_21 : decode cX2_cleanLens 21 = .ok (.iaload, 1) := by decide +kernel
theorem dX2_cleanLens_22 : decode cX2_cleanLens 22 = .ok (.invokevirtual 93, 3) := by decide +kernel
theorem dX2_cleanLens_25 : decode cX2_cleanLens 25 = .ok (.aload_n 0, 1) := by decide +kernel
theorem dX2_cleanLens_26 : decode cX2_cleanLens 26 = .ok (.iconst 0, 1) := by decide +kernel
theorem dX2_cleanLens_27 : decode cX2_cleanLens 27 = .ok (.putfield 35, 3) := by decide +kernel
theorem dX2_cleanLens_30 : decode cX2_cleanLens 30 = .ok (.iload_n 1, 1) := by decide +kernel
theorem dX2_cleanLens_31 : decode cX2_cleanLens 31 = .ok (.ireturn, 1) := by decide +kernel
theorem dX2_coolFor_0 : decode cX2_coolFor 0 = .ok (.aload_n 0, 1) := by decide +kernel
theorem dX2_coolFor_1 : decode cX2_coolFor 1 = .ok (.dup, 1) := by decide +kernel
theorem dX2_coolFor_2 : decode cX2_coolFor 2 = .ok (.getfield 38, 3) := by decide +kernel
theorem dX2_coolFor_5 : decode cX2_coolFor 5 = .ok (.iload_n 1, 1) := by decide +kernel
theorem dX2_coolFor_6 : decode cX2_coolFor 6 = .ok (.iadd, 1) := by decide +kernel
theorem dX2_coolFor_7 : decode cX2_coolFor 7 = .ok (.putfield 38, 3) := by decide +kernel
theorem dX2_coolFor_10 : decode cX2_coolFor 10 = .ok (.iconst 0, 1) := by decide +kernel
theorem dX2_coolFor_11 : decode cX2_coolFor 11 = .ok (.istore_n 2, 1) := by decide +kernel
theorem dX2_coolFor_12 : decode cX2_coolFor 12 = .ok (.iload_n 2, 1) := by decide +kernel
theorem dX2_coolFor_13 : decode cX2_coolFor 13 = .ok (.bipush 12, 2) := by decide +kernel
theorem dX2_coolFor_15 : decode cX2_coolFor 15 = .ok (.if_icmp .ge 34, 3) := by decide +kernel
theorem dX2_coolFor_18 : decode cX2_coolFor 18 = .ok (.aload_n 0, 1) := by decide +kernel
theorem dX2_coolFor_19 : decode cX2_coolFor 19 = .ok (.getfield 18, 3) := by decide +kernel
theorem dX2_coolFor_22 : decode cX2_coolFor 22 = .ok (.iload_n 2, 1) := by decide +kernel
theorem dX2_coolFor_23 : decode cX2_coolFor 23 = .ok (.aload_n 0, 1) := by decide +kernel
theorem dX2_coolFor_24 : decode cX2_coolFor 24 = .ok (.getfield 18, 3) := by decide +kernel
theorem dX2_coolFor_27 : decode cX2_coolFor 27 = .ok (.iload_n 2, 1) := by decide +kernel
theorem dX2_coolFor_28 : decode cX2_coolFor 28 = .ok (.iaload, 1) := by decide +kernel
theorem dX2_coolFor_29 : decode cX2_coolFor 29 = .ok (.iload_n 1, 1) := by decide +kernel
theorem dX2_coolFor_30 : decode cX2_coolFor 30 = .ok (.aload_n 0, 1) := by decide +kernel
theorem dX2_coolFor_31 : decode cX2_coolFor 31 = .ok (.getfield 22, 3) := by decide +kernel
theorem dX2_coolFor_34 : decode cX2_coolFor 34 = .ok (.iconst 1, 1) := by decide +kernel
theorem dX2_coolFor_35 : decode cX2_coolFor 35 = .ok (.iaload, 1) := by decide +kernel
theorem dX2_coolFor_36 : decode cX2_coolFor 36 = .ok (.imul, 1) := by decide +kernel
theorem dX2_coolFor_37 : decode cX2_coolFor 37 = .ok (.isub, 1) := by decide +kernel
theorem dX2_coolFor_38 : decode cX2_coolFor 38 = .ok (.iconst 0, 1) := by decide +kernel
theorem dX2_coolFor_39 : decode cX2_coolFor 39 = .ok (.invokestatic 131, 3) := by decide +kernel
theorem dX2_coolFor_42 : decode cX2_coolFor 42 = .ok (.iastore, 1) := by decide +kernel
theorem dX2_coolFor_43 : decode cX2_coolFor 43 = .ok (.iinc 2 1, 3) := by decide +kernel
theorem dX2_coolFor_46 : decode cX2_coolFor 46 = .ok (.goto (-34), 3) := by decide +kernel
theorem dX2_coolFor_49 : decode cX2_coolFor 49 = .ok (.return_, 1) := by decide +kernel
theorem dX2_wayTo_0 : decode cX2_wayTo 0 = .ok (.aload_n 1, 1) := by decide +kernel
theorem dX2_wayTo_1 : decode cX2_wayTo 1 = .ok (.invokevirtual 97, 3) := by decide +kernel
theorem dX2_wayTo_4 : decode cX2_wayTo 4 = .ok (.aload_n 0, 1) := by decide +kernel
theorem dX2_wayTo_5 : decode cX2_wayTo 5 = .ok (.getfield 29, 3) := by decide +kernel
theorem dX2_wayTo_8 : decode cX2_wayTo 8 = .ok (.isub, 1) := by decide +kernel
theorem dX2_wayTo_9 : decode cX2_wayTo 9 = .ok (.invokestatic 137, 3) := by decide +kernel
theorem dX2_wayTo_12 : decode cX2_wayTo 12 = .ok (.aload_n 1, 1) := by decide +kernel
theorem dX2_wayTo_13 : decode cX2_wayTo 13 = .ok (.invokevirtual 101, 3) := by decide +kernel
theorem dX2_wayTo_16 : decode cX2_wayTo 16 = .ok (.aload_n 0, 1) := by decide +kernel
theorem dX2_wayTo_17 : decode cX2_wayTo 17 = .ok (.getfield 32, 3) := by decide +kernel
theorem dX2_wayTo_20 : decode cX2_wayTo 20 = .ok (.isub, 1) := by decide +kernel
theorem dX2_wayTo_21 : decode cX2_wayTo 21 = .ok (.invokestatic 137, 3) := by decide +kernel
theorem dX2_wayTo_24 : decode cX2_wayTo 24 = .ok (.iadd, 1) := by decide +kernel
theorem dX2_wayTo_25 : decode cX2_wayTo 25 = .ok (.ireturn, 1) := by decide +kernel
theorem dX2_burningOf_0 : decode cX2_burningOf 0 = .ok (.aload_n 1, 1) := by decide +kernel
theorem dX2_burningOf_1 : decode cX2_burningOf 1 = .ok (.invokevirtual 140, 3) := by decide +kernel
theorem dX2_burningOf_4 : decode cX2_burningOf 4 = .ok (.iconst 2, 1) := by decide +kernel
theorem dX2_burningOf_5 : decode cX2_burningOf 5 = .ok (.aload_n 0, 1) := by decide +kernel
theorem dX2_burningOf_6 : decode cX2_burningOf 6 = .ok (.getfield 35, 3) := by decide +kernel
theorem dX2_burningOf_9 : decode cX2_burningOf 9 = .ok (.iconst 4, 1) := by decide +kernel
theorem dX2_burningOf_10 : decode cX2_burningOf 10 = .ok (.idiv, 1) := by decide +kernel
theorem dX2_burningOf_11 : decode cX2_burningOf 11 = .ok (.iadd, 1) := by decide +kernel
theorem dX2_burningOf_12 : decode cX2_burningOf 12 = .ok (.imul, 1) := by decide +kernel
theorem dX2_burningOf_13 : decode cX2_burningOf 13 = .ok (.ireturn, 1) := by decide +kernel
theorem dX2_reasonAgainst_0 : decode cX2_reasonAgainst 0 = .ok (.aload_n 0, 1) := by decide +kernel
theorem dX2_reasonAgainst_1 : decode cX2_reasonAgainst 1 = .ok (.getfield 13, 3) := by decide +kernel
theorem dX2_reasonAgainst_4 : decode cX2_reasonAgainst 4 = .ok (.iload_n 1, 1) := by decide +kernel
theorem dX2_reasonAgainst_5 : decode cX2_reasonAgainst 5 = .ok (.aaload, 1) := by decide +kernel
theorem dX2_reasonAgainst_6 : decode cX2_reasonAgainst 6 = .ok (.astore_n 2, 1) := by decide +kernel
theorem dX2_reasonAgainst_7 : decode cX2_reasonAgainst 7 = .ok (.aload_n 2, 1) := by decide +kernel
theorem dX2_reasonAgainst_8 : decode cX2_reasonAgainst 8 = .ok (.getfield 66, 3) := by decide +kernel
theorem dX2_reasonAgainst_11 : decode cX2_reasonAgainst 11 = .ok (.iconst 1, 1) := by decide +kernel
theorem dX2_reasonAgainst_12 : decode cX2_reasonAgainst 12 = .ok (.if_icmp .ne 5, 3) := by decide +kernel
theorem dX2_reasonAgainst_15 : decode cX2_reasonAgainst 15 = .ok (.iconst 1, 1) := by decide +kernel
theorem dX2_reasonAgainst_16 : decode cX2_reasonAgainst 16 = .ok (.ireturn, 1) := by decide +kernel
theorem dX2_reasonAgainst_17 : decode cX2_reasonAgainst 17 = .ok (.aload_n 2, 1) := by decide +kernel
theorem dX2_reasonAgainst_18 : decode cX2_reasonAgainst 18 = .ok (.getfield 66, 3) := by decide +kernel
theorem dX2_reasonAgainst_21 : decode cX2_reasonAgainst 21 = .ok (.iconst 2, 1) := by decide +kernel
theorem dX2_reasonAgainst_22 : decode cX2_reasonAgainst 22 = .ok (.if_icmp .ne 5, 3) := by decide +kernel
theorem dX2_reasonAgainst_25 : decode cX2_reasonAgainst 25 = .ok (.iconst 2, 1) := by decide +kernel
theorem dX2_reasonAgainst_26 : decode cX2_reasonAgainst 26 = .ok (.ireturn, 1) := by decide +kernel
theorem dX2_reasonAgainst_27 : decode cX2_reasonAgainst 27 = .ok (.aload_n 0, 1) := by decide +kernel
theorem dX2_reasonAgainst_28 : decode cX2_reasonAgainst 28 = .ok (.getfield 22, 3) := by decide +kernel
theorem dX2_reasonAgainst_31 : decode cX2_reasonAgainst 31 = .ok (.iconst 3, 1) := by decide +kernel
theorem dX2_reasonAgainst_32 : decode cX2_reasonAgainst 32 = .ok (.iaload, 1) := by decide +kernel
theorem dX2_reasonAgainst_33 : decode cX2_reasonAgainst 33 = .ok (.iconst 1, 1) := by decide +kernel
theorem dX2_reasonAgainst_34 : decode cX2_reasonAgainst 34 = .ok (.if_icmp .ne 13, 3) := by decide +kernel
theorem dX2_reasonAgainst_37 : decode cX2_reasonAgainst 37 = .ok (.aload_n 0, 1) := by decide +kernel
theorem dX2_reasonAgainst_38 : decode cX2_reasonAgainst 38 = .ok (.aload_n 2, 1) := by decide +kernel
theorem dX2_reasonAgainst_39 : decode cX2_reasonAgainst 39 = .ok (.invokevirtual 143, 3) := by decide +kernel
theorem dX2_reasonAgainst_42 : decode cX2_reasonAgainst 42 = .ok (.ifCond .eq 5, 3) := by decide +kernel
theorem dX2_reasonAgainst_45 : decode cX2_reasonAgainst 45 = .ok (.iconst 3, 1) := by decide +kernel
theorem dX2_reasonAgainst_46 : decode cX2_reasonAgainst 46 = .ok (.ireturn, 1) := by decide +kernel
theorem dX2_reasonAgainst_47 : decode cX2_reasonAgainst 47 = .ok (.aload_n 0, 1) := by decide +kernel
theorem dX2_reasonAgainst_48 : decode cX2_reasonAgainst 48 = .ok (.aload_n 2, 1) := by decide +kernel
theorem dX2_reasonAgainst_49 : decode cX2_reasonAgainst 49 = .ok (.invokevirtual 146, 3) := by decide +kernel
theorem dX2_reasonAgainst_52 : decode cX2_reasonAgainst 52 = .ok (.aload_n 0, 1) := by decide +kernel
theorem dX2_reasonAgainst_53 : decode cX2_reasonAgainst 53 = .ok (.aload_n 2, 1) := by decide +kernel
theorem dX2_reasonAgainst_54 : decode cX2_reasonAgainst 54 = .ok (.invokevirtual 89, 3) := by decide +kernel
theorem dX2_reasonAgainst_57 : decode cX2_reasonAgainst 57 = .ok (.aload_n 0, 1) := by decide +kernel
theorem dX2_reasonAgainst_58 : decode cX2_reasonAgainst 58 = .ok (.getfield 22, 3) := by decide +kernel
theorem dX2_reasonAgainst_61 : decode cX2_reasonAgainst 61 = .ok (.iconst 1, 1) := by decide +kernel
theorem dX2_reasonAgainst_62 : decode cX2_reasonAgainst 62 = .ok (.iaload, 1) := by decide +kernel
theorem dX2_reasonAgainst_63 : decode cX2_reasonAgainst 63 = .ok (.imul, 1) := by decide +kernel
theorem dX2_reasonAgainst_64 : decode cX2_reasonAgainst 64 = .ok (.if_icmp .le 7, 3) := by decide +kernel
theorem dX2_reasonAgainst_67 : decode cX2_reasonAgainst 67 = .ok (.iconst 4, 1) := by decide +kernel
theorem dX2_reasonAgainst_68 : decode cX2_reasonAgainst 68 = .ok (.goto 4, 3) := by decide +kernel
theorem dX2_reasonAgainst_71 : decode cX2_reasonAgainst 71 = .ok (.iconst 0, 1) := by decide +kernel
theorem dX2_reasonAgainst_72 : decode cX2_reasonAgainst 72 = .ok (.ireturn, 1) := by decide +kernel
theorem dX2_holdsWholeShape_0 : decode cX2_holdsWholeShape 0 = .ok (.iconst 0, 1) := by decide +kernel
theorem dX2_holdsWholeShape_1 : decode cX2_holdsWholeShape 1 = .ok (.istore_n 2, 1) := by decide +kernel
theorem dX2_holdsWholeShape_2 : decode cX2_holdsWholeShape 2 = .ok (.iload_n 2, 1) := by decide +kernel
theorem dX2_holdsWholeShape_3 : decode cX2_holdsWholeShape 3 = .ok (.aload_n 0, 1) := by decide +kernel
theorem dX2_holdsWholeShape_4 : decode cX2_holdsWholeShape 4 = .ok (.getfield 25, 3) := by decide +kernel
theorem dX2_holdsWholeShape_7 : decode cX2_holdsWholeShape 7 = .ok (.if_icmp .ge 36, 3) := by decide +kernel
theorem dX2_holdsWholeShape_10 : decode cX2_holdsWholeShape 10 = .ok (.aload_n 0, 1) := by decide +kernel
theorem dX2_holdsWholeShape_11 : decode cX2_holdsWholeShape 11 = .ok (.getfield 13, 3) := by decide +kernel
theorem dX2_holdsWholeShape_14 : decode cX2_holdsWholeShape 14 = .ok (.iload_n 2, 1) := by decide +kernel
theorem dX2_holdsWholeShape_15 : decode cX2_holdsWholeShape 15 = .ok (.aaload, 1) := by decide +kernel
theorem dX2_holdsWholeShape_16 : decode cX2_holdsWholeShape 16 = .ok (.getfield 66, 3) := by decide +kernel
theorem dX2_holdsWholeShape_19 : decode cX2_holdsWholeShape 19 = .ok (.ifCond .ne 18, 3) := by decide +kernel
theorem dX2_holdsWholeShape_22 : decode cX2_holdsWholeShape 22 = .ok (.aload_n 0, 1) := by decide +kernel
theorem dX2_holdsWholeShape_23 : decode cX2_holdsWholeShape 23 = .ok (.getfield 13, 3) := by decide +kernel
theorem dX2_holdsWholeShape_26 : decode cX2_holdsWholeShape 26 = .ok (.iload_n 2, 1) := by decide +kernel
theorem dX2_holdsWholeShape_27 : decode cX2_holdsWholeShape 27 = .ok (.aaload, 1) := by decide +kernel
theorem dX2_holdsWholeShape_28 : decode cX2_holdsWholeShape 28 = .ok (.aload_n 1, 1) := by decide +kernel
theorem dX2_holdsWholeShape_29 : decode cX2_holdsWholeShape 29 = .ok (.invokevirtual 63, 3) := by decide +kernel
theorem dX2_holdsWholeShape_32 : decode cX2_holdsWholeShape 32 = .ok (.ifCond .eq 5, 3) := by decide +kernel
theorem dX2_holdsWholeShape_35 : decode cX2_holdsWholeShape 35 = .ok (.iconst 1, 1) := by decide +kernel
theorem dX2_holdsWholeShape_36 : decode cX2_holdsWholeShape 36 = .ok (.ireturn, 1) := by decide +kernel
theorem dX2_holdsWholeShape_37 : decode cX2_holdsWholeShape 37 = .ok (.iinc 2 1, 3) := by decide +kernel
theorem dX2_holdsWholeShape_40 : decode cX2_holdsWholeShape 40 = .ok (.goto (-38), 3) := by decide +kernel
theorem dX2_holdsWholeShape_43 : decode cX2_holdsWholeShape 43 = .ok (.iconst 0, 1) := by decide +kernel
theorem dX2_holdsWholeShape_44 : decode cX2_holdsWholeShape 44 = .ok (.ireturn, 1) := by decide +kernel
theorem dX2_heatOver_0 : decode cX2_heatOver 0 = .ok (.iconst 0, 1) := by decide +kernel
theorem dX2_heatOver_1 : decode cX2_heatOver 1 = .ok (.istore_n 2, 1) := by decide +kernel
theorem dX2_heatOver_2 : decode cX2_heatOver 2 = .ok (.iconst 0, 1) := by decide +kernel
theorem dX2_heatOver_3 : decode cX2_heatOver 3 = .ok (.istore_n 3, 1) := by decide +kernel
theorem dX2_heatOver_4 : decode cX2_heatOver 4 = .ok (.iload_n 3, 1) := by decide +kernel
theorem dX2_heatOver_5 : decode cX2_heatOver 5 = .ok (.bipush 12, 2) := by decide +kernel
theorem dX2_heatOver_7 : decode cX2_heatOver 7 = .ok (.if_icmp .ge 29, 3) := by decide +kernel
theorem dX2_heatOver_10 : decode cX2_heatOver 10 = .ok (.aload_n 1, 1) := by decide +kernel
theorem dX2_heatOver_11 : decode cX2_heatOver 11 = .ok (.getfield 128, 3) := by decide +kernel
theorem dX2_heatOver_14 : decode cX2_heatOver 14 = .ok (.iload_n 3, 1) := by decide +kernel
theorem dX2_heatOver_15 : decode cX2_heatOver 15 = .ok (.iaload, 1) := by decide +kernel
theorem dX2_heatOver_16 : decode cX2_heatOver 16 = .ok (.ifCond .le 14, 3) := by decide +kernel
theorem dX2_heatOver_19 : decode cX2_heatOver 19 = .ok (.iload_n 2, 1) := by decide +kernel
theorem dX2_heatOver_20 : decode cX2_heatOver 20 = .ok (.aload_n 0, 1) := by decide +kernel
theorem dX2_heatOver_21 : decode cX2_heatOver 21 = .ok (.getfield 18, 3) := by decide +kernel
theorem dX2_heatOver_24 : decode cX2_heatOver 24 = .ok (.iload_n 3, 1) := by decide +kernel
theorem dX2_heatOver_25 : decode cX2_heatOver 25 = .ok (.iaload, 1) := by decide +kernel
theorem dX2_heatOver_26 : decode cX2_heatOver 26 = .ok (.invokestatic 131, 3) := by decide +kernel
theorem dX2_heatOver_29 : decode cX2_heatOver 29 = .ok (.istore_n 2, 1) := by decide +kernel
theorem dX2_heatOver_30 : decode cX2_heatOver 30 = .ok (.iinc 3 1, 3) := by decide +kernel
theorem dX2_heatOver_33 : decode cX2_heatOver 33 = .ok (.goto (-29), 3) := by decide +kernel
theorem dX2_heatOver_36 : decode cX2_heatOver 36 = .ok (.iload_n 2, 1) := by decide +kernel
theorem dX2_heatOver_37 : decode cX2_heatOver 37 = .ok (.aload_n 0, 1) := by decide +kernel
theorem dX2_heatOver_38 : decode cX2_heatOver 38 = .ok (.getfield 22, 3) := by decide +kernel
theorem dX2_heatOver_41 : decode cX2_heatOver 41 = .ok (.iconst 2, 1) := by decide +kernel
theorem dX2_heatOver_42 : decode cX2_heatOver 42 = .ok (.iaload, 1) := by decide +kernel
theorem dX2_heatOver_43 : decode cX2_heatOver 43 = .ok (.isub, 1) := by decide +kernel
theorem dX2_heatOver_44 : decode cX2_heatOver 44 = .ok (.ireturn, 1) := by decide +kernel
theorem dX2_ticksToCut_0 : decode cX2_ticksToCut 0 = .ok (.aload_n 0, 1) := by decide +kernel
theorem dX2_ticksToCut_1 : decode cX2_ticksToCut 1 = .ok (.iload_n 1, 1) := by decide +kernel
theorem dX2_ticksToCut_2 : decode cX2_ticksToCut 2 = .ok (.invokevirtual 72, 3) := by decide +kernel
theorem dX2_ticksToCut_5 : decode cX2_ticksToCut 5 = .ok (.ifCond .ne 5, 3) := by decide +kernel
theorem dX2_ticksToCut_8 : decode cX2_ticksToCut 8 = .ok (.iconst (-1), 1) := by decide +kernel
theorem dX2_ticksToCut_9 : decode cX2_ticksToCut 9 = .ok (.ireturn, 1) := by decide +kernel
theorem dX2_ticksToCut_10 : decode cX2_ticksToCut 10 = .ok (.aload_n 0, 1) := by decide +kernel
theorem dX2_ticksToCut_11 : decode cX2_ticksToCut 11 = .ok (.getfield 13, 3) := by decide +kernel
theorem dX2_ticksToCut_14 : decode cX2_ticksToCut 14 = .ok (.iload_n 1, 1) := by decide +kernel
theorem dX2_ticksToCut_15 : decode cX2_ticksToCut 15 = .ok (.aaload, 1) := by decide +kernel
theorem dX2_ticksToCut_16 : decode cX2_ticksToCut 16 = .ok (.astore_n 2, 1) := by decide +kernel
theorem dX2_ticksToCut_17 : decode cX2_ticksToCut 17 = .ok (.aload_n 2, 1) := by decide +kernel
theorem dX2_ticksToCut_18 : decode cX2_ticksToCut 18 = .ok (.getfield 66, 3) := by decide +kernel
theorem dX2_ticksToCut_21 : decode cX2_ticksToCut 21 = .ok (.ifCond .ne 17, 3) := by decide +kernel
theorem dX2_ticksToCut_24 : decode cX2_ticksToCut 24 = .ok (.aload_n 0, 1) := by decide +kernel
theorem dX2_ticksToCut_25 : decode cX2_ticksToCut 25 = .ok (.aload_n 2, 1) := by decide +kernel
theorem dX2_ticksToCut_26 : decode cX2_ticksToCut 26 = .ok (.invokevirtual 89, 3) := by decide +kernel
theorem dX2_ticksToCut_29 : decode cX2_ticksToCut 29 = .ok (.aload_n 0, 1) := by decide +kernel
theorem dX2_ticksToCut_30 : decode cX2_ticksToCut 30 = .ok (.aload_n 2, 1) := by decide +kernel
theorem dX2_ticksToCut_31 : decode cX2_ticksToCut 31 = .ok (.invokevirtual 125, 3) := by decide +kernel
theorem dX2_ticksToCut_34 : decode cX2_ticksToCut 34 = .ok (.iadd, 1) := by decide +kernel
theorem dX2_ticksToCut_35 : decode cX2_ticksToCut 35 = .ok (.goto 5, 3) := by decide +kernel
theorem dX2_ticksToCut_38 : decode cX2_ticksToCut 38 = .ok (.bipush (-4), 2) := by decide +kernel
theorem dX2_ticksToCut_40 : decode cX2_ticksToCut 40 = .ok (.ireturn, 1) := by decide +kernel
theorem dX2_ticksToCool_0 : decode cX2_ticksToCool 0 = .ok (.aload_n 0, 1) := by decide +kernel
theorem dX2_ticksToCool_1 : decode cX2_ticksToCool 1 = .ok (.iload_n 1, 1) := by decide +kernel
theorem dX2_ticksToCool_2 : decode cX2_ticksToCool 2 = .ok (.invokevirtual 72, 3) := by decide +kernel
theorem dX2_ticksToCool_5 : decode cX2_ticksToCool 5 = .ok (.ifCond .ne 5, 3) := by decide +kernel
theorem dX2_ticksToCool_8 : decode cX2_ticksToCool 8 = .ok (.iconst (-1), 1) := by decide +kernel
theorem dX2_ticksToCool_9 : decode cX2_ticksToCool 9 = .ok (.ireturn, 1) := by decide +kernel
theorem dX2_ticksToCool_10 : decode cX2_ticksToCool 10 = .ok (.aload_n 0, 1) := by decide +kernel
theorem dX2_ticksToCool_11 : decode cX2_ticksToCool 11 = .ok (.iload_n 1, 1) := by decide +kernel
theorem dX2_ticksToCool_12 : decode cX2_ticksToCool 12 = .ok (.invokevirtual 85, 3) := by decide +kernel
theorem dX2_ticksToCool_15 : decode cX2_ticksToCool 15 = .ok (.istore_n 2, 1) := by decide +kernel
theorem dX2_ticksToCool_16 : decode cX2_ticksToCool 16 = .ok (.iload_n 2, 1) := by decide +kernel
theorem dX2_ticksToCool_17 : decode cX2_ticksToCool 17 = .ok (.ifCond .ne 5, 3) := by decide +kernel
theorem dX2_ticksToCool_20 : decode cX2_ticksToCool 20 = .ok (.iconst 0, 1) := by decide +kernel
theorem dX2_ticksToCool_21 : decode cX2_ticksToCool 21 = .ok (.ireturn, 1) := by decide +kernel
theorem dX2_ticksToCool_22 : decode cX2_ticksToCool 22 = .ok (.iload_n 2, 1) := by decide +kernel
theorem dX2_ticksToCool_23 : decode cX2_ticksToCool 23 = .ok (.iconst 4, 1) := by decide +kernel
theorem dX2_ticksToCool_24 : decode cX2_ticksToCool 24 = .ok (.if_icmp .eq 6, 3) := by decide +kernel
theorem dX2_ticksToCool_27 : decode cX2_ticksToCool 27 = .ok (.bipush (-4), 2) := by decide +kernel
theorem dX2_ticksToCool_29 : decode cX2_ticksToCool 29 = .ok (.ireturn, 1) := by decide +kernel
theorem dX2_ticksToCool_30 : decode cX2_ticksToCool 30 = .ok (.aload_n 0, 1) := by decide +kernel
theorem dX2_ticksToCool_31 : decode cX2_ticksToCool 31 = .ok (.getfield 22, 3) := by decide +kernel
theorem dX2_ticksToCool_34 : decode cX2_ticksToCool 34 = .ok (.iconst 1, 1) := by decide +kernel
theorem dX2_ticksToCool_35 : decode cX2_ticksToCool 35 = .ok (.iaload, 1) := by decide +kernel
theorem dX2_ticksToCool_36 : decode cX2_ticksToCool 36 = .ok (.istore_n 3, 1) := by decide +kernel
theorem dX2_ticksToCool_37 : decode cX2_ticksToCool 37 = .ok (.iload_n 3, 1) := by decide +kernel
theorem dX2_ticksToCool_38 : decode cX2_ticksToCool 38 = .ok (.ifCond .gt 6, 3) := by decide +kernel
theorem dX2_ticksToCool_41 : decode cX2_ticksToCool 41 = .ok (.bipush (-5), 2) := by decide +kernel
theorem dX2_ticksToCool_43 : decode cX2_ticksToCool 43 = .ok (.ireturn, 1) := by decide +kernel
theorem dX2_ticksToCool_44 : decode cX2_ticksToCool 44 = .ok (.aload_n 0, 1) := by decide +kernel
theorem dX2_ticksToCool_45 : decode cX2_ticksToCool 45 = .ok (.getfield 13, 3) := by decide +kernel
theorem dX2_ticksToCool_48 : decode cX2_ticksToCool 48 = .ok (.iload_n 1, 1) := by decide +kernel
theorem dX2_ticksToCool_49 : decode cX2_ticksToCool 49 = .ok (.aaload, 1) := by decide +kernel
theorem dX2_ticksToCool_50 : decode cX2_ticksToCool 50 = .ok (.astore 4, 2) := by decide +kernel
theorem dX2_ticksToCool_52 : decode cX2_ticksToCool 52 = .ok (.aload_n 0, 1) := by decide +kernel
theorem dX2_ticksToCool_53 : decode cX2_ticksToCool 53 = .ok (.aload 4, 2) := by decide +kernel
theorem dX2_ticksToCool_55 : decode cX2_ticksToCool 55 = .ok (.invokevirtual 146, 3) := by decide +kernel
theorem dX2_ticksToCool_58 : decode cX2_ticksToCool 58 = .ok (.iload_n 3, 1) := by decide +kernel
theorem dX2_ticksToCool_59 : decode cX2_ticksToCool 59 = .ok (.iadd, 1) := by decide +kernel
theorem dX2_ticksToCool_60 : decode cX2_ticksToCool 60 = .ok (.iconst 1, 1) := by decide +kernel
theorem dX2_ticksToCool_61 : decode cX2_ticksToCool 61 = .ok (.isub, 1) := by decide +kernel
theorem dX2_ticksToCool_62 : decode cX2_ticksToCool 62 = .ok (.iload_n 3, 1) := by decide +kernel
theorem dX2_ticksToCool_63 : decode cX2_ticksToCool 63 = .ok (.idiv, 1) := by decide +kernel
theorem dX2_ticksToCool_64 : decode cX2_ticksToCool 64 = .ok (.aload_n 0, 1) := by decide +kernel
theorem dX2_ticksToCool_65 : decode cX2_ticksToCool 65 = .ok (.aload 4, 2) := by decide +kernel
theorem dX2_ticksToCool_67 : decode cX2_ticksToCool 67 = .ok (.invokevirtual 89, 3) := by decide +kernel
theorem dX2_ticksToCool_70 : decode cX2_ticksToCool 70 = .ok (.isub, 1) := by decide +kernel
theorem dX2_ticksToCool_71 : decode cX2_ticksToCool 71 = .ok (.ireturn, 1) := by decide +kernel
theorem dX2_bestShape_0 : decode cX2_bestShape 0 = .ok (.bipush (-5), 2) := by decide +kernel
theorem dX2_bestShape_2 : decode cX2_bestShape 2 = .ok (.istore_n 1, 1) := by decide +kernel
theorem dX2_bestShape_3 : decode cX2_bestShape 3 = .ok (.iconst 0, 1) := by decide +kernel
theorem dX2_bestShape_4 : decode cX2_bestShape 4 = .ok (.istore_n 2, 1) := by decide +kernel
theorem dX2_bestShape_5 : decode cX2_bestShape 5 = .ok (.iconst 0, 1) := by decide +kernel
theorem dX2_bestShape_6 : decode cX2_bestShape 6 = .ok (.istore_n 3, 1) := by decide +kernel
theorem dX2_bestShape_7 : decode cX2_bestShape 7 = .ok (.iload_n 3, 1) := by decide +kernel
theorem dX2_bestShape_8 : decode cX2_bestShape 8 = .ok (.aload_n 0, 1) := by decide +kernel
theorem dX2_bestShape_9 : decode cX2_bestShape 9 = .ok (.getfield 25, 3) := by decide +kernel
theorem dX2_bestShape_12 : decode cX2_bestShape 12 = .ok (.if_icmp .ge 41, 3) := by decide +kernel
theorem dX2_bestShape_15 : decode cX2_bestShape 15 = .ok (.aload_n 0, 1) := by decide +kernel
theorem dX2_bestShape_16 : decode cX2_bestShape 16 = .ok (.iload_n 3, 1) := by decide +kernel
theorem dX2_bestShape_17 : decode cX2_bestShape 17 = .ok (.invokevirtual 85, 3) := by decide +kernel
theorem dX2_bestShape_20 : decode cX2_bestShape 20 = .ok (.ifCond .ne 27, 3) := by decide +kernel
theorem dX2_bestShape_23 : decode cX2_bestShape 23 = .ok (.aload_n 0, 1) := by decide +kernel
theorem dX2_bestShape_24 : decode cX2_bestShape 24 = .ok (.iload_n 3, 1) := by decide +kernel
theorem dX2_bestShape_25 : decode cX2_bestShape 25 = .ok (.invokevirtual 149, 3) := by decide +kernel
theorem dX2_bestShape_28 : decode cX2_bestShape 28 = .ok (.istore 4, 2) := by decide +kernel
theorem dX2_bestShape_30 : decode cX2_bestShape 30 = .ok (.iload_n 1, 1) := by decide +kernel
theorem dX2_bestShape_31 : decode cX2_bestShape 31 = .ok (.bipush (-5), 2) := by decide +kernel
theorem dX2_bestShape_33 : decode cX2_bestShape 33 = .ok (.if_icmp .eq 9, 3) := by decide +kernel
theorem dX2_bestShape_36 : decode cX2_bestShape 36 = .ok (.iload 4, 2) := by decide +kernel
theorem dX2_bestShape_38 : decode cX2_bestShape 38 = .ok (.iload_n 2, 1) := by decide +kernel
theorem dX2_bestShape_39 : decode cX2_bestShape 39 = .ok (.if_icmp .ge 8, 3) := by decide +kernel
theorem dX2_bestShape_42 : decode cX2_bestShape 42 = .ok (.iload_n 3, 1) := by decide +kernel
theorem dX2_bestShape_43 : decode cX2_bestShape 43 = .ok (.istore_n 1, 1) := by decide +kernel
theorem dX2_bestShape_44 : decode cX2_bestShape 44 = .ok (.iload 4, 2) := by decide +kernel
theorem dX2_bestShape_46 : decode cX2_bestShape 46 = .ok (.istore_n 2, 1) := by decide +kernel
theorem dX2_bestShape_47 : decode cX2_bestShape 47 = .ok (.iinc 3 1, 3) := by decide +kernel
theorem dX2_bestShape_50 : decode cX2_bestShape 50 = .ok (.goto (-43), 3) := by decide +kernel
theorem dX2_bestShape_53 : decode cX2_bestShape 53 = .ok (.iload_n 1, 1) := by decide +kernel
theorem dX2_bestShape_54 : decode cX2_bestShape 54 = .ok (.ireturn, 1) := by decide +kernel
theorem dX2_fewestTicksToCool_0 : decode cX2_fewestTicksToCool 0 = .ok (.bipush (-5), 2) := by decide +kernel
theorem dX2_fewestTicksToCool_2 : decode cX2_fewestTicksToCool 2 = .ok (.istore_n 1, 1) := by decide +kernel
theorem dX2_fewestTicksToCool_3 : decode cX2_fewestTicksToCool 3 = .ok (.iconst 0, 1) := by decide +kernel
theorem dX2_fewestTicksToCool_4 : decode cX2_fewestTicksToCool 4 = .ok (.istore_n 2, 1) := by decide +kernel
theorem dX2_fewestTicksToCool_5 : decode cX2_fewestTicksToCool 5 = .ok (.iload_n 2, 1) := by decide +kernel
theorem dX2_fewestTicksToCool_6 : decode cX2_fewestTicksToCool 6 = .ok (.aload_n 0, 1) := by decide +kernel
theorem dX2_fewestTicksToCool_7 : decode cX2_fewestTicksToCool 7 = .ok (.getfield 25, 3) := by decide +kernel
theorem dX2_fewestTicksToCool_10 : decode cX2_fewestTicksToCool 10 = .ok (.if_icmp .ge 32, 3) := by decide +kernel
theorem dX2_fewestTicksToCool_13 : decode cX2_fewestTicksToCool 13 = .ok (.aload_n 0, 1) := by decide +kernel
theorem dX2_fewestTicksToCool_14 : decode cX2_fewestTicksToCool 14 = .ok (.iload_n 2, 1) := by decide +kernel
theorem dX2_fewestTicksToCool_15 : decode cX2_fewestTicksToCool 15 = .ok (.invokevirtual 152, 3) := by decide +kernel
theorem dX2_fewestTicksToCool_18 : decode cX2_fewestTicksToCool 18 = .ok (.istore_n 3, 1) := by decide +kernel
theorem dX2_fewestTicksToCool_19 : decode cX2_fewestTicksToCool 19 = .ok (.iload_n 3, 1) := by decide +kernel
theorem dX2_fewestTicksToCool_20 : decode cX2_fewestTicksToCool 20 = .ok (.ifCond .lt 16, 3) := by decide +kernel
theorem dX2_fewestTicksToCool_23 : decode cX2_fewestTicksToCool 23 = .ok (.iload_n 1, 1) := by decide +kernel
theorem dX2_fewestTicksToCool_24 : decode cX2_fewestTicksToCool 24 = .ok (.bipush (-5), 2) := by decide +kernel
theorem dX2_fewestTicksToCool_26 : decode cX2_fewestTicksToCool 26 = .ok (.if_icmp .eq 8, 3) := by decide +kernel
theorem dX2_fewestTicksToCool_29 : decode cX2_fewestTicksToCool 29 = .ok (.iload_n 3, 1) := by decide +kernel
theorem dX2_fewestTicksToCool_30 : decode cX2_fewestTicksToCool 30 = .ok (.iload_n 1, 1) := by decide +kernel
theorem dX2_fewestTicksToCool_31 : decode cX2_fewestTicksToCool 31 = .ok (.if_icmp .ge 5, 3) := by decide +kernel
theorem dX2_fewestTicksToCool_34 : decode cX2_fewestTicksToCool 34 = .ok (.iload_n 3, 1) := by decide +kernel
theorem dX2_fewestTicksToCool_35 : decode cX2_fewestTicksToCool 35 = .ok (.istore_n 1, 1) := by decide +kernel
theorem dX2_fewestTicksToCool_36 : decode cX2_fewestTicksToCool 36 = .ok (.iinc 2 1, 3) := by decide +kernel
theorem dX2_fewestTicksToCool_39 : decode cX2_fewestTicksToCool 39 = .ok (.goto (-34), 3) := by decide +kernel
theorem dX2_fewestTicksToCool_42 : decode cX2_fewestTicksToCool 42 = .ok (.iload_n 1, 1) := by decide +kernel
theorem dX2_fewestTicksToCool_43 : decode cX2_fewestTicksToCool 43 = .ok (.ireturn, 1) := by decide +kernel
theorem dX2_cutNext_0 : decode cX2_cutNext 0 = .ok (.aload_n 0, 1) := by decide +kernel
theorem dX2_cutNext_1 : decode cX2_cutNext 1 = .ok (.invokevirtual 155, 3) := by decide +kernel
theorem dX2_cutNext_4 : decode cX2_cutNext 4 = .ok (.istore_n 1, 1) := by decide +kernel
theorem dX2_cutNext_5 : decode cX2_cutNext 5 = .ok (.iload_n 1, 1) := by decide +kernel
theorem dX2_cutNext_6 : decode cX2_cutNext 6 = .ok (.bipush (-5), 2) := by decide +kernel
theorem dX2_cutNext_8 : decode cX2_cutNext 8 = .ok (.if_icmp .ne 27, 3) := by decide +kernel
theorem dX2_cutNext_11 : decode cX2_cutNext 11 = .ok (.aload_n 0, 1) := by decide +kernel
theorem dX2_cutNext_12 : decode cX2_cutNext 12 = .ok (.invokevirtual 158, 3) := by decide +kernel
theorem dX2_cutNext_15 : decode cX2_cutNext 15 = .ok (.istore_n 2, 1) := by decide +kernel
theorem dX2_cutNext_16 : decode cX2_cutNext 16 = .ok (.iload_n 2, 1) := by decide +kernel
theorem dX2_cutNext_17 : decode cX2_cutNext 17 = .ok (.bipush (-5), 2) := by decide +kernel
theorem dX2_cutNext_19 : decode cX2_cutNext 19 = .ok (.if_icmp .ne 6, 3) := by decide +kernel
theorem dX2_cutNext_22 : decode cX2_cutNext 22 = .ok (.bipush (-5), 2) := by decide +kernel
theorem dX2_cutNext_24 : decode cX2_cutNext 24 = .ok (.ireturn, 1) := by decide +kernel
theorem dX2_cutNext_25 : decode cX2_cutNext 25 = .ok (.aload_n 0, 1) := by decide +kernel
theorem dX2_cutNext_26 : decode cX2_cutNext 26 = .ok (.iload_n 2, 1) := by decide +kernel
theorem dX2_cutNext_27 : decode cX2_cutNext 27 = .ok (.invokevirtual 93, 3) := by decide +kernel
theorem dX2_cutNext_30 : decode cX2_cutNext 30 = .ok (.aload_n 0, 1) := by decide +kernel
theorem dX2_cutNext_31 : decode cX2_cutNext 31 = .ok (.invokevirtual 155, 3) := by decide +kernel
theorem dX2_cutNext_34 : decode cX2_cutNext 34 = .ok (.istore_n 1, 1) := by decide +kernel
theorem dX2_cutNext_35 : decode cX2_cutNext 35 = .ok (.iload_n 1, 1) := by decide +kernel
theorem dX2_cutNext_36 : decode cX2_cutNext 36 = .ok (.bipush (-5), 2) := by decide +kernel
theorem dX2_cutNext_38 : decode cX2_cutNext 38 = .ok (.if_icmp .eq 9, 3) := by decide +kernel
theorem dX2_cutNext_41 : decode cX2_cutNext 41 = .ok (.aload_n 0, 1) := by decide +kernel
theorem dX2_cutNext_42 : decode cX2_cutNext 42 = .ok (.iload_n 1, 1) := by decide +kernel
theorem dX2_cutNext_43 : decode cX2_cutNext 43 = .ok (.invokevirtual 161, 3) := by decide +kernel
theorem dX2_cutNext_46 : decode cX2_cutNext 46 = .ok (.pop, 1) := by decide +kernel
theorem dX2_cutNext_47 : decode cX2_cutNext 47 = .ok (.iload_n 1, 1) := by decide +kernel
theorem dX2_cutNext_48 : decode cX2_cutNext 48 = .ok (.ireturn, 1) := by decide +kernel
theorem dX2_heatIn_0 : decode cX2_heatIn 0 = .ok (.iload_n 1, 1) := by decide +kernel
theorem dX2_heatIn_1 : decode cX2_heatIn 1 = .ok (.iconst 0, 1) := by decide +kernel
theorem dX2_heatIn_2 : decode cX2_heatIn 2 = .ok (.bipush 11, 2) := by decide +kernel
theorem dX2_heatIn_4 : decode cX2_heatIn 4 = .ok (.invokestatic 51, 3) := by decide +kernel
theorem dX2_heatIn_7 : decode cX2_heatIn 7 = .ok (.ifCond .eq 12, 3) := by decide +kernel
theorem dX2_heatIn_10 : decode cX2_heatIn 10 = .ok (.aload_n 0, 1) := by decide +kernel
theorem dX2_heatIn_11 : decode cX2_heatIn 11 = .ok (.getfield 18, 3) := by decide +kernel
theorem dX2_heatIn_14 : decode cX2_heatIn 14 = .ok (.iload_n 1, 1) := by decide +kernel
theorem dX2_heatIn_15 : decode cX2_heatIn 15 = .ok (.iaload, 1) := by decide +kernel
theorem dX2_heatIn_16 : decode cX2_heatIn 16 = .ok (.goto 4, 3) := by decide +kernel
theorem dX2_heatIn_19 : decode cX2_heatIn 19 = .ok (.iconst (-1), 1) := by decide +kernel
theorem dX2_heatIn_20 : decode cX2_heatIn 20 = .ok (.ireturn, 1) := by decide +kernel
theorem dX2_greatestHeat_0 : decode cX2_greatestHeat 0 = .ok (.aload_n 0, 1) := by decide +kernel
theorem dX2_greatestHeat_1 : decode cX2_greatestHeat 1 = .ok (.getfield 18, 3) := by decide +kernel
theorem dX2_greatestHeat_4 : decode cX2_greatestHeat 4 = .ok (.aload_n 0, 1) := by decide +kernel
theorem dX2_greatestHeat_5 : decode cX2_greatestHeat 5 = .ok (.invokevirtual 164, 3) := by decide +kernel
theorem dX2_greatestHeat_8 : decode cX2_greatestHeat 8 = .ok (.iaload, 1) := by decide +kernel
theorem dX2_greatestHeat_9 : decode cX2_greatestHeat 9 = .ok (.ireturn, 1) := by decide +kernel
theorem dX2_hottestSquare_0 : decode cX2_hottestSquare 0 = .ok (.iconst 0, 1) := by decide +kernel
theorem dX2_hottestSquare_1 : decode cX2_hottestSquare 1 = .ok (.istore_n 1, 1) := by decide +kernel
theorem dX2_hottestSquare_2 : decode cX2_hottestSquare 2 = .ok (.iconst 1, 1) := by decide +kernel
theorem dX2_hottestSquare_3 : decode cX2_hottestSquare 3 = .ok (.istore_n 2, 1) := by decide +kernel
theorem dX2_hottestSquare_4 : decode cX2_hottestSquare 4 = .ok (.iload_n 2, 1) := by decide +kernel
theorem dX2_hottestSquare_5 : decode cX2_hottestSquare 5 = .ok (.bipush 12, 2) := by decide +kernel
theorem dX2_hottestSquare_7 : decode cX2_hottestSquare 7 = .ok (.if_icmp .ge 26, 3) := by decide +kernel
theorem dX2_hottestSquare_10 : decode cX2_hottestSquare 10 = .ok (.aload_n 0, 1) := by decide +kernel
theorem dX2_hottestSquare_11 : decode cX2_hottestSquare 11 = .ok (.getfield 18, 3) := by decide +kernel
theorem dX2_hottestSquare_14 : decode cX2_hottestSquare 14 = .ok (.iload_n 2, 1) := by decide +kernel
theorem dX2_hottestSquare_15 : decode cX2_hottestSquare 15 = .ok (.iaload, 1) := by decide +kernel
theorem dX2_hottestSquare_16 : decode cX2_hottestSquare 16 = .ok (.aload_n 0, 1) := by decide +kernel
theorem dX2_hottestSquare_17 : decode cX2_hottestSquare 17 = .ok (.getfield 18, 3) := by decide +kernel
theorem dX2_hottestSquare_20 : decode cX2_hottestSquare 20 = .ok (.iload_n 1, 1) := by decide +kernel
theorem dX2_hottestSquare_21 : decode cX2_hottestSquare 21 = .ok (.iaload, 1) := by decide +kernel
theorem dX2_hottestSquare_22 : decode cX2_hottestSquare 22 = .ok (.if_icmp .le 5, 3) := by decide +kernel
theorem dX2_hottestSquare_25 : decode cX2_hottestSquare 25 = .ok (.iload_n 2, 1) := by decide +kernel
theorem dX2_hottestSquare_26 : decode cX2_hottestSquare 26 = .ok (.istore_n 1, 1) := by decide +kernel
theorem dX2_hottestSquare_27 : decode cX2_hottestSquare 27 = .ok (.iinc 2 1, 3) := by decide +kernel
theorem dX2_hottestSquare_30 : decode cX2_hottestSquare 30 = .ok (.goto (-26), 3) := by decide +kernel
theorem dX2_hottestSquare_33 : decode cX2_hottestSquare 33 = .ok (.iload_n 1, 1) := by decide +kernel
theorem dX2_hottestSquare_34 : decode cX2_hottestSquare 34 = .ok (.ireturn, 1) := by decide +kernel
theorem dX2_allHeat_0 : decode cX2_allHeat 0 = .ok (.iconst 0, 1) := by decide +kernel
theorem dX2_allHeat_1 : decode cX2_allHeat 1 = .ok (.istore_n 1, 1) := by decide +kernel
theorem dX2_allHeat_2 : decode cX2_allHeat 2 = .ok (.iconst 0, 1) := by decide +kernel
theorem dX2_allHeat_3 : decode cX2_allHeat 3 = .ok (.istore_n 2, 1) := by decide +kernel
theorem dX2_allHeat_4 : decode cX2_allHeat 4 = .ok (.iload_n 2, 1) := by decide +kernel
theorem dX2_allHeat_5 : decode cX2_allHeat 5 = .ok (.bipush 12, 2) := by decide +kernel
theorem dX2_allHeat_7 : decode cX2_allHeat 7 = .ok (.if_icmp .ge 18, 3) := by decide +kernel
theorem dX2_allHeat_10 : decode cX2_allHeat 10 = .ok (.iload_n 1, 1) := by decide +kernel
theorem dX2_allHeat_11 : decode cX2_allHeat 11 = .ok (.aload_n 0, 1) := by decide +kernel
theorem dX2_allHeat_12 : decode cX2_allHeat 12 = .ok (.getfield 18, 3) := by decide +kernel
theorem dX2_allHeat_15 : decode cX2_allHeat 15 = .ok (.iload_n 2, 1) := by decide +kernel
theorem dX2_allHeat_16 : decode cX2_allHeat 16 = .ok (.iaload, 1) := by decide +kernel
theorem dX2_allHeat_17 : decode cX2_allHeat 17 = .ok (.iadd, 1) := by decide +kernel
theorem dX2_allHeat_18 : decode cX2_allHeat 18 = .ok (.istore_n 1, 1) := by decide +kernel
theorem dX2_allHeat_19 : decode cX2_allHeat 19 = .ok (.iinc 2 1, 3) := by decide +kernel
theorem dX2_allHeat_22 : decode cX2_allHeat 22 = .ok (.goto (-18), 3) := by decide +kernel
theorem dX2_allHeat_25 : decode cX2_allHeat 25 = .ok (.iload_n 1, 1) := by decide +kernel
theorem dX2_allHeat_26 : decode cX2_allHeat 26 = .ok (.ireturn, 1) := by decide +kernel
theorem dX2_shapesThatAre_0 : decode cX2_shapesThatAre 0 = .ok (.iconst 0, 1) := by decide +kernel
theorem dX2_shapesThatAre_1 : decode cX2_shapesThatAre 1 = .ok (.istore_n 2, 1) := by decide +kernel
theorem dX2_shapesThatAre_2 : decode cX2_shapesThatAre 2 = .ok (.iconst 0, 1) := by decide +kernel
theorem dX2_shapesThatAre_3 : decode cX2_shapesThatAre 3 = .ok (.istore_n 3, 1) := by decide +kernel
theorem dX2_shapesThatAre_4 : decode cX2_shapesThatAre 4 = .ok (.iload_n 3, 1) := by decide +kernel
theorem dX2_shapesThatAre_5 : decode cX2_shapesThatAre 5 = .ok (.aload_n 0, 1) := by decide +kernel
theorem dX2_shapesThatAre_6 : decode cX2_shapesThatAre 6 = .ok (.getfield 25, 3) := by decide +kernel
theorem dX2_shapesThatAre_9 : decode cX2_shapesThatAre 9 = .ok (.if_icmp .ge 25, 3) := by decide +kernel
theorem dX2_shapesThatAre_12 : decode cX2_shapesThatAre 12 = .ok (.aload_n 0, 1) := by decide +kernel
theorem dX2_shapesThatAre_13 : decode cX2_shapesThatAre 13 = .ok (.getfield 13, 3) := by decide +kernel
theorem dX2_shapesThatAre_16 : decode cX2_shapesThatAre 16 = .ok (.iload_n 3, 1) := by decide +kernel
theorem dX2_shapesThatAre_17 : decode cX2_shapesThatAre 17 = .ok (.aaload, 1) := by decide +kernel
theorem dX2_shapesThatAre_18 : decode cX2_shapesThatAre 18 = .ok (.getfield 66, 3) := by decide +kernel
theorem dX2_shapesThatAre_21 : decode cX2_shapesThatAre 21 = .ok (.iload_n 1, 1) := by decide +kernel
theorem dX2_shapesThatAre_22 : decode cX2_shapesThatAre 22 = .ok (.if_icmp .ne 6, 3) := by decide +kernel
theorem dX2_shapesThatAre_25 : decode cX2_shapesThatAre 25 = .ok (.iinc 2 1, 3) := by decide +kernel
theorem dX2_shapesThatAre_28 : decode cX2_shapesThatAre 28 = .ok (.iinc 3 1, 3) := by decide +kernel
theorem dX2_shapesThatAre_31 : decode cX2_shapesThatAre 31 = .ok (.goto (-27), 3) := by decide +kernel
theorem dX2_shapesThatAre_34 : decode cX2_shapesThatAre 34 = .ok (.iload_n 2, 1) := by decide +kernel
theorem dX2_shapesThatAre_35 : decode cX2_shapesThatAre 35 = .ok (.ireturn, 1) := by decide +kernel
theorem dX2_shapesThatTilted_0 : decode cX2_shapesThatTilted 0 = .ok (.iconst 0, 1) := by decide +kernel
theorem dX2_shapesThatTilted_1 : decode cX2_shapesThatTilted 1 = .ok (.istore_n 1, 1) := by decide +kernel
theorem dX2_shapesThatTilted_2 : decode cX2_shapesThatTilted 2 = .ok (.iconst 0, 1) := by decide +kernel
theorem dX2_shapesThatTilted_3 : decode cX2_shapesThatTilted 3 = .ok (.istore_n 2, 1) := by decide +kernel
theorem dX2_shapesThatTilted_4 : decode cX2_shapesThatTilted 4 = .ok (.iload_n 2, 1) := by decide +kernel
theorem dX2_shapesThatTilted_5 : decode cX2_shapesThatTilted 5 = .ok (.aload_n 0, 1) := by decide +kernel
theorem dX2_shapesThatTilted_6 : decode cX2_shapesThatTilted 6 = .ok (.getfield 25, 3) := by decide +kernel
theorem dX2_shapesThatTilted_9 : decode cX2_shapesThatTilted 9 = .ok (.if_icmp .ge 21, 3) := by decide +kernel
theorem dX2_shapesThatTilted_12 : decode cX2_shapesThatTilted 12 = .ok (.iload_n 1, 1) := by decide +kernel
theorem dX2_shapesThatTilted_13 : decode cX2_shapesThatTilted 13 = .ok (.aload_n 0, 1) := by decide +kernel
theorem dX2_shapesThatTilted_14 : decode cX2_shapesThatTilted 14 = .ok (.getfield 13, 3) := by decide +kernel
theorem dX2_shapesThatTilted_17 : decode cX2_shapesThatTilted 17 = .ok (.iload_n 2, 1) := by decide +kernel
theorem dX2_shapesThatTilted_18 : decode cX2_shapesThatTilted 18 = .ok (.aaload, 1) := by decide +kernel
theorem dX2_shapesThatTilted_19 : decode cX2_shapesThatTilted 19 = .ok (.getfield 119, 3) := by decide +kernel
theorem dX2_shapesThatTilted_22 : decode cX2_shapesThatTilted 22 = .ok (.iadd, 1) := by decide +kernel
theorem dX2_shapesThatTilted_23 : decode cX2_shapesThatTilted 23 = .ok (.istore_n 1, 1) := by decide +kernel
theorem dX2_shapesThatTilted_24 : decode cX2_shapesThatTilted 24 = .ok (.iinc 2 1, 3) := by decide +kernel
theorem dX2_shapesThatTilted_27 : decode cX2_shapesThatTilted 27 = .ok (.goto (-23), 3) := by decide +kernel
theorem dX2_shapesThatTilted_30 : decode cX2_shapesThatTilted 30 = .ok (.iload_n 1, 1) := by decide +kernel
theorem dX2_shapesThatTilted_31 : decode cX2_shapesThatTilted 31 = .ok (.ireturn, 1) := by decide +kernel
theorem dX2_outerOf_0 : decode cX2_outerOf 0 = .ok (.bipush (-5), 2) := by decide +kernel
theorem dX2_outerOf_2 : decode cX2_outerOf 2 = .ok (.istore_n 2, 1) := by decide +kernel
theorem dX2_outerOf_3 : decode cX2_outerOf 3 = .ok (.iconst 0, 1) := by decide +kernel
theorem dX2_outerOf_4 : decode cX2_outerOf 4 = .ok (.istore_n 3, 1) := by decide +kernel
theorem dX2_outerOf_5 : decode cX2_outerOf 5 = .ok (.iload_n 3, 1) := by decide +kernel
theorem dX2_outerOf_6 : decode cX2_outerOf 6 = .ok (.aload_n 0, 1) := by decide +kernel
theorem dX2_outerOf_7 : decode cX2_outerOf 7 = .ok (.getfield 25, 3) := by decide +kernel
theorem dX2_outerOf_10 : decode cX2_outerOf 10 = .ok (.if_icmp .ge 48, 3) := by decide +kernel
theorem dX2_outerOf_13 : decode cX2_outerOf 13 = .ok (.aload_n 1, 1) := by decide +kernel
theorem dX2_outerOf_14 : decode cX2_outerOf 14 = .ok (.aload_n 0, 1) := by decide +kernel
theorem dX2_outerOf_15 : decode cX2_outerOf 15 = .ok (.getfield 13, 3) := by decide +kernel
theorem dX2_outerOf_18 : decode cX2_outerOf 18 = .ok (.iload_n 3, 1) := by decide +kernel
theorem dX2_outerOf_19 : decode cX2_outerOf 19 = .ok (.aaload, 1) := by decide +kernel
theorem dX2_outerOf_20 : decode cX2_outerOf 20 = .ok (.invokevirtual 63, 3) := by decide +kernel
theorem dX2_outerOf_23 : decode cX2_outerOf 23 = .ok (.ifCond .eq 29, 3) := by decide +kernel
theorem dX2_outerOf_26 : decode cX2_outerOf 26 = .ok (.iload_n 2, 1) := by decide +kernel
theorem dX2_outerOf_27 : decode cX2_outerOf 27 = .ok (.bipush (-5), 2) := by decide +kernel
theorem dX2_outerOf_29 : decode cX2_outerOf 29 = .ok (.if_icmp .eq 21, 3) := by decide +kernel
theorem dX2_outerOf_32 : decode cX2_outerOf 32 = .ok (.aload_n 0, 1) := by decide +kernel
theorem dX2_outerOf_33 : decode cX2_outerOf 33 = .ok (.getfield 13, 3) := by decide +kernel
theorem dX2_outerOf_36 : decode cX2_outerOf 36 = .ok (.iload_n 3, 1) := by decide +kernel
theorem dX2_outerOf_37 : decode cX2_outerOf 37 = .ok (.aaload, 1) := by decide +kernel
theorem dX2_outerOf_38 : decode cX2_outerOf 38 = .ok (.aload_n 0, 1) := by decide +kernel
theorem dX2_outerOf_39 : decode cX2_outerOf 39 = .ok (.getfield 13, 3) := by decide +kernel
theorem dX2_outerOf_42 : decode cX2_outerOf 42 = .ok (.iload_n 2, 1) := by decide +kernel
theorem dX2_outerOf_43 : decode cX2_outerOf 43 = .ok (.aaload, 1) := by decide +kernel
theorem dX2_outerOf_44 : decode cX2_outerOf 44 = .ok (.invokevirtual 63, 3) := by decide +kernel
theorem dX2_outerOf_47 : decode cX2_outerOf 47 = .ok (.ifCond .eq 5, 3) := by decide +kernel
theorem dX2_outerOf_50 : decode cX2_outerOf 50 = .ok (.iload_n 3, 1) := by decide +kernel
theorem dX2_outerOf_51 : decode cX2_outerOf 51 = .ok (.istore_n 2, 1) := by decide +kernel
theorem dX2_outerOf_52 : decode cX2_outerOf 52 = .ok (.iinc 3 1, 3) := by decide +kernel
theorem dX2_outerOf_55 : decode cX2_outerOf 55 = .ok (.goto (-50), 3) := by decide +kernel
theorem dX2_outerOf_58 : decode cX2_outerOf 58 = .ok (.iload_n 2, 1) := by decide +kernel
theorem dX2_outerOf_59 : decode cX2_outerOf 59 = .ok (.ireturn, 1) := by decide +kernel
theorem dX2_setInside_0 : decode cX2_setInside 0 = .ok (.iconst 0, 1) := by decide +kernel
theorem dX2_setInside_1 : decode cX2_setInside 1 = .ok (.istore_n 2, 1) := by decide +kernel
theorem dX2_setInside_2 : decode cX2_setInside 2 = .ok (.iconst 0, 1) := by decide +kernel
theorem dX2_setInside_3 : decode cX2_setInside 3 = .ok (.istore_n 3, 1) := by decide +kernel
theorem dX2_setInside_4 : decode cX2_setInside 4 = .ok (.iload_n 3, 1) := by decide +kernel
theorem dX2_setInside_5 : decode cX2_setInside 5 = .ok (.aload_n 0, 1) := by decide +kernel
theorem dX2_setInside_6 : decode cX2_setInside 6 = .ok (.getfield 25, 3) := by decide +kernel
theorem dX2_setInside_9 : decode cX2_setInside 9 = .ok (.if_icmp .ge 28, 3) := by decide +kernel
theorem dX2_setInside_12 : decode cX2_setInside 12 = .ok (.aload_n 0, 1) := by decide +kernel
theorem dX2_setInside_13 : decode cX2_setInside 13 = .ok (.getfield 13, 3) := by decide +kernel
theorem dX2_setInside_16 : decode cX2_setInside 16 = .ok (.iload_n 3, 1) := by decide +kernel
theorem dX2_setInside_17 : decode cX2_setInside 17 = .ok (.aaload, 1) := by decide +kernel
theorem dX2_setInside_18 : decode cX2_setInside 18 = .ok (.aload_n 1, 1) := by decide +kernel
theorem dX2_setInside_19 : decode cX2_setInside 19 = .ok (.invokevirtual 63, 3) := by decide +kernel
theorem dX2_setInside_22 : decode cX2_setInside 22 = .ok (.ifCond .eq 9, 3) := by decide +kernel
theorem dX2_setInside_25 : decode cX2_setInside 25 = .ok (.iload_n 2, 1) := by decide +kernel
theorem dX2_setInside_26 : decode cX2_setInside 26 = .ok (.iconst 1, 1) := by decide +kernel
theorem dX2_setInside_27 : decode cX2_setInside 27 = .ok (.iload_n 3, 1) := by decide +kernel
theorem dX2_setInside_28 : decode cX2_setInside 28 = .ok (.ishl, 1) := by decide +kernel
theorem dX2_setInside_29 : decode cX2_setInside 29 = .ok (.ior, 1) := by decide +kernel
theorem dX2_setInside_30 : decode cX2_setInside 30 = .ok (.istore_n 2, 1) := by decide +kernel
theorem dX2_setInside_31 : decode cX2_setInside 31 = .ok (.iinc 3 1, 3) := by decide +kernel
theorem dX2_setInside_34 : decode cX2_setInside 34 = .ok (.goto (-30), 3) := by decide +kernel
theorem dX2_setInside_37 : decode cX2_setInside 37 = .ok (.iload_n 2, 1) := by decide +kernel
theorem dX2_setInside_38 : decode cX2_setInside 38 = .ok (.ireturn, 1) := by decide +kernel
theorem dX2_factOfShape_0 : decode cX2_factOfShape 0 = .ok (.aload_n 0, 1) := by decide +kernel
theorem dX2_factOfShape_1 : decode cX2_factOfShape 1 = .ok (.iload_n 1, 1) := by decide +kernel
theorem dX2_factOfShape_2 : decode cX2_factOfShape 2 = .ok (.invokevirtual 72, 3) := by decide +kernel
theorem dX2_factOfShape_5 : decode cX2_factOfShape 5 = .ok (.ifCond .ne 5, 3) := by decide +kernel
theorem dX2_factOfShape_8 : decode cX2_factOfShape 8 = .ok (.iconst (-1), 1) := by decide +kernel
theorem dX2_factOfShape_9 : decode cX2_factOfShape 9 = .ok (.ireturn, 1) := by decide +kernel
theorem dX2_factOfShape_10 : decode cX2_factOfShape 10 = .ok (.aload_n 0, 1) := by decide +kernel
theorem dX2_factOfShape_11 : decode cX2_factOfShape 11 = .ok (.getfield 13, 3) := by decide +kernel
theorem dX2_factOfShape_14 : decode cX2_factOfShape 14 = .ok (.iload_n 1, 1) := by decide +kernel
theorem dX2_factOfShape_15 : decode cX2_factOfShape 15 = .ok (.aaload, 1) := by decide +kernel
theorem dX2_factOfShape_16 : decode cX2_factOfShape 16 = .ok (.astore_n 3, 1) := by decide +kernel
theorem dX2_factOfShape_17 : decode cX2_factOfShape 17 = .ok (.iload_n 2, 1) := by decide +kernel
theorem dX2_factOfShape_18 : decode cX2_factOfShape 18 = .ok (.tableswitch 115 0 10 #[58, 63, 68, 73, 78, 83, 88, 94, 100, 105, 110], 58) := by decide +kernel
theorem dX2_factOfShape_76 : decode cX2_factOfShape 76 = .ok (.aload_n 3, 1) := by decide +kernel
theorem dX2_factOfShape_77 : decode cX2_factOfShape 77 = .ok (.getfield 167, 3) := by decide +kernel
theorem dX2_factOfShape_80 : decode cX2_factOfShape 80 = .ok (.ireturn, 1) := by decide +kernel
theorem dX2_factOfShape_81 : decode cX2_factOfShape 81 = .ok (.aload_n 3, 1) := by decide +kernel
theorem dX2_factOfShape_82 : decode cX2_factOfShape 82 = .ok (.getfield 170, 3) := by decide +kernel
theorem dX2_factOfShape_85 : decode cX2_factOfShape 85 = .ok (.ireturn, 1) := by decide +kernel
theorem dX2_factOfShape_86 : decode cX2_factOfShape 86 = .ok (.aload_n 3, 1) := by decide +kernel
theorem dX2_factOfShape_87 : decode cX2_factOfShape 87 = .ok (.getfield 173, 3) := by decide +kernel
theorem dX2_factOfShape_90 : decode cX2_factOfShape 90 = .ok (.ireturn, 1) := by decide +kernel
theorem dX2_factOfShape_91 : decode cX2_factOfShape 91 = .ok (.aload_n 3, 1) := by decide +kernel
theorem dX2_factOfShape_92 : decode cX2_factOfShape 92 = .ok (.getfield 176, 3) := by decide +kernel
theorem dX2_factOfShape_95 : decode cX2_factOfShape 95 = .ok (.ireturn, 1) := by decide +kernel
theorem dX2_factOfShape_96 : decode cX2_factOfShape 96 = .ok (.aload_n 3, 1) := by decide +kernel
theorem dX2_factOfShape_97 : decode cX2_factOfShape 97 = .ok (.getfield 76, 3) := by decide +kernel
theorem dX2_factOfShape_100 : decode cX2_factOfShape 100 = .ok (.ireturn, 1) := by decide +kernel
theorem dX2_factOfShape_101 : decode cX2_factOfShape 101 = .ok (.aload_n 3, 1) := by decide +kernel
theorem dX2_factOfShape_102 : decode cX2_factOfShape 102 = .ok (.getfield 66, 3) := by decide +kernel
theorem dX2_factOfShape_105 : decode cX2_factOfShape 105 = .ok (.ireturn, 1) := by decide +kernel
theorem dX2_factOfShape_106 : decode cX2_factOfShape 106 = .ok (.aload_n 0, 1) := by decide +kernel
theorem dX2_factOfShape_107 : decode cX2_factOfShape 107 = .ok (.aload_n 3, 1) := by decide +kernel
theorem dX2_factOfShape_108 : decode cX2_factOfShape 108 = .ok (.invokevirtual 179, 3) := by decide +kernel
theorem dX2_factOfShape_111 : decode cX2_factOfShape 111 = .ok (.ireturn, 1) := by decide +kernel
theorem dX2_factOfShape_112 : decode cX2_factOfShape 112 = .ok (.aload_n 0, 1) := by decide +kernel
theorem dX2_factOfShape_113 : decode cX2_factOfShape 113 = .ok (.aload_n 3, 1) := by decide +kernel
theorem dX2_factOfShape_114 : decode cX2_factOfShape 114 = .ok (.invokevirtual 182, 3) := by decide +kernel
theorem dX2_factOfShape_117 : decode cX2_factOfShape 117 = .ok (.ireturn, 1) := by decide +kernel
theorem dX2_factOfShape_118 : decode cX2_factOfShape 118 = .ok (.aload_n 3, 1) := by decide +kernel
theorem dX2_factOfShape_119 : decode cX2_factOfShape 119 = .ok (.invokevirtual 140, 3) := by decide +kernel
theorem dX2_factOfShape_122 : decode cX2_factOfShape 122 = .ok (.ireturn, 1) := by decide +kernel
theorem dX2_factOfShape_123 : decode cX2_factOfShape 123 = .ok (.aload_n 3, 1) := by decide +kernel
theorem dX2_factOfShape_124 : decode cX2_factOfShape 124 = .ok (.getfield 119, 3) := by decide +kernel
theorem dX2_factOfShape_127 : decode cX2_factOfShape 127 = .ok (.ireturn, 1) := by decide +kernel
theorem dX2_factOfShape_128 : decode cX2_factOfShape 128 = .ok (.aload_n 3, 1) := by decide +kernel
theorem dX2_factOfShape_129 : decode cX2_factOfShape 129 = .ok (.getfield 107, 3) := by decide +kernel
theorem dX2_factOfShape_132 : decode cX2_factOfShape 132 = .ok (.ireturn, 1) := by decide +kernel
theorem dX2_factOfShape_133 : decode cX2_factOfShape 133 = .ok (.bipush (-2), 2) := by decide +kernel
theorem dX2_factOfShape_135 : decode cX2_factOfShape 135 = .ok (.ireturn, 1) := by decide +kernel
theorem dX2_factOfSheet_0 : decode cX2_factOfSheet 0 = .ok (.iload_n 1, 1) := by decide +kernel
theorem dX2_factOfSheet_1 : decode cX2_factOfSheet 1 = .ok (.tableswitch 179 0 16 #[83, 88, 94, 100, 106, 111, 116, 121, 126, 131, 136, 141, 146, 151, 158, 165, 172], 83) := by decide +kernel
theorem dX2_factOfSheet_84 : decode cX2_factOfSheet 84 = .ok (.aload_n 0, 1) := by decide +kernel
theorem dX2_factOfSheet_85 : decode cX2_factOfSheet 85 = .ok (.getfield 25, 3) := by decide +kernel
theorem dX2_factOfSheet_88 : decode cX2_factOfSheet 88 = .ok (.ireturn, 1) := by decide +kernel
theorem dX2_factOfSheet_89 : decode cX2_factOfSheet 89 = .ok (.aload_n 0, 1) := by decide +kernel
theorem dX2_factOfSheet_90 : decode cX2_factOfSheet 90 = .ok (.iconst 0, 1) := by decide +kernel
theorem dX2_factOfSheet_91 : decode cX2_factOfSheet 91 = .ok (.invokevirtual 185, 3) := by decide +kernel
theorem dX2_factOfSheet_94 : decode cX2_factOfSheet 94 = .ok (.ireturn, 1) := by decide +kernel
theorem dX2_factOfSheet_95 : decode cX2_factOfSheet 95 = .ok (.aload_n 0, 1) := by decide +kernel
theorem dX2_factOfSheet_96 : decode cX2_factOfSheet 96 = .ok (.iconst 1, 1) := by decide +kernel
theorem dX2_factOfSheet_97 : decode cX2_factOfSheet 97 = .ok (.invokevirtual 185, 3) := by decide +kernel
theorem dX2_factOfSheet_100 : decode cX2_factOfSheet 100 = .ok (.ireturn, 1) := by decide +kernel
theorem dX2_factOfSheet_101 : decode cX2_factOfSheet 101 = .ok (.aload_n 0, 1) := by decide +kernel
theorem dX2_factOfSheet_102 : decode cX2_factOfSheet 102 = .ok (.iconst 2, 1) := by decide +kernel
theorem dX2_factOfSheet_103 : decode cX2_factOfSheet 103 = .ok (.invokevirtual 185, 3) := by decide +kernel
theorem dX2_factOfSheet_106 : decode cX2_factOfSheet 106 = .ok (.ireturn, 1) := by decide +kernel
theorem dX2_factOfSheet_107 : decode cX2_factOfSheet 107 = .ok (.aload_n 0, 1) := by decide +kernel
theorem dX2_factOfSheet_108 : decode cX2_factOfSheet 108 = .ok (.invokevirtual 188, 3) := by decide +kernel
theorem dX2_factOfSheet_111 : decode cX2_factOfSheet 111 = .ok (.ireturn, 1) := by decide +kernel
theorem dX2_factOfSheet_112 : decode cX2_factOfSheet 112 = .ok (.aload_n 0, 1) := by decide +kernel
theorem dX2_factOfSheet_113 : decode cX2_factOfSheet 113 = .ok (.getfield 35, 3) := by decide +kernel
theorem dX2_factOfSheet_116 : decode cX2_factOfSheet 116 = .ok (.ireturn, 1) := by decide +kernel
theorem dX2_factOfSheet_117 : decode cX2_factOfSheet 117 = .ok (.aload_n 0, 1) := by decide +kernel
theorem dX2_factOfSheet_118 : decode cX2_factOfSheet 118 = .ok (.getfield 29, 3) := by decide +kernel
theorem dX2_factOfSheet_121 : decode cX2_factOfSheet 121 = .ok (.ireturn, 1) := by decide +kernel
theorem dX2_factOfSheet_122 : decode cX2_factOfSheet 122 = .ok (.aload_n 0, 1) := by decide +kernel
theorem dX2_factOfSheet_123 : decode cX2_factOfSheet 123 = .ok (.getfield 32, 3) := by decide +kernel
theorem dX2_factOfSheet_126 : decode cX2_factOfSheet 126 = .ok (.ireturn, 1) := by decide +kernel
theorem dX2_factOfSheet_127 : decode cX2_factOfSheet 127 = .ok (.aload_n 0, 1) := by decide +kernel
theorem dX2_factOfSheet_128 : decode cX2_factOfSheet 128 = .ok (.getfield 38, 3) := by decide +kernel
theorem dX2_factOfSheet_131 : decode cX2_factOfSheet 131 = .ok (.ireturn, 1) := by decide +kernel
theorem dX2_factOfSheet_132 : decode cX2_factOfSheet 132 = .ok (.aload_n 0, 1) := by decide +kernel
theorem dX2_factOfSheet_133 : decode cX2_factOfSheet 133 = .ok (.getfield 41, 3) := by decide +kernel
theorem dX2_factOfSheet_136 : decode cX2_factOfSheet 136 = .ok (.ireturn, 1) := by decide +kernel
theorem dX2_factOfSheet_137 : decode cX2_factOfSheet 137 = .ok (.aload_n 0, 1) := by decide +kernel
theorem dX2_factOfSheet_138 : decode cX2_factOfSheet 138 = .ok (.invokevirtual 116, 3) := by decide +kernel
theorem dX2_factOfSheet_141 : decode cX2_factOfSheet 141 = .ok (.ireturn, 1) := by decide +kernel
theorem dX2_factOfSheet_142 : decode cX2_factOfSheet 142 = .ok (.aload_n 0, 1) := by decide +kernel
theorem dX2_factOfSheet_143 : decode cX2_factOfSheet 143 = .ok (.invokevirtual 164, 3) := by decide +kernel
theorem dX2_factOfSheet_146 : decode cX2_factOfSheet 146 = .ok (.ireturn, 1) := by decide +kernel
theorem dX2_factOfSheet_147 : decode cX2_factOfSheet 147 = .ok (.aload_n 0, 1) := by decide +kernel
theorem dX2_factOfSheet_148 : decode cX2_factOfSheet 148 = .ok (.invokevirtual 191, 3) := by decide +kernel
theorem dX2_factOfSheet_151 : decode cX2_factOfSheet 151 = .ok (.ireturn, 1) := by decide +kernel
theorem dX2_factOfSheet_152 : decode cX2_factOfSheet 152 = .ok (.aload_n 0, 1) := by decide +kernel
theorem dX2_factOfSheet_153 : decode cX2_factOfSheet 153 = .ok (.getfield 22, 3) := by decide +kernel
theorem dX2_factOfSheet_156 : decode cX2_factOfSheet 156 = .ok (.iconst 0, 1) := by decide +kernel
theorem dX2_factOfSheet_157 : decode cX2_factOfSheet 157 = .ok (.iaload, 1) := by decide +kernel
theorem dX2_factOfSheet_158 : decode cX2_factOfSheet 158 = .ok (.ireturn, 1) := by decide +kernel
theorem dX2_factOfSheet_159 : decode cX2_factOfSheet 159 = .ok (.aload_n 0, 1) := by decide +kernel
theorem dX2_factOfSheet_160 : decode cX2_factOfSheet 160 = .ok (.getfield 22, 3) := by decide +kernel
theorem dX2_factOfSheet_163 : decode cX2_factOfSheet 163 = .ok (.iconst 1, 1) := by decide +kernel
theorem dX2_factOfSheet_164 : decode cX2_factOfSheet 164 = .ok (.iaload, 1) := by decide +kernel
theorem dX2_factOfSheet_165 : decode cX2_factOfSheet 165 = .ok (.ireturn, 1) := by decide +kernel
theorem dX2_factOfSheet_166 : decode cX2_factOfSheet 166 = .ok (.aload_n 0, 1) := by decide +kernel
theorem dX2_factOfSheet_167 : decode cX2_factOfSheet 167 = .ok (.getfield 22, 3) := by decide +kernel
theorem dX2_factOfSheet_170 : decode cX2_factOfSheet 170 = .ok (.iconst 2, 1) := by decide +kernel
theorem dX2_factOfSheet_171 : decode cX2_factOfSheet 171 = .ok (.iaload, 1) := by decide +kernel
theorem dX2_factOfSheet_172 : decode cX2_factOfSheet 172 = .ok (.ireturn, 1) := by decide +kernel
theorem dX2_factOfSheet_173 : decode cX2_factOfSheet 173 = .ok (.aload_n 0, 1) := by decide +kernel
theorem dX2_factOfSheet_174 : decode cX2_factOfSheet 174 = .ok (.getfield 22, 3) := by decide +kernel
theorem dX2_factOfSheet_177 : decode cX2_factOfSheet 177 = .ok (.iconst 3, 1) := by decide +kernel
theorem dX2_factOfSheet_178 : decode cX2_factOfSheet 178 = .ok (.iaload, 1) := by decide +kernel
theorem dX2_factOfSheet_179 : decode cX2_factOfSheet 179 = .ok (.ireturn, 1) := by decide +kernel
theorem dX2_factOfSheet_180 : decode cX2_factOfSheet 180 = .ok (.bipush (-2), 2) := by decide +kernel
theorem dX2_factOfSheet_182 : decode cX2_factOfSheet 182 = .ok (.ireturn, 1) := by decide +kernel
theorem dX3_init_0 : decode cX3_init 0 = .ok (.aload_n 0, 1) := by decide +kernel
theorem dX3_init_1 : decode cX3_init 1 = .ok (.invokespecial 1, 3) := by decide +kernel
theorem dX3_init_4 : decode cX3_init 4 = .ok (.aload_n 0, 1) := by decide +kernel
theorem dX3_init_5 : decode cX3_init 5 = .ok (.new 7, 3) := by decide +kernel
theorem dX3_init_8 : decode cX3_init 8 = .ok (.dup, 1) := by decide +kernel
theorem dX3_init_9 : decode cX3_init 9 = .ok (.invokespecial 9, 3) := by decide +kernel
theorem dX3_init_12 : decode cX3_init 12 = .ok (.putfield 10, 3) := by decide +kernel
theorem dX3_init_15 : decode cX3_init 15 = .ok (.aload_n 0, 1) := by decide +kernel
theorem dX3_init_16 : decode cX3_init 16 = .ok (.new 7, 3) := by decide +kernel
theorem dX3_init_19 : decode cX3_init 19 = .ok (.dup, 1) := by decide +kernel
theorem dX3_init_20 : decode cX3_init 20 = .ok (.invokespecial 9, 3) := by decide +kernel
theorem dX3_init_23 : decode cX3_init 23 = .ok (.putfield 16, 3) := by decide +kernel
theorem dX3_init_26 : decode cX3_init 26 = .ok (.aload_n 0, 1) := by decide +kernel
theorem dX3_init_27 : decode cX3_init 27 = .ok (.new 7, 3) := by decide +kernel
theorem dX3_init_30 : decode cX3_init 30 = .ok (.dup, 1) := by decide +kernel
theorem dX3_init_31 : decode cX3_init 31 = .ok (.invokespecial 9, 3) := by decide +kernel
theorem dX3_init_34 : decode cX3_init 34 = .ok (.putfield 19, 3) := by decide +kernel
theorem dX3_init_37 : decode cX3_init 37 = .ok (.aload_n 0, 1) := by decide +kernel
theorem dX3_init_38 : decode cX3_init 38 = .ok (.new 7, 3) := by decide +kernel
theorem dX3_init_41 : decode cX3_init 41 = .ok (.dup, 1) := by decide +kernel
theorem dX3_init_42 : decode cX3_init 42 = .ok (.invokespecial 9, 3) := by decide +kernel
theorem dX3_init_45 : decode cX3_init 45 = .ok (.putfield 22, 3) := by decide +kernel
theorem dX3_init_48 : decode cX3_init 48 = .ok (.aload_n 0, 1) := by decide +kernel
theorem dX3_init_49 : decode cX3_init 49 = .ok (.iconst 4, 1) := by decide +kernel
theorem dX3_init_50 : decode cX3_init 50 = .ok (.anewarray 7, 3) := by decide +kernel
theorem dX3_init_53 : decode cX3_init 53 = .ok (.putfield 25, 3) := by decide +kernel
theorem dX3_init_56 : decode cX3_init 56 = .ok (.iconst 0, 1) := by decide +kernel
theorem dX3_init_57 : decode cX3_init 57 = .ok (.istore_n 1, 1) := by decide +kernel
theorem dX3_init_58 : decode cX3_init 58 = .ok (.iload_n 1, 1) := by decide +kernel
theorem dX3_init_59 : decode cX3_init 59 = .ok (.iconst 4, 1) := by decide +kernel
theorem dX3_init_60 : decode cX3_init 60 = .ok (.if_icmp .ge 22, 3) := by decide +kernel
theorem dX3_init_63 : decode cX3_init 63 = .ok (.aload_n 0, 1) := by decide +kernel
theorem dX3_init_64 : decode cX3_init 64 = .ok (.getfield 25, 3) := by decide +kernel
theorem dX3_init_67 : decode cX3_init 67 = .ok (.iload_n 1, 1) := by decide +kernel
theorem dX3_init_68 : decode cX3_init 68 = .ok (.new 7, 3) := by decide +kernel
theorem dX3_init_71 : decode cX3_init 71 = .ok (.dup, 1) := by decide +kernel
theorem dX3_init_72 : decode cX3_init 72 = .ok (.invokespecial 9, 3) := by decide +kernel
theorem dX3_init_75 : decode cX3_init 75 = .ok (.aastore, 1) := by decide +kernel
theorem dX3_init_76 : decode cX3_init 76 = .ok (.iinc 1 1, 3) := by decide +kernel
theorem dX3_init_79 : decode cX3_init 79 = .ok (.goto (-21), 3) := by decide +kernel
theorem dX3_init_82 : decode cX3_init 82 = .ok (.aload_n 0, 1) := by decide +kernel
theorem dX3_init_83 : decode cX3_init 83 = .ok (.new 29, 3) := by decide +kernel
theorem dX3_init_86 : decode cX3_init 86 = .ok (.dup, 1) := by decide +kernel
theorem dX3_init_87 : decode cX3_init 87 = .ok (.invokespecial 31, 3) := by decide +kernel
theorem dX3_init_90 : decode cX3_init 90 = .ok (.putfield 32, 3) := by decide +kernel
theorem dX3_init_93 : decode cX3_init 93 = .ok (.aload_n 0, 1) := by decide +kernel
theorem dX3_init_94 : decode cX3_init 94 = .ok (.iconst 0, 1) := by decide +kernel
theorem dX3_init_95 : decode cX3_init 95 = .ok (.putfield 36, 3) := by decide +kernel
theorem dX3_init_98 : decode cX3_init 98 = .ok (.aload_n 0, 1) := by decide +kernel
theorem dX3_init_99 : decode cX3_init 99 = .ok (.iconst 0, 1) := by decide +kernel
theorem dX3_init_100 : decode cX3_init 100 = .ok (.putfield 40, 3) := by decide +kernel
theorem dX3_init_103 : decode cX3_init 103 = .ok (.aload_n 0, 1) := by decide +kernel
theorem dX3_init_104 : decode cX3_init 104 = .ok (.iconst 0, 1) := by decide +kernel
theorem dX3_init_105 : decode cX3_init 105 = .ok (.putfield 44, 3) := by decide +kernel
theorem dX3_init_108 : decode cX3_init 108 = .ok (.aload_n 0, 1) := by decide +kernel
theorem dX3_init_109 : decode cX3_init 109 = .ok (.iconst 0, 1) := by decide +kernel
theorem dX3_init_110 : decode cX3_init 110 = .ok (.putfield 47, 3) := by decide +kernel
theorem dX3_init_113 : decode cX3_init 113 = .ok (.return_, 1) := by decide +kernel
theorem dX3_tell_0 : decode cX3_tell 0 = .ok (.aload_n 0, 1) := by decide +kernel
theorem dX3_tell_1 : decode cX3_tell 1 = .ok (.getfield 16, 3) := by decide +kernel
theorem dX3_tell_4 : decode cX3_tell 4 = .ok (.aload_n 0, 1) := by decide +kernel
theorem dX3_tell_5 : decode cX3_tell 5 = .ok (.getfield 10, 3) := by decide +kernel
theorem dX3_tell_8 : decode cX3_tell 8 = .ok (.invokevirtual 50, 3) := by decide +kernel
theorem dX3_tell_11 : decode cX3_tell 11 = .ok (.aload_n 0, 1) := by decide +kernel
theorem dX3_tell_12 : decode cX3_tell 12 = .ok (.aload_n 0, 1) := by decide +kernel
theorem dX3_tell_13 : decode cX3_tell 13 = .ok (.getfield 10, 3) := by decide +kernel
theorem dX3_tell_16 : decode cX3_tell 16 = .ok (.iload_n 1, 1) := by decide +kernel
theorem dX3_tell_17 : decode cX3_tell 17 = .ok (.iload_n 2, 1) := by decide +kernel
theorem dX3_tell_18 : decode cX3_tell 18 = .ok (.iload_n 3, 1) := by decide +kernel
theorem dX3_tell_19 : decode cX3_tell 19 = .ok (.iload 4, 2) := by decide +kernel
theorem dX3_tell_21 : decode cX3_tell 21 = .ok (.invokevirtual 54, 3) := by decide +kernel
theorem dX3_tell_24 : decode cX3_tell 24 = .ok (.invokevirtual 58, 3) := by decide +kernel
theorem dX3_tell_27 : decode cX3_tell 27 = .ok (.ireturn, 1) := by decide +kernel
theorem dX3_setLead_0 : decode cX3_setLead 0 = .ok (.aload_n 0, 1) := by decide +kernel
theorem dX3_setLead_1 : decode cX3_setLead 1 = .ok (.getfield 16, 3) := by decide +kernel
theorem dX3_setLead_4 : decode cX3_setLead 4 = .ok (.aload_n 0, 1) := by decide +kernel
theorem dX3_setLead_5 : decode cX3_setLead 5 = .ok (.getfield 10, 3) := by decide +kernel
theorem dX3_setLead_8 : decode cX3_setLead 8 = .ok (.invokevirtual 50, 3) := by decide +kernel
theorem dX3_setLead_11 : decode cX3_setLead 11 = .ok (.aload_n 0, 1) := by decide +kernel
theorem dX3_setLead_12 : decode cX3_setLead 12 = .ok (.aload_n 0, 1) := by decide +kernel
theorem dX3_setLead_13 : decode cX3_setLead 13 = .ok (.getfield 10, 3) := by decide +kernel
theorem dX3_setLead_16 : decode cX3_setLead 16 = .ok (.iload_n 1, 1) := by decide +kernel
theorem dX3_setLead_17 : decode cX3_setLead 17 = .ok (.iload_n 2, 1) := by decide +kernel
theorem dX3_setLead_18 : decode cX3_setLead 18 = .ok (.invokevirtual 62, 3) := by decide +kernel
theorem dX3_setLead_21 : decode cX3_setLead 21 = .ok (.invokevirtual 58, 3) := by decide +kernel
theorem dX3_setLead_24 : decode cX3_setLead 24 = .ok (.ireturn, 1) := by decide +kernel
theorem dX3_set_0 : decode cX3_set 0 = .ok (.aload_n 0, 1) := by decide +kernel
theorem dX3_set_1 : decode cX3_set 1 = .ok (.getfield 16, 3) := by decide +kernel
theorem dX3_set_4 : decode cX3_set 4 = .ok (.aload_n 0, 1) := by decide +kernel
theorem dX3_set_5 : decode cX3_set 5 = .ok (.getfield 10, 3) := by decide +kernel
theorem dX3_set_8 : decode cX3_set 8 = .ok (.invokevirtual 50, 3) := by decide +kernel
theorem dX3_set_11 : decode cX3_set 11 = .ok (.aload_n 0, 1) := by decide +kernel
theorem dX3_set_12 : decode cX3_set 12 = .ok (.aload_n 0, 1) := by decide +kernel
theorem dX3_set_13 : decode cX3_set 13 = .ok (.getfield 10, 3) := by decide +kernel
theorem dX3_set_16 : decode cX3_set 16 = .ok (.iload_n 1, 1) := by decide +kernel
theorem dX3_set_17 : decode cX3_set 17 = .ok (.iload_n 2, 1) := by decide +kernel
theorem dX3_set_18 : decode cX3_set 18 = .ok (.invokevirtual 66, 3) := by decide +kernel
theorem dX3_set_21 : decode cX3_set 21 = .ok (.invokevirtual 58, 3) := by decide +kernel
theorem dX3_set_24 : decode cX3_set 24 = .ok (.ireturn, 1) := by decide +kernel
theorem dX3_cut_0 : decode cX3_cut 0 = .ok (.aload_n 0, 1) := by decide +kernel
theorem dX3_cut_1 : decode cX3_cut 1 = .ok (.getfield 16, 3) := by decide +kernel
theorem dX3_cut_4 : decode cX3_cut 4 = .ok (.aload_n 0, 1) := by decide +kernel
theorem dX3_cut_5 : decode cX3_cut 5 = .ok (.getfield 10, 3) := by decide +kernel
theorem dX3_cut_8 : decode cX3_cut 8 = .ok (.invokevirtual 50, 3) := by decide +kernel
theorem dX3_cut_11 : decode cX3_cut 11 = .ok (.aload_n 0, 1) := by decide +kernel
theorem dX3_cut_12 : decode cX3_cut 12 = .ok (.aload_n 0, 1) := by decide +kernel
theorem dX3_cut_13 : decode cX3_cut 13 = .ok (.getfield 10, 3) := by decide +kernel
theorem dX3_cut_16 : decode cX3_cut 16 = .ok (.iload_n 1, 1) := by decide +kernel
theorem dX3_cut_17 : decode cX3_cut 17 = .ok (.invokevirtual 69, 3) := by decide +kernel
theorem dX3_cut_20 : decode cX3_cut 20 = .ok (.invokevirtual 58, 3) := by decide +kernel
theorem dX3_cut_23 : decode cX3_cut 23 = .ok (.ireturn, 1) := by decide +kernel
theorem dX3_pause_0 : decode cX3_pause 0 = .ok (.aload_n 0, 1) := by decide +kernel
theorem dX3_pause_1 : decode cX3_pause 1 = .ok (.getfield 16, 3) := by decide +kernel
theorem dX3_pause_4 : decode cX3_pause 4 = .ok (.aload_n 0, 1) := by decide +kernel
theorem dX3_pause_5 : decode cX3_pause 5 = .ok (.getfield 10, 3) := by decide +kernel
theorem dX3_pause_8 : decode cX3_pause 8 = .ok (.invokevirtual 50, 3) := by decide +kernel
theorem dX3_pause_11 : decode cX3_pause 11 = .ok (.aload_n 0, 1) := by decide +kernel
theorem dX3_pause_12 : decode cX3_pause 12 = .ok (.aload_n 0, 1) := by decide +kernel
theorem dX3_pause_13 : decode cX3_pause 13 = .ok (.getfield 10, 3) := by decide +kernel
theorem dX3_pause_16 : decode cX3_pause 16 = .ok (.iload_n 1, 1) := by decide +kernel
theorem dX3_pause_17 : decode cX3_pause 17 = .ok (.invokevirtual 72, 3) := by decide +kernel
theorem dX3_pause_20 : decode cX3_pause 20 = .ok (.invokevirtual 58, 3) := by decide +kernel
theorem dX3_pause_23 : decode cX3_pause 23 = .ok (.ireturn, 1) := by decide +kernel
theorem dX3_clean_0 : decode cX3_clean 0 = .ok (.aload_n 0, 1) := by decide +kernel
theorem dX3_clean_1 : decode cX3_clean 1 = .ok (.getfield 16, 3) := by decide +kernel
theorem dX3_clean_4 : decode cX3_clean 4 = .ok (.aload_n 0, 1) := by decide +kernel
theorem dX3_clean_5 : decode cX3_clean 5 = .ok (.getfield 10, 3) := by decide +kernel
theorem dX3_clean_8 : decode cX3_clean 8 = .ok (.invokevirtual 50, 3) := by decide +kernel
theorem dX3_clean_11 : decode cX3_clean 11 = .ok (.aload_n 0, 1) := by decide +kernel
theorem dX3_clean_12 : decode cX3_clean 12 = .ok (.aload_n 0, 1) := by decide +kernel
theorem dX3_clean_13 : decode cX3_clean 13 = .ok (.getfield 10, 3) := by decide +kernel
theorem dX3_clean_16 : decode cX3_clean 16 = .ok (.invokevirtual 75, 3) := by decide +kernel
theorem dX3_clean_19 : decode cX3_clean 19 = .ok (.invokevirtual 58, 3) := by decide +kernel
theorem dX3_clean_22 : decode cX3_clean 22 = .ok (.ireturn, 1) := by decide +kernel
theorem dX3_undo_0 : decode cX3_undo 0 = .ok (.aload_n 0, 1) := by decide +kernel
theorem dX3_undo_1 : decode cX3_undo 1 = .ok (.getfield 36, 3) := by decide +kernel
theorem dX3_undo_4 : decode cX3_undo 4 = .ok (.ifCond .le 11, 3) := by decide +kernel
theorem dX3_undo_7 : decode cX3_undo 7 = .ok (.aload_n 0, 1) := by decide +kernel
theorem dX3_undo_8 : decode cX3_undo 8 = .ok (.getfield 36, 3) := by decide +kernel
theorem dX3_undo_11 : decode cX3_undo 11 = .ok (.iconst 4, 1) := by decide +kernel
theorem dX3_undo_12 : decode cX3_undo 12 = .ok (.if_icmp .le 6, 3) := by decide +kernel
theorem dX3_undo_15 : decode cX3_undo 15 = .ok (.bipush (-5), 2) := by decide +kernel
theorem dX3_undo_17 : decode cX3_undo 17 = .ok (.ireturn, 1) := by decide +kernel
theorem dX3_undo_18 : decode cX3_undo 18 = .ok (.aload_n 0, 1) := by decide +kernel
theorem dX3_undo_19 : decode cX3_undo 19 = .ok (.dup, 1) := by decide +kernel
theorem dX3_undo_20 : decode cX3_undo 20 = .ok (.getfield 36, 3) := by decide +kernel
theorem dX3_undo_23 : decode cX3_undo 23 = .ok (.iconst 1, 1) := by decide +kernel
theorem dX3_undo_24 : decode cX3_undo 24 = .ok (.isub, 1) := by decide +kernel
theorem dX3_undo_25 : decode cX3_undo 25 = .ok (.putfield 36, 3) := by decide +kernel
theorem dX3_undo_28 : decode cX3_undo 28 = .ok (.aload_n 0, 1) := by decide +kernel
theorem dX3_undo_29 : decode cX3_undo 29 = .ok (.getfield 10, 3) := by decide +kernel
theorem dX3_undo_32 : decode cX3_undo 32 = .ok (.aload_n 0, 1) := by decide +kernel
theorem dX3_undo_33 : decode cX3_undo 33 = .ok (.getfield 25, 3) := by decide +kernel
theorem dX3_undo_36 : decode cX3_undo 36 = .ok (.aload_n 0, 1) := by decide +kernel
theorem dX3_undo_37 : decode cX3_undo 37 = .ok (.getfield 36, 3) := by decide +kernel
theorem dX3_undo_40 : decode cX3_undo 40 = .ok (.aaload, 1) := by decide +kernel
theorem dX3_undo_41 : decode cX3_undo 41 = .ok (.invokevirtual 50, 3) := by decide +kernel
theorem dX3_undo_44 : decode cX3_undo 44 = .ok (.aload_n 0, 1) := by decide +kernel
theorem dX3_undo_45 : decode cX3_undo 45 = .ok (.getfield 36, 3) := by decide +kernel
theorem dX3_undo_48 : decode cX3_undo 48 = .ok (.ireturn, 1) := by decide +kernel
theorem dX3_restore_0 : decode cX3_restore 0 = .ok (.aload_n 0, 1) := by decide +kernel
theorem dX3_restore_1 : decode cX3_restore 1 = .ok (.getfield 40, 3) := by decide +kernel
theorem dX3_restore_4 : decode cX3_restore 4 = .ok (.ifCond .ne 6, 3) := by decide +kernel
theorem dX3_restore_7 : decode cX3_restore 7 = .ok (.bipush (-5), 2) := by decide +kernel
theorem dX3_restore_9 : decode cX3_restore 9 = .ok (.ireturn, 1) := by decide +kernel
theorem dX3_restore_10 : decode cX3_restore 10 = .ok (.aload_n 0, 1) := by decide +kernel
theorem dX3_restore_11 : decode cX3_restore 11 = .ok (.getfield 16, 3) := by decide +kernel
theorem dX3_restore_14 : decode cX3_restore 14 = .ok (.aload_n 0, 1) := by decide +kernel
theorem dX3_restore_15 : decode cX3_restore 15 = .ok (.getfield 10, 3) := by decide +kernel
theorem dX3_restore_18 : decode cX3_restore 18 = .ok (.invokevirtual 50, 3) := by decide +kernel
theorem dX3_restore_21 : decode cX3_restore 21 = .ok (.aload_n 0, 1) := by decide +kernel
theorem dX3_restore_22 : decode cX3_restore 22 = .ok (.getfield 10, 3) := by decide +kernel
theorem dX3_restore_25 : decode cX3_restore 25 = .ok (.aload_n 0, 1) := by decide +kernel
theorem dX3_restore_26 : decode cX3_restore 26 = .ok (.getfield 22, 3) := by decide +kernel
theorem dX3_restore_29 : decode cX3_restore 29 = .ok (.invokevirtual 50, 3) := by decide +kernel
theorem dX3_restore_32 : decode cX3_restore 32 = .ok (.aload_n 0, 1) := by decide +kernel
theorem dX3_restore_33 : decode cX3_restore 33 = .ok (.aload_n 0, 1) := by decide +kernel
theorem dX3_restore_34 : decode cX3_restore 34 = .ok (.getfield 10, 3) := by decide +kernel
theorem dX3_restore_37 : decode cX3_restore 37 = .ok (.getfield 96, 3) := by decide +kernel
theorem dX3_restore_40 : decode cX3_restore 40 = .ok (.invokevirtual 58, 3) := by decide +kernel
theorem dX3_restore_43 : decode cX3_restore 43 = .ok (.ireturn, 1) := by decide +kernel
theorem dX3_shape_0 : decode cX3_shape 0 = .ok (.aload_n 0, 1) := by decide +kernel
theorem dX3_shape_1 : decode cX3_shape 1 = .ok (.getfield 10, 3) := by decide +kernel
theorem dX3_shape_4 : decode cX3_shape 4 = .ok (.iload_n 1, 1) := by decide +kernel
theorem dX3_shape_5 : decode cX3_shape 5 = .ok (.iload_n 2, 1) := by decide +kernel
theorem dX3_shape_6 : decode cX3_shape 6 = .ok (.invokevirtual 99, 3) := by decide +kernel
theorem dX3_shape_9 : decode cX3_shape 9 = .ok (.ireturn, 1) := by decide +kernel
theorem dX3_heat_0 : decode cX3_heat 0 = .ok (.aload_n 0, 1) := by decide +kernel
theorem dX3_heat_1 : decode cX3_heat 1 = .ok (.getfield 10, 3) := by decide +kernel
theorem dX3_heat_4 : decode cX3_heat 4 = .ok (.iload_n 1, 1) := by decide +kernel
theorem dX3_heat_5 : decode cX3_heat 5 = .ok (.invokevirtual 102, 3) := by decide +kernel
theorem dX3_heat_8 : decode cX3_heat 8 = .ok (.ireturn, 1) := by decide +kernel
theorem dX3_reason_0 : decode cX3_reason 0 = .ok (.aload_n 0, 1) := by decide +kernel
theorem dX3_reason_1 : decode cX3_reason 1 = .ok (.getfield 10, 3) := by decide +kernel
theorem dX3_reason_4 : decode cX3_reason 4 = .ok (.iload_n 1, 1) := by decide +kernel
theorem dX3_reason_5 : decode cX3_reason 5 = .ok (.invokevirtual 105, 3) := by decide +kernel
theorem dX3_reason_8 : decode cX3_reason 8 = .ok (.ifCond .eq 14, 3) := by decide +kernel
theorem dX3_reason_11 : decode cX3_reason 11 = .ok (.aload_n 0, 1) := by decide +kernel
theorem dX3_reason_12 : decode cX3_reason 12 = .ok (.getfield 10, 3) := by decide +kernel
theorem dX3_reason_15 : decode cX3_reason 15 = .ok (.iload_n 1, 1) := by decide +kernel
theorem dX3_reason_16 : decode cX3_reason 16 = .ok (.invokevirtual 109, 3) := by decide +kernel
theorem dX3_reason_19 : decode cX3_reason 19 = .ok (.goto 4, 3) := by decide +kernel
theorem dX3_reason_22 : decode cX3_reason 22 = .ok (.iconst (-1), 1) := by decide +kernel
theorem dX3_reason_23 : decode cX3_reason 23 = .ok (.ireturn, 1) := by decide +kernel
theorem dX3_takes_0 : decode cX3_takes 0 = .ok (.aload_n 0, 1) := by decide +kernel
theorem dX3_takes_1 : decode cX3_takes 1 = .ok (.getfield 10, 3) := by decide +kernel
theorem dX3_takes_4 : decode cX3_takes 4 = .ok (.iload_n 1, 1) := by decide +kernel
theorem dX3_takes_5 : decode cX3_takes 5 = .ok (.invokevirtual 112, 3) := by decide +kernel
theorem dX3_takes_8 : decode cX3_takes 8 = .ok (.ireturn, 1) := by decide +kernel
theorem dX3_coolsIn_0 : decode cX3_coolsIn 0 = .ok (.aload_n 0, 1) := by decide +kernel
theorem dX3_coolsIn_1 : decode cX3_coolsIn 1 = .ok (.getfield 10, 3) := by decide +kernel
theorem dX3_coolsIn_4 : decode cX3_coolsIn 4 = .ok (.iload_n 1, 1) := by decide +kernel
theorem dX3_coolsIn_5 : decode cX3_coolsIn 5 = .ok (.invokevirtual 115, 3) := by decide +kernel
theorem dX3_coolsIn_8 : decode cX3_coolsIn 8 = .ok (.ireturn, 1) := by decide +kernel
theorem dX3_best_0 : decode cX3_best 0 = .ok (.aload_n 0, 1) := by decide +kernel
theorem dX3_best_1 : decode cX3_best 1 = .ok (.getfield 10, 3) := by decide +kernel
theorem dX3_best_4 : decode cX3_best 4 = .ok (.invokevirtual 118, 3) := by decide +kernel
theorem dX3_best_7 : decode cX3_best 7 = .ok (.ireturn, 1) := by decide +kernel
theorem dX3_ordered_0 : decode cX3_ordered 0 = .ok (.iload_n 1, 1) := by decide +kernel
theorem dX3_ordered_1 : decode cX3_ordered 1 = .ok (.ifCond .ge 6, 3) := by decide +kernel
theorem dX3_ordered_4 : decode cX3_ordered 4 = .ok (.bipush (-2), 2) := by decide +kernel
theorem dX3_ordered_6 : decode cX3_ordered 6 = .ok (.ireturn, 1) := by decide +kernel
theorem dX3_ordered_7 : decode cX3_ordered 7 = .ok (.iload_n 1, 1) := by decide +kernel
theorem dX3_ordered_8 : decode cX3_ordered 8 = .ok (.bipush 12, 2) := by decide +kernel
theorem dX3_ordered_10 : decode cX3_ordered 10 = .ok (.if_icmp .lt 6, 3) := by decide +kernel
theorem dX3_ordered_13 : decode cX3_ordered 13 = .ok (.bipush (-5), 2) := by decide +kernel
theorem dX3_ordered_15 : decode cX3_ordered 15 = .ok (.ireturn, 1) := by decide +kernel
theorem dX3_ordered_16 : decode cX3_ordered 16 = .ok (.aload_n 0, 1) := by decide +kernel
theorem dX3_ordered_17 : decode cX3_ordered 17 = .ok (.getfield 19, 3) := by decide +kernel
theorem dX3_ordered_20 : decode cX3_ordered 20 = .ok (.aload_n 0, 1) := by decide +kernel
theorem dX3_ordered_21 : decode cX3_ordered 21 = .ok (.getfield 10, 3) := by decide +kernel
theorem dX3_ordered_24 : decode cX3_ordered 24 = .ok (.invokevirtual 50, 3) := by decide +kernel
theorem dX3_ordered_27 : decode cX3_ordered 27 = .ok (.bipush (-5), 2) := by decide +kernel
theorem dX3_ordered_29 : decode cX3_ordered 29 = .ok (.istore_n 2, 1) := by decide +kernel
theorem dX3_ordered_30 : decode cX3_ordered 30 = .ok (.iconst 0, 1) := by decide +kernel
theorem dX3_ordered_31 : decode cX3_ordered 31 = .ok (.istore_n 3, 1) := by decide +kernel
theorem dX3_ordered_32 : decode cX3_ordered 32 = .ok (.iload_n 3, 1) := by decide +kernel
theorem dX3_ordered_33 : decode cX3_ordered 33 = .ok (.iload_n 1, 1) := by decide +kernel
theorem dX3_ordered_34 : decode cX3_ordered 34 = .ok (.if_icmp .gt 26, 3) := by decide +kernel
theorem dX3_ordered_37 : decode cX3_ordered 37 = .ok (.aload_n 0, 1) := by decide +kernel
theorem dX3_ordered_38 : decode cX3_ordered 38 = .ok (.getfield 19, 3) := by decide +kernel
theorem dX3_ordered_41 : decode cX3_ordered 41 = .ok (.invokevirtual 121, 3) := by decide +kernel
theorem dX3_ordered_44 : decode cX3_ordered 44 = .ok (.istore_n 2, 1) := by decide +kernel
theorem dX3_ordered_45 : decode cX3_ordered 45 = .ok (.iload_n 2, 1) := by decide +kernel
theorem dX3_ordered_46 : decode cX3_ordered 46 = .ok (.bipush (-5), 2) := by decide +kernel
theorem dX3_ordered_48 : decode cX3_ordered 48 = .ok (.if_icmp .ne 6, 3) := by decide +kernel
theorem dX3_ordered_51 : decode cX3_ordered 51 = .ok (.bipush (-5), 2) := by decide +kernel
theorem dX3_ordered_53 : decode cX3_ordered 53 = .ok (.ireturn, 1) := by decide +kernel
theorem dX3_ordered_54 : decode cX3_ordered 54 = .ok (.iinc 3 1, 3) := by decide +kernel
theorem dX3_ordered_57 : decode cX3_ordered 57 = .ok (.goto (-25), 3) := by decide +kernel
theorem dX3_ordered_60 : decode cX3_ordered 60 = .ok (.iload_n 2, 1) := by decide +kernel
theorem dX3_ordered_61 : decode cX3_ordered 61 = .ok (.ireturn, 1) := by decide +kernel
theorem dX3_allTakes_0 : decode cX3_allTakes 0 = .ok (.aload_n 0, 1) := by decide +kernel
theorem dX3_allTakes_1 : decode cX3_allTakes 1 = .ok (.getfield 19, 3) := by decide +kernel
theorem dX3_allTakes_4 : decode cX3_allTakes 4 = .ok (.aload_n 0, 1) := by decide +kernel
theorem dX3_allTakes_5 : decode cX3_allTakes 5 = .ok (.getfield 10, 3) := by decide +kernel
theorem dX3_allTakes_8 : decode cX3_allTakes 8 = .ok (.invokevirtual 50, 3) := by decide +kernel
theorem dX3_allTakes_11 : decode cX3_allTakes 11 = .ok (.iconst 0, 1) := by decide +kernel
theorem dX3_allTakes_12 : decode cX3_allTakes 12 = .ok (.istore_n 1, 1) := by decide +kernel
theorem dX3_allTakes_13 : decode cX3_allTakes 13 = .ok (.iload_n 1, 1) := by decide +kernel
theorem dX3_allTakes_14 : decode cX3_allTakes 14 = .ok (.bipush 12, 2) := by decide +kernel
theorem dX3_allTakes_16 : decode cX3_allTakes 16 = .ok (.if_icmp .ge 24, 3) := by decide +kernel
theorem dX3_allTakes_19 : decode cX3_allTakes 19 = .ok (.aload_n 0, 1) := by decide +kernel
theorem dX3_allTakes_20 : decode cX3_allTakes 20 = .ok (.getfield 19, 3) := by decide +kernel
theorem dX3_allTakes_23 : decode cX3_allTakes 23 = .ok (.invokevirtual 121, 3) := by decide +kernel
theorem dX3_allTakes_26 : decode cX3_allTakes 26 = .ok (.bipush (-5), 2) := by decide +kernel
theorem dX3_allTakes_28 : decode cX3_allTakes 28 = .ok (.if_icmp .ne 6, 3) := by decide +kernel
theorem dX3_allTakes_31 : decode cX3_allTakes 31 = .ok (.goto 9, 3) := by decide +kernel
theorem dX3_allTakes_34 : decode cX3_allTakes 34 = .ok (.iinc 1 1, 3) := by decide +kernel
theorem dX3_allTakes_37 : decode cX3_allTakes 37 = .ok (.goto (-24), 3) := by decide +kernel
theorem dX3_allTakes_40 : decode cX3_allTakes 40 = .ok (.aload_n 0, 1) := by decide +kernel
theorem dX3_allTakes_41 : decode cX3_allTakes 41 = .ok (.getfield 19, 3) := by decide +kernel
theorem dX3_allTakes_44 : decode cX3_allTakes 44 = .ok (.iconst 0, 1) := by decide +kernel
theorem dX3_allTakes_45 : decode cX3_allTakes 45 = .ok (.invokevirtual 126, 3) := by decide +kernel
theorem dX3_allTakes_48 : decode cX3_allTakes 48 = .ok (.ifCond .ne 21, 3) := by decide +kernel
theorem dX3_allTakes_51 : decode cX3_allTakes 51 = .ok (.aload_n 0, 1) := by decide +kernel
theorem dX3_allTakes_52 : decode cX3_allTakes 52 = .ok (.getfield 19, 3) := by decide +kernel
theorem dX3_allTakes_55 : decode cX3_allTakes 55 = .ok (.getfield 129, 3) := by decide +kernel
theorem dX3_allTakes_58 : decode cX3_allTakes 58 = .ok (.aload_n 0, 1) := by decide +kernel
theorem dX3_allTakes_59 : decode cX3_allTakes 59 = .ok (.getfield 10, 3) := by decide +kernel
theorem dX3_allTakes_62 : decode cX3_allTakes 62 = .ok (.getfield 129, 3) := by decide +kernel
theorem dX3_allTakes_65 : decode cX3_allTakes 65 = .ok (.isub, 1) := by decide +kernel
theorem dX3_allTakes_66 : decode cX3_allTakes 66 = .ok (.goto 5, 3) := by decide +kernel
theorem dX3_allTakes_69 : decode cX3_allTakes 69 = .ok (.bipush (-5), 2) := by decide +kernel
theorem dX3_allTakes_71 : decode cX3_allTakes 71 = .ok (.ireturn, 1) := by decide +kernel
theorem dX3_count_0 : decode cX3_count 0 = .ok (.iload_n 1, 1) := by decide +kernel
theorem dX3_count_1 : decode cX3_count 1 = .ok (.bipush 17, 2) := by decide +kernel
theorem dX3_count_3 : decode cX3_count 3 = .ok (.if_icmp .ne 8, 3) := by decide +kernel
theorem dX3_count_6 : decode cX3_count 6 = .ok (.aload_n 0, 1) := by decide +kernel
theorem dX3_count_7 : decode cX3_count 7 = .ok (.getfield 36, 3) := by decide +kernel
theorem dX3_count_10 : decode cX3_count 10 = .ok (.ireturn, 1) := by decide +kernel
theorem dX3_count_11 : decode cX3_count 11 = .ok (.iload_n 1, 1) := by decide +kernel
theorem dX3_count_12 : decode cX3_count 12 = .ok (.bipush 18, 2) := by decide +kernel
theorem dX3_count_14 : decode cX3_count 14 = .ok (.if_icmp .ne 11, 3) := by decide +kernel
theorem dX3_count_17 : decode cX3_count 17 = .ok (.aload_n 0, 1) := by decide +kernel
theorem dX3_count_18 : decode cX3_count 18 = .ok (.getfield 32, 3) := by decide +kernel
theorem dX3_count_21 : decode cX3_count 21 = .ok (.getfield 132, 3) := by decide +kernel
theorem dX3_count_24 : decode cX3_count 24 = .ok (.ireturn, 1) := by decide +kernel
theorem dX3_count_25 : decode cX3_count 25 = .ok (.aload_n 0, 1) := by decide +kernel
theorem dX3_count_26 : decode cX3_count 26 = .ok (.getfield 10, 3) := by decide +kernel
theorem dX3_count_29 : decode cX3_count 29 = .ok (.iload_n 1, 1) := by decide +kernel
theorem dX3_count_30 : decode cX3_count 30 = .ok (.invokevirtual 135, 3) := by decide +kernel
theorem dX3_count_33 : decode cX3_count 33 = .ok (.ireturn, 1) := by decide +kernel
theorem dX3_recorded_0 : decode cX3_recorded 0 = .ok (.iload_n 1, 1) := by decide +kernel
theorem dX3_recorded_1 : decode cX3_recorded 1 = .ok (.ifCond .lt 41, 3) := by decide +kernel
theorem dX3_recorded_4 : decode cX3_recorded 4 = .ok (.aload_n 0, 1) := by decide +kernel
theorem dX3_recorded_5 : decode cX3_recorded 5 = .ok (.getfield 36, 3) := by decide +kernel
theorem dX3_recorded_8 : decode cX3_recorded 8 = .ok (.iconst 4, 1) := by decide +kernel
theorem dX3_recorded_9 : decode cX3_recorded 9 = .ok (.if_icmp .lt 7, 3) := by decide +kernel
theorem dX3_recorded_12 : decode cX3_recorded 12 = .ok (.aload_n 0, 1) := by decide +kernel
theorem dX3_recorded_13 : decode cX3_recorded 13 = .ok (.invokevirtual 138, 3) := by decide +kernel
theorem dX3_recorded_16 : decode cX3_recorded 16 = .ok (.aload_n 0, 1) := by decide +kernel
theorem dX3_recorded_17 : decode cX3_recorded 17 = .ok (.getfield 25, 3) := by decide +kernel
theorem dX3_recorded_20 : decode cX3_recorded 20 = .ok (.aload_n 0, 1) := by decide +kernel
theorem dX3_recorded_21 : decode cX3_recorded 21 = .ok (.getfield 36, 3) := by decide +kernel
theorem dX3_recorded_24 : decode cX3_recorded 24 = .ok (.aaload, 1) := by decide +kernel
theorem dX3_recorded_25 : decode cX3_recorded 25 = .ok (.aload_n 0, 1) := by decide +kernel
theorem dX3_recorded_26 : decode cX3_recorded 26 = .ok (.getfield 16, 3) := by decide +kernel
theorem dX3_recorded_29 : decode cX3_recorded 29 = .ok (.invokevirtual 50, 3) := by decide +kernel
theorem dX3_recorded_32 : decode cX3_recorded 32 = .ok (.aload_n 0, 1) := by decide +kernel
theorem dX3_recorded_33 : decode cX3_recorded 33 = .ok (.dup, 1) := by decide +kernel
theorem dX3_recorded_34 : decode cX3_recorded 34 = .ok (.getfield 36, 3) := by decide +kernel
theorem dX3_recorded_37 : decode cX3_recorded 37 = .ok (.iconst 1, 1) := by decide +kernel
theorem dX3_recorded_38 : decode cX3_recorded 38 = .ok (.iadd, 1) := by decide +kernel
theorem dX3_recorded_39 : decode cX3_recorded 39 = .ok (.putfield 36, 3) := by decide +kernel
theorem dX3_recorded_42 : decode cX3_recorded 42 = .ok (.iload_n 1, 1) := by decide +kernel
theorem dX3_recorded_43 : decode cX3_recorded 43 = .ok (.ireturn, 1) := by decide +kernel
theorem dX3_dropOldestState_0 : decode cX3_dropOldestState 0 = .ok (.aload_n 0, 1) := by decide +kernel
theorem dX3_dropOldestState_1 : decode cX3_dropOldestState 1 = .ok (.getfield 25, 3) := by decide +kernel
theorem dX3_dropOldestState_4 : decode cX3_dropOldestState 4 = .ok (.iconst 0, 1) := by decide +kernel
theorem dX3_dropOldestState_5 : decode cX3_dropOldestState 5 = .ok (.aaload, 1) := by decide +kernel
theorem dX3_dropOldestState_6 : decode cX3_dropOldestState 6 = .ok (.astore_n 1, 1) := by decide +kernel
theorem dX3_dropOldestState_7 : decode cX3_dropOldestState 7 = .ok (.iconst 1, 1) := by decide +kernel
theorem dX3_dropOldestState_8 : decode cX3_dropOldestState 8 = .ok (.istore_n 2, 1) := by decide +kernel
theorem dX3_dropOldestState_9 : decode cX3_dropOldestState 9 = .ok (.iload_n 2, 1) := by decide +kernel
theorem dX3_dropOldestState_10 : decode cX3_dropOldestState 10 = .ok (.iconst 4, 1) := by decide +kernel
theorem dX3_dropOldestState_11 : decode cX3_dropOldestState 11 = .ok (.if_icmp .ge 23, 3) := by decide +kernel
theorem dX3_dropOldestState_14 : decode cX3_dropOldestState 14 = .ok (.aload_n 0, 1) := by decide +kernel
theorem dX3_dropOldestState_15 : decode cX3_dropOldestState 15 = .ok (.getfield 25, 3) := by decide +kernel
theorem dX3_dropOldestState_18 : decode cX3_dropOldestState 18 = .ok (.iload_n 2, 1) := by decide +kernel
theorem dX3_dropOldestState_19 : decode cX3_dropOldestState 19 = .ok (.iconst 1, 1) := by decide +kernel
theorem dX3_dropOldestState_20 : decode cX3_dropOldestState 20 = .ok (.isub, 1) := by decide +kernel
theorem dX3_dropOldestState_21 : decode cX3_dropOldestState 21 = .ok (.aload_n 0, 1) := by decide +kernel
theorem dX3_dropOldestState_22 : decode cX3_dropOldestState 22 = .ok (.getfield 25, 3) := by decide +kernel
theorem dX3_dropOldestState_25 : decode cX3_dropOldestState 25 = .ok (.iload_n 2, 1) := by decide +kernel
theorem dX3_dropOldestState_26 : decode cX3_dropOldestState 26 = .ok (.aaload, 1) := by decide +kernel
theorem dX3_dropOldestState_27 : decode cX3_dropOldestState 27 = .ok (.aastore, 1) := by decide +kernel
theorem dX3_dropOldestState_28 : decode cX3_dropOldestState 28 = .ok (.iinc 2 1, 3) := by decide +kernel
theorem dX3_dropOldestState_31 : decode cX3_dropOldestState 31 = .ok (.goto (-22), 3) := by decide +kernel
theorem dX3_dropOldestState_34 : decode cX3_dropOldestState 34 = .ok (.aload_n 0, 1) := by decide +kernel
theorem dX3_dropOldestState_35 : decode cX3_dropOldestState 35 = .ok (.getfield 25, 3) := by decide +kernel
theorem dX3_dropOldestState_38 : decode cX3_dropOldestState 38 = .ok (.iconst 3, 1) := by decide +kernel
theorem dX3_dropOldestState_39 : decode cX3_dropOldestState 39 = .ok (.aload_n 1, 1) := by decide +kernel
theorem dX3_dropOldestState_40 : decode cX3_dropOldestState 40 = .ok (.aastore, 1) := by decide +kernel
theorem dX3_dropOldestState_41 : decode cX3_dropOldestState 41 = .ok (.aload_n 0, 1) := by decide +kernel
theorem dX3_dropOldestState_42 : decode cX3_dropOldestState 42 = .ok (.iconst 3, 1) := by decide +kernel
theorem dX3_dropOldestState_43 : decode cX3_dropOldestState 43 = .ok (.putfield 36, 3) := by decide +kernel
theorem dX3_dropOldestState_46 : decode cX3_dropOldestState 46 = .ok (.return_, 1) := by decide +kernel
theorem dX3_isIn_0 : decode cX3_isIn 0 = .ok (.iload_n 0, 1) := by decide +kernel
theorem dX3_isIn_1 : decode cX3_isIn 1 = .ok (.iload_n 1, 1) := by decide +kernel
theorem dX3_isIn_2 : decode cX3_isIn 2 = .ok (.if_icmp .lt 12, 3) := by decide +kernel
theorem dX3_isIn_5 : decode cX3_isIn 5 = .ok (.iload_n 0, 1) := by decide +kernel
theorem dX3_isIn_6 : decode cX3_isIn 6 = .ok (.iload_n 2, 1) := by decide +kernel
theorem dX3_isIn_7 : decode cX3_isIn 7 = .ok (.if_icmp .gt 7, 3) := by decide +kernel
theorem dX3_isIn_10 : decode cX3_isIn 10 = .ok (.iconst 1, 1) := by decide +kernel
theorem dX3_isIn_11 : decode cX3_isIn 11 = .ok (.goto 4, 3) := by decide +kernel
theorem dX3_isIn_14 : decode cX3_isIn 14 = .ok (.iconst 0, 1) := by decide +kernel
theorem dX3_isIn_15 : decode cX3_isIn 15 = .ok (.ireturn, 1) := by decide +kernel
theorem dL_cell_0 : decode cL_cell 0 = .ok (.iload_n 1, 1) := by decide +kernel
theorem dL_cell_1 : decode cL_cell 1 = .ok (.aload_n 0, 1) := by decide +kernel
theorem dL_cell_2 : decode cL_cell 2 = .ok (.arraylength, 1) := by decide +kernel
theorem dL_cell_3 : decode cL_cell 3 = .ok (.if_icmp .ge 9, 3) := by decide +kernel
theorem dL_cell_6 : decode cL_cell 6 = .ok (.aload_n 0, 1) := by decide +kernel
theorem dL_cell_7 : decode cL_cell 7 = .ok (.iload_n 1, 1) := by decide +kernel
theorem dL_cell_8 : decode cL_cell 8 = .ok (.iaload, 1) := by decide +kernel
theorem dL_cell_9 : decode cL_cell 9 = .ok (.goto 11, 3) := by decide +kernel
theorem dL_cell_12 : decode cL_cell 12 = .ok (.ldc 7, 2) := by decide +kernel
theorem dL_cell_14 : decode cL_cell 14 = .ok (.iload_n 1, 1) := by decide +kernel
theorem dL_cell_15 : decode cL_cell 15 = .ok (.imul, 1) := by decide +kernel
theorem dL_cell_16 : decode cL_cell 16 = .ok (.sipush 977, 3) := by decide +kernel
theorem dL_cell_19 : decode cL_cell 19 = .ok (.iadd, 1) := by decide +kernel
theorem dL_cell_20 : decode cL_cell 20 = .ok (.ireturn, 1) := by decide +kernel
theorem dL_low_0 : decode cL_low 0 = .ok (.iload_n 0, 1) := by decide +kernel
theorem dL_low_1 : decode cL_low 1 = .ok (.ldc 8, 2) := by decide +kernel
theorem dL_low_3 : decode cL_low 3 = .ok (.iand, 1) := by decide +kernel
theorem dL_low_4 : decode cL_low 4 = .ok (.iload_n 1, 1) := by decide +kernel
theorem dL_low_5 : decode cL_low 5 = .ok (.irem, 1) := by decide +kernel
theorem dL_low_6 : decode cL_low 6 = .ok (.ireturn, 1) := by decide +kernel
theorem dL_act_0 : decode cL_act 0 = .ok (.iload_n 2, 1) := by decide +kernel
theorem dL_act_1 : decode cL_act 1 = .ok (.aload_n 0, 1) := by decide +kernel
theorem dL_act_2 : decode cL_act 2 = .ok (.iconst 0, 1) := by decide +kernel
theorem dL_act_3 : decode cL_act 3 = .ok (.invokevirtual 9, 3) := by decide +kernel
theorem dL_act_6 : decode cL_act 6 = .ok (.iconst 1, 1) := by decide +kernel
theorem dL_act_7 : decode cL_act 7 = .ok (.iadd, 1) := by decide +kernel
theorem dL_act_8 : decode cL_act 8 = .ok (.invokestatic 15, 3) := by decide +kernel
theorem dL_act_11 : decode cL_act 11 = .ok (.istore 4, 2) := by decide +kernel
theorem dL_act_13 : decode cL_act 13 = .ok (.iload_n 1, 1) := by decide +kernel
theorem dL_act_14 : decode cL_act 14 = .ok (.tableswitch 142 0 11 #[62, 62, 62, 99, 99, 107, 107, 107, 107, 114, 126, 137], 62) := by decide +kernel
theorem dL_act_76 : decode cL_act 76 = .ok (.aload_n 0, 1) := by decide +kernel
theorem dL_act_77 : decode cL_act 77 = .ok (.iload_n 2, 1) := by decide +kernel
theorem dL_act_78 : decode cL_act 78 = .ok (.bipush 31, 2) := by decide +kernel
theorem dL_act_80 : decode cL_act 80 = .ok (.invokestatic 15, 3) := by decide +kernel
theorem dL_act_83 : decode cL_act 83 = .ok (.iload_n 2, 1) := by decide +kernel
theorem dL_act_84 : decode cL_act 84 = .ok (.iconst 5, 1) := by decide +kernel
theorem dL_act_85 : decode cL_act 85 = .ok (.ishr, 1) := by decide +kernel
theorem dL_act_86 : decode cL_act 86 = .ok (.bipush 23, 2) := by decide +kernel
theorem dL_act_88 : decode cL_act 88 = .ok (.invokestatic 15, 3) := by decide +kernel
theorem dL_act_91 : decode cL_act 91 = .ok (.iconst 2, 1) := by decide +kernel
theorem dL_act_92 : decode cL_act 92 = .ok (.iload_n 3, 1) := by decide +kernel
theorem dL_act_93 : decode cL_act 93 = .ok (.bipush 14, 2) := by decide +kernel
theorem dL_act_95 : decode cL_act 95 = .ok (.invokestatic 15, 3) := by decide +kernel
theorem dL_act_98 : decode cL_act 98 = .ok (.iadd, 1) := by decide +kernel
theorem dL_act_99 : decode cL_act 99 = .ok (.iconst 2, 1) := by decide +kernel
theorem dL_act_100 : decode cL_act 100 = .ok (.iload_n 3, 1) := by decide +kernel
theorem dL_act_101 : decode cL_act 101 = .ok (.iconst 4, 1) := by decide +kernel
theorem dL_act_102 : decode cL_act 102 = .ok (.ishr, 1) := by decide +kernel
theorem dL_act_103 : decode cL_act 103 = .ok (.bipush 10, 2) := by decide +kernel
theorem dL_act_105 : decode cL_act 105 = .ok (.invokestatic 15, 3) := by decide +kernel
theorem dL_act_108 : decode cL_act 108 = .ok (.iadd, 1) := by decide +kernel
theorem dL_act_109 : decode cL_act 109 = .ok (.invokevirtual 21, 3) := by decide +kernel
theorem dL_act_112 : decode cL_act 112 = .ok (.ireturn, 1) := by decide +kernel
theorem dL_act_113 : decode cL_act 113 = .ok (.aload_n 0, 1) := by decide +kernel
theorem dL_act_114 : decode cL_act 114 = .ok (.iload 4, 2) := by decide +kernel
theorem dL_act_116 : decode cL_act 116 = .ok (.iload_n 3, 1) := by decide +kernel
theorem dL_act_117 : decode cL_act 117 = .ok (.invokestatic 25, 3) := by decide +kernel
theorem dL_act_120 : decode cL_act 120 = .ok (.ireturn, 1) := by decide +kernel
theorem dL_act_121 : decode cL_act 121 = .ok (.aload_n 0, 1) := by decide +kernel
theorem dL_act_122 : decode cL_act 122 = .ok (.iload 4, 2) := by decide +kernel
theorem dL_act_124 : decode cL_act 124 = .ok (.invokevirtual 29, 3) := by decide +kernel
theorem dL_act_127 : decode cL_act 127 = .ok (.ireturn, 1) := by decide +kernel
theorem dL_act_128 : decode cL_act 128 = .ok (.aload_n 0, 1) := by decide +kernel
theorem dL_act_129 : decode cL_act 129 = .ok (.iload 4, 2) := by decide +kernel
theorem dL_act_131 : decode cL_act 131 = .ok (.iload_n 3, 1) := by decide +kernel
theorem dL_act_132 : decode cL_act 132 = .ok (.iconst 5, 1) := by decide +kernel
theorem dL_act_133 : decode cL_act 133 = .ok (.invokestatic 15, 3) := by decide +kernel
theorem dL_act_136 : decode cL_act 136 = .ok (.invokevirtual 32, 3) := by decide +kernel
theorem dL_act_139 : decode cL_act 139 = .ok (.ireturn, 1) := by decide +kernel
theorem dL_act_140 : decode cL_act 140 = .ok (.aload_n 0, 1) := by decide +kernel
theorem dL_act_141 : decode cL_act 141 = .ok (.iload_n 2, 1) := by decide +kernel
theorem dL_act_142 : decode cL_act 142 = .ok (.bipush 60, 2) := by decide +kernel
theorem dL_act_144 : decode cL_act 144 = .ok (.invokestatic 15, 3) := by decide +kernel
theorem dL_act_147 : decode cL_act 147 = .ok (.invokevirtual 35, 3) := by decide +kernel
theorem dL_act_150 : decode cL_act 150 = .ok (.ireturn, 1) := by decide +kernel
theorem dL_act_151 : decode cL_act 151 = .ok (.aload_n 0, 1) := by decide +kernel
theorem dL_act_152 : decode cL_act 152 = .ok (.invokevirtual 38, 3) := by decide +kernel
theorem dL_act_155 : decode cL_act 155 = .ok (.ireturn, 1) := by decide +kernel
theorem dL_act_156 : decode cL_act 156 = .ok (.iload_n 2, 1) := by decide +kernel
theorem dL_act_157 : decode cL_act 157 = .ok (.iconst 5, 1) := by decide +kernel
theorem dL_act_158 : decode cL_act 158 = .ok (.invokestatic 15, 3) := by decide +kernel
theorem dL_act_161 : decode cL_act 161 = .ok (.istore 5, 2) := by decide +kernel
theorem dL_act_163 : decode cL_act 163 = .ok (.aload_n 0, 1) := by decide +kernel
theorem dL_act_164 : decode cL_act 164 = .ok (.iload 5, 2) := by decide +kernel
theorem dL_act_166 : decode cL_act 166 = .ok (.iload 5, 2) := by decide +kernel
theorem dL_act_168 : decode cL_act 168 = .ok (.iconst 2, 1) := by decide +kernel
theorem dL_act_169 : decode cL_act 169 = .ok (.if_icmp .ne 12, 3) := by decide +kernel
theorem dL_act_172 : decode cL_act 172 = .ok (.iload_n 3, 1) := by decide +kernel
theorem dL_act_173 : decode cL_act 173 = .ok (.bipush 120, 2) := by decide +kernel
theorem dL_act_175 : decode cL_act 175 = .ok (.invokestatic 15, 3) := by decide +kernel
theorem dL_act_178 : decode cL_act 178 = .ok (.goto 21, 3) := by decide +kernel
theorem dL_act_181 : decode cL_act 181 = .ok (.iload 5, 2) := by decide +kernel
theorem dL_act_183 : decode cL_act 183 = .ok (.iconst 3, 1) := by decide +kernel
theorem dL_act_184 : decode cL_act 184 = .ok (.if_icmp .ne 9, 3) := by decide +kernel
theorem dL_act_187 : decode cL_act 187 = .ok (.iload_n 3, 1) := by decide +kernel
theorem dL_act_188 : decode cL_act 188 = .ok (.iconst 1, 1) := by decide +kernel
theorem dL_act_189 : decode cL_act 189 = .ok (.iand, 1) := by decide +kernel
theorem dL_act_190 : decode cL_act 190 = .ok (.goto 9, 3) := by decide +kernel
theorem dL_act_193 : decode cL_act 193 = .ok (.iload_n 3, 1) := by decide +kernel
theorem dL_act_194 : decode cL_act 194 = .ok (.bipush 9, 2) := by decide +kernel
theorem dL_act_196 : decode cL_act 196 = .ok (.invokestatic 15, 3) := by decide +kernel
theorem dL_act_199 : decode cL_act 199 = .ok (.invokevirtual 42, 3) := by decide +kernel
theorem dL_act_202 : decode cL_act 202 = .ok (.ireturn, 1) := by decide +kernel
theorem dL_within_0 : decode cL_within 0 = .ok (.iload_n 1, 1) := by decide +kernel
theorem dL_within_1 : decode cL_within 1 = .ok (.aload_n 0, 1) := by decide +kernel
theorem dL_within_2 : decode cL_within 2 = .ok (.iconst 0, 1) := by decide +kernel
theorem dL_within_3 : decode cL_within 3 = .ok (.invokevirtual 9, 3) := by decide +kernel
theorem dL_within_6 : decode cL_within 6 = .ok (.if_icmp .eq 23, 3) := by decide +kernel
theorem dL_within_9 : decode cL_within 9 = .ok (.aload_n 0, 1) := by decide +kernel
theorem dL_within_10 : decode cL_within 10 = .ok (.iload_n 1, 1) := by decide +kernel
theorem dL_within_11 : decode cL_within 11 = .ok (.iconst 2, 1) := by decide +kernel
theorem dL_within_12 : decode cL_within 12 = .ok (.invokevirtual 45, 3) := by decide +kernel
theorem dL_within_15 : decode cL_within 15 = .ok (.iconst 4, 1) := by decide +kernel
theorem dL_within_16 : decode cL_within 16 = .ok (.if_icmp .lt 13, 3) := by decide +kernel
theorem dL_within_19 : decode cL_within 19 = .ok (.aload_n 0, 1) := by decide +kernel
theorem dL_within_20 : decode cL_within 20 = .ok (.iload_n 1, 1) := by decide +kernel
theorem dL_within_21 : decode cL_within 21 = .ok (.iconst 3, 1) := by decide +kernel
theorem dL_within_22 : decode cL_within 22 = .ok (.invokevirtual 45, 3) := by decide +kernel
theorem dL_within_25 : decode cL_within 25 = .ok (.iconst 4, 1) := by decide +kernel
theorem dL_within_26 : decode cL_within 26 = .ok (.if_icmp .ge 13, 3) := by decide +kernel
theorem dL_within_29 : decode cL_within 29 = .ok (.aload_n 0, 1) := by decide +kernel
theorem dL_within_30 : decode cL_within 30 = .ok (.iconst 0, 1) := by decide +kernel
theorem dL_within_31 : decode cL_within 31 = .ok (.iconst 0, 1) := by decide +kernel
theorem dL_within_32 : decode cL_within 32 = .ok (.bipush 33, 2) := by decide +kernel
theorem dL_within_34 : decode cL_within 34 = .ok (.iconst 2, 1) := by decide +kernel
theorem dL_within_35 : decode cL_within 35 = .ok (.invokevirtual 21, 3) := by decide +kernel
theorem dL_within_38 : decode cL_within 38 = .ok (.ireturn, 1) := by decide +kernel
theorem dL_within_39 : decode cL_within 39 = .ok (.iconst 2, 1) := by decide +kernel
theorem dL_within_40 : decode cL_within 40 = .ok (.iload_n 2, 1) := by decide +kernel
theorem dL_within_41 : decode cL_within 41 = .ok (.aload_n 0, 1) := by decide +kernel
theorem dL_within_42 : decode cL_within 42 = .ok (.iload_n 1, 1) := by decide +kernel
theorem dL_within_43 : decode cL_within 43 = .ok (.iconst 2, 1) := by decide +kernel
theorem dL_within_44 : decode cL_within 44 = .ok (.invokevirtual 45, 3) := by decide +kernel
theorem dL_within_47 : decode cL_within 47 = .ok (.iconst 3, 1) := by decide +kernel
theorem dL_within_48 : decode cL_within 48 = .ok (.isub, 1) := by decide +kernel
theorem dL_within_49 : decode cL_within 49 = .ok (.invokestatic 15, 3) := by decide +kernel
theorem dL_within_52 : decode cL_within 52 = .ok (.iadd, 1) := by decide +kernel
theorem dL_within_53 : decode cL_within 53 = .ok (.istore_n 3, 1) := by decide +kernel
theorem dL_within_54 : decode cL_within 54 = .ok (.iconst 2, 1) := by decide +kernel
theorem dL_within_55 : decode cL_within 55 = .ok (.iload_n 2, 1) := by decide +kernel
theorem dL_within_56 : decode cL_within 56 = .ok (.iconst 5, 1) := by decide +kernel
theorem dL_within_57 : decode cL_within 57 = .ok (.ishr, 1) := by decide +kernel
theorem dL_within_58 : decode cL_within 58 = .ok (.aload_n 0, 1) := by decide +kernel
theorem dL_within_59 : decode cL_within 59 = .ok (.iload_n 1, 1) := by decide +kernel
theorem dL_within_60 : decode cL_within 60 = .ok (.iconst 3, 1) := by decide +kernel
theorem dL_within_61 : decode cL_within 61 = .ok (.invokevirtual 45, 3) := by decide +kernel
theorem dL_within_64 : decode cL_within 64 = .ok (.iconst 3, 1) := by decide +kernel
theorem dL_within_65 : decode cL_within 65 = .ok (.isub, 1) := by decide +kernel
theorem dL_within_66 : decode cL_within 66 = .ok (.invokestatic 15, 3) := by decide +kernel
theorem dL_within_69 : decode cL_within 69 = .ok (.iadd, 1) := by decide +kernel
theorem dL_within_70 : decode cL_within 70 = .ok (.istore 4, 2) := by decide +kernel
theorem dL_within_72 : decode cL_within 72 = .ok (.aload_n 0, 1) := by decide +kernel
theorem dL_within_73 : decode cL_within 73 = .ok (.aload_n 0, 1) := by decide +kernel
theorem dL_within_74 : decode cL_within 74 = .ok (.iload_n 1, 1) := by decide +kernel
theorem dL_within_75 : decode cL_within 75 = .ok (.iconst 0, 1) := by decide +kernel
theorem dL_within_76 : decode cL_within 76 = .ok (.invokevirtual 45, 3) := by decide +kernel
theorem dL_within_79 : decode cL_within 79 = .ok (.iconst 1, 1) := by decide +kernel
theorem dL_within_80 : decode cL_within 80 = .ok (.iadd, 1) := by decide +kernel
theorem dL_within_81 : decode cL_within 81 = .ok (.aload_n 0, 1) := by decide +kernel
theorem dL_within_82 : decode cL_within 82 = .ok (.iload_n 1, 1) := by decide +kernel
theorem dL_within_83 : decode cL_within 83 = .ok (.iconst 1, 1) := by decide +kernel
theorem dL_within_84 : decode cL_within 84 = .ok (.invokevirtual 45, 3) := by decide +kernel
theorem dL_within_87 : decode cL_within 87 = .ok (.iconst 1, 1) := by decide +kernel
theorem dL_within_88 : decode cL_within 88 = .ok (.iadd, 1) := by decide +kernel
theorem dL_within_89 : decode cL_within 89 = .ok (.iload_n 3, 1) := by decide +kernel
theorem dL_within_90 : decode cL_within 90 = .ok (.iload 4, 2) := by decide +kernel
theorem dL_within_92 : decode cL_within 92 = .ok (.invokevirtual 21, 3) := by decide +kernel
theorem dL_within_95 : decode cL_within 95 = .ok (.ireturn, 1) := by decide +kernel
theorem dL_isInside_0 : decode cL_isInside 0 = .ok (.aload_n 0, 1) := by decide +kernel
theorem dL_isInside_1 : decode cL_isInside 1 = .ok (.iload_n 1, 1) := by decide +kernel
theorem dL_isInside_2 : decode cL_isInside 2 = .ok (.iconst 0, 1) := by decide +kernel
theorem dL_isInside_3 : decode cL_isInside 3 = .ok (.invokevirtual 45, 3) := by decide +kernel
theorem dL_isInside_6 : decode cL_isInside 6 = .ok (.aload_n 0, 1) := by decide +kernel
theorem dL_isInside_7 : decode cL_isInside 7 = .ok (.iload_n 2, 1) := by decide +kernel
theorem dL_isInside_8 : decode cL_isInside 8 = .ok (.iconst 0, 1) := by decide +kernel
theorem dL_isInside_9 : decode cL_isInside 9 = .ok (.invokevirtual 45, 3) := by decide +kernel
theorem dL_isInside_12 : decode cL_isInside 12 = .ok (.if_icmp .le 36, 3) := by decide +kernel
theorem dL_isInside_15 : decode cL_isInside 15 = .ok (.aload_n 0, 1) := by decide +kernel
theorem dL_isInside_16 : decode cL_isInside 16 = .ok (.iload_n 1, 1) := by decide +kernel
theorem dL_isInside_17 : decode cL_isInside 17 = .ok (.iconst 0, 1) := by decide +kernel
theorem dL_isInside_18 : decode cL_isInside 18 = .ok (.invokevirtual 45, 3) := by decide +kernel
theorem dL_isInside_21 : decode cL_isInside 21 = .ok (.aload_n 0, 1) := by decide +kernel
theorem dL_isInside_22 : decode cL_isInside 22 = .ok (.iload_n 1, 1) := by decide +kernel
theorem dL_isInside_23 : decode cL_isInside 23 = .ok (.iconst 2, 1) := by decide +kernel
theorem dL_isInside_24 : decode cL_isInside 24 = .ok (.invokevirtual 45, 3) := by decide +kernel
theorem dL_isInside_27 : decode cL_isInside 27 = .ok (.iadd, 1) := by decide +kernel
theorem dL_isInside_28 : decode cL_isInside 28 = .ok (.aload_n 0, 1) := by decide +kernel
theorem dL_isInside_29 : decode cL_isInside 29 = .ok (.iload_n 2, 1) := by decide +kernel
theorem dL_isInside_30 : decode cL_isInside 30 = .ok (.iconst 0, 1) := by decide +kernel
theorem dL_isInside_31 : decode cL_isInside 31 = .ok (.invokevirtual 45, 3) := by decide +kernel
theorem dL_isInside_34 : decode cL_isInside 34 = .ok (.aload_n 0, 1) := by decide +kernel
theorem dL_isInside_35 : decode cL_isInside 35 = .ok (.iload_n 2, 1) := by decide +kernel
theorem dL_isInside_36 : decode cL_isInside 36 = .ok (.iconst 2, 1) := by decide +kernel
theorem dL_isInside_37 : decode cL_isInside 37 = .ok (.invokevirtual 45, 3) := by decide +kernel
theorem dL_isInside_40 : decode cL_isInside 40 = .ok (.iadd, 1) := by decide +kernel
theorem dL_isInside_41 : decode cL_isInside 41 = .ok (.if_icmp .ge 7, 3) := by decide +kernel
theorem dL_isInside_44 : decode cL_isInside 44 = .ok (.iconst 1, 1) := by decide +kernel
theorem dL_isInside_45 : decode cL_isInside 45 = .ok (.goto 4, 3) := by decide +kernel
theorem dL_isInside_48 : decode cL_isInside 48 = .ok (.iconst 0, 1) := by decide +kernel
theorem dL_isInside_49 : decode cL_isInside 49 = .ok (.istore_n 3, 1) := by decide +kernel
theorem dL_isInside_50 : decode cL_isInside 50 = .ok (.iload_n 3, 1) := by decide +kernel
theorem dL_isInside_51 : decode cL_isInside 51 = .ok (.ifCond .eq 51, 3) := by decide +kernel
theorem dL_isInside_54 : decode cL_isInside 54 = .ok (.aload_n 0, 1) := by decide +kernel
theorem dL_isInside_55 : decode cL_isInside 55 = .ok (.iload_n 1, 1) := by decide +kernel
theorem dL_isInside_56 : decode cL_isInside 56 = .ok (.iconst 1, 1) := by decide +kernel
theorem dL_isInside_57 : decode cL_isInside 57 = .ok (.invokevirtual 45, 3) := by decide +kernel
theorem dL_isInside_60 : decode cL_isInside 60 = .ok (.aload_n 0, 1) := by decide +kernel
theorem dL_isInside_61 : decode cL_isInside 61 = .ok (.iload_n 2, 1) := by decide +kernel
theorem dL_isInside_62 : decode cL_isInside 62 = .ok (.iconst 1, 1) := by decide +kernel
theorem dL_isInside_63 : decode cL_isInside 63 = .ok (.invokevirtual 45, 3) := by decide +kernel
theorem dL_isInside_66 : decode cL_isInside 66 = .ok (.if_icmp .le 36, 3) := by decide +kernel
theorem dL_isInside_69 : decode cL_isInside 69 = .ok (.aload_n 0, 1) := by decide +kernel
theorem dL_isInside_70 : decode cL_isInside 70 = .ok (.iload_n 1, 1) := by decide +kernel
theorem dL_isInside_71 : decode cL_isInside 71 = .ok (.iconst 1, 1) := by decide +kernel
theorem dL_isInside_72 : decode cL_isInside 72 = .ok (.invokevirtual 45, 3) := by decide +kernel
theorem dL_isInside_75 : decode cL_isInside 75 = .ok (.aload_n 0, 1) := by decide +kernel
theorem dL_isInside_76 : decode cL_isInside 76 = .ok (.iload_n 1, 1) := by decide +kernel
theorem dL_isInside_77 : decode cL_isInside 77 = .ok (.iconst 3, 1) := by decide +kernel
theorem dL_isInside_78 : decode cL_isInside 78 = .ok (.invokevirtual 45, 3) := by decide +kernel
theorem dL_isInside_81 : decode cL_isInside 81 = .ok (.iadd, 1) := by decide +kernel
theorem dL_isInside_82 : decode cL_isInside 82 = .ok (.aload_n 0, 1) := by decide +kernel
theorem dL_isInside_83 : decode cL_isInside 83 = .ok (.iload_n 2, 1) := by decide +kernel
theorem dL_isInside_84 : decode cL_isInside 84 = .ok (.iconst 1, 1) := by decide +kernel
theorem dL_isInside_85 : decode cL_isInside 85 = .ok (.invokevirtual 45, 3) := by decide +kernel
theorem dL_isInside_88 : decode cL_isInside 88 = .ok (.aload_n 0, 1) := by decide +kernel
theorem dL_isInside_89 : decode cL_isInside 89 = .ok (.iload_n 2, 1) := by decide +kernel
theorem dL_isInside_90 : decode cL_isInside 90 = .ok (.iconst 3, 1) := by decide +kernel
theorem dL_isInside_91 : decode cL_isInside 91 = .ok (.invokevirtual 45, 3) := by decide +kernel
theorem dL_isInside_94 : decode cL_isInside 94 = .ok (.iadd, 1) := by decide +kernel
theorem dL_isInside_95 : decode cL_isInside 95 = .ok (.if_icmp .ge 7, 3) := by decide +kernel
theorem dL_isInside_98 : decode cL_isInside 98 = .ok (.iconst 1, 1) := by decide +kernel
theorem dL_isInside_99 : decode cL_isInside 99 = .ok (.goto 4, 3) := by decide +kernel
theorem dL_isInside_102 : decode cL_isInside 102 = .ok (.iconst 0, 1) := by decide +kernel
theorem dL_isInside_103 : decode cL_isInside 103 = .ok (.ireturn, 1) := by decide +kernel
theorem dL_isEdge_0 : decode cL_isEdge 0 = .ok (.iload_n 2, 1) := by decide +kernel
theorem dL_isEdge_1 : decode cL_isEdge 1 = .ok (.aload_n 0, 1) := by decide +kernel
theorem dL_isEdge_2 : decode cL_isEdge 2 = .ok (.iload_n 1, 1) := by decide +kernel
theorem dL_isEdge_3 : decode cL_isEdge 3 = .ok (.iconst 0, 1) := by decide +kernel
theorem dL_isEdge_4 : decode cL_isEdge 4 = .ok (.invokevirtual 45, 3) := by decide +kernel
theorem dL_isEdge_7 : decode cL_isEdge 7 = .ok (.isub, 1) := by decide +kernel
theorem dL_isEdge_8 : decode cL_isEdge 8 = .ok (.istore 4, 2) := by decide +kernel
theorem dL_isEdge_10 : decode cL_isEdge 10 = .ok (.iload_n 3, 1) := by decide +kernel
theorem dL_isEdge_11 : decode cL_isEdge 11 = .ok (.aload_n 0, 1) := by decide +kernel
theorem dL_isEdge_12 : decode cL_isEdge 12 = .ok (.iload_n 1, 1) := by decide +kernel
theorem dL_isEdge_13 : decode cL_isEdge 13 = .ok (.iconst 1, 1) := by decide +kernel
theorem dL_isEdge_14 : decode cL_isEdge 14 = .ok (.invokevirtual 45, 3) := by decide +kernel
theorem dL_isEdge_17 : decode cL_isEdge 17 = .ok (.isub, 1) := by decide +kernel
theorem dL_isEdge_18 : decode cL_isEdge 18 = .ok (.istore 5, 2) := by decide +kernel
theorem dL_isEdge_20 : decode cL_isEdge 20 = .ok (.iload 4, 2) := by decide +kernel
theorem dL_isEdge_22 : decode cL_isEdge 22 = .ok (.ifCond .lt 34, 3) := by decide +kernel
theorem dL_isEdge_25 : decode cL_isEdge 25 = .ok (.iload 5, 2) := by decide +kernel
theorem dL_isEdge_27 : decode cL_isEdge 27 = .ok (.ifCond .lt 29, 3) := by decide +kernel
theorem dL_isEdge_30 : decode cL_isEdge 30 = .ok (.iload 4, 2) := by decide +kernel
theorem dL_isEdge_32 : decode cL_isEdge 32 = .ok (.aload_n 0, 1) := by decide +kernel
theorem dL_isEdge_33 : decode cL_isEdge 33 = .ok (.iload_n 1, 1) := by decide +kernel
theorem dL_isEdge_34 : decode cL_isEdge 34 = .ok (.iconst 2, 1) := by decide +kernel
theorem dL_isEdge_35 : decode cL_isEdge 35 = .ok (.invokevirtual 45, 3) := by decide +kernel
theorem dL_isEdge_38 : decode cL_isEdge 38 = .ok (.if_icmp .ge 18, 3) := by decide +kernel
theorem dL_isEdge_41 : decode cL_isEdge 41 = .ok (.iload 5, 2) := by decide +kernel
theorem dL_isEdge_43 : decode cL_isEdge 43 = .ok (.aload_n 0, 1) := by decide +kernel
theorem dL_isEdge_44 : decode cL_isEdge 44 = .ok (.iload_n 1, 1) := by decide +kernel
theorem dL_isEdge_45 : decode cL_isEdge 45 = .ok (.iconst 3, 1) := by decide +kernel
theorem dL_isEdge_46 : decode cL_isEdge 46 = .ok (.invokevirtual 45, 3) := by decide +kernel
theorem dL_isEdge_49 : decode cL_isEdge 49 = .ok (.if_icmp .ge 7, 3) := by decide +kernel
theorem dL_isEdge_52 : decode cL_isEdge 52 = .ok (.iconst 1, 1) := by decide +kernel
theorem dL_isEdge_53 : decode cL_isEdge 53 = .ok (.goto 4, 3) := by decide +kernel
theorem dL_isEdge_56 : decode cL_isEdge 56 = .ok (.iconst 0, 1) := by decide +kernel
theorem dL_isEdge_57 : decode cL_isEdge 57 = .ok (.istore 6, 2) := by decide +kernel
theorem dL_isEdge_59 : decode cL_isEdge 59 = .ok (.iload 6, 2) := by decide +kernel
theorem dL_isEdge_61 : decode cL_isEdge 61 = .ok (.ifCond .eq 43, 3) := by decide +kernel
theorem dL_isEdge_64 : decode cL_isEdge 64 = .ok (.iload 4, 2) := by decide +kernel
theorem dL_isEdge_66 : decode cL_isEdge 66 = .ok (.ifCond .eq 34, 3) := by decide +kernel
theorem dL_isEdge_69 : decode cL_isEdge 69 = .ok (.iload 5, 2) := by decide +kernel
theorem dL_isEdge_71 : decode cL_isEdge 71 = .ok (.ifCond .eq 29, 3) := by decide +kernel
theorem dL_isEdge_74 : decode cL_isEdge 74 = .ok (.iload 4, 2) := by decide +kernel
theorem dL_isEdge_76 : decode cL_isEdge 76 = .ok (.aload_n 0, 1) := by decide +kernel
theorem dL_isEdge_77 : decode cL_isEdge 77 = .ok (.iload_n 1, 1) := by decide +kernel
theorem dL_isEdge_78 : decode cL_isEdge 78 = .ok (.iconst 2, 1) := by decide +kernel
theorem dL_isEdge_79 : decode cL_isEdge 79 = .ok (.invokevirtual 45, 3) := by decide +kernel
theorem dL_isEdge_82 : decode cL_isEdge 82 = .ok (.iconst 1, 1) := by decide +kernel
theorem dL_isEdge_83 : decode cL_isEdge 83 = .ok (.isub, 1) := by decide +kernel
theorem dL_isEdge_84 : decode cL_isEdge 84 = .ok (.if_icmp .eq 16, 3) := by decide +kernel
theorem dL_isEdge_87 : decode cL_isEdge 87 = .ok (.iload 5, 2) := by decide +kernel
theorem dL_isEdge_89 : decode cL_isEdge 89 = .ok (.aload_n 0, 1) := by decide +kernel
theorem dL_isEdge_90 : decode cL_isEdge 90 = .ok (.iload_n 1, 1) := by decide +kernel
theorem dL_isEdge_91 : decode cL_isEdge 91 = .ok (.iconst 3, 1) := by decide +kernel
theorem dL_isEdge_92 : decode cL_isEdge 92 = .ok (.invokevirtual 45, 3) := by decide +kernel
theorem dL_isEdge_95 : decode cL_isEdge 95 = .ok (.iconst 1, 1) := by decide +kernel
theorem dL_isEdge_96 : decode cL_isEdge 96 = .ok (.isub, 1) := by decide +kernel
theorem dL_isEdge_97 : decode cL_isEdge 97 = .ok (.if_icmp .ne 7, 3) := by decide +kernel
theorem dL_isEdge_100 : decode cL_isEdge 100 = .ok (.iconst 1, 1) := by decide +kernel
theorem dL_isEdge_101 : decode cL_isEdge 101 = .ok (.goto 4, 3) := by decide +kernel
theorem dL_isEdge_104 : decode cL_isEdge 104 = .ok (.iconst 0, 1) := by decide +kernel
theorem dL_isEdge_105 : decode cL_isEdge 105 = .ok (.ireturn, 1) := by decide +kernel
theorem dL_edgeIn_0 : decode cL_edgeIn 0 = .ok (.iconst 0, 1) := by decide +kernel
theorem dL_edgeIn_1 : decode cL_edgeIn 1 = .ok (.istore_n 3, 1) := by decide +kernel
theorem dL_edgeIn_2 : decode cL_edgeIn 2 = .ok (.iconst 0, 1) := by decide +kernel
theorem dL_edgeIn_3 : decode cL_edgeIn 3 = .ok (.istore 4, 2) := by decide +kernel
theorem dL_edgeIn_5 : decode cL_edgeIn 5 = .ok (.iload 4, 2) := by decide +kernel
theorem dL_edgeIn_7 : decode cL_edgeIn 7 = .ok (.bipush 64, 2) := by decide +kernel
theorem dL_edgeIn_9 : decode cL_edgeIn 9 = .ok (.if_icmp .ge 49, 3) := by decide +kernel
theorem dL_edgeIn_12 : decode cL_edgeIn 12 = .ok (.iload_n 3, 1) := by decide +kernel
theorem dL_edgeIn_13 : decode cL_edgeIn 13 = .ok (.aload_n 0, 1) := by decide +kernel
theorem dL_edgeIn_14 : decode cL_edgeIn 14 = .ok (.iload_n 1, 1) := by decide +kernel
theorem dL_edgeIn_15 : decode cL_edgeIn 15 = .ok (.iload_n 2, 1) := by decide +kernel
theorem dL_edgeIn_16 : decode cL_edgeIn 16 = .ok (.iconst 4, 1) := by decide +kernel
theorem dL_edgeIn_17 : decode cL_edgeIn 17 = .ok (.irem, 1) := by decide +kernel
theorem dL_edgeIn_18 : decode cL_edgeIn 18 = .ok (.bipush 8, 2) := by decide +kernel
theorem dL_edgeIn_20 : decode cL_edgeIn 20 = .ok (.imul, 1) := by decide +kernel
theorem dL_edgeIn_21 : decode cL_edgeIn 21 = .ok (.iload 4, 2) := by decide +kernel
theorem dL_edgeIn_23 : decode cL_edgeIn 23 = .ok (.bipush 8, 2) := by decide +kernel
theorem dL_edgeIn_25 : decode cL_edgeIn 25 = .ok (.irem, 1) := by decide +kernel
theorem dL_edgeIn_26 : decode cL_edgeIn 26 = .ok (.iadd, 1) := by decide +kernel
theorem dL_edgeIn_27 : decode cL_edgeIn 27 = .ok (.iload_n 2, 1) := by decide +kernel
theorem dL_edgeIn_28 : decode cL_edgeIn 28 = .ok (.iconst 4, 1) := by decide +kernel
theorem dL_edgeIn_29 : decode cL_edgeIn 29 = .ok (.idiv, 1) := by decide +kernel
theorem dL_edgeIn_30 : decode cL_edgeIn 30 = .ok (.bipush 8, 2) := by decide +kernel
theorem dL_edgeIn_32 : decode cL_edgeIn 32 = .ok (.imul, 1) := by decide +kernel
theorem dL_edgeIn_33 : decode cL_edgeIn 33 = .ok (.iload 4, 2) := by decide +kernel
theorem dL_edgeIn_35 : decode cL_edgeIn 35 = .ok (.bipush 8, 2) := by decide +kernel
theorem dL_edgeIn_37 : decode cL_edgeIn 37 = .ok (.idiv, 1) := by decide +kernel
theorem dL_edgeIn_38 : decode cL_edgeIn 38 = .ok (.iadd, 1) := by decide +kernel
theorem dL_edgeIn_39 : decode cL_edgeIn 39 = .ok (.invokestatic 48, 3) := by decide +kernel
theorem dL_edgeIn_42 : decode cL_edgeIn 42 = .ok (.ifCond .eq 7, 3) := by decide +kernel
theorem dL_edgeIn_45 : decode cL_edgeIn 45 = .ok (.iconst 1, 1) := by decide +kernel
theorem dL_edgeIn_46 : decode cL_edgeIn 46 = .ok (.goto 4, 3) := by decide +kernel
theorem dL_edgeIn_49 : decode cL_edgeIn 49 = .ok (.iconst 0, 1) := by decide +kernel
theorem dL_edgeIn_50 : decode cL_edgeIn 50 = .ok (.iadd, 1) := by decide +kernel
theorem dL_edgeIn_51 : decode cL_edgeIn 51 = .ok (.istore_n 3, 1) := by decide +kernel
theorem dL_edgeIn_52 : decode cL_edgeIn 52 = .ok (.iinc 4 1, 3) := by decide +kernel
theorem dL_edgeIn_55 : decode cL_edgeIn 55 = .ok (.goto (-50), 3) := by decide +kernel
theorem dL_edgeIn_58 : decode cL_edgeIn 58 = .ok (.iload_n 3, 1) := by decide +kernel
theorem dL_edgeIn_59 : decode cL_edgeIn 59 = .ok (.ireturn, 1) := by decide +kernel
theorem dL_off_0 : decode cL_off 0 = .ok (.iload_n 0, 1) := by decide +kernel
theorem dL_off_1 : decode cL_off 1 = .ok (.iload_n 1, 1) := by decide +kernel
theorem dL_off_2 : decode cL_off 2 = .ok (.if_icmp .le 9, 3) := by decide +kernel
theorem dL_off_5 : decode cL_off 5 = .ok (.iload_n 0, 1) := by decide +kernel
theorem dL_off_6 : decode cL_off 6 = .ok (.iload_n 1, 1) := by decide +kernel
theorem dL_off_7 : decode cL_off 7 = .ok (.isub, 1) := by decide +kernel
theorem dL_off_8 : decode cL_off 8 = .ok (.goto 6, 3) := by decide +kernel
theorem dL_off_11 : decode cL_off 11 = .ok (.iload_n 1, 1) := by decide +kernel
theorem dL_off_12 : decode cL_off 12 = .ok (.iload_n 0, 1) := by decide +kernel
theorem dL_off_13 : decode cL_off 13 = .ok (.isub, 1) := by decide +kernel
theorem dL_off_14 : decode cL_off 14 = .ok (.ireturn, 1) := by decide +kernel
theorem dL_goes_0 : decode cL_goes 0 = .ok (.aload_n 0, 1) := by decide +kernel
theorem dL_goes_1 : decode cL_goes 1 = .ok (.iload_n 1, 1) := by decide +kernel
theorem dL_goes_2 : decode cL_goes 2 = .ok (.iconst 4, 1) := by decide +kernel
theorem dL_goes_3 : decode cL_goes 3 = .ok (.invokevirtual 45, 3) := by decide +kernel
theorem dL_goes_6 : decode cL_goes 6 = .ok (.istore_n 2, 1) := by decide +kernel
theorem dL_goes_7 : decode cL_goes 7 = .ok (.aload_n 0, 1) := by decide +kernel
theorem dL_goes_8 : decode cL_goes 8 = .ok (.iload_n 1, 1) := by decide +kernel
theorem dL_goes_9 : decode cL_goes 9 = .ok (.iconst 0, 1) := by decide +kernel
theorem dL_goes_10 : decode cL_goes 10 = .ok (.invokevirtual 45, 3) := by decide +kernel
theorem dL_goes_13 : decode cL_goes 13 = .ok (.iload_n 2, 1) := by decide +kernel
theorem dL_goes_14 : decode cL_goes 14 = .ok (.iconst 1, 1) := by decide +kernel
theorem dL_goes_15 : decode cL_goes 15 = .ok (.if_icmp .eq 8, 3) := by decide +kernel
theorem dL_goes_18 : decode cL_goes 18 = .ok (.iload_n 2, 1) := by decide +kernel
theorem dL_goes_19 : decode cL_goes 19 = .ok (.iconst 2, 1) := by decide +kernel
theorem dL_goes_20 : decode cL_goes 20 = .ok (.if_icmp .ne 14, 3) := by decide +kernel
theorem dL_goes_23 : decode cL_goes 23 = .ok (.aload_n 0, 1) := by decide +kernel
theorem dL_goes_24 : decode cL_goes 24 = .ok (.iload_n 1, 1) := by decide +kernel
theorem dL_goes_25 : decode cL_goes 25 = .ok (.iconst 2, 1) := by decide +kernel
theorem dL_goes_26 : decode cL_goes 26 = .ok (.invokevirtual 45, 3) := by decide +kernel
theorem dL_goes_29 : decode cL_goes 29 = .ok (.iconst 1, 1) := by decide +kernel
theorem dL_goes_30 : decode cL_goes 30 = .ok (.isub, 1) := by decide +kernel
theorem dL_goes_31 : decode cL_goes 31 = .ok (.goto 4, 3) := by decide +kernel
theorem dL_goes_34 : decode cL_goes 34 = .ok (.iconst 0, 1) := by decide +kernel
theorem dL_goes_35 : decode cL_goes 35 = .ok (.iadd, 1) := by decide +kernel
theorem dL_goes_36 : decode cL_goes 36 = .ok (.istore_n 3, 1) := by decide +kernel
theorem dL_goes_37 : decode cL_goes 37 = .ok (.aload_n 0, 1) := by decide +kernel
theorem dL_goes_38 : decode cL_goes 38 = .ok (.iload_n 1, 1) := by decide +kernel
theorem dL_goes_39 : decode cL_goes 39 = .ok (.iconst 1, 1) := by decide +kernel
theorem dL_goes_40 : decode cL_goes 40 = .ok (.invokevirtual 45, 3) := by decide +kernel
theorem dL_goes_43 : decode cL_goes 43 = .ok (.iload_n 2, 1) := by decide +kernel
theorem dL_goes_44 : decode cL_goes 44 = .ok (.iconst 1, 1) := by decide +kernel
theorem dL_goes_45 : decode cL_goes 45 = .ok (.if_icmp .le 14, 3) := by decide +kernel
theorem dL_goes_48 : decode cL_goes 48 = .ok (.aload_n 0, 1) := by decide +kernel
theorem dL_goes_49 : decode cL_goes 49 = .ok (.iload_n 1, 1) := by decide +kernel
theorem dL_goes_50 : decode cL_goes 50 = .ok (.iconst 3, 1) := by decide +kernel
theorem dL_goes_51 : decode cL_goes 51 = .ok (.invokevirtual 45, 3) := by decide +kernel
theorem dL_goes_54 : decode cL_goes 54 = .ok (.iconst 1, 1) := by decide +kernel
theorem dL_goes_55 : decode cL_goes 55 = .ok (.isub, 1) := by decide +kernel
theorem dL_goes_56 : decode cL_goes 56 = .ok (.goto 4, 3) := by decide +kernel
theorem dL_goes_59 : decode cL_goes 59 = .ok (.iconst 0, 1) := by decide +kernel
theorem dL_goes_60 : decode cL_goes 60 = .ok (.iadd, 1) := by decide +kernel
theorem dL_goes_61 : decode cL_goes 61 = .ok (.istore 4, 2) := by decide +kernel
theorem dL_goes_63 : decode cL_goes 63 = .ok (.iload_n 3, 1) := by decide +kernel
theorem dL_goes_64 : decode cL_goes 64 = .ok (.aload_n 0, 1) := by decide +kernel
theorem dL_goes_65 : decode cL_goes 65 = .ok (.bipush 6, 2) := by decide +kernel
theorem dL_goes_67 : decode cL_goes 67 = .ok (.invokevirtual 9, 3) := by decide +kernel
theorem dL_goes_70 : decode cL_goes 70 = .ok (.invokestatic 52, 3) := by decide +kernel
theorem dL_goes_73 : decode cL_goes 73 = .ok (.iload 4, 2) := by decide +kernel
theorem dL_goes_75 : decode cL_goes 75 = .ok (.aload_n 0, 1) := by decide +kernel
theorem dL_goes_76 : decode cL_goes 76 = .ok (.bipush 7, 2) := by decide +kernel
theorem dL_goes_78 : decode cL_goes 78 = .ok (.invokevirtual 9, 3) := by decide +kernel
theorem dL_goes_81 : decode cL_goes 81 = .ok (.invokestatic 52, 3) := by decide +kernel
theorem dL_goes_84 : decode cL_goes 84 = .ok (.iadd, 1) := by decide +kernel
theorem dL_goes_85 : decode cL_goes 85 = .ok (.ireturn, 1) := by decide +kernel
theorem dL_isShape_0 : decode cL_isShape 0 = .ok (.iconst 0, 1) := by decide +kernel
theorem dL_isShape_1 : decode cL_isShape 1 = .ok (.istore_n 2, 1) := by decide +kernel
theorem dL_isShape_2 : decode cL_isShape 2 = .ok (.bipush (-5), 2) := by decide +kernel
theorem dL_isShape_4 : decode cL_isShape 4 = .ok (.istore_n 3, 1) := by decide +kernel
theorem dL_isShape_5 : decode cL_isShape 5 = .ok (.aload_n 0, 1) := by decide +kernel
theorem dL_isShape_6 : decode cL_isShape 6 = .ok (.iload_n 1, 1) := by decide +kernel
theorem dL_isShape_7 : decode cL_isShape 7 = .ok (.iconst 5, 1) := by decide +kernel
theorem dL_isShape_8 : decode cL_isShape 8 = .ok (.invokevirtual 45, 3) := by decide +kernel
theorem dL_isShape_11 : decode cL_isShape 11 = .ok (.istore 4, 2) := by decide +kernel
theorem dL_isShape_13 : decode cL_isShape 13 = .ok (.iconst 0, 1) := by decide +kernel
theorem dL_isShape_14 : decode cL_isShape 14 = .ok (.istore 5, 2) := by decide +kernel
theorem dL_isShape_16 : decode cL_isShape 16 = .ok (.iconst 0, 1) := by decide +kernel
theorem dL_isShape_17 : decode cL_isShape 17 = .ok (.istore 6, 2) := by decide +kernel
theorem dL_isShape_19 : decode cL_isShape 19 = .ok (.iconst 1, 1) := by decide +kernel
theorem dL_isShape_20 : decode cL_isShape 20 = .ok (.istore 7, 2) := by decide +kernel
theorem dL_isShape_22 : decode cL_isShape 22 = .ok (.iconst 0, 1) := by decide +kernel
theorem dL_isShape_23 : decode cL_isShape 23 = .ok (.istore 8, 2) := by decide +kernel
theorem dL_isShape_25 : decode cL_isShape 25 = .ok (.iload 8, 2) := by decide +kernel
theorem dL_isShape_27 : decode cL_isShape 27 = .ok (.aload_n 0, 1) := by decide +kernel
theorem dL_isShape_28 : decode cL_isShape 28 = .ok (.iconst 0, 1) := by decide +kernel
theorem dL_isShape_29 : decode cL_isShape 29 = .ok (.invokevirtual 9, 3) := by decide +kernel
theorem dL_isShape_32 : decode cL_isShape 32 = .ok (.if_icmp .ge 239, 3) := by decide +kernel
theorem dL_isShape_35 : decode cL_isShape 35 = .ok (.iload 7, 2) := by decide +kernel
theorem dL_isShape_37 : decode cL_isShape 37 = .ok (.ifCond .eq 234, 3) := by decide +kernel
theorem dL_isShape_40 : decode cL_isShape 40 = .ok (.iload_n 2, 1) := by decide +kernel
theorem dL_isShape_41 : decode cL_isShape 41 = .ok (.aload_n 0, 1) := by decide +kernel
theorem dL_isShape_42 : decode cL_isShape 42 = .ok (.iload 8, 2) := by decide +kernel
theorem dL_isShape_44 : decode cL_isShape 44 = .ok (.iload_n 1, 1) := by decide +kernel
theorem dL_isShape_45 : decode cL_isShape 45 = .ok (.invokestatic 55, 3) := by decide +kernel
theorem dL_isShape_48 : decode cL_isShape 48 = .ok (.ifCond .eq 10, 3) := by decide +kernel
theorem dL_isShape_51 : decode cL_isShape 51 = .ok (.iconst 1, 1) := by decide +kernel
theorem dL_isShape_52 : decode cL_isShape 52 = .ok (.iload 8, 2) := by decide +kernel
theorem dL_isShape_54 : decode cL_isShape 54 = .ok (.ishl, 1) := by decide +kernel
theorem dL_isShape_55 : decode cL_isShape 55 = .ok (.goto 4, 3) := by decide +kernel
theorem dL_isShape_58 : decode cL_isShape 58 = .ok (.iconst 0, 1) := by decide +kernel
theorem dL_isShape_59 : decode cL_isShape 59 = .ok (.ior, 1) := by decide +kernel
theorem dL_isShape_60 : decode cL_isShape 60 = .ok (.istore_n 2, 1) := by decide +kernel
theorem dL_isShape_61 : decode cL_isShape 61 = .ok (.iload 6, 2) := by decide +kernel
theorem dL_isShape_63 : decode cL_isShape 63 = .ok (.ifCond .ne 23, 3) := by decide +kernel
theorem dL_isShape_66 : decode cL_isShape 66 = .ok (.aload_n 0, 1) := by decide +kernel
theorem dL_isShape_67 : decode cL_isShape 67 = .ok (.iload 8, 2) := by decide +kernel
theorem dL_isShape_69 : decode cL_isShape 69 = .ok (.iload_n 1, 1) := by decide +kernel
theorem dL_isShape_70 : decode cL_isShape 70 = .ok (.invokestatic 55, 3) := by decide +kernel
theorem dL_isShape_73 : decode cL_isShape 73 = .ok (.ifCond .eq 17, 3) := by decide +kernel
theorem dL_isShape_76 : decode cL_isShape 76 = .ok (.aload_n 0, 1) := by decide +kernel
theorem dL_isShape_77 : decode cL_isShape 77 = .ok (.iload 8, 2) := by decide +kernel
theorem dL_isShape_79 : decode cL_isShape 79 = .ok (.iconst 5, 1) := by decide +kernel
theorem dL_isShape_80 : decode cL_isShape 80 = .ok (.invokevirtual 45, 3) := by decide +kernel
theorem dL_isShape_83 : decode cL_isShape 83 = .ok (.ifCond .ne 7, 3) := by decide +kernel
theorem dL_isShape_86 : decode cL_isShape 86 = .ok (.iconst 1, 1) := by decide +kernel
theorem dL_isShape_87 : decode cL_isShape 87 = .ok (.goto 4, 3) := by decide +kernel
theorem dL_isShape_90 : decode cL_isShape 90 = .ok (.iconst 0, 1) := by decide +kernel
theorem dL_isShape_91 : decode cL_isShape 91 = .ok (.istore 6, 2) := by decide +kernel
theorem dL_isShape_93 : decode cL_isShape 93 = .ok (.aload_n 0, 1) := by decide +kernel
theorem dL_isShape_94 : decode cL_isShape 94 = .ok (.iload_n 1, 1) := by decide +kernel
theorem dL_isShape_95 : decode cL_isShape 95 = .ok (.iload 8, 2) := by decide +kernel
theorem dL_isShape_97 : decode cL_isShape 97 = .ok (.invokestatic 55, 3) := by decide +kernel
theorem dL_isShape_100 : decode cL_isShape 100 = .ok (.ifCond .eq 24, 3) := by decide +kernel
theorem dL_isShape_103 : decode cL_isShape 103 = .ok (.iload_n 3, 1) := by decide +kernel
theorem dL_isShape_104 : decode cL_isShape 104 = .ok (.bipush (-5), 2) := by decide +kernel
theorem dL_isShape_106 : decode cL_isShape 106 = .ok (.if_icmp .eq 13, 3) := by decide +kernel
theorem dL_isShape_109 : decode cL_isShape 109 = .ok (.aload_n 0, 1) := by decide +kernel
theorem dL_isShape_110 : decode cL_isShape 110 = .ok (.iload 8, 2) := by decide +kernel
theorem dL_isShape_112 : decode cL_isShape 112 = .ok (.iload_n 3, 1) := by decide +kernel
theorem dL_isShape_113 : decode cL_isShape 113 = .ok (.invokestatic 55, 3) := by decide +kernel
theorem dL_isShape_116 : decode cL_isShape 116 = .ok (.ifCond .eq 8, 3) := by decide +kernel
theorem dL_isShape_119 : decode cL_isShape 119 = .ok (.iload 8, 2) := by decide +kernel
theorem dL_isShape_121 : decode cL_isShape 121 = .ok (.goto 4, 3) := by decide +kernel
theorem dL_isShape_124 : decode cL_isShape 124 = .ok (.iload_n 3, 1) := by decide +kernel
theorem dL_isShape_125 : decode cL_isShape 125 = .ok (.istore_n 3, 1) := by decide +kernel
theorem dL_isShape_126 : decode cL_isShape 126 = .ok (.aload_n 0, 1) := by decide +kernel
theorem dL_isShape_127 : decode cL_isShape 127 = .ok (.iload 8, 2) := by decide +kernel
theorem dL_isShape_129 : decode cL_isShape 129 = .ok (.iconst 0, 1) := by decide +kernel
theorem dL_isShape_130 : decode cL_isShape 130 = .ok (.invokevirtual 45, 3) := by decide +kernel
theorem dL_isShape_133 : decode cL_isShape 133 = .ok (.aload_n 0, 1) := by decide +kernel
theorem dL_isShape_134 : decode cL_isShape 134 = .ok (.iload 8, 2) := by decide +kernel
theorem dL_isShape_136 : decode cL_isShape 136 = .ok (.iconst 2, 1) := by decide +kernel
theorem dL_isShape_137 : decode cL_isShape 137 = .ok (.invokevirtual 45, 3) := by decide +kernel
theorem dL_isShape_140 : decode cL_isShape 140 = .ok (.iadd, 1) := by decide +kernel
theorem dL_isShape_141 : decode cL_isShape 141 = .ok (.aload_n 0, 1) := by decide +kernel
theorem dL_isShape_142 : decode cL_isShape 142 = .ok (.iload_n 1, 1) := by decide +kernel
theorem dL_isShape_143 : decode cL_isShape 143 = .ok (.iconst 0, 1) := by decide +kernel
theorem dL_isShape_144 : decode cL_isShape 144 = .ok (.invokevirtual 45, 3) := by decide +kernel
theorem dL_isShape_147 : decode cL_isShape 147 = .ok (.if_icmp .le 73, 3) := by decide +kernel
theorem dL_isShape_150 : decode cL_isShape 150 = .ok (.aload_n 0, 1) := by decide +kernel
theorem dL_isShape_151 : decode cL_isShape 151 = .ok (.iload_n 1, 1) := by decide +kernel
theorem dL_isShape_152 : decode cL_isShape 152 = .ok (.iconst 0, 1) := by decide +kernel
theorem dL_isShape_153 : decode cL_isShape 153 = .ok (.invokevirtual 45, 3) := by decide +kernel
theorem dL_isShape_156 : decode cL_isShape 156 = .ok (.aload_n 0, 1) := by decide +kernel
theorem dL_isShape_157 : decode cL_isShape 157 = .ok (.iload_n 1, 1) := by decide +kernel
theorem dL_isShape_158 : decode cL_isShape 158 = .ok (.iconst 2, 1) := by decide +kernel
theorem dL_isShape_159 : decode cL_isShape 159 = .ok (.invokevirtual 45, 3) := by decide +kernel
theorem dL_isShape_162 : decode cL_isShape 162 = .ok (.iadd, 1) := by decide +kernel
theorem dL_isShape_163 : decode cL_isShape 163 = .ok (.aload_n 0, 1) := by decide +kernel
theorem dL_isShape_164 : decode cL_isShape 164 = .ok (.iload 8, 2) := by decide +kernel
theorem dL_isShape_166 : decode cL_isShape 166 = .ok (.iconst 0, 1) := by decide +kernel
theorem dL_isShape_167 : decode cL_isShape 167 = .ok (.invokevirtual 45, 3) := by decide +kernel
theorem dL_isShape_170 : decode cL_isShape 170 = .ok (.if_icmp .le 50, 3) := by decide +kernel
theorem dL_isShape_173 : decode cL_isShape 173 = .ok (.aload_n 0, 1) := by decide +kernel
theorem dL_isShape_174 : decode cL_isShape 174 = .ok (.iload 8, 2) := by decide +kernel
theorem dL_isShape_176 : decode cL_isShape 176 = .ok (.iconst 1, 1) := by decide +kernel
theorem dL_isShape_177 : decode cL_isShape 177 = .ok (.invokevirtual 45, 3) := by decide +kernel
theorem dL_isShape_180 : decode cL_isShape 180 = .ok (.aload_n 0, 1) := by decide +kernel
theorem dL_isShape_181 : decode cL_isShape 181 = .ok (.iload 8, 2) := by decide +kernel
theorem dL_isShape_183 : decode cL_isShape 183 = .ok (.iconst 3, 1) := by decide +kernel
theorem dL_isShape_184 : decode cL_isShape 184 = .ok (.invokevirtual 45, 3) := by decide +kernel
theorem dL_isShape_187 : decode cL_isShape 187 = .ok (.iadd, 1) := by decide +kernel
theorem dL_isShape_188 : decode cL_isShape 188 = .ok (.aload_n 0, 1) := by decide +kernel
theorem dL_isShape_189 : decode cL_isShape 189 = .ok (.iload_n 1, 1) := by decide +kernel
theorem dL_isShape_190 : decode cL_isShape 190 = .ok (.iconst 1, 1) := by decide +kernel
theorem dL_isShape_191 : decode cL_isShape 191 = .ok (.invokevirtual 45, 3) := by decide +kernel
theorem dL_isShape_194 : decode cL_isShape 194 = .ok (.if_icmp .le 26, 3) := by decide +kernel
theorem dL_isShape_197 : decode cL_isShape 197 = .ok (.aload_n 0, 1) := by decide +kernel
theorem dL_isShape_198 : decode cL_isShape 198 = .ok (.iload_n 1, 1) := by decide +kernel
theorem dL_isShape_199 : decode cL_isShape 199 = .ok (.iconst 1, 1) := by decide +kernel
theorem dL_isShape_200 : decode cL_isShape 200 = .ok (.invokevirtual 45, 3) := by decide +kernel
theorem dL_isShape_203 : decode cL_isShape 203 = .ok (.aload_n 0, 1) := by decide +kernel
theorem dL_isShape_204 : decode cL_isShape 204 = .ok (.iload_n 1, 1) := by decide +kernel
theorem dL_isShape_205 : decode cL_isShape 205 = .ok (.iconst 3, 1) := by decide +kernel
theorem dL_isShape_206 : decode cL_isShape 206 = .ok (.invokevirtual 45, 3) := by decide +kernel
theorem dL_isShape_209 : decode cL_isShape 209 = .ok (.iadd, 1) := by decide +kernel
theorem dL_isShape_210 : decode cL_isShape 210 = .ok (.aload_n 0, 1) := by decide +kernel
theorem dL_isShape_211 : decode cL_isShape 211 = .ok (.iload 8, 2) := by decide +kernel
theorem dL_isShape_213 : decode cL_isShape 213 = .ok (.iconst 1, 1) := by decide +kernel
theorem dL_isShape_214 : decode cL_isShape 214 = .ok (.invokevirtual 45, 3) := by decide +kernel
theorem dL_isShape_217 : decode cL_isShape 217 = .ok (.if_icmp .gt 7, 3) := by decide +kernel
theorem dL_isShape_220 : decode cL_isShape 220 = .ok (.iconst 1, 1) := by decide +kernel
theorem dL_isShape_221 : decode cL_isShape 221 = .ok (.goto 4, 3) := by decide +kernel
theorem dL_isShape_224 : decode cL_isShape 224 = .ok (.iconst 0, 1) := by decide +kernel
theorem dL_isShape_225 : decode cL_isShape 225 = .ok (.istore 9, 2) := by decide +kernel
theorem dL_isShape_227 : decode cL_isShape 227 = .ok (.iload 8, 2) := by decide +kernel
theorem dL_isShape_229 : decode cL_isShape 229 = .ok (.iload_n 1, 1) := by decide +kernel
theorem dL_isShape_230 : decode cL_isShape 230 = .ok (.if_icmp .eq 28, 3) := by decide +kernel
theorem dL_isShape_233 : decode cL_isShape 233 = .ok (.iload 9, 2) := by decide +kernel
theorem dL_isShape_235 : decode cL_isShape 235 = .ok (.ifCond .ne 23, 3) := by decide +kernel
theorem dL_isShape_238 : decode cL_isShape 238 = .ok (.aload_n 0, 1) := by decide +kernel
theorem dL_isShape_239 : decode cL_isShape 239 = .ok (.iload 8, 2) := by decide +kernel
theorem dL_isShape_241 : decode cL_isShape 241 = .ok (.iload_n 1, 1) := by decide +kernel
theorem dL_isShape_242 : decode cL_isShape 242 = .ok (.invokestatic 55, 3) := by decide +kernel
theorem dL_isShape_245 : decode cL_isShape 245 = .ok (.ifCond .ne 13, 3) := by decide +kernel
theorem dL_isShape_248 : decode cL_isShape 248 = .ok (.aload_n 0, 1) := by decide +kernel
theorem dL_isShape_249 : decode cL_isShape 249 = .ok (.iload_n 1, 1) := by decide +kernel
theorem dL_isShape_250 : decode cL_isShape 250 = .ok (.iload 8, 2) := by decide +kernel
theorem dL_isShape_252 : decode cL_isShape 252 = .ok (.invokestatic 55, 3) := by decide +kernel
theorem dL_isShape_255 : decode cL_isShape 255 = .ok (.ifCond .eq 7, 3) := by decide +kernel
theorem dL_isShape_258 : decode cL_isShape 258 = .ok (.iconst 1, 1) := by decide +kernel
theorem dL_isShape_259 : decode cL_isShape 259 = .ok (.goto 4, 3) := by decide +kernel
theorem dL_isShape_262 : decode cL_isShape 262 = .ok (.iconst 0, 1) := by decide +kernel
theorem dL_isShape_263 : decode cL_isShape 263 = .ok (.istore 7, 2) := by decide +kernel
theorem dL_isShape_265 : decode cL_isShape 265 = .ok (.iinc 8 1, 3) := by decide +kernel
theorem dL_isShape_268 : decode cL_isShape 268 = .ok (.goto (-243), 3) := by decide +kernel
theorem dL_isShape_271 : decode cL_isShape 271 = .ok (.iconst 2, 1) := by decide +kernel
theorem dL_isShape_272 : decode cL_isShape 272 = .ok (.aload_n 0, 1) := by decide +kernel
theorem dL_isShape_273 : decode cL_isShape 273 = .ok (.iload_n 1, 1) := by decide +kernel
theorem dL_isShape_274 : decode cL_isShape 274 = .ok (.iconst 2, 1) := by decide +kernel
theorem dL_isShape_275 : decode cL_isShape 275 = .ok (.invokevirtual 45, 3) := by decide +kernel
theorem dL_isShape_278 : decode cL_isShape 278 = .ok (.aload_n 0, 1) := by decide +kernel
theorem dL_isShape_279 : decode cL_isShape 279 = .ok (.iload_n 1, 1) := by decide +kernel
theorem dL_isShape_280 : decode cL_isShape 280 = .ok (.iconst 3, 1) := by decide +kernel
theorem dL_isShape_281 : decode cL_isShape 281 = .ok (.invokevirtual 45, 3) := by decide +kernel
theorem dL_isShape_284 : decode cL_isShape 284 = .ok (.iadd, 1) := by decide +kernel
theorem dL_isShape_285 : decode cL_isShape 285 = .ok (.imul, 1) := by decide +kernel
theorem dL_isShape_286 : decode cL_isShape 286 = .ok (.iconst 4, 1) := by decide +kernel
theorem dL_isShape_287 : decode cL_isShape 287 = .ok (.isub, 1) := by decide +kernel
theorem dL_isShape_288 : decode cL_isShape 288 = .ok (.istore 8, 2) := by decide +kernel
theorem dL_isShape_290 : decode cL_isShape 290 = .ok (.iconst 0, 1) := by decide +kernel
theorem dL_isShape_291 : decode cL_isShape 291 = .ok (.istore 9, 2) := by decide +kernel
theorem dL_isShape_293 : decode cL_isShape 293 = .ok (.iconst 0, 1) := by decide +kernel
theorem dL_isShape_294 : decode cL_isShape 294 = .ok (.istore 10, 2) := by decide +kernel
theorem dL_isShape_296 : decode cL_isShape 296 = .ok (.iconst 0, 1) := by decide +kernel
theorem dL_isShape_297 : decode cL_isShape 297 = .ok (.istore 11, 2) := by decide +kernel
theorem dL_isShape_299 : decode cL_isShape 299 = .ok (.iload 11, 2) := by decide +kernel
theorem dL_isShape_301 : decode cL_isShape 301 = .ok (.bipush 12, 2) := by decide +kernel
theorem dL_isShape_303 : decode cL_isShape 303 = .ok (.if_icmp .ge 83, 3) := by decide +kernel
theorem dL_isShape_306 : decode cL_isShape 306 = .ok (.aload_n 0, 1) := by decide +kernel
theorem dL_isShape_307 : decode cL_isShape 307 = .ok (.iload 11, 2) := by decide +kernel
theorem dL_isShape_309 : decode cL_isShape 309 = .ok (.invokevirtual 59, 3) := by decide +kernel
theorem dL_isShape_312 : decode cL_isShape 312 = .ok (.aload_n 0, 1) := by decide +kernel
theorem dL_isShape_313 : decode cL_isShape 313 = .ok (.iload_n 1, 1) := by decide +kernel
theorem dL_isShape_314 : decode cL_isShape 314 = .ok (.invokestatic 62, 3) := by decide +kernel
theorem dL_isShape_317 : decode cL_isShape 317 = .ok (.aload_n 0, 1) := by decide +kernel
theorem dL_isShape_318 : decode cL_isShape 318 = .ok (.bipush 14, 2) := by decide +kernel
theorem dL_isShape_320 : decode cL_isShape 320 = .ok (.invokevirtual 9, 3) := by decide +kernel
theorem dL_isShape_323 : decode cL_isShape 323 = .ok (.imul, 1) := by decide +kernel
theorem dL_isShape_324 : decode cL_isShape 324 = .ok (.isub, 1) := by decide +kernel
theorem dL_isShape_325 : decode cL_isShape 325 = .ok (.istore 12, 2) := by decide +kernel
theorem dL_isShape_327 : decode cL_isShape 327 = .ok (.aload_n 0, 1) := by decide +kernel
theorem dL_isShape_328 : decode cL_isShape 328 = .ok (.iload_n 1, 1) := by decide +kernel
theorem dL_isShape_329 : decode cL_isShape 329 = .ok (.iload 11, 2) := by decide +kernel
theorem dL_isShape_331 : decode cL_isShape 331 = .ok (.invokestatic 66, 3) := by decide +kernel
theorem dL_isShape_334 : decode cL_isShape 334 = .ok (.istore 13, 2) := by decide +kernel
theorem dL_isShape_336 : decode cL_isShape 336 = .ok (.iload 9, 2) := by decide +kernel
theorem dL_isShape_338 : decode cL_isShape 338 = .ok (.iload 13, 2) := by decide +kernel
theorem dL_isShape_340 : decode cL_isShape 340 = .ok (.iadd, 1) := by decide +kernel
theorem dL_isShape_341 : decode cL_isShape 341 = .ok (.istore 9, 2) := by decide +kernel
theorem dL_isShape_343 : decode cL_isShape 343 = .ok (.iload 5, 2) := by decide +kernel
theorem dL_isShape_345 : decode cL_isShape 345 = .ok (.ifCond .ne 28, 3) := by decide +kernel
theorem dL_isShape_348 : decode cL_isShape 348 = .ok (.iload 13, 2) := by decide +kernel
theorem dL_isShape_350 : decode cL_isShape 350 = .ok (.ifCond .le 27, 3) := by decide +kernel
theorem dL_isShape_353 : decode cL_isShape 353 = .ok (.iload 12, 2) := by decide +kernel
theorem dL_isShape_355 : decode cL_isShape 355 = .ok (.ifCond .le 8, 3) := by decide +kernel
theorem dL_isShape_358 : decode cL_isShape 358 = .ok (.iload 12, 2) := by decide +kernel
theorem dL_isShape_360 : decode cL_isShape 360 = .ok (.goto 4, 3) := by decide +kernel
theorem dL_isShape_363 : decode cL_isShape 363 = .ok (.iconst 0, 1) := by decide +kernel
theorem dL_isShape_364 : decode cL_isShape 364 = .ok (.aload_n 0, 1) := by decide +kernel
theorem dL_isShape_365 : decode cL_isShape 365 = .ok (.bipush 15, 2) := by decide +kernel
theorem dL_isShape_367 : decode cL_isShape 367 = .ok (.invokevirtual 9, 3) := by decide +kernel
theorem dL_isShape_370 : decode cL_isShape 370 = .ok (.if_icmp .le 7, 3) := by decide +kernel
theorem dL_isShape_373 : decode cL_isShape 373 = .ok (.iconst 1, 1) := by decide +kernel
theorem dL_isShape_374 : decode cL_isShape 374 = .ok (.goto 4, 3) := by decide +kernel
theorem dL_isShape_377 : decode cL_isShape 377 = .ok (.iconst 0, 1) := by decide +kernel
theorem dL_isShape_378 : decode cL_isShape 378 = .ok (.istore 5, 2) := by decide +kernel
theorem dL_isShape_380 : decode cL_isShape 380 = .ok (.iinc 11 1, 3) := by decide +kernel
theorem dL_isShape_383 : decode cL_isShape 383 = .ok (.goto (-84), 3) := by decide +kernel
theorem dL_isShape_386 : decode cL_isShape 386 = .ok (.iload 4, 2) := by decide +kernel
theorem dL_isShape_388 : decode cL_isShape 388 = .ok (.ifCond .le 8, 3) := by decide +kernel
theorem dL_isShape_391 : decode cL_isShape 391 = .ok (.iload 4, 2) := by decide +kernel
theorem dL_isShape_393 : decode cL_isShape 393 = .ok (.goto 32, 3) := by decide +kernel
theorem dL_isShape_396 : decode cL_isShape 396 = .ok (.aload_n 0, 1) := by decide +kernel
theorem dL_isShape_397 : decode cL_isShape 397 = .ok (.bipush 16, 2) := by decide +kernel
theorem dL_isShape_399 : decode cL_isShape 399 = .ok (.invokevirtual 9, 3) := by decide +kernel
theorem dL_isShape_402 : decode cL_isShape 402 = .ok (.iconst 1, 1) := by decide +kernel
theorem dL_isShape_403 : decode cL_isShape 403 = .ok (.if_icmp .ne 12, 3) := by decide +kernel
theorem dL_isShape_406 : decode cL_isShape 406 = .ok (.iload 6, 2) := by decide +kernel
theorem dL_isShape_408 : decode cL_isShape 408 = .ok (.ifCond .eq 7, 3) := by decide +kernel
theorem dL_isShape_411 : decode cL_isShape 411 = .ok (.iconst 3, 1) := by decide +kernel
theorem dL_isShape_412 : decode cL_isShape 412 = .ok (.goto 13, 3) := by decide +kernel
theorem dL_isShape_415 : decode cL_isShape 415 = .ok (.iload 5, 2) := by decide +kernel
theorem dL_isShape_417 : decode cL_isShape 417 = .ok (.ifCond .eq 7, 3) := by decide +kernel
theorem dL_isShape_420 : decode cL_isShape 420 = .ok (.iconst 4, 1) := by decide +kernel
theorem dL_isShape_421 : decode cL_isShape 421 = .ok (.goto 4, 3) := by decide +kernel
theorem dL_isShape_424 : decode cL_isShape 424 = .ok (.iconst 0, 1) := by decide +kernel
theorem dL_isShape_425 : decode cL_isShape 425 = .ok (.istore 11, 2) := by decide +kernel
theorem dL_isShape_427 : decode cL_isShape 427 = .ok (.iload 7, 2) := by decide +kernel
theorem dL_isShape_429 : decode cL_isShape 429 = .ok (.ifCond .eq 94, 3) := by decide +kernel
theorem dL_isShape_432 : decode cL_isShape 432 = .ok (.iload 9, 2) := by decide +kernel
theorem dL_isShape_434 : decode cL_isShape 434 = .ok (.iload 8, 2) := by decide +kernel
theorem dL_isShape_436 : decode cL_isShape 436 = .ok (.if_icmp .ne 87, 3) := by decide +kernel
theorem dL_isShape_439 : decode cL_isShape 439 = .ok (.aload_n 0, 1) := by decide +kernel
theorem dL_isShape_440 : decode cL_isShape 440 = .ok (.iload_n 1, 1) := by decide +kernel
theorem dL_isShape_441 : decode cL_isShape 441 = .ok (.bipush 8, 2) := by decide +kernel
theorem dL_isShape_443 : decode cL_isShape 443 = .ok (.invokevirtual 45, 3) := by decide +kernel
theorem dL_isShape_446 : decode cL_isShape 446 = .ok (.iload 8, 2) := by decide +kernel
theorem dL_isShape_448 : decode cL_isShape 448 = .ok (.if_icmp .ne 75, 3) := by decide +kernel
theorem dL_isShape_451 : decode cL_isShape 451 = .ok (.aload_n 0, 1) := by decide +kernel
theorem dL_isShape_452 : decode cL_isShape 452 = .ok (.iload_n 1, 1) := by decide +kernel
theorem dL_isShape_453 : decode cL_isShape 453 = .ok (.bipush 7, 2) := by decide +kernel
theorem dL_isShape_455 : decode cL_isShape 455 = .ok (.invokevirtual 45, 3) := by decide +kernel
theorem dL_isShape_458 : decode cL_isShape 458 = .ok (.iload_n 2, 1) := by decide +kernel
theorem dL_isShape_459 : decode cL_isShape 459 = .ok (.if_icmp .ne 64, 3) := by decide +kernel
theorem dL_isShape_462 : decode cL_isShape 462 = .ok (.aload_n 0, 1) := by decide +kernel
theorem dL_isShape_463 : decode cL_isShape 463 = .ok (.iload_n 1, 1) := by decide +kernel
theorem dL_isShape_464 : decode cL_isShape 464 = .ok (.bipush 6, 2) := by decide +kernel
theorem dL_isShape_466 : decode cL_isShape 466 = .ok (.invokevirtual 45, 3) := by decide +kernel
theorem dL_isShape_469 : decode cL_isShape 469 = .ok (.iload_n 3, 1) := by decide +kernel
theorem dL_isShape_470 : decode cL_isShape 470 = .ok (.if_icmp .ne 53, 3) := by decide +kernel
theorem dL_isShape_473 : decode cL_isShape 473 = .ok (.aload_n 0, 1) := by decide +kernel
theorem dL_isShape_474 : decode cL_isShape 474 = .ok (.iload_n 1, 1) := by decide +kernel
theorem dL_isShape_475 : decode cL_isShape 475 = .ok (.invokevirtual 69, 3) := by decide +kernel
theorem dL_isShape_478 : decode cL_isShape 478 = .ok (.iload 11, 2) := by decide +kernel
theorem dL_isShape_480 : decode cL_isShape 480 = .ok (.if_icmp .ne 43, 3) := by decide +kernel
theorem dL_isShape_483 : decode cL_isShape 483 = .ok (.aload_n 0, 1) := by decide +kernel
theorem dL_isShape_484 : decode cL_isShape 484 = .ok (.iload_n 1, 1) := by decide +kernel
theorem dL_isShape_485 : decode cL_isShape 485 = .ok (.invokevirtual 72, 3) := by decide +kernel
theorem dL_isShape_488 : decode cL_isShape 488 = .ok (.iload 4, 2) := by decide +kernel
theorem dL_isShape_490 : decode cL_isShape 490 = .ok (.ifCond .le 8, 3) := by decide +kernel
theorem dL_isShape_493 : decode cL_isShape 493 = .ok (.bipush (-4), 2) := by decide +kernel
theorem dL_isShape_495 : decode cL_isShape 495 = .ok (.goto 21, 3) := by decide +kernel
theorem dL_isShape_498 : decode cL_isShape 498 = .ok (.aload_n 0, 1) := by decide +kernel
theorem dL_isShape_499 : decode cL_isShape 499 = .ok (.iload_n 1, 1) := by decide +kernel
theorem dL_isShape_500 : decode cL_isShape 500 = .ok (.invokestatic 62, 3) := by decide +kernel
theorem dL_isShape_503 : decode cL_isShape 503 = .ok (.iconst 2, 1) := by decide +kernel
theorem dL_isShape_504 : decode cL_isShape 504 = .ok (.aload_n 0, 1) := by decide +kernel
theorem dL_isShape_505 : decode cL_isShape 505 = .ok (.iconst 5, 1) := by decide +kernel
theorem dL_isShape_506 : decode cL_isShape 506 = .ok (.invokevirtual 9, 3) := by decide +kernel
theorem dL_isShape_509 : decode cL_isShape 509 = .ok (.iconst 4, 1) := by decide +kernel
theorem dL_isShape_510 : decode cL_isShape 510 = .ok (.idiv, 1) := by decide +kernel
theorem dL_isShape_511 : decode cL_isShape 511 = .ok (.iadd, 1) := by decide +kernel
theorem dL_isShape_512 : decode cL_isShape 512 = .ok (.iload 8, 2) := by decide +kernel
theorem dL_isShape_514 : decode cL_isShape 514 = .ok (.imul, 1) := by decide +kernel
theorem dL_isShape_515 : decode cL_isShape 515 = .ok (.iadd, 1) := by decide +kernel
theorem dL_isShape_516 : decode cL_isShape 516 = .ok (.if_icmp .ne 7, 3) := by decide +kernel
theorem dL_isShape_519 : decode cL_isShape 519 = .ok (.iconst 1, 1) := by decide +kernel
theorem dL_isShape_520 : decode cL_isShape 520 = .ok (.goto 4, 3) := by decide +kernel
theorem dL_isShape_523 : decode cL_isShape 523 = .ok (.iconst 0, 1) := by decide +kernel
theorem dL_isShape_524 : decode cL_isShape 524 = .ok (.istore 7, 2) := by decide +kernel
theorem dL_isShape_526 : decode cL_isShape 526 = .ok (.iload 7, 2) := by decide +kernel
theorem dL_isShape_528 : decode cL_isShape 528 = .ok (.ifCond .eq 88, 3) := by decide +kernel
theorem dL_isShape_531 : decode cL_isShape 531 = .ok (.aload_n 0, 1) := by decide +kernel
theorem dL_isShape_532 : decode cL_isShape 532 = .ok (.iload_n 1, 1) := by decide +kernel
theorem dL_isShape_533 : decode cL_isShape 533 = .ok (.bipush 10, 2) := by decide +kernel
theorem dL_isShape_535 : decode cL_isShape 535 = .ok (.invokevirtual 45, 3) := by decide +kernel
theorem dL_isShape_538 : decode cL_isShape 538 = .ok (.bipush (-5), 2) := by decide +kernel
theorem dL_isShape_540 : decode cL_isShape 540 = .ok (.if_icmp .ne 7, 3) := by decide +kernel
theorem dL_isShape_543 : decode cL_isShape 543 = .ok (.iconst 1, 1) := by decide +kernel
theorem dL_isShape_544 : decode cL_isShape 544 = .ok (.goto 4, 3) := by decide +kernel
theorem dL_isShape_547 : decode cL_isShape 547 = .ok (.iconst 0, 1) := by decide +kernel
theorem dL_isShape_548 : decode cL_isShape 548 = .ok (.iload 4, 2) := by decide +kernel
theorem dL_isShape_550 : decode cL_isShape 550 = .ok (.iconst 1, 1) := by decide +kernel
theorem dL_isShape_551 : decode cL_isShape 551 = .ok (.if_icmp .eq 7, 3) := by decide +kernel
theorem dL_isShape_554 : decode cL_isShape 554 = .ok (.iconst 1, 1) := by decide +kernel
theorem dL_isShape_555 : decode cL_isShape 555 = .ok (.goto 4, 3) := by decide +kernel
theorem dL_isShape_558 : decode cL_isShape 558 = .ok (.iconst 0, 1) := by decide +kernel
theorem dL_isShape_559 : decode cL_isShape 559 = .ok (.if_icmp .ne 57, 3) := by decide +kernel
theorem dL_isShape_562 : decode cL_isShape 562 = .ok (.iload 4, 2) := by decide +kernel
theorem dL_isShape_564 : decode cL_isShape 564 = .ok (.iconst 1, 1) := by decide +kernel
theorem dL_isShape_565 : decode cL_isShape 565 = .ok (.if_icmp .eq 13, 3) := by decide +kernel
theorem dL_isShape_568 : decode cL_isShape 568 = .ok (.aload_n 0, 1) := by decide +kernel
theorem dL_isShape_569 : decode cL_isShape 569 = .ok (.iload_n 1, 1) := by decide +kernel
theorem dL_isShape_570 : decode cL_isShape 570 = .ok (.bipush 9, 2) := by decide +kernel
theorem dL_isShape_572 : decode cL_isShape 572 = .ok (.invokevirtual 45, 3) := by decide +kernel
theorem dL_isShape_575 : decode cL_isShape 575 = .ok (.ifCond .ne 41, 3) := by decide +kernel
theorem dL_isShape_578 : decode cL_isShape 578 = .ok (.iload 11, 2) := by decide +kernel
theorem dL_isShape_580 : decode cL_isShape 580 = .ok (.ifCond .gt 11, 3) := by decide +kernel
theorem dL_isShape_583 : decode cL_isShape 583 = .ok (.aload_n 0, 1) := by decide +kernel
theorem dL_isShape_584 : decode cL_isShape 584 = .ok (.iload_n 1, 1) := by decide +kernel
theorem dL_isShape_585 : decode cL_isShape 585 = .ok (.invokevirtual 75, 3) := by decide +kernel
theorem dL_isShape_588 : decode cL_isShape 588 = .ok (.ifCond .ne 28, 3) := by decide +kernel
theorem dL_isShape_591 : decode cL_isShape 591 = .ok (.iload 11, 2) := by decide +kernel
theorem dL_isShape_593 : decode cL_isShape 593 = .ok (.ifCond .eq 19, 3) := by decide +kernel
theorem dL_isShape_596 : decode cL_isShape 596 = .ok (.iload 11, 2) := by decide +kernel
theorem dL_isShape_598 : decode cL_isShape 598 = .ok (.iconst 4, 1) := by decide +kernel
theorem dL_isShape_599 : decode cL_isShape 599 = .ok (.if_icmp .eq 13, 3) := by decide +kernel
theorem dL_isShape_602 : decode cL_isShape 602 = .ok (.aload_n 0, 1) := by decide +kernel
theorem dL_isShape_603 : decode cL_isShape 603 = .ok (.iload_n 1, 1) := by decide +kernel
theorem dL_isShape_604 : decode cL_isShape 604 = .ok (.invokevirtual 75, 3) := by decide +kernel
theorem dL_isShape_607 : decode cL_isShape 607 = .ok (.bipush (-4), 2) := by decide +kernel
theorem dL_isShape_609 : decode cL_isShape 609 = .ok (.if_icmp .ne 7, 3) := by decide +kernel
theorem dL_isShape_612 : decode cL_isShape 612 = .ok (.iconst 1, 1) := by decide +kernel
theorem dL_isShape_613 : decode cL_isShape 613 = .ok (.goto 4, 3) := by decide +kernel
theorem dL_isShape_616 : decode cL_isShape 616 = .ok (.iconst 0, 1) := by decide +kernel
theorem dL_isShape_617 : decode cL_isShape 617 = .ok (.istore 7, 2) := by decide +kernel
theorem dL_isShape_619 : decode cL_isShape 619 = .ok (.iload 7, 2) := by decide +kernel
theorem dL_isShape_621 : decode cL_isShape 621 = .ok (.ifCond .eq 49, 3) := by decide +kernel
theorem dL_isShape_624 : decode cL_isShape 624 = .ok (.iload 11, 2) := by decide +kernel
theorem dL_isShape_626 : decode cL_isShape 626 = .ok (.iconst 4, 1) := by decide +kernel
theorem dL_isShape_627 : decode cL_isShape 627 = .ok (.if_icmp .ne 39, 3) := by decide +kernel
theorem dL_isShape_630 : decode cL_isShape 630 = .ok (.aload_n 0, 1) := by decide +kernel
theorem dL_isShape_631 : decode cL_isShape 631 = .ok (.bipush 14, 2) := by decide +kernel
theorem dL_isShape_633 : decode cL_isShape 633 = .ok (.invokevirtual 9, 3) := by decide +kernel
theorem dL_isShape_636 : decode cL_isShape 636 = .ok (.ifCond .ne 13, 3) := by decide +kernel
theorem dL_isShape_639 : decode cL_isShape 639 = .ok (.aload_n 0, 1) := by decide +kernel
theorem dL_isShape_640 : decode cL_isShape 640 = .ok (.iload_n 1, 1) := by decide +kernel
theorem dL_isShape_641 : decode cL_isShape 641 = .ok (.invokevirtual 75, 3) := by decide +kernel
theorem dL_isShape_644 : decode cL_isShape 644 = .ok (.bipush (-5), 2) := by decide +kernel
theorem dL_isShape_646 : decode cL_isShape 646 = .ok (.if_icmp .eq 20, 3) := by decide +kernel
theorem dL_isShape_649 : decode cL_isShape 649 = .ok (.aload_n 0, 1) := by decide +kernel
theorem dL_isShape_650 : decode cL_isShape 650 = .ok (.bipush 14, 2) := by decide +kernel
theorem dL_isShape_652 : decode cL_isShape 652 = .ok (.invokevirtual 9, 3) := by decide +kernel
theorem dL_isShape_655 : decode cL_isShape 655 = .ok (.ifCond .le 15, 3) := by decide +kernel
theorem dL_isShape_658 : decode cL_isShape 658 = .ok (.aload_n 0, 1) := by decide +kernel
theorem dL_isShape_659 : decode cL_isShape 659 = .ok (.iload_n 1, 1) := by decide +kernel
theorem dL_isShape_660 : decode cL_isShape 660 = .ok (.invokevirtual 75, 3) := by decide +kernel
theorem dL_isShape_663 : decode cL_isShape 663 = .ok (.ifCond .le 7, 3) := by decide +kernel
theorem dL_isShape_666 : decode cL_isShape 666 = .ok (.iconst 1, 1) := by decide +kernel
theorem dL_isShape_667 : decode cL_isShape 667 = .ok (.goto 4, 3) := by decide +kernel
theorem dL_isShape_670 : decode cL_isShape 670 = .ok (.iconst 0, 1) := by decide +kernel
theorem dL_isShape_671 : decode cL_isShape 671 = .ok (.ireturn, 1) := by decide +kernel
theorem dL_holds_0 : decode cL_holds 0 = .ok (.aload_n 0, 1) := by decide +kernel
theorem dL_holds_1 : decode cL_holds 1 = .ok (.iconst 0, 1) := by decide +kernel
theorem dL_holds_2 : decode cL_holds 2 = .ok (.invokevirtual 9, 3) := by decide +kernel
theorem dL_holds_5 : decode cL_holds 5 = .ok (.istore_n 1, 1) := by decide +kernel
theorem dL_holds_6 : decode cL_holds 6 = .ok (.iconst 0, 1) := by decide +kernel
theorem dL_holds_7 : decode cL_holds 7 = .ok (.istore_n 2, 1) := by decide +kernel
theorem dL_holds_8 : decode cL_holds 8 = .ok (.iconst 0, 1) := by decide +kernel
theorem dL_holds_9 : decode cL_holds 9 = .ok (.istore_n 3, 1) := by decide +kernel
theorem dL_holds_10 : decode cL_holds 10 = .ok (.iconst 0, 1) := by decide +kernel
theorem dL_holds_11 : decode cL_holds 11 = .ok (.istore 4, 2) := by decide +kernel
theorem dL_holds_13 : decode cL_holds 13 = .ok (.iconst 0, 1) := by decide +kernel
theorem dL_holds_14 : decode cL_holds 14 = .ok (.istore 5, 2) := by decide +kernel
theorem dL_holds_16 : decode cL_holds 16 = .ok (.iconst 0, 1) := by decide +kernel
theorem dL_holds_17 : decode cL_holds 17 = .ok (.istore 6, 2) := by decide +kernel
theorem dL_holds_19 : decode cL_holds 19 = .ok (.bipush (-5), 2) := by decide +kernel
theorem dL_holds_21 : decode cL_holds 21 = .ok (.istore 7, 2) := by decide +kernel
theorem dL_holds_23 : decode cL_holds 23 = .ok (.aload_n 0, 1) := by decide +kernel
theorem dL_holds_24 : decode cL_holds 24 = .ok (.iload_n 1, 1) := by decide +kernel
theorem dL_holds_25 : decode cL_holds 25 = .ok (.iconst 0, 1) := by decide +kernel
theorem dL_holds_26 : decode cL_holds 26 = .ok (.invokevirtual 45, 3) := by decide +kernel
theorem dL_holds_29 : decode cL_holds 29 = .ok (.iconst (-1), 1) := by decide +kernel
theorem dL_holds_30 : decode cL_holds 30 = .ok (.if_icmp .ne 17, 3) := by decide +kernel
theorem dL_holds_33 : decode cL_holds 33 = .ok (.aload_n 0, 1) := by decide +kernel
theorem dL_holds_34 : decode cL_holds 34 = .ok (.bipush 12, 2) := by decide +kernel
theorem dL_holds_36 : decode cL_holds 36 = .ok (.invokevirtual 59, 3) := by decide +kernel
theorem dL_holds_39 : decode cL_holds 39 = .ok (.iconst (-1), 1) := by decide +kernel
theorem dL_holds_40 : decode cL_holds 40 = .ok (.if_icmp .ne 7, 3) := by decide +kernel
theorem dL_holds_43 : decode cL_holds 43 = .ok (.iconst 1, 1) := by decide +kernel
theorem dL_holds_44 : decode cL_holds 44 = .ok (.goto 4, 3) := by decide +kernel
theorem dL_holds_47 : decode cL_holds 47 = .ok (.iconst 0, 1) := by decide +kernel
theorem dL_holds_48 : decode cL_holds 48 = .ok (.istore 8, 2) := by decide +kernel
theorem dL_holds_50 : decode cL_holds 50 = .ok (.iload_n 1, 1) := by decide +kernel
theorem dL_holds_51 : decode cL_holds 51 = .ok (.iconst 1, 1) := by decide +kernel
theorem dL_holds_52 : decode cL_holds 52 = .ok (.isub, 1) := by decide +kernel
theorem dL_holds_53 : decode cL_holds 53 = .ok (.istore 9, 2) := by decide +kernel
theorem dL_holds_55 : decode cL_holds 55 = .ok (.iload 9, 2) := by decide +kernel
theorem dL_holds_57 : decode cL_holds 57 = .ok (.ifCond .lt 144, 3) := by decide +kernel
theorem dL_holds_60 : decode cL_holds 60 = .ok (.iload 8, 2) := by decide +kernel
theorem dL_holds_62 : decode cL_holds 62 = .ok (.ifCond .eq 139, 3) := by decide +kernel
theorem dL_holds_65 : decode cL_holds 65 = .ok (.aload_n 0, 1) := by decide +kernel
theorem dL_holds_66 : decode cL_holds 66 = .ok (.iload 9, 2) := by decide +kernel
theorem dL_holds_68 : decode cL_holds 68 = .ok (.invokestatic 78, 3) := by decide +kernel
theorem dL_holds_71 : decode cL_holds 71 = .ok (.istore 8, 2) := by decide +kernel
theorem dL_holds_73 : decode cL_holds 73 = .ok (.iload_n 2, 1) := by decide +kernel
theorem dL_holds_74 : decode cL_holds 74 = .ok (.aload_n 0, 1) := by decide +kernel
theorem dL_holds_75 : decode cL_holds 75 = .ok (.iload 9, 2) := by decide +kernel
theorem dL_holds_77 : decode cL_holds 77 = .ok (.iconst 5, 1) := by decide +kernel
theorem dL_holds_78 : decode cL_holds 78 = .ok (.invokevirtual 45, 3) := by decide +kernel
theorem dL_holds_81 : decode cL_holds 81 = .ok (.ifCond .ne 7, 3) := by decide +kernel
theorem dL_holds_84 : decode cL_holds 84 = .ok (.iconst 1, 1) := by decide +kernel
theorem dL_holds_85 : decode cL_holds 85 = .ok (.goto 4, 3) := by decide +kernel
theorem dL_holds_88 : decode cL_holds 88 = .ok (.iconst 0, 1) := by decide +kernel
theorem dL_holds_89 : decode cL_holds 89 = .ok (.iadd, 1) := by decide +kernel
theorem dL_holds_90 : decode cL_holds 90 = .ok (.istore_n 2, 1) := by decide +kernel
theorem dL_holds_91 : decode cL_holds 91 = .ok (.iload_n 3, 1) := by decide +kernel
theorem dL_holds_92 : decode cL_holds 92 = .ok (.aload_n 0, 1) := by decide +kernel
theorem dL_holds_93 : decode cL_holds 93 = .ok (.iload 9, 2) := by decide +kernel
theorem dL_holds_95 : decode cL_holds 95 = .ok (.iconst 5, 1) := by decide +kernel
theorem dL_holds_96 : decode cL_holds 96 = .ok (.invokevirtual 45, 3) := by decide +kernel
theorem dL_holds_99 : decode cL_holds 99 = .ok (.iconst 1, 1) := by decide +kernel
theorem dL_holds_100 : decode cL_holds 100 = .ok (.if_icmp .ne 7, 3) := by decide +kernel
theorem dL_holds_103 : decode cL_holds 103 = .ok (.iconst 1, 1) := by decide +kernel
theorem dL_holds_104 : decode cL_holds 104 = .ok (.goto 4, 3) := by decide +kernel
theorem dL_holds_107 : decode cL_holds 107 = .ok (.iconst 0, 1) := by decide +kernel
theorem dL_holds_108 : decode cL_holds 108 = .ok (.iadd, 1) := by decide +kernel
theorem dL_holds_109 : decode cL_holds 109 = .ok (.istore_n 3, 1) := by decide +kernel
theorem dL_holds_110 : decode cL_holds 110 = .ok (.iload 4, 2) := by decide +kernel
theorem dL_holds_112 : decode cL_holds 112 = .ok (.aload_n 0, 1) := by decide +kernel
theorem dL_holds_113 : decode cL_holds 113 = .ok (.iload 9, 2) := by decide +kernel
theorem dL_holds_115 : decode cL_holds 115 = .ok (.bipush 9, 2) := by decide +kernel
theorem dL_holds_117 : decode cL_holds 117 = .ok (.invokevirtual 45, 3) := by decide +kernel
theorem dL_holds_120 : decode cL_holds 120 = .ok (.iadd, 1) := by decide +kernel
theorem dL_holds_121 : decode cL_holds 121 = .ok (.istore 4, 2) := by decide +kernel
theorem dL_holds_123 : decode cL_holds 123 = .ok (.iload 5, 2) := by decide +kernel
theorem dL_holds_125 : decode cL_holds 125 = .ok (.aload_n 0, 1) := by decide +kernel
theorem dL_holds_126 : decode cL_holds 126 = .ok (.iload 9, 2) := by decide +kernel
theorem dL_holds_128 : decode cL_holds 128 = .ok (.bipush 10, 2) := by decide +kernel
theorem dL_holds_130 : decode cL_holds 130 = .ok (.invokevirtual 45, 3) := by decide +kernel
theorem dL_holds_133 : decode cL_holds 133 = .ok (.bipush (-5), 2) := by decide +kernel
theorem dL_holds_135 : decode cL_holds 135 = .ok (.if_icmp .ne 7, 3) := by decide +kernel
theorem dL_holds_138 : decode cL_holds 138 = .ok (.iconst 0, 1) := by decide +kernel
theorem dL_holds_139 : decode cL_holds 139 = .ok (.goto 13, 3) := by decide +kernel
theorem dL_holds_142 : decode cL_holds 142 = .ok (.iconst 1, 1) := by decide +kernel
theorem dL_holds_143 : decode cL_holds 143 = .ok (.aload_n 0, 1) := by decide +kernel
theorem dL_holds_144 : decode cL_holds 144 = .ok (.iload 9, 2) := by decide +kernel
theorem dL_holds_146 : decode cL_holds 146 = .ok (.bipush 10, 2) := by decide +kernel
theorem dL_holds_148 : decode cL_holds 148 = .ok (.invokevirtual 45, 3) := by decide +kernel
theorem dL_holds_151 : decode cL_holds 151 = .ok (.ishl, 1) := by decide +kernel
theorem dL_holds_152 : decode cL_holds 152 = .ok (.ior, 1) := by decide +kernel
theorem dL_holds_153 : decode cL_holds 153 = .ok (.istore 5, 2) := by decide +kernel
theorem dL_holds_155 : decode cL_holds 155 = .ok (.aload_n 0, 1) := by decide +kernel
theorem dL_holds_156 : decode cL_holds 156 = .ok (.iload 9, 2) := by decide +kernel
theorem dL_holds_158 : decode cL_holds 158 = .ok (.invokevirtual 69, 3) := by decide +kernel
theorem dL_holds_161 : decode cL_holds 161 = .ok (.ifCond .ne 30, 3) := by decide +kernel
theorem dL_holds_164 : decode cL_holds 164 = .ok (.iload 7, 2) := by decide +kernel
theorem dL_holds_166 : decode cL_holds 166 = .ok (.bipush (-5), 2) := by decide +kernel
theorem dL_holds_168 : decode cL_holds 168 = .ok (.if_icmp .eq 18, 3) := by decide +kernel
theorem dL_holds_171 : decode cL_holds 171 = .ok (.aload_n 0, 1) := by decide +kernel
theorem dL_holds_172 : decode cL_holds 172 = .ok (.iload 9, 2) := by decide +kernel
theorem dL_holds_174 : decode cL_holds 174 = .ok (.invokevirtual 72, 3) := by decide +kernel
theorem dL_holds_177 : decode cL_holds 177 = .ok (.aload_n 0, 1) := by decide +kernel
theorem dL_holds_178 : decode cL_holds 178 = .ok (.iload 7, 2) := by decide +kernel
theorem dL_holds_180 : decode cL_holds 180 = .ok (.invokevirtual 72, 3) := by decide +kernel
theorem dL_holds_183 : decode cL_holds 183 = .ok (.if_icmp .gt 8, 3) := by decide +kernel
theorem dL_holds_186 : decode cL_holds 186 = .ok (.iload 9, 2) := by decide +kernel
theorem dL_holds_188 : decode cL_holds 188 = .ok (.goto 5, 3) := by decide +kernel
theorem dL_holds_191 : decode cL_holds 191 = .ok (.iload 7, 2) := by decide +kernel
theorem dL_holds_193 : decode cL_holds 193 = .ok (.istore 7, 2) := by decide +kernel
theorem dL_holds_195 : decode cL_holds 195 = .ok (.iinc 9 (-1), 3) := by decide +kernel
theorem dL_holds_198 : decode cL_holds 198 = .ok (.goto (-143), 3) := by decide +kernel
theorem dL_holds_201 : decode cL_holds 201 = .ok (.iconst 0, 1) := by decide +kernel
theorem dL_holds_202 : decode cL_holds 202 = .ok (.istore 9, 2) := by decide +kernel
theorem dL_holds_204 : decode cL_holds 204 = .ok (.iload 9, 2) := by decide +kernel
theorem dL_holds_206 : decode cL_holds 206 = .ok (.bipush 12, 2) := by decide +kernel
theorem dL_holds_208 : decode cL_holds 208 = .ok (.if_icmp .ge 82, 3) := by decide +kernel
theorem dL_holds_211 : decode cL_holds 211 = .ok (.iload 8, 2) := by decide +kernel
theorem dL_holds_213 : decode cL_holds 213 = .ok (.ifCond .eq 77, 3) := by decide +kernel
theorem dL_holds_216 : decode cL_holds 216 = .ok (.iload 6, 2) := by decide +kernel
theorem dL_holds_218 : decode cL_holds 218 = .ok (.aload_n 0, 1) := by decide +kernel
theorem dL_holds_219 : decode cL_holds 219 = .ok (.iload 9, 2) := by decide +kernel
theorem dL_holds_221 : decode cL_holds 221 = .ok (.invokevirtual 59, 3) := by decide +kernel
theorem dL_holds_224 : decode cL_holds 224 = .ok (.iadd, 1) := by decide +kernel
theorem dL_holds_225 : decode cL_holds 225 = .ok (.istore 6, 2) := by decide +kernel
theorem dL_holds_227 : decode cL_holds 227 = .ok (.aload_n 0, 1) := by decide +kernel
theorem dL_holds_228 : decode cL_holds 228 = .ok (.iload 9, 2) := by decide +kernel
theorem dL_holds_230 : decode cL_holds 230 = .ok (.invokevirtual 59, 3) := by decide +kernel
theorem dL_holds_233 : decode cL_holds 233 = .ok (.ifCond .lt 48, 3) := by decide +kernel
theorem dL_holds_236 : decode cL_holds 236 = .ok (.aload_n 0, 1) := by decide +kernel
theorem dL_holds_237 : decode cL_holds 237 = .ok (.iload 9, 2) := by decide +kernel
theorem dL_holds_239 : decode cL_holds 239 = .ok (.invokevirtual 59, 3) := by decide +kernel
theorem dL_holds_242 : decode cL_holds 242 = .ok (.aload_n 0, 1) := by decide +kernel
theorem dL_holds_243 : decode cL_holds 243 = .ok (.bipush 10, 2) := by decide +kernel
theorem dL_holds_245 : decode cL_holds 245 = .ok (.invokevirtual 9, 3) := by decide +kernel
theorem dL_holds_248 : decode cL_holds 248 = .ok (.if_icmp .gt 33, 3) := by decide +kernel
theorem dL_holds_251 : decode cL_holds 251 = .ok (.iload 9, 2) := by decide +kernel
theorem dL_holds_253 : decode cL_holds 253 = .ok (.aload_n 0, 1) := by decide +kernel
theorem dL_holds_254 : decode cL_holds 254 = .ok (.bipush 11, 2) := by decide +kernel
theorem dL_holds_256 : decode cL_holds 256 = .ok (.invokevirtual 9, 3) := by decide +kernel
theorem dL_holds_259 : decode cL_holds 259 = .ok (.if_icmp .ge 18, 3) := by decide +kernel
theorem dL_holds_262 : decode cL_holds 262 = .ok (.aload_n 0, 1) := by decide +kernel
theorem dL_holds_263 : decode cL_holds 263 = .ok (.iload 9, 2) := by decide +kernel
theorem dL_holds_265 : decode cL_holds 265 = .ok (.invokevirtual 59, 3) := by decide +kernel
theorem dL_holds_268 : decode cL_holds 268 = .ok (.aload_n 0, 1) := by decide +kernel
theorem dL_holds_269 : decode cL_holds 269 = .ok (.bipush 10, 2) := by decide +kernel
theorem dL_holds_271 : decode cL_holds 271 = .ok (.invokevirtual 9, 3) := by decide +kernel
theorem dL_holds_274 : decode cL_holds 274 = .ok (.if_icmp .ge 7, 3) := by decide +kernel
theorem dL_holds_277 : decode cL_holds 277 = .ok (.iconst 1, 1) := by decide +kernel
theorem dL_holds_278 : decode cL_holds 278 = .ok (.goto 4, 3) := by decide +kernel
theorem dL_holds_281 : decode cL_holds 281 = .ok (.iconst 0, 1) := by decide +kernel
theorem dL_holds_282 : decode cL_holds 282 = .ok (.istore 8, 2) := by decide +kernel
theorem dL_holds_284 : decode cL_holds 284 = .ok (.iinc 9 1, 3) := by decide +kernel
theorem dL_holds_287 : decode cL_holds 287 = .ok (.goto (-83), 3) := by decide +kernel
theorem dL_holds_290 : decode cL_holds 290 = .ok (.iload 8, 2) := by decide +kernel
theorem dL_holds_292 : decode cL_holds 292 = .ok (.ifCond .eq 112, 3) := by decide +kernel
theorem dL_holds_295 : decode cL_holds 295 = .ok (.iload_n 2, 1) := by decide +kernel
theorem dL_holds_296 : decode cL_holds 296 = .ok (.aload_n 0, 1) := by decide +kernel
theorem dL_holds_297 : decode cL_holds 297 = .ok (.iconst 1, 1) := by decide +kernel
theorem dL_holds_298 : decode cL_holds 298 = .ok (.invokevirtual 9, 3) := by decide +kernel
theorem dL_holds_301 : decode cL_holds 301 = .ok (.if_icmp .ne 103, 3) := by decide +kernel
theorem dL_holds_304 : decode cL_holds 304 = .ok (.iload_n 3, 1) := by decide +kernel
theorem dL_holds_305 : decode cL_holds 305 = .ok (.aload_n 0, 1) := by decide +kernel
theorem dL_holds_306 : decode cL_holds 306 = .ok (.iconst 2, 1) := by decide +kernel
theorem dL_holds_307 : decode cL_holds 307 = .ok (.invokevirtual 9, 3) := by decide +kernel
theorem dL_holds_310 : decode cL_holds 310 = .ok (.if_icmp .ne 94, 3) := by decide +kernel
theorem dL_holds_313 : decode cL_holds 313 = .ok (.iload_n 1, 1) := by decide +kernel
theorem dL_holds_314 : decode cL_holds 314 = .ok (.iload_n 2, 1) := by decide +kernel
theorem dL_holds_315 : decode cL_holds 315 = .ok (.iload_n 3, 1) := by decide +kernel
theorem dL_holds_316 : decode cL_holds 316 = .ok (.iadd, 1) := by decide +kernel
theorem dL_holds_317 : decode cL_holds 317 = .ok (.aload_n 0, 1) := by decide +kernel
theorem dL_holds_318 : decode cL_holds 318 = .ok (.iconst 3, 1) := by decide +kernel
theorem dL_holds_319 : decode cL_holds 319 = .ok (.invokevirtual 9, 3) := by decide +kernel
theorem dL_holds_322 : decode cL_holds 322 = .ok (.iadd, 1) := by decide +kernel
theorem dL_holds_323 : decode cL_holds 323 = .ok (.if_icmp .ne 81, 3) := by decide +kernel
theorem dL_holds_326 : decode cL_holds 326 = .ok (.iload 4, 2) := by decide +kernel
theorem dL_holds_328 : decode cL_holds 328 = .ok (.aload_n 0, 1) := by decide +kernel
theorem dL_holds_329 : decode cL_holds 329 = .ok (.iconst 4, 1) := by decide +kernel
theorem dL_holds_330 : decode cL_holds 330 = .ok (.invokevirtual 9, 3) := by decide +kernel
theorem dL_holds_333 : decode cL_holds 333 = .ok (.if_icmp .ne 71, 3) := by decide +kernel
theorem dL_holds_336 : decode cL_holds 336 = .ok (.iload 5, 2) := by decide +kernel
theorem dL_holds_338 : decode cL_holds 338 = .ok (.iconst 1, 1) := by decide +kernel
theorem dL_holds_339 : decode cL_holds 339 = .ok (.iload_n 3, 1) := by decide +kernel
theorem dL_holds_340 : decode cL_holds 340 = .ok (.ishl, 1) := by decide +kernel
theorem dL_holds_341 : decode cL_holds 341 = .ok (.iconst 1, 1) := by decide +kernel
theorem dL_holds_342 : decode cL_holds 342 = .ok (.isub, 1) := by decide +kernel
theorem dL_holds_343 : decode cL_holds 343 = .ok (.if_icmp .ne 61, 3) := by decide +kernel
theorem dL_holds_346 : decode cL_holds 346 = .ok (.iload 6, 2) := by decide +kernel
theorem dL_holds_348 : decode cL_holds 348 = .ok (.aload_n 0, 1) := by decide +kernel
theorem dL_holds_349 : decode cL_holds 349 = .ok (.bipush 12, 2) := by decide +kernel
theorem dL_holds_351 : decode cL_holds 351 = .ok (.invokevirtual 9, 3) := by decide +kernel
theorem dL_holds_354 : decode cL_holds 354 = .ok (.if_icmp .ne 50, 3) := by decide +kernel
theorem dL_holds_357 : decode cL_holds 357 = .ok (.aload_n 0, 1) := by decide +kernel
theorem dL_holds_358 : decode cL_holds 358 = .ok (.aload_n 0, 1) := by decide +kernel
theorem dL_holds_359 : decode cL_holds 359 = .ok (.bipush 11, 2) := by decide +kernel
theorem dL_holds_361 : decode cL_holds 361 = .ok (.invokevirtual 9, 3) := by decide +kernel
theorem dL_holds_364 : decode cL_holds 364 = .ok (.invokevirtual 59, 3) := by decide +kernel
theorem dL_holds_367 : decode cL_holds 367 = .ok (.aload_n 0, 1) := by decide +kernel
theorem dL_holds_368 : decode cL_holds 368 = .ok (.bipush 10, 2) := by decide +kernel
theorem dL_holds_370 : decode cL_holds 370 = .ok (.invokevirtual 9, 3) := by decide +kernel
theorem dL_holds_373 : decode cL_holds 373 = .ok (.if_icmp .ne 31, 3) := by decide +kernel
theorem dL_holds_376 : decode cL_holds 376 = .ok (.aload_n 0, 1) := by decide +kernel
theorem dL_holds_377 : decode cL_holds 377 = .ok (.invokevirtual 82, 3) := by decide +kernel
theorem dL_holds_380 : decode cL_holds 380 = .ok (.iload 7, 2) := by decide +kernel
theorem dL_holds_382 : decode cL_holds 382 = .ok (.if_icmp .ne 22, 3) := by decide +kernel
theorem dL_holds_385 : decode cL_holds 385 = .ok (.aload_n 0, 1) := by decide +kernel
theorem dL_holds_386 : decode cL_holds 386 = .ok (.bipush 9, 2) := by decide +kernel
theorem dL_holds_388 : decode cL_holds 388 = .ok (.invokevirtual 9, 3) := by decide +kernel
theorem dL_holds_391 : decode cL_holds 391 = .ok (.aload_n 0, 1) := by decide +kernel
theorem dL_holds_392 : decode cL_holds 392 = .ok (.bipush 8, 2) := by decide +kernel
theorem dL_holds_394 : decode cL_holds 394 = .ok (.invokevirtual 9, 3) := by decide +kernel
theorem dL_holds_397 : decode cL_holds 397 = .ok (.if_icmp .gt 7, 3) := by decide +kernel
theorem dL_holds_400 : decode cL_holds 400 = .ok (.iconst 1, 1) := by decide +kernel
theorem dL_holds_401 : decode cL_holds 401 = .ok (.goto 4, 3) := by decide +kernel
theorem dL_holds_404 : decode cL_holds 404 = .ok (.iconst 0, 1) := by decide +kernel
theorem dL_holds_405 : decode cL_holds 405 = .ok (.ireturn, 1) := by decide +kernel
theorem dL_tries_0 : decode cL_tries 0 = .ok (.aload_n 0, 1) := by decide +kernel
theorem dL_tries_1 : decode cL_tries 1 = .ok (.iconst 0, 1) := by decide +kernel
theorem dL_tries_2 : decode cL_tries 2 = .ok (.invokevirtual 9, 3) := by decide +kernel
theorem dL_tries_5 : decode cL_tries 5 = .ok (.istore_n 2, 1) := by decide +kernel
theorem dL_tries_6 : decode cL_tries 6 = .ok (.iload_n 1, 1) := by decide +kernel
theorem dL_tries_7 : decode cL_tries 7 = .ok (.iload_n 2, 1) := by decide +kernel
theorem dL_tries_8 : decode cL_tries 8 = .ok (.iconst 1, 1) := by decide +kernel
theorem dL_tries_9 : decode cL_tries 9 = .ok (.iadd, 1) := by decide +kernel
theorem dL_tries_10 : decode cL_tries 10 = .ok (.invokestatic 15, 3) := by decide +kernel
theorem dL_tries_13 : decode cL_tries 13 = .ok (.istore_n 3, 1) := by decide +kernel
theorem dL_tries_14 : decode cL_tries 14 = .ok (.aload_n 0, 1) := by decide +kernel
theorem dL_tries_15 : decode cL_tries 15 = .ok (.iload_n 3, 1) := by decide +kernel
theorem dL_tries_16 : decode cL_tries 16 = .ok (.invokevirtual 69, 3) := by decide +kernel
theorem dL_tries_19 : decode cL_tries 19 = .ok (.istore 4, 2) := by decide +kernel
theorem dL_tries_21 : decode cL_tries 21 = .ok (.aload_n 0, 1) := by decide +kernel
theorem dL_tries_22 : decode cL_tries 22 = .ok (.bipush 8, 2) := by decide +kernel
theorem dL_tries_24 : decode cL_tries 24 = .ok (.invokevirtual 9, 3) := by decide +kernel
theorem dL_tries_27 : decode cL_tries 27 = .ok (.istore 5, 2) := by decide +kernel
theorem dL_tries_29 : decode cL_tries 29 = .ok (.iconst 1, 1) := by decide +kernel
theorem dL_tries_30 : decode cL_tries 30 = .ok (.istore 6, 2) := by decide +kernel
theorem dL_tries_32 : decode cL_tries 32 = .ok (.iload 4, 2) := by decide +kernel
theorem dL_tries_34 : decode cL_tries 34 = .ok (.ifCond .ne 113, 3) := by decide +kernel
theorem dL_tries_37 : decode cL_tries 37 = .ok (.aload_n 0, 1) := by decide +kernel
theorem dL_tries_38 : decode cL_tries 38 = .ok (.iload_n 3, 1) := by decide +kernel
theorem dL_tries_39 : decode cL_tries 39 = .ok (.invokevirtual 72, 3) := by decide +kernel
theorem dL_tries_42 : decode cL_tries 42 = .ok (.istore 7, 2) := by decide +kernel
theorem dL_tries_44 : decode cL_tries 44 = .ok (.aload_n 0, 1) := by decide +kernel
theorem dL_tries_45 : decode cL_tries 45 = .ok (.iload_n 3, 1) := by decide +kernel
theorem dL_tries_46 : decode cL_tries 46 = .ok (.bipush 8, 2) := by decide +kernel
theorem dL_tries_48 : decode cL_tries 48 = .ok (.invokevirtual 45, 3) := by decide +kernel
theorem dL_tries_51 : decode cL_tries 51 = .ok (.istore 8, 2) := by decide +kernel
theorem dL_tries_53 : decode cL_tries 53 = .ok (.aload_n 0, 1) := by decide +kernel
theorem dL_tries_54 : decode cL_tries 54 = .ok (.bipush 9, 2) := by decide +kernel
theorem dL_tries_56 : decode cL_tries 56 = .ok (.invokevirtual 9, 3) := by decide +kernel
theorem dL_tries_59 : decode cL_tries 59 = .ok (.istore 9, 2) := by decide +kernel
theorem dL_tries_61 : decode cL_tries 61 = .ok (.aload_n 0, 1) := by decide +kernel
theorem dL_tries_62 : decode cL_tries 62 = .ok (.iconst 5, 1) := by decide +kernel
theorem dL_tries_63 : decode cL_tries 63 = .ok (.invokevirtual 9, 3) := by decide +kernel
theorem dL_tries_66 : decode cL_tries 66 = .ok (.istore 10, 2) := by decide +kernel
theorem dL_tries_68 : decode cL_tries 68 = .ok (.aload_n 0, 1) := by decide +kernel
theorem dL_tries_69 : decode cL_tries 69 = .ok (.iload_n 3, 1) := by decide +kernel
theorem dL_tries_70 : decode cL_tries 70 = .ok (.invokevirtual 29, 3) := by decide +kernel
theorem dL_tries_73 : decode cL_tries 73 = .ok (.ifCond .lt 71, 3) := by decide +kernel
theorem dL_tries_76 : decode cL_tries 76 = .ok (.aload_n 0, 1) := by decide +kernel
theorem dL_tries_77 : decode cL_tries 77 = .ok (.bipush 8, 2) := by decide +kernel
theorem dL_tries_79 : decode cL_tries 79 = .ok (.invokevirtual 9, 3) := by decide +kernel
theorem dL_tries_82 : decode cL_tries 82 = .ok (.iload 5, 2) := by decide +kernel
theorem dL_tries_84 : decode cL_tries 84 = .ok (.iload 7, 2) := by decide +kernel
theorem dL_tries_86 : decode cL_tries 86 = .ok (.iadd, 1) := by decide +kernel
theorem dL_tries_87 : decode cL_tries 87 = .ok (.if_icmp .ne 57, 3) := by decide +kernel
theorem dL_tries_90 : decode cL_tries 90 = .ok (.aload_n 0, 1) := by decide +kernel
theorem dL_tries_91 : decode cL_tries 91 = .ok (.bipush 9, 2) := by decide +kernel
theorem dL_tries_93 : decode cL_tries 93 = .ok (.invokevirtual 9, 3) := by decide +kernel
theorem dL_tries_96 : decode cL_tries 96 = .ok (.iload 9, 2) := by decide +kernel
theorem dL_tries_98 : decode cL_tries 98 = .ok (.iconst 2, 1) := by decide +kernel
theorem dL_tries_99 : decode cL_tries 99 = .ok (.iload 10, 2) := by decide +kernel
theorem dL_tries_101 : decode cL_tries 101 = .ok (.iconst 4, 1) := by decide +kernel
theorem dL_tries_102 : decode cL_tries 102 = .ok (.idiv, 1) := by decide +kernel
theorem dL_tries_103 : decode cL_tries 103 = .ok (.iadd, 1) := by decide +kernel
theorem dL_tries_104 : decode cL_tries 104 = .ok (.iload 8, 2) := by decide +kernel
theorem dL_tries_106 : decode cL_tries 106 = .ok (.imul, 1) := by decide +kernel
theorem dL_tries_107 : decode cL_tries 107 = .ok (.iadd, 1) := by decide +kernel
theorem dL_tries_108 : decode cL_tries 108 = .ok (.if_icmp .ne 36, 3) := by decide +kernel
theorem dL_tries_111 : decode cL_tries 111 = .ok (.aload_n 0, 1) := by decide +kernel
theorem dL_tries_112 : decode cL_tries 112 = .ok (.iconst 5, 1) := by decide +kernel
theorem dL_tries_113 : decode cL_tries 113 = .ok (.invokevirtual 9, 3) := by decide +kernel
theorem dL_tries_116 : decode cL_tries 116 = .ok (.iload 10, 2) := by decide +kernel
theorem dL_tries_118 : decode cL_tries 118 = .ok (.iconst 1, 1) := by decide +kernel
theorem dL_tries_119 : decode cL_tries 119 = .ok (.iadd, 1) := by decide +kernel
theorem dL_tries_120 : decode cL_tries 120 = .ok (.if_icmp .ne 24, 3) := by decide +kernel
theorem dL_tries_123 : decode cL_tries 123 = .ok (.aload_n 0, 1) := by decide +kernel
theorem dL_tries_124 : decode cL_tries 124 = .ok (.iload_n 3, 1) := by decide +kernel
theorem dL_tries_125 : decode cL_tries 125 = .ok (.iconst 5, 1) := by decide +kernel
theorem dL_tries_126 : decode cL_tries 126 = .ok (.invokevirtual 45, 3) := by decide +kernel
theorem dL_tries_129 : decode cL_tries 129 = .ok (.iconst 1, 1) := by decide +kernel
theorem dL_tries_130 : decode cL_tries 130 = .ok (.if_icmp .ne 14, 3) := by decide +kernel
theorem dL_tries_133 : decode cL_tries 133 = .ok (.aload_n 0, 1) := by decide +kernel
theorem dL_tries_134 : decode cL_tries 134 = .ok (.invokevirtual 85, 3) := by decide +kernel
theorem dL_tries_137 : decode cL_tries 137 = .ok (.ifCond .lt 7, 3) := by decide +kernel
theorem dL_tries_140 : decode cL_tries 140 = .ok (.iconst 1, 1) := by decide +kernel
theorem dL_tries_141 : decode cL_tries 141 = .ok (.goto 4, 3) := by decide +kernel
theorem dL_tries_144 : decode cL_tries 144 = .ok (.iconst 0, 1) := by decide +kernel
theorem dL_tries_145 : decode cL_tries 145 = .ok (.istore 6, 2) := by decide +kernel
theorem dL_tries_147 : decode cL_tries 147 = .ok (.iload 4, 2) := by decide +kernel
theorem dL_tries_149 : decode cL_tries 149 = .ok (.iconst 4, 1) := by decide +kernel
theorem dL_tries_150 : decode cL_tries 150 = .ok (.if_icmp .ne 11, 3) := by decide +kernel
theorem dL_tries_153 : decode cL_tries 153 = .ok (.aload_n 0, 1) := by decide +kernel
theorem dL_tries_154 : decode cL_tries 154 = .ok (.iload_n 3, 1) := by decide +kernel
theorem dL_tries_155 : decode cL_tries 155 = .ok (.invokevirtual 75, 3) := by decide +kernel
theorem dL_tries_158 : decode cL_tries 158 = .ok (.goto 4, 3) := by decide +kernel
theorem dL_tries_161 : decode cL_tries 161 = .ok (.iconst 0, 1) := by decide +kernel
theorem dL_tries_162 : decode cL_tries 162 = .ok (.istore 7, 2) := by decide +kernel
theorem dL_tries_164 : decode cL_tries 164 = .ok (.iload 6, 2) := by decide +kernel
theorem dL_tries_166 : decode cL_tries 166 = .ok (.ifCond .eq 80, 3) := by decide +kernel
theorem dL_tries_169 : decode cL_tries 169 = .ok (.iload 7, 2) := by decide +kernel
theorem dL_tries_171 : decode cL_tries 171 = .ok (.ifCond .le 75, 3) := by decide +kernel
theorem dL_tries_174 : decode cL_tries 174 = .ok (.iload 7, 2) := by decide +kernel
theorem dL_tries_176 : decode cL_tries 176 = .ok (.sipush 1000, 3) := by decide +kernel
theorem dL_tries_179 : decode cL_tries 179 = .ok (.if_icmp .ge 67, 3) := by decide +kernel
theorem dL_tries_182 : decode cL_tries 182 = .ok (.aload_n 0, 1) := by decide +kernel
theorem dL_tries_183 : decode cL_tries 183 = .ok (.iload 7, 2) := by decide +kernel
theorem dL_tries_185 : decode cL_tries 185 = .ok (.invokevirtual 35, 3) := by decide +kernel
theorem dL_tries_188 : decode cL_tries 188 = .ok (.ifCond .lt 55, 3) := by decide +kernel
theorem dL_tries_191 : decode cL_tries 191 = .ok (.aload_n 0, 1) := by decide +kernel
theorem dL_tries_192 : decode cL_tries 192 = .ok (.iload_n 3, 1) := by decide +kernel
theorem dL_tries_193 : decode cL_tries 193 = .ok (.invokevirtual 69, 3) := by decide +kernel
theorem dL_tries_196 : decode cL_tries 196 = .ok (.ifCond .ne 47, 3) := by decide +kernel
theorem dL_tries_199 : decode cL_tries 199 = .ok (.aload_n 0, 1) := by decide +kernel
theorem dL_tries_200 : decode cL_tries 200 = .ok (.invokevirtual 85, 3) := by decide +kernel
theorem dL_tries_203 : decode cL_tries 203 = .ok (.ifCond .lt 40, 3) := by decide +kernel
theorem dL_tries_206 : decode cL_tries 206 = .ok (.iload 7, 2) := by decide +kernel
theorem dL_tries_208 : decode cL_tries 208 = .ok (.iconst 1, 1) := by decide +kernel
theorem dL_tries_209 : decode cL_tries 209 = .ok (.if_icmp .eq 30, 3) := by decide +kernel
theorem dL_tries_212 : decode cL_tries 212 = .ok (.aload_n 0, 1) := by decide +kernel
theorem dL_tries_213 : decode cL_tries 213 = .ok (.iload 7, 2) := by decide +kernel
theorem dL_tries_215 : decode cL_tries 215 = .ok (.iconst 1, 1) := by decide +kernel
theorem dL_tries_216 : decode cL_tries 216 = .ok (.isub, 1) := by decide +kernel
theorem dL_tries_217 : decode cL_tries 217 = .ok (.invokevirtual 35, 3) := by decide +kernel
theorem dL_tries_220 : decode cL_tries 220 = .ok (.ifCond .lt 23, 3) := by decide +kernel
theorem dL_tries_223 : decode cL_tries 223 = .ok (.aload_n 0, 1) := by decide +kernel
theorem dL_tries_224 : decode cL_tries 224 = .ok (.iload_n 3, 1) := by decide +kernel
theorem dL_tries_225 : decode cL_tries 225 = .ok (.invokevirtual 69, 3) := by decide +kernel
theorem dL_tries_228 : decode cL_tries 228 = .ok (.iconst 4, 1) := by decide +kernel
theorem dL_tries_229 : decode cL_tries 229 = .ok (.if_icmp .ne 14, 3) := by decide +kernel
theorem dL_tries_232 : decode cL_tries 232 = .ok (.aload_n 0, 1) := by decide +kernel
theorem dL_tries_233 : decode cL_tries 233 = .ok (.invokevirtual 85, 3) := by decide +kernel
theorem dL_tries_236 : decode cL_tries 236 = .ok (.ifCond .lt 7, 3) := by decide +kernel
theorem dL_tries_239 : decode cL_tries 239 = .ok (.iconst 1, 1) := by decide +kernel
theorem dL_tries_240 : decode cL_tries 240 = .ok (.goto 4, 3) := by decide +kernel
theorem dL_tries_243 : decode cL_tries 243 = .ok (.iconst 0, 1) := by decide +kernel
theorem dL_tries_244 : decode cL_tries 244 = .ok (.istore 6, 2) := by decide +kernel
theorem dL_tries_246 : decode cL_tries 246 = .ok (.iload 6, 2) := by decide +kernel
theorem dL_tries_248 : decode cL_tries 248 = .ok (.ifCond .eq 18, 3) := by decide +kernel
theorem dL_tries_251 : decode cL_tries 251 = .ok (.aload_n 0, 1) := by decide +kernel
theorem dL_tries_252 : decode cL_tries 252 = .ok (.bipush 8, 2) := by decide +kernel
theorem dL_tries_254 : decode cL_tries 254 = .ok (.invokevirtual 9, 3) := by decide +kernel
theorem dL_tries_257 : decode cL_tries 257 = .ok (.iload 5, 2) := by decide +kernel
theorem dL_tries_259 : decode cL_tries 259 = .ok (.if_icmp .ne 7, 3) := by decide +kernel
theorem dL_tries_262 : decode cL_tries 262 = .ok (.iconst 1, 1) := by decide +kernel
theorem dL_tries_263 : decode cL_tries 263 = .ok (.goto 4, 3) := by decide +kernel
theorem dL_tries_266 : decode cL_tries 266 = .ok (.iconst 0, 1) := by decide +kernel
theorem dL_tries_267 : decode cL_tries 267 = .ok (.ireturn, 1) := by decide +kernel
theorem dL_goesThrough_0 : decode cL_goesThrough 0 = .ok (.aload_n 0, 1) := by decide +kernel
theorem dL_goesThrough_1 : decode cL_goesThrough 1 = .ok (.iconst 1, 1) := by decide +kernel
theorem dL_goesThrough_2 : decode cL_goesThrough 2 = .ok (.invokevirtual 9, 3) := by decide +kernel
theorem dL_goesThrough_5 : decode cL_goesThrough 5 = .ok (.istore_n 1, 1) := by decide +kernel
theorem dL_goesThrough_6 : decode cL_goesThrough 6 = .ok (.aload_n 0, 1) := by decide +kernel
theorem dL_goesThrough_7 : decode cL_goesThrough 7 = .ok (.invokevirtual 88, 3) := by decide +kernel
theorem dL_goesThrough_10 : decode cL_goesThrough 10 = .ok (.istore_n 2, 1) := by decide +kernel
theorem dL_goesThrough_11 : decode cL_goesThrough 11 = .ok (.iconst 0, 1) := by decide +kernel
theorem dL_goesThrough_12 : decode cL_goesThrough 12 = .ok (.istore_n 3, 1) := by decide +kernel
theorem dL_goesThrough_13 : decode cL_goesThrough 13 = .ok (.aload_n 0, 1) := by decide +kernel
theorem dL_goesThrough_14 : decode cL_goesThrough 14 = .ok (.bipush 8, 2) := by decide +kernel
theorem dL_goesThrough_16 : decode cL_goesThrough 16 = .ok (.invokevirtual 9, 3) := by decide +kernel
theorem dL_goesThrough_19 : decode cL_goesThrough 19 = .ok (.istore 4, 2) := by decide +kernel
theorem dL_goesThrough_21 : decode cL_goesThrough 21 = .ok (.bipush 12, 2) := by decide +kernel
theorem dL_goesThrough_23 : decode cL_goesThrough 23 = .ok (.newarray .int, 2) := by decide +kernel
theorem dL_goesThrough_25 : decode cL_goesThrough 25 = .ok (.astore 5, 2) := by decide +kernel
theorem dL_goesThrough_27 : decode cL_goesThrough 27 = .ok (.iload_n 3, 1) := by decide +kernel
theorem dL_goesThrough_28 : decode cL_goesThrough 28 = .ok (.bipush 12, 2) := by decide +kernel
theorem dL_goesThrough_30 : decode cL_goesThrough 30 = .ok (.if_icmp .ge 28, 3) := by decide +kernel
theorem dL_goesThrough_33 : decode cL_goesThrough 33 = .ok (.aload_n 0, 1) := by decide +kernel
theorem dL_goesThrough_34 : decode cL_goesThrough 34 = .ok (.iload_n 3, 1) := by decide +kernel
theorem dL_goesThrough_35 : decode cL_goesThrough 35 = .ok (.invokevirtual 91, 3) := by decide +kernel
theorem dL_goesThrough_38 : decode cL_goesThrough 38 = .ok (.bipush (-5), 2) := by decide +kernel
theorem dL_goesThrough_40 : decode cL_goesThrough 40 = .ok (.if_icmp .eq 18, 3) := by decide +kernel
theorem dL_goesThrough_43 : decode cL_goesThrough 43 = .ok (.aload 5, 2) := by decide +kernel
theorem dL_goesThrough_45 : decode cL_goesThrough 45 = .ok (.iload_n 3, 1) := by decide +kernel
theorem dL_goesThrough_46 : decode cL_goesThrough 46 = .ok (.aload_n 0, 1) := by decide +kernel
theorem dL_goesThrough_47 : decode cL_goesThrough 47 = .ok (.iload_n 3, 1) := by decide +kernel
theorem dL_goesThrough_48 : decode cL_goesThrough 48 = .ok (.invokevirtual 91, 3) := by decide +kernel
theorem dL_goesThrough_51 : decode cL_goesThrough 51 = .ok (.iastore, 1) := by decide +kernel
theorem dL_goesThrough_52 : decode cL_goesThrough 52 = .ok (.iinc 3 1, 3) := by decide +kernel
theorem dL_goesThrough_55 : decode cL_goesThrough 55 = .ok (.goto (-28), 3) := by decide +kernel
theorem dL_goesThrough_58 : decode cL_goesThrough 58 = .ok (.iload_n 3, 1) := by decide +kernel
theorem dL_goesThrough_59 : decode cL_goesThrough 59 = .ok (.iload_n 1, 1) := by decide +kernel
theorem dL_goesThrough_60 : decode cL_goesThrough 60 = .ok (.if_icmp .gt 7, 3) := by decide +kernel
theorem dL_goesThrough_63 : decode cL_goesThrough 63 = .ok (.iconst 1, 1) := by decide +kernel
theorem dL_goesThrough_64 : decode cL_goesThrough 64 = .ok (.goto 4, 3) := by decide +kernel
theorem dL_goesThrough_67 : decode cL_goesThrough 67 = .ok (.iconst 0, 1) := by decide +kernel
theorem dL_goesThrough_68 : decode cL_goesThrough 68 = .ok (.istore 6, 2) := by decide +kernel
theorem dL_goesThrough_70 : decode cL_goesThrough 70 = .ok (.iconst 0, 1) := by decide +kernel
theorem dL_goesThrough_71 : decode cL_goesThrough 71 = .ok (.istore 7, 2) := by decide +kernel
theorem dL_goesThrough_73 : decode cL_goesThrough 73 = .ok (.iload 7, 2) := by decide +kernel
theorem dL_goesThrough_75 : decode cL_goesThrough 75 = .ok (.iload_n 3, 1) := by decide +kernel
theorem dL_goesThrough_76 : decode cL_goesThrough 76 = .ok (.if_icmp .ge 153, 3) := by decide +kernel
theorem dL_goesThrough_79 : decode cL_goesThrough 79 = .ok (.iload 6, 2) := by decide +kernel
theorem dL_goesThrough_81 : decode cL_goesThrough 81 = .ok (.ifCond .eq 148, 3) := by decide +kernel
theorem dL_goesThrough_84 : decode cL_goesThrough 84 = .ok (.aload_n 0, 1) := by decide +kernel
theorem dL_goesThrough_85 : decode cL_goesThrough 85 = .ok (.invokevirtual 82, 3) := by decide +kernel
theorem dL_goesThrough_88 : decode cL_goesThrough 88 = .ok (.bipush (-5), 2) := by decide +kernel
theorem dL_goesThrough_90 : decode cL_goesThrough 90 = .ok (.if_icmp .eq 25, 3) := by decide +kernel
theorem dL_goesThrough_93 : decode cL_goesThrough 93 = .ok (.aload_n 0, 1) := by decide +kernel
theorem dL_goesThrough_94 : decode cL_goesThrough 94 = .ok (.invokevirtual 82, 3) := by decide +kernel
theorem dL_goesThrough_97 : decode cL_goesThrough 97 = .ok (.aload 5, 2) := by decide +kernel
theorem dL_goesThrough_99 : decode cL_goesThrough 99 = .ok (.iload 7, 2) := by decide +kernel
theorem dL_goesThrough_101 : decode cL_goesThrough 101 = .ok (.iaload, 1) := by decide +kernel
theorem dL_goesThrough_102 : decode cL_goesThrough 102 = .ok (.if_icmp .ne 7, 3) := by decide +kernel
theorem dL_goesThrough_105 : decode cL_goesThrough 105 = .ok (.iconst 1, 1) := by decide +kernel
theorem dL_goesThrough_106 : decode cL_goesThrough 106 = .ok (.goto 4, 3) := by decide +kernel
theorem dL_goesThrough_109 : decode cL_goesThrough 109 = .ok (.iconst 0, 1) := by decide +kernel
theorem dL_goesThrough_110 : decode cL_goesThrough 110 = .ok (.istore 6, 2) := by decide +kernel
theorem dL_goesThrough_112 : decode cL_goesThrough 112 = .ok (.goto 75, 3) := by decide +kernel
theorem dL_goesThrough_115 : decode cL_goesThrough 115 = .ok (.aload_n 0, 1) := by decide +kernel
theorem dL_goesThrough_116 : decode cL_goesThrough 116 = .ok (.aload 5, 2) := by decide +kernel
theorem dL_goesThrough_118 : decode cL_goesThrough 118 = .ok (.iload 7, 2) := by decide +kernel
theorem dL_goesThrough_120 : decode cL_goesThrough 120 = .ok (.iaload, 1) := by decide +kernel
theorem dL_goesThrough_121 : decode cL_goesThrough 121 = .ok (.invokevirtual 75, 3) := by decide +kernel
theorem dL_goesThrough_124 : decode cL_goesThrough 124 = .ok (.istore 8, 2) := by decide +kernel
theorem dL_goesThrough_126 : decode cL_goesThrough 126 = .ok (.iload 8, 2) := by decide +kernel
theorem dL_goesThrough_128 : decode cL_goesThrough 128 = .ok (.ifCond .le 7, 3) := by decide +kernel
theorem dL_goesThrough_131 : decode cL_goesThrough 131 = .ok (.iconst 1, 1) := by decide +kernel
theorem dL_goesThrough_132 : decode cL_goesThrough 132 = .ok (.goto 4, 3) := by decide +kernel
theorem dL_goesThrough_135 : decode cL_goesThrough 135 = .ok (.iconst 0, 1) := by decide +kernel
theorem dL_goesThrough_136 : decode cL_goesThrough 136 = .ok (.istore 6, 2) := by decide +kernel
theorem dL_goesThrough_138 : decode cL_goesThrough 138 = .ok (.iload 6, 2) := by decide +kernel
theorem dL_goesThrough_140 : decode cL_goesThrough 140 = .ok (.ifCond .eq 47, 3) := by decide +kernel
theorem dL_goesThrough_143 : decode cL_goesThrough 143 = .ok (.iload 8, 2) := by decide +kernel
theorem dL_goesThrough_145 : decode cL_goesThrough 145 = .ok (.ifCond .le 42, 3) := by decide +kernel
theorem dL_goesThrough_148 : decode cL_goesThrough 148 = .ok (.aload_n 0, 1) := by decide +kernel
theorem dL_goesThrough_149 : decode cL_goesThrough 149 = .ok (.iload 8, 2) := by decide +kernel
theorem dL_goesThrough_151 : decode cL_goesThrough 151 = .ok (.sipush 999, 3) := by decide +kernel
theorem dL_goesThrough_154 : decode cL_goesThrough 154 = .ok (.if_icmp .ge 8, 3) := by decide +kernel
theorem dL_goesThrough_157 : decode cL_goesThrough 157 = .ok (.iload 8, 2) := by decide +kernel
theorem dL_goesThrough_159 : decode cL_goesThrough 159 = .ok (.goto 6, 3) := by decide +kernel
theorem dL_goesThrough_162 : decode cL_goesThrough 162 = .ok (.sipush 999, 3) := by decide +kernel
theorem dL_goesThrough_165 : decode cL_goesThrough 165 = .ok (.invokevirtual 35, 3) := by decide +kernel
theorem dL_goesThrough_168 : decode cL_goesThrough 168 = .ok (.ifCond .lt 7, 3) := by decide +kernel
theorem dL_goesThrough_171 : decode cL_goesThrough 171 = .ok (.iconst 1, 1) := by decide +kernel
theorem dL_goesThrough_172 : decode cL_goesThrough 172 = .ok (.goto 4, 3) := by decide +kernel
theorem dL_goesThrough_175 : decode cL_goesThrough 175 = .ok (.iconst 0, 1) := by decide +kernel
theorem dL_goesThrough_176 : decode cL_goesThrough 176 = .ok (.istore 6, 2) := by decide +kernel
theorem dL_goesThrough_178 : decode cL_goesThrough 178 = .ok (.iinc 8 (-999), 6) := by decide +kernel
theorem dL_goesThrough_184 : decode cL_goesThrough 184 = .ok (.goto (-46), 3) := by decide +kernel
theorem dL_goesThrough_187 : decode cL_goesThrough 187 = .ok (.iload 6, 2) := by decide +kernel
theorem dL_goesThrough_189 : decode cL_goesThrough 189 = .ok (.ifCond .eq 31, 3) := by decide +kernel
theorem dL_goesThrough_192 : decode cL_goesThrough 192 = .ok (.aload_n 0, 1) := by decide +kernel
theorem dL_goesThrough_193 : decode cL_goesThrough 193 = .ok (.invokevirtual 82, 3) := by decide +kernel
theorem dL_goesThrough_196 : decode cL_goesThrough 196 = .ok (.aload 5, 2) := by decide +kernel
theorem dL_goesThrough_198 : decode cL_goesThrough 198 = .ok (.iload 7, 2) := by decide +kernel
theorem dL_goesThrough_200 : decode cL_goesThrough 200 = .ok (.iaload, 1) := by decide +kernel
theorem dL_goesThrough_201 : decode cL_goesThrough 201 = .ok (.if_icmp .ne 19, 3) := by decide +kernel
theorem dL_goesThrough_204 : decode cL_goesThrough 204 = .ok (.aload_n 0, 1) := by decide +kernel
theorem dL_goesThrough_205 : decode cL_goesThrough 205 = .ok (.aload 5, 2) := by decide +kernel
theorem dL_goesThrough_207 : decode cL_goesThrough 207 = .ok (.iload 7, 2) := by decide +kernel
theorem dL_goesThrough_209 : decode cL_goesThrough 209 = .ok (.iaload, 1) := by decide +kernel
theorem dL_goesThrough_210 : decode cL_goesThrough 210 = .ok (.invokevirtual 29, 3) := by decide +kernel
theorem dL_goesThrough_213 : decode cL_goesThrough 213 = .ok (.ifCond .lt 7, 3) := by decide +kernel
theorem dL_goesThrough_216 : decode cL_goesThrough 216 = .ok (.iconst 1, 1) := by decide +kernel
theorem dL_goesThrough_217 : decode cL_goesThrough 217 = .ok (.goto 4, 3) := by decide +kernel
theorem dL_goesThrough_220 : decode cL_goesThrough 220 = .ok (.iconst 0, 1) := by decide +kernel
theorem dL_goesThrough_221 : decode cL_goesThrough 221 = .ok (.istore 6, 2) := by decide +kernel
theorem dL_goesThrough_223 : decode cL_goesThrough 223 = .ok (.iinc 7 1, 3) := by decide +kernel
theorem dL_goesThrough_226 : decode cL_goesThrough 226 = .ok (.goto (-153), 3) := by decide +kernel
theorem dL_goesThrough_229 : decode cL_goesThrough 229 = .ok (.iload 6, 2) := by decide +kernel
theorem dL_goesThrough_231 : decode cL_goesThrough 231 = .ok (.ifCond .eq 45, 3) := by decide +kernel
theorem dL_goesThrough_234 : decode cL_goesThrough 234 = .ok (.iload_n 2, 1) := by decide +kernel
theorem dL_goesThrough_235 : decode cL_goesThrough 235 = .ok (.bipush (-5), 2) := by decide +kernel
theorem dL_goesThrough_237 : decode cL_goesThrough 237 = .ok (.if_icmp .ne 14, 3) := by decide +kernel
theorem dL_goesThrough_240 : decode cL_goesThrough 240 = .ok (.aload_n 0, 1) := by decide +kernel
theorem dL_goesThrough_241 : decode cL_goesThrough 241 = .ok (.iconst 1, 1) := by decide +kernel
theorem dL_goesThrough_242 : decode cL_goesThrough 242 = .ok (.invokevirtual 9, 3) := by decide +kernel
theorem dL_goesThrough_245 : decode cL_goesThrough 245 = .ok (.ifCond .le 31, 3) := by decide +kernel
theorem dL_goesThrough_248 : decode cL_goesThrough 248 = .ok (.goto 24, 3) := by decide +kernel
theorem dL_goesThrough_251 : decode cL_goesThrough 251 = .ok (.aload_n 0, 1) := by decide +kernel
theorem dL_goesThrough_252 : decode cL_goesThrough 252 = .ok (.iconst 1, 1) := by decide +kernel
theorem dL_goesThrough_253 : decode cL_goesThrough 253 = .ok (.invokevirtual 9, 3) := by decide +kernel
theorem dL_goesThrough_256 : decode cL_goesThrough 256 = .ok (.ifCond .ne 20, 3) := by decide +kernel
theorem dL_goesThrough_259 : decode cL_goesThrough 259 = .ok (.aload_n 0, 1) := by decide +kernel
theorem dL_goesThrough_260 : decode cL_goesThrough 260 = .ok (.bipush 8, 2) := by decide +kernel
theorem dL_goesThrough_262 : decode cL_goesThrough 262 = .ok (.invokevirtual 9, 3) := by decide +kernel
theorem dL_goesThrough_265 : decode cL_goesThrough 265 = .ok (.iload 4, 2) := by decide +kernel
theorem dL_goesThrough_267 : decode cL_goesThrough 267 = .ok (.iload_n 2, 1) := by decide +kernel
theorem dL_goesThrough_268 : decode cL_goesThrough 268 = .ok (.iadd, 1) := by decide +kernel
theorem dL_goesThrough_269 : decode cL_goesThrough 269 = .ok (.if_icmp .ne 7, 3) := by decide +kernel
theorem dL_goesThrough_272 : decode cL_goesThrough 272 = .ok (.iconst 1, 1) := by decide +kernel
theorem dL_goesThrough_273 : decode cL_goesThrough 273 = .ok (.goto 4, 3) := by decide +kernel
theorem dL_goesThrough_276 : decode cL_goesThrough 276 = .ok (.iconst 0, 1) := by decide +kernel
theorem dL_goesThrough_277 : decode cL_goesThrough 277 = .ok (.ireturn, 1) := by decide +kernel
theorem dL_law_0 : decode cL_law 0 = .ok (.new 10, 3) := by decide +kernel
theorem dL_law_3 : decode cL_law 3 = .ok (.dup, 1) := by decide +kernel
theorem dL_law_4 : decode cL_law 4 = .ok (.invokespecial 94, 3) := by decide +kernel
theorem dL_law_7 : decode cL_law 7 = .ok (.astore_n 1, 1) := by decide +kernel
theorem dL_law_8 : decode cL_law 8 = .ok (.aload_n 1, 1) := by decide +kernel
theorem dL_law_9 : decode cL_law 9 = .ok (.invokestatic 95, 3) := by decide +kernel
theorem dL_law_12 : decode cL_law 12 = .ok (.ifCond .eq 32, 3) := by decide +kernel
theorem dL_law_15 : decode cL_law 15 = .ok (.aload_n 1, 1) := by decide +kernel
theorem dL_law_16 : decode cL_law 16 = .ok (.invokevirtual 85, 3) := by decide +kernel
theorem dL_law_19 : decode cL_law 19 = .ok (.bipush (-5), 2) := by decide +kernel
theorem dL_law_21 : decode cL_law 21 = .ok (.if_icmp .ne 23, 3) := by decide +kernel
theorem dL_law_24 : decode cL_law 24 = .ok (.aload_n 1, 1) := by decide +kernel
theorem dL_law_25 : decode cL_law 25 = .ok (.invokevirtual 99, 3) := by decide +kernel
theorem dL_law_28 : decode cL_law 28 = .ok (.bipush (-5), 2) := by decide +kernel
theorem dL_law_30 : decode cL_law 30 = .ok (.if_icmp .ne 14, 3) := by decide +kernel
theorem dL_law_33 : decode cL_law 33 = .ok (.aload_n 1, 1) := by decide +kernel
theorem dL_law_34 : decode cL_law 34 = .ok (.invokevirtual 88, 3) := by decide +kernel
theorem dL_law_37 : decode cL_law 37 = .ok (.ifCond .ne 7, 3) := by decide +kernel
theorem dL_law_40 : decode cL_law 40 = .ok (.iconst 1, 1) := by decide +kernel
theorem dL_law_41 : decode cL_law 41 = .ok (.goto 4, 3) := by decide +kernel
theorem dL_law_44 : decode cL_law 44 = .ok (.iconst 0, 1) := by decide +kernel
theorem dL_law_45 : decode cL_law 45 = .ok (.istore_n 2, 1) := by decide +kernel
theorem dL_law_46 : decode cL_law 46 = .ok (.aload_n 0, 1) := by decide +kernel
theorem dL_law_47 : decode cL_law 47 = .ok (.arraylength, 1) := by decide +kernel
theorem dL_law_48 : decode cL_law 48 = .ok (.iconst 3, 1) := by decide +kernel
theorem dL_law_49 : decode cL_law 49 = .ok (.idiv, 1) := by decide +kernel
theorem dL_law_50 : decode cL_law 50 = .ok (.bipush 32, 2) := by decide +kernel
theorem dL_law_52 : decode cL_law 52 = .ok (.if_icmp .le 8, 3) := by decide +kernel
theorem dL_law_55 : decode cL_law 55 = .ok (.bipush 32, 2) := by decide +kernel
theorem dL_law_57 : decode cL_law 57 = .ok (.goto 7, 3) := by decide +kernel
theorem dL_law_60 : decode cL_law 60 = .ok (.aload_n 0, 1) := by decide +kernel
theorem dL_law_61 : decode cL_law 61 = .ok (.arraylength, 1) := by decide +kernel
theorem dL_law_62 : decode cL_law 62 = .ok (.iconst 3, 1) := by decide +kernel
theorem dL_law_63 : decode cL_law 63 = .ok (.idiv, 1) := by decide +kernel
theorem dL_law_64 : decode cL_law 64 = .ok (.istore_n 3, 1) := by decide +kernel
theorem dL_law_65 : decode cL_law 65 = .ok (.iconst 0, 1) := by decide +kernel
theorem dL_law_66 : decode cL_law 66 = .ok (.istore 4, 2) := by decide +kernel
theorem dL_law_68 : decode cL_law 68 = .ok (.iload 4, 2) := by decide +kernel
theorem dL_law_70 : decode cL_law 70 = .ok (.iload_n 3, 1) := by decide +kernel
theorem dL_law_71 : decode cL_law 71 = .ok (.if_icmp .ge 131, 3) := by decide +kernel
theorem dL_law_74 : decode cL_law 74 = .ok (.iload_n 2, 1) := by decide +kernel
theorem dL_law_75 : decode cL_law 75 = .ok (.ifCond .eq 127, 3) := by decide +kernel
theorem dL_law_78 : decode cL_law 78 = .ok (.aload_n 1, 1) := by decide +kernel
theorem dL_law_79 : decode cL_law 79 = .ok (.bipush 17, 2) := by decide +kernel
theorem dL_law_81 : decode cL_law 81 = .ok (.invokevirtual 9, 3) := by decide +kernel
theorem dL_law_84 : decode cL_law 84 = .ok (.istore 5, 2) := by decide +kernel
theorem dL_law_86 : decode cL_law 86 = .ok (.aload_n 1, 1) := by decide +kernel
theorem dL_law_87 : decode cL_law 87 = .ok (.aload_n 0, 1) := by decide +kernel
theorem dL_law_88 : decode cL_law 88 = .ok (.iconst 3, 1) := by decide +kernel
theorem dL_law_89 : decode cL_law 89 = .ok (.iload 4, 2) := by decide +kernel
theorem dL_law_91 : decode cL_law 91 = .ok (.imul, 1) := by decide +kernel
theorem dL_law_92 : decode cL_law 92 = .ok (.invokestatic 102, 3) := by decide +kernel
theorem dL_law_95 : decode cL_law 95 = .ok (.bipush 13, 2) := by decide +kernel
theorem dL_law_97 : decode cL_law 97 = .ok (.invokestatic 15, 3) := by decide +kernel
theorem dL_law_100 : decode cL_law 100 = .ok (.aload_n 0, 1) := by decide +kernel
theorem dL_law_101 : decode cL_law 101 = .ok (.iconst 3, 1) := by decide +kernel
theorem dL_law_102 : decode cL_law 102 = .ok (.iload 4, 2) := by decide +kernel
theorem dL_law_104 : decode cL_law 104 = .ok (.imul, 1) := by decide +kernel
theorem dL_law_105 : decode cL_law 105 = .ok (.iconst 1, 1) := by decide +kernel
theorem dL_law_106 : decode cL_law 106 = .ok (.iadd, 1) := by decide +kernel
theorem dL_law_107 : decode cL_law 107 = .ok (.invokestatic 102, 3) := by decide +kernel
theorem dL_law_110 : decode cL_law 110 = .ok (.aload_n 0, 1) := by decide +kernel
theorem dL_law_111 : decode cL_law 111 = .ok (.iconst 3, 1) := by decide +kernel
theorem dL_law_112 : decode cL_law 112 = .ok (.iload 4, 2) := by decide +kernel
theorem dL_law_114 : decode cL_law 114 = .ok (.imul, 1) := by decide +kernel
theorem dL_law_115 : decode cL_law 115 = .ok (.iconst 2, 1) := by decide +kernel
theorem dL_law_116 : decode cL_law 116 = .ok (.iadd, 1) := by decide +kernel
theorem dL_law_117 : decode cL_law 117 = .ok (.invokestatic 102, 3) := by decide +kernel
theorem dL_law_120 : decode cL_law 120 = .ok (.invokestatic 106, 3) := by decide +kernel
theorem dL_law_123 : decode cL_law 123 = .ok (.istore 6, 2) := by decide +kernel
theorem dL_law_125 : decode cL_law 125 = .ok (.aload_n 1, 1) := by decide +kernel
theorem dL_law_126 : decode cL_law 126 = .ok (.bipush 17, 2) := by decide +kernel
theorem dL_law_128 : decode cL_law 128 = .ok (.invokevirtual 9, 3) := by decide +kernel
theorem dL_law_131 : decode cL_law 131 = .ok (.iload 6, 2) := by decide +kernel
theorem dL_law_133 : decode cL_law 133 = .ok (.ifCond .ge 8, 3) := by decide +kernel
theorem dL_law_136 : decode cL_law 136 = .ok (.iload 5, 2) := by decide +kernel
theorem dL_law_138 : decode cL_law 138 = .ok (.goto 17, 3) := by decide +kernel
theorem dL_law_141 : decode cL_law 141 = .ok (.iload 5, 2) := by decide +kernel
theorem dL_law_143 : decode cL_law 143 = .ok (.iconst 4, 1) := by decide +kernel
theorem dL_law_144 : decode cL_law 144 = .ok (.if_icmp .ne 7, 3) := by decide +kernel
theorem dL_law_147 : decode cL_law 147 = .ok (.iconst 4, 1) := by decide +kernel
theorem dL_law_148 : decode cL_law 148 = .ok (.goto 7, 3) := by decide +kernel
theorem dL_law_151 : decode cL_law 151 = .ok (.iload 5, 2) := by decide +kernel
theorem dL_law_153 : decode cL_law 153 = .ok (.iconst 1, 1) := by decide +kernel
theorem dL_law_154 : decode cL_law 154 = .ok (.iadd, 1) := by decide +kernel
theorem dL_law_155 : decode cL_law 155 = .ok (.if_icmp .ne 39, 3) := by decide +kernel
theorem dL_law_158 : decode cL_law 158 = .ok (.aload_n 1, 1) := by decide +kernel
theorem dL_law_159 : decode cL_law 159 = .ok (.invokestatic 95, 3) := by decide +kernel
theorem dL_law_162 : decode cL_law 162 = .ok (.ifCond .eq 32, 3) := by decide +kernel
theorem dL_law_165 : decode cL_law 165 = .ok (.iload 4, 2) := by decide +kernel
theorem dL_law_167 : decode cL_law 167 = .ok (.iconst 3, 1) := by decide +kernel
theorem dL_law_168 : decode cL_law 168 = .ok (.irem, 1) := by decide +kernel
theorem dL_law_169 : decode cL_law 169 = .ok (.iconst 2, 1) := by decide +kernel
theorem dL_law_170 : decode cL_law 170 = .ok (.if_icmp .ne 20, 3) := by decide +kernel
theorem dL_law_173 : decode cL_law 173 = .ok (.aload_n 1, 1) := by decide +kernel
theorem dL_law_174 : decode cL_law 174 = .ok (.aload_n 0, 1) := by decide +kernel
theorem dL_law_175 : decode cL_law 175 = .ok (.iconst 3, 1) := by decide +kernel
theorem dL_law_176 : decode cL_law 176 = .ok (.iload 4, 2) := by decide +kernel
theorem dL_law_178 : decode cL_law 178 = .ok (.imul, 1) := by decide +kernel
theorem dL_law_179 : decode cL_law 179 = .ok (.iconst 2, 1) := by decide +kernel
theorem dL_law_180 : decode cL_law 180 = .ok (.iadd, 1) := by decide +kernel
theorem dL_law_181 : decode cL_law 181 = .ok (.invokestatic 102, 3) := by decide +kernel
theorem dL_law_184 : decode cL_law 184 = .ok (.invokestatic 110, 3) := by decide +kernel
theorem dL_law_187 : decode cL_law 187 = .ok (.ifCond .eq 7, 3) := by decide +kernel
theorem dL_law_190 : decode cL_law 190 = .ok (.iconst 1, 1) := by decide +kernel
theorem dL_law_191 : decode cL_law 191 = .ok (.goto 4, 3) := by decide +kernel
theorem dL_law_194 : decode cL_law 194 = .ok (.iconst 0, 1) := by decide +kernel
theorem dL_law_195 : decode cL_law 195 = .ok (.istore_n 2, 1) := by decide +kernel
theorem dL_law_196 : decode cL_law 196 = .ok (.iinc 4 1, 3) := by decide +kernel
theorem dL_law_199 : decode cL_law 199 = .ok (.goto (-131), 3) := by decide +kernel
theorem dL_law_202 : decode cL_law 202 = .ok (.iload_n 2, 1) := by decide +kernel
theorem dL_law_203 : decode cL_law 203 = .ok (.ifCond .eq 21, 3) := by decide +kernel
theorem dL_law_206 : decode cL_law 206 = .ok (.aload_n 1, 1) := by decide +kernel
theorem dL_law_207 : decode cL_law 207 = .ok (.invokestatic 113, 3) := by decide +kernel
theorem dL_law_210 : decode cL_law 210 = .ok (.ifCond .eq 14, 3) := by decide +kernel
theorem dL_law_213 : decode cL_law 213 = .ok (.aload_n 1, 1) := by decide +kernel
theorem dL_law_214 : decode cL_law 214 = .ok (.invokestatic 95, 3) := by decide +kernel
theorem dL_law_217 : decode cL_law 217 = .ok (.ifCond .eq 7, 3) := by decide +kernel
theorem dL_law_220 : decode cL_law 220 = .ok (.iconst 1, 1) := by decide +kernel
theorem dL_law_221 : decode cL_law 221 = .ok (.goto 4, 3) := by decide +kernel
theorem dL_law_224 : decode cL_law 224 = .ok (.iconst 0, 1) := by decide +kernel
theorem dL_law_225 : decode cL_law 225 = .ok (.ireturn, 1) := by decide +kernel
abbrev vwCl : List vw_C := [(RX0, TX0, 7), (RX1, TX1, 9), (RX2, TX2, 10), (RX3, TX3, 10)]
end
section
/-! each word of the tables, by its place (by program: wip/whole/gen_words.py) -/
def WS : List Cond := lw_tbl.filter goodWord
theorem WS_sub : ∀ w ∈ WS, w ∈ lw_tbl := fun w h => (List.mem_filter.mp h).1
theorem WS_good : GoodIn WS WS := fun w h => ⟨h, good_of_word (List.mem_filter.mp h).2⟩
set_option maxRecDepth 20000 in
theorem mI_L : Cond.initialized RL ∈ WS := List.mem_filter.mpr ⟨List.mem_of_getElem? (i := 18) rfl, rfl⟩
set_option maxRecDepth 20000 in
theorem mI_X3 : Cond.initialized RX3 ∈ WS := List.mem_filter.mpr ⟨List.mem_of_getElem? (i := 19) rfl, rfl⟩
set_option maxRecDepth 20000 in
theorem mI_X2 : Cond.initialized RX2 ∈ WS := List.mem_filter.mpr ⟨List.mem_of_getElem? (i := 20) rfl, rfl⟩
set_option maxRecDepth 20000 in
theorem mI_X1 : Cond.initialized RX1 ∈ WS := List.mem_filter.mpr ⟨List.mem_of_getElem? (i := 21) rfl, rfl⟩
set_option maxRecDepth 20000 in
theorem mI_X0 : Cond.initialized RX0 ∈ WS := List.mem_filter.mpr ⟨List.mem_of_getElem? (i := 22) rfl, rfl⟩
set_option maxRecDepth 20000 in
theorem mI_Math : Cond.initialized "java/lang/Math" ∈ WS := List.mem_filter.mpr ⟨List.mem_of_getElem? (i := 23) rfl, rfl⟩
set_option maxRecDepth 20000 in
theorem mC_L_10 : Cond.classLink RL 10 RX3 ∈ WS := List.mem_filter.mpr ⟨List.mem_of_getElem? (i := 24) rfl, rfl⟩
set_option maxRecDepth 20000 in
theorem mN_X3 : Cond.instantiable RX3 10 ∈ WS := List.mem_filter.mpr ⟨List.mem_of_getElem? (i := 25) rfl, rfl⟩
set_option maxRecDepth 20000 in
theorem mL_L_94 : Cond.methodLink RL 94 yX3_init ∈ WS := List.mem_filter.mpr ⟨List.mem_of_getElem? (i := 26) rfl, rfl⟩
set_option maxRecDepth 20000 in
theorem mL_X3_1 : Cond.methodLink RX3 1 objectInit ∈ WS := List.mem_filter.mpr ⟨List.mem_of_getElem? (i := 29) rfl, rfl⟩
set_option maxRecDepth 20000 in
theorem mC_X3_7 : Cond.classLink RX3 7 RX2 ∈ WS := List.mem_filter.mpr ⟨List.mem_of_getElem? (i := 32) rfl, rfl⟩
set_option maxRecDepth 20000 in
theorem mN_X2 : Cond.instantiable RX2 10 ∈ WS := List.mem_filter.mpr ⟨List.mem_of_getElem? (i := 33) rfl, rfl⟩
set_option maxRecDepth 20000 in
theorem mL_X3_9 : Cond.methodLink RX3 9 yX2_init ∈ WS := List.mem_filter.mpr ⟨List.mem_of_getElem? (i := 34) rfl, rfl⟩
set_option maxRecDepth 20000 in
theorem mL_X2_3 : Cond.methodLink RX2 3 objectInit ∈ WS := List.mem_filter.mpr ⟨List.mem_of_getElem? (i := 37) rfl, rfl⟩
set_option maxRecDepth 20000 in
theorem mC_X2_11 : Cond.classLink RX2 11 RX1 ∈ WS := List.mem_filter.mpr ⟨List.mem_of_getElem? (i := 38) rfl, rfl⟩
set_option maxRecDepth 20000 in
theorem mN_X1 : Cond.instantiable RX1 9 ∈ WS := List.mem_filter.mpr ⟨List.mem_of_getElem? (i := 40) rfl, rfl⟩
set_option maxRecDepth 20000 in
theorem mL_X2_17 : Cond.methodLink RX2 17 yX1_init ∈ WS := List.mem_filter.mpr ⟨List.mem_of_getElem? (i := 41) rfl, rfl⟩
set_option maxRecDepth 20000 in
theorem mL_X1_3 : Cond.methodLink RX1 3 objectInit ∈ WS := List.mem_filter.mpr ⟨List.mem_of_getElem? (i := 44) rfl, rfl⟩
set_option maxRecDepth 20000 in
theorem mF_X1_9 : Cond.fieldLink RX1 9 "BeamCuts$Shape" "left" "I" ∈ WS := List.mem_filter.mpr ⟨List.mem_of_getElem? (i := 45) rfl, rfl⟩
set_option maxRecDepth 20000 in
theorem mF_X2_167 : Cond.fieldLink RX2 167 "BeamCuts$Shape" "left" "I" ∈ WS := List.mem_filter.mpr ⟨List.mem_of_getElem? (i := 46) rfl, rfl⟩
set_option maxRecDepth 20000 in
theorem mF_X1_15 : Cond.fieldLink RX1 15 "BeamCuts$Shape" "top" "I" ∈ WS := List.mem_filter.mpr ⟨List.mem_of_getElem? (i := 47) rfl, rfl⟩
set_option maxRecDepth 20000 in
theorem mF_X2_170 : Cond.fieldLink RX2 170 "BeamCuts$Shape" "top" "I" ∈ WS := List.mem_filter.mpr ⟨List.mem_of_getElem? (i := 48) rfl, rfl⟩
set_option maxRecDepth 20000 in
theorem mF_X1_18 : Cond.fieldLink RX1 18 "BeamCuts$Shape" "width" "I" ∈ WS := List.mem_filter.mpr ⟨List.mem_of_getElem? (i := 49) rfl, rfl⟩
set_option maxRecDepth 20000 in
theorem mF_X2_173 : Cond.fieldLink RX2 173 "BeamCuts$Shape" "width" "I" ∈ WS := List.mem_filter.mpr ⟨List.mem_of_getElem? (i := 50) rfl, rfl⟩
set_option maxRecDepth 20000 in
theorem mF_X1_21 : Cond.fieldLink RX1 21 "BeamCuts$Shape" "height" "I" ∈ WS := List.mem_filter.mpr ⟨List.mem_of_getElem? (i := 51) rfl, rfl⟩
set_option maxRecDepth 20000 in
theorem mF_X2_176 : Cond.fieldLink RX2 176 "BeamCuts$Shape" "height" "I" ∈ WS := List.mem_filter.mpr ⟨List.mem_of_getElem? (i := 52) rfl, rfl⟩
set_option maxRecDepth 20000 in
theorem mF_X1_24 : Cond.fieldLink RX1 24 "BeamCuts$Shape" "lead" "I" ∈ WS := List.mem_filter.mpr ⟨List.mem_of_getElem? (i := 53) rfl, rfl⟩
set_option maxRecDepth 20000 in
theorem mF_X2_76 : Cond.fieldLink RX2 76 "BeamCuts$Shape" "lead" "I" ∈ WS := List.mem_filter.mpr ⟨List.mem_of_getElem? (i := 54) rfl, rfl⟩
set_option maxRecDepth 20000 in
theorem mF_X1_27 : Cond.fieldLink RX1 27 "BeamCuts$Shape" "condition" "I" ∈ WS := List.mem_filter.mpr ⟨List.mem_of_getElem? (i := 55) rfl, rfl⟩
set_option maxRecDepth 20000 in
theorem mF_X2_66 : Cond.fieldLink RX2 66 "BeamCuts$Shape" "condition" "I" ∈ WS := List.mem_filter.mpr ⟨List.mem_of_getElem? (i := 56) rfl, rfl⟩
set_option maxRecDepth 20000 in
theorem mF_X1_30 : Cond.fieldLink RX1 30 "BeamCuts$Shape" "tilted" "I" ∈ WS := List.mem_filter.mpr ⟨List.mem_of_getElem? (i := 57) rfl, rfl⟩
set_option maxRecDepth 20000 in
theorem mF_X2_119 : Cond.fieldLink RX2 119 "BeamCuts$Shape" "tilted" "I" ∈ WS := List.mem_filter.mpr ⟨List.mem_of_getElem? (i := 58) rfl, rfl⟩
set_option maxRecDepth 20000 in
theorem mF_X1_33 : Cond.fieldLink RX1 33 "BeamCuts$Shape" "rank" "I" ∈ WS := List.mem_filter.mpr ⟨List.mem_of_getElem? (i := 59) rfl, rfl⟩
set_option maxRecDepth 20000 in
theorem mF_X2_107 : Cond.fieldLink RX2 107 "BeamCuts$Shape" "rank" "I" ∈ WS := List.mem_filter.mpr ⟨List.mem_of_getElem? (i := 60) rfl, rfl⟩
set_option maxRecDepth 20000 in
theorem mF_X1_38 : Cond.fieldLink RX1 38 "BeamCuts$Shape" "edgeIn" "[I" ∈ WS := List.mem_filter.mpr ⟨List.mem_of_getElem? (i := 61) rfl, rfl⟩
set_option maxRecDepth 20000 in
theorem mF_X2_128 : Cond.fieldLink RX2 128 "BeamCuts$Shape" "edgeIn" "[I" ∈ WS := List.mem_filter.mpr ⟨List.mem_of_getElem? (i := 62) rfl, rfl⟩
set_option maxRecDepth 20000 in
theorem mA_int : Cond.arrayClass .int ∈ WS := List.mem_filter.mpr ⟨List.mem_of_getElem? (i := 82) rfl, rfl⟩
set_option maxRecDepth 20000 in
theorem mF_X2_13 : Cond.fieldLink RX2 13 "BeamCuts$Sheet" "shapes" "[LBeamCuts$Shape;" ∈ WS := List.mem_filter.mpr ⟨List.mem_of_getElem? (i := 83) rfl, rfl⟩
set_option maxRecDepth 20000 in
theorem mF_X2_18 : Cond.fieldLink RX2 18 "BeamCuts$Sheet" "heats" "[I" ∈ WS := List.mem_filter.mpr ⟨List.mem_of_getElem? (i := 84) rfl, rfl⟩
set_option maxRecDepth 20000 in
theorem mF_X2_22 : Cond.fieldLink RX2 22 "BeamCuts$Sheet" "settings" "[I" ∈ WS := List.mem_filter.mpr ⟨List.mem_of_getElem? (i := 85) rfl, rfl⟩
set_option maxRecDepth 20000 in
theorem mF_X2_25 : Cond.fieldLink RX2 25 "BeamCuts$Sheet" "told" "I" ∈ WS := List.mem_filter.mpr ⟨List.mem_of_getElem? (i := 86) rfl, rfl⟩
set_option maxRecDepth 20000 in
theorem mF_X3_96 : Cond.fieldLink RX3 96 "BeamCuts$Sheet" "told" "I" ∈ WS := List.mem_filter.mpr ⟨List.mem_of_getElem? (i := 87) rfl, rfl⟩
set_option maxRecDepth 20000 in
theorem mF_X2_29 : Cond.fieldLink RX2 29 "BeamCuts$Sheet" "column" "I" ∈ WS := List.mem_filter.mpr ⟨List.mem_of_getElem? (i := 88) rfl, rfl⟩
set_option maxRecDepth 20000 in
theorem mF_X2_32 : Cond.fieldLink RX2 32 "BeamCuts$Sheet" "row" "I" ∈ WS := List.mem_filter.mpr ⟨List.mem_of_getElem? (i := 89) rfl, rfl⟩
set_option maxRecDepth 20000 in
theorem mF_X2_35 : Cond.fieldLink RX2 35 "BeamCuts$Sheet" "dirt" "I" ∈ WS := List.mem_filter.mpr ⟨List.mem_of_getElem? (i := 90) rfl, rfl⟩
set_option maxRecDepth 20000 in
theorem mF_X2_38 : Cond.fieldLink RX2 38 "BeamCuts$Sheet" "ticks" "I" ∈ WS := List.mem_filter.mpr ⟨List.mem_of_getElem? (i := 91) rfl, rfl⟩
set_option maxRecDepth 20000 in
theorem mF_X3_129 : Cond.fieldLink RX3 129 "BeamCuts$Sheet" "ticks" "I" ∈ WS := List.mem_filter.mpr ⟨List.mem_of_getElem? (i := 92) rfl, rfl⟩
set_option maxRecDepth 20000 in
theorem mF_X2_41 : Cond.fieldLink RX2 41 "BeamCuts$Sheet" "burningTicks" "I" ∈ WS := List.mem_filter.mpr ⟨List.mem_of_getElem? (i := 93) rfl, rfl⟩
set_option maxRecDepth 20000 in
theorem mF_X2_44 : Cond.fieldLink RX2 44 "BeamCuts$Sheet" "cuts" "I" ∈ WS := List.mem_filter.mpr ⟨List.mem_of_getElem? (i := 94) rfl, rfl⟩
set_option maxRecDepth 20000 in
theorem mC_X3_29 : Cond.classLink RX3 29 RX0 ∈ WS := List.mem_filter.mpr ⟨List.mem_of_getElem? (i := 117) rfl, rfl⟩
set_option maxRecDepth 20000 in
theorem mN_X0 : Cond.instantiable RX0 7 ∈ WS := List.mem_filter.mpr ⟨List.mem_of_getElem? (i := 118) rfl, rfl⟩
set_option maxRecDepth 20000 in
theorem mL_X3_31 : Cond.methodLink RX3 31 yX0_init ∈ WS := List.mem_filter.mpr ⟨List.mem_of_getElem? (i := 119) rfl, rfl⟩
set_option maxRecDepth 20000 in
theorem mL_X0_3 : Cond.methodLink RX0 3 objectInit ∈ WS := List.mem_filter.mpr ⟨List.mem_of_getElem? (i := 122) rfl, rfl⟩
set_option maxRecDepth 20000 in
theorem mF_X0_11 : Cond.fieldLink RX0 11 "BeamCuts$Plan" "letters" "[C" ∈ WS := List.mem_filter.mpr ⟨List.mem_of_getElem? (i := 123) rfl, rfl⟩
set_option maxRecDepth 20000 in
theorem mF_X0_15 : Cond.fieldLink RX0 15 "BeamCuts$Plan" "kinds" "[I" ∈ WS := List.mem_filter.mpr ⟨List.mem_of_getElem? (i := 124) rfl, rfl⟩
set_option maxRecDepth 20000 in
theorem mF_X0_19 : Cond.fieldLink RX0 19 "BeamCuts$Plan" "firsts" "[I" ∈ WS := List.mem_filter.mpr ⟨List.mem_of_getElem? (i := 125) rfl, rfl⟩
set_option maxRecDepth 20000 in
theorem mF_X0_22 : Cond.fieldLink RX0 22 "BeamCuts$Plan" "seconds" "[I" ∈ WS := List.mem_filter.mpr ⟨List.mem_of_getElem? (i := 126) rfl, rfl⟩
set_option maxRecDepth 20000 in
theorem mF_X0_25 : Cond.fieldLink RX0 25 "BeamCuts$Plan" "length" "I" ∈ WS := List.mem_filter.mpr ⟨List.mem_of_getElem? (i := 127) rfl, rfl⟩
set_option maxRecDepth 20000 in
theorem mF_X3_132 : Cond.fieldLink RX3 132 "BeamCuts$Plan" "length" "I" ∈ WS := List.mem_filter.mpr ⟨List.mem_of_getElem? (i := 128) rfl, rfl⟩
set_option maxRecDepth 20000 in
theorem mF_X0_29 : Cond.fieldLink RX0 29 "BeamCuts$Plan" "size" "I" ∈ WS := List.mem_filter.mpr ⟨List.mem_of_getElem? (i := 129) rfl, rfl⟩
set_option maxRecDepth 20000 in
theorem mF_X0_32 : Cond.fieldLink RX0 32 "BeamCuts$Plan" "at" "I" ∈ WS := List.mem_filter.mpr ⟨List.mem_of_getElem? (i := 130) rfl, rfl⟩
set_option maxRecDepth 20000 in
theorem mA_char : Cond.arrayClass .char ∈ WS := List.mem_filter.mpr ⟨List.mem_of_getElem? (i := 146) rfl, rfl⟩
set_option maxRecDepth 20000 in
theorem mF_X3_10 : Cond.fieldLink RX3 10 "BeamCuts" "sheet" "LBeamCuts$Sheet;" ∈ WS := List.mem_filter.mpr ⟨List.mem_of_getElem? (i := 147) rfl, rfl⟩
set_option maxRecDepth 20000 in
theorem mF_X3_16 : Cond.fieldLink RX3 16 "BeamCuts" "before" "LBeamCuts$Sheet;" ∈ WS := List.mem_filter.mpr ⟨List.mem_of_getElem? (i := 148) rfl, rfl⟩
set_option maxRecDepth 20000 in
theorem mF_X3_19 : Cond.fieldLink RX3 19 "BeamCuts" "trial" "LBeamCuts$Sheet;" ∈ WS := List.mem_filter.mpr ⟨List.mem_of_getElem? (i := 149) rfl, rfl⟩
set_option maxRecDepth 20000 in
theorem mF_X3_22 : Cond.fieldLink RX3 22 "BeamCuts" "snapshot" "LBeamCuts$Sheet;" ∈ WS := List.mem_filter.mpr ⟨List.mem_of_getElem? (i := 150) rfl, rfl⟩
set_option maxRecDepth 20000 in
theorem mF_X3_25 : Cond.fieldLink RX3 25 "BeamCuts" "history" "[LBeamCuts$Sheet;" ∈ WS := List.mem_filter.mpr ⟨List.mem_of_getElem? (i := 151) rfl, rfl⟩
set_option maxRecDepth 20000 in
theorem mF_X3_32 : Cond.fieldLink RX3 32 "BeamCuts" "plan" "LBeamCuts$Plan;" ∈ WS := List.mem_filter.mpr ⟨List.mem_of_getElem? (i := 152) rfl, rfl⟩
set_option maxRecDepth 20000 in
theorem mF_X3_36 : Cond.fieldLink RX3 36 "BeamCuts" "states" "I" ∈ WS := List.mem_filter.mpr ⟨List.mem_of_getElem? (i := 153) rfl, rfl⟩
set_option maxRecDepth 20000 in
theorem mF_X3_40 : Cond.fieldLink RX3 40 "BeamCuts" "hasSnapshot" "Z" ∈ WS := List.mem_filter.mpr ⟨List.mem_of_getElem? (i := 154) rfl, rfl⟩
set_option maxRecDepth 20000 in
theorem mF_X3_44 : Cond.fieldLink RX3 44 "BeamCuts" "stopNumber" "I" ∈ WS := List.mem_filter.mpr ⟨List.mem_of_getElem? (i := 155) rfl, rfl⟩
set_option maxRecDepth 20000 in
theorem mF_X3_47 : Cond.fieldLink RX3 47 "BeamCuts" "stopError" "I" ∈ WS := List.mem_filter.mpr ⟨List.mem_of_getElem? (i := 156) rfl, rfl⟩
set_option maxRecDepth 20000 in
theorem mL_L_85 : Cond.methodLink RL 85 yX3_undo ∈ WS := List.mem_filter.mpr ⟨List.mem_of_getElem? (i := 178) rfl, rfl⟩
set_option maxRecDepth 20000 in
theorem mL_X3_50 : Cond.methodLink RX3 50 yX2_copyFrom ∈ WS := List.mem_filter.mpr ⟨List.mem_of_getElem? (i := 182) rfl, rfl⟩
set_option maxRecDepth 20000 in
theorem mL_X2_47 : Cond.methodLink RX2 47 yX1_copyFrom ∈ WS := List.mem_filter.mpr ⟨List.mem_of_getElem? (i := 186) rfl, rfl⟩
set_option maxRecDepth 20000 in
theorem mL_L_99 : Cond.methodLink RL 99 yX3_restore ∈ WS := List.mem_filter.mpr ⟨List.mem_of_getElem? (i := 190) rfl, rfl⟩
set_option maxRecDepth 20000 in
theorem mL_X3_58 : Cond.methodLink RX3 58 yX3_recorded ∈ WS := List.mem_filter.mpr ⟨List.mem_of_getElem? (i := 194) rfl, rfl⟩
set_option maxRecDepth 20000 in
theorem mL_X3_138 : Cond.methodLink RX3 138 yX3_dropOldestState ∈ WS := List.mem_filter.mpr ⟨List.mem_of_getElem? (i := 198) rfl, rfl⟩
set_option maxRecDepth 20000 in
theorem mL_L_88 : Cond.methodLink RL 88 yX3_allTakes ∈ WS := List.mem_filter.mpr ⟨List.mem_of_getElem? (i := 202) rfl, rfl⟩
set_option maxRecDepth 20000 in
theorem mL_X3_121 : Cond.methodLink RX3 121 yX2_cutNext ∈ WS := List.mem_filter.mpr ⟨List.mem_of_getElem? (i := 206) rfl, rfl⟩
set_option maxRecDepth 20000 in
theorem mL_X2_155 : Cond.methodLink RX2 155 yX2_bestShape ∈ WS := List.mem_filter.mpr ⟨List.mem_of_getElem? (i := 210) rfl, rfl⟩
set_option maxRecDepth 20000 in
theorem mL_X2_85 : Cond.methodLink RX2 85 yX2_reasonAgainst ∈ WS := List.mem_filter.mpr ⟨List.mem_of_getElem? (i := 214) rfl, rfl⟩
set_option maxRecDepth 20000 in
theorem mL_X2_143 : Cond.methodLink RX2 143 yX2_holdsWholeShape ∈ WS := List.mem_filter.mpr ⟨List.mem_of_getElem? (i := 218) rfl, rfl⟩
set_option maxRecDepth 20000 in
theorem mL_X2_63 : Cond.methodLink RX2 63 yX1_isInside ∈ WS := List.mem_filter.mpr ⟨List.mem_of_getElem? (i := 222) rfl, rfl⟩
set_option maxRecDepth 20000 in
theorem mL_X2_146 : Cond.methodLink RX2 146 yX2_heatOver ∈ WS := List.mem_filter.mpr ⟨List.mem_of_getElem? (i := 226) rfl, rfl⟩
set_option maxRecDepth 20000 in
theorem mL_X2_131 : Cond.methodLink RX2 131 Lib.Math.max.name ∈ WS := List.mem_filter.mpr ⟨List.mem_of_getElem? (i := 230) rfl, rfl⟩
set_option maxRecDepth 20000 in
theorem mL_X2_89 : Cond.methodLink RX2 89 yX2_wayTo ∈ WS := List.mem_filter.mpr ⟨List.mem_of_getElem? (i := 233) rfl, rfl⟩
set_option maxRecDepth 20000 in
theorem mL_X2_97 : Cond.methodLink RX2 97 yX1_leadColumn ∈ WS := List.mem_filter.mpr ⟨List.mem_of_getElem? (i := 237) rfl, rfl⟩
set_option maxRecDepth 20000 in
theorem mL_X2_137 : Cond.methodLink RX2 137 Lib.Math.abs.name ∈ WS := List.mem_filter.mpr ⟨List.mem_of_getElem? (i := 241) rfl, rfl⟩
set_option maxRecDepth 20000 in
theorem mL_X2_101 : Cond.methodLink RX2 101 yX1_leadRow ∈ WS := List.mem_filter.mpr ⟨List.mem_of_getElem? (i := 244) rfl, rfl⟩
set_option maxRecDepth 20000 in
theorem mL_X2_149 : Cond.methodLink RX2 149 yX2_ticksToCut ∈ WS := List.mem_filter.mpr ⟨List.mem_of_getElem? (i := 248) rfl, rfl⟩
set_option maxRecDepth 20000 in
theorem mL_X2_72 : Cond.methodLink RX2 72 yX2_knows ∈ WS := List.mem_filter.mpr ⟨List.mem_of_getElem? (i := 252) rfl, rfl⟩
set_option maxRecDepth 20000 in
theorem mL_X2_125 : Cond.methodLink RX2 125 yX2_burningOf ∈ WS := List.mem_filter.mpr ⟨List.mem_of_getElem? (i := 256) rfl, rfl⟩
set_option maxRecDepth 20000 in
theorem mL_X2_140 : Cond.methodLink RX2 140 yX1_edge ∈ WS := List.mem_filter.mpr ⟨List.mem_of_getElem? (i := 260) rfl, rfl⟩
set_option maxRecDepth 20000 in
theorem mL_X2_158 : Cond.methodLink RX2 158 yX2_fewestTicksToCool ∈ WS := List.mem_filter.mpr ⟨List.mem_of_getElem? (i := 264) rfl, rfl⟩
set_option maxRecDepth 20000 in
theorem mL_X2_152 : Cond.methodLink RX2 152 yX2_ticksToCool ∈ WS := List.mem_filter.mpr ⟨List.mem_of_getElem? (i := 268) rfl, rfl⟩
set_option maxRecDepth 20000 in
theorem mL_X2_93 : Cond.methodLink RX2 93 yX2_coolFor ∈ WS := List.mem_filter.mpr ⟨List.mem_of_getElem? (i := 272) rfl, rfl⟩
set_option maxRecDepth 20000 in
theorem mL_X2_161 : Cond.methodLink RX2 161 yX2_cutShape ∈ WS := List.mem_filter.mpr ⟨List.mem_of_getElem? (i := 276) rfl, rfl⟩
set_option maxRecDepth 20000 in
theorem mL_X2_104 : Cond.methodLink RX2 104 yX2_burnEdge ∈ WS := List.mem_filter.mpr ⟨List.mem_of_getElem? (i := 280) rfl, rfl⟩
set_option maxRecDepth 20000 in
theorem mL_X2_110 : Cond.methodLink RX2 110 yX1_leadSquare ∈ WS := List.mem_filter.mpr ⟨List.mem_of_getElem? (i := 284) rfl, rfl⟩
set_option maxRecDepth 20000 in
theorem mL_X1_54 : Cond.methodLink RX1 54 yX1_leadColumn ∈ WS := List.mem_filter.mpr ⟨List.mem_of_getElem? (i := 288) rfl, rfl⟩
set_option maxRecDepth 20000 in
theorem mL_X1_58 : Cond.methodLink RX1 58 yX1_leadRow ∈ WS := List.mem_filter.mpr ⟨List.mem_of_getElem? (i := 289) rfl, rfl⟩
set_option maxRecDepth 20000 in
theorem mL_X2_113 : Cond.methodLink RX2 113 yX2_heatIn ∈ WS := List.mem_filter.mpr ⟨List.mem_of_getElem? (i := 290) rfl, rfl⟩
set_option maxRecDepth 20000 in
theorem mL_X2_116 : Cond.methodLink RX2 116 yX2_greatestHeat ∈ WS := List.mem_filter.mpr ⟨List.mem_of_getElem? (i := 297) rfl, rfl⟩
set_option maxRecDepth 20000 in
theorem mL_X2_164 : Cond.methodLink RX2 164 yX2_hottestSquare ∈ WS := List.mem_filter.mpr ⟨List.mem_of_getElem? (i := 301) rfl, rfl⟩
set_option maxRecDepth 20000 in
theorem mL_X2_122 : Cond.methodLink RX2 122 yX2_loseShapesInside ∈ WS := List.mem_filter.mpr ⟨List.mem_of_getElem? (i := 305) rfl, rfl⟩
set_option maxRecDepth 20000 in
theorem mL_X3_126 : Cond.methodLink RX3 126 yX2_shapesThatAre ∈ WS := List.mem_filter.mpr ⟨List.mem_of_getElem? (i := 309) rfl, rfl⟩
set_option maxRecDepth 20000 in
theorem mL_L_9 : Cond.methodLink RL 9 yX3_count ∈ WS := List.mem_filter.mpr ⟨List.mem_of_getElem? (i := 313) rfl, rfl⟩
set_option maxRecDepth 20000 in
theorem mL_X3_135 : Cond.methodLink RX3 135 yX2_factOfSheet ∈ WS := List.mem_filter.mpr ⟨List.mem_of_getElem? (i := 317) rfl, rfl⟩
set_option maxRecDepth 20000 in
theorem mL_X2_185 : Cond.methodLink RX2 185 yX2_shapesThatAre ∈ WS := List.mem_filter.mpr ⟨List.mem_of_getElem? (i := 321) rfl, rfl⟩
set_option maxRecDepth 20000 in
theorem mL_X2_188 : Cond.methodLink RX2 188 yX2_shapesThatTilted ∈ WS := List.mem_filter.mpr ⟨List.mem_of_getElem? (i := 322) rfl, rfl⟩
set_option maxRecDepth 20000 in
theorem mL_X2_191 : Cond.methodLink RX2 191 yX2_allHeat ∈ WS := List.mem_filter.mpr ⟨List.mem_of_getElem? (i := 326) rfl, rfl⟩
set_option maxRecDepth 20000 in
theorem mL_L_102 : Cond.methodLink RL 102 yL_cell ∈ WS := List.mem_filter.mpr ⟨List.mem_of_getElem? (i := 330) rfl, rfl⟩
set_option maxRecDepth 20000 in
theorem mV_L_7 : Cond.constant RL 7 (40503 : Int32) ∈ WS := List.mem_filter.mpr ⟨List.mem_of_getElem? (i := 333) rfl, rfl⟩
set_option maxRecDepth 20000 in
theorem mL_L_15 : Cond.methodLink RL 15 yL_low ∈ WS := List.mem_filter.mpr ⟨List.mem_of_getElem? (i := 334) rfl, rfl⟩
set_option maxRecDepth 20000 in
theorem mV_L_8 : Cond.constant RL 8 (2147483647 : Int32) ∈ WS := List.mem_filter.mpr ⟨List.mem_of_getElem? (i := 337) rfl, rfl⟩
set_option maxRecDepth 20000 in
theorem mL_L_106 : Cond.methodLink RL 106 yL_act ∈ WS := List.mem_filter.mpr ⟨List.mem_of_getElem? (i := 338) rfl, rfl⟩
set_option maxRecDepth 20000 in
theorem mL_L_21 : Cond.methodLink RL 21 yX3_tell ∈ WS := List.mem_filter.mpr ⟨List.mem_of_getElem? (i := 341) rfl, rfl⟩
set_option maxRecDepth 20000 in
theorem mL_X3_54 : Cond.methodLink RX3 54 yX2_addShape ∈ WS := List.mem_filter.mpr ⟨List.mem_of_getElem? (i := 345) rfl, rfl⟩
set_option maxRecDepth 20000 in
theorem mL_X2_55 : Cond.methodLink RX2 55 yX1_place ∈ WS := List.mem_filter.mpr ⟨List.mem_of_getElem? (i := 349) rfl, rfl⟩
set_option maxRecDepth 20000 in
theorem mL_X1_42 : Cond.methodLink RX1 42 yX1_fieldsIn ∈ WS := List.mem_filter.mpr ⟨List.mem_of_getElem? (i := 353) rfl, rfl⟩
set_option maxRecDepth 20000 in
theorem mL_X1_46 : Cond.methodLink RX1 46 Lib.Math.min.name ∈ WS := List.mem_filter.mpr ⟨List.mem_of_getElem? (i := 357) rfl, rfl⟩
set_option maxRecDepth 20000 in
theorem mL_X1_51 : Cond.methodLink RX1 51 Lib.Math.max.name ∈ WS := List.mem_filter.mpr ⟨List.mem_of_getElem? (i := 360) rfl, rfl⟩
set_option maxRecDepth 20000 in
theorem mL_X2_59 : Cond.methodLink RX2 59 yX2_fits ∈ WS := List.mem_filter.mpr ⟨List.mem_of_getElem? (i := 361) rfl, rfl⟩
set_option maxRecDepth 20000 in
theorem mL_X2_69 : Cond.methodLink RX2 69 yX1_isApartFrom ∈ WS := List.mem_filter.mpr ⟨List.mem_of_getElem? (i := 365) rfl, rfl⟩
set_option maxRecDepth 20000 in
theorem mL_L_25 : Cond.methodLink RL 25 yL_within ∈ WS := List.mem_filter.mpr ⟨List.mem_of_getElem? (i := 369) rfl, rfl⟩
set_option maxRecDepth 20000 in
theorem mL_L_45 : Cond.methodLink RL 45 yX3_shape ∈ WS := List.mem_filter.mpr ⟨List.mem_of_getElem? (i := 372) rfl, rfl⟩
set_option maxRecDepth 20000 in
theorem mL_X3_99 : Cond.methodLink RX3 99 yX2_factOfShape ∈ WS := List.mem_filter.mpr ⟨List.mem_of_getElem? (i := 376) rfl, rfl⟩
set_option maxRecDepth 20000 in
theorem mL_X2_179 : Cond.methodLink RX2 179 yX2_outerOf ∈ WS := List.mem_filter.mpr ⟨List.mem_of_getElem? (i := 380) rfl, rfl⟩
set_option maxRecDepth 20000 in
theorem mL_X2_182 : Cond.methodLink RX2 182 yX2_setInside ∈ WS := List.mem_filter.mpr ⟨List.mem_of_getElem? (i := 384) rfl, rfl⟩
set_option maxRecDepth 20000 in
theorem mL_L_29 : Cond.methodLink RL 29 yX3_cut ∈ WS := List.mem_filter.mpr ⟨List.mem_of_getElem? (i := 388) rfl, rfl⟩
set_option maxRecDepth 20000 in
theorem mL_X3_69 : Cond.methodLink RX3 69 yX2_cutShape ∈ WS := List.mem_filter.mpr ⟨List.mem_of_getElem? (i := 392) rfl, rfl⟩
set_option maxRecDepth 20000 in
theorem mL_L_32 : Cond.methodLink RL 32 yX3_setLead ∈ WS := List.mem_filter.mpr ⟨List.mem_of_getElem? (i := 393) rfl, rfl⟩
set_option maxRecDepth 20000 in
theorem mL_X3_62 : Cond.methodLink RX3 62 yX2_changeLead ∈ WS := List.mem_filter.mpr ⟨List.mem_of_getElem? (i := 397) rfl, rfl⟩
set_option maxRecDepth 20000 in
theorem mL_L_35 : Cond.methodLink RL 35 yX3_pause ∈ WS := List.mem_filter.mpr ⟨List.mem_of_getElem? (i := 401) rfl, rfl⟩
set_option maxRecDepth 20000 in
theorem mL_X3_72 : Cond.methodLink RX3 72 yX2_waitFor ∈ WS := List.mem_filter.mpr ⟨List.mem_of_getElem? (i := 405) rfl, rfl⟩
set_option maxRecDepth 20000 in
theorem mL_L_38 : Cond.methodLink RL 38 yX3_clean ∈ WS := List.mem_filter.mpr ⟨List.mem_of_getElem? (i := 409) rfl, rfl⟩
set_option maxRecDepth 20000 in
theorem mL_X3_75 : Cond.methodLink RX3 75 yX2_cleanLens ∈ WS := List.mem_filter.mpr ⟨List.mem_of_getElem? (i := 413) rfl, rfl⟩
set_option maxRecDepth 20000 in
theorem mL_L_42 : Cond.methodLink RL 42 yX3_set ∈ WS := List.mem_filter.mpr ⟨List.mem_of_getElem? (i := 417) rfl, rfl⟩
set_option maxRecDepth 20000 in
theorem mL_X3_66 : Cond.methodLink RX3 66 yX2_changeSetting ∈ WS := List.mem_filter.mpr ⟨List.mem_of_getElem? (i := 421) rfl, rfl⟩
set_option maxRecDepth 20000 in
theorem mF_X2_79 : Cond.fieldLink RX2 79 "BeamCuts$Sheet" "LEAST_SETTINGS" "[I" ∈ WS := List.mem_filter.mpr ⟨List.mem_of_getElem? (i := 425) rfl, rfl⟩
set_option maxRecDepth 20000 in
theorem mF_X2_82 : Cond.fieldLink RX2 82 "BeamCuts$Sheet" "GREATEST_SETTINGS" "[I" ∈ WS := List.mem_filter.mpr ⟨List.mem_of_getElem? (i := 427) rfl, rfl⟩
set_option maxRecDepth 20000 in
theorem mL_L_95 : Cond.methodLink RL 95 yL_holds ∈ WS := List.mem_filter.mpr ⟨List.mem_of_getElem? (i := 429) rfl, rfl⟩
set_option maxRecDepth 20000 in
theorem mL_L_59 : Cond.methodLink RL 59 yX3_heat ∈ WS := List.mem_filter.mpr ⟨List.mem_of_getElem? (i := 432) rfl, rfl⟩
set_option maxRecDepth 20000 in
theorem mL_X3_102 : Cond.methodLink RX3 102 yX2_heatIn ∈ WS := List.mem_filter.mpr ⟨List.mem_of_getElem? (i := 436) rfl, rfl⟩
set_option maxRecDepth 20000 in
theorem mL_L_78 : Cond.methodLink RL 78 yL_isShape ∈ WS := List.mem_filter.mpr ⟨List.mem_of_getElem? (i := 437) rfl, rfl⟩
set_option maxRecDepth 20000 in
theorem mL_L_55 : Cond.methodLink RL 55 yL_isInside ∈ WS := List.mem_filter.mpr ⟨List.mem_of_getElem? (i := 440) rfl, rfl⟩
set_option maxRecDepth 20000 in
theorem mL_L_62 : Cond.methodLink RL 62 yL_goes ∈ WS := List.mem_filter.mpr ⟨List.mem_of_getElem? (i := 443) rfl, rfl⟩
set_option maxRecDepth 20000 in
theorem mL_L_52 : Cond.methodLink RL 52 yL_off ∈ WS := List.mem_filter.mpr ⟨List.mem_of_getElem? (i := 446) rfl, rfl⟩
set_option maxRecDepth 20000 in
theorem mL_L_66 : Cond.methodLink RL 66 yL_edgeIn ∈ WS := List.mem_filter.mpr ⟨List.mem_of_getElem? (i := 449) rfl, rfl⟩
set_option maxRecDepth 20000 in
theorem mL_L_48 : Cond.methodLink RL 48 yL_isEdge ∈ WS := List.mem_filter.mpr ⟨List.mem_of_getElem? (i := 452) rfl, rfl⟩
set_option maxRecDepth 20000 in
theorem mL_L_69 : Cond.methodLink RL 69 yX3_reason ∈ WS := List.mem_filter.mpr ⟨List.mem_of_getElem? (i := 455) rfl, rfl⟩
set_option maxRecDepth 20000 in
theorem mL_X3_105 : Cond.methodLink RX3 105 yX2_knows ∈ WS := List.mem_filter.mpr ⟨List.mem_of_getElem? (i := 459) rfl, rfl⟩
set_option maxRecDepth 20000 in
theorem mL_X3_109 : Cond.methodLink RX3 109 yX2_reasonAgainst ∈ WS := List.mem_filter.mpr ⟨List.mem_of_getElem? (i := 460) rfl, rfl⟩
set_option maxRecDepth 20000 in
theorem mL_L_72 : Cond.methodLink RL 72 yX3_takes ∈ WS := List.mem_filter.mpr ⟨List.mem_of_getElem? (i := 461) rfl, rfl⟩
set_option maxRecDepth 20000 in
theorem mL_X3_112 : Cond.methodLink RX3 112 yX2_ticksToCut ∈ WS := List.mem_filter.mpr ⟨List.mem_of_getElem? (i := 465) rfl, rfl⟩
set_option maxRecDepth 20000 in
theorem mL_L_75 : Cond.methodLink RL 75 yX3_coolsIn ∈ WS := List.mem_filter.mpr ⟨List.mem_of_getElem? (i := 466) rfl, rfl⟩
set_option maxRecDepth 20000 in
theorem mL_X3_115 : Cond.methodLink RX3 115 yX2_ticksToCool ∈ WS := List.mem_filter.mpr ⟨List.mem_of_getElem? (i := 470) rfl, rfl⟩
set_option maxRecDepth 20000 in
theorem mL_L_82 : Cond.methodLink RL 82 yX3_best ∈ WS := List.mem_filter.mpr ⟨List.mem_of_getElem? (i := 471) rfl, rfl⟩
set_option maxRecDepth 20000 in
theorem mL_X3_118 : Cond.methodLink RX3 118 yX2_bestShape ∈ WS := List.mem_filter.mpr ⟨List.mem_of_getElem? (i := 475) rfl, rfl⟩
set_option maxRecDepth 20000 in
theorem mL_L_110 : Cond.methodLink RL 110 yL_tries ∈ WS := List.mem_filter.mpr ⟨List.mem_of_getElem? (i := 476) rfl, rfl⟩
set_option maxRecDepth 20000 in
theorem mL_L_113 : Cond.methodLink RL 113 yL_goesThrough ∈ WS := List.mem_filter.mpr ⟨List.mem_of_getElem? (i := 479) rfl, rfl⟩
set_option maxRecDepth 20000 in
theorem mL_L_91 : Cond.methodLink RL 91 yX3_ordered ∈ WS := List.mem_filter.mpr ⟨List.mem_of_getElem? (i := 482) rfl, rfl⟩
set_option maxRecDepth 20000 in
theorem mK_X3_init : Cond.code yX3_init cX3_init 2 none ∈ WS := List.mem_filter.mpr ⟨List.mem_of_getElem? (i := 28) rfl, rfl⟩
set_option maxRecDepth 20000 in
theorem mM_X3_init : Cond.instanceMethod yX3_init ∈ WS := List.mem_filter.mpr ⟨List.mem_of_getElem? (i := 27) rfl, rfl⟩
set_option maxRecDepth 20000 in
theorem mK_objInit : Cond.code objectInit ⟨#[0xb1]⟩ 1 none ∈ WS := List.mem_filter.mpr ⟨List.mem_of_getElem? (i := 31) rfl, rfl⟩
set_option maxRecDepth 20000 in
theorem mM_objInit : Cond.instanceMethod objectInit ∈ WS := List.mem_filter.mpr ⟨List.mem_of_getElem? (i := 30) rfl, rfl⟩
set_option maxRecDepth 20000 in
theorem mK_X2_init : Cond.code yX2_init cX2_init 2 none ∈ WS := List.mem_filter.mpr ⟨List.mem_of_getElem? (i := 36) rfl, rfl⟩
set_option maxRecDepth 20000 in
theorem mM_X2_init : Cond.instanceMethod yX2_init ∈ WS := List.mem_filter.mpr ⟨List.mem_of_getElem? (i := 35) rfl, rfl⟩
set_option maxRecDepth 20000 in
theorem mK_X1_init : Cond.code yX1_init cX1_init 1 none ∈ WS := List.mem_filter.mpr ⟨List.mem_of_getElem? (i := 43) rfl, rfl⟩
set_option maxRecDepth 20000 in
theorem mM_X1_init : Cond.instanceMethod yX1_init ∈ WS := List.mem_filter.mpr ⟨List.mem_of_getElem? (i := 42) rfl, rfl⟩
set_option maxRecDepth 20000 in
theorem mK_X0_init : Cond.code yX0_init cX0_init 1 none ∈ WS := List.mem_filter.mpr ⟨List.mem_of_getElem? (i := 121) rfl, rfl⟩
set_option maxRecDepth 20000 in
theorem mM_X0_init : Cond.instanceMethod yX0_init ∈ WS := List.mem_filter.mpr ⟨List.mem_of_getElem? (i := 120) rfl, rfl⟩
set_option maxRecDepth 20000 in
theorem mK_X3_undo : Cond.code yX3_undo cX3_undo 1 (some .int) ∈ WS := List.mem_filter.mpr ⟨List.mem_of_getElem? (i := 181) rfl, rfl⟩
set_option maxRecDepth 20000 in
theorem mM_X3_undo : Cond.instanceMethod yX3_undo ∈ WS := List.mem_filter.mpr ⟨List.mem_of_getElem? (i := 179) rfl, rfl⟩
set_option maxRecDepth 20000 in
theorem mS_X3_undo : Cond.selects RX3 yX3_undo yX3_undo ∈ WS := List.mem_filter.mpr ⟨List.mem_of_getElem? (i := 180) rfl, rfl⟩
set_option maxRecDepth 20000 in
theorem mK_X2_copyFrom : Cond.code yX2_copyFrom cX2_copyFrom 3 none ∈ WS := List.mem_filter.mpr ⟨List.mem_of_getElem? (i := 185) rfl, rfl⟩
set_option maxRecDepth 20000 in
theorem mM_X2_copyFrom : Cond.instanceMethod yX2_copyFrom ∈ WS := List.mem_filter.mpr ⟨List.mem_of_getElem? (i := 183) rfl, rfl⟩
set_option maxRecDepth 20000 in
theorem mS_X2_copyFrom : Cond.selects RX2 yX2_copyFrom yX2_copyFrom ∈ WS := List.mem_filter.mpr ⟨List.mem_of_getElem? (i := 184) rfl, rfl⟩
set_option maxRecDepth 20000 in
theorem mK_X1_copyFrom : Cond.code yX1_copyFrom cX1_copyFrom 3 none ∈ WS := List.mem_filter.mpr ⟨List.mem_of_getElem? (i := 189) rfl, rfl⟩
set_option maxRecDepth 20000 in
theorem mM_X1_copyFrom : Cond.instanceMethod yX1_copyFrom ∈ WS := List.mem_filter.mpr ⟨List.mem_of_getElem? (i := 187) rfl, rfl⟩
set_option maxRecDepth 20000 in
theorem mS_X1_copyFrom : Cond.selects RX1 yX1_copyFrom yX1_copyFrom ∈ WS := List.mem_filter.mpr ⟨List.mem_of_getElem? (i := 188) rfl, rfl⟩
set_option maxRecDepth 20000 in
theorem mK_X3_restore : Cond.code yX3_restore cX3_restore 1 (some .int) ∈ WS := List.mem_filter.mpr ⟨List.mem_of_getElem? (i := 193) rfl, rfl⟩
set_option maxRecDepth 20000 in
theorem mM_X3_restore : Cond.instanceMethod yX3_restore ∈ WS := List.mem_filter.mpr ⟨List.mem_of_getElem? (i := 191) rfl, rfl⟩
set_option maxRecDepth 20000 in
theorem mS_X3_restore : Cond.selects RX3 yX3_restore yX3_restore ∈ WS := List.mem_filter.mpr ⟨List.mem_of_getElem? (i := 192) rfl, rfl⟩
set_option maxRecDepth 20000 in
theorem mK_X3_recorded : Cond.code yX3_recorded cX3_recorded 2 (some .int) ∈ WS := List.mem_filter.mpr ⟨List.mem_of_getElem? (i := 197) rfl, rfl⟩
set_option maxRecDepth 20000 in
theorem mM_X3_recorded : Cond.instanceMethod yX3_recorded ∈ WS := List.mem_filter.mpr ⟨List.mem_of_getElem? (i := 196) rfl, rfl⟩
set_option maxRecDepth 20000 in
theorem mS_X3_recorded : Cond.selects RX3 yX3_recorded yX3_recorded ∈ WS := List.mem_filter.mpr ⟨List.mem_of_getElem? (i := 0) rfl, rfl⟩
set_option maxRecDepth 20000 in
theorem mK_X3_dropOldestState : Cond.code yX3_dropOldestState cX3_dropOldestState 3 none ∈ WS := List.mem_filter.mpr ⟨List.mem_of_getElem? (i := 201) rfl, rfl⟩
set_option maxRecDepth 20000 in
theorem mM_X3_dropOldestState : Cond.instanceMethod yX3_dropOldestState ∈ WS := List.mem_filter.mpr ⟨List.mem_of_getElem? (i := 200) rfl, rfl⟩
set_option maxRecDepth 20000 in
theorem mS_X3_dropOldestState : Cond.selects RX3 yX3_dropOldestState yX3_dropOldestState ∈ WS := List.mem_filter.mpr ⟨List.mem_of_getElem? (i := 1) rfl, rfl⟩
set_option maxRecDepth 20000 in
theorem mK_X3_allTakes : Cond.code yX3_allTakes cX3_allTakes 2 (some .int) ∈ WS := List.mem_filter.mpr ⟨List.mem_of_getElem? (i := 205) rfl, rfl⟩
set_option maxRecDepth 20000 in
theorem mM_X3_allTakes : Cond.instanceMethod yX3_allTakes ∈ WS := List.mem_filter.mpr ⟨List.mem_of_getElem? (i := 203) rfl, rfl⟩
set_option maxRecDepth 20000 in
theorem mS_X3_allTakes : Cond.selects RX3 yX3_allTakes yX3_allTakes ∈ WS := List.mem_filter.mpr ⟨List.mem_of_getElem? (i := 204) rfl, rfl⟩
set_option maxRecDepth 20000 in
theorem mK_X2_cutNext : Cond.code yX2_cutNext cX2_cutNext 3 (some .int) ∈ WS := List.mem_filter.mpr ⟨List.mem_of_getElem? (i := 209) rfl, rfl⟩
set_option maxRecDepth 20000 in
theorem mM_X2_cutNext : Cond.instanceMethod yX2_cutNext ∈ WS := List.mem_filter.mpr ⟨List.mem_of_getElem? (i := 207) rfl, rfl⟩
set_option maxRecDepth 20000 in
theorem mS_X2_cutNext : Cond.selects RX2 yX2_cutNext yX2_cutNext ∈ WS := List.mem_filter.mpr ⟨List.mem_of_getElem? (i := 208) rfl, rfl⟩
set_option maxRecDepth 20000 in
theorem mK_X2_bestShape : Cond.code yX2_bestShape cX2_bestShape 5 (some .int) ∈ WS := List.mem_filter.mpr ⟨List.mem_of_getElem? (i := 213) rfl, rfl⟩
set_option maxRecDepth 20000 in
theorem mM_X2_bestShape : Cond.instanceMethod yX2_bestShape ∈ WS := List.mem_filter.mpr ⟨List.mem_of_getElem? (i := 211) rfl, rfl⟩
set_option maxRecDepth 20000 in
theorem mS_X2_bestShape : Cond.selects RX2 yX2_bestShape yX2_bestShape ∈ WS := List.mem_filter.mpr ⟨List.mem_of_getElem? (i := 212) rfl, rfl⟩
set_option maxRecDepth 20000 in
theorem mK_X2_reasonAgainst : Cond.code yX2_reasonAgainst cX2_reasonAgainst 3 (some .int) ∈ WS := List.mem_filter.mpr ⟨List.mem_of_getElem? (i := 217) rfl, rfl⟩
set_option maxRecDepth 20000 in
theorem mM_X2_reasonAgainst : Cond.instanceMethod yX2_reasonAgainst ∈ WS := List.mem_filter.mpr ⟨List.mem_of_getElem? (i := 215) rfl, rfl⟩
set_option maxRecDepth 20000 in
theorem mS_X2_reasonAgainst : Cond.selects RX2 yX2_reasonAgainst yX2_reasonAgainst ∈ WS := List.mem_filter.mpr ⟨List.mem_of_getElem? (i := 216) rfl, rfl⟩
set_option maxRecDepth 20000 in
theorem mK_X2_holdsWholeShape : Cond.code yX2_holdsWholeShape cX2_holdsWholeShape 3 (some .boolean) ∈ WS := List.mem_filter.mpr ⟨List.mem_of_getElem? (i := 221) rfl, rfl⟩
set_option maxRecDepth 20000 in
theorem mM_X2_holdsWholeShape : Cond.instanceMethod yX2_holdsWholeShape ∈ WS := List.mem_filter.mpr ⟨List.mem_of_getElem? (i := 220) rfl, rfl⟩
set_option maxRecDepth 20000 in
theorem mS_X2_holdsWholeShape : Cond.selects RX2 yX2_holdsWholeShape yX2_holdsWholeShape ∈ WS := List.mem_filter.mpr ⟨List.mem_of_getElem? (i := 2) rfl, rfl⟩
set_option maxRecDepth 20000 in
theorem mK_X1_isInside : Cond.code yX1_isInside cX1_isInside 2 (some .boolean) ∈ WS := List.mem_filter.mpr ⟨List.mem_of_getElem? (i := 225) rfl, rfl⟩
set_option maxRecDepth 20000 in
theorem mM_X1_isInside : Cond.instanceMethod yX1_isInside ∈ WS := List.mem_filter.mpr ⟨List.mem_of_getElem? (i := 223) rfl, rfl⟩
set_option maxRecDepth 20000 in
theorem mS_X1_isInside : Cond.selects RX1 yX1_isInside yX1_isInside ∈ WS := List.mem_filter.mpr ⟨List.mem_of_getElem? (i := 224) rfl, rfl⟩
set_option maxRecDepth 20000 in
theorem mK_X2_heatOver : Cond.code yX2_heatOver cX2_heatOver 4 (some .int) ∈ WS := List.mem_filter.mpr ⟨List.mem_of_getElem? (i := 229) rfl, rfl⟩
set_option maxRecDepth 20000 in
theorem mM_X2_heatOver : Cond.instanceMethod yX2_heatOver ∈ WS := List.mem_filter.mpr ⟨List.mem_of_getElem? (i := 228) rfl, rfl⟩
set_option maxRecDepth 20000 in
theorem mS_X2_heatOver : Cond.selects RX2 yX2_heatOver yX2_heatOver ∈ WS := List.mem_filter.mpr ⟨List.mem_of_getElem? (i := 3) rfl, rfl⟩
set_option maxRecDepth 20000 in
theorem mK_max : Cond.code Lib.Math.max.name Lib.Math.max.code 2 (some .int) ∈ WS := List.mem_filter.mpr ⟨List.mem_of_getElem? (i := 232) rfl, rfl⟩
set_option maxRecDepth 20000 in
theorem mT_max : Cond.static Lib.Math.max.name ∈ WS := List.mem_filter.mpr ⟨List.mem_of_getElem? (i := 231) rfl, rfl⟩
set_option maxRecDepth 20000 in
theorem mK_X2_wayTo : Cond.code yX2_wayTo cX2_wayTo 2 (some .int) ∈ WS := List.mem_filter.mpr ⟨List.mem_of_getElem? (i := 236) rfl, rfl⟩
set_option maxRecDepth 20000 in
theorem mM_X2_wayTo : Cond.instanceMethod yX2_wayTo ∈ WS := List.mem_filter.mpr ⟨List.mem_of_getElem? (i := 235) rfl, rfl⟩
set_option maxRecDepth 20000 in
theorem mS_X2_wayTo : Cond.selects RX2 yX2_wayTo yX2_wayTo ∈ WS := List.mem_filter.mpr ⟨List.mem_of_getElem? (i := 4) rfl, rfl⟩
set_option maxRecDepth 20000 in
theorem mK_X1_leadColumn : Cond.code yX1_leadColumn cX1_leadColumn 1 (some .int) ∈ WS := List.mem_filter.mpr ⟨List.mem_of_getElem? (i := 240) rfl, rfl⟩
set_option maxRecDepth 20000 in
theorem mM_X1_leadColumn : Cond.instanceMethod yX1_leadColumn ∈ WS := List.mem_filter.mpr ⟨List.mem_of_getElem? (i := 238) rfl, rfl⟩
set_option maxRecDepth 20000 in
theorem mS_X1_leadColumn : Cond.selects RX1 yX1_leadColumn yX1_leadColumn ∈ WS := List.mem_filter.mpr ⟨List.mem_of_getElem? (i := 239) rfl, rfl⟩
set_option maxRecDepth 20000 in
theorem mK_abs : Cond.code Lib.Math.abs.name Lib.Math.abs.code 1 (some .int) ∈ WS := List.mem_filter.mpr ⟨List.mem_of_getElem? (i := 243) rfl, rfl⟩
set_option maxRecDepth 20000 in
theorem mT_abs : Cond.static Lib.Math.abs.name ∈ WS := List.mem_filter.mpr ⟨List.mem_of_getElem? (i := 242) rfl, rfl⟩
set_option maxRecDepth 20000 in
theorem mK_X1_leadRow : Cond.code yX1_leadRow cX1_leadRow 1 (some .int) ∈ WS := List.mem_filter.mpr ⟨List.mem_of_getElem? (i := 247) rfl, rfl⟩
set_option maxRecDepth 20000 in
theorem mM_X1_leadRow : Cond.instanceMethod yX1_leadRow ∈ WS := List.mem_filter.mpr ⟨List.mem_of_getElem? (i := 245) rfl, rfl⟩
set_option maxRecDepth 20000 in
theorem mS_X1_leadRow : Cond.selects RX1 yX1_leadRow yX1_leadRow ∈ WS := List.mem_filter.mpr ⟨List.mem_of_getElem? (i := 246) rfl, rfl⟩
set_option maxRecDepth 20000 in
theorem mK_X2_ticksToCut : Cond.code yX2_ticksToCut cX2_ticksToCut 3 (some .int) ∈ WS := List.mem_filter.mpr ⟨List.mem_of_getElem? (i := 251) rfl, rfl⟩
set_option maxRecDepth 20000 in
theorem mM_X2_ticksToCut : Cond.instanceMethod yX2_ticksToCut ∈ WS := List.mem_filter.mpr ⟨List.mem_of_getElem? (i := 249) rfl, rfl⟩
set_option maxRecDepth 20000 in
theorem mS_X2_ticksToCut : Cond.selects RX2 yX2_ticksToCut yX2_ticksToCut ∈ WS := List.mem_filter.mpr ⟨List.mem_of_getElem? (i := 250) rfl, rfl⟩
set_option maxRecDepth 20000 in
theorem mK_X2_knows : Cond.code yX2_knows cX2_knows 2 (some .boolean) ∈ WS := List.mem_filter.mpr ⟨List.mem_of_getElem? (i := 255) rfl, rfl⟩
set_option maxRecDepth 20000 in
theorem mM_X2_knows : Cond.instanceMethod yX2_knows ∈ WS := List.mem_filter.mpr ⟨List.mem_of_getElem? (i := 253) rfl, rfl⟩
set_option maxRecDepth 20000 in
theorem mS_X2_knows : Cond.selects RX2 yX2_knows yX2_knows ∈ WS := List.mem_filter.mpr ⟨List.mem_of_getElem? (i := 254) rfl, rfl⟩
set_option maxRecDepth 20000 in
theorem mK_X2_burningOf : Cond.code yX2_burningOf cX2_burningOf 2 (some .int) ∈ WS := List.mem_filter.mpr ⟨List.mem_of_getElem? (i := 259) rfl, rfl⟩
set_option maxRecDepth 20000 in
theorem mM_X2_burningOf : Cond.instanceMethod yX2_burningOf ∈ WS := List.mem_filter.mpr ⟨List.mem_of_getElem? (i := 258) rfl, rfl⟩
set_option maxRecDepth 20000 in
theorem mS_X2_burningOf : Cond.selects RX2 yX2_burningOf yX2_burningOf ∈ WS := List.mem_filter.mpr ⟨List.mem_of_getElem? (i := 5) rfl, rfl⟩
set_option maxRecDepth 20000 in
theorem mK_X1_edge : Cond.code yX1_edge cX1_edge 1 (some .int) ∈ WS := List.mem_filter.mpr ⟨List.mem_of_getElem? (i := 263) rfl, rfl⟩
set_option maxRecDepth 20000 in
theorem mM_X1_edge : Cond.instanceMethod yX1_edge ∈ WS := List.mem_filter.mpr ⟨List.mem_of_getElem? (i := 261) rfl, rfl⟩
set_option maxRecDepth 20000 in
theorem mS_X1_edge : Cond.selects RX1 yX1_edge yX1_edge ∈ WS := List.mem_filter.mpr ⟨List.mem_of_getElem? (i := 262) rfl, rfl⟩
set_option maxRecDepth 20000 in
theorem mK_X2_fewestTicksToCool : Cond.code yX2_fewestTicksToCool cX2_fewestTicksToCool 4 (some .int) ∈ WS := List.mem_filter.mpr ⟨List.mem_of_getElem? (i := 267) rfl, rfl⟩
set_option maxRecDepth 20000 in
theorem mM_X2_fewestTicksToCool : Cond.instanceMethod yX2_fewestTicksToCool ∈ WS := List.mem_filter.mpr ⟨List.mem_of_getElem? (i := 266) rfl, rfl⟩
set_option maxRecDepth 20000 in
theorem mS_X2_fewestTicksToCool : Cond.selects RX2 yX2_fewestTicksToCool yX2_fewestTicksToCool ∈ WS := List.mem_filter.mpr ⟨List.mem_of_getElem? (i := 6) rfl, rfl⟩
set_option maxRecDepth 20000 in
theorem mK_X2_ticksToCool : Cond.code yX2_ticksToCool cX2_ticksToCool 5 (some .int) ∈ WS := List.mem_filter.mpr ⟨List.mem_of_getElem? (i := 271) rfl, rfl⟩
set_option maxRecDepth 20000 in
theorem mM_X2_ticksToCool : Cond.instanceMethod yX2_ticksToCool ∈ WS := List.mem_filter.mpr ⟨List.mem_of_getElem? (i := 269) rfl, rfl⟩
set_option maxRecDepth 20000 in
theorem mS_X2_ticksToCool : Cond.selects RX2 yX2_ticksToCool yX2_ticksToCool ∈ WS := List.mem_filter.mpr ⟨List.mem_of_getElem? (i := 270) rfl, rfl⟩
set_option maxRecDepth 20000 in
theorem mK_X2_coolFor : Cond.code yX2_coolFor cX2_coolFor 3 none ∈ WS := List.mem_filter.mpr ⟨List.mem_of_getElem? (i := 275) rfl, rfl⟩
set_option maxRecDepth 20000 in
theorem mM_X2_coolFor : Cond.instanceMethod yX2_coolFor ∈ WS := List.mem_filter.mpr ⟨List.mem_of_getElem? (i := 274) rfl, rfl⟩
set_option maxRecDepth 20000 in
theorem mS_X2_coolFor : Cond.selects RX2 yX2_coolFor yX2_coolFor ∈ WS := List.mem_filter.mpr ⟨List.mem_of_getElem? (i := 7) rfl, rfl⟩
set_option maxRecDepth 20000 in
theorem mK_X2_cutShape : Cond.code yX2_cutShape cX2_cutShape 4 (some .int) ∈ WS := List.mem_filter.mpr ⟨List.mem_of_getElem? (i := 279) rfl, rfl⟩
set_option maxRecDepth 20000 in
theorem mM_X2_cutShape : Cond.instanceMethod yX2_cutShape ∈ WS := List.mem_filter.mpr ⟨List.mem_of_getElem? (i := 277) rfl, rfl⟩
set_option maxRecDepth 20000 in
theorem mS_X2_cutShape : Cond.selects RX2 yX2_cutShape yX2_cutShape ∈ WS := List.mem_filter.mpr ⟨List.mem_of_getElem? (i := 278) rfl, rfl⟩
set_option maxRecDepth 20000 in
theorem mK_X2_burnEdge : Cond.code yX2_burnEdge cX2_burnEdge 4 none ∈ WS := List.mem_filter.mpr ⟨List.mem_of_getElem? (i := 283) rfl, rfl⟩
set_option maxRecDepth 20000 in
theorem mM_X2_burnEdge : Cond.instanceMethod yX2_burnEdge ∈ WS := List.mem_filter.mpr ⟨List.mem_of_getElem? (i := 282) rfl, rfl⟩
set_option maxRecDepth 20000 in
theorem mS_X2_burnEdge : Cond.selects RX2 yX2_burnEdge yX2_burnEdge ∈ WS := List.mem_filter.mpr ⟨List.mem_of_getElem? (i := 8) rfl, rfl⟩
set_option maxRecDepth 20000 in
theorem mK_X1_leadSquare : Cond.code yX1_leadSquare cX1_leadSquare 1 (some .int) ∈ WS := List.mem_filter.mpr ⟨List.mem_of_getElem? (i := 287) rfl, rfl⟩
set_option maxRecDepth 20000 in
theorem mM_X1_leadSquare : Cond.instanceMethod yX1_leadSquare ∈ WS := List.mem_filter.mpr ⟨List.mem_of_getElem? (i := 285) rfl, rfl⟩
set_option maxRecDepth 20000 in
theorem mS_X1_leadSquare : Cond.selects RX1 yX1_leadSquare yX1_leadSquare ∈ WS := List.mem_filter.mpr ⟨List.mem_of_getElem? (i := 286) rfl, rfl⟩
set_option maxRecDepth 20000 in
theorem mK_X2_heatIn : Cond.code yX2_heatIn cX2_heatIn 2 (some .int) ∈ WS := List.mem_filter.mpr ⟨List.mem_of_getElem? (i := 293) rfl, rfl⟩
set_option maxRecDepth 20000 in
theorem mM_X2_heatIn : Cond.instanceMethod yX2_heatIn ∈ WS := List.mem_filter.mpr ⟨List.mem_of_getElem? (i := 291) rfl, rfl⟩
set_option maxRecDepth 20000 in
theorem mS_X2_heatIn : Cond.selects RX2 yX2_heatIn yX2_heatIn ∈ WS := List.mem_filter.mpr ⟨List.mem_of_getElem? (i := 292) rfl, rfl⟩
set_option maxRecDepth 20000 in
theorem mK_X3_isIn : Cond.code yX3_isIn cX3_isIn 3 (some .boolean) ∈ WS := List.mem_filter.mpr ⟨List.mem_of_getElem? (i := 296) rfl, rfl⟩
set_option maxRecDepth 20000 in
theorem mT_X3_isIn : Cond.static yX3_isIn ∈ WS := List.mem_filter.mpr ⟨List.mem_of_getElem? (i := 295) rfl, rfl⟩
set_option maxRecDepth 20000 in
theorem mK_X2_greatestHeat : Cond.code yX2_greatestHeat cX2_greatestHeat 1 (some .int) ∈ WS := List.mem_filter.mpr ⟨List.mem_of_getElem? (i := 300) rfl, rfl⟩
set_option maxRecDepth 20000 in
theorem mM_X2_greatestHeat : Cond.instanceMethod yX2_greatestHeat ∈ WS := List.mem_filter.mpr ⟨List.mem_of_getElem? (i := 299) rfl, rfl⟩
set_option maxRecDepth 20000 in
theorem mS_X2_greatestHeat : Cond.selects RX2 yX2_greatestHeat yX2_greatestHeat ∈ WS := List.mem_filter.mpr ⟨List.mem_of_getElem? (i := 9) rfl, rfl⟩
set_option maxRecDepth 20000 in
theorem mK_X2_hottestSquare : Cond.code yX2_hottestSquare cX2_hottestSquare 3 (some .int) ∈ WS := List.mem_filter.mpr ⟨List.mem_of_getElem? (i := 304) rfl, rfl⟩
set_option maxRecDepth 20000 in
theorem mM_X2_hottestSquare : Cond.instanceMethod yX2_hottestSquare ∈ WS := List.mem_filter.mpr ⟨List.mem_of_getElem? (i := 303) rfl, rfl⟩
set_option maxRecDepth 20000 in
theorem mS_X2_hottestSquare : Cond.selects RX2 yX2_hottestSquare yX2_hottestSquare ∈ WS := List.mem_filter.mpr ⟨List.mem_of_getElem? (i := 10) rfl, rfl⟩
set_option maxRecDepth 20000 in
theorem mK_X2_loseShapesInside : Cond.code yX2_loseShapesInside cX2_loseShapesInside 5 (some .int) ∈ WS := List.mem_filter.mpr ⟨List.mem_of_getElem? (i := 308) rfl, rfl⟩
set_option maxRecDepth 20000 in
theorem mM_X2_loseShapesInside : Cond.instanceMethod yX2_loseShapesInside ∈ WS := List.mem_filter.mpr ⟨List.mem_of_getElem? (i := 307) rfl, rfl⟩
set_option maxRecDepth 20000 in
theorem mS_X2_loseShapesInside : Cond.selects RX2 yX2_loseShapesInside yX2_loseShapesInside ∈ WS := List.mem_filter.mpr ⟨List.mem_of_getElem? (i := 11) rfl, rfl⟩
set_option maxRecDepth 20000 in
theorem mK_X2_shapesThatAre : Cond.code yX2_shapesThatAre cX2_shapesThatAre 4 (some .int) ∈ WS := List.mem_filter.mpr ⟨List.mem_of_getElem? (i := 312) rfl, rfl⟩
set_option maxRecDepth 20000 in
theorem mM_X2_shapesThatAre : Cond.instanceMethod yX2_shapesThatAre ∈ WS := List.mem_filter.mpr ⟨List.mem_of_getElem? (i := 310) rfl, rfl⟩
set_option maxRecDepth 20000 in
theorem mS_X2_shapesThatAre : Cond.selects RX2 yX2_shapesThatAre yX2_shapesThatAre ∈ WS := List.mem_filter.mpr ⟨List.mem_of_getElem? (i := 311) rfl, rfl⟩
set_option maxRecDepth 20000 in
theorem mK_X3_count : Cond.code yX3_count cX3_count 2 (some .int) ∈ WS := List.mem_filter.mpr ⟨List.mem_of_getElem? (i := 316) rfl, rfl⟩
set_option maxRecDepth 20000 in
theorem mM_X3_count : Cond.instanceMethod yX3_count ∈ WS := List.mem_filter.mpr ⟨List.mem_of_getElem? (i := 314) rfl, rfl⟩
set_option maxRecDepth 20000 in
theorem mS_X3_count : Cond.selects RX3 yX3_count yX3_count ∈ WS := List.mem_filter.mpr ⟨List.mem_of_getElem? (i := 315) rfl, rfl⟩
set_option maxRecDepth 20000 in
theorem mK_X2_factOfSheet : Cond.code yX2_factOfSheet cX2_factOfSheet 2 (some .int) ∈ WS := List.mem_filter.mpr ⟨List.mem_of_getElem? (i := 320) rfl, rfl⟩
set_option maxRecDepth 20000 in
theorem mM_X2_factOfSheet : Cond.instanceMethod yX2_factOfSheet ∈ WS := List.mem_filter.mpr ⟨List.mem_of_getElem? (i := 318) rfl, rfl⟩
set_option maxRecDepth 20000 in
theorem mS_X2_factOfSheet : Cond.selects RX2 yX2_factOfSheet yX2_factOfSheet ∈ WS := List.mem_filter.mpr ⟨List.mem_of_getElem? (i := 319) rfl, rfl⟩
set_option maxRecDepth 20000 in
theorem mK_X2_shapesThatTilted : Cond.code yX2_shapesThatTilted cX2_shapesThatTilted 3 (some .int) ∈ WS := List.mem_filter.mpr ⟨List.mem_of_getElem? (i := 325) rfl, rfl⟩
set_option maxRecDepth 20000 in
theorem mM_X2_shapesThatTilted : Cond.instanceMethod yX2_shapesThatTilted ∈ WS := List.mem_filter.mpr ⟨List.mem_of_getElem? (i := 324) rfl, rfl⟩
set_option maxRecDepth 20000 in
theorem mS_X2_shapesThatTilted : Cond.selects RX2 yX2_shapesThatTilted yX2_shapesThatTilted ∈ WS := List.mem_filter.mpr ⟨List.mem_of_getElem? (i := 12) rfl, rfl⟩
set_option maxRecDepth 20000 in
theorem mK_X2_allHeat : Cond.code yX2_allHeat cX2_allHeat 3 (some .int) ∈ WS := List.mem_filter.mpr ⟨List.mem_of_getElem? (i := 329) rfl, rfl⟩
set_option maxRecDepth 20000 in
theorem mM_X2_allHeat : Cond.instanceMethod yX2_allHeat ∈ WS := List.mem_filter.mpr ⟨List.mem_of_getElem? (i := 328) rfl, rfl⟩
set_option maxRecDepth 20000 in
theorem mS_X2_allHeat : Cond.selects RX2 yX2_allHeat yX2_allHeat ∈ WS := List.mem_filter.mpr ⟨List.mem_of_getElem? (i := 13) rfl, rfl⟩
set_option maxRecDepth 20000 in
theorem mK_L_cell : Cond.code yL_cell cL_cell 2 (some .int) ∈ WS := List.mem_filter.mpr ⟨List.mem_of_getElem? (i := 332) rfl, rfl⟩
set_option maxRecDepth 20000 in
theorem mT_L_cell : Cond.static yL_cell ∈ WS := List.mem_filter.mpr ⟨List.mem_of_getElem? (i := 331) rfl, rfl⟩
set_option maxRecDepth 20000 in
theorem mK_L_low : Cond.code yL_low cL_low 2 (some .int) ∈ WS := List.mem_filter.mpr ⟨List.mem_of_getElem? (i := 336) rfl, rfl⟩
set_option maxRecDepth 20000 in
theorem mT_L_low : Cond.static yL_low ∈ WS := List.mem_filter.mpr ⟨List.mem_of_getElem? (i := 335) rfl, rfl⟩
set_option maxRecDepth 20000 in
theorem mK_L_act : Cond.code yL_act cL_act 6 (some .int) ∈ WS := List.mem_filter.mpr ⟨List.mem_of_getElem? (i := 340) rfl, rfl⟩
set_option maxRecDepth 20000 in
theorem mT_L_act : Cond.static yL_act ∈ WS := List.mem_filter.mpr ⟨List.mem_of_getElem? (i := 339) rfl, rfl⟩
set_option maxRecDepth 20000 in
theorem mK_X3_tell : Cond.code yX3_tell cX3_tell 5 (some .int) ∈ WS := List.mem_filter.mpr ⟨List.mem_of_getElem? (i := 344) rfl, rfl⟩
set_option maxRecDepth 20000 in
theorem mM_X3_tell : Cond.instanceMethod yX3_tell ∈ WS := List.mem_filter.mpr ⟨List.mem_of_getElem? (i := 342) rfl, rfl⟩
set_option maxRecDepth 20000 in
theorem mS_X3_tell : Cond.selects RX3 yX3_tell yX3_tell ∈ WS := List.mem_filter.mpr ⟨List.mem_of_getElem? (i := 343) rfl, rfl⟩
set_option maxRecDepth 20000 in
theorem mK_X2_addShape : Cond.code yX2_addShape cX2_addShape 6 (some .int) ∈ WS := List.mem_filter.mpr ⟨List.mem_of_getElem? (i := 348) rfl, rfl⟩
set_option maxRecDepth 20000 in
theorem mM_X2_addShape : Cond.instanceMethod yX2_addShape ∈ WS := List.mem_filter.mpr ⟨List.mem_of_getElem? (i := 346) rfl, rfl⟩
set_option maxRecDepth 20000 in
theorem mS_X2_addShape : Cond.selects RX2 yX2_addShape yX2_addShape ∈ WS := List.mem_filter.mpr ⟨List.mem_of_getElem? (i := 347) rfl, rfl⟩
set_option maxRecDepth 20000 in
theorem mK_X1_place : Cond.code yX1_place cX1_place 6 none ∈ WS := List.mem_filter.mpr ⟨List.mem_of_getElem? (i := 352) rfl, rfl⟩
set_option maxRecDepth 20000 in
theorem mM_X1_place : Cond.instanceMethod yX1_place ∈ WS := List.mem_filter.mpr ⟨List.mem_of_getElem? (i := 350) rfl, rfl⟩
set_option maxRecDepth 20000 in
theorem mS_X1_place : Cond.selects RX1 yX1_place yX1_place ∈ WS := List.mem_filter.mpr ⟨List.mem_of_getElem? (i := 351) rfl, rfl⟩
set_option maxRecDepth 20000 in
theorem mK_X1_fieldsIn : Cond.code yX1_fieldsIn cX1_fieldsIn 7 (some .int) ∈ WS := List.mem_filter.mpr ⟨List.mem_of_getElem? (i := 356) rfl, rfl⟩
set_option maxRecDepth 20000 in
theorem mM_X1_fieldsIn : Cond.instanceMethod yX1_fieldsIn ∈ WS := List.mem_filter.mpr ⟨List.mem_of_getElem? (i := 355) rfl, rfl⟩
set_option maxRecDepth 20000 in
theorem mS_X1_fieldsIn : Cond.selects RX1 yX1_fieldsIn yX1_fieldsIn ∈ WS := List.mem_filter.mpr ⟨List.mem_of_getElem? (i := 14) rfl, rfl⟩
set_option maxRecDepth 20000 in
theorem mK_min : Cond.code Lib.Math.min.name Lib.Math.min.code 2 (some .int) ∈ WS := List.mem_filter.mpr ⟨List.mem_of_getElem? (i := 359) rfl, rfl⟩
set_option maxRecDepth 20000 in
theorem mT_min : Cond.static Lib.Math.min.name ∈ WS := List.mem_filter.mpr ⟨List.mem_of_getElem? (i := 358) rfl, rfl⟩
set_option maxRecDepth 20000 in
theorem mK_X2_fits : Cond.code yX2_fits cX2_fits 5 (some .boolean) ∈ WS := List.mem_filter.mpr ⟨List.mem_of_getElem? (i := 364) rfl, rfl⟩
set_option maxRecDepth 20000 in
theorem mM_X2_fits : Cond.instanceMethod yX2_fits ∈ WS := List.mem_filter.mpr ⟨List.mem_of_getElem? (i := 363) rfl, rfl⟩
set_option maxRecDepth 20000 in
theorem mS_X2_fits : Cond.selects RX2 yX2_fits yX2_fits ∈ WS := List.mem_filter.mpr ⟨List.mem_of_getElem? (i := 15) rfl, rfl⟩
set_option maxRecDepth 20000 in
theorem mK_X1_isApartFrom : Cond.code yX1_isApartFrom cX1_isApartFrom 2 (some .boolean) ∈ WS := List.mem_filter.mpr ⟨List.mem_of_getElem? (i := 368) rfl, rfl⟩
set_option maxRecDepth 20000 in
theorem mM_X1_isApartFrom : Cond.instanceMethod yX1_isApartFrom ∈ WS := List.mem_filter.mpr ⟨List.mem_of_getElem? (i := 366) rfl, rfl⟩
set_option maxRecDepth 20000 in
theorem mS_X1_isApartFrom : Cond.selects RX1 yX1_isApartFrom yX1_isApartFrom ∈ WS := List.mem_filter.mpr ⟨List.mem_of_getElem? (i := 367) rfl, rfl⟩
set_option maxRecDepth 20000 in
theorem mK_L_within : Cond.code yL_within cL_within 5 (some .int) ∈ WS := List.mem_filter.mpr ⟨List.mem_of_getElem? (i := 371) rfl, rfl⟩
set_option maxRecDepth 20000 in
theorem mT_L_within : Cond.static yL_within ∈ WS := List.mem_filter.mpr ⟨List.mem_of_getElem? (i := 370) rfl, rfl⟩
set_option maxRecDepth 20000 in
theorem mK_X3_shape : Cond.code yX3_shape cX3_shape 3 (some .int) ∈ WS := List.mem_filter.mpr ⟨List.mem_of_getElem? (i := 375) rfl, rfl⟩
set_option maxRecDepth 20000 in
theorem mM_X3_shape : Cond.instanceMethod yX3_shape ∈ WS := List.mem_filter.mpr ⟨List.mem_of_getElem? (i := 373) rfl, rfl⟩
set_option maxRecDepth 20000 in
theorem mS_X3_shape : Cond.selects RX3 yX3_shape yX3_shape ∈ WS := List.mem_filter.mpr ⟨List.mem_of_getElem? (i := 374) rfl, rfl⟩
set_option maxRecDepth 20000 in
theorem mK_X2_factOfShape : Cond.code yX2_factOfShape cX2_factOfShape 4 (some .int) ∈ WS := List.mem_filter.mpr ⟨List.mem_of_getElem? (i := 379) rfl, rfl⟩
set_option maxRecDepth 20000 in
theorem mM_X2_factOfShape : Cond.instanceMethod yX2_factOfShape ∈ WS := List.mem_filter.mpr ⟨List.mem_of_getElem? (i := 377) rfl, rfl⟩
set_option maxRecDepth 20000 in
theorem mS_X2_factOfShape : Cond.selects RX2 yX2_factOfShape yX2_factOfShape ∈ WS := List.mem_filter.mpr ⟨List.mem_of_getElem? (i := 378) rfl, rfl⟩
set_option maxRecDepth 20000 in
theorem mK_X2_outerOf : Cond.code yX2_outerOf cX2_outerOf 4 (some .int) ∈ WS := List.mem_filter.mpr ⟨List.mem_of_getElem? (i := 383) rfl, rfl⟩
set_option maxRecDepth 20000 in
theorem mM_X2_outerOf : Cond.instanceMethod yX2_outerOf ∈ WS := List.mem_filter.mpr ⟨List.mem_of_getElem? (i := 382) rfl, rfl⟩
set_option maxRecDepth 20000 in
theorem mS_X2_outerOf : Cond.selects RX2 yX2_outerOf yX2_outerOf ∈ WS := List.mem_filter.mpr ⟨List.mem_of_getElem? (i := 16) rfl, rfl⟩
set_option maxRecDepth 20000 in
theorem mK_X2_setInside : Cond.code yX2_setInside cX2_setInside 4 (some .int) ∈ WS := List.mem_filter.mpr ⟨List.mem_of_getElem? (i := 387) rfl, rfl⟩
set_option maxRecDepth 20000 in
theorem mM_X2_setInside : Cond.instanceMethod yX2_setInside ∈ WS := List.mem_filter.mpr ⟨List.mem_of_getElem? (i := 386) rfl, rfl⟩
set_option maxRecDepth 20000 in
theorem mS_X2_setInside : Cond.selects RX2 yX2_setInside yX2_setInside ∈ WS := List.mem_filter.mpr ⟨List.mem_of_getElem? (i := 17) rfl, rfl⟩
set_option maxRecDepth 20000 in
theorem mK_X3_cut : Cond.code yX3_cut cX3_cut 2 (some .int) ∈ WS := List.mem_filter.mpr ⟨List.mem_of_getElem? (i := 391) rfl, rfl⟩
set_option maxRecDepth 20000 in
theorem mM_X3_cut : Cond.instanceMethod yX3_cut ∈ WS := List.mem_filter.mpr ⟨List.mem_of_getElem? (i := 389) rfl, rfl⟩
set_option maxRecDepth 20000 in
theorem mS_X3_cut : Cond.selects RX3 yX3_cut yX3_cut ∈ WS := List.mem_filter.mpr ⟨List.mem_of_getElem? (i := 390) rfl, rfl⟩
set_option maxRecDepth 20000 in
theorem mK_X3_setLead : Cond.code yX3_setLead cX3_setLead 3 (some .int) ∈ WS := List.mem_filter.mpr ⟨List.mem_of_getElem? (i := 396) rfl, rfl⟩
set_option maxRecDepth 20000 in
theorem mM_X3_setLead : Cond.instanceMethod yX3_setLead ∈ WS := List.mem_filter.mpr ⟨List.mem_of_getElem? (i := 394) rfl, rfl⟩
set_option maxRecDepth 20000 in
theorem mS_X3_setLead : Cond.selects RX3 yX3_setLead yX3_setLead ∈ WS := List.mem_filter.mpr ⟨List.mem_of_getElem? (i := 395) rfl, rfl⟩
set_option maxRecDepth 20000 in
theorem mK_X2_changeLead : Cond.code yX2_changeLead cX2_changeLead 5 (some .int) ∈ WS := List.mem_filter.mpr ⟨List.mem_of_getElem? (i := 400) rfl, rfl⟩
set_option maxRecDepth 20000 in
theorem mM_X2_changeLead : Cond.instanceMethod yX2_changeLead ∈ WS := List.mem_filter.mpr ⟨List.mem_of_getElem? (i := 398) rfl, rfl⟩
set_option maxRecDepth 20000 in
theorem mS_X2_changeLead : Cond.selects RX2 yX2_changeLead yX2_changeLead ∈ WS := List.mem_filter.mpr ⟨List.mem_of_getElem? (i := 399) rfl, rfl⟩
set_option maxRecDepth 20000 in
theorem mK_X3_pause : Cond.code yX3_pause cX3_pause 2 (some .int) ∈ WS := List.mem_filter.mpr ⟨List.mem_of_getElem? (i := 404) rfl, rfl⟩
set_option maxRecDepth 20000 in
theorem mM_X3_pause : Cond.instanceMethod yX3_pause ∈ WS := List.mem_filter.mpr ⟨List.mem_of_getElem? (i := 402) rfl, rfl⟩
set_option maxRecDepth 20000 in
theorem mS_X3_pause : Cond.selects RX3 yX3_pause yX3_pause ∈ WS := List.mem_filter.mpr ⟨List.mem_of_getElem? (i := 403) rfl, rfl⟩
set_option maxRecDepth 20000 in
theorem mK_X2_waitFor : Cond.code yX2_waitFor cX2_waitFor 2 (some .int) ∈ WS := List.mem_filter.mpr ⟨List.mem_of_getElem? (i := 408) rfl, rfl⟩
set_option maxRecDepth 20000 in
theorem mM_X2_waitFor : Cond.instanceMethod yX2_waitFor ∈ WS := List.mem_filter.mpr ⟨List.mem_of_getElem? (i := 406) rfl, rfl⟩
set_option maxRecDepth 20000 in
theorem mS_X2_waitFor : Cond.selects RX2 yX2_waitFor yX2_waitFor ∈ WS := List.mem_filter.mpr ⟨List.mem_of_getElem? (i := 407) rfl, rfl⟩
set_option maxRecDepth 20000 in
theorem mK_X3_clean : Cond.code yX3_clean cX3_clean 1 (some .int) ∈ WS := List.mem_filter.mpr ⟨List.mem_of_getElem? (i := 412) rfl, rfl⟩
set_option maxRecDepth 20000 in
theorem mM_X3_clean : Cond.instanceMethod yX3_clean ∈ WS := List.mem_filter.mpr ⟨List.mem_of_getElem? (i := 410) rfl, rfl⟩
set_option maxRecDepth 20000 in
theorem mS_X3_clean : Cond.selects RX3 yX3_clean yX3_clean ∈ WS := List.mem_filter.mpr ⟨List.mem_of_getElem? (i := 411) rfl, rfl⟩
set_option maxRecDepth 20000 in
theorem mK_X2_cleanLens : Cond.code yX2_cleanLens cX2_cleanLens 2 (some .int) ∈ WS := List.mem_filter.mpr ⟨List.mem_of_getElem? (i := 416) rfl, rfl⟩
set_option maxRecDepth 20000 in
theorem mM_X2_cleanLens : Cond.instanceMethod yX2_cleanLens ∈ WS := List.mem_filter.mpr ⟨List.mem_of_getElem? (i := 414) rfl, rfl⟩
set_option maxRecDepth 20000 in
theorem mS_X2_cleanLens : Cond.selects RX2 yX2_cleanLens yX2_cleanLens ∈ WS := List.mem_filter.mpr ⟨List.mem_of_getElem? (i := 415) rfl, rfl⟩
set_option maxRecDepth 20000 in
theorem mK_X3_set : Cond.code yX3_set cX3_set 3 (some .int) ∈ WS := List.mem_filter.mpr ⟨List.mem_of_getElem? (i := 420) rfl, rfl⟩
set_option maxRecDepth 20000 in
theorem mM_X3_set : Cond.instanceMethod yX3_set ∈ WS := List.mem_filter.mpr ⟨List.mem_of_getElem? (i := 418) rfl, rfl⟩
set_option maxRecDepth 20000 in
theorem mS_X3_set : Cond.selects RX3 yX3_set yX3_set ∈ WS := List.mem_filter.mpr ⟨List.mem_of_getElem? (i := 419) rfl, rfl⟩
set_option maxRecDepth 20000 in
theorem mK_X2_changeSetting : Cond.code yX2_changeSetting cX2_changeSetting 4 (some .int) ∈ WS := List.mem_filter.mpr ⟨List.mem_of_getElem? (i := 424) rfl, rfl⟩
set_option maxRecDepth 20000 in
theorem mM_X2_changeSetting : Cond.instanceMethod yX2_changeSetting ∈ WS := List.mem_filter.mpr ⟨List.mem_of_getElem? (i := 422) rfl, rfl⟩
set_option maxRecDepth 20000 in
theorem mS_X2_changeSetting : Cond.selects RX2 yX2_changeSetting yX2_changeSetting ∈ WS := List.mem_filter.mpr ⟨List.mem_of_getElem? (i := 423) rfl, rfl⟩
set_option maxRecDepth 20000 in
theorem mK_L_holds : Cond.code yL_holds cL_holds 10 (some .boolean) ∈ WS := List.mem_filter.mpr ⟨List.mem_of_getElem? (i := 431) rfl, rfl⟩
set_option maxRecDepth 20000 in
theorem mT_L_holds : Cond.static yL_holds ∈ WS := List.mem_filter.mpr ⟨List.mem_of_getElem? (i := 430) rfl, rfl⟩
set_option maxRecDepth 20000 in
theorem mK_X3_heat : Cond.code yX3_heat cX3_heat 2 (some .int) ∈ WS := List.mem_filter.mpr ⟨List.mem_of_getElem? (i := 435) rfl, rfl⟩
set_option maxRecDepth 20000 in
theorem mM_X3_heat : Cond.instanceMethod yX3_heat ∈ WS := List.mem_filter.mpr ⟨List.mem_of_getElem? (i := 433) rfl, rfl⟩
set_option maxRecDepth 20000 in
theorem mS_X3_heat : Cond.selects RX3 yX3_heat yX3_heat ∈ WS := List.mem_filter.mpr ⟨List.mem_of_getElem? (i := 434) rfl, rfl⟩
set_option maxRecDepth 20000 in
theorem mK_L_isShape : Cond.code yL_isShape cL_isShape 14 (some .boolean) ∈ WS := List.mem_filter.mpr ⟨List.mem_of_getElem? (i := 439) rfl, rfl⟩
set_option maxRecDepth 20000 in
theorem mT_L_isShape : Cond.static yL_isShape ∈ WS := List.mem_filter.mpr ⟨List.mem_of_getElem? (i := 438) rfl, rfl⟩
set_option maxRecDepth 20000 in
theorem mK_L_isInside : Cond.code yL_isInside cL_isInside 4 (some .boolean) ∈ WS := List.mem_filter.mpr ⟨List.mem_of_getElem? (i := 442) rfl, rfl⟩
set_option maxRecDepth 20000 in
theorem mT_L_isInside : Cond.static yL_isInside ∈ WS := List.mem_filter.mpr ⟨List.mem_of_getElem? (i := 441) rfl, rfl⟩
set_option maxRecDepth 20000 in
theorem mK_L_goes : Cond.code yL_goes cL_goes 5 (some .int) ∈ WS := List.mem_filter.mpr ⟨List.mem_of_getElem? (i := 445) rfl, rfl⟩
set_option maxRecDepth 20000 in
theorem mT_L_goes : Cond.static yL_goes ∈ WS := List.mem_filter.mpr ⟨List.mem_of_getElem? (i := 444) rfl, rfl⟩
set_option maxRecDepth 20000 in
theorem mK_L_off : Cond.code yL_off cL_off 2 (some .int) ∈ WS := List.mem_filter.mpr ⟨List.mem_of_getElem? (i := 448) rfl, rfl⟩
set_option maxRecDepth 20000 in
theorem mT_L_off : Cond.static yL_off ∈ WS := List.mem_filter.mpr ⟨List.mem_of_getElem? (i := 447) rfl, rfl⟩
set_option maxRecDepth 20000 in
theorem mK_L_edgeIn : Cond.code yL_edgeIn cL_edgeIn 5 (some .int) ∈ WS := List.mem_filter.mpr ⟨List.mem_of_getElem? (i := 451) rfl, rfl⟩
set_option maxRecDepth 20000 in
theorem mT_L_edgeIn : Cond.static yL_edgeIn ∈ WS := List.mem_filter.mpr ⟨List.mem_of_getElem? (i := 450) rfl, rfl⟩
set_option maxRecDepth 20000 in
theorem mK_L_isEdge : Cond.code yL_isEdge cL_isEdge 7 (some .boolean) ∈ WS := List.mem_filter.mpr ⟨List.mem_of_getElem? (i := 454) rfl, rfl⟩
set_option maxRecDepth 20000 in
theorem mT_L_isEdge : Cond.static yL_isEdge ∈ WS := List.mem_filter.mpr ⟨List.mem_of_getElem? (i := 453) rfl, rfl⟩
set_option maxRecDepth 20000 in
theorem mK_X3_reason : Cond.code yX3_reason cX3_reason 2 (some .int) ∈ WS := List.mem_filter.mpr ⟨List.mem_of_getElem? (i := 458) rfl, rfl⟩
set_option maxRecDepth 20000 in
theorem mM_X3_reason : Cond.instanceMethod yX3_reason ∈ WS := List.mem_filter.mpr ⟨List.mem_of_getElem? (i := 456) rfl, rfl⟩
set_option maxRecDepth 20000 in
theorem mS_X3_reason : Cond.selects RX3 yX3_reason yX3_reason ∈ WS := List.mem_filter.mpr ⟨List.mem_of_getElem? (i := 457) rfl, rfl⟩
set_option maxRecDepth 20000 in
theorem mK_X3_takes : Cond.code yX3_takes cX3_takes 2 (some .int) ∈ WS := List.mem_filter.mpr ⟨List.mem_of_getElem? (i := 464) rfl, rfl⟩
set_option maxRecDepth 20000 in
theorem mM_X3_takes : Cond.instanceMethod yX3_takes ∈ WS := List.mem_filter.mpr ⟨List.mem_of_getElem? (i := 462) rfl, rfl⟩
set_option maxRecDepth 20000 in
theorem mS_X3_takes : Cond.selects RX3 yX3_takes yX3_takes ∈ WS := List.mem_filter.mpr ⟨List.mem_of_getElem? (i := 463) rfl, rfl⟩
set_option maxRecDepth 20000 in
theorem mK_X3_coolsIn : Cond.code yX3_coolsIn cX3_coolsIn 2 (some .int) ∈ WS := List.mem_filter.mpr ⟨List.mem_of_getElem? (i := 469) rfl, rfl⟩
set_option maxRecDepth 20000 in
theorem mM_X3_coolsIn : Cond.instanceMethod yX3_coolsIn ∈ WS := List.mem_filter.mpr ⟨List.mem_of_getElem? (i := 467) rfl, rfl⟩
set_option maxRecDepth 20000 in
theorem mS_X3_coolsIn : Cond.selects RX3 yX3_coolsIn yX3_coolsIn ∈ WS := List.mem_filter.mpr ⟨List.mem_of_getElem? (i := 468) rfl, rfl⟩
set_option maxRecDepth 20000 in
theorem mK_X3_best : Cond.code yX3_best cX3_best 1 (some .int) ∈ WS := List.mem_filter.mpr ⟨List.mem_of_getElem? (i := 474) rfl, rfl⟩
set_option maxRecDepth 20000 in
theorem mM_X3_best : Cond.instanceMethod yX3_best ∈ WS := List.mem_filter.mpr ⟨List.mem_of_getElem? (i := 472) rfl, rfl⟩
set_option maxRecDepth 20000 in
theorem mS_X3_best : Cond.selects RX3 yX3_best yX3_best ∈ WS := List.mem_filter.mpr ⟨List.mem_of_getElem? (i := 473) rfl, rfl⟩
set_option maxRecDepth 20000 in
theorem mK_L_tries : Cond.code yL_tries cL_tries 11 (some .boolean) ∈ WS := List.mem_filter.mpr ⟨List.mem_of_getElem? (i := 478) rfl, rfl⟩
set_option maxRecDepth 20000 in
theorem mT_L_tries : Cond.static yL_tries ∈ WS := List.mem_filter.mpr ⟨List.mem_of_getElem? (i := 477) rfl, rfl⟩
set_option maxRecDepth 20000 in
theorem mK_L_goesThrough : Cond.code yL_goesThrough cL_goesThrough 9 (some .boolean) ∈ WS := List.mem_filter.mpr ⟨List.mem_of_getElem? (i := 481) rfl, rfl⟩
set_option maxRecDepth 20000 in
theorem mT_L_goesThrough : Cond.static yL_goesThrough ∈ WS := List.mem_filter.mpr ⟨List.mem_of_getElem? (i := 480) rfl, rfl⟩
set_option maxRecDepth 20000 in
theorem mK_X3_ordered : Cond.code yX3_ordered cX3_ordered 4 (some .int) ∈ WS := List.mem_filter.mpr ⟨List.mem_of_getElem? (i := 485) rfl, rfl⟩
set_option maxRecDepth 20000 in
theorem mM_X3_ordered : Cond.instanceMethod yX3_ordered ∈ WS := List.mem_filter.mpr ⟨List.mem_of_getElem? (i := 483) rfl, rfl⟩
set_option maxRecDepth 20000 in
theorem mS_X3_ordered : Cond.selects RX3 yX3_ordered yX3_ordered ∈ WS := List.mem_filter.mpr ⟨List.mem_of_getElem? (i := 484) rfl, rfl⟩
theorem nX0 : ∀ w ∈ wsX00, w ∈ WS := by decide +kernel
theorem nX1 : ∀ w ∈ wsX10, w ∈ WS := by decide +kernel
theorem nX2 : ∀ w ∈ wsX20, w ∈ WS := by decide +kernel
theorem nX3 : ∀ w ∈ wsX30, w ∈ WS := by decide +kernel
end
section
/-! Own kit: one judgement XJ over an abstract heap (cell number to cell), a row an instruction. -/
abbrev GX : Type := Launch × va_G × Nat × (ClassId × ClassId × ClassId × ClassId) × (Nat × Nat × Nat × Nat × Nat × (Nat → Int32))
abbrev gD (G : GX) : va_G := G.2.1
abbrev gB (G : GX) : Nat := G.2.2.1
abbrev gI (G : GX) : ClassId := G.2.2.2.1.1
abbrev gC (G : GX) : ClassId := G.2.2.2.1.2.1
abbrev gS (G : GX) : ClassId := G.2.2.2.1.2.2.1
abbrev gT (G : GX) : ClassId := G.2.2.2.1.2.2.2
abbrev g1 (G : GX) : Nat := G.2.2.2.2.1
abbrev g2 (G : GX) : Nat := G.2.2.2.2.2.1
/-- what was made behind the object, the script: its cell, its length, its ints -/
abbrev gx (G : GX) : Nat := G.2.2.2.2.2.2.1
abbrev gb (G : GX) : Nat := G.2.2.2.2.2.2.2.1
abbrev gL (G : GX) : Nat := G.2.2.2.2.2.2.2.2.1
abbrev gs (G : GX) : Nat → Int32 := G.2.2.2.2.2.2.2.2.2
/-- how many cells there are: the object's 247, and what was made behind them -/
def nN (G : GX) : Nat := 247 + gx G
theorem nN_le (G : GX) : 247 ≤ nN G := Nat.le_add_right _ _
theorem nN_lt {G : GX} {o : Nat} (h : o < 247) : o < nN G := Nat.lt_of_lt_of_le h (nN_le G)
/-- one cell more -/
def upG (G : GX) : GX := (G.1, G.2.1, G.2.2.1, G.2.2.2.1, (g1 G, g2 G, gx G + 1, gb G, gL G, gs G))
theorem nN_up (G : GX) : nN (upG G) = nN G + 1 := rfl
abbrev gTy (G : GX) : List (ClassId × FieldType) := [(gI G, .int), (gC G, .char), (gS G, .object "BeamCuts$Shape"), (gT G, .object "BeamCuts$Sheet")]
def leastF : Nat → Int32 := fun k => if k = 0 then 1 else 0
def greatF : Nat → Int32 := fun k => if k = 0 then 99 else if k = 1 then 20 else if k = 2 then 999 else 1
def gA (G : GX) : Nat → Prop := fun q => gB G ≤ q
def Kx (G : GX) (U : State) : Prop := va_K (gD G) vwCl (gTy G) U ∧ va_AO "BeamCuts$Shape" U ∧ va_AO "BeamCuts$Sheet" U ∧ va_Nw (.methodLinkNest RX2 51 yX3_isIn RX3) U
def Sx (G : GX) (U : State) (H : Heap) : Prop := va_Z RX2 "LEAST_SETTINGS" "[I" (.ref (g1 G)) (gA G) U H ∧ va_T .int (g1 G) 4 (fun k => .int (leastF k)) (gA G) U H ∧ va_Z RX2 "GREATEST_SETTINGS" "[I" (.ref (g2 G)) (gA G) U H ∧ va_T .int (g2 G) 4 (fun k => .int (greatF k)) (gA G) U H ∧ va_T .int (gb G) (gL G) (fun k => .int (gs G k)) (gA G) U H
def Rp (G : GX) (n : Nat) (cs : Nat → va_E) (H : Heap) : Prop := H.size = gB G + n ∧ ∀ o, o < n → va_at (gD G) vwCl (gB G + o, cs o) H
def Wd (G : GX) (n : Nat) (cs : Nat → va_E) (U : State) : Prop := Rp G n cs U.heap ∧ Kx G U ∧ Sx G U U.heap
/-- a method: its bytes, its locals, its class, its room, what it returns, its name -/
abbrev YX : Type := ByteArray × Nat × String × Room × Option FieldType × String
def Fx (G : GX) (y : YX) (p : Program) (s : State) (m : MethodId) (args : Array Value) (meth : Method) (c : Code) : Prop :=
  p.tables.exec = Jvm.exec ∧ c.code = y.1 ∧ c.maxLocals = y.2.1 ∧ s.vm.findClass y.2.2.1 = some m.cls ∧ (∀ w ∈ WS, w.before args s = true) ∧ meth.locks = false ∧ meth.sig.returnType = y.2.2.2.2.1 ∧ meth.name = y.2.2.2.2.2 ∧ Kx G s ∧ Sx G s s.heap ∧ gB G ≤ s.heap.size
/-! locals: a list of stores, the newest first -/
def lk : List (Nat × Value) → Nat → Option Value
  | [], _ => none
  | (i, v) :: r, j => bif Nat.beq i j then some v else lk r j
def lsub : List (Nat × Value) → List (Nat × Value) → Prop
  | [], _ => True
  | (i, v) :: r, l => lk l i = some v ∧ lsub r l
def LH (ls : Array Slot) (nL : Nat) (l : List (Nat × Value)) : Prop := ls.size = nL ∧ lv_wf ls ∧ ∀ i v, lk l i = some v → ls[i]? = some (.val v) ∧ v.category = 1
theorem lsub_spec : ∀ {l l' : List (Nat × Value)}, lsub l' l → ∀ i v, lk l' i = some v → lk l i = some v
  | _, [], _, _, _, h => by simp [lk] at h
  | l, (j, w) :: r, hs, i, v, h => by
    obtain ⟨h1, h2⟩ := hs
    simp only [lk] at h
    cases hb : Nat.beq j i with
    | true =>
      rw [hb] at h
      simp only [cond_true] at h
      cases h
      rw [← Nat.eq_of_beq_eq_true hb]
      exact h1
    | false =>
      rw [hb] at h
      exact lsub_spec h2 i v h
theorem LH.sub {ls : Array Slot} {nL : Nat} {l l' : List (Nat × Value)} (h : LH ls nL l) (hs : lsub l' l) : LH ls nL l' := ⟨h.1, h.2.1, fun i v hi => h.2.2 i v (lsub_spec hs i v hi)⟩
def ldd (l : List (Nat × Value)) : List (Nat × Value) := l.filterMap (fun q => (lk l q.1).map (fun v => (q.1, v)))
theorem ldd_mem {l : List (Nat × Value)} {q : Nat × Value} (h : q ∈ ldd l) : lk l q.1 = some q.2 := by
  obtain ⟨a, -, h2⟩ := List.mem_filterMap.mp h
  cases hk : lk l a.1 with
  | none => rw [hk] at h2; cases h2
  | some v =>
    rw [hk] at h2
    cases h2
    exact hk
theorem lk_mem : ∀ {l : List (Nat × Value)} {i : Nat} {v : Value}, lk l i = some v → (i, v) ∈ l
  | [], _, _, h => by simp [lk] at h
  | (j, w) :: r, i, v, h => by
    simp only [lk] at h
    cases hb : Nat.beq j i with
    | true =>
      rw [hb] at h
      simp only [cond_true] at h
      cases h
      rw [← Nat.eq_of_beq_eq_true hb]
      exact List.mem_cons_self
    | false =>
      rw [hb] at h
      exact List.mem_cons_of_mem _ (lk_mem (l := r) h)
theorem ldd_of {l : List (Nat × Value)} {i : Nat} {v : Value} (h : lk l i = some v) : (i, v) ∈ ldd l := by
  refine List.mem_filterMap.mpr ⟨(i, v), lk_mem h, ?_⟩
  show (lk l i).map (fun v => (i, v)) = some (i, v)
  rw [h]
  rfl
theorem LH.has {ls : Array Slot} {nL : Nat} {l : List (Nat × Value)} (h : LH ls nL l) : lv_has ls nL (ldd l) := ⟨h.1, h.2.1, fun q hq => (h.2.2 q.1 q.2 (ldd_mem hq)).1⟩
theorem LH.put {ls ls' : Array Slot} {nL i : Nat} {v : Value} {l : List (Nat × Value)} (h : LH ls nL l) (hv : v.category = 1) (h' : lv_has ls' nL ((i, v) :: (ldd l).filter (fun q => !(q.1 == i) && !(q.1 + 1 == i && q.2.category == 2)))) : LH ls' nL ((i, v) :: l) := by
  refine ⟨h'.1, h'.2.1, fun j w hj => ?_⟩
  simp only [lk] at hj
  cases hb : Nat.beq i j with
  | true =>
    rw [hb] at hj
    simp only [cond_true] at hj
    cases hj
    rw [← Nat.eq_of_beq_eq_true hb]
    exact ⟨h'.2.2 (i, v) List.mem_cons_self, hv⟩
  | false =>
    rw [hb] at hj
    have hj' : lk l j = some w := hj
    obtain ⟨h1, h2⟩ := h.2.2 j w hj'
    refine ⟨h'.2.2 (j, w) (List.mem_cons_of_mem _ (List.mem_filter.mpr ⟨ldd_of hj', ?_⟩)), h2⟩
    have hne : j ≠ i := fun e => by rw [e, Nat.beq_refl] at hb; cases hb
    simp [hne, h2]
abbrev ZX : Type := List Frame → Array Value → State → State → Prop
def XJ (G : GX) (y : YX) (E : State → Prop) (Z : ZX) (pc : Nat) (l : List (Nat × Value)) (stk : List Value) (n : Nat) (cs : Nat → va_E) (ck sk : Nat) : Prop :=
  ∀ (p : Program) (e : Env) (s : State) (m : MethodId) (args : Array Value) (below : List Frame) (meth : Method) (c : Code) (H : Heap) (locs : List Loc) (ls : Array Slot),
    Fx G y p s m args meth c → E s → va_S (gA G) s.heap H locs → Rp G n cs H → LH ls y.2.1 l → W p G.1 e y.2.2.2.1 s m args below meth c H locs ck sk (Z below args s) (F0 m pc ls stk)
section ROWS
variable {G : GX} {y : YX} {E : State → Prop} {Z : ZX} {pc : Nat} {l : List (Nat × Value)} {stk : List Value} {n : Nat} {cs : Nat → va_E} {ck sk : Nat}
theorem x_sub {l' : List (Nat × Value)} (h : lsub l' l) (kk : XJ G y E Z pc l' stk n cs ck sk) : XJ G y E Z pc l stk n cs ck sk :=
  fun p e s m args below meth c H locs ls F e1 S P L => kk p e s m args below meth c H locs ls F e1 S P (L.sub h)
theorem x_heap {cs' : Nat → va_E} (h : ∀ o, o < n → cs' o = cs o) (kk : XJ G y E Z pc l stk n cs' ck sk) : XJ G y E Z pc l stk n cs ck sk :=
  fun p e s m args below meth c H locs ls F e1 S P L => kk p e s m args below meth c H locs ls F e1 S ⟨P.1, fun o ho => by rw [h o ho]; exact P.2 o ho⟩ L
theorem x_eq {stk' : List Value} {cs' : Nat → va_E} (h1 : stk = stk') (h2 : cs = cs') (kk : XJ G y E Z pc l stk' n cs' ck sk) : XJ G y E Z pc l stk n cs ck sk := by
  subst h1; subst h2; exact kk
theorem x_widen {ck' sk' : Nat} (h1 : ck ≤ ck') (h2 : sk ≤ sk') (kk : XJ G y E Z pc l stk n cs ck' sk') : XJ G y E Z pc l stk n cs ck sk :=
  fun p e s m args below meth c H locs ls F e1 S P L => W.widen h1 h2 (kk p e s m args below meth c H locs ls F e1 S P L)
theorem x_iconst {k : Int} (v : Int32) (hd : decode y.1 pc = .ok (.iconst k, 1)) (hv : Int32.ofInt k = v) (kk : XJ G y E Z (pc + 1) l (.int v :: stk) n cs ck sk) : XJ G y E Z pc l stk n cs ck sk :=
  fun p e s m args below meth c H locs ls F e1 S P L => lv_iconst F.1 F.2.1 hd hv (kk p e s m args below meth c H locs ls F e1 S P L)
theorem x_bipush {k : Int} (v : Int32) (hd : decode y.1 pc = .ok (.bipush k, 2)) (hv : (Int8.ofInt k).toInt32 = v) (kk : XJ G y E Z (pc + 2) l (.int v :: stk) n cs ck sk) : XJ G y E Z pc l stk n cs ck sk :=
  fun p e s m args below meth c H locs ls F e1 S P L => lv_bipush F.1 F.2.1 hd hv (kk p e s m args below meth c H locs ls F e1 S P L)
theorem x_sipush {k : Int} (v : Int32) (hd : decode y.1 pc = .ok (.sipush k, 3)) (hv : (Int16.ofInt k).toInt32 = v) (kk : XJ G y E Z (pc + 3) l (.int v :: stk) n cs ck sk) : XJ G y E Z pc l stk n cs ck sk :=
  fun p e s m args below meth c H locs ls F e1 S P L => lv_sipush F.1 F.2.1 hd hv (kk p e s m args below meth c H locs ls F e1 S P L)
theorem x_iload_n {k : Fin 4} {v : Int32} (hd : decode y.1 pc = .ok (.iload_n k, 1)) (hl : lk l k = some (.int v)) (kk : XJ G y E Z (pc + 1) l (.int v :: stk) n cs ck sk) : XJ G y E Z pc l stk n cs ck sk :=
  fun p e s m args below meth c H locs ls F e1 S P L => lv_iload_n F.1 F.2.1 hd rfl (L.2.2 _ _ hl).1 (kk p e s m args below meth c H locs ls F e1 S P L)
theorem x_iload {k : Nat} {v : Int32} (hd : decode y.1 pc = .ok (.iload k, 2)) (hl : lk l k = some (.int v)) (kk : XJ G y E Z (pc + 2) l (.int v :: stk) n cs ck sk) : XJ G y E Z pc l stk n cs ck sk :=
  fun p e s m args below meth c H locs ls F e1 S P L => lv_iload F.1 F.2.1 hd (L.2.2 _ _ hl).1 (kk p e s m args below meth c H locs ls F e1 S P L)
theorem x_aload_n {k : Fin 4} {v : Nat} (hd : decode y.1 pc = .ok (.aload_n k, 1)) (hl : lk l k = some (.ref v)) (kk : XJ G y E Z (pc + 1) l (.ref v :: stk) n cs ck sk) : XJ G y E Z pc l stk n cs ck sk :=
  fun p e s m args below meth c H locs ls F e1 S P L => lv_aload_n F.1 F.2.1 hd rfl (L.2.2 _ _ hl).1 (kk p e s m args below meth c H locs ls F e1 S P L)
theorem x_aload {k : Nat} {v : Nat} (hd : decode y.1 pc = .ok (.aload k, 2)) (hl : lk l k = some (.ref v)) (kk : XJ G y E Z (pc + 2) l (.ref v :: stk) n cs ck sk) : XJ G y E Z pc l stk n cs ck sk :=
  fun p e s m args below meth c H locs ls F e1 S P L => lv_aload F.1 F.2.1 hd (L.2.2 _ _ hl).1 (kk p e s m args below meth c H locs ls F e1 S P L)
theorem x_istore_n {k : Fin 4} {v : Int32} (hd : decode y.1 pc = .ok (.istore_n k, 1)) (hn : (k : Nat) < y.2.1) (kk : XJ G y E Z (pc + 1) (((k : Nat), .int v) :: l) stk n cs ck sk) : XJ G y E Z pc l (.int v :: stk) n cs ck sk :=
  fun p e s m args below meth c H locs ls F e1 S P L => lv_istore_n F.1 F.2.1 hd rfl L.has hn rfl (fun ls' h' => kk p e s m args below meth c H locs ls' F e1 S P (L.put rfl h'))
theorem x_istore {k : Nat} {v : Int32} (hd : decode y.1 pc = .ok (.istore k, 2)) (hn : (k : Nat) < y.2.1) (kk : XJ G y E Z (pc + 2) ((k, .int v) :: l) stk n cs ck sk) : XJ G y E Z pc l (.int v :: stk) n cs ck sk :=
  fun p e s m args below meth c H locs ls F e1 S P L => lv_istore F.1 F.2.1 hd L.has hn rfl (fun ls' h' => kk p e s m args below meth c H locs ls' F e1 S P (L.put rfl h'))
theorem x_astore_n {k : Fin 4} {v : Nat} (hd : decode y.1 pc = .ok (.astore_n k, 1)) (hn : (k : Nat) < y.2.1) (kk : XJ G y E Z (pc + 1) (((k : Nat), .ref v) :: l) stk n cs ck sk) : XJ G y E Z pc l (.ref v :: stk) n cs ck sk :=
  fun p e s m args below meth c H locs ls F e1 S P L => lv_astore_n F.1 F.2.1 hd rfl L.has hn rfl (fun ls' h' => kk p e s m args below meth c H locs ls' F e1 S P (L.put rfl h'))
theorem x_astore {k : Nat} {v : Nat} (hd : decode y.1 pc = .ok (.astore k, 2)) (hn : (k : Nat) < y.2.1) (kk : XJ G y E Z (pc + 2) ((k, .ref v) :: l) stk n cs ck sk) : XJ G y E Z pc l (.ref v :: stk) n cs ck sk :=
  fun p e s m args below meth c H locs ls F e1 S P L => lv_astore F.1 F.2.1 hd L.has hn rfl (fun ls' h' => kk p e s m args below meth c H locs ls' F e1 S P (L.put rfl h'))
theorem ldd_get {l : List (Nat × Value)} {i : Nat} {v : Value} (h : lk l i = some v) : ∃ k : Nat, (ldd l)[k]? = some (i, v) := List.getElem?_of_mem (ldd_of h)
theorem x_iinc {k : Nat} {q : Int} {v : Int32} (w : Int32) (hd : decode y.1 pc = .ok (.iinc k q, 3)) (hl : lk l k = some (.int v)) (hw : v + Int32.ofInt q = w) (hn : k < y.2.1) (kk : XJ G y E Z (pc + 3) ((k, .int w) :: l) stk n cs ck sk) : XJ G y E Z pc l stk n cs ck sk := by
  intro p e s m args below meth c H locs ls F e1 S P L
  obtain ⟨j, hj⟩ := ldd_get hl
  exact lv_iinc F.1 F.2.1 hd L.has hj hw hn rfl (fun ls' h' => kk p e s m args below meth c H locs ls' F e1 S P (L.put rfl h'))
theorem x_iadd {a b : Int32} (hd : decode y.1 pc = .ok (.iadd, 1)) (kk : XJ G y E Z (pc + 1) l (.int (a + b) :: stk) n cs ck sk) : XJ G y E Z pc l (.int b :: .int a :: stk) n cs ck sk :=
  fun p e s m args below meth c H locs ls F e1 S P L => lv_iadd F.1 F.2.1 hd (kk p e s m args below meth c H locs ls F e1 S P L)
theorem x_isub {a b : Int32} (hd : decode y.1 pc = .ok (.isub, 1)) (kk : XJ G y E Z (pc + 1) l (.int (a - b) :: stk) n cs ck sk) : XJ G y E Z pc l (.int b :: .int a :: stk) n cs ck sk :=
  fun p e s m args below meth c H locs ls F e1 S P L => lv_isub F.1 F.2.1 hd (kk p e s m args below meth c H locs ls F e1 S P L)
theorem x_imul {a b : Int32} (hd : decode y.1 pc = .ok (.imul, 1)) (kk : XJ G y E Z (pc + 1) l (.int (a * b) :: stk) n cs ck sk) : XJ G y E Z pc l (.int b :: .int a :: stk) n cs ck sk :=
  fun p e s m args below meth c H locs ls F e1 S P L => lv_imul F.1 F.2.1 hd (kk p e s m args below meth c H locs ls F e1 S P L)
theorem x_idiv {a b : Int32} (hd : decode y.1 pc = .ok (.idiv, 1)) (hb : ¬ b = 0) (kk : XJ G y E Z (pc + 1) l (.int (a / b) :: stk) n cs ck sk) : XJ G y E Z pc l (.int b :: .int a :: stk) n cs ck sk :=
  fun p e s m args below meth c H locs ls F e1 S P L => lv_idiv F.1 F.2.1 hd hb (kk p e s m args below meth c H locs ls F e1 S P L)
theorem x_irem {a b : Int32} (hd : decode y.1 pc = .ok (.irem, 1)) (hb : ¬ b = 0) (kk : XJ G y E Z (pc + 1) l (.int (a - a / b * b) :: stk) n cs ck sk) : XJ G y E Z pc l (.int b :: .int a :: stk) n cs ck sk :=
  fun p e s m args below meth c H locs ls F e1 S P L => lv_irem F.1 F.2.1 hd hb (kk p e s m args below meth c H locs ls F e1 S P L)
theorem x_iand {a b : Int32} (hd : decode y.1 pc = .ok (.iand, 1)) (kk : XJ G y E Z (pc + 1) l (.int (a &&& b) :: stk) n cs ck sk) : XJ G y E Z pc l (.int b :: .int a :: stk) n cs ck sk :=
  fun p e s m args below meth c H locs ls F e1 S P L => lv_iand F.1 F.2.1 hd (kk p e s m args below meth c H locs ls F e1 S P L)
theorem x_ior {a b : Int32} (hd : decode y.1 pc = .ok (.ior, 1)) (kk : XJ G y E Z (pc + 1) l (.int (a ||| b) :: stk) n cs ck sk) : XJ G y E Z pc l (.int b :: .int a :: stk) n cs ck sk :=
  fun p e s m args below meth c H locs ls F e1 S P L => lv_ior F.1 F.2.1 hd (kk p e s m args below meth c H locs ls F e1 S P L)
theorem x_ishl {a b : Int32} (hd : decode y.1 pc = .ok (.ishl, 1)) (kk : XJ G y E Z (pc + 1) l (.int (a <<< (b &&& 31)) :: stk) n cs ck sk) : XJ G y E Z pc l (.int b :: .int a :: stk) n cs ck sk :=
  fun p e s m args below meth c H locs ls F e1 S P L => lv_ishl F.1 F.2.1 hd (kk p e s m args below meth c H locs ls F e1 S P L)
theorem x_i2c {a : Int32} (hd : decode y.1 pc = .ok (.i2c, 1)) (kk : XJ G y E Z (pc + 1) l (.int (a.toUInt32 % 65536).toInt32 :: stk) n cs ck sk) : XJ G y E Z pc l (.int a :: stk) n cs ck sk :=
  fun p e s m args below meth c H locs ls F e1 S P L => lv_i2c F.1 F.2.1 hd rfl (kk p e s m args below meth c H locs ls F e1 S P L)
theorem x_pop {v : Value} (hd : decode y.1 pc = .ok (.pop, 1)) (hv : v.category = 1) (kk : XJ G y E Z (pc + 1) l stk n cs ck sk) : XJ G y E Z pc l (v :: stk) n cs ck sk :=
  fun p e s m args below meth c H locs ls F e1 S P L => lv_pop F.1 F.2.1 hd hv (kk p e s m args below meth c H locs ls F e1 S P L)
theorem x_dup {v : Value} (hd : decode y.1 pc = .ok (.dup, 1)) (hv : v.category = 1) (kk : XJ G y E Z (pc + 1) l (v :: v :: stk) n cs ck sk) : XJ G y E Z pc l (v :: stk) n cs ck sk :=
  fun p e s m args below meth c H locs ls F e1 S P L => lv_dup F.1 F.2.1 hd hv (kk p e s m args below meth c H locs ls F e1 S P L)
theorem x_dup2 {v w : Value} (hd : decode y.1 pc = .ok (.dup2, 1)) (hv : v.category = 1) (hw : w.category = 1) (kk : XJ G y E Z (pc + 1) l (v :: w :: v :: w :: stk) n cs ck sk) : XJ G y E Z pc l (v :: w :: stk) n cs ck sk :=
  fun p e s m args below meth c H locs ls F e1 S P L => lv_dup2_11 F.1 F.2.1 hd hv hw (kk p e s m args below meth c H locs ls F e1 S P L)
theorem x_goto {off : Int} (tgt : Nat) (hd : decode y.1 pc = .ok (.goto off, 3)) (ht : (pc : Int) + off = (tgt : Int)) (kk : XJ G y E Z tgt l stk n cs ck sk) : XJ G y E Z pc l stk n cs ck sk :=
  fun p e s m args below meth c H locs ls F e1 S P L => lv_goto F.1 F.2.1 hd ht (kk p e s m args below meth c H locs ls F e1 S P L)
theorem x_ifeq {a : Int32} {off : Int} (tgt : Nat) (hd : decode y.1 pc = .ok (.ifCond .eq off, 3)) (ht : (pc : Int) + off = (tgt : Int)) (kt : a = 0 → XJ G y E Z tgt l stk n cs ck sk) (kf : ¬ a = 0 → XJ G y E Z (pc + 3) l stk n cs ck sk) : XJ G y E Z pc l (.int a :: stk) n cs ck sk :=
  fun p e s m args below meth c H locs ls F e1 S P L => lv_if_eq F.1 F.2.1 hd ht (fun q => kt q p e s m args below meth c H locs ls F e1 S P L) (fun q => kf q p e s m args below meth c H locs ls F e1 S P L)
theorem x_ifne {a : Int32} {off : Int} (tgt : Nat) (hd : decode y.1 pc = .ok (.ifCond .ne off, 3)) (ht : (pc : Int) + off = (tgt : Int)) (kt : ¬ a = 0 → XJ G y E Z tgt l stk n cs ck sk) (kf : a = 0 → XJ G y E Z (pc + 3) l stk n cs ck sk) : XJ G y E Z pc l (.int a :: stk) n cs ck sk :=
  fun p e s m args below meth c H locs ls F e1 S P L => lv_if_ne F.1 F.2.1 hd ht (fun q => kt q p e s m args below meth c H locs ls F e1 S P L) (fun q => kf (by first | exact q | exact Classical.not_not.mp q) p e s m args below meth c H locs ls F e1 S P L)
theorem x_iflt {a : Int32} {off : Int} (tgt : Nat) (hd : decode y.1 pc = .ok (.ifCond .lt off, 3)) (ht : (pc : Int) + off = (tgt : Int)) (kt : a < 0 → XJ G y E Z tgt l stk n cs ck sk) (kf : ¬ a < 0 → XJ G y E Z (pc + 3) l stk n cs ck sk) : XJ G y E Z pc l (.int a :: stk) n cs ck sk :=
  fun p e s m args below meth c H locs ls F e1 S P L => lv_if_lt F.1 F.2.1 hd ht (fun q => kt q p e s m args below meth c H locs ls F e1 S P L) (fun q => kf q p e s m args below meth c H locs ls F e1 S P L)
theorem x_ifge {a : Int32} {off : Int} (tgt : Nat) (hd : decode y.1 pc = .ok (.ifCond .ge off, 3)) (ht : (pc : Int) + off = (tgt : Int)) (kt : ¬ a < 0 → XJ G y E Z tgt l stk n cs ck sk) (kf : a < 0 → XJ G y E Z (pc + 3) l stk n cs ck sk) : XJ G y E Z pc l (.int a :: stk) n cs ck sk :=
  fun p e s m args below meth c H locs ls F e1 S P L => lv_if_ge F.1 F.2.1 hd ht (fun q => kt (by first | exact q | exact Int32.not_lt.mpr q) p e s m args below meth c H locs ls F e1 S P L) (fun q => kf (by first | exact q | exact Int32.not_le.mp q) p e s m args below meth c H locs ls F e1 S P L)
theorem x_ifgt {a : Int32} {off : Int} (tgt : Nat) (hd : decode y.1 pc = .ok (.ifCond .gt off, 3)) (ht : (pc : Int) + off = (tgt : Int)) (kt : 0 < a → XJ G y E Z tgt l stk n cs ck sk) (kf : ¬ 0 < a → XJ G y E Z (pc + 3) l stk n cs ck sk) : XJ G y E Z pc l (.int a :: stk) n cs ck sk :=
  fun p e s m args below meth c H locs ls F e1 S P L => lv_if_gt F.1 F.2.1 hd ht (fun q => kt (by first | exact q | exact Int32.not_le.mp q) p e s m args below meth c H locs ls F e1 S P L) (fun q => kf (by first | exact q | exact Int32.not_lt.mpr q | exact fun z => absurd z q) p e s m args below meth c H locs ls F e1 S P L)
theorem x_ifle {a : Int32} {off : Int} (tgt : Nat) (hd : decode y.1 pc = .ok (.ifCond .le off, 3)) (ht : (pc : Int) + off = (tgt : Int)) (kt : ¬ 0 < a → XJ G y E Z tgt l stk n cs ck sk) (kf : 0 < a → XJ G y E Z (pc + 3) l stk n cs ck sk) : XJ G y E Z pc l (.int a :: stk) n cs ck sk :=
  fun p e s m args below meth c H locs ls F e1 S P L => lv_if_le F.1 F.2.1 hd ht (fun q => kt (by first | exact q | exact Int32.not_lt.mpr q) p e s m args below meth c H locs ls F e1 S P L) (fun q => kf (by first | exact q | exact Int32.not_le.mp q) p e s m args below meth c H locs ls F e1 S P L)
theorem x_cmpeq {a b : Int32} {off : Int} (tgt : Nat) (hd : decode y.1 pc = .ok (.if_icmp .eq off, 3)) (ht : (pc : Int) + off = (tgt : Int)) (kt : a = b → XJ G y E Z tgt l stk n cs ck sk) (kf : ¬ a = b → XJ G y E Z (pc + 3) l stk n cs ck sk) : XJ G y E Z pc l (.int b :: .int a :: stk) n cs ck sk :=
  fun p e s m args below meth c H locs ls F e1 S P L => lv_icmp_eq F.1 F.2.1 hd ht (fun q => kt q p e s m args below meth c H locs ls F e1 S P L) (fun q => kf q p e s m args below meth c H locs ls F e1 S P L)
theorem x_cmpne {a b : Int32} {off : Int} (tgt : Nat) (hd : decode y.1 pc = .ok (.if_icmp .ne off, 3)) (ht : (pc : Int) + off = (tgt : Int)) (kt : ¬ a = b → XJ G y E Z tgt l stk n cs ck sk) (kf : a = b → XJ G y E Z (pc + 3) l stk n cs ck sk) : XJ G y E Z pc l (.int b :: .int a :: stk) n cs ck sk :=
  fun p e s m args below meth c H locs ls F e1 S P L => lv_icmp_ne F.1 F.2.1 hd ht (fun q => kt q p e s m args below meth c H locs ls F e1 S P L) (fun q => kf (by first | exact q | exact Classical.not_not.mp q) p e s m args below meth c H locs ls F e1 S P L)
theorem x_cmplt {a b : Int32} {off : Int} (tgt : Nat) (hd : decode y.1 pc = .ok (.if_icmp .lt off, 3)) (ht : (pc : Int) + off = (tgt : Int)) (kt : a < b → XJ G y E Z tgt l stk n cs ck sk) (kf : ¬ a < b → XJ G y E Z (pc + 3) l stk n cs ck sk) : XJ G y E Z pc l (.int b :: .int a :: stk) n cs ck sk :=
  fun p e s m args below meth c H locs ls F e1 S P L => lv_icmp_lt F.1 F.2.1 hd ht (fun q => kt q p e s m args below meth c H locs ls F e1 S P L) (fun q => kf q p e s m args below meth c H locs ls F e1 S P L)
theorem x_cmpge {a b : Int32} {off : Int} (tgt : Nat) (hd : decode y.1 pc = .ok (.if_icmp .ge off, 3)) (ht : (pc : Int) + off = (tgt : Int)) (kt : ¬ a < b → XJ G y E Z tgt l stk n cs ck sk) (kf : a < b → XJ G y E Z (pc + 3) l stk n cs ck sk) : XJ G y E Z pc l (.int b :: .int a :: stk) n cs ck sk :=
  fun p e s m args below meth c H locs ls F e1 S P L => lv_icmp_ge F.1 F.2.1 hd ht (fun q => kt (by first | exact q | exact Int32.not_lt.mpr q) p e s m args below meth c H locs ls F e1 S P L) (fun q => kf (by first | exact q | exact Int32.not_le.mp q) p e s m args below meth c H locs ls F e1 S P L)
theorem x_cmpgt {a b : Int32} {off : Int} (tgt : Nat) (hd : decode y.1 pc = .ok (.if_icmp .gt off, 3)) (ht : (pc : Int) + off = (tgt : Int)) (kt : b < a → XJ G y E Z tgt l stk n cs ck sk) (kf : ¬ b < a → XJ G y E Z (pc + 3) l stk n cs ck sk) : XJ G y E Z pc l (.int b :: .int a :: stk) n cs ck sk :=
  fun p e s m args below meth c H locs ls F e1 S P L => lv_icmp_gt F.1 F.2.1 hd ht (fun q => kt (by first | exact q | exact Int32.not_le.mp q) p e s m args below meth c H locs ls F e1 S P L) (fun q => kf (by first | exact q | exact Int32.not_lt.mpr q | exact fun z => absurd z q) p e s m args below meth c H locs ls F e1 S P L)
theorem x_cmple {a b : Int32} {off : Int} (tgt : Nat) (hd : decode y.1 pc = .ok (.if_icmp .le off, 3)) (ht : (pc : Int) + off = (tgt : Int)) (kt : ¬ b < a → XJ G y E Z tgt l stk n cs ck sk) (kf : b < a → XJ G y E Z (pc + 3) l stk n cs ck sk) : XJ G y E Z pc l (.int b :: .int a :: stk) n cs ck sk :=
  fun p e s m args below meth c H locs ls F e1 S P L => lv_icmp_le F.1 F.2.1 hd ht (fun q => kt (by first | exact q | exact Int32.not_lt.mpr q) p e s m args below meth c H locs ls F e1 S P L) (fun q => kf (by first | exact q | exact Int32.not_le.mp q) p e s m args below meth c H locs ls F e1 S P L)
theorem x_tableIn {dflt lo hi : Int} {offs : Array Int} {len : Nat} {a : Int32} {off : Int} (tgt : Nat) (hd : decode y.1 pc = .ok (.tableswitch dflt lo hi offs, len)) (h1 : ¬ a.toInt < lo) (h2 : ¬ hi < a.toInt) (ho : offs[(a.toInt - lo).toNat]? = some off) (ht : (pc : Int) + off = (tgt : Int)) (kk : XJ G y E Z tgt l stk n cs ck sk) : XJ G y E Z pc l (.int a :: stk) n cs ck sk :=
  fun p e s m args below meth c H locs ls F e1 S P L => lv_tableIn F.1 F.2.1 hd h1 h2 ho ht (kk p e s m args below meth c H locs ls F e1 S P L)
theorem x_tableOut {dflt lo hi : Int} {offs : Array Int} {len : Nat} {a : Int32} (tgt : Nat) (hd : decode y.1 pc = .ok (.tableswitch dflt lo hi offs, len)) (h1 : a.toInt < lo ∨ hi < a.toInt) (ht : (pc : Int) + dflt = (tgt : Int)) (kk : XJ G y E Z tgt l stk n cs ck sk) : XJ G y E Z pc l (.int a :: stk) n cs ck sk :=
  fun p e s m args below meth c H locs ls F e1 S P L => lv_tableOut F.1 F.2.1 hd h1 ht (kk p e s m args below meth c H locs ls F e1 S P L)
theorem x_lookup {dflt : Int} {ps : Array (Int × Int)} {len : Nat} {a : Int32} {off : Int} (tgt : Nat) (hd : decode y.1 pc = .ok (.lookupswitch dflt ps, len)) (hp : (ps.toList.zip (ps.toList.drop 1)).all (fun (a, next) => a.1 < next.1) = true) (ho : Op.lookupswitch.offset ps.toList dflt a.toInt = off) (ht : (pc : Int) + off = (tgt : Int)) (kk : XJ G y E Z tgt l stk n cs ck sk) : XJ G y E Z pc l (.int a :: stk) n cs ck sk :=
  fun p e s m args below meth c H locs ls F e1 S P L => lv_lookup F.1 F.2.1 hd hp ho ht (kk p e s m args below meth c H locs ls F e1 S P L)
end ROWS
end
section
/-! rows on the heap, calls, returns -/
theorem Kx.same {G : GX} {u U : State} (h : u.vm = U.vm) (hK : Kx G u) : Kx G U := by
  have hal : u.vm.Alike U.vm := by rw [h]; exact Vm.Alike.refl _
  exact ⟨va_K.moved hal hK.1, va_AO.moved hal hK.2.1, va_AO.moved hal hK.2.2.1, va_Nw.same rfl h hK.2.2.2⟩
theorem Kx.warm {G : GX} {s U : State} (h : s.WarmedH U.vm) (hK : Kx G s) : Kx G U :=
  ⟨va_K.moved h.alike hK.1, va_AO.moved h.alike hK.2.1, va_AO.moved h.alike hK.2.2.1, va_Nw.warmM h hK.2.2.2⟩
theorem Sx.moved {G : GX} {u U : State} {H : Heap} (hal : u.vm.Alike U.vm) (h : Sx G u H) : Sx G U H :=
  ⟨va_Z.moved hal h.1, va_T.moved hal h.2.1, va_Z.moved hal h.2.2.1, va_T.moved hal h.2.2.2.1, va_T.moved hal h.2.2.2.2⟩
theorem Sx.kept {G : GX} {U : State} {H H1 : Heap} (h : Sx G U H) (hq : ∀ a : Nat, a < H.size → ¬ gA G a → H1[a]? = H[a]?) : Sx G U H1 :=
  ⟨va_Z.kept h.1 hq, va_T.kept h.2.1 hq, va_Z.kept h.2.2.1 hq, va_T.kept h.2.2.2.1 hq, va_T.kept h.2.2.2.2 hq⟩
theorem Wd.warm {G : GX} {s U : State} {n : Nat} {cs : Nat → va_E} {H : Heap} {locs : List Loc} (hK : Kx G s) (hS : Sx G s s.heap) (h : s.WarmedH U.vm) (hU : U.heap = H) (hp : va_S (gA G) s.heap H locs) (hP : Rp G n cs H) : Wd G n cs U :=
  ⟨by rw [hU]; exact hP, hK.warm h, by rw [hU]; exact (hS.moved h.alike).kept hp.2.1⟩
theorem Wd.same {G : GX} {u U : State} {n : Nat} {cs : Nat → va_E} (h : u.vm = U.vm) (hh : u.heap = U.heap) (hW : Wd G n cs u) : Wd G n cs U :=
  ⟨by rw [← hh]; exact hW.1, hW.2.1.same h, by rw [← hh]; exact hW.2.2.moved (by rw [h]; exact Vm.Alike.refl _)⟩
theorem Wd.blind (G : GX) (n : Nat) (cs : Nat → va_E) (As : List Value) : FrameBlind (va_Pc As (Wd G n cs)) := fun _ _ _ _ q => ⟨q.1, Wd.same rfl rfl q.2⟩
def Qx (G : GX) (r : Option Value → Nat → (Nat → va_E) → Prop) : Array Value → State → Outcome → State → Prop := fun _ st o t => (∃ v n' cs', o = .returned v ∧ r v n' cs' ∧ Wd G n' cs' t) ∧ va_F (gA G) st t
def Zx (G : GX) (r : Option Value → Nat → (Nat → va_E) → Prop) (mc ms : Nat) : ZX := fun below args s => MQ below (Qx G r) args s mc ms (gA G)
/-- a method's contract -/
def Ct (G : GX) (ynm : MethodName) (yc : YX) (mc ms : Nat) (As : List Value) (n : Nat) (cs : Nat → va_E) (r : Option Value → Nat → (Nat → va_E) → Prop) : Prop :=
  Met G.1 ynm (Cond.code ynm yc.1 yc.2.1 yc.2.2.2.2.1 :: WS) yc.2.2.2.1 (va_Pc As (Wd G n cs)) (Qx G r) mc ms (gA G)
theorem lv_args_mem : ∀ {vs : List Value} {i : Nat} {q : Nat × Value}, q ∈ lv_args i vs → q.2 ∈ vs
  | [], _, _, h => by simp [lv_args] at h
  | v :: vs, i, q, h => by
    simp only [lv_args] at h
    rcases List.mem_cons.mp h with h | h
    · rw [h]; exact List.mem_cons_self
    · exact List.mem_cons_of_mem _ (lv_args_mem h)
theorem ct_of {G : GX} {ynm : MethodName} {yc : YX} {mc ms : Nat} {As : List Value} {n : Nat} {cs : Nat → va_E} {r : Option Value → Nat → (Nat → va_E) → Prop} (hpl : plainName ynm.cls = true) (hcls : ynm.cls = yc.2.2.1) (hnm : ynm.name = yc.2.2.2.2.2) (hlen : (lg_sl As).length ≤ yc.2.1) (hcat : ∀ v ∈ As, v.category = 1)
    (h : XJ G yc (fun _ => True) (Zx G r mc ms) 0 (lv_args 0 As) [] n cs 0 0) : Ct G ynm yc mc ms As n cs r := by
  refine Met.ofW (cc := yc.1) (maxL := yc.2.1) (ret := yc.2.2.2.2.1) hpl rfl ?_
  intro p e s m args below meth c s₁ B hml hv
  obtain ⟨rfl, hW⟩ := hv
  have hts := atoms_spec (ws := Cond.code ynm yc.1 yc.2.1 yc.2.2.2.2.1 :: WS) B.pre
  have hown : s.vm.findClass yc.2.2.1 = some m.cls := by rw [← hcls]; exact findClass_of_methodNamed B.named
  have hin : meth.name = ynm.name := (name_of_methodNamed B.named B.method).1
  have hl := lv_entry As hlen
  rw [lg_entry_eq]
  refine h p e s m _ below meth c s.heap [] _ ⟨B.exec, B.bytes, hml, hown, fun w hw => hts w (List.mem_cons_of_mem _ hw), B.notSynchronized, B.returns, hin.trans hnm, hW.2.1, hW.2.2, by have := hW.1.1; omega⟩ trivial va_S.rf hW.1 ⟨hl.1, hl.2.1, fun i v hi => ?_⟩
  have hm := lk_mem hi
  exact ⟨hl.2.2 _ hm, hcat _ (lv_args_mem hm)⟩
section HROWS
variable {G : GX} {y : YX} {E : State → Prop} {Z : ZX} {pc : Nat} {l : List (Nat × Value)} {stk : List Value} {n : Nat} {cs : Nat → va_E} {ck sk : Nat}
theorem rp_one {H : Heap} (P : Rp G n cs H) {o : Nat} (ho : o < n) {e : va_E} (he : cs o = e) : va_P (gD G) vwCl [(gB G + o, e)] H := by
  intro k q hq
  cases k with
  | zero =>
    cases hq
    rw [← he]
    exact P.2 o ho
  | succ k => simp at hq
theorem x_get {o ci k idx : Nat} {fs : List Value} {v : Value} {C : String} {T : u_T} {N : Nat} (hcell : cs o = .inr (ci, fs)) (hv : fs[k]? = some v) (ho : o < n) (hc : vwCl[ci]? = some (C, T, N)) (hin : ∀ w ∈ u_ws C T N, w ∈ WS) (hk : k < N) (hlink : Cond.fieldLink y.2.2.1 idx C (T k).2.1 (T k).2.2.1 ∈ WS) (hdecl : (T k).1 = C) (hd : decode y.1 pc = .ok (.getfield idx, 3))
    (kk : XJ G y E Z (pc + 3) l (v :: stk) n cs ck sk) : XJ G y E Z pc l (.ref (gB G + o) :: stk) n cs ck sk := by
  intro p e s m args below meth c H locs ls F e1 S P L
  exact va_get F.1 F.2.1 F.2.2.2.2.1 hin F.2.2.2.1 F.2.2.2.2.2.2.2.2.1.1 (rp_one P ho hcell) 0 rfl hc k hk (F.2.2.2.2.1 _ hlink) (by rw [hdecl]; exact fun _ h => h) hv hd (kk p e s m args below meth c H locs ls F e1 S P L)
theorem x_put {o ci k idx : Nat} {fs : List Value} {v : Value} {C : String} {T : u_T} {N : Nat} {ty : FieldType} (hcell : cs o = .inr (ci, fs)) (ho : o < n) (hc : vwCl[ci]? = some (C, T, N)) (hin : ∀ w ∈ u_ws C T N, w ∈ WS) (tyf : Nat → FieldType) (hty : ∀ k, k < N → parseFieldDescriptor (T k).2.2.1 = some (tyf k)) (hnm : ∀ a, a < N → ∀ b, b < N → a ≠ b → (T a).2.1 ≠ (T b).2.1) (hk : k < N) (hlink : Cond.fieldLink y.2.2.1 idx C (T k).2.1 (T k).2.2.1 ∈ WS) (hdecl : (T k).1 = C) (hfin : (T k).2.2.2 = false) (htk : tyf k = ty) (hn : narrow ty v = v) (hfit : fits ty v = true) (hl : k < fs.length) (hd : decode y.1 pc = .ok (.putfield idx, 3))
    (cs' : Nat → va_E) (hset : ∀ o', o' < n → cs' o' = if o' = o then .inr (ci, fs.set k v) else cs o') (kk : XJ G y E Z (pc + 3) l stk n cs' ck sk) : XJ G y E Z pc l (v :: .ref (gB G + o) :: stk) n cs ck sk := by
  intro p e s m args below meth c H locs ls F e1 S P L
  have hts := F.2.2.2.2.1
  have hK := F.2.2.2.2.2.2.2.2.1.1
  have hap := va_apart (own := y.2.2.1) hts hin tyf hty hnm hK hc
  have hat := P.2 o ho
  rw [hcell] at hat
  obtain ⟨r, h1, cell, q1, q2, q3, q4⟩ := hat
  have hr : r = (C, T, N) := Option.some.inj (h1.symm.trans hc)
  subst hr
  obtain ⟨hS, hfc, kC, hkC, hkind⟩ := hK.1 ci _ hc
  obtain ⟨cf, kf, fi, f, hi, hsl⟩ := hS k hk
  have hlay := hts _ (hin _ (u_in_lay hk))
  unfold u_lay at hlay
  rw [if_neg (by rw [hfin]; decide)] at hlay
  have hst := (u_facts hfc hkC (u_lays hts hin hk) hi).1
  have h6 := u_store hfc hkC hkind hlay hi ((hty k hk).trans (by rw [htk])) hn hfit
  refine W.putK F.1 F.2.1 (f := f) ⟨F.2.2.2.1, hts _ hlink, ⟨cf, kf, fi, by rw [← hdecl]; exact hi⟩, hst⟩ (by rw [q2]; exact h6) q1 q3 (by rw [hsl]; exact k2_hasslot (q4 k hk)) rfl rfl hd fun H' u1 u2 u3 => ?_
  rw [hsl] at u1 ⊢
  refine kk p e s m args below meth c H' _ ls F e1 (S.put u2 u3 (Nat.le_add_right _ _)) ⟨u2.trans P.1, fun o' ho' => ?_⟩ L
  rw [hset o' ho']
  by_cases hoo : o' = o
  · subst hoo
    rw [if_pos rfl]
    exact ⟨_, hc, t_OB.to (V := updV (vp_V fs) k v) ⟨_, u1, q2, q3, t_set q4 hap hk v⟩ (fun j _ => vp_updV_set hl v j)⟩
  · rw [if_neg hoo]
    exact (P.2 o' ho').kept (u3 _ (by show gB G + o' ≠ gB G + o; omega))
theorem x_putF {o ci k idx : Nat} {fs : List Value} {v : Value} {T : u_T} {N : Nat} {ty : FieldType} (hcell : cs o = .inr (ci, fs)) (ho : o < n) (hc : vwCl[ci]? = some (y.2.2.1, T, N)) (hin : ∀ w ∈ u_ws y.2.2.1 T N, w ∈ WS) (tyf : Nat → FieldType) (hty : ∀ k, k < N → parseFieldDescriptor (T k).2.2.1 = some (tyf k)) (hnm : ∀ a, a < N → ∀ b, b < N → a ≠ b → (T a).2.1 ≠ (T b).2.1) (hk : k < N) (hlink : Cond.fieldLink y.2.2.1 idx y.2.2.1 (T k).2.1 (T k).2.2.1 ∈ WS) (hdecl : (T k).1 = y.2.2.1) (hinit : y.2.2.2.2.2 = "<init>") (hfin : (T k).2.2.2 = true) (htk : tyf k = ty) (hn : narrow ty v = v) (hfit : fits ty v = true) (hl : k < fs.length) (hd : decode y.1 pc = .ok (.putfield idx, 3))
    (cs' : Nat → va_E) (hset : ∀ o', o' < n → cs' o' = if o' = o then .inr (ci, fs.set k v) else cs o') (kk : XJ G y E Z (pc + 3) l stk n cs' ck sk) : XJ G y E Z pc l (v :: .ref (gB G + o) :: stk) n cs ck sk := by
  intro p e s m args below meth c H locs ls F e1 S P L
  have hts := F.2.2.2.2.1
  have hK := F.2.2.2.2.2.2.2.2.1.1
  have hap := va_apart (own := y.2.2.1) hts hin tyf hty hnm hK hc
  have hat := P.2 o ho
  rw [hcell] at hat
  obtain ⟨r, h1, cell, q1, q2, q3, q4⟩ := hat
  have hr : r = (y.2.2.1, T, N) := Option.some.inj (h1.symm.trans hc)
  subst hr
  obtain ⟨hS, hfc, kC, hkC, hkind⟩ := hK.1 ci _ hc
  obtain ⟨cf, kf, fi, f, hi, hsl⟩ := hS k hk
  have hlay := hts _ (hin _ (u_in_lay hk))
  unfold u_lay at hlay
  rw [if_pos hfin] at hlay
  have hst := (u_facts hfc hkC (u_lays hts hin hk) hi).1
  have hcf : m.cls = cf := by
    obtain ⟨_, _, c', _, _, _, -, -, hf', -, -, -, hown2, -⟩ := Cond.laysFinal_spec hlay
    have e1 : c' = cf := by have := hi.symm.trans hf'; simp at this; exact this.1.symm
    rw [hdecl] at hown2
    rw [← e1]; exact Option.some.inj (F.2.2.2.1.symm.trans hown2)
  have h6 := u_fits hfc hkC hkind (Or.inr hlay) hi ((hty k hk).trans (by rw [htk])) hn hfit
  have hi2 : s.fieldFound? y.2.2.1 (T k).2.1 (T k).2.2.1 = some (cf, kf, fi, f) := by rw [← hdecl]; exact hi
  refine W.putFinK F.1 F.2.1 F.2.2.2.1 (hts _ hlink) hi2 hst hcf (F.2.2.2.2.2.2.2.1.trans hinit) (by rw [q2]; exact h6) q1 q3 (by rw [hsl]; exact k2_hasslot (q4 k hk)) rfl rfl hd fun H' u1 u2 u3 => ?_
  rw [hsl] at u1 ⊢
  refine kk p e s m args below meth c H' _ ls F e1 (S.put u2 u3 (Nat.le_add_right _ _)) ⟨u2.trans P.1, fun o' ho' => ?_⟩ L
  rw [hset o' ho']
  by_cases hoo : o' = o
  · subst hoo
    rw [if_pos rfl]
    exact ⟨_, hc, t_OB.to (V := updV (vp_V fs) k v) ⟨_, u1, q2, q3, t_set q4 hap hk v⟩ (fun j _ => vp_updV_set hl v j)⟩
  · rw [if_neg hoo]
    exact (P.2 o' ho').kept (u3 _ (by show gB G + o' ≠ gB G + o; omega))
theorem x_iald {o N : Nat} {f : Nat → Int32} {i : Int32} (hcell : cs o = .inl (gI G, N, .inl f)) (ho : o < n) (hi : vp_in i N) (hd : decode y.1 pc = .ok (.iaload, 1)) (kk : XJ G y E Z (pc + 1) l (.int (f i.toNatClampNeg) :: stk) n cs ck sk) : XJ G y E Z pc l (.int i :: .ref (gB G + o) :: stk) n cs ck sk :=
  fun p e s m args below meth c H locs ls F e1 S P L => va_iald F.1 F.2.1 F.2.2.2.2.2.2.2.2.1.1 (rp_one P ho hcell) 0 0 rfl rfl hi hd (kk p e s m args below meth c H locs ls F e1 S P L)
theorem x_cald {o N : Nat} {f : Nat → Int32} {i : Int32} (hcell : cs o = .inl (gC G, N, .inl f)) (ho : o < n) (hi : vp_in i N) (hd : decode y.1 pc = .ok (.caload, 1)) (kk : XJ G y E Z (pc + 1) l (.int (f i.toNatClampNeg) :: stk) n cs ck sk) : XJ G y E Z pc l (.int i :: .ref (gB G + o) :: stk) n cs ck sk :=
  fun p e s m args below meth c H locs ls F e1 S P L => va_cald F.1 F.2.1 F.2.2.2.2.2.2.2.2.1.1 (rp_one P ho hcell) 0 1 rfl rfl hi hd (kk p e s m args below meth c H locs ls F e1 S P L)
theorem x_aaldS {o N a : Nat} {f : Nat → Option Nat} {i : Int32} (hcell : cs o = .inl (gS G, N, .inr (.inr (.inr (.inr f))))) (ho : o < n) (hi : vp_in i N) (hf : f i.toNatClampNeg = some a) (hd : decode y.1 pc = .ok (.aaload, 1)) (kk : XJ G y E Z (pc + 1) l (.ref a :: stk) n cs ck sk) : XJ G y E Z pc l (.int i :: .ref (gB G + o) :: stk) n cs ck sk :=
  fun p e s m args below meth c H locs ls F e1 S P L => va_aldq (C := "BeamCuts$Shape") F.1 F.2.1 F.2.2.2.2.2.2.2.2.1.1 (rp_one P ho hcell) 0 2 rfl rfl hi hd (by rw [hf]; exact kk p e s m args below meth c H locs ls F e1 S P L)
theorem x_aaldT {o N a : Nat} {f : Nat → Option Nat} {i : Int32} (hcell : cs o = .inl (gT G, N, .inr (.inr (.inr (.inr f))))) (ho : o < n) (hi : vp_in i N) (hf : f i.toNatClampNeg = some a) (hd : decode y.1 pc = .ok (.aaload, 1)) (kk : XJ G y E Z (pc + 1) l (.ref a :: stk) n cs ck sk) : XJ G y E Z pc l (.int i :: .ref (gB G + o) :: stk) n cs ck sk :=
  fun p e s m args below meth c H locs ls F e1 S P L => va_aldq (C := "BeamCuts$Sheet") F.1 F.2.1 F.2.2.2.2.2.2.2.2.1.1 (rp_one P ho hcell) 0 3 rfl rfl hi hd (by rw [hf]; exact kk p e s m args below meth c H locs ls F e1 S P L)
theorem rp_set {H H' : Heap} {o : Nat} {cs' : Nat → va_E} {e' : va_E} (P : Rp G n cs H) (z : H'.size = H.size) (oq : ∀ q : Nat, q ≠ gB G + o → H'[q]? = H[q]?) (he : va_at (gD G) vwCl (gB G + o, e') H') (hset : ∀ o', o' < n → cs' o' = if o' = o then e' else cs o') : Rp G n cs' H' := by
  refine ⟨z.trans P.1, fun o' ho' => ?_⟩
  rw [hset o' ho']
  by_cases hoo : o' = o
  · subst hoo
    rw [if_pos rfl]
    exact he
  · rw [if_neg hoo]
    exact (P.2 o' ho').kept (oq _ (by show gB G + o' ≠ gB G + o; omega))
theorem x_iast {o N : Nat} {f : Nat → Int32} {i x : Int32} (hcell : cs o = .inl (gI G, N, .inl f)) (ho : o < n) (hi : vp_in i N) (hd : decode y.1 pc = .ok (.iastore, 1)) (cs' : Nat → va_E) (hset : ∀ o', o' < n → cs' o' = if o' = o then .inl (gI G, N, .inl (upd f i.toNatClampNeg x)) else cs o') (kk : XJ G y E Z (pc + 1) l stk n cs' ck sk) : XJ G y E Z pc l (.int x :: .int i :: .ref (gB G + o) :: stk) n cs ck sk := by
  intro p e s m args below meth c H locs ls F e1 S P L
  have hP := rp_one P ho hcell
  have hK := F.2.2.2.2.2.2.2.2.1.1
  refine W.iast F.1 F.2.1 (hP 0 _ rfl) ((hK.2 0 _ rfl).1 N (fun j => .int (f j))) (fun q => by cases q) (by show ¬ (i < 0 ∨ (arrV _ _ _).slots.size ≤ _); rw [arrV_size]; exact hi) rfl rfl hd fun H1 u z oq => ?_
  refine kk p e s m args below meth c H1 _ ls F e1 (S.put z oq (Nat.le_add_right _ _)) (rp_set P z oq ?_ hset) L
  show H1[gB G + o]? = some (vp_cell _ _)
  rw [u]
  rw [vp_cell_i, vp_cell_i, arrV_store]
  congr 2
  funext q
  by_cases hq : q = i.toNatClampNeg
  · subst hq
    simp [updV, upd]
  · simp [updV, upd, hq]
theorem x_cast {o N : Nat} {f : Nat → Int32} {i x : Int32} (hcell : cs o = .inl (gC G, N, .inl f)) (ho : o < n) (hi : vp_in i N) (hx : narrow .char (.int x) = .int x) (hd : decode y.1 pc = .ok (.castore, 1)) (cs' : Nat → va_E) (hset : ∀ o', o' < n → cs' o' = if o' = o then .inl (gC G, N, .inl (upd f i.toNatClampNeg x)) else cs o') (kk : XJ G y E Z (pc + 1) l stk n cs' ck sk) : XJ G y E Z pc l (.int x :: .int i :: .ref (gB G + o) :: stk) n cs ck sk := by
  intro p e s m args below meth c H locs ls F e1 S P L
  have hP := rp_one P ho hcell
  have hK := F.2.2.2.2.2.2.2.2.1.1
  refine W.cast F.1 F.2.1 (hP 0 _ rfl) ((hK.2 1 _ rfl).1 N (fun j => .int (f j))) (fun q => by cases q) (by show ¬ (i < 0 ∨ (arrV _ _ _).slots.size ≤ _); rw [arrV_size]; exact hi) rfl rfl hd fun H1 u z oq => ?_
  refine kk p e s m args below meth c H1 _ ls F e1 (S.put z oq (Nat.le_add_right _ _)) (rp_set P z oq ?_ hset) L
  show H1[gB G + o]? = some (vp_cell _ _)
  rw [u, hx]
  rw [vp_cell_i, vp_cell_i, arrV_store]
  congr 2
  funext q
  by_cases hq : q = i.toNatClampNeg
  · subst hq
    simp [updV, upd]
  · simp [updV, upd, hq]
theorem rp_push {H H' : Heap} {cs' : Nat → va_E} {e' : va_E} (P : Rp G n cs H) (z : H'.size = H.size + 1) (oq : ∀ q : Nat, q < H.size → H'[q]? = H[q]?) (he : va_at (gD G) vwCl (H.size, e') H') (hset : ∀ o', o' < n + 1 → cs' o' = if o' = n then e' else cs o') : Rp G (n + 1) cs' H' := by
  refine ⟨by rw [z, P.1]; rfl, fun o' ho' => ?_⟩
  rw [hset o' ho']
  by_cases hoo : o' = n
  · subst hoo
    rw [if_pos rfl, ← P.1]
    exact he
  · rw [if_neg hoo]
    exact (P.2 o' (by omega)).kept (oq _ (by have := P.1; show gB G + o' < _; omega))
theorem s_push {s : State} {H H' : Heap} {locs : List Loc} (S : va_S (gA G) s.heap H locs) (z : H'.size = H.size + 1) (oq : ∀ q : Nat, q < H.size → H'[q]? = H[q]?) : va_S (gA G) s.heap H' locs :=
  ⟨Nat.le_trans S.1 (by omega), fun x h1 h2 => (oq x (Nat.lt_of_lt_of_le h1 S.1)).trans (S.2.1 x h1 h2), S.2.2⟩
theorem x_new {ci idx : Nat} {fs : List Value} {C : String} {T : u_T} {N : Nat} (tyf : Nat → FieldType) (hty : ∀ k, k < N → parseFieldDescriptor (T k).2.2.1 = some (tyf k)) (hc : vwCl[ci]? = some (C, T, N)) (hin : ∀ w ∈ u_ws C T N, w ∈ WS) (hcl : Cond.classLink y.2.2.1 idx C ∈ WS) (hinst : Cond.instantiable C N ∈ WS) (hini : Cond.initialized C ∈ WS) (hfs : ∀ j, j < N → defaultValue (tyf j) = vp_V fs j) (h1 : ck + 1 ≤ y.2.2.2.1.cells) (h2 : sk + N ≤ y.2.2.2.1.slots) (hd : decode y.1 pc = .ok (.new idx, 3))
    (cs' : Nat → va_E) (hset : ∀ o', o' < n + 1 → cs' o' = if o' = n then .inr (ci, fs) else cs o') (kk : XJ G y E Z (pc + 3) l (.ref (gB G + n) :: stk) (n + 1) cs' (ck + 1) (sk + N)) : XJ G y E Z pc l stk n cs ck sk := by
  intro p e s m args below meth c H locs ls F e1 S P L
  have hts := F.2.2.2.2.1
  have hK := F.2.2.2.2.2.2.2.2.1.1
  have hKn := hK.1 ci _ hc
  refine W.newcK F.1 F.2.1 F.2.2.2.1 (hts _ hcl) (hts _ hinst) (hts _ hini) rfl hd h1 h2 hKn.2.1 rfl fun H1 kC hkC u z oq => ?_
  rw [P.1]
  exact kk p e s m args below meth c H1 locs ls F e1 (s_push S z oq) (rp_push (e' := .inr (ci, fs)) P z oq ⟨_, hc, (u_born tyf hts hin hKn hkC u hty).to hfs⟩ hset) L
theorem ra_of {s : State} {cA cB : ClassId} {ty : FieldType} (h : s.vm.findClass ("[" ++ ty.toString) = some cA) (h2 : va_RA s cB ty) : cA = cB := by
  cases ty <;> first | exact Option.some.inj (h.symm.trans h2) | (obtain ⟨_, _, _, _, _, h4⟩ := h2; exact Option.some.inj (h.symm.trans h4))
theorem x_newI {i : Int32} {N : Nat} (hi : ¬ i < 0) (hN : i.toNatClampNeg = N) (hb : N * 4 ≤ 536870912) (h1 : ck + 1 ≤ y.2.2.2.1.cells) (h2 : sk + N ≤ y.2.2.2.1.slots) (hd : decode y.1 pc = .ok (.newarray .int, 2))
    (cs' : Nat → va_E) (hset : ∀ o', o' < n + 1 → cs' o' = if o' = n then .inl (gI G, N, .inl (fun _ => 0)) else cs o') (kk : XJ G y E Z (pc + 2) l (.ref (gB G + n) :: stk) (n + 1) cs' (ck + 1) (sk + N)) : XJ G y E Z pc l (.int i :: stk) n cs ck sk := by
  intro p e s m args below meth c H locs ls F e1 S P L
  have hts := F.2.2.2.2.1
  have hK := F.2.2.2.2.2.2.2.2.1.1
  refine va_newaK (atype := .int) F.1 F.2.1 (hts _ mA_int) rfl hd rfl hi hN hb h1 h2 rfl fun H1 cA u z oq hAr hNm => ?_
  have hcA : cA = gI G := ra_of (ty := .int) hNm (hK.2 0 _ rfl).2
  subst hcA
  rw [P.1]
  exact kk p e s m args below meth c H1 locs ls F e1 (s_push S z oq) (rp_push P z oq (by show H1[H.size]? = some (vp_cell _ _); exact u) hset) L
theorem x_newC {i : Int32} {N : Nat} (hi : ¬ i < 0) (hN : i.toNatClampNeg = N) (hb : N * 2 ≤ 536870912) (h1 : ck + 1 ≤ y.2.2.2.1.cells) (h2 : sk + N ≤ y.2.2.2.1.slots) (hd : decode y.1 pc = .ok (.newarray .char, 2))
    (cs' : Nat → va_E) (hset : ∀ o', o' < n + 1 → cs' o' = if o' = n then .inl (gC G, N, .inl (fun _ => 0)) else cs o') (kk : XJ G y E Z (pc + 2) l (.ref (gB G + n) :: stk) (n + 1) cs' (ck + 1) (sk + N)) : XJ G y E Z pc l (.int i :: stk) n cs ck sk := by
  intro p e s m args below meth c H locs ls F e1 S P L
  have hts := F.2.2.2.2.1
  have hK := F.2.2.2.2.2.2.2.2.1.1
  refine va_newaK (atype := .char) F.1 F.2.1 (hts _ mA_char) rfl hd rfl hi hN hb h1 h2 rfl fun H1 cA u z oq hAr hNm => ?_
  have hcA : cA = gC G := ra_of (ty := .char) hNm (hK.2 1 _ rfl).2
  subst hcA
  rw [P.1]
  exact kk p e s m args below meth c H1 locs ls F e1 (s_push S z oq) (rp_push P z oq (by show H1[H.size]? = some (vp_cell _ _); exact u) hset) L
theorem x_anew {idx : Nat} {i : Int32} {N : Nat} {C : String} {cT : ClassId} (hao : ∀ s, Kx G s → va_AO C s ∧ va_RA s cT (.object C)) (hcl : Cond.classLink y.2.2.1 idx C ∈ WS) (hi : ¬ i < 0) (hN : i.toNatClampNeg = N) (hb : N * 4 ≤ 536870912) (h1 : ck + 1 ≤ y.2.2.2.1.cells) (h2 : sk + N ≤ y.2.2.2.1.slots) (hd : decode y.1 pc = .ok (.anewarray idx, 3))
    (cs' : Nat → va_E) (hset : ∀ o', o' < n + 1 → cs' o' = if o' = n then .inl (cT, N, .inr (.inr (.inr (.inr (fun _ => none))))) else cs o') (kk : XJ G y E Z (pc + 3) l (.ref (gB G + n) :: stk) (n + 1) cs' (ck + 1) (sk + N)) : XJ G y E Z pc l (.int i :: stk) n cs ck sk := by
  intro p e s m args below meth c H locs ls F e1 S P L
  have hts := F.2.2.2.2.1
  have hKx := F.2.2.2.2.2.2.2.2.1
  subst hN
  refine W.anew F.1 F.2.1 F.2.2.2.1 (hts _ hcl) (va_AO.use (hao s hKx).1) rfl hd rfl hi hb h1 h2 fun cA kA comp f1 f2 f3 f4 => ?_
  have hcA : cA = cT := ra_of (ty := .object C) f1 (hao s hKx).2
  subst hcA
  generalize hH1 : H.push ({ cls := cA, slots := Array.replicate i.toNatClampNeg .null, vm := .none } : Cell) = H1
  have z1 : H1.size = H.size + 1 := by rw [← hH1, Array.size_push]
  have u1 : H1[H.size]? = some (arrV cA i.toNatClampNeg (fun _ => .null)) := by rw [← hH1, Array.getElem?_push_size, ← arrV_new]
  have o1 : ∀ q : Nat, q < H.size → H1[q]? = H[q]? := fun q hq => by rw [← hH1, Array.getElem?_push, if_neg (Nat.ne_of_lt hq)]
  rw [P.1]
  exact kk p e s m args below meth c H1 locs ls F e1 (s_push S z1 o1) (rp_push P z1 o1 (by show H1[H.size]? = some (vp_cell _ _); rw [vp_cell_q]; exact u1) hset) L
theorem x_aast {o N ov ci : Nat} {f : Nat → Option Nat} {i : Int32} {cT : ClassId} {C : String} {T : u_T} {M : Nat} {vs : List Value} (hao : ∀ s, Kx G s → va_RA s cT (.object C)) (hcell : cs o = .inl (cT, N, .inr (.inr (.inr (.inr f))))) (ho : o < n) (hcv : cs ov = .inr (ci, vs)) (hov : ov < n) (hc : vwCl[ci]? = some (C, T, M)) (hi : vp_in i N) (hd : decode y.1 pc = .ok (.aastore, 1)) (cs' : Nat → va_E) (hset : ∀ o', o' < n → cs' o' = if o' = o then .inl (cT, N, .inr (.inr (.inr (.inr (va_up f i.toNatClampNeg (some (gB G + ov))))))) else cs o') (kk : XJ G y E Z (pc + 1) l stk n cs' ck sk) : XJ G y E Z pc l (.ref (gB G + ov) :: .int i :: .ref (gB G + o) :: stk) n cs ck sk := by
  intro p e s m args below meth c H locs ls F e1 S P L
  have hP := rp_one P ho hcell
  have hKx := F.2.2.2.2.2.2.2.2.1
  have hK := hKx.1
  have hlt : i.toNatClampNeg < N := Nat.not_le.mp fun q => hi (Or.inr q)
  have h0 : ¬ i < 0 := fun q => hi (Or.inl q)
  obtain ⟨r', hr', cellV, g1, g2, g3, -⟩ := rp_one P hov hcv 0 _ rfl
  have hcls := (hK.1 ci _ hc).2
  obtain ⟨kA, comp, k1, k2, k3, -⟩ := hao s hKx
  have hcomp : comp = (gD G).1 ci := Option.some.inj (k3.symm.trans hcls.1)
  subst hcomp
  obtain ⟨kC, hkC, -⟩ := hcls.2
  refine W.aast F.1 F.2.1 (hP 0 _ rfl) (fun q h => by cases h) (fun h => by cases h) k1 k2 rfl hkC ⟨h0, by show _ < (arrV _ _ _).slots.size; rw [arrV_size]; exact hlt⟩ g1 (fun q h => by rw [g3] at h; cases h) (by rw [g2]; exact hkC) (by rw [g2]; exact va_assign hcls) rfl rfl hd fun H1 u z oq => ?_
  refine kk p e s m args below meth c H1 _ ls F e1 (S.put z oq (Nat.le_add_right _ _)) (rp_set P z oq ?_ hset) L
  show H1[gB G + o]? = some (vp_cell _ _)
  rw [u]
  rw [vp_cell_q, vp_cell_q, arrV_store]
  congr 2
  funext q
  by_cases hq : q = i.toNatClampNeg
  · subst hq
    simp [updV, va_up, va_rf]
  · simp [updV, va_up, hq]
theorem x_gets1 (hown : y.2.2.1 = RX2) (hd : decode y.1 pc = .ok (.getstatic 79, 3)) (kk : XJ G y E Z (pc + 3) l (.ref (g1 G) :: stk) n cs ck sk) : XJ G y E Z pc l stk n cs ck sk :=
  fun p e s m args below meth c H locs ls F e1 S P L => va_gets F.1 F.2.1 F.2.2.2.2.2.2.2.2.2.1.1 S F.2.2.2.1 (by rw [hown]; exact F.2.2.2.2.1 _ mF_X2_79) (fun _ h => h) hd (kk p e s m args below meth c H locs ls F e1 S P L)
theorem x_gets2 (hown : y.2.2.1 = RX2) (hd : decode y.1 pc = .ok (.getstatic 82, 3)) (kk : XJ G y E Z (pc + 3) l (.ref (g2 G) :: stk) n cs ck sk) : XJ G y E Z pc l stk n cs ck sk :=
  fun p e s m args below meth c H locs ls F e1 S P L => va_gets F.1 F.2.1 F.2.2.2.2.2.2.2.2.2.1.2.2.1 S F.2.2.2.1 (by rw [hown]; exact F.2.2.2.2.1 _ mF_X2_82) (fun _ h => h) hd (kk p e s m args below meth c H locs ls F e1 S P L)
theorem tab_ld {s : State} {H : Heap} {locs : List Loc} {t N : Nat} {f : Nat → Int32} (hT : va_T .int t N (fun k => .int (f k)) (gA G) s s.heap) (S : va_S (gA G) s.heap H locs) {p : Program} {e : Env} {R : Room} {m : MethodId} {args : Array Value} {below : List Frame} {meth : Method} {c : Code} {Q : State → Prop} {cc : ByteArray} (hexec : p.tables.exec = Jvm.exec) (hb : c.code = cc) {i : Int32} (hi : vp_in i N) {pc : Nat} {ls : Array Slot} {rest : List Value} (hd : decode cc pc = .ok (.iaload, 1))
    (kk : W p G.1 e R s m args below meth c H locs ck sk Q (F0 m (pc + 1) ls (.int (f i.toNatClampNeg) :: rest))) : W p G.1 e R s m args below meth c H locs ck sk Q (F0 m pc ls (.int i :: .ref t :: rest)) := by
  obtain ⟨cell, h1, h2, h3, h4, h5, h6, h7⟩ := hT
  have hlt : i.toNatClampNeg < N := Nat.not_le.mp fun q => hi (Or.inr q)
  have hH : H[t]? = some cell := by rw [S.2.1 t (Array.getElem?_eq_some_iff.mp h1).1 h7]; exact h1
  exact W.iald (v := .int (f i.toNatClampNeg)) hexec hb hH h2 h3 (fun q => q.elim (fun q => hi (Or.inl q)) (fun q => absurd (Nat.le_trans h4 q) (by omega))) (h6 _ hlt) rfl rfl hd kk
theorem x_tab1 {i : Int32} (hi : vp_in i 4) (hd : decode y.1 pc = .ok (.iaload, 1)) (kk : XJ G y E Z (pc + 1) l (.int (leastF i.toNatClampNeg) :: stk) n cs ck sk) : XJ G y E Z pc l (.int i :: .ref (g1 G) :: stk) n cs ck sk :=
  fun p e s m args below meth c H locs ls F e1 S P L => tab_ld F.2.2.2.2.2.2.2.2.2.1.2.1 S F.1 F.2.1 hi hd (kk p e s m args below meth c H locs ls F e1 S P L)
theorem x_tab2 {i : Int32} (hi : vp_in i 4) (hd : decode y.1 pc = .ok (.iaload, 1)) (kk : XJ G y E Z (pc + 1) l (.int (greatF i.toNatClampNeg) :: stk) n cs ck sk) : XJ G y E Z pc l (.int i :: .ref (g2 G) :: stk) n cs ck sk :=
  fun p e s m args below meth c H locs ls F e1 S P L => tab_ld F.2.2.2.2.2.2.2.2.2.1.2.2.2.1 S F.1 F.2.1 hi hd (kk p e s m args below meth c H locs ls F e1 S P L)
theorem x_sld {i : Int32} (k : Nat) (hi : i = nI k) (hk : k < gL G) (hL : gL G < 2 ^ 31) (hd : decode y.1 pc = .ok (.iaload, 1)) (kk : XJ G y E Z (pc + 1) l (.int (gs G k) :: stk) n cs ck sk) : XJ G y E Z pc l (.int i :: .ref (gb G) :: stk) n cs ck sk :=
  fun p e s m args below meth c H locs ls F e1 S P L => tab_ld F.2.2.2.2.2.2.2.2.2.1.2.2.2.2 S F.1 F.2.1 (i := i) (by rw [hi]; exact vp_in_nI hk hL) hd (by rw [hi, nI_clamp (Nat.lt_trans hk hL)]; exact kk p e s m args below meth c H locs ls F e1 S P L)
theorem x_slen (hd : decode y.1 pc = .ok (.arraylength, 1)) (kk : XJ G y E Z (pc + 1) l (.int (nI (gL G)) :: stk) n cs ck sk) : XJ G y E Z pc l (.ref (gb G) :: stk) n cs ck sk :=
  fun p e s m args below meth c H locs ls F e1 S P L => va_tlen F.1 F.2.1 F.2.2.2.2.2.2.2.2.2.1.2.2.2.2 S rfl hd (kk p e s m args below meth c H locs ls F e1 S P L)
theorem x_ldc {idx : Nat} (v : Int32) (hconst : Cond.constant y.2.2.1 idx v ∈ WS) (hd : decode y.1 pc = .ok (.ldc idx, 2)) (kk : XJ G y E Z (pc + 2) l (.int v :: stk) n cs ck sk) : XJ G y E Z pc l stk n cs ck sk :=
  fun p e s m args below meth c H locs ls F e1 S P L => lv_ldc F.1 F.2.1 F.2.2.2.1 (F.2.2.2.2.1 _ hconst) hd (kk p e s m args below meth c H locs ls F e1 S P L)
theorem x_ishr {a b : Int32} (hd : decode y.1 pc = .ok (.ishr, 1)) (kk : XJ G y E Z (pc + 1) l (.int (a >>> (b &&& 31)) :: stk) n cs ck sk) : XJ G y E Z pc l (.int b :: .int a :: stk) n cs ck sk :=
  fun p e s m args below meth c H locs ls F e1 S P L => lv_ishr F.1 F.2.1 hd (kk p e s m args below meth c H locs ls F e1 S P L)
theorem x_max {idx : Nat} {a b : Int32} (hlink : Cond.methodLink y.2.2.1 idx Lib.Math.max.name ∈ WS) (hf : 1 ≤ y.2.2.2.1.frames) (hlo : (stk.map fun v => v.category).sum + 13 ≤ y.2.2.2.1.locals) (h1 : ck ≤ y.2.2.2.1.cells) (h2 : sk ≤ y.2.2.2.1.slots) (hd : decode y.1 pc = .ok (.invokestatic idx, 3)) (kk : XJ G y E Z (pc + 3) l (.int (if a < b then b else a) :: stk) n cs ck sk) : XJ G y E Z pc l (.int b :: .int a :: stk) n cs ck sk :=
  fun p e s m args below meth c H locs ls F e1 S P L => va_mmax F.1 F.2.1 (F.2.2.1.trans L.1.symm) F.2.2.2.1 (F.2.2.2.2.1 _ hlink) (F.2.2.2.2.1 _ mT_max) (F.2.2.2.2.1 _ mI_Math) (F.2.2.2.2.1 _ mK_max) hf hlo h1 h2 hd (kk p e s m args below meth c H locs ls F e1 S P L)
theorem x_min {idx : Nat} {a b : Int32} (hlink : Cond.methodLink y.2.2.1 idx Lib.Math.min.name ∈ WS) (hf : 1 ≤ y.2.2.2.1.frames) (hlo : (stk.map fun v => v.category).sum + 13 ≤ y.2.2.2.1.locals) (h1 : ck ≤ y.2.2.2.1.cells) (h2 : sk ≤ y.2.2.2.1.slots) (hd : decode y.1 pc = .ok (.invokestatic idx, 3)) (kk : XJ G y E Z (pc + 3) l (.int (if b < a then b else a) :: stk) n cs ck sk) : XJ G y E Z pc l (.int b :: .int a :: stk) n cs ck sk :=
  fun p e s m args below meth c H locs ls F e1 S P L => va_mmin F.1 F.2.1 (F.2.2.1.trans L.1.symm) F.2.2.2.1 (F.2.2.2.2.1 _ hlink) (F.2.2.2.2.1 _ mT_min) (F.2.2.2.2.1 _ mI_Math) (F.2.2.2.2.1 _ mK_min) hf hlo h1 h2 hd (kk p e s m args below meth c H locs ls F e1 S P L)
theorem x_abs {idx : Nat} {a : Int32} (hlink : Cond.methodLink y.2.2.1 idx Lib.Math.abs.name ∈ WS) (hf : 1 ≤ y.2.2.2.1.frames) (hlo : (stk.map fun v => v.category).sum + 13 ≤ y.2.2.2.1.locals) (h1 : ck ≤ y.2.2.2.1.cells) (h2 : sk ≤ y.2.2.2.1.slots) (hd : decode y.1 pc = .ok (.invokestatic idx, 3)) (kk : XJ G y E Z (pc + 3) l (.int (if 0 ≤ a then a else 0 - a) :: stk) n cs ck sk) : XJ G y E Z pc l (.int a :: stk) n cs ck sk :=
  fun p e s m args below meth c H locs ls F e1 S P L => va_mabs F.1 F.2.1 (F.2.2.1.trans L.1.symm) F.2.2.2.1 (F.2.2.2.2.1 _ hlink) (F.2.2.2.2.1 _ mT_abs) (F.2.2.2.2.1 _ mI_Math) (F.2.2.2.2.1 _ mK_abs) hf hlo h1 h2 hd (kk p e s m args below meth c H locs ls F e1 S P L)
theorem x_obj {idx a : Nat} (hlink : Cond.methodLink y.2.2.1 idx objectInit ∈ WS) (hf : 1 ≤ y.2.2.2.1.frames) (hlo : (stk.map fun v => v.category).sum + 12 ≤ y.2.2.2.1.locals) (hd : decode y.1 pc = .ok (.invokespecial idx, 3)) (kk : XJ G y E Z (pc + 3) l stk n cs ck sk) : XJ G y E Z pc l (.ref a :: stk) n cs ck sk :=
  fun p e s m args below meth c H locs ls F e1 S P L => W.objInit F.1 F.2.1 F.2.2.2.1 (F.2.2.2.2.1 _ hlink) (F.2.2.2.2.1 _ mM_objInit) (F.2.2.2.2.1 _ mK_objInit) rfl (L.1.trans F.2.2.1.symm) rfl hd hf (by show 2 * 0 + _ + 12 ≤ _; omega) (kk p e s m args below meth c H locs ls F e1 S P L)
/-! calls -/
def MqV (ynm : MethodName) (yc : YX) (na : Nat) : Prop := Cond.instanceMethod ynm ∈ WS ∧ Cond.selects ynm.cls ynm ynm ∈ WS ∧ Cond.initialized ynm.cls ∈ WS ∧ Cond.code ynm yc.1 yc.2.1 yc.2.2.2.2.1 ∈ WS ∧ ynm.cls ≠ "java/lang/invoke/MethodHandle" ∧ ynm.cls ≠ "java/lang/invoke/VarHandle" ∧ (parseMethodDescriptor ynm.desc).map (fun d => d.parameters.length) = some na
def MqS (ynm : MethodName) (yc : YX) (na : Nat) : Prop := Cond.static ynm ∈ WS ∧ Cond.initialized ynm.cls ∈ WS ∧ Cond.code ynm yc.1 yc.2.1 yc.2.2.2.2.1 ∈ WS ∧ ynm.cls ≠ "java/lang/invoke/MethodHandle" ∧ ynm.cls ≠ "java/lang/invoke/VarHandle" ∧ (parseMethodDescriptor ynm.desc).map (fun d => d.parameters.length) = some na
def MqI (ynm : MethodName) (yc : YX) (na : Nat) : Prop := Cond.instanceMethod ynm ∈ WS ∧ ynm.name = "<init>" ∧ Cond.initialized ynm.cls ∈ WS ∧ Cond.code ynm yc.1 yc.2.1 none ∈ WS ∧ ynm.cls ≠ "java/lang/invoke/MethodHandle" ∧ ynm.cls ≠ "java/lang/invoke/VarHandle" ∧ (parseMethodDescriptor ynm.desc).map (fun d => d.parameters.length) = some na
theorem good_cons {ynm : MethodName} {yc : YX} (h : Cond.code ynm yc.1 yc.2.1 yc.2.2.2.2.1 ∈ WS) : GoodIn WS (Cond.code ynm yc.1 yc.2.1 yc.2.2.2.2.1 :: WS) := fun w hw => by
  rcases List.mem_cons.mp hw with h1 | h1
  · rw [h1]; exact WS_good _ h
  · exact WS_good _ h1
/-- what follows a call -/
theorem x_after {p : Program} {e : Env} {s : State} {m : MethodId} {args : Array Value} {below : List Frame} {meth : Method} {c : Code} {H : Heap} {locs : List Loc} {ls : Array Slot} {mc ms : Nat} {st0 rest : List Value} {a : Array Value} {r : Option Value → Nat → (Nat → va_E) → Prop} (F : Fx G y p s m args meth c) (e1 : E s) (S : va_S (gA G) s.heap H locs) (L : LH ls y.2.1 l)
    (hr : va_Run p G.1 e y.2.2.2.1 s m args below meth c H locs ck sk mc ms (F0 m pc ls st0) rest (Qx G r a) (gA G))
    (kk : ∀ v n' cs', r v n' cs' → XJ G y E Z (pc + 3) l (v.toList ++ rest) n' cs' (ck + mc) (sk + ms)) : W p G.1 e y.2.2.2.1 s m args below meth c H locs ck sk (Z below args s) (F0 m pc ls st0) := by
  intro T hT X
  obtain ⟨v, st₀, t, T', Lc, h0, X', hL, u1, u2, ⟨⟨v', n', cs', hv, hp, hW⟩, hz, hk⟩, st⟩ := hr T hT X
  cases hv
  rw [h0] at hz hk
  have S' : va_S (gA G) s.heap T'.heap (locs ++ Lc) := ⟨Nat.le_trans S.1 (by rw [u1]; exact hz), fun q h1 h2 => by
      rw [u1, hk q (Nat.lt_of_lt_of_le h1 S.1) h2]; exact S.2.1 q h1 h2, fun q hq => by
      rcases List.mem_append.mp hq with h | h
      · exact S.2.2 q h
      · exact hL q h⟩
  obtain ⟨t2, a1, b1⟩ := kk v n' cs' hp p e s m args below meth c T'.heap (locs ++ Lc) ls F e1 S' (by rw [u1]; exact hW.1) L T' rfl X'
  exact ⟨t2, st t2 a1, b1⟩
theorem x_callV {ynm : MethodName} {yc : YX} {idx o ci mc ms : Nat} {fs As rest : List Value} {T : u_T} {N : Nat} {r : Option Value → Nat → (Nat → va_E) → Prop} (hM : Ct G ynm yc mc ms (.ref (gB G + o) :: As) n cs r) (hq : MqV ynm yc As.length) (hlink : Cond.methodLink y.2.2.1 idx ynm ∈ WS) (hd : decode y.1 pc = .ok (.invokevirtual idx, 3)) (hstk : stk = As.reverse ++ .ref (gB G + o) :: rest) (hcell : cs o = .inr (ci, fs)) (ho : o < n) (hc : vwCl[ci]? = some (ynm.cls, T, N)) (hrc : yc.2.2.2.1.cells = mc) (hrs : yc.2.2.2.1.slots = ms) (hR : yc.2.2.2.1.frames + 1 ≤ y.2.2.2.1.frames ∧ 8 + (yc.2.1 + 11) + yc.2.2.2.1.locals ≤ y.2.2.2.1.locals) (hW : (rest.map fun v => v.category).sum ≤ 8) (h1 : ck + mc ≤ y.2.2.2.1.cells) (h2 : sk + ms ≤ y.2.2.2.1.slots)
    (kk : ∀ v n' cs', r v n' cs' → XJ G y E Z (pc + 3) l (v.toList ++ rest) n' cs' (ck + mc) (sk + ms)) : XJ G y E Z pc l stk n cs ck sk := by
  intro p e s m args below meth c H locs ls F e1 S P L
  obtain ⟨q1, q2, q3, q4, q5, q6, q7⟩ := hq
  have hts := F.2.2.2.2.1
  have hK := F.2.2.2.2.2.2.2.2.1
  refine x_after F e1 S L (va_runV (C := ynm.cls) (As := As) (rest := rest) (b := gB G + o) ⟨F.1, F.2.1, F.2.2.1, F.2.2.2.1, hts⟩ hM ⟨callB_of As.length hts (good_cons q4) rfl hrc hrs (hts _ q3) (hts _ hlink) ⟨q5, q6, q7⟩ hR, hts _ q1, hts _ q2⟩ ⟨Wd.blind _ _ _ _, va_recv hK.1 (rp_one P ho hcell) (ci := ci) (q0 := 0) hc rfl, fun U hU hWm => ⟨rfl, Wd.warm hK F.2.2.2.2.2.2.2.2.2.1 hWm hU S P⟩⟩ rfl rfl L.1 hstk (lv_room hW) hd ⟨h1, h2⟩) kk
theorem x_callS {ynm : MethodName} {yc : YX} {idx mc ms : Nat} {As rest : List Value} {r : Option Value → Nat → (Nat → va_E) → Prop} (hM : Ct G ynm yc mc ms As n cs r) (hq : MqS ynm yc As.length) (hlink : Cond.methodLink y.2.2.1 idx ynm ∈ WS) (hd : decode y.1 pc = .ok (.invokestatic idx, 3)) (hstk : stk = As.reverse ++ rest) (hrc : yc.2.2.2.1.cells = mc) (hrs : yc.2.2.2.1.slots = ms) (hR : yc.2.2.2.1.frames + 1 ≤ y.2.2.2.1.frames ∧ 8 + (yc.2.1 + 11) + yc.2.2.2.1.locals ≤ y.2.2.2.1.locals) (hW : (rest.map fun v => v.category).sum ≤ 8) (h1 : ck + mc ≤ y.2.2.2.1.cells) (h2 : sk + ms ≤ y.2.2.2.1.slots)
    (kk : ∀ v n' cs', r v n' cs' → XJ G y E Z (pc + 3) l (v.toList ++ rest) n' cs' (ck + mc) (sk + ms)) : XJ G y E Z pc l stk n cs ck sk := by
  intro p e s m args below meth c H locs ls F e1 S P L
  obtain ⟨q1, q3, q4, q5, q6, q7⟩ := hq
  have hts := F.2.2.2.2.1
  have hK := F.2.2.2.2.2.2.2.2.1
  refine x_after F e1 S L (va_runS (As := As) (rest := rest) ⟨F.1, F.2.1, F.2.2.1, F.2.2.2.1, hts⟩ hM ⟨callB_of As.length hts (good_cons q4) rfl hrc hrs (hts _ q3) (hts _ hlink) ⟨q5, q6, q7⟩ hR, hts _ q1⟩ ⟨Wd.blind _ _ _ _, fun U hU hWm => ⟨rfl, Wd.warm hK F.2.2.2.2.2.2.2.2.2.1 hWm hU S P⟩⟩ rfl rfl L.1 hstk (lv_room hW) hd ⟨h1, h2⟩) kk
theorem x_callN {ynm : MethodName} {yc : YX} {idx mc ms : Nat} {As rest : List Value} {host : String} {r : Option Value → Nat → (Nat → va_E) → Prop} (hM : Ct G ynm yc mc ms As n cs r) (hq : MqS ynm yc As.length) (hlink : ∀ s, Kx G s → va_Nw (.methodLinkNest y.2.2.1 idx ynm host) s) (hd : decode y.1 pc = .ok (.invokestatic idx, 3)) (hstk : stk = As.reverse ++ rest) (hrc : yc.2.2.2.1.cells = mc) (hrs : yc.2.2.2.1.slots = ms) (hR : yc.2.2.2.1.frames + 1 ≤ y.2.2.2.1.frames ∧ 8 + (yc.2.1 + 11) + yc.2.2.2.1.locals ≤ y.2.2.2.1.locals) (hW : (rest.map fun v => v.category).sum ≤ 8) (h1 : ck + mc ≤ y.2.2.2.1.cells) (h2 : sk + ms ≤ y.2.2.2.1.slots)
    (kk : ∀ v n' cs', r v n' cs' → XJ G y E Z (pc + 3) l (v.toList ++ rest) n' cs' (ck + mc) (sk + ms)) : XJ G y E Z pc l stk n cs ck sk := by
  intro p e s m args below meth c H locs ls F e1 S P L
  obtain ⟨q1, q3, q4, q5, q6, q7⟩ := hq
  have hts := F.2.2.2.2.1
  have hK := F.2.2.2.2.2.2.2.2.1
  refine x_after F e1 S L (va_runSN (As := As) (rest := rest) ⟨F.1, F.2.1, F.2.2.1, F.2.2.2.1, hts⟩ hM ⟨va_cnB As.length hts (good_cons q4) rfl hrc hrs (hlink s hK) (hts _ q3) ⟨q5, q6, q7⟩ hR, hts _ q1, trivial⟩ ⟨Wd.blind _ _ _ _, fun U hU hWm => ⟨rfl, Wd.warm hK F.2.2.2.2.2.2.2.2.2.1 hWm hU S P⟩⟩ rfl rfl L.1 hstk (lv_room hW) hd ⟨h1, h2⟩) kk
theorem x_callI {ynm : MethodName} {yc : YX} {idx b mc ms : Nat} {As rest : List Value} {r : Option Value → Nat → (Nat → va_E) → Prop} (hM : Ct G ynm yc mc ms (.ref b :: As) n cs r) (hq : MqI ynm yc As.length) (hret : yc.2.2.2.2.1 = none) (hlink : Cond.methodLink y.2.2.1 idx ynm ∈ WS) (hd : decode y.1 pc = .ok (.invokespecial idx, 3)) (hstk : stk = As.reverse ++ .ref b :: rest) (hrc : yc.2.2.2.1.cells = mc) (hrs : yc.2.2.2.1.slots = ms) (hR : yc.2.2.2.1.frames + 1 ≤ y.2.2.2.1.frames ∧ 8 + (yc.2.1 + 11) + yc.2.2.2.1.locals ≤ y.2.2.2.1.locals) (hW : (rest.map fun v => v.category).sum ≤ 8) (h1 : ck + mc ≤ y.2.2.2.1.cells) (h2 : sk + ms ≤ y.2.2.2.1.slots)
    (kk : ∀ v n' cs', r v n' cs' → XJ G y E Z (pc + 3) l (v.toList ++ rest) n' cs' (ck + mc) (sk + ms)) : XJ G y E Z pc l stk n cs ck sk := by
  intro p e s m args below meth c H locs ls F e1 S P L
  obtain ⟨q1, q2, q3, q4, q5, q6, q7⟩ := hq
  have hts := F.2.2.2.2.1
  have hK := F.2.2.2.2.2.2.2.2.1
  have q4' : Cond.code ynm yc.1 yc.2.1 yc.2.2.2.2.1 ∈ WS := by rw [hret]; exact q4
  have hM' : Met G.1 ynm (Cond.code ynm yc.1 yc.2.1 none :: WS) yc.2.2.2.1 (va_Pc (.ref b :: As) (Wd G n cs)) (Qx G r) mc ms (gA G) := by rw [← hret]; exact hM
  have hG' : GoodIn WS (Cond.code ynm yc.1 yc.2.1 none :: WS) := by rw [← hret]; exact good_cons q4'
  refine x_after F e1 S L (va_runI (As := As) (rest := rest) (b := b) ⟨F.1, F.2.1, F.2.2.1, F.2.2.2.1, hts⟩ hM' ⟨callB_of As.length hts hG' rfl hrc hrs (hts _ q3) (hts _ hlink) ⟨q5, q6, q7⟩ hR, q2, hts _ q1⟩ ⟨Wd.blind _ _ _ _, fun U hU hWm => ⟨rfl, Wd.warm hK F.2.2.2.2.2.2.2.2.2.1 hWm hU S P⟩⟩ rfl rfl L.1 hstk (lv_room hW) hd ⟨h1, h2⟩) kk
end HROWS
section RETS
variable {G : GX} {y : YX} {E : State → Prop} {pc : Nat} {l : List (Nat × Value)} {n : Nat} {cs : Nat → va_E} {ck sk : Nat} {r : Option Value → Nat → (Nat → va_E) → Prop}
theorem x_iret {v : Int32} (hr : y.2.2.2.2.1 = some .int) (hd : decode y.1 pc = .ok (.ireturn, 1)) (h : r (some (.int v)) n cs) : XJ G y E (Zx G r ck sk) pc l [.int v] n cs ck sk :=
  fun p e s m args below meth c H locs ls F e1 S P L => W.iret F.1 F.2.1 (F.2.2.2.2.2.2.1.trans hr) (fun t ht hW => ⟨⟨_, n, cs, rfl, h, Wd.warm F.2.2.2.2.2.2.2.2.1 F.2.2.2.2.2.2.2.2.2.1 hW ht S P⟩, S.F ht⟩) S.2.2 hd F.2.2.2.2.2.1
theorem x_zret {v : Int32} (hr : y.2.2.2.2.1 = some .boolean) (hn : narrow .boolean (.int v) = .int v) (hd : decode y.1 pc = .ok (.ireturn, 1)) (h : r (some (.int v)) n cs) : XJ G y E (Zx G r ck sk) pc l [.int v] n cs ck sk :=
  fun p e s m args below meth c H locs ls F e1 S P L => W.zret F.1 F.2.1 (F.2.2.2.2.2.2.1.trans hr) hn (fun t ht hW => ⟨⟨_, n, cs, rfl, h, Wd.warm F.2.2.2.2.2.2.2.2.1 F.2.2.2.2.2.2.2.2.2.1 hW ht S P⟩, S.F ht⟩) S.2.2 hd F.2.2.2.2.2.1
theorem x_vret (hr : y.2.2.2.2.1 = none) (hd : decode y.1 pc = .ok (.return_, 1)) (h : r none n cs) : XJ G y E (Zx G r ck sk) pc l [] n cs ck sk :=
  fun p e s m args below meth c H locs ls F e1 S P L => W.vret F.1 F.2.1 (F.2.2.2.2.2.2.1.trans hr) (fun t ht hW => ⟨⟨_, n, cs, rfl, h, Wd.warm F.2.2.2.2.2.2.2.2.1 F.2.2.2.2.2.2.2.2.2.1 hW ht S P⟩, S.F ht⟩) S.2.2 hd F.2.2.2.2.2.1
end RETS
end
section
/-! the state of class and reference, as rows of numbers, and the heap that it is -/
abbrev Fs : Type := Nat → Int32
/-- a sheet: its ints (told, column, row, dirt, ticks, burningTicks, cuts), heats, settings, its shapes' ints, their edges -/
abbrev Sh : Type := Fs × Fs × Fs × (Nat → Fs) × (Nat → Fs)
/-- the class: its ints (states, hasSnapshot, stopNumber, stopError), history, the plan's ints (length, size, at), letters, kinds, firsts, seconds -/
abbrev Bc : Type := Fs × (Nat → Nat) × Fs × Fs × Fs × Fs × Fs
/-- the cells behind the object's -/
abbrev Md : Type := Nat → va_E
def sB (j : Nat) : Nat := if j < 4 then 1 + 30 * j else 2 + 30 * j
def arO (j : Nat) : Nat := sB j + 1
def htO (j : Nat) : Nat := sB j + 28
def stO (j : Nat) : Nat := sB j + 29
def shO (j i : Nat) : Nat := sB j + (2 + 2 * i)
def egO (j i : Nat) : Nat := sB j + (3 + 2 * i)
def updS (S : Nat → Sh) (j : Nat) (σ : Sh) : Nat → Sh := fun k => if k = j then σ else S k
def updF (f : Nat → Fs) (i : Nat) (g : Fs) : Nat → Fs := fun k => if k = i then g else f k
def updN (f : Nat → Nat) (i : Nat) (v : Nat) : Nat → Nat := fun k => if k = i then v else f k
theorem updS_same (S : Nat → Sh) (j : Nat) (σ : Sh) : updS S j σ j = σ := by simp [updS]
theorem updS_ne (S : Nat → Sh) {j k : Nat} (σ : Sh) (h : k ≠ j) : updS S j σ k = S k := by simp [updS, h]
theorem updS_upd (S : Nat → Sh) (j : Nat) (σ τ : Sh) : updS (updS S j σ) j τ = updS S j τ := by
  funext k
  by_cases h : k = j <;> simp [updS, h]
theorem updS_self (S : Nat → Sh) (j : Nat) : updS S j (S j) = S := by
  funext k
  by_cases h : k = j
  · subst h; simp [updS]
  · simp [updS, h]
theorem updF_same (f : Nat → Fs) (i : Nat) (g : Fs) : updF f i g i = g := by simp [updF]
theorem updF_ne (f : Nat → Fs) {i k : Nat} (g : Fs) (h : k ≠ i) : updF f i g k = f k := by simp [updF, h]
theorem updF_upd (f : Nat → Fs) (i : Nat) (g h : Fs) : updF (updF f i g) i h = updF f i h := by
  funext k
  by_cases e : k = i <;> simp [updF, e]
theorem updF_self (f : Nat → Fs) (i : Nat) : updF f i (f i) = f := by
  funext k
  by_cases h : k = i
  · subst h; simp [updF]
  · simp [updF, h]
theorem upd_same (f : Fs) (k : Nat) (x : Int32) : upd f k x k = x := by simp [upd]
theorem upd_ne (f : Fs) {k j : Nat} (x : Int32) (h : j ≠ k) : upd f k x j = f j := by simp [upd, h]
def shCell (G : GX) (j : Nat) (σ : Sh) (r : Nat) : va_E :=
  if r = 0 then .inr (2, [.ref (gB G + arO j), .ref (gB G + htO j), .ref (gB G + stO j), .int (σ.1 0), .int (σ.1 1), .int (σ.1 2), .int (σ.1 3), .int (σ.1 4), .int (σ.1 5), .int (σ.1 6)])
  else if r = 1 then .inl (gS G, 13, .inr (.inr (.inr (.inr (fun i => some (gB G + shO j i))))))
  else if r = 28 then .inl (gI G, 12, .inl σ.2.1)
  else if r = 29 then .inl (gI G, 4, .inl σ.2.2.1)
  else if r % 2 = 0 then .inr (1, [.int (σ.2.2.2.1 (r / 2 - 1) 0), .int (σ.2.2.2.1 (r / 2 - 1) 1), .int (σ.2.2.2.1 (r / 2 - 1) 2), .int (σ.2.2.2.1 (r / 2 - 1) 3), .int (σ.2.2.2.1 (r / 2 - 1) 4), .int (σ.2.2.2.1 (r / 2 - 1) 5), .int (σ.2.2.2.1 (r / 2 - 1) 6), .int (σ.2.2.2.1 (r / 2 - 1) 7), .ref (gB G + egO j (r / 2 - 1))])
  else .inl (gI G, 12, .inl (σ.2.2.2.2 (r / 2 - 1)))
def bcCell (G : GX) (B : Bc) : va_E := .inr (3, [.ref (gB G + sB 0), .ref (gB G + sB 1), .ref (gB G + sB 2), .ref (gB G + sB 3), .ref (gB G + 121), .ref (gB G + 242), .int (B.1 0), .int (B.1 1), .int (B.1 2), .int (B.1 3)])
def plCell (G : GX) (B : Bc) : va_E := .inr (0, [.ref (gB G + 243), .ref (gB G + 244), .ref (gB G + 245), .ref (gB G + 246), .int (B.2.2.1 0), .int (B.2.2.1 1), .int (B.2.2.1 2)])
def cellOf (G : GX) (S : Nat → Sh) (B : Bc) (M : Md) (o : Nat) : va_E :=
  if o = 0 then bcCell G B
  else if o < 121 then shCell G ((o - 1) / 30) (S ((o - 1) / 30)) ((o - 1) % 30)
  else if o = 121 then .inl (gT G, 4, .inr (.inr (.inr (.inr (fun k => some (gB G + sB (B.2.1 k)))))))
  else if o < 242 then shCell G ((o - 2) / 30) (S ((o - 2) / 30)) ((o - 2) % 30)
  else if o = 242 then plCell G B
  else if o = 243 then .inl (gC G, 60, .inl B.2.2.2.1)
  else if o = 244 then .inl (gI G, 30, .inl B.2.2.2.2.1)
  else if o = 245 then .inl (gI G, 30, .inl B.2.2.2.2.2.1)
  else if o = 246 then .inl (gI G, 30, .inl B.2.2.2.2.2.2)
  else M o
section CELLS
variable {G : GX} {S : Nat → Sh} {B : Bc} {M : Md} {j i r : Nat} {σ : Sh}
theorem sB_lt (hj : j < 8) (hr : r < 30) : sB j + r < 242 := by unfold sB; split <;> omega
theorem cell_sh (hj : j < 8) (hr : r < 30) : cellOf G S B M (sB j + r) = shCell G j (S j) r := by
  unfold cellOf sB
  by_cases h : j < 4
  · rw [if_pos h, if_neg (by omega), if_pos (by omega)]
    have h1 : (1 + 30 * j + r - 1) / 30 = j := by omega
    have h2 : (1 + 30 * j + r - 1) % 30 = r := by omega
    rw [h1, h2]
  · rw [if_neg h, if_neg (by omega), if_neg (by omega), if_neg (by omega), if_pos (by omega)]
    have h1 : (2 + 30 * j + r - 2) / 30 = j := by omega
    have h2 : (2 + 30 * j + r - 2) % 30 = r := by omega
    rw [h1, h2]
theorem cell_sheet (hj : j < 8) : cellOf G (updS S j σ) B M (sB j) = .inr (2, [.ref (gB G + arO j), .ref (gB G + htO j), .ref (gB G + stO j), .int (σ.1 0), .int (σ.1 1), .int (σ.1 2), .int (σ.1 3), .int (σ.1 4), .int (σ.1 5), .int (σ.1 6)]) := by
  rw [show sB j = sB j + 0 from rfl, cell_sh hj (by omega), updS_same]; rfl
theorem cell_sheet' (hj : j < 8) : cellOf G S B M (sB j) = .inr (2, [.ref (gB G + arO j), .ref (gB G + htO j), .ref (gB G + stO j), .int ((S j).1 0), .int ((S j).1 1), .int ((S j).1 2), .int ((S j).1 3), .int ((S j).1 4), .int ((S j).1 5), .int ((S j).1 6)]) := by
  rw [show sB j = sB j + 0 from rfl, cell_sh hj (by omega)]; rfl
theorem cell_arr (hj : j < 8) : cellOf G S B M (arO j) = .inl (gS G, 13, .inr (.inr (.inr (.inr (fun i => some (gB G + shO j i)))))) := by
  unfold arO; rw [cell_sh hj (by omega)]; rfl
theorem cell_heats (hj : j < 8) : cellOf G (updS S j σ) B M (htO j) = .inl (gI G, 12, .inl σ.2.1) := by
  unfold htO; rw [cell_sh hj (by omega), updS_same]; rfl
theorem cell_sets (hj : j < 8) : cellOf G (updS S j σ) B M (stO j) = .inl (gI G, 4, .inl σ.2.2.1) := by
  unfold stO; rw [cell_sh hj (by omega), updS_same]; rfl
theorem shCell_shape (σ : Sh) (hi : i < 13) : shCell G j σ (2 + 2 * i) = .inr (1, [.int (σ.2.2.2.1 i 0), .int (σ.2.2.2.1 i 1), .int (σ.2.2.2.1 i 2), .int (σ.2.2.2.1 i 3), .int (σ.2.2.2.1 i 4), .int (σ.2.2.2.1 i 5), .int (σ.2.2.2.1 i 6), .int (σ.2.2.2.1 i 7), .ref (gB G + egO j i)]) := by
  unfold shCell
  rw [if_neg (by omega), if_neg (by omega), if_neg (by omega), if_neg (by omega), if_pos (by omega)]
  have h1 : (2 + 2 * i) / 2 - 1 = i := by omega
  rw [h1]
theorem shCell_edge (σ : Sh) (hi : i < 13) : shCell G j σ (3 + 2 * i) = .inl (gI G, 12, .inl (σ.2.2.2.2 i)) := by
  unfold shCell
  rw [if_neg (by omega), if_neg (by omega), if_neg (by omega), if_neg (by omega), if_neg (by omega)]
  have h1 : (3 + 2 * i) / 2 - 1 = i := by omega
  rw [h1]
theorem cell_shape (hj : j < 8) (hi : i < 13) : cellOf G (updS S j σ) B M (shO j i) = .inr (1, [.int (σ.2.2.2.1 i 0), .int (σ.2.2.2.1 i 1), .int (σ.2.2.2.1 i 2), .int (σ.2.2.2.1 i 3), .int (σ.2.2.2.1 i 4), .int (σ.2.2.2.1 i 5), .int (σ.2.2.2.1 i 6), .int (σ.2.2.2.1 i 7), .ref (gB G + egO j i)]) := by
  unfold shO; rw [cell_sh hj (by omega), updS_same, shCell_shape σ hi]
theorem cell_edge (hj : j < 8) (hi : i < 13) : cellOf G (updS S j σ) B M (egO j i) = .inl (gI G, 12, .inl (σ.2.2.2.2 i)) := by
  unfold egO; rw [cell_sh hj (by omega), updS_same, shCell_edge σ hi]
theorem cell_heats' (hj : j < 8) : cellOf G S B M (htO j) = .inl (gI G, 12, .inl (S j).2.1) := by
  unfold htO; rw [cell_sh hj (by omega)]; rfl
theorem cell_sets' (hj : j < 8) : cellOf G S B M (stO j) = .inl (gI G, 4, .inl (S j).2.2.1) := by
  unfold stO; rw [cell_sh hj (by omega)]; rfl
theorem cell_shape' (hj : j < 8) (hi : i < 13) : cellOf G S B M (shO j i) = .inr (1, [.int ((S j).2.2.2.1 i 0), .int ((S j).2.2.2.1 i 1), .int ((S j).2.2.2.1 i 2), .int ((S j).2.2.2.1 i 3), .int ((S j).2.2.2.1 i 4), .int ((S j).2.2.2.1 i 5), .int ((S j).2.2.2.1 i 6), .int ((S j).2.2.2.1 i 7), .ref (gB G + egO j i)]) := by
  unfold shO; rw [cell_sh hj (by omega), shCell_shape _ hi]
theorem cell_edge' (hj : j < 8) (hi : i < 13) : cellOf G S B M (egO j i) = .inl (gI G, 12, .inl ((S j).2.2.2.2 i)) := by
  unfold egO; rw [cell_sh hj (by omega), shCell_edge _ hi]
theorem cell_bc : cellOf G S B M 0 = .inr (3, [.ref (gB G + sB 0), .ref (gB G + sB 1), .ref (gB G + sB 2), .ref (gB G + sB 3), .ref (gB G + 121), .ref (gB G + 242), .int (B.1 0), .int (B.1 1), .int (B.1 2), .int (B.1 3)]) := rfl
theorem cell_hist : cellOf G S B M 121 = .inl (gT G, 4, .inr (.inr (.inr (.inr (fun k => some (gB G + sB (B.2.1 k))))))) := rfl
theorem cell_plan : cellOf G S B M 242 = .inr (0, [.ref (gB G + 243), .ref (gB G + 244), .ref (gB G + 245), .ref (gB G + 246), .int (B.2.2.1 0), .int (B.2.2.1 1), .int (B.2.2.1 2)]) := rfl
theorem cell_letters : cellOf G S B M 243 = .inl (gC G, 60, .inl B.2.2.2.1) := rfl
theorem cell_kinds : cellOf G S B M 244 = .inl (gI G, 30, .inl B.2.2.2.2.1) := rfl
theorem cell_firsts : cellOf G S B M 245 = .inl (gI G, 30, .inl B.2.2.2.2.2.1) := rfl
theorem cell_seconds : cellOf G S B M 246 = .inl (gI G, 30, .inl B.2.2.2.2.2.2) := rfl
/-- a cell of a sheet is written -/
theorem set_sh (hj : j < 8) (hr : r < 30) {σ' : Sh} {e' : va_E} (h1 : shCell G j σ' r = e') (h2 : ∀ r', r' < 30 → r' ≠ r → shCell G j σ' r' = shCell G j σ r') : ∀ o', o' < (nN G) → cellOf G (updS S j σ') B M o' = if o' = sB j + r then e' else cellOf G (updS S j σ) B M o' := by
  intro o' ho'
  have key : ∀ j' r', j' < 8 → r' < 30 → o' = sB j' + r' → cellOf G (updS S j σ') B M o' = if o' = sB j + r then e' else cellOf G (updS S j σ) B M o' := by
    intro j' r' hj' hr' e
    subst e
    rw [cell_sh hj' hr', cell_sh hj' hr']
    by_cases hjj : j' = j
    · subst hjj
      rw [updS_same, updS_same]
      by_cases hrr : r' = r
      · subst hrr; rw [if_pos rfl, h1]
      · rw [if_neg (by omega), h2 r' hr' hrr]
    · rw [updS_ne S _ hjj, updS_ne S _ hjj, if_neg]
      unfold sB
      split <;> split <;> omega
  by_cases a : o' = 0
  · subst a
    rw [if_neg (by unfold sB; split <;> omega)]; rfl
  by_cases b : o' < 121
  · exact key ((o' - 1) / 30) ((o' - 1) % 30) (by omega) (by omega) (by unfold sB; rw [if_pos (by omega)]; omega)
  by_cases c : o' = 121
  · subst c
    rw [if_neg (by unfold sB; split <;> omega)]; rfl
  by_cases d : o' < 242
  · exact key ((o' - 2) / 30) ((o' - 2) % 30) (by omega) (by omega) (by unfold sB; rw [if_neg (by omega)]; omega)
  rw [if_neg (by unfold sB; split <;> omega)]
  unfold cellOf
  rw [if_neg a, if_neg b, if_neg c, if_neg d, if_neg a, if_neg b, if_neg c, if_neg d]
end CELLS
end
section
/-! rows over the state -/
section TROWS
variable {G : GX} {y : YX} {E : State → Prop} {Z : ZX} {pc : Nat} {l : List (Nat × Value)} {stk : List Value} {n : Nat} {cs : Nat → va_E} {ck sk : Nat}
variable {S : Nat → Sh} {B : Bc} {M : Md} {j i : Nat} {σ : Sh}
theorem nn_narrow (v : Int32) : narrow .int (.int v) = .int v := rfl
theorem in_of {i : Int32} {k N : Nat} (hi : i = nI k) (hk : k < N) (hN : N < 2 ^ 31) : vp_in i N := by rw [hi]; exact vp_in_nI hk hN
theorem cl_of {i : Int32} {k N : Nat} (hi : i = nI k) (hk : k < N) (hN : N < 2 ^ 31) : i.toNatClampNeg = k := by rw [hi]; exact nI_clamp (Nat.lt_trans hk hN)
theorem t_ild {o N : Nat} {f : Fs} {i : Int32} (k : Nat) (hcell : cs o = .inl (gI G, N, .inl f)) (ho : o < n) (hi : i = nI k) (hk : k < N) (hN : N < 2 ^ 31) (hd : decode y.1 pc = .ok (.iaload, 1)) (kk : XJ G y E Z (pc + 1) l (.int (f k) :: stk) n cs ck sk) : XJ G y E Z pc l (.int i :: .ref (gB G + o) :: stk) n cs ck sk :=
  x_iald hcell ho (in_of hi hk hN) hd (by rw [cl_of hi hk hN]; exact kk)
theorem t_cld {o N : Nat} {f : Fs} {i : Int32} (k : Nat) (hcell : cs o = .inl (gC G, N, .inl f)) (ho : o < n) (hi : i = nI k) (hk : k < N) (hN : N < 2 ^ 31) (hd : decode y.1 pc = .ok (.caload, 1)) (kk : XJ G y E Z (pc + 1) l (.int (f k) :: stk) n cs ck sk) : XJ G y E Z pc l (.int i :: .ref (gB G + o) :: stk) n cs ck sk :=
  x_cald hcell ho (in_of hi hk hN) hd (by rw [cl_of hi hk hN]; exact kk)
theorem sB_255 (hj : j < 8) : sB j < nN G := nN_lt (by unfold sB; split <;> omega)
theorem shO_255 (hj : j < 8) (hi : i < 13) : shO j i < nN G := nN_lt (by unfold shO sB; split <;> omega)
theorem egO_255 (hj : j < 8) (hi : i < 13) : egO j i < nN G := nN_lt (by unfold egO sB; split <;> omega)
theorem htO_255 (hj : j < 8) : htO j < nN G := nN_lt (by unfold htO sB; split <;> omega)
theorem stO_255 (hj : j < 8) : stO j < nN G := nN_lt (by unfold stO sB; split <;> omega)
theorem arO_255 (hj : j < 8) : arO j < nN G := nN_lt (by unfold arO sB; split <;> omega)
/-- shapes[k] -/
theorem t_shapes {i : Int32} (k : Nat) (hj : j < 8) (hi : i = nI k) (hk : k < 13) (hd : decode y.1 pc = .ok (.aaload, 1)) (kk : XJ G y E Z (pc + 1) l (.ref (gB G + shO j k) :: stk) (nN G) (cellOf G S B M) ck sk) : XJ G y E Z pc l (.int i :: .ref (gB G + arO j) :: stk) (nN G) (cellOf G S B M) ck sk :=
  x_aaldS (cell_arr hj) (arO_255 hj) (in_of hi hk (by decide)) (by rw [cl_of hi hk (by decide)]) hd kk
/-- history[k] -/
theorem t_hist {i : Int32} (k : Nat) (hi : i = nI k) (hk : k < 4) (hd : decode y.1 pc = .ok (.aaload, 1)) (kk : XJ G y E Z (pc + 1) l (.ref (gB G + sB (B.2.1 k)) :: stk) (nN G) (cellOf G S B M) ck sk) : XJ G y E Z pc l (.int i :: .ref (gB G + 121) :: stk) (nN G) (cellOf G S B M) ck sk :=
  x_aaldT cell_hist (nN_lt (by decide)) (in_of hi hk (by decide)) (by rw [cl_of hi hk (by decide)]) hd kk
theorem fld2 : ∀ k, k < 7 → (TX2 (3 + k)).1 = RX2 ∧ (TX2 (3 + k)).2.2.2 = false ∧ tyX2 (3 + k) = .int := by decide +kernel
theorem t_putSh (hj : j < 8) (k : Nat) (hk : k < 7) {v : Int32} {idx : Nat} (hlink : Cond.fieldLink y.2.2.1 idx RX2 (TX2 (3 + k)).2.1 (TX2 (3 + k)).2.2.1 ∈ WS) (hd : decode y.1 pc = .ok (.putfield idx, 3)) (kk : XJ G y E Z (pc + 3) l stk (nN G) (cellOf G (updS S j (upd σ.1 k v, σ.2)) B M) ck sk) : XJ G y E Z pc l (.int v :: .ref (gB G + sB j) :: stk) (nN G) (cellOf G (updS S j σ) B M) ck sk := by
  obtain ⟨f1, f2, f3⟩ := fld2 k hk
  refine x_put (ci := 2) (k := 3 + k) (C := RX2) (T := TX2) (N := 10) (ty := .int) (cell_sheet hj) (sB_255 hj) rfl nX2 tyX2 tyX2_ok nmX2 (by omega) hlink f1 f2 f3 rfl rfl (by simp; omega) hd _ (set_sh (σ' := (upd σ.1 k v, σ.2)) hj (show 0 < 30 by omega) ?_ ?_) kk
  · match k, hk with
    | 0, _ => rfl
    | 1, _ => rfl
    | 2, _ => rfl
    | 3, _ => rfl
    | 4, _ => rfl
    | 5, _ => rfl
    | 6, _ => rfl
  · intro r' _ h
    unfold shCell
    rw [if_neg h, if_neg h]
def shpF (σ : Sh) (i : Nat) (f : Fs) : Sh := (σ.1, σ.2.1, σ.2.2.1, updF σ.2.2.2.1 i f, σ.2.2.2.2)
def edgF (σ : Sh) (i : Nat) (f : Fs) : Sh := (σ.1, σ.2.1, σ.2.2.1, σ.2.2.2.1, updF σ.2.2.2.2 i f)
theorem fld1 : ∀ k, k < 8 → (TX1 k).1 = RX1 ∧ (TX1 k).2.2.2 = false ∧ tyX1 k = .int := by decide +kernel
theorem t_putShape (hj : j < 8) (hi : i < 13) (k : Nat) (hk : k < 8) {v : Int32} {idx : Nat} (hlink : Cond.fieldLink y.2.2.1 idx RX1 (TX1 k).2.1 (TX1 k).2.2.1 ∈ WS) (hd : decode y.1 pc = .ok (.putfield idx, 3)) (kk : XJ G y E Z (pc + 3) l stk (nN G) (cellOf G (updS S j (shpF σ i (upd (σ.2.2.2.1 i) k v))) B M) ck sk) : XJ G y E Z pc l (.int v :: .ref (gB G + shO j i) :: stk) (nN G) (cellOf G (updS S j σ) B M) ck sk := by
  obtain ⟨f1, f2, f3⟩ := fld1 k hk
  refine x_put (ci := 1) (k := k) (C := RX1) (T := TX1) (N := 9) (ty := .int) (cell_shape hj hi) (shO_255 hj hi) rfl nX1 tyX1 tyX1_ok nmX1 (by omega) hlink f1 f2 f3 rfl rfl (by simp; omega) hd _ (set_sh (σ' := shpF σ i (upd (σ.2.2.2.1 i) k v)) hj (show 2 + 2 * i < 30 by omega) ?_ ?_) kk
  · rw [shCell_shape _ hi]
    simp only [shpF, updF_same]
    match k, hk with
    | 0, _ => rfl
    | 1, _ => rfl
    | 2, _ => rfl
    | 3, _ => rfl
    | 4, _ => rfl
    | 5, _ => rfl
    | 6, _ => rfl
    | 7, _ => rfl
  · intro r' hr' h
    unfold shCell
    by_cases h0 : r' = 0
    · rw [if_pos h0, if_pos h0]; rfl
    by_cases h1 : r' = 1
    · rw [if_neg h0, if_neg h0, if_pos h1, if_pos h1]
    by_cases h28 : r' = 28
    · rw [if_neg h0, if_neg h0, if_neg h1, if_neg h1, if_pos h28, if_pos h28]; rfl
    by_cases h29 : r' = 29
    · rw [if_neg h0, if_neg h0, if_neg h1, if_neg h1, if_neg h28, if_neg h28, if_pos h29, if_pos h29]; rfl
    rw [if_neg h0, if_neg h0, if_neg h1, if_neg h1, if_neg h28, if_neg h28, if_neg h29, if_neg h29]
    by_cases he : r' % 2 = 0
    · rw [if_pos he, if_pos he]
      simp only [shpF, updF_ne _ _ (show r' / 2 - 1 ≠ i by omega)]
    · rw [if_neg he, if_neg he]; rfl
theorem t_stEdge (hj : j < 8) (hi : i < 13) (k : Nat) (hk : k < 12) {ix v : Int32} (hix : ix = nI k) (hd : decode y.1 pc = .ok (.iastore, 1)) (kk : XJ G y E Z (pc + 1) l stk (nN G) (cellOf G (updS S j (edgF σ i (upd (σ.2.2.2.2 i) k v))) B M) ck sk) : XJ G y E Z pc l (.int v :: .int ix :: .ref (gB G + egO j i) :: stk) (nN G) (cellOf G (updS S j σ) B M) ck sk := by
  refine x_iast (cell_edge hj hi) (egO_255 hj hi) (in_of hix hk (by decide)) hd _ (set_sh (σ' := edgF σ i (upd (σ.2.2.2.2 i) k v)) hj (show 3 + 2 * i < 30 by omega) ?_ ?_) kk
  · rw [shCell_edge _ hi, cl_of hix hk (by decide)]
    simp only [edgF, updF_same]
  · intro r' hr' h
    unfold shCell
    by_cases h0 : r' = 0
    · rw [if_pos h0, if_pos h0]; rfl
    by_cases h1 : r' = 1
    · rw [if_neg h0, if_neg h0, if_pos h1, if_pos h1]
    by_cases h28 : r' = 28
    · rw [if_neg h0, if_neg h0, if_neg h1, if_neg h1, if_pos h28, if_pos h28]; rfl
    by_cases h29 : r' = 29
    · rw [if_neg h0, if_neg h0, if_neg h1, if_neg h1, if_neg h28, if_neg h28, if_pos h29, if_pos h29]; rfl
    rw [if_neg h0, if_neg h0, if_neg h1, if_neg h1, if_neg h28, if_neg h28, if_neg h29, if_neg h29]
    by_cases he : r' % 2 = 0
    · rw [if_pos he, if_pos he]; rfl
    · rw [if_neg he, if_neg he]
      simp only [edgF, updF_ne _ _ (show r' / 2 - 1 ≠ i by omega)]
theorem t_stHeats (hj : j < 8) (k : Nat) (hk : k < 12) {ix v : Int32} (hix : ix = nI k) (hd : decode y.1 pc = .ok (.iastore, 1)) (kk : XJ G y E Z (pc + 1) l stk (nN G) (cellOf G (updS S j (σ.1, upd σ.2.1 k v, σ.2.2)) B M) ck sk) : XJ G y E Z pc l (.int v :: .int ix :: .ref (gB G + htO j) :: stk) (nN G) (cellOf G (updS S j σ) B M) ck sk := by
  refine x_iast (cell_heats hj) (htO_255 hj) (in_of hix hk (by decide)) hd _ (set_sh (σ' := (σ.1, upd σ.2.1 k v, σ.2.2)) hj (show 28 < 30 by omega) ?_ ?_) kk
  · rw [cl_of hix hk (by decide)]; rfl
  · intro r' hr' h
    unfold shCell
    by_cases h0 : r' = 0
    · rw [if_pos h0, if_pos h0]
    by_cases h1 : r' = 1
    · rw [if_neg h0, if_neg h0, if_pos h1, if_pos h1]
    rw [if_neg h0, if_neg h0, if_neg h1, if_neg h1, if_neg h, if_neg h]
theorem t_stSets (hj : j < 8) (k : Nat) (hk : k < 4) {ix v : Int32} (hix : ix = nI k) (hd : decode y.1 pc = .ok (.iastore, 1)) (kk : XJ G y E Z (pc + 1) l stk (nN G) (cellOf G (updS S j (σ.1, σ.2.1, upd σ.2.2.1 k v, σ.2.2.2)) B M) ck sk) : XJ G y E Z pc l (.int v :: .int ix :: .ref (gB G + stO j) :: stk) (nN G) (cellOf G (updS S j σ) B M) ck sk := by
  refine x_iast (cell_sets hj) (stO_255 hj) (in_of hix hk (by decide)) hd _ (set_sh (σ' := (σ.1, σ.2.1, upd σ.2.2.1 k v, σ.2.2.2)) hj (show 29 < 30 by omega) ?_ ?_) kk
  · rw [cl_of hix hk (by decide)]; rfl
  · intro r' hr' h
    unfold shCell
    by_cases h0 : r' = 0
    · rw [if_pos h0, if_pos h0]
    by_cases h1 : r' = 1
    · rw [if_neg h0, if_neg h0, if_pos h1, if_pos h1]
    by_cases h28 : r' = 28
    · rw [if_neg h0, if_neg h0, if_neg h1, if_neg h1, if_pos h28, if_pos h28]
    rw [if_neg h0, if_neg h0, if_neg h1, if_neg h1, if_neg h28, if_neg h28, if_neg h, if_neg h]
theorem fld3 : ∀ k, k < 4 → (TX3 (6 + k)).1 = RX3 ∧ (TX3 (6 + k)).2.2.2 = false := by decide +kernel
theorem t_putBc (k : Nat) (hk : k < 4) {v : Int32} {idx : Nat} (hn : narrow (tyX3 (6 + k)) (.int v) = .int v) (hf : fits (tyX3 (6 + k)) (.int v) = true) (hlink : Cond.fieldLink y.2.2.1 idx RX3 (TX3 (6 + k)).2.1 (TX3 (6 + k)).2.2.1 ∈ WS) (hd : decode y.1 pc = .ok (.putfield idx, 3)) (kk : XJ G y E Z (pc + 3) l stk (nN G) (cellOf G S (upd B.1 k v, B.2) M) ck sk) : XJ G y E Z pc l (.int v :: .ref (gB G + 0) :: stk) (nN G) (cellOf G S B M) ck sk := by
  obtain ⟨f1, f2⟩ := fld3 k hk
  refine x_put (ci := 3) (k := 6 + k) (C := RX3) (T := TX3) (N := 10) (ty := tyX3 (6 + k)) cell_bc (nN_lt (by decide)) rfl nX3 tyX3 tyX3_ok nmX3 (by omega) hlink f1 f2 rfl hn hf (by simp; omega) hd _ ?_ kk
  intro o' ho'
  by_cases h : o' = 0
  · subst h
    rw [if_pos rfl]
    match k, hk with
    | 0, _ => rfl
    | 1, _ => rfl
    | 2, _ => rfl
    | 3, _ => rfl
  · rw [if_neg h]
    simp only [cellOf, if_neg h]
    rfl
theorem fld0 : ∀ k, k < 3 → (TX0 (4 + k)).1 = RX0 ∧ (TX0 (4 + k)).2.2.2 = false ∧ tyX0 (4 + k) = .int := by decide +kernel
theorem t_putPlan (k : Nat) (hk : k < 3) {v : Int32} {idx : Nat} (hlink : Cond.fieldLink y.2.2.1 idx RX0 (TX0 (4 + k)).2.1 (TX0 (4 + k)).2.2.1 ∈ WS) (hd : decode y.1 pc = .ok (.putfield idx, 3)) (kk : XJ G y E Z (pc + 3) l stk (nN G) (cellOf G S (B.1, B.2.1, upd B.2.2.1 k v, B.2.2.2) M) ck sk) : XJ G y E Z pc l (.int v :: .ref (gB G + 242) :: stk) (nN G) (cellOf G S B M) ck sk := by
  obtain ⟨f1, f2, f3⟩ := fld0 k hk
  refine x_put (ci := 0) (k := 4 + k) (C := RX0) (T := TX0) (N := 7) (ty := .int) cell_plan (nN_lt (by decide)) rfl nX0 tyX0 tyX0_ok nmX0 (by omega) hlink f1 f2 f3 rfl rfl (by simp; omega) hd _ ?_ kk
  intro o' ho'
  by_cases h : o' = 242
  · subst h
    rw [if_pos rfl]
    match k, hk with
    | 0, _ => rfl
    | 1, _ => rfl
    | 2, _ => rfl
  · rw [if_neg h]
    simp only [cellOf, if_neg h]
    rfl
theorem t_stHist (k jj : Nat) (hk : k < 4) (hjj : jj < 8) {ix : Int32} (hix : ix = nI k) (hd : decode y.1 pc = .ok (.aastore, 1)) (kk : XJ G y E Z (pc + 1) l stk (nN G) (cellOf G S (B.1, updN B.2.1 k jj, B.2.2) M) ck sk) : XJ G y E Z pc l (.ref (gB G + sB jj) :: .int ix :: .ref (gB G + 121) :: stk) (nN G) (cellOf G S B M) ck sk := by
  refine x_aast (C := "BeamCuts$Sheet") (fun s h => (h.1.2 3 _ rfl).2) cell_hist (nN_lt (by decide)) (cell_sheet' hjj) (sB_255 hjj) (ci := 2) rfl (in_of hix hk (by decide)) hd _ ?_ kk
  intro o' ho'
  by_cases h : o' = 121
  · subst h
    rw [if_pos rfl, cl_of hix hk (by decide)]
    have e : (fun q => some (gB G + sB (updN B.2.1 k jj q))) = va_up (fun q => some (gB G + sB (B.2.1 q))) k (some (gB G + sB jj)) := by
      funext q
      by_cases hq : q = k
      · subst hq; simp [va_up, updN]
      · simp [va_up, updN, hq]
    rw [← e]
    rfl
  · rw [if_neg h]
    simp only [cellOf, if_neg h]
    rfl
theorem t_stLetters (k : Nat) (hk : k < 60) {ix v : Int32} (hix : ix = nI k) (hv : narrow .char (.int v) = .int v) (hd : decode y.1 pc = .ok (.castore, 1)) (kk : XJ G y E Z (pc + 1) l stk (nN G) (cellOf G S (B.1, B.2.1, B.2.2.1, upd B.2.2.2.1 k v, B.2.2.2.2) M) ck sk) : XJ G y E Z pc l (.int v :: .int ix :: .ref (gB G + 243) :: stk) (nN G) (cellOf G S B M) ck sk := by
  refine x_cast cell_letters (nN_lt (by decide)) (in_of hix hk (by decide)) hv hd _ ?_ kk
  intro o' ho'
  by_cases h : o' = 243
  · subst h
    rw [if_pos rfl, cl_of hix hk (by decide)]; rfl
  · rw [if_neg h]
    simp only [cellOf, if_neg h]
    rfl
theorem t_stKinds (k : Nat) (hk : k < 30) {ix v : Int32} (hix : ix = nI k) (hd : decode y.1 pc = .ok (.iastore, 1)) (kk : XJ G y E Z (pc + 1) l stk (nN G) (cellOf G S (B.1, B.2.1, B.2.2.1, B.2.2.2.1, upd B.2.2.2.2.1 k v, B.2.2.2.2.2) M) ck sk) : XJ G y E Z pc l (.int v :: .int ix :: .ref (gB G + 244) :: stk) (nN G) (cellOf G S B M) ck sk := by
  refine x_iast cell_kinds (nN_lt (by decide)) (in_of hix hk (by decide)) hd _ ?_ kk
  intro o' ho'
  by_cases h : o' = 244
  · subst h
    rw [if_pos rfl, cl_of hix hk (by decide)]; rfl
  · rw [if_neg h]
    simp only [cellOf, if_neg h]
    rfl
theorem t_stFirsts (k : Nat) (hk : k < 30) {ix v : Int32} (hix : ix = nI k) (hd : decode y.1 pc = .ok (.iastore, 1)) (kk : XJ G y E Z (pc + 1) l stk (nN G) (cellOf G S (B.1, B.2.1, B.2.2.1, B.2.2.2.1, B.2.2.2.2.1, upd B.2.2.2.2.2.1 k v, B.2.2.2.2.2.2) M) ck sk) : XJ G y E Z pc l (.int v :: .int ix :: .ref (gB G + 245) :: stk) (nN G) (cellOf G S B M) ck sk := by
  refine x_iast cell_firsts (nN_lt (by decide)) (in_of hix hk (by decide)) hd _ ?_ kk
  intro o' ho'
  by_cases h : o' = 245
  · subst h
    rw [if_pos rfl, cl_of hix hk (by decide)]; rfl
  · rw [if_neg h]
    simp only [cellOf, if_neg h]
    rfl
theorem t_stSeconds (k : Nat) (hk : k < 30) {ix v : Int32} (hix : ix = nI k) (hd : decode y.1 pc = .ok (.iastore, 1)) (kk : XJ G y E Z (pc + 1) l stk (nN G) (cellOf G S (B.1, B.2.1, B.2.2.1, B.2.2.2.1, B.2.2.2.2.1, B.2.2.2.2.2.1, upd B.2.2.2.2.2.2 k v) M) ck sk) : XJ G y E Z pc l (.int v :: .int ix :: .ref (gB G + 246) :: stk) (nN G) (cellOf G S B M) ck sk := by
  refine x_iast cell_seconds (nN_lt (by decide)) (in_of hix hk (by decide)) hd _ ?_ kk
  intro o' ho'
  by_cases h : o' = 246
  · subst h
    rw [if_pos rfl, cl_of hix hk (by decide)]; rfl
  · rw [if_neg h]
    simp only [cellOf, if_neg h]
    rfl
/-- what a method of the state answers -/
abbrev Rt (G : GX) (v : Option Value) (S : Nat → Sh) (B : Bc) (M : Md) : Option Value → Nat → (Nat → va_E) → Prop := fun w n cs => w = v ∧ n = (nN G) ∧ cs = cellOf G S B M
abbrev Cs (G : GX) (ynm : MethodName) (yc : YX) (As : List Value) (S : Nat → Sh) (B : Bc) (M : Md) (v : Option Value) (S' : Nat → Sh) (B' : Bc) (M' : Md) : Prop := Ct G ynm yc 0 0 As (nN G) (cellOf G S B M) (Rt G v S' B' M')
end TROWS
end
section
/-! each method: bytes, locals, class, room, what it returns, name; what a call of it wants (by program: wip/whole/gen_methods.py) -/
abbrev YX3_init : YX := (cX3_init, 2, RX3, { frames := 3, cells := 246, slots := 2657, locals := 61 }, none, "<init>")
theorem qI_X3_init : MqI yX3_init YX3_init 0 := ⟨mM_X3_init, rfl, mI_X3, mK_X3_init, by decide +kernel, by decide +kernel, by decide +kernel⟩
abbrev YX2_init : YX := (cX2_init, 2, RX2, { frames := 2, cells := 29, slots := 302, locals := 40 }, none, "<init>")
theorem qI_X2_init : MqI yX2_init YX2_init 0 := ⟨mM_X2_init, rfl, mI_X2, mK_X2_init, by decide +kernel, by decide +kernel, by decide +kernel⟩
abbrev YX1_init : YX := (cX1_init, 1, RX1, { frames := 1, cells := 1, slots := 12, locals := 20 }, none, "<init>")
theorem qI_X1_init : MqI yX1_init YX1_init 0 := ⟨mM_X1_init, rfl, mI_X1, mK_X1_init, by decide +kernel, by decide +kernel, by decide +kernel⟩
abbrev YX0_init : YX := (cX0_init, 1, RX0, { frames := 1, cells := 4, slots := 150, locals := 20 }, none, "<init>")
theorem qI_X0_init : MqI yX0_init YX0_init 0 := ⟨mM_X0_init, rfl, mI_X0, mK_X0_init, by decide +kernel, by decide +kernel, by decide +kernel⟩
abbrev YX3_undo : YX := (cX3_undo, 1, RX3, { frames := 2, cells := 0, slots := 0, locals := 44 }, (some .int), "undo")
theorem qV_X3_undo : MqV yX3_undo YX3_undo 0 := ⟨mM_X3_undo, mS_X3_undo, mI_X3, mK_X3_undo, by decide +kernel, by decide +kernel, by decide +kernel⟩
abbrev YX2_copyFrom : YX := (cX2_copyFrom, 3, RX2, { frames := 1, cells := 0, slots := 0, locals := 22 }, none, "copyFrom")
theorem qV_X2_copyFrom : MqV yX2_copyFrom YX2_copyFrom 1 := ⟨mM_X2_copyFrom, mS_X2_copyFrom, mI_X2, mK_X2_copyFrom, by decide +kernel, by decide +kernel, by decide +kernel⟩
abbrev YX1_copyFrom : YX := (cX1_copyFrom, 3, RX1, { frames := 0, cells := 0, slots := 0, locals := 0 }, none, "copyFrom")
theorem qV_X1_copyFrom : MqV yX1_copyFrom YX1_copyFrom 1 := ⟨mM_X1_copyFrom, mS_X1_copyFrom, mI_X1, mK_X1_copyFrom, by decide +kernel, by decide +kernel, by decide +kernel⟩
abbrev YX3_restore : YX := (cX3_restore, 1, RX3, { frames := 3, cells := 0, slots := 0, locals := 65 }, (some .int), "restore")
theorem qV_X3_restore : MqV yX3_restore YX3_restore 0 := ⟨mM_X3_restore, mS_X3_restore, mI_X3, mK_X3_restore, by decide +kernel, by decide +kernel, by decide +kernel⟩
abbrev YX3_recorded : YX := (cX3_recorded, 2, RX3, { frames := 2, cells := 0, slots := 0, locals := 44 }, (some .int), "recorded")
theorem qV_X3_recorded : MqV yX3_recorded YX3_recorded 1 := ⟨mM_X3_recorded, mS_X3_recorded, mI_X3, mK_X3_recorded, by decide +kernel, by decide +kernel, by decide +kernel⟩
abbrev YX3_dropOldestState : YX := (cX3_dropOldestState, 3, RX3, { frames := 0, cells := 0, slots := 0, locals := 0 }, none, "dropOldestState")
theorem qV_X3_dropOldestState : MqV yX3_dropOldestState YX3_dropOldestState 0 := ⟨mM_X3_dropOldestState, mS_X3_dropOldestState, mI_X3, mK_X3_dropOldestState, by decide +kernel, by decide +kernel, by decide +kernel⟩
abbrev YX3_allTakes : YX := (cX3_allTakes, 2, RX3, { frames := 6, cells := 0, slots := 0, locals := 135 }, (some .int), "allTakes")
theorem qV_X3_allTakes : MqV yX3_allTakes YX3_allTakes 0 := ⟨mM_X3_allTakes, mS_X3_allTakes, mI_X3, mK_X3_allTakes, by decide +kernel, by decide +kernel, by decide +kernel⟩
abbrev YX2_cutNext : YX := (cX2_cutNext, 3, RX2, { frames := 5, cells := 0, slots := 0, locals := 113 }, (some .int), "cutNext")
theorem qV_X2_cutNext : MqV yX2_cutNext YX2_cutNext 0 := ⟨mM_X2_cutNext, mS_X2_cutNext, mI_X2, mK_X2_cutNext, by decide +kernel, by decide +kernel, by decide +kernel⟩
abbrev YX2_bestShape : YX := (cX2_bestShape, 5, RX2, { frames := 3, cells := 0, slots := 0, locals := 66 }, (some .int), "bestShape")
theorem qV_X2_bestShape : MqV yX2_bestShape YX2_bestShape 0 := ⟨mM_X2_bestShape, mS_X2_bestShape, mI_X2, mK_X2_bestShape, by decide +kernel, by decide +kernel, by decide +kernel⟩
abbrev YX2_reasonAgainst : YX := (cX2_reasonAgainst, 3, RX2, { frames := 2, cells := 0, slots := 0, locals := 44 }, (some .int), "reasonAgainst")
theorem qV_X2_reasonAgainst : MqV yX2_reasonAgainst YX2_reasonAgainst 1 := ⟨mM_X2_reasonAgainst, mS_X2_reasonAgainst, mI_X2, mK_X2_reasonAgainst, by decide +kernel, by decide +kernel, by decide +kernel⟩
abbrev YX2_holdsWholeShape : YX := (cX2_holdsWholeShape, 3, RX2, { frames := 1, cells := 0, slots := 0, locals := 21 }, (some .boolean), "holdsWholeShape")
theorem qV_X2_holdsWholeShape : MqV yX2_holdsWholeShape YX2_holdsWholeShape 1 := ⟨mM_X2_holdsWholeShape, mS_X2_holdsWholeShape, mI_X2, mK_X2_holdsWholeShape, by decide +kernel, by decide +kernel, by decide +kernel⟩
abbrev YX1_isInside : YX := (cX1_isInside, 2, RX1, { frames := 0, cells := 0, slots := 0, locals := 0 }, (some .boolean), "isInside")
theorem qV_X1_isInside : MqV yX1_isInside YX1_isInside 1 := ⟨mM_X1_isInside, mS_X1_isInside, mI_X1, mK_X1_isInside, by decide +kernel, by decide +kernel, by decide +kernel⟩
abbrev YX2_heatOver : YX := (cX2_heatOver, 4, RX2, { frames := 1, cells := 0, slots := 0, locals := 21 }, (some .int), "heatOver")
theorem qV_X2_heatOver : MqV yX2_heatOver YX2_heatOver 1 := ⟨mM_X2_heatOver, mS_X2_heatOver, mI_X2, mK_X2_heatOver, by decide +kernel, by decide +kernel, by decide +kernel⟩
abbrev YX2_wayTo : YX := (cX2_wayTo, 2, RX2, { frames := 1, cells := 0, slots := 0, locals := 21 }, (some .int), "wayTo")
theorem qV_X2_wayTo : MqV yX2_wayTo YX2_wayTo 1 := ⟨mM_X2_wayTo, mS_X2_wayTo, mI_X2, mK_X2_wayTo, by decide +kernel, by decide +kernel, by decide +kernel⟩
abbrev YX1_leadColumn : YX := (cX1_leadColumn, 1, RX1, { frames := 0, cells := 0, slots := 0, locals := 0 }, (some .int), "leadColumn")
theorem qV_X1_leadColumn : MqV yX1_leadColumn YX1_leadColumn 0 := ⟨mM_X1_leadColumn, mS_X1_leadColumn, mI_X1, mK_X1_leadColumn, by decide +kernel, by decide +kernel, by decide +kernel⟩
abbrev YX1_leadRow : YX := (cX1_leadRow, 1, RX1, { frames := 0, cells := 0, slots := 0, locals := 0 }, (some .int), "leadRow")
theorem qV_X1_leadRow : MqV yX1_leadRow YX1_leadRow 0 := ⟨mM_X1_leadRow, mS_X1_leadRow, mI_X1, mK_X1_leadRow, by decide +kernel, by decide +kernel, by decide +kernel⟩
abbrev YX2_ticksToCut : YX := (cX2_ticksToCut, 3, RX2, { frames := 2, cells := 0, slots := 0, locals := 42 }, (some .int), "ticksToCut")
theorem qV_X2_ticksToCut : MqV yX2_ticksToCut YX2_ticksToCut 1 := ⟨mM_X2_ticksToCut, mS_X2_ticksToCut, mI_X2, mK_X2_ticksToCut, by decide +kernel, by decide +kernel, by decide +kernel⟩
abbrev YX2_knows : YX := (cX2_knows, 2, RX2, { frames := 0, cells := 0, slots := 0, locals := 0 }, (some .boolean), "knows")
theorem qV_X2_knows : MqV yX2_knows YX2_knows 1 := ⟨mM_X2_knows, mS_X2_knows, mI_X2, mK_X2_knows, by decide +kernel, by decide +kernel, by decide +kernel⟩
abbrev YX2_burningOf : YX := (cX2_burningOf, 2, RX2, { frames := 1, cells := 0, slots := 0, locals := 20 }, (some .int), "burningOf")
theorem qV_X2_burningOf : MqV yX2_burningOf YX2_burningOf 1 := ⟨mM_X2_burningOf, mS_X2_burningOf, mI_X2, mK_X2_burningOf, by decide +kernel, by decide +kernel, by decide +kernel⟩
abbrev YX1_edge : YX := (cX1_edge, 1, RX1, { frames := 0, cells := 0, slots := 0, locals := 0 }, (some .int), "edge")
theorem qV_X1_edge : MqV yX1_edge YX1_edge 0 := ⟨mM_X1_edge, mS_X1_edge, mI_X1, mK_X1_edge, by decide +kernel, by decide +kernel, by decide +kernel⟩
abbrev YX2_fewestTicksToCool : YX := (cX2_fewestTicksToCool, 4, RX2, { frames := 4, cells := 0, slots := 0, locals := 90 }, (some .int), "fewestTicksToCool")
theorem qV_X2_fewestTicksToCool : MqV yX2_fewestTicksToCool YX2_fewestTicksToCool 0 := ⟨mM_X2_fewestTicksToCool, mS_X2_fewestTicksToCool, mI_X2, mK_X2_fewestTicksToCool, by decide +kernel, by decide +kernel, by decide +kernel⟩
abbrev YX2_ticksToCool : YX := (cX2_ticksToCool, 5, RX2, { frames := 3, cells := 0, slots := 0, locals := 66 }, (some .int), "ticksToCool")
theorem qV_X2_ticksToCool : MqV yX2_ticksToCool YX2_ticksToCool 1 := ⟨mM_X2_ticksToCool, mS_X2_ticksToCool, mI_X2, mK_X2_ticksToCool, by decide +kernel, by decide +kernel, by decide +kernel⟩
abbrev YX2_coolFor : YX := (cX2_coolFor, 3, RX2, { frames := 1, cells := 0, slots := 0, locals := 21 }, none, "coolFor")
theorem qV_X2_coolFor : MqV yX2_coolFor YX2_coolFor 1 := ⟨mM_X2_coolFor, mS_X2_coolFor, mI_X2, mK_X2_coolFor, by decide +kernel, by decide +kernel, by decide +kernel⟩
abbrev YX2_cutShape : YX := (cX2_cutShape, 4, RX2, { frames := 3, cells := 0, slots := 0, locals := 66 }, (some .int), "cutShape")
theorem qV_X2_cutShape : MqV yX2_cutShape YX2_cutShape 1 := ⟨mM_X2_cutShape, mS_X2_cutShape, mI_X2, mK_X2_cutShape, by decide +kernel, by decide +kernel, by decide +kernel⟩
abbrev YX2_burnEdge : YX := (cX2_burnEdge, 4, RX2, { frames := 2, cells := 0, slots := 0, locals := 41 }, none, "burnEdge")
theorem qV_X2_burnEdge : MqV yX2_burnEdge YX2_burnEdge 1 := ⟨mM_X2_burnEdge, mS_X2_burnEdge, mI_X2, mK_X2_burnEdge, by decide +kernel, by decide +kernel, by decide +kernel⟩
abbrev YX1_leadSquare : YX := (cX1_leadSquare, 1, RX1, { frames := 1, cells := 0, slots := 0, locals := 20 }, (some .int), "leadSquare")
theorem qV_X1_leadSquare : MqV yX1_leadSquare YX1_leadSquare 0 := ⟨mM_X1_leadSquare, mS_X1_leadSquare, mI_X1, mK_X1_leadSquare, by decide +kernel, by decide +kernel, by decide +kernel⟩
abbrev YX2_heatIn : YX := (cX2_heatIn, 2, RX2, { frames := 1, cells := 0, slots := 0, locals := 22 }, (some .int), "heatIn")
theorem qV_X2_heatIn : MqV yX2_heatIn YX2_heatIn 1 := ⟨mM_X2_heatIn, mS_X2_heatIn, mI_X2, mK_X2_heatIn, by decide +kernel, by decide +kernel, by decide +kernel⟩
abbrev YX3_isIn : YX := (cX3_isIn, 3, RX3, { frames := 0, cells := 0, slots := 0, locals := 0 }, (some .boolean), "isIn")
theorem qS_X3_isIn : MqS yX3_isIn YX3_isIn 3 := ⟨mT_X3_isIn, mI_X3, mK_X3_isIn, by decide +kernel, by decide +kernel, by decide +kernel⟩
abbrev YX2_greatestHeat : YX := (cX2_greatestHeat, 1, RX2, { frames := 1, cells := 0, slots := 0, locals := 22 }, (some .int), "greatestHeat")
theorem qV_X2_greatestHeat : MqV yX2_greatestHeat YX2_greatestHeat 0 := ⟨mM_X2_greatestHeat, mS_X2_greatestHeat, mI_X2, mK_X2_greatestHeat, by decide +kernel, by decide +kernel, by decide +kernel⟩
abbrev YX2_hottestSquare : YX := (cX2_hottestSquare, 3, RX2, { frames := 0, cells := 0, slots := 0, locals := 0 }, (some .int), "hottestSquare")
theorem qV_X2_hottestSquare : MqV yX2_hottestSquare YX2_hottestSquare 0 := ⟨mM_X2_hottestSquare, mS_X2_hottestSquare, mI_X2, mK_X2_hottestSquare, by decide +kernel, by decide +kernel, by decide +kernel⟩
abbrev YX2_loseShapesInside : YX := (cX2_loseShapesInside, 5, RX2, { frames := 1, cells := 0, slots := 0, locals := 21 }, (some .int), "loseShapesInside")
theorem qV_X2_loseShapesInside : MqV yX2_loseShapesInside YX2_loseShapesInside 1 := ⟨mM_X2_loseShapesInside, mS_X2_loseShapesInside, mI_X2, mK_X2_loseShapesInside, by decide +kernel, by decide +kernel, by decide +kernel⟩
abbrev YX2_shapesThatAre : YX := (cX2_shapesThatAre, 4, RX2, { frames := 0, cells := 0, slots := 0, locals := 0 }, (some .int), "shapesThatAre")
theorem qV_X2_shapesThatAre : MqV yX2_shapesThatAre YX2_shapesThatAre 1 := ⟨mM_X2_shapesThatAre, mS_X2_shapesThatAre, mI_X2, mK_X2_shapesThatAre, by decide +kernel, by decide +kernel, by decide +kernel⟩
abbrev YX3_count : YX := (cX3_count, 2, RX3, { frames := 3, cells := 0, slots := 0, locals := 63 }, (some .int), "count")
theorem qV_X3_count : MqV yX3_count YX3_count 1 := ⟨mM_X3_count, mS_X3_count, mI_X3, mK_X3_count, by decide +kernel, by decide +kernel, by decide +kernel⟩
abbrev YX2_factOfSheet : YX := (cX2_factOfSheet, 2, RX2, { frames := 2, cells := 0, slots := 0, locals := 42 }, (some .int), "factOfSheet")
theorem qV_X2_factOfSheet : MqV yX2_factOfSheet YX2_factOfSheet 1 := ⟨mM_X2_factOfSheet, mS_X2_factOfSheet, mI_X2, mK_X2_factOfSheet, by decide +kernel, by decide +kernel, by decide +kernel⟩
abbrev YX2_shapesThatTilted : YX := (cX2_shapesThatTilted, 3, RX2, { frames := 0, cells := 0, slots := 0, locals := 0 }, (some .int), "shapesThatTilted")
theorem qV_X2_shapesThatTilted : MqV yX2_shapesThatTilted YX2_shapesThatTilted 0 := ⟨mM_X2_shapesThatTilted, mS_X2_shapesThatTilted, mI_X2, mK_X2_shapesThatTilted, by decide +kernel, by decide +kernel, by decide +kernel⟩
abbrev YX2_allHeat : YX := (cX2_allHeat, 3, RX2, { frames := 0, cells := 0, slots := 0, locals := 0 }, (some .int), "allHeat")
theorem qV_X2_allHeat : MqV yX2_allHeat YX2_allHeat 0 := ⟨mM_X2_allHeat, mS_X2_allHeat, mI_X2, mK_X2_allHeat, by decide +kernel, by decide +kernel, by decide +kernel⟩
abbrev YL_cell : YX := (cL_cell, 2, RL, { frames := 0, cells := 0, slots := 0, locals := 0 }, (some .int), "cell")
theorem qS_L_cell : MqS yL_cell YL_cell 2 := ⟨mT_L_cell, mI_L, mK_L_cell, by decide +kernel, by decide +kernel, by decide +kernel⟩
abbrev YL_low : YX := (cL_low, 2, RL, { frames := 0, cells := 0, slots := 0, locals := 0 }, (some .int), "low")
theorem qS_L_low : MqS yL_low YL_low 2 := ⟨mT_L_low, mI_L, mK_L_low, by decide +kernel, by decide +kernel, by decide +kernel⟩
abbrev YL_act : YX := (cL_act, 6, RL, { frames := 6, cells := 0, slots := 0, locals := 145 }, (some .int), "act")
theorem qS_L_act : MqS yL_act YL_act 4 := ⟨mT_L_act, mI_L, mK_L_act, by decide +kernel, by decide +kernel, by decide +kernel⟩
abbrev YX3_tell : YX := (cX3_tell, 5, RX3, { frames := 4, cells := 0, slots := 0, locals := 97 }, (some .int), "tell")
theorem qV_X3_tell : MqV yX3_tell YX3_tell 4 := ⟨mM_X3_tell, mS_X3_tell, mI_X3, mK_X3_tell, by decide +kernel, by decide +kernel, by decide +kernel⟩
abbrev YX2_addShape : YX := (cX2_addShape, 6, RX2, { frames := 3, cells := 0, slots := 0, locals := 72 }, (some .int), "addShape")
theorem qV_X2_addShape : MqV yX2_addShape YX2_addShape 4 := ⟨mM_X2_addShape, mS_X2_addShape, mI_X2, mK_X2_addShape, by decide +kernel, by decide +kernel, by decide +kernel⟩
abbrev YX1_place : YX := (cX1_place, 6, RX1, { frames := 2, cells := 0, slots := 0, locals := 47 }, none, "place")
theorem qV_X1_place : MqV yX1_place YX1_place 4 := ⟨mM_X1_place, mS_X1_place, mI_X1, mK_X1_place, by decide +kernel, by decide +kernel, by decide +kernel⟩
abbrev YX1_fieldsIn : YX := (cX1_fieldsIn, 7, RX1, { frames := 1, cells := 0, slots := 0, locals := 21 }, (some .int), "fieldsIn")
theorem qV_X1_fieldsIn : MqV yX1_fieldsIn YX1_fieldsIn 2 := ⟨mM_X1_fieldsIn, mS_X1_fieldsIn, mI_X1, mK_X1_fieldsIn, by decide +kernel, by decide +kernel, by decide +kernel⟩
abbrev YX2_fits : YX := (cX2_fits, 5, RX2, { frames := 1, cells := 0, slots := 0, locals := 21 }, (some .boolean), "fits")
theorem qV_X2_fits : MqV yX2_fits YX2_fits 1 := ⟨mM_X2_fits, mS_X2_fits, mI_X2, mK_X2_fits, by decide +kernel, by decide +kernel, by decide +kernel⟩
abbrev YX1_isApartFrom : YX := (cX1_isApartFrom, 2, RX1, { frames := 0, cells := 0, slots := 0, locals := 0 }, (some .boolean), "isApartFrom")
theorem qV_X1_isApartFrom : MqV yX1_isApartFrom YX1_isApartFrom 1 := ⟨mM_X1_isApartFrom, mS_X1_isApartFrom, mI_X1, mK_X1_isApartFrom, by decide +kernel, by decide +kernel, by decide +kernel⟩
abbrev YL_within : YX := (cL_within, 5, RL, { frames := 5, cells := 0, slots := 0, locals := 121 }, (some .int), "within")
theorem qS_L_within : MqS yL_within YL_within 3 := ⟨mT_L_within, mI_L, mK_L_within, by decide +kernel, by decide +kernel, by decide +kernel⟩
abbrev YX3_shape : YX := (cX3_shape, 3, RX3, { frames := 3, cells := 0, slots := 0, locals := 67 }, (some .int), "shape")
theorem qV_X3_shape : MqV yX3_shape YX3_shape 2 := ⟨mM_X3_shape, mS_X3_shape, mI_X3, mK_X3_shape, by decide +kernel, by decide +kernel, by decide +kernel⟩
abbrev YX2_factOfShape : YX := (cX2_factOfShape, 4, RX2, { frames := 2, cells := 0, slots := 0, locals := 44 }, (some .int), "factOfShape")
theorem qV_X2_factOfShape : MqV yX2_factOfShape YX2_factOfShape 2 := ⟨mM_X2_factOfShape, mS_X2_factOfShape, mI_X2, mK_X2_factOfShape, by decide +kernel, by decide +kernel, by decide +kernel⟩
abbrev YX2_outerOf : YX := (cX2_outerOf, 4, RX2, { frames := 1, cells := 0, slots := 0, locals := 21 }, (some .int), "outerOf")
theorem qV_X2_outerOf : MqV yX2_outerOf YX2_outerOf 1 := ⟨mM_X2_outerOf, mS_X2_outerOf, mI_X2, mK_X2_outerOf, by decide +kernel, by decide +kernel, by decide +kernel⟩
abbrev YX2_setInside : YX := (cX2_setInside, 4, RX2, { frames := 1, cells := 0, slots := 0, locals := 21 }, (some .int), "setInside")
theorem qV_X2_setInside : MqV yX2_setInside YX2_setInside 1 := ⟨mM_X2_setInside, mS_X2_setInside, mI_X2, mK_X2_setInside, by decide +kernel, by decide +kernel, by decide +kernel⟩
abbrev YX3_cut : YX := (cX3_cut, 2, RX3, { frames := 4, cells := 0, slots := 0, locals := 89 }, (some .int), "cut")
theorem qV_X3_cut : MqV yX3_cut YX3_cut 1 := ⟨mM_X3_cut, mS_X3_cut, mI_X3, mK_X3_cut, by decide +kernel, by decide +kernel, by decide +kernel⟩
abbrev YX3_setLead : YX := (cX3_setLead, 3, RX3, { frames := 3, cells := 0, slots := 0, locals := 65 }, (some .int), "setLead")
theorem qV_X3_setLead : MqV yX3_setLead YX3_setLead 2 := ⟨mM_X3_setLead, mS_X3_setLead, mI_X3, mK_X3_setLead, by decide +kernel, by decide +kernel, by decide +kernel⟩
abbrev YX2_changeLead : YX := (cX2_changeLead, 5, RX2, { frames := 1, cells := 0, slots := 0, locals := 22 }, (some .int), "changeLead")
theorem qV_X2_changeLead : MqV yX2_changeLead YX2_changeLead 2 := ⟨mM_X2_changeLead, mS_X2_changeLead, mI_X2, mK_X2_changeLead, by decide +kernel, by decide +kernel, by decide +kernel⟩
abbrev YX3_pause : YX := (cX3_pause, 2, RX3, { frames := 3, cells := 0, slots := 0, locals := 65 }, (some .int), "pause")
theorem qV_X3_pause : MqV yX3_pause YX3_pause 1 := ⟨mM_X3_pause, mS_X3_pause, mI_X3, mK_X3_pause, by decide +kernel, by decide +kernel, by decide +kernel⟩
abbrev YX2_waitFor : YX := (cX2_waitFor, 2, RX2, { frames := 2, cells := 0, slots := 0, locals := 43 }, (some .int), "waitFor")
theorem qV_X2_waitFor : MqV yX2_waitFor YX2_waitFor 1 := ⟨mM_X2_waitFor, mS_X2_waitFor, mI_X2, mK_X2_waitFor, by decide +kernel, by decide +kernel, by decide +kernel⟩
abbrev YX3_clean : YX := (cX3_clean, 1, RX3, { frames := 3, cells := 0, slots := 0, locals := 65 }, (some .int), "clean")
theorem qV_X3_clean : MqV yX3_clean YX3_clean 0 := ⟨mM_X3_clean, mS_X3_clean, mI_X3, mK_X3_clean, by decide +kernel, by decide +kernel, by decide +kernel⟩
abbrev YX2_cleanLens : YX := (cX2_cleanLens, 2, RX2, { frames := 2, cells := 0, slots := 0, locals := 43 }, (some .int), "cleanLens")
theorem qV_X2_cleanLens : MqV yX2_cleanLens YX2_cleanLens 0 := ⟨mM_X2_cleanLens, mS_X2_cleanLens, mI_X2, mK_X2_cleanLens, by decide +kernel, by decide +kernel, by decide +kernel⟩
abbrev YX3_set : YX := (cX3_set, 3, RX3, { frames := 3, cells := 0, slots := 0, locals := 65 }, (some .int), "set")
theorem qV_X3_set : MqV yX3_set YX3_set 2 := ⟨mM_X3_set, mS_X3_set, mI_X3, mK_X3_set, by decide +kernel, by decide +kernel, by decide +kernel⟩
abbrev YX2_changeSetting : YX := (cX2_changeSetting, 4, RX2, { frames := 1, cells := 0, slots := 0, locals := 22 }, (some .int), "changeSetting")
theorem qV_X2_changeSetting : MqV yX2_changeSetting YX2_changeSetting 2 := ⟨mM_X2_changeSetting, mS_X2_changeSetting, mI_X2, mK_X2_changeSetting, by decide +kernel, by decide +kernel, by decide +kernel⟩
abbrev YL_holds : YX := (cL_holds, 10, RL, { frames := 7, cells := 0, slots := 0, locals := 172 }, (some .boolean), "holds")
theorem qS_L_holds : MqS yL_holds YL_holds 1 := ⟨mT_L_holds, mI_L, mK_L_holds, by decide +kernel, by decide +kernel, by decide +kernel⟩
abbrev YX3_heat : YX := (cX3_heat, 2, RX3, { frames := 2, cells := 0, slots := 0, locals := 43 }, (some .int), "heat")
theorem qV_X3_heat : MqV yX3_heat YX3_heat 1 := ⟨mM_X3_heat, mS_X3_heat, mI_X3, mK_X3_heat, by decide +kernel, by decide +kernel, by decide +kernel⟩
abbrev YL_isShape : YX := (cL_isShape, 14, RL, { frames := 6, cells := 0, slots := 0, locals := 139 }, (some .boolean), "isShape")
theorem qS_L_isShape : MqS yL_isShape YL_isShape 2 := ⟨mT_L_isShape, mI_L, mK_L_isShape, by decide +kernel, by decide +kernel, by decide +kernel⟩
abbrev YL_isInside : YX := (cL_isInside, 4, RL, { frames := 4, cells := 0, slots := 0, locals := 89 }, (some .boolean), "isInside")
theorem qS_L_isInside : MqS yL_isInside YL_isInside 3 := ⟨mT_L_isInside, mI_L, mK_L_isInside, by decide +kernel, by decide +kernel, by decide +kernel⟩
abbrev YL_goes : YX := (cL_goes, 5, RL, { frames := 4, cells := 0, slots := 0, locals := 89 }, (some .int), "goes")
theorem qS_L_goes : MqS yL_goes YL_goes 2 := ⟨mT_L_goes, mI_L, mK_L_goes, by decide +kernel, by decide +kernel, by decide +kernel⟩
abbrev YL_off : YX := (cL_off, 2, RL, { frames := 0, cells := 0, slots := 0, locals := 0 }, (some .int), "off")
theorem qS_L_off : MqS yL_off YL_off 2 := ⟨mT_L_off, mI_L, mK_L_off, by decide +kernel, by decide +kernel, by decide +kernel⟩
abbrev YL_edgeIn : YX := (cL_edgeIn, 5, RL, { frames := 5, cells := 0, slots := 0, locals := 115 }, (some .int), "edgeIn")
theorem qS_L_edgeIn : MqS yL_edgeIn YL_edgeIn 3 := ⟨mT_L_edgeIn, mI_L, mK_L_edgeIn, by decide +kernel, by decide +kernel, by decide +kernel⟩
abbrev YL_isEdge : YX := (cL_isEdge, 7, RL, { frames := 4, cells := 0, slots := 0, locals := 89 }, (some .boolean), "isEdge")
theorem qS_L_isEdge : MqS yL_isEdge YL_isEdge 4 := ⟨mT_L_isEdge, mI_L, mK_L_isEdge, by decide +kernel, by decide +kernel, by decide +kernel⟩
abbrev YX3_reason : YX := (cX3_reason, 2, RX3, { frames := 3, cells := 0, slots := 0, locals := 66 }, (some .int), "reason")
theorem qV_X3_reason : MqV yX3_reason YX3_reason 1 := ⟨mM_X3_reason, mS_X3_reason, mI_X3, mK_X3_reason, by decide +kernel, by decide +kernel, by decide +kernel⟩
abbrev YX3_takes : YX := (cX3_takes, 2, RX3, { frames := 3, cells := 0, slots := 0, locals := 64 }, (some .int), "takes")
theorem qV_X3_takes : MqV yX3_takes YX3_takes 1 := ⟨mM_X3_takes, mS_X3_takes, mI_X3, mK_X3_takes, by decide +kernel, by decide +kernel, by decide +kernel⟩
abbrev YX3_coolsIn : YX := (cX3_coolsIn, 2, RX3, { frames := 4, cells := 0, slots := 0, locals := 90 }, (some .int), "coolsIn")
theorem qV_X3_coolsIn : MqV yX3_coolsIn YX3_coolsIn 1 := ⟨mM_X3_coolsIn, mS_X3_coolsIn, mI_X3, mK_X3_coolsIn, by decide +kernel, by decide +kernel, by decide +kernel⟩
abbrev YX3_best : YX := (cX3_best, 1, RX3, { frames := 4, cells := 0, slots := 0, locals := 90 }, (some .int), "best")
theorem qV_X3_best : MqV yX3_best YX3_best 0 := ⟨mM_X3_best, mS_X3_best, mI_X3, mK_X3_best, by decide +kernel, by decide +kernel, by decide +kernel⟩
abbrev YL_tries : YX := (cL_tries, 11, RL, { frames := 5, cells := 0, slots := 0, locals := 111 }, (some .boolean), "tries")
theorem qS_L_tries : MqS yL_tries YL_tries 2 := ⟨mT_L_tries, mI_L, mK_L_tries, by decide +kernel, by decide +kernel, by decide +kernel⟩
abbrev YL_goesThrough : YX := (cL_goesThrough, 9, RL, { frames := 7, cells := 1, slots := 12, locals := 158 }, (some .boolean), "goesThrough")
theorem qS_L_goesThrough : MqS yL_goesThrough YL_goesThrough 1 := ⟨mT_L_goesThrough, mI_L, mK_L_goesThrough, by decide +kernel, by decide +kernel, by decide +kernel⟩
abbrev YX3_ordered : YX := (cX3_ordered, 4, RX3, { frames := 6, cells := 0, slots := 0, locals := 135 }, (some .int), "ordered")
theorem qV_X3_ordered : MqV yX3_ordered YX3_ordered 1 := ⟨mM_X3_ordered, mS_X3_ordered, mI_X3, mK_X3_ordered, by decide +kernel, by decide +kernel, by decide +kernel⟩
end
section
/-! calls over the state: the answer and the state behind it told by name -/
section TCALLS
variable {G : GX} {y : YX} {E : State → Prop} {Z : ZX} {pc : Nat} {l : List (Nat × Value)} {stk : List Value} {ck sk : Nat}
variable {S S' : Nat → Sh} {B B' : Bc} {M M' : Md}
theorem x_back {n : Nat} {cs : Nat → va_E} {l' : List (Nat × Value)} (kk : XJ G y E Z pc l' stk n cs ck sk) (h : lsub l' l) : XJ G y E Z pc l stk n cs ck sk := x_sub h kk
theorem t_Vi {ynm : MethodName} {yc : YX} {idx o ci : Nat} {fs As rest : List Value} {T : u_T} {N : Nat} {w : Int32} (hM : Cs G ynm yc (.ref (gB G + o) :: As) S B M (some (.int w)) S' B' M') (hq : MqV ynm yc As.length) (hlink : Cond.methodLink y.2.2.1 idx ynm ∈ WS) (hd : decode y.1 pc = .ok (.invokevirtual idx, 3)) (hstk : stk = As.reverse ++ .ref (gB G + o) :: rest) (hcell : cellOf G S B M o = .inr (ci, fs)) (ho : o < (nN G)) (hc : vwCl[ci]? = some (ynm.cls, T, N)) (hrc : yc.2.2.2.1.cells = 0) (hrs : yc.2.2.2.1.slots = 0) (hR : yc.2.2.2.1.frames + 1 ≤ y.2.2.2.1.frames ∧ 8 + (yc.2.1 + 11) + yc.2.2.2.1.locals ≤ y.2.2.2.1.locals) (hW : (rest.map fun v => v.category).sum ≤ 8) (h1 : ck ≤ y.2.2.2.1.cells) (h2 : sk ≤ y.2.2.2.1.slots)
    (kk : XJ G y E Z (pc + 3) l (.int w :: rest) (nN G) (cellOf G S' B' M') ck sk) : XJ G y E Z pc l stk (nN G) (cellOf G S B M) ck sk :=
  x_callV hM hq hlink hd hstk hcell ho hc hrc hrs hR hW h1 h2 (fun v n' cs' h => by obtain ⟨rfl, rfl, rfl⟩ := h; exact kk)
theorem t_Vv {ynm : MethodName} {yc : YX} {idx o ci : Nat} {fs As rest : List Value} {T : u_T} {N : Nat} (hM : Cs G ynm yc (.ref (gB G + o) :: As) S B M none S' B' M') (hq : MqV ynm yc As.length) (hlink : Cond.methodLink y.2.2.1 idx ynm ∈ WS) (hd : decode y.1 pc = .ok (.invokevirtual idx, 3)) (hstk : stk = As.reverse ++ .ref (gB G + o) :: rest) (hcell : cellOf G S B M o = .inr (ci, fs)) (ho : o < (nN G)) (hc : vwCl[ci]? = some (ynm.cls, T, N)) (hrc : yc.2.2.2.1.cells = 0) (hrs : yc.2.2.2.1.slots = 0) (hR : yc.2.2.2.1.frames + 1 ≤ y.2.2.2.1.frames ∧ 8 + (yc.2.1 + 11) + yc.2.2.2.1.locals ≤ y.2.2.2.1.locals) (hW : (rest.map fun v => v.category).sum ≤ 8) (h1 : ck ≤ y.2.2.2.1.cells) (h2 : sk ≤ y.2.2.2.1.slots)
    (kk : XJ G y E Z (pc + 3) l rest (nN G) (cellOf G S' B' M') ck sk) : XJ G y E Z pc l stk (nN G) (cellOf G S B M) ck sk :=
  x_callV hM hq hlink hd hstk hcell ho hc hrc hrs hR hW h1 h2 (fun v n' cs' h => by obtain ⟨rfl, rfl, rfl⟩ := h; exact kk)
theorem t_Si {ynm : MethodName} {yc : YX} {idx : Nat} {As rest : List Value} {w : Int32} (hM : Cs G ynm yc As S B M (some (.int w)) S' B' M') (hq : MqS ynm yc As.length) (hlink : Cond.methodLink y.2.2.1 idx ynm ∈ WS) (hd : decode y.1 pc = .ok (.invokestatic idx, 3)) (hstk : stk = As.reverse ++ rest) (hrc : yc.2.2.2.1.cells = 0) (hrs : yc.2.2.2.1.slots = 0) (hR : yc.2.2.2.1.frames + 1 ≤ y.2.2.2.1.frames ∧ 8 + (yc.2.1 + 11) + yc.2.2.2.1.locals ≤ y.2.2.2.1.locals) (hW : (rest.map fun v => v.category).sum ≤ 8) (h1 : ck ≤ y.2.2.2.1.cells) (h2 : sk ≤ y.2.2.2.1.slots)
    (kk : XJ G y E Z (pc + 3) l (.int w :: rest) (nN G) (cellOf G S' B' M') ck sk) : XJ G y E Z pc l stk (nN G) (cellOf G S B M) ck sk :=
  x_callS hM hq hlink hd hstk hrc hrs hR hW h1 h2 (fun v n' cs' h => by obtain ⟨rfl, rfl, rfl⟩ := h; exact kk)
theorem t_Ni {ynm : MethodName} {yc : YX} {idx : Nat} {As rest : List Value} {w : Int32} {host : String} (hM : Cs G ynm yc As S B M (some (.int w)) S' B' M') (hq : MqS ynm yc As.length) (hlink : ∀ s, Kx G s → va_Nw (.methodLinkNest y.2.2.1 idx ynm host) s) (hd : decode y.1 pc = .ok (.invokestatic idx, 3)) (hstk : stk = As.reverse ++ rest) (hrc : yc.2.2.2.1.cells = 0) (hrs : yc.2.2.2.1.slots = 0) (hR : yc.2.2.2.1.frames + 1 ≤ y.2.2.2.1.frames ∧ 8 + (yc.2.1 + 11) + yc.2.2.2.1.locals ≤ y.2.2.2.1.locals) (hW : (rest.map fun v => v.category).sum ≤ 8) (h1 : ck ≤ y.2.2.2.1.cells) (h2 : sk ≤ y.2.2.2.1.slots)
    (kk : XJ G y E Z (pc + 3) l (.int w :: rest) (nN G) (cellOf G S' B' M') ck sk) : XJ G y E Z pc l stk (nN G) (cellOf G S B M) ck sk :=
  x_callN hM hq hlink hd hstk hrc hrs hR hW h1 h2 (fun v n' cs' h => by obtain ⟨rfl, rfl, rfl⟩ := h; exact kk)
end TCALLS
/-! numbers -/
def imx (a b : Int32) : Int32 := if a < b then b else a
def imn (a b : Int32) : Int32 := if b < a then b else a
def iab (a : Int32) : Int32 := if 0 ≤ a then a else 0 - a
def bI (b : Bool) : Int32 := if b then 1 else 0
def b01 (b : Bool) : Int32 := if b then 1 else 0
def betw (v a b : Int32) : Bool := !decide (v < a) && !decide (b < v)
theorem not_lt' {a b : Int32} (h : ¬ a < b) : b ≤ a := Int32.not_lt.mp h
theorem inc_nI (k : Nat) : nI k + 1 = nI (k + 1) := nI_1 k
theorem lt_nI {a b : Nat} (ha : a < 2 ^ 31) (hb : b < 2 ^ 31) : nI a < nI b ↔ a < b := nI_ltI ha hb
end
section
/-! the class: isIn, Shape (rows laid by wip/whole/p10.py) -/
section SHAPE
variable {G : GX} {S : Nat → Sh} {B : Bc} {M : Md} {j i : Nat} {σ : Sh}

def insB (f g : Fs) : Bool := decide (g 0 < f 0) && decide (f 0 + f 2 < g 0 + g 2) && decide (g 1 < f 1) && decide (f 1 + f 3 < g 1 + g 3)
def apaB (f g : Fs) : Bool := !decide (g 0 < f 0 + f 2) || !decide (f 0 < g 0 + g 2) || !decide (g 1 < f 1 + f 3) || !decide (f 1 < g 1 + g 3)
def edgV (f : Fs) : Int32 := 2 * (f 2 + f 3) - 4
def lcV (f : Fs) : Int32 := if f 4 = 1 ∨ f 4 = 2 then f 0 + f 2 - 1 else f 0
def lrV (f : Fs) : Int32 := if f 4 = 2 ∨ f 4 = 3 then f 1 + f 3 - 1 else f 1
def lsV (f : Fs) : Int32 := lcV f / 8 + 4 * (lrV f / 8)
def fcV (f : Fs) (q m : Int32) : Int32 := imn (f 0 + f 2 - m) ((q - q / 4 * 4) * 8 + 8) - imx (f 0 + m) ((q - q / 4 * 4) * 8)
def frV (f : Fs) (q m : Int32) : Int32 := imn (f 1 + f 3 - m) (q / 4 * 8 + 8) - imx (f 1 + m) (q / 4 * 8)
def fldV (f : Fs) (q m : Int32) : Int32 := imx (fcV f q m) 0 * imx (frV f q m) 0
def edgQ (f : Fs) (k : Nat) : Int32 := fldV f (nI k) 0 - fldV f (nI k) 1
set_option maxHeartbeats 4000000 in
set_option maxRecDepth 100000 in
theorem c_X3_isIn (v a b : Int32) : Ct G yX3_isIn YX3_isIn 0 0 [.int v, .int a, .int b] (nN G) (cellOf G S B M) (Rt G (some (.int (b01 (betw v a b)))) S B M) := by
  refine ct_of (by decide +kernel) rfl rfl (Nat.le_of_ble_eq_true rfl) (by simp [Value.category]) ?_
  refine x_sub (l' := [(0, .int v), (1, .int a), (2, .int b)]) ⟨rfl, rfl, rfl, trivial⟩ ?_
  refine x_iload_n (pc := 0) dX3_isIn_0 rfl ?_
  refine x_iload_n (pc := 1) dX3_isIn_1 rfl ?_
  refine x_cmplt (pc := 2) 14 dX3_isIn_2 (by decide) (fun c2 => ?_) (fun c2 => ?_)
  · refine x_iconst (pc := 14) (0) dX3_isIn_14 (by decide) ?_
    exact x_zret rfl rfl dX3_isIn_15 ⟨by simp only [b01, betw, *, decide_true, decide_false, decide_not, Bool.and_true, Bool.true_and, Bool.and_false, Bool.false_and, Bool.or_true, Bool.true_or, Bool.or_false, Bool.false_or, Bool.not_true, Bool.not_false, if_true, if_false, not_true, not_false_eq_true, not_false_iff, Bool.false_eq_true, reduceIte, or_true, true_or, or_false, false_or, and_true, true_and, and_false, false_and, ite_self], rfl, rfl⟩
  · refine x_iload_n (pc := 5) dX3_isIn_5 rfl ?_
    refine x_iload_n (pc := 6) dX3_isIn_6 rfl ?_
    refine x_cmpgt (pc := 7) 14 dX3_isIn_7 (by decide) (fun c7 => ?_) (fun c7 => ?_)
    · refine x_iconst (pc := 14) (0) dX3_isIn_14 (by decide) ?_
      exact x_zret rfl rfl dX3_isIn_15 ⟨by simp only [b01, betw, *, decide_true, decide_false, decide_not, Bool.and_true, Bool.true_and, Bool.and_false, Bool.false_and, Bool.or_true, Bool.true_or, Bool.or_false, Bool.false_or, Bool.not_true, Bool.not_false, if_true, if_false, not_true, not_false_eq_true, not_false_iff, Bool.false_eq_true, reduceIte, or_true, true_or, or_false, false_or, and_true, true_and, and_false, false_and, ite_self], rfl, rfl⟩
    · refine x_iconst (pc := 10) (1) dX3_isIn_10 (by decide) ?_
      refine x_goto (pc := 11) 15 dX3_isIn_11 (by decide) ?_
      exact x_zret rfl rfl dX3_isIn_15 ⟨by simp only [b01, betw, *, decide_true, decide_false, decide_not, Bool.and_true, Bool.true_and, Bool.and_false, Bool.false_and, Bool.or_true, Bool.true_or, Bool.or_false, Bool.false_or, Bool.not_true, Bool.not_false, if_true, if_false, not_true, not_false_eq_true, not_false_iff, Bool.false_eq_true, reduceIte, or_true, true_or, or_false, false_or, and_true, true_and, and_false, false_and, ite_self], rfl, rfl⟩
set_option maxHeartbeats 4000000 in
set_option maxRecDepth 100000 in
theorem c_X1_isInside {i2 : Nat} (hj : j < 8) (hi : i < 13) (hi2 : i2 < 13) : Ct G yX1_isInside YX1_isInside 0 0 [.ref (gB G + shO j i), .ref (gB G + shO j i2)] (nN G) (cellOf G (updS S j σ) B M) (Rt G (some (.int (b01 (insB (σ.2.2.2.1 i) (σ.2.2.2.1 i2))))) (updS S j σ) B M) := by
  refine ct_of (by decide +kernel) rfl rfl (Nat.le_of_ble_eq_true rfl) (by simp [Value.category]) ?_
  refine x_sub (l' := [(0, .ref (gB G + shO j i)), (1, .ref (gB G + shO j i2))]) ⟨rfl, rfl, trivial⟩ ?_
  refine x_aload_n (pc := 0) dX1_isInside_0 rfl ?_
  refine x_get (pc := 1) (ci := 1) (k := 0) (C := RX1) (T := TX1) (N := 9) (cell_shape (by first | assumption | omega) (by first | assumption | omega)) rfl (shO_255 (by first | assumption | omega) (by first | assumption | omega)) rfl nX1 (by decide) mF_X1_9 rfl dX1_isInside_1 ?_
  refine x_aload_n (pc := 4) dX1_isInside_4 rfl ?_
  refine x_get (pc := 5) (ci := 1) (k := 0) (C := RX1) (T := TX1) (N := 9) (cell_shape (by first | assumption | omega) (by first | assumption | omega)) rfl (shO_255 (by first | assumption | omega) (by first | assumption | omega)) rfl nX1 (by decide) mF_X1_9 rfl dX1_isInside_5 ?_
  refine x_cmple (pc := 8) 68 dX1_isInside_8 (by decide) (fun c8 => ?_) (fun c8 => ?_)
  · refine x_iconst (pc := 68) (0) dX1_isInside_68 (by decide) ?_
    exact x_zret rfl rfl dX1_isInside_69 ⟨by simp only [b01, insB, *, decide_true, decide_false, decide_not, Bool.and_true, Bool.true_and, Bool.and_false, Bool.false_and, Bool.or_true, Bool.true_or, Bool.or_false, Bool.false_or, Bool.not_true, Bool.not_false, if_true, if_false, not_true, not_false_eq_true, not_false_iff, Bool.false_eq_true, reduceIte, or_true, true_or, or_false, false_or, and_true, true_and, and_false, false_and, ite_self], rfl, rfl⟩
  · refine x_aload_n (pc := 11) dX1_isInside_11 rfl ?_
    refine x_get (pc := 12) (ci := 1) (k := 0) (C := RX1) (T := TX1) (N := 9) (cell_shape (by first | assumption | omega) (by first | assumption | omega)) rfl (shO_255 (by first | assumption | omega) (by first | assumption | omega)) rfl nX1 (by decide) mF_X1_9 rfl dX1_isInside_12 ?_
    refine x_aload_n (pc := 15) dX1_isInside_15 rfl ?_
    refine x_get (pc := 16) (ci := 1) (k := 2) (C := RX1) (T := TX1) (N := 9) (cell_shape (by first | assumption | omega) (by first | assumption | omega)) rfl (shO_255 (by first | assumption | omega) (by first | assumption | omega)) rfl nX1 (by decide) mF_X1_18 rfl dX1_isInside_16 ?_
    refine x_iadd (pc := 19) dX1_isInside_19 ?_
    refine x_aload_n (pc := 20) dX1_isInside_20 rfl ?_
    refine x_get (pc := 21) (ci := 1) (k := 0) (C := RX1) (T := TX1) (N := 9) (cell_shape (by first | assumption | omega) (by first | assumption | omega)) rfl (shO_255 (by first | assumption | omega) (by first | assumption | omega)) rfl nX1 (by decide) mF_X1_9 rfl dX1_isInside_21 ?_
    refine x_aload_n (pc := 24) dX1_isInside_24 rfl ?_
    refine x_get (pc := 25) (ci := 1) (k := 2) (C := RX1) (T := TX1) (N := 9) (cell_shape (by first | assumption | omega) (by first | assumption | omega)) rfl (shO_255 (by first | assumption | omega) (by first | assumption | omega)) rfl nX1 (by decide) mF_X1_18 rfl dX1_isInside_25 ?_
    refine x_iadd (pc := 28) dX1_isInside_28 ?_
    refine x_cmpge (pc := 29) 68 dX1_isInside_29 (by decide) (fun c29 => ?_) (fun c29 => ?_)
    · refine x_iconst (pc := 68) (0) dX1_isInside_68 (by decide) ?_
      exact x_zret rfl rfl dX1_isInside_69 ⟨by simp only [b01, insB, *, decide_true, decide_false, decide_not, Bool.and_true, Bool.true_and, Bool.and_false, Bool.false_and, Bool.or_true, Bool.true_or, Bool.or_false, Bool.false_or, Bool.not_true, Bool.not_false, if_true, if_false, not_true, not_false_eq_true, not_false_iff, Bool.false_eq_true, reduceIte, or_true, true_or, or_false, false_or, and_true, true_and, and_false, false_and, ite_self], rfl, rfl⟩
    · refine x_aload_n (pc := 32) dX1_isInside_32 rfl ?_
      refine x_get (pc := 33) (ci := 1) (k := 1) (C := RX1) (T := TX1) (N := 9) (cell_shape (by first | assumption | omega) (by first | assumption | omega)) rfl (shO_255 (by first | assumption | omega) (by first | assumption | omega)) rfl nX1 (by decide) mF_X1_15 rfl dX1_isInside_33 ?_
      refine x_aload_n (pc := 36) dX1_isInside_36 rfl ?_
      refine x_get (pc := 37) (ci := 1) (k := 1) (C := RX1) (T := TX1) (N := 9) (cell_shape (by first | assumption | omega) (by first | assumption | omega)) rfl (shO_255 (by first | assumption | omega) (by first | assumption | omega)) rfl nX1 (by decide) mF_X1_15 rfl dX1_isInside_37 ?_
      refine x_cmple (pc := 40) 68 dX1_isInside_40 (by decide) (fun c40 => ?_) (fun c40 => ?_)
      · refine x_iconst (pc := 68) (0) dX1_isInside_68 (by decide) ?_
        exact x_zret rfl rfl dX1_isInside_69 ⟨by simp only [b01, insB, *, decide_true, decide_false, decide_not, Bool.and_true, Bool.true_and, Bool.and_false, Bool.false_and, Bool.or_true, Bool.true_or, Bool.or_false, Bool.false_or, Bool.not_true, Bool.not_false, if_true, if_false, not_true, not_false_eq_true, not_false_iff, Bool.false_eq_true, reduceIte, or_true, true_or, or_false, false_or, and_true, true_and, and_false, false_and, ite_self], rfl, rfl⟩
      · refine x_aload_n (pc := 43) dX1_isInside_43 rfl ?_
        refine x_get (pc := 44) (ci := 1) (k := 1) (C := RX1) (T := TX1) (N := 9) (cell_shape (by first | assumption | omega) (by first | assumption | omega)) rfl (shO_255 (by first | assumption | omega) (by first | assumption | omega)) rfl nX1 (by decide) mF_X1_15 rfl dX1_isInside_44 ?_
        refine x_aload_n (pc := 47) dX1_isInside_47 rfl ?_
        refine x_get (pc := 48) (ci := 1) (k := 3) (C := RX1) (T := TX1) (N := 9) (cell_shape (by first | assumption | omega) (by first | assumption | omega)) rfl (shO_255 (by first | assumption | omega) (by first | assumption | omega)) rfl nX1 (by decide) mF_X1_21 rfl dX1_isInside_48 ?_
        refine x_iadd (pc := 51) dX1_isInside_51 ?_
        refine x_aload_n (pc := 52) dX1_isInside_52 rfl ?_
        refine x_get (pc := 53) (ci := 1) (k := 1) (C := RX1) (T := TX1) (N := 9) (cell_shape (by first | assumption | omega) (by first | assumption | omega)) rfl (shO_255 (by first | assumption | omega) (by first | assumption | omega)) rfl nX1 (by decide) mF_X1_15 rfl dX1_isInside_53 ?_
        refine x_aload_n (pc := 56) dX1_isInside_56 rfl ?_
        refine x_get (pc := 57) (ci := 1) (k := 3) (C := RX1) (T := TX1) (N := 9) (cell_shape (by first | assumption | omega) (by first | assumption | omega)) rfl (shO_255 (by first | assumption | omega) (by first | assumption | omega)) rfl nX1 (by decide) mF_X1_21 rfl dX1_isInside_57 ?_
        refine x_iadd (pc := 60) dX1_isInside_60 ?_
        refine x_cmpge (pc := 61) 68 dX1_isInside_61 (by decide) (fun c61 => ?_) (fun c61 => ?_)
        · refine x_iconst (pc := 68) (0) dX1_isInside_68 (by decide) ?_
          exact x_zret rfl rfl dX1_isInside_69 ⟨by simp only [b01, insB, *, decide_true, decide_false, decide_not, Bool.and_true, Bool.true_and, Bool.and_false, Bool.false_and, Bool.or_true, Bool.true_or, Bool.or_false, Bool.false_or, Bool.not_true, Bool.not_false, if_true, if_false, not_true, not_false_eq_true, not_false_iff, Bool.false_eq_true, reduceIte, or_true, true_or, or_false, false_or, and_true, true_and, and_false, false_and, ite_self], rfl, rfl⟩
        · refine x_iconst (pc := 64) (1) dX1_isInside_64 (by decide) ?_
          refine x_goto (pc := 65) 69 dX1_isInside_65 (by decide) ?_
          exact x_zret rfl rfl dX1_isInside_69 ⟨by simp only [b01, insB, *, decide_true, decide_false, decide_not, Bool.and_true, Bool.true_and, Bool.and_false, Bool.false_and, Bool.or_true, Bool.true_or, Bool.or_false, Bool.false_or, Bool.not_true, Bool.not_false, if_true, if_false, not_true, not_false_eq_true, not_false_iff, Bool.false_eq_true, reduceIte, or_true, true_or, or_false, false_or, and_true, true_and, and_false, false_and, ite_self], rfl, rfl⟩
set_option maxHeartbeats 4000000 in
set_option maxRecDepth 100000 in
theorem c_X1_isApartFrom {i2 : Nat} (hj : j < 8) (hi : i < 13) (hi2 : i2 < 13) : Ct G yX1_isApartFrom YX1_isApartFrom 0 0 [.ref (gB G + shO j i), .ref (gB G + shO j i2)] (nN G) (cellOf G (updS S j σ) B M) (Rt G (some (.int (b01 (apaB (σ.2.2.2.1 i) (σ.2.2.2.1 i2))))) (updS S j σ) B M) := by
  refine ct_of (by decide +kernel) rfl rfl (Nat.le_of_ble_eq_true rfl) (by simp [Value.category]) ?_
  refine x_sub (l' := [(0, .ref (gB G + shO j i)), (1, .ref (gB G + shO j i2))]) ⟨rfl, rfl, trivial⟩ ?_
  refine x_aload_n (pc := 0) dX1_isApartFrom_0 rfl ?_
  refine x_get (pc := 1) (ci := 1) (k := 0) (C := RX1) (T := TX1) (N := 9) (cell_shape (by first | assumption | omega) (by first | assumption | omega)) rfl (shO_255 (by first | assumption | omega) (by first | assumption | omega)) rfl nX1 (by decide) mF_X1_9 rfl dX1_isApartFrom_1 ?_
  refine x_aload_n (pc := 4) dX1_isApartFrom_4 rfl ?_
  refine x_get (pc := 5) (ci := 1) (k := 2) (C := RX1) (T := TX1) (N := 9) (cell_shape (by first | assumption | omega) (by first | assumption | omega)) rfl (shO_255 (by first | assumption | omega) (by first | assumption | omega)) rfl nX1 (by decide) mF_X1_18 rfl dX1_isApartFrom_5 ?_
  refine x_iadd (pc := 8) dX1_isApartFrom_8 ?_
  refine x_aload_n (pc := 9) dX1_isApartFrom_9 rfl ?_
  refine x_get (pc := 10) (ci := 1) (k := 0) (C := RX1) (T := TX1) (N := 9) (cell_shape (by first | assumption | omega) (by first | assumption | omega)) rfl (shO_255 (by first | assumption | omega) (by first | assumption | omega)) rfl nX1 (by decide) mF_X1_9 rfl dX1_isApartFrom_10 ?_
  refine x_cmple (pc := 13) 64 dX1_isApartFrom_13 (by decide) (fun c13 => ?_) (fun c13 => ?_)
  · refine x_iconst (pc := 64) (1) dX1_isApartFrom_64 (by decide) ?_
    refine x_goto (pc := 65) 69 dX1_isApartFrom_65 (by decide) ?_
    exact x_zret rfl rfl dX1_isApartFrom_69 ⟨by simp only [b01, apaB, *, decide_true, decide_false, decide_not, Bool.and_true, Bool.true_and, Bool.and_false, Bool.false_and, Bool.or_true, Bool.true_or, Bool.or_false, Bool.false_or, Bool.not_true, Bool.not_false, if_true, if_false, not_true, not_false_eq_true, not_false_iff, Bool.false_eq_true, reduceIte, or_true, true_or, or_false, false_or, and_true, true_and, and_false, false_and, ite_self], rfl, rfl⟩
  · refine x_aload_n (pc := 16) dX1_isApartFrom_16 rfl ?_
    refine x_get (pc := 17) (ci := 1) (k := 0) (C := RX1) (T := TX1) (N := 9) (cell_shape (by first | assumption | omega) (by first | assumption | omega)) rfl (shO_255 (by first | assumption | omega) (by first | assumption | omega)) rfl nX1 (by decide) mF_X1_9 rfl dX1_isApartFrom_17 ?_
    refine x_aload_n (pc := 20) dX1_isApartFrom_20 rfl ?_
    refine x_get (pc := 21) (ci := 1) (k := 2) (C := RX1) (T := TX1) (N := 9) (cell_shape (by first | assumption | omega) (by first | assumption | omega)) rfl (shO_255 (by first | assumption | omega) (by first | assumption | omega)) rfl nX1 (by decide) mF_X1_18 rfl dX1_isApartFrom_21 ?_
    refine x_iadd (pc := 24) dX1_isApartFrom_24 ?_
    refine x_aload_n (pc := 25) dX1_isApartFrom_25 rfl ?_
    refine x_get (pc := 26) (ci := 1) (k := 0) (C := RX1) (T := TX1) (N := 9) (cell_shape (by first | assumption | omega) (by first | assumption | omega)) rfl (shO_255 (by first | assumption | omega) (by first | assumption | omega)) rfl nX1 (by decide) mF_X1_9 rfl dX1_isApartFrom_26 ?_
    refine x_cmple (pc := 29) 64 dX1_isApartFrom_29 (by decide) (fun c29 => ?_) (fun c29 => ?_)
    · refine x_iconst (pc := 64) (1) dX1_isApartFrom_64 (by decide) ?_
      refine x_goto (pc := 65) 69 dX1_isApartFrom_65 (by decide) ?_
      exact x_zret rfl rfl dX1_isApartFrom_69 ⟨by simp only [b01, apaB, *, decide_true, decide_false, decide_not, Bool.and_true, Bool.true_and, Bool.and_false, Bool.false_and, Bool.or_true, Bool.true_or, Bool.or_false, Bool.false_or, Bool.not_true, Bool.not_false, if_true, if_false, not_true, not_false_eq_true, not_false_iff, Bool.false_eq_true, reduceIte, or_true, true_or, or_false, false_or, and_true, true_and, and_false, false_and, ite_self], rfl, rfl⟩
    · refine x_aload_n (pc := 32) dX1_isApartFrom_32 rfl ?_
      refine x_get (pc := 33) (ci := 1) (k := 1) (C := RX1) (T := TX1) (N := 9) (cell_shape (by first | assumption | omega) (by first | assumption | omega)) rfl (shO_255 (by first | assumption | omega) (by first | assumption | omega)) rfl nX1 (by decide) mF_X1_15 rfl dX1_isApartFrom_33 ?_
      refine x_aload_n (pc := 36) dX1_isApartFrom_36 rfl ?_
      refine x_get (pc := 37) (ci := 1) (k := 3) (C := RX1) (T := TX1) (N := 9) (cell_shape (by first | assumption | omega) (by first | assumption | omega)) rfl (shO_255 (by first | assumption | omega) (by first | assumption | omega)) rfl nX1 (by decide) mF_X1_21 rfl dX1_isApartFrom_37 ?_
      refine x_iadd (pc := 40) dX1_isApartFrom_40 ?_
      refine x_aload_n (pc := 41) dX1_isApartFrom_41 rfl ?_
      refine x_get (pc := 42) (ci := 1) (k := 1) (C := RX1) (T := TX1) (N := 9) (cell_shape (by first | assumption | omega) (by first | assumption | omega)) rfl (shO_255 (by first | assumption | omega) (by first | assumption | omega)) rfl nX1 (by decide) mF_X1_15 rfl dX1_isApartFrom_42 ?_
      refine x_cmple (pc := 45) 64 dX1_isApartFrom_45 (by decide) (fun c45 => ?_) (fun c45 => ?_)
      · refine x_iconst (pc := 64) (1) dX1_isApartFrom_64 (by decide) ?_
        refine x_goto (pc := 65) 69 dX1_isApartFrom_65 (by decide) ?_
        exact x_zret rfl rfl dX1_isApartFrom_69 ⟨by simp only [b01, apaB, *, decide_true, decide_false, decide_not, Bool.and_true, Bool.true_and, Bool.and_false, Bool.false_and, Bool.or_true, Bool.true_or, Bool.or_false, Bool.false_or, Bool.not_true, Bool.not_false, if_true, if_false, not_true, not_false_eq_true, not_false_iff, Bool.false_eq_true, reduceIte, or_true, true_or, or_false, false_or, and_true, true_and, and_false, false_and, ite_self], rfl, rfl⟩
      · refine x_aload_n (pc := 48) dX1_isApartFrom_48 rfl ?_
        refine x_get (pc := 49) (ci := 1) (k := 1) (C := RX1) (T := TX1) (N := 9) (cell_shape (by first | assumption | omega) (by first | assumption | omega)) rfl (shO_255 (by first | assumption | omega) (by first | assumption | omega)) rfl nX1 (by decide) mF_X1_15 rfl dX1_isApartFrom_49 ?_
        refine x_aload_n (pc := 52) dX1_isApartFrom_52 rfl ?_
        refine x_get (pc := 53) (ci := 1) (k := 3) (C := RX1) (T := TX1) (N := 9) (cell_shape (by first | assumption | omega) (by first | assumption | omega)) rfl (shO_255 (by first | assumption | omega) (by first | assumption | omega)) rfl nX1 (by decide) mF_X1_21 rfl dX1_isApartFrom_53 ?_
        refine x_iadd (pc := 56) dX1_isApartFrom_56 ?_
        refine x_aload_n (pc := 57) dX1_isApartFrom_57 rfl ?_
        refine x_get (pc := 58) (ci := 1) (k := 1) (C := RX1) (T := TX1) (N := 9) (cell_shape (by first | assumption | omega) (by first | assumption | omega)) rfl (shO_255 (by first | assumption | omega) (by first | assumption | omega)) rfl nX1 (by decide) mF_X1_15 rfl dX1_isApartFrom_58 ?_
        refine x_cmpgt (pc := 61) 68 dX1_isApartFrom_61 (by decide) (fun c61 => ?_) (fun c61 => ?_)
        · refine x_iconst (pc := 68) (0) dX1_isApartFrom_68 (by decide) ?_
          exact x_zret rfl rfl dX1_isApartFrom_69 ⟨by simp only [b01, apaB, *, decide_true, decide_false, decide_not, Bool.and_true, Bool.true_and, Bool.and_false, Bool.false_and, Bool.or_true, Bool.true_or, Bool.or_false, Bool.false_or, Bool.not_true, Bool.not_false, if_true, if_false, not_true, not_false_eq_true, not_false_iff, Bool.false_eq_true, reduceIte, or_true, true_or, or_false, false_or, and_true, true_and, and_false, false_and, ite_self], rfl, rfl⟩
        · refine x_iconst (pc := 64) (1) dX1_isApartFrom_64 (by decide) ?_
          refine x_goto (pc := 65) 69 dX1_isApartFrom_65 (by decide) ?_
          exact x_zret rfl rfl dX1_isApartFrom_69 ⟨by simp only [b01, apaB, *, decide_true, decide_false, decide_not, Bool.and_true, Bool.true_and, Bool.and_false, Bool.false_and, Bool.or_true, Bool.true_or, Bool.or_false, Bool.false_or, Bool.not_true, Bool.not_false, if_true, if_false, not_true, not_false_eq_true, not_false_iff, Bool.false_eq_true, reduceIte, or_true, true_or, or_false, false_or, and_true, true_and, and_false, false_and, ite_self], rfl, rfl⟩
set_option maxHeartbeats 4000000 in
set_option maxRecDepth 100000 in
theorem c_X1_edge (hj : j < 8) (hi : i < 13) : Ct G yX1_edge YX1_edge 0 0 [.ref (gB G + shO j i)] (nN G) (cellOf G (updS S j σ) B M) (Rt G (some (.int (edgV (σ.2.2.2.1 i)))) (updS S j σ) B M) := by
  refine ct_of (by decide +kernel) rfl rfl (Nat.le_of_ble_eq_true rfl) (by simp [Value.category]) ?_
  refine x_sub (l' := [(0, .ref (gB G + shO j i))]) ⟨rfl, trivial⟩ ?_
  refine x_iconst (pc := 0) (2) dX1_edge_0 (by decide) ?_
  refine x_aload_n (pc := 1) dX1_edge_1 rfl ?_
  refine x_get (pc := 2) (ci := 1) (k := 2) (C := RX1) (T := TX1) (N := 9) (cell_shape (by first | assumption | omega) (by first | assumption | omega)) rfl (shO_255 (by first | assumption | omega) (by first | assumption | omega)) rfl nX1 (by decide) mF_X1_18 rfl dX1_edge_2 ?_
  refine x_aload_n (pc := 5) dX1_edge_5 rfl ?_
  refine x_get (pc := 6) (ci := 1) (k := 3) (C := RX1) (T := TX1) (N := 9) (cell_shape (by first | assumption | omega) (by first | assumption | omega)) rfl (shO_255 (by first | assumption | omega) (by first | assumption | omega)) rfl nX1 (by decide) mF_X1_21 rfl dX1_edge_6 ?_
  refine x_iadd (pc := 9) dX1_edge_9 ?_
  refine x_imul (pc := 10) dX1_edge_10 ?_
  refine x_iconst (pc := 11) (4) dX1_edge_11 (by decide) ?_
  refine x_isub (pc := 12) dX1_edge_12 ?_
  exact x_iret rfl dX1_edge_13 ⟨by rfl, rfl, rfl⟩
set_option maxHeartbeats 4000000 in
set_option maxRecDepth 100000 in
theorem c_X1_leadColumn (hj : j < 8) (hi : i < 13) : Ct G yX1_leadColumn YX1_leadColumn 0 0 [.ref (gB G + shO j i)] (nN G) (cellOf G (updS S j σ) B M) (Rt G (some (.int (lcV (σ.2.2.2.1 i)))) (updS S j σ) B M) := by
  refine ct_of (by decide +kernel) rfl rfl (Nat.le_of_ble_eq_true rfl) (by simp [Value.category]) ?_
  refine x_sub (l' := [(0, .ref (gB G + shO j i))]) ⟨rfl, trivial⟩ ?_
  refine x_aload_n (pc := 0) dX1_leadColumn_0 rfl ?_
  refine x_get (pc := 1) (ci := 1) (k := 4) (C := RX1) (T := TX1) (N := 9) (cell_shape (by first | assumption | omega) (by first | assumption | omega)) rfl (shO_255 (by first | assumption | omega) (by first | assumption | omega)) rfl nX1 (by decide) mF_X1_24 rfl dX1_leadColumn_1 ?_
  refine x_iconst (pc := 4) (1) dX1_leadColumn_4 (by decide) ?_
  refine x_cmpeq (pc := 5) 16 dX1_leadColumn_5 (by decide) (fun c5 => ?_) (fun c5 => ?_)
  · refine x_aload_n (pc := 16) dX1_leadColumn_16 rfl ?_
    refine x_get (pc := 17) (ci := 1) (k := 0) (C := RX1) (T := TX1) (N := 9) (cell_shape (by first | assumption | omega) (by first | assumption | omega)) rfl (shO_255 (by first | assumption | omega) (by first | assumption | omega)) rfl nX1 (by decide) mF_X1_9 rfl dX1_leadColumn_17 ?_
    refine x_aload_n (pc := 20) dX1_leadColumn_20 rfl ?_
    refine x_get (pc := 21) (ci := 1) (k := 2) (C := RX1) (T := TX1) (N := 9) (cell_shape (by first | assumption | omega) (by first | assumption | omega)) rfl (shO_255 (by first | assumption | omega) (by first | assumption | omega)) rfl nX1 (by decide) mF_X1_18 rfl dX1_leadColumn_21 ?_
    refine x_iadd (pc := 24) dX1_leadColumn_24 ?_
    refine x_iconst (pc := 25) (1) dX1_leadColumn_25 (by decide) ?_
    refine x_isub (pc := 26) dX1_leadColumn_26 ?_
    refine x_goto (pc := 27) 34 dX1_leadColumn_27 (by decide) ?_
    exact x_iret rfl dX1_leadColumn_34 ⟨by simp only [lcV, *, decide_true, decide_false, decide_not, Bool.and_true, Bool.true_and, Bool.and_false, Bool.false_and, Bool.or_true, Bool.true_or, Bool.or_false, Bool.false_or, Bool.not_true, Bool.not_false, if_true, if_false, not_true, not_false_eq_true, not_false_iff, Bool.false_eq_true, reduceIte, or_true, true_or, or_false, false_or, and_true, true_and, and_false, false_and, ite_self], rfl, rfl⟩
  · refine x_aload_n (pc := 8) dX1_leadColumn_8 rfl ?_
    refine x_get (pc := 9) (ci := 1) (k := 4) (C := RX1) (T := TX1) (N := 9) (cell_shape (by first | assumption | omega) (by first | assumption | omega)) rfl (shO_255 (by first | assumption | omega) (by first | assumption | omega)) rfl nX1 (by decide) mF_X1_24 rfl dX1_leadColumn_9 ?_
    refine x_iconst (pc := 12) (2) dX1_leadColumn_12 (by decide) ?_
    refine x_cmpne (pc := 13) 30 dX1_leadColumn_13 (by decide) (fun c13 => ?_) (fun c13 => ?_)
    · refine x_aload_n (pc := 30) dX1_leadColumn_30 rfl ?_
      refine x_get (pc := 31) (ci := 1) (k := 0) (C := RX1) (T := TX1) (N := 9) (cell_shape (by first | assumption | omega) (by first | assumption | omega)) rfl (shO_255 (by first | assumption | omega) (by first | assumption | omega)) rfl nX1 (by decide) mF_X1_9 rfl dX1_leadColumn_31 ?_
      exact x_iret rfl dX1_leadColumn_34 ⟨by simp only [lcV, *, decide_true, decide_false, decide_not, Bool.and_true, Bool.true_and, Bool.and_false, Bool.false_and, Bool.or_true, Bool.true_or, Bool.or_false, Bool.false_or, Bool.not_true, Bool.not_false, if_true, if_false, not_true, not_false_eq_true, not_false_iff, Bool.false_eq_true, reduceIte, or_true, true_or, or_false, false_or, and_true, true_and, and_false, false_and, ite_self], rfl, rfl⟩
    · refine x_aload_n (pc := 16) dX1_leadColumn_16 rfl ?_
      refine x_get (pc := 17) (ci := 1) (k := 0) (C := RX1) (T := TX1) (N := 9) (cell_shape (by first | assumption | omega) (by first | assumption | omega)) rfl (shO_255 (by first | assumption | omega) (by first | assumption | omega)) rfl nX1 (by decide) mF_X1_9 rfl dX1_leadColumn_17 ?_
      refine x_aload_n (pc := 20) dX1_leadColumn_20 rfl ?_
      refine x_get (pc := 21) (ci := 1) (k := 2) (C := RX1) (T := TX1) (N := 9) (cell_shape (by first | assumption | omega) (by first | assumption | omega)) rfl (shO_255 (by first | assumption | omega) (by first | assumption | omega)) rfl nX1 (by decide) mF_X1_18 rfl dX1_leadColumn_21 ?_
      refine x_iadd (pc := 24) dX1_leadColumn_24 ?_
      refine x_iconst (pc := 25) (1) dX1_leadColumn_25 (by decide) ?_
      refine x_isub (pc := 26) dX1_leadColumn_26 ?_
      refine x_goto (pc := 27) 34 dX1_leadColumn_27 (by decide) ?_
      exact x_iret rfl dX1_leadColumn_34 ⟨by simp only [lcV, *, decide_true, decide_false, decide_not, Bool.and_true, Bool.true_and, Bool.and_false, Bool.false_and, Bool.or_true, Bool.true_or, Bool.or_false, Bool.false_or, Bool.not_true, Bool.not_false, if_true, if_false, not_true, not_false_eq_true, not_false_iff, Bool.false_eq_true, reduceIte, or_true, true_or, or_false, false_or, and_true, true_and, and_false, false_and, ite_self], rfl, rfl⟩
set_option maxHeartbeats 4000000 in
set_option maxRecDepth 100000 in
theorem c_X1_leadRow (hj : j < 8) (hi : i < 13) : Ct G yX1_leadRow YX1_leadRow 0 0 [.ref (gB G + shO j i)] (nN G) (cellOf G (updS S j σ) B M) (Rt G (some (.int (lrV (σ.2.2.2.1 i)))) (updS S j σ) B M) := by
  refine ct_of (by decide +kernel) rfl rfl (Nat.le_of_ble_eq_true rfl) (by simp [Value.category]) ?_
  refine x_sub (l' := [(0, .ref (gB G + shO j i))]) ⟨rfl, trivial⟩ ?_
  refine x_aload_n (pc := 0) dX1_leadRow_0 rfl ?_
  refine x_get (pc := 1) (ci := 1) (k := 4) (C := RX1) (T := TX1) (N := 9) (cell_shape (by first | assumption | omega) (by first | assumption | omega)) rfl (shO_255 (by first | assumption | omega) (by first | assumption | omega)) rfl nX1 (by decide) mF_X1_24 rfl dX1_leadRow_1 ?_
  refine x_iconst (pc := 4) (2) dX1_leadRow_4 (by decide) ?_
  refine x_cmpeq (pc := 5) 16 dX1_leadRow_5 (by decide) (fun c5 => ?_) (fun c5 => ?_)
  · refine x_aload_n (pc := 16) dX1_leadRow_16 rfl ?_
    refine x_get (pc := 17) (ci := 1) (k := 1) (C := RX1) (T := TX1) (N := 9) (cell_shape (by first | assumption | omega) (by first | assumption | omega)) rfl (shO_255 (by first | assumption | omega) (by first | assumption | omega)) rfl nX1 (by decide) mF_X1_15 rfl dX1_leadRow_17 ?_
    refine x_aload_n (pc := 20) dX1_leadRow_20 rfl ?_
    refine x_get (pc := 21) (ci := 1) (k := 3) (C := RX1) (T := TX1) (N := 9) (cell_shape (by first | assumption | omega) (by first | assumption | omega)) rfl (shO_255 (by first | assumption | omega) (by first | assumption | omega)) rfl nX1 (by decide) mF_X1_21 rfl dX1_leadRow_21 ?_
    refine x_iadd (pc := 24) dX1_leadRow_24 ?_
    refine x_iconst (pc := 25) (1) dX1_leadRow_25 (by decide) ?_
    refine x_isub (pc := 26) dX1_leadRow_26 ?_
    refine x_goto (pc := 27) 34 dX1_leadRow_27 (by decide) ?_
    exact x_iret rfl dX1_leadRow_34 ⟨by simp only [lrV, *, decide_true, decide_false, decide_not, Bool.and_true, Bool.true_and, Bool.and_false, Bool.false_and, Bool.or_true, Bool.true_or, Bool.or_false, Bool.false_or, Bool.not_true, Bool.not_false, if_true, if_false, not_true, not_false_eq_true, not_false_iff, Bool.false_eq_true, reduceIte, or_true, true_or, or_false, false_or, and_true, true_and, and_false, false_and, ite_self], rfl, rfl⟩
  · refine x_aload_n (pc := 8) dX1_leadRow_8 rfl ?_
    refine x_get (pc := 9) (ci := 1) (k := 4) (C := RX1) (T := TX1) (N := 9) (cell_shape (by first | assumption | omega) (by first | assumption | omega)) rfl (shO_255 (by first | assumption | omega) (by first | assumption | omega)) rfl nX1 (by decide) mF_X1_24 rfl dX1_leadRow_9 ?_
    refine x_iconst (pc := 12) (3) dX1_leadRow_12 (by decide) ?_
    refine x_cmpne (pc := 13) 30 dX1_leadRow_13 (by decide) (fun c13 => ?_) (fun c13 => ?_)
    · refine x_aload_n (pc := 30) dX1_leadRow_30 rfl ?_
      refine x_get (pc := 31) (ci := 1) (k := 1) (C := RX1) (T := TX1) (N := 9) (cell_shape (by first | assumption | omega) (by first | assumption | omega)) rfl (shO_255 (by first | assumption | omega) (by first | assumption | omega)) rfl nX1 (by decide) mF_X1_15 rfl dX1_leadRow_31 ?_
      exact x_iret rfl dX1_leadRow_34 ⟨by simp only [lrV, *, decide_true, decide_false, decide_not, Bool.and_true, Bool.true_and, Bool.and_false, Bool.false_and, Bool.or_true, Bool.true_or, Bool.or_false, Bool.false_or, Bool.not_true, Bool.not_false, if_true, if_false, not_true, not_false_eq_true, not_false_iff, Bool.false_eq_true, reduceIte, or_true, true_or, or_false, false_or, and_true, true_and, and_false, false_and, ite_self], rfl, rfl⟩
    · refine x_aload_n (pc := 16) dX1_leadRow_16 rfl ?_
      refine x_get (pc := 17) (ci := 1) (k := 1) (C := RX1) (T := TX1) (N := 9) (cell_shape (by first | assumption | omega) (by first | assumption | omega)) rfl (shO_255 (by first | assumption | omega) (by first | assumption | omega)) rfl nX1 (by decide) mF_X1_15 rfl dX1_leadRow_17 ?_
      refine x_aload_n (pc := 20) dX1_leadRow_20 rfl ?_
      refine x_get (pc := 21) (ci := 1) (k := 3) (C := RX1) (T := TX1) (N := 9) (cell_shape (by first | assumption | omega) (by first | assumption | omega)) rfl (shO_255 (by first | assumption | omega) (by first | assumption | omega)) rfl nX1 (by decide) mF_X1_21 rfl dX1_leadRow_21 ?_
      refine x_iadd (pc := 24) dX1_leadRow_24 ?_
      refine x_iconst (pc := 25) (1) dX1_leadRow_25 (by decide) ?_
      refine x_isub (pc := 26) dX1_leadRow_26 ?_
      refine x_goto (pc := 27) 34 dX1_leadRow_27 (by decide) ?_
      exact x_iret rfl dX1_leadRow_34 ⟨by simp only [lrV, *, decide_true, decide_false, decide_not, Bool.and_true, Bool.true_and, Bool.and_false, Bool.false_and, Bool.or_true, Bool.true_or, Bool.or_false, Bool.false_or, Bool.not_true, Bool.not_false, if_true, if_false, not_true, not_false_eq_true, not_false_iff, Bool.false_eq_true, reduceIte, or_true, true_or, or_false, false_or, and_true, true_and, and_false, false_and, ite_self], rfl, rfl⟩
set_option maxHeartbeats 4000000 in
set_option maxRecDepth 100000 in
theorem c_X1_leadSquare (hj : j < 8) (hi : i < 13) : Ct G yX1_leadSquare YX1_leadSquare 0 0 [.ref (gB G + shO j i)] (nN G) (cellOf G (updS S j σ) B M) (Rt G (some (.int (lsV (σ.2.2.2.1 i)))) (updS S j σ) B M) := by
  refine ct_of (by decide +kernel) rfl rfl (Nat.le_of_ble_eq_true rfl) (by simp [Value.category]) ?_
  refine x_sub (l' := [(0, .ref (gB G + shO j i))]) ⟨rfl, trivial⟩ ?_
  refine x_aload_n (pc := 0) dX1_leadSquare_0 rfl ?_
  refine t_Vi (pc := 1) (c_X1_leadColumn (by first | assumption | omega) (by first | assumption | omega)) qV_X1_leadColumn mL_X1_54 dX1_leadSquare_1 rfl (cell_shape (by first | assumption | omega) (by first | assumption | omega)) (shO_255 (by first | assumption | omega) (by first | assumption | omega)) rfl rfl rfl ⟨by decide, by decide⟩ (Nat.le_of_ble_eq_true rfl) (Nat.le_of_ble_eq_true rfl) (Nat.le_of_ble_eq_true rfl) ?_
  refine x_bipush (pc := 4) (8) dX1_leadSquare_4 (by decide) ?_
  refine x_idiv (pc := 6) dX1_leadSquare_6 (by decide) ?_
  refine x_iconst (pc := 7) (4) dX1_leadSquare_7 (by decide) ?_
  refine x_aload_n (pc := 8) dX1_leadSquare_8 rfl ?_
  refine t_Vi (pc := 9) (c_X1_leadRow (by first | assumption | omega) (by first | assumption | omega)) qV_X1_leadRow mL_X1_58 dX1_leadSquare_9 rfl (cell_shape (by first | assumption | omega) (by first | assumption | omega)) (shO_255 (by first | assumption | omega) (by first | assumption | omega)) rfl rfl rfl ⟨by decide, by decide⟩ (Nat.le_of_ble_eq_true rfl) (Nat.le_of_ble_eq_true rfl) (Nat.le_of_ble_eq_true rfl) ?_
  refine x_bipush (pc := 12) (8) dX1_leadSquare_12 (by decide) ?_
  refine x_idiv (pc := 14) dX1_leadSquare_14 (by decide) ?_
  refine x_imul (pc := 15) dX1_leadSquare_15 ?_
  refine x_iadd (pc := 16) dX1_leadSquare_16 ?_
  exact x_iret rfl dX1_leadSquare_17 ⟨by rfl, rfl, rfl⟩
set_option maxHeartbeats 4000000 in
set_option maxRecDepth 100000 in
theorem c_X1_fieldsIn (hj : j < 8) (hi : i < 13) (q m : Int32) : Ct G yX1_fieldsIn YX1_fieldsIn 0 0 [.ref (gB G + shO j i), .int q, .int m] (nN G) (cellOf G (updS S j σ) B M) (Rt G (some (.int (fldV (σ.2.2.2.1 i) q m))) (updS S j σ) B M) := by
  refine ct_of (by decide +kernel) rfl rfl (Nat.le_of_ble_eq_true rfl) (by simp [Value.category]) ?_
  refine x_sub (l' := [(0, .ref (gB G + shO j i)), (1, .int q), (2, .int m)]) ⟨rfl, rfl, rfl, trivial⟩ ?_
  refine x_iload_n (pc := 0) dX1_fieldsIn_0 rfl ?_
  refine x_iconst (pc := 1) (4) dX1_fieldsIn_1 (by decide) ?_
  refine x_irem (pc := 2) dX1_fieldsIn_2 (by decide) ?_
  refine x_bipush (pc := 3) (8) dX1_fieldsIn_3 (by decide) ?_
  refine x_imul (pc := 5) dX1_fieldsIn_5 ?_
  refine x_istore_n (pc := 6) dX1_fieldsIn_6 (by decide) ?_
  refine x_iload_n (pc := 7) dX1_fieldsIn_7 rfl ?_
  refine x_iconst (pc := 8) (4) dX1_fieldsIn_8 (by decide) ?_
  refine x_idiv (pc := 9) dX1_fieldsIn_9 (by decide) ?_
  refine x_bipush (pc := 10) (8) dX1_fieldsIn_10 (by decide) ?_
  refine x_imul (pc := 12) dX1_fieldsIn_12 ?_
  refine x_istore (pc := 13) dX1_fieldsIn_13 (by decide) ?_
  refine x_aload_n (pc := 15) dX1_fieldsIn_15 rfl ?_
  refine x_get (pc := 16) (ci := 1) (k := 0) (C := RX1) (T := TX1) (N := 9) (cell_shape (by first | assumption | omega) (by first | assumption | omega)) rfl (shO_255 (by first | assumption | omega) (by first | assumption | omega)) rfl nX1 (by decide) mF_X1_9 rfl dX1_fieldsIn_16 ?_
  refine x_aload_n (pc := 19) dX1_fieldsIn_19 rfl ?_
  refine x_get (pc := 20) (ci := 1) (k := 2) (C := RX1) (T := TX1) (N := 9) (cell_shape (by first | assumption | omega) (by first | assumption | omega)) rfl (shO_255 (by first | assumption | omega) (by first | assumption | omega)) rfl nX1 (by decide) mF_X1_18 rfl dX1_fieldsIn_20 ?_
  refine x_iadd (pc := 23) dX1_fieldsIn_23 ?_
  refine x_iload_n (pc := 24) dX1_fieldsIn_24 rfl ?_
  refine x_isub (pc := 25) dX1_fieldsIn_25 ?_
  refine x_iload_n (pc := 26) dX1_fieldsIn_26 rfl ?_
  refine x_bipush (pc := 27) (8) dX1_fieldsIn_27 (by decide) ?_
  refine x_iadd (pc := 29) dX1_fieldsIn_29 ?_
  refine x_min (pc := 30) mL_X1_46 (by decide) (Nat.le_of_ble_eq_true rfl) (Nat.le_of_ble_eq_true rfl) (Nat.le_of_ble_eq_true rfl) dX1_fieldsIn_30 ?_
  refine x_aload_n (pc := 33) dX1_fieldsIn_33 rfl ?_
  refine x_get (pc := 34) (ci := 1) (k := 0) (C := RX1) (T := TX1) (N := 9) (cell_shape (by first | assumption | omega) (by first | assumption | omega)) rfl (shO_255 (by first | assumption | omega) (by first | assumption | omega)) rfl nX1 (by decide) mF_X1_9 rfl dX1_fieldsIn_34 ?_
  refine x_iload_n (pc := 37) dX1_fieldsIn_37 rfl ?_
  refine x_iadd (pc := 38) dX1_fieldsIn_38 ?_
  refine x_iload_n (pc := 39) dX1_fieldsIn_39 rfl ?_
  refine x_max (pc := 40) mL_X1_51 (by decide) (Nat.le_of_ble_eq_true rfl) (Nat.le_of_ble_eq_true rfl) (Nat.le_of_ble_eq_true rfl) dX1_fieldsIn_40 ?_
  refine x_isub (pc := 43) dX1_fieldsIn_43 ?_
  refine x_istore (pc := 44) dX1_fieldsIn_44 (by decide) ?_
  refine x_aload_n (pc := 46) dX1_fieldsIn_46 rfl ?_
  refine x_get (pc := 47) (ci := 1) (k := 1) (C := RX1) (T := TX1) (N := 9) (cell_shape (by first | assumption | omega) (by first | assumption | omega)) rfl (shO_255 (by first | assumption | omega) (by first | assumption | omega)) rfl nX1 (by decide) mF_X1_15 rfl dX1_fieldsIn_47 ?_
  refine x_aload_n (pc := 50) dX1_fieldsIn_50 rfl ?_
  refine x_get (pc := 51) (ci := 1) (k := 3) (C := RX1) (T := TX1) (N := 9) (cell_shape (by first | assumption | omega) (by first | assumption | omega)) rfl (shO_255 (by first | assumption | omega) (by first | assumption | omega)) rfl nX1 (by decide) mF_X1_21 rfl dX1_fieldsIn_51 ?_
  refine x_iadd (pc := 54) dX1_fieldsIn_54 ?_
  refine x_iload_n (pc := 55) dX1_fieldsIn_55 rfl ?_
  refine x_isub (pc := 56) dX1_fieldsIn_56 ?_
  refine x_iload (pc := 57) dX1_fieldsIn_57 rfl ?_
  refine x_bipush (pc := 59) (8) dX1_fieldsIn_59 (by decide) ?_
  refine x_iadd (pc := 61) dX1_fieldsIn_61 ?_
  refine x_min (pc := 62) mL_X1_46 (by decide) (Nat.le_of_ble_eq_true rfl) (Nat.le_of_ble_eq_true rfl) (Nat.le_of_ble_eq_true rfl) dX1_fieldsIn_62 ?_
  refine x_aload_n (pc := 65) dX1_fieldsIn_65 rfl ?_
  refine x_get (pc := 66) (ci := 1) (k := 1) (C := RX1) (T := TX1) (N := 9) (cell_shape (by first | assumption | omega) (by first | assumption | omega)) rfl (shO_255 (by first | assumption | omega) (by first | assumption | omega)) rfl nX1 (by decide) mF_X1_15 rfl dX1_fieldsIn_66 ?_
  refine x_iload_n (pc := 69) dX1_fieldsIn_69 rfl ?_
  refine x_iadd (pc := 70) dX1_fieldsIn_70 ?_
  refine x_iload (pc := 71) dX1_fieldsIn_71 rfl ?_
  refine x_max (pc := 73) mL_X1_51 (by decide) (Nat.le_of_ble_eq_true rfl) (Nat.le_of_ble_eq_true rfl) (Nat.le_of_ble_eq_true rfl) dX1_fieldsIn_73 ?_
  refine x_isub (pc := 76) dX1_fieldsIn_76 ?_
  refine x_istore (pc := 77) dX1_fieldsIn_77 (by decide) ?_
  refine x_iload (pc := 79) dX1_fieldsIn_79 rfl ?_
  refine x_iconst (pc := 81) (0) dX1_fieldsIn_81 (by decide) ?_
  refine x_max (pc := 82) mL_X1_51 (by decide) (Nat.le_of_ble_eq_true rfl) (Nat.le_of_ble_eq_true rfl) (Nat.le_of_ble_eq_true rfl) dX1_fieldsIn_82 ?_
  refine x_iload (pc := 85) dX1_fieldsIn_85 rfl ?_
  refine x_iconst (pc := 87) (0) dX1_fieldsIn_87 (by decide) ?_
  refine x_max (pc := 88) mL_X1_51 (by decide) (Nat.le_of_ble_eq_true rfl) (Nat.le_of_ble_eq_true rfl) (Nat.le_of_ble_eq_true rfl) dX1_fieldsIn_88 ?_
  refine x_imul (pc := 91) dX1_fieldsIn_91 ?_
  exact x_iret rfl dX1_fieldsIn_92 ⟨by rfl, rfl, rfl⟩
end SHAPE
end
section
/-! what both sides compute, over one value: shapes told, ints, heats, settings, shapes' ints -/
abbrev Ab : Type := Nat × Fs × Fs × Fs × (Nat → Fs)
def RC (σ : Sh) (A : Ab) : Prop := A.1 ≤ 12 ∧ σ.1 0 = nI A.1 ∧ (∀ k, 1 ≤ k → k < 7 → σ.1 k = A.2.1 k) ∧ (∀ k, k < 12 → σ.2.1 k = A.2.2.1 k) ∧ (∀ k, k < 4 → σ.2.2.1 k = A.2.2.2.1 k) ∧ (∀ i, i < A.1 → ∀ k, k < 8 → σ.2.2.2.1 i k = A.2.2.2.2 i k) ∧ (∀ i, i < A.1 → ∀ k, k < 12 → σ.2.2.2.2 i k = edgQ (A.2.2.2.2 i) k)
def hotN (H : Fs) : Nat → Nat
  | 0 => 0
  | k + 1 => if H (hotN H k) < H k then k else hotN H k
theorem hotN_lt (H : Fs) : ∀ k, hotN H k < 12 ∨ 12 < k
  | 0 => Or.inl (show 0 < 12 by decide)
  | k + 1 => by
    simp only [hotN]
    rcases hotN_lt H k with h | h
    · split
      · by_cases hk : k < 12
        · exact Or.inl hk
        · exact Or.inr (by omega)
      · exact Or.inl h
    · exact Or.inr (by omega)
def grV (A : Ab) : Int32 := A.2.2.1 (hotN A.2.2.1 12)
def sumN (H : Fs) : Nat → Int32
  | 0 => 0
  | k + 1 => sumN H k + H k
def hmx (e H : Fs) : Nat → Int32
  | 0 => 0
  | k + 1 => if 0 < e k then imx (hmx e H k) (H k) else hmx e H k
def cntN (P : Nat → Fs) (v : Int32) : Nat → Int32
  | 0 => 0
  | k + 1 => if P k 5 = v then cntN P v k + 1 else cntN P v k
def tilN (P : Nat → Fs) : Nat → Int32
  | 0 => 0
  | k + 1 => tilN P k + P k 6
def outO (P : Nat → Fs) (f : Fs) : Nat → Option Nat
  | 0 => none
  | k + 1 => if insB f (P k) && (match outO P f k with | none => true | some q => insB (P k) (P q)) then some k else outO P f k
def oV : Option Nat → Int32
  | none => -5
  | some k => nI k
def setN (P : Nat → Fs) (f : Fs) : Nat → Int32
  | 0 => 0
  | k + 1 => if insB (P k) f then setN P f k ||| ((1 : Int32) <<< (nI k &&& 31)) else setN P f k
def hoB (P : Nat → Fs) (f : Fs) : Nat → Bool
  | 0 => false
  | k + 1 => hoB P f k || (decide (P k 5 = 0) && insB (P k) f)
def okB (f g : Fs) : Bool := if insB f g || insB g f then decide (g 5 = 0) else apaB f g
def fitB (P : Nat → Fs) (f : Fs) : Nat → Bool
  | 0 => true
  | k + 1 => fitB P f k && okB f (P k)
def wayV (A : Ab) (i : Nat) : Int32 := iab (lcV (A.2.2.2.2 i) - A.2.1 1) + iab (lrV (A.2.2.2.2 i) - A.2.1 2)
def burV (A : Ab) (i : Nat) : Int32 := edgV (A.2.2.2.2 i) * (2 + A.2.1 3 / 4)
def hovV (A : Ab) (i : Nat) : Int32 := hmx (edgQ (A.2.2.2.2 i)) A.2.2.1 12 - A.2.2.2.1 2
def whyV (A : Ab) (i : Nat) : Int32 := if A.2.2.2.2 i 5 = 1 then 1 else if A.2.2.2.2 i 5 = 2 then 2 else if A.2.2.2.1 3 = 1 ∧ hoB A.2.2.2.2 (A.2.2.2.2 i) A.1 = true then 3 else if wayV A i * A.2.2.2.1 1 < hovV A i then 4 else 0
def tcV (A : Ab) (i : Nat) : Int32 := if A.2.2.2.2 i 5 = 0 then wayV A i + burV A i else -4
def kcV (A : Ab) (i : Nat) : Int32 := if whyV A i = 0 then 0 else if whyV A i = 4 then (if 0 < A.2.2.2.1 1 then (hovV A i + A.2.2.2.1 1 - 1) / A.2.2.2.1 1 - wayV A i else -5) else -4
def knB (A : Ab) (v : Int32) : Bool := !decide (v < 0) && decide (v < nI A.1) && decide (v < 12)
def besO (A : Ab) : Nat → Option Nat
  | 0 => none
  | k + 1 => if whyV A k = 0 then (match besO A k with | none => some k | some q => if tcV A k < tcV A q then some k else some q) else besO A k
def fewV (A : Ab) : Nat → Int32
  | 0 => -5
  | k + 1 => if kcV A k < 0 then fewV A k else if fewV A k = -5 then kcV A k else if kcV A k < fewV A k then kcV A k else fewV A k
def coolA (A : Ab) (x : Int32) : Ab := (A.1, upd A.2.1 4 (A.2.1 4 + x), fun k => imx (A.2.2.1 k - x * A.2.2.2.1 1) 0, A.2.2.2)
def burnA (A : Ab) (i : Nat) : Ab := (A.1, upd (upd (upd A.2.1 4 (A.2.1 4 + burV A i)) 5 (A.2.1 5 + burV A i)) 3 (A.2.1 3 + 1), fun k => A.2.2.1 k + edgQ (A.2.2.2.2 i) k, A.2.2.2)
def goA (A : Ab) (i : Nat) : Ab := (A.1, upd (upd A.2.1 1 (lcV (A.2.2.2.2 i))) 2 (lrV (A.2.2.2.2 i)), A.2.2)
def losP (P : Nat → Fs) (f : Fs) (k : Nat) : Nat → Fs := fun q => if q < k ∧ P q 5 = 0 ∧ insB (P q) f = true then upd (P q) 5 2 else P q
def losN (P : Nat → Fs) (f : Fs) : Nat → Int32
  | 0 => 0
  | k + 1 => if P k 5 = 0 ∧ insB (P k) f = true then losN P f k + 1 else losN P f k
def hinV (H : Fs) (v : Int32) : Int32 := if betw v 0 11 then H v.toNatClampNeg else -1
/-- behind the burning: it is cut, it has its rank, it tilted or not -/
def markA (A : Ab) (i : Nat) : Ab := (A.1, upd A.2.1 6 (A.2.1 6 + 1), A.2.2.1, A.2.2.2.1, updF A.2.2.2.2 i (upd (upd (upd (A.2.2.2.2 i) 5 1) 7 (A.2.1 6)) 6 (if hinV A.2.2.1 (lsV (A.2.2.2.2 i)) = grV A then 1 else 0)))
def preA (A : Ab) (i : Nat) : Ab := markA (burnA (goA (coolA A (wayV A i)) i) i) i
def losA (A : Ab) (i : Nat) : Ab := (A.1, A.2.1, A.2.2.1, A.2.2.2.1, losP A.2.2.2.2 (A.2.2.2.2 i) A.1)
def cutA (A : Ab) (i : Nat) : Ab := losA (preA A i) i
def cutN (A : Ab) (i : Nat) : Int32 := losN (preA A i).2.2.2.2 ((preA A i).2.2.2.2 i) A.1
/-- the acts, with any argument: what comes back, what stands then -/
def cutX (A : Ab) (v : Int32) : Int32 × Ab := if knB A v then (if whyV A v.toNatClampNeg = 0 then (cutN A v.toNatClampNeg, cutA A v.toNatClampNeg) else (-10 - whyV A v.toNatClampNeg, A)) else (-1, A)
def leadX (A : Ab) (v c : Int32) : Int32 × Ab := if knB A v && betw c 0 3 then (if A.2.2.2.2 v.toNatClampNeg 5 = 0 then (if A.2.2.2.2 v.toNatClampNeg 4 = c then (-5, A) else (A.2.2.2.2 v.toNatClampNeg 4, (A.1, A.2.1, A.2.2.1, A.2.2.2.1, updF A.2.2.2.2 v.toNatClampNeg (upd (A.2.2.2.2 v.toNatClampNeg) 4 c)))) else (-4, A)) else (-1, A)
def setX (A : Ab) (w v : Int32) : Int32 × Ab := if betw w 0 3 then (if betw v (leastF w.toNatClampNeg) (greatF w.toNatClampNeg) then (if A.2.2.2.1 w.toNatClampNeg = v then (-5, A) else (A.2.2.2.1 w.toNatClampNeg, (A.1, A.2.1, A.2.2.1, upd A.2.2.2.1 w.toNatClampNeg v, A.2.2.2.2))) else (-2, A)) else (-1, A)
def waitX (A : Ab) (v : Int32) : Int32 × Ab := if betw v 1 999 then (grV (coolA A v), coolA A v) else (-2, A)
def cleanX (A : Ab) : Int32 × Ab := if A.2.1 3 = 0 then (-5, A) else (A.2.1 3, ((coolA A (A.2.2.2.1 0)).1, upd (coolA A (A.2.2.2.1 0)).2.1 3 0, (coolA A (A.2.2.2.1 0)).2.2))
def plF (f : Fs) (c r w h : Int32) : Fs := upd (upd (upd (upd (upd (upd (upd (upd f 0 c) 1 r) 2 w) 3 h) 4 0) 5 0) 6 0) 7 (-5)
def badB (c r w h : Int32) : Bool := !(betw c 0 31 && betw r 0 23 && betw w 2 32 && betw h 2 24 && !decide (32 < c + w) && !decide (24 < r + h))
def tellX (A : Ab) (c r w h : Int32) : Int32 × Ab := if badB c r w h then (-2, A) else if fitB A.2.2.2.2 (plF (fun _ => 0) c r w h) A.1 then (if A.1 < 12 then (nI A.1, (A.1 + 1, A.2.1, A.2.2.1, A.2.2.2.1, updF A.2.2.2.2 A.1 (plF (fun _ => 0) c r w h))) else (-3, A)) else (-4, A)
/-- one step of the order -/
def nextX (A : Ab) : Option Nat × Ab := match besO A A.1 with
  | some k => (some k, cutA A k)
  | none => if fewV A A.1 = -5 then (none, A) else (match besO (coolA A (fewV A A.1)) A.1 with
    | some k => (some k, cutA (coolA A (fewV A A.1)) k)
    | none => (none, coolA A (fewV A A.1)))
def factX (A : Ab) (v w : Int32) : Int32 := if knB A v then (if betw w 0 5 then A.2.2.2.2 v.toNatClampNeg w.toNatClampNeg else if w = 6 then oV (outO A.2.2.2.2 (A.2.2.2.2 v.toNatClampNeg) A.1) else if w = 7 then setN A.2.2.2.2 (A.2.2.2.2 v.toNatClampNeg) A.1 else if w = 8 then edgV (A.2.2.2.2 v.toNatClampNeg) else if w = 9 then A.2.2.2.2 v.toNatClampNeg 6 else if w = 10 then A.2.2.2.2 v.toNatClampNeg 7 else -2) else -1
def sheetX (A : Ab) (w : Int32) : Int32 := if w = 0 then nI A.1 else if w = 1 then cntN A.2.2.2.2 0 A.1 else if w = 2 then cntN A.2.2.2.2 1 A.1 else if w = 3 then cntN A.2.2.2.2 2 A.1 else if w = 4 then tilN A.2.2.2.2 A.1 else if w = 5 then A.2.1 3 else if w = 6 then A.2.1 1 else if w = 7 then A.2.1 2 else if w = 8 then A.2.1 4 else if w = 9 then A.2.1 5 else if w = 10 then grV A else if w = 11 then nI (hotN A.2.2.1 12) else if w = 12 then sumN A.2.2.1 12 else if w = 13 then A.2.2.2.1 0 else if w = 14 then A.2.2.2.1 1 else if w = 15 then A.2.2.2.1 2 else if w = 16 then A.2.2.2.1 3 else -2
/-! helpers -/
theorem RC.le {σ : Sh} {A : Ab} (h : RC σ A) : A.1 ≤ 12 := h.1
theorem RC.told {σ : Sh} {A : Ab} (h : RC σ A) : σ.1 0 = nI A.1 := h.2.1
theorem RC.int {σ : Sh} {A : Ab} (h : RC σ A) (k : Nat) (h1 : 1 ≤ k := by decide) (h2 : k < 7 := by decide) : σ.1 k = A.2.1 k := h.2.2.1 k h1 h2
theorem RC.heat {σ : Sh} {A : Ab} (h : RC σ A) (k : Nat) (h1 : k < 12) : σ.2.1 k = A.2.2.1 k := h.2.2.2.1 k h1
theorem RC.sett {σ : Sh} {A : Ab} (h : RC σ A) (k : Nat) (h1 : k < 4 := by decide) : σ.2.2.1 k = A.2.2.2.1 k := h.2.2.2.2.1 k h1
theorem RC.shp {σ : Sh} {A : Ab} (h : RC σ A) {i : Nat} (hi : i < A.1) (k : Nat) (h1 : k < 8 := by decide) : σ.2.2.2.1 i k = A.2.2.2.2 i k := h.2.2.2.2.2.1 i hi k h1
theorem RC.edg {σ : Sh} {A : Ab} (h : RC σ A) {i : Nat} (hi : i < A.1) (k : Nat) (h1 : k < 12) : σ.2.2.2.2 i k = edgQ (A.2.2.2.2 i) k := h.2.2.2.2.2.2 i hi k h1
theorem told_lt {σ : Sh} {A : Ab} (h : RC σ A) {k : Nat} (hk : k ≤ A.1) : nI k < σ.1 0 ↔ k < A.1 := by
  have h12 := h.le
  rw [h.told]
  exact nI_ltI (by omega) (by omega)
theorem lt_lit {k n : Nat} {x : Int32} (hx : x = nI n) (hn : n < 2 ^ 31) (hk : k < 2 ^ 31) : nI k < x ↔ k < n := by rw [hx]; exact nI_ltI hk hn
theorem knB_some {A : Ab} {v : Int32} (ht : A.1 ≤ 12) (h : knB A v = true) : ∃ i, i < A.1 ∧ v = nI i ∧ v.toNatClampNeg = i := by
  simp only [knB, Bool.and_eq_true, Bool.not_eq_true', decide_eq_false_iff_not, decide_eq_true_eq] at h
  obtain ⟨⟨h1, h2⟩, h3⟩ := h
  obtain ⟨i, hi, rfl⟩ := nI_of h1
  have h4 : i < A.1 := (nI_ltI hi (by omega)).mp h2
  exact ⟨i, h4, rfl, nI_clamp hi⟩
theorem knB_nI {A : Ab} {i : Nat} (ht : A.1 ≤ 12) (hi : i < A.1) : knB A (nI i) = true := by
  simp only [knB, Bool.and_eq_true, Bool.not_eq_true', decide_eq_false_iff_not, decide_eq_true_eq]
  refine ⟨⟨nI_pos (by omega), (nI_ltI (by omega) (by omega)).mpr hi⟩, ?_⟩
  rw [show (12 : Int32) = nI 12 from rfl]
  exact (nI_ltI (by omega) (by omega)).mpr (by omega)
theorem betw_some {v : Int32} {n : Nat} {b : Int32} (hb : b = nI n) (hn : n < 2 ^ 31) (h : betw v 0 b = true) : ∃ i, i ≤ n ∧ v = nI i ∧ v.toNatClampNeg = i := by
  simp only [betw, Bool.and_eq_true, Bool.not_eq_true', decide_eq_false_iff_not] at h
  obtain ⟨h1, h2⟩ := h
  obtain ⟨i, hi, rfl⟩ := nI_of h1
  rw [hb] at h2
  have h3 : ¬ n < i := fun q => h2 ((nI_ltI hn hi).mpr q)
  exact ⟨i, by omega, rfl, nI_clamp hi⟩
theorem iinc_nI (k : Nat) : nI k + Int32.ofInt 1 = nI (k + 1) := nI_1 k
theorem loopD {Pr : Nat → Prop} (n : Nat) (h : ∀ k, k ≤ n → (k < n → Pr (k + 1)) → Pr k) : ∀ k, k ≤ n → Pr k := by
  have key : ∀ d k, k + d = n → Pr k := by
    intro d
    induction d with
    | zero => exact fun k hk => h k (by omega) (fun q => absurd q (by omega))
    | succ d ih => exact fun k hk => h k (by omega) (fun _ => ih (k + 1) (by omega))
  exact fun k hk => key (n - k) k (by omega)
theorem b01_1 : b01 true = 1 := rfl
theorem b01_0 : b01 false = 0 := rfl
theorem b01_ne {b : Bool} (h : ¬ b01 b = 0) : b = true := by cases b; exact absurd rfl h; rfl
theorem b01_eq {b : Bool} (h : b01 b = 0) : b = false := by cases b; rfl; exact absurd h (by decide)
/-- a row with more behind its end: what comes back, and some state of a kind -/
def Re {α : Type} (G : GX) (w : Option Value) (S' : α → Nat → Sh) (B' : α → Bc) (M' : α → Md) (Pp : α → Prop) : Option Value → Nat → (Nat → va_E) → Prop := fun v n cs => ∃ a : α, v = w ∧ n = (nN G) ∧ cs = cellOf G (S' a) (B' a) (M' a) ∧ Pp a
abbrev RS (G : GX) (w : Option Value) (S : Nat → Sh) (j : Nat) (B : Bc) (M : Md) (A' : Ab) : Option Value → Nat → (Nat → va_E) → Prop := Re G w (fun σ' : Sh => updS S j σ') (fun _ => B) (fun _ => M) (fun σ' => RC σ' A')
/-- a weaker end serves -/
theorem x_post {G : GX} {y : YX} {E : State → Prop} {pc : Nat} {l : List (Nat × Value)} {stk : List Value} {n : Nat} {cs : Nat → va_E} {ck sk mc ms : Nat} {r r' : Option Value → Nat → (Nat → va_E) → Prop} (h : XJ G y E (Zx G r mc ms) pc l stk n cs ck sk) (hr : ∀ v n cs, r v n cs → r' v n cs) : XJ G y E (Zx G r' mc ms) pc l stk n cs ck sk := by
  intro p e s m args below meth c H locs ls F e1 S P L T hT X
  obtain ⟨t, a, o, b1, b2, ⟨⟨v, n', cs', q1, q2, q3⟩, q4⟩, b4⟩ := h p e s m args below meth c H locs ls F e1 S P L T hT X
  exact ⟨t, a, o, b1, b2, ⟨⟨v, n', cs', q1, hr _ _ _ q2, q3⟩, q4⟩, b4⟩
section TCALLSE
variable {G : GX} {y : YX} {E : State → Prop} {Z : ZX} {pc : Nat} {l : List (Nat × Value)} {stk : List Value} {ck sk : Nat}
variable {S : Nat → Sh} {B : Bc} {M : Md} {α : Type} {S' : α → Nat → Sh} {B' : α → Bc} {M' : α → Md} {Pp : α → Prop}
theorem e_Vi {ynm : MethodName} {yc : YX} {idx o ci : Nat} {fs As rest : List Value} {T : u_T} {N : Nat} {w : Int32} (hM : Ct G ynm yc 0 0 (.ref (gB G + o) :: As) (nN G) (cellOf G S B M) (Re G (some (.int w)) S' B' M' Pp)) (hq : MqV ynm yc As.length) (hlink : Cond.methodLink y.2.2.1 idx ynm ∈ WS) (hd : decode y.1 pc = .ok (.invokevirtual idx, 3)) (hstk : stk = As.reverse ++ .ref (gB G + o) :: rest) (hcell : cellOf G S B M o = .inr (ci, fs)) (ho : o < (nN G)) (hc : vwCl[ci]? = some (ynm.cls, T, N)) (hrc : yc.2.2.2.1.cells = 0) (hrs : yc.2.2.2.1.slots = 0) (hR : yc.2.2.2.1.frames + 1 ≤ y.2.2.2.1.frames ∧ 8 + (yc.2.1 + 11) + yc.2.2.2.1.locals ≤ y.2.2.2.1.locals) (hW : (rest.map fun v => v.category).sum ≤ 8) (h1 : ck ≤ y.2.2.2.1.cells) (h2 : sk ≤ y.2.2.2.1.slots)
    (kk : ∀ a, Pp a → XJ G y E Z (pc + 3) l (.int w :: rest) (nN G) (cellOf G (S' a) (B' a) (M' a)) ck sk) : XJ G y E Z pc l stk (nN G) (cellOf G S B M) ck sk :=
  x_callV hM hq hlink hd hstk hcell ho hc hrc hrs hR hW h1 h2 (fun v n' cs' h => by obtain ⟨a, rfl, rfl, rfl, h⟩ := h; exact kk a h)
theorem e_Vv {ynm : MethodName} {yc : YX} {idx o ci : Nat} {fs As rest : List Value} {T : u_T} {N : Nat} (hM : Ct G ynm yc 0 0 (.ref (gB G + o) :: As) (nN G) (cellOf G S B M) (Re G none S' B' M' Pp)) (hq : MqV ynm yc As.length) (hlink : Cond.methodLink y.2.2.1 idx ynm ∈ WS) (hd : decode y.1 pc = .ok (.invokevirtual idx, 3)) (hstk : stk = As.reverse ++ .ref (gB G + o) :: rest) (hcell : cellOf G S B M o = .inr (ci, fs)) (ho : o < (nN G)) (hc : vwCl[ci]? = some (ynm.cls, T, N)) (hrc : yc.2.2.2.1.cells = 0) (hrs : yc.2.2.2.1.slots = 0) (hR : yc.2.2.2.1.frames + 1 ≤ y.2.2.2.1.frames ∧ 8 + (yc.2.1 + 11) + yc.2.2.2.1.locals ≤ y.2.2.2.1.locals) (hW : (rest.map fun v => v.category).sum ≤ 8) (h1 : ck ≤ y.2.2.2.1.cells) (h2 : sk ≤ y.2.2.2.1.slots)
    (kk : ∀ a, Pp a → XJ G y E Z (pc + 3) l rest (nN G) (cellOf G (S' a) (B' a) (M' a)) ck sk) : XJ G y E Z pc l stk (nN G) (cellOf G S B M) ck sk :=
  x_callV hM hq hlink hd hstk hcell ho hc hrc hrs hR hW h1 h2 (fun v n' cs' h => by obtain ⟨a, rfl, rfl, rfl, h⟩ := h; exact kk a h)
end TCALLSE
end
section
/-! the class: Shape's writers, Sheet's readers (rows laid by wip/whole/p12.py) -/
section SHEET1
variable {G : GX} {S : Nat → Sh} {B : Bc} {M : Md} {j i : Nat} {σ : Sh}
variable {A : Ab}
def eqE (g f : Fs) (k : Nat) : Fs := fun q => if q < k then edgQ f q else g q
theorem eqE_0 (g f : Fs) : eqE g f 0 = g := by funext q; simp [eqE]
theorem eqE_s (g f : Fs) (k : Nat) : upd (eqE g f k) k (edgQ f k) = eqE g f (k + 1) := by
  funext q
  by_cases h : q = k
  · subst h; simp [eqE, upd]
  · by_cases h2 : q < k
    · simp [eqE, upd, h, h2, Nat.lt_succ_of_lt h2]
    · simp [eqE, upd, h, h2, show ¬ q < k + 1 by omega]
set_option maxHeartbeats 4000000 in
set_option maxRecDepth 100000 in
theorem c_X1_place (hj : j < 8) (hi : i < 13) (c r w h : Int32) : Ct G yX1_place YX1_place 0 0 [.ref (gB G + shO j i), .int c, .int r, .int w, .int h] (nN G) (cellOf G (updS S j σ) B M) (Rt G none (updS S j (edgF (shpF σ i (plF (σ.2.2.2.1 i) c r w h)) i (eqE (σ.2.2.2.2 i) (plF (σ.2.2.2.1 i) c r w h) 12))) B M) := by
  refine ct_of (by decide +kernel) rfl rfl (Nat.le_of_ble_eq_true rfl) (by simp [Value.category]) ?_
  refine x_sub (l' := [(0, .ref (gB G + shO j i)), (1, .int c), (2, .int r), (3, .int w), (4, .int h)]) ⟨rfl, rfl, rfl, rfl, rfl, trivial⟩ ?_
  have lp : ∀ k, k ≤ 12 → XJ G YX1_place (fun _ => True) (Zx G (Rt G none (updS S j (edgF (shpF σ i (plF (σ.2.2.2.1 i) c r w h)) i (eqE (σ.2.2.2.2 i) (plF (σ.2.2.2.1 i) c r w h) 12))) B M) 0 0) 45 [(0, .ref (gB G + shO j i)), (5, .int (nI k))] [] (nN G) (cellOf G (updS S j (edgF (shpF σ i (plF (σ.2.2.2.1 i) c r w h)) i (eqE (σ.2.2.2.2 i) (plF (σ.2.2.2.1 i) c r w h) k))) B M) 0 0 := by
    refine loopD 12 ?_
    intro k hk ih
    refine x_iload (pc := 45) dX1_place_45 rfl ?_
    refine x_bipush (pc := 47) (12) dX1_place_47 (by decide) ?_
    refine x_cmpge (pc := 49) 80 dX1_place_49 (by decide) (fun c49 => ?_) (fun c49 => ?_)
    · obtain rfl : k = 12 := by have := mt (lt_lit (n := 12) rfl (by decide) (by omega)).mpr c49; omega
      exact x_vret rfl dX1_place_80 ⟨rfl, rfl, rfl⟩
    · have hk12 : k < 12 := (lt_lit rfl (by decide) (by omega)).mp c49
      refine x_aload_n (pc := 52) dX1_place_52 rfl ?_
      refine x_get (pc := 53) (ci := 1) (k := 8) (C := RX1) (T := TX1) (N := 9) (cell_shape (by first | assumption | omega) (by first | assumption | omega)) rfl (shO_255 (by first | assumption | omega) (by first | assumption | omega)) rfl nX1 (by decide) mF_X1_38 rfl dX1_place_53 ?_
      refine x_iload (pc := 56) dX1_place_56 rfl ?_
      refine x_aload_n (pc := 58) dX1_place_58 rfl ?_
      refine x_iload (pc := 59) dX1_place_59 rfl ?_
      refine x_iconst (pc := 61) (0) dX1_place_61 (by decide) ?_
      refine t_Vi (pc := 62) (c_X1_fieldsIn (by first | assumption | omega) (by first | assumption | omega) _ _) qV_X1_fieldsIn mL_X1_42 dX1_place_62 rfl (cell_shape (by first | assumption | omega) (by first | assumption | omega)) (shO_255 (by first | assumption | omega) (by first | assumption | omega)) rfl rfl rfl ⟨by decide, by decide⟩ (Nat.le_of_ble_eq_true rfl) (Nat.le_of_ble_eq_true rfl) (Nat.le_of_ble_eq_true rfl) ?_
      refine x_aload_n (pc := 65) dX1_place_65 rfl ?_
      refine x_iload (pc := 66) dX1_place_66 rfl ?_
      refine x_iconst (pc := 68) (1) dX1_place_68 (by decide) ?_
      refine t_Vi (pc := 69) (c_X1_fieldsIn (by first | assumption | omega) (by first | assumption | omega) _ _) qV_X1_fieldsIn mL_X1_42 dX1_place_69 rfl (cell_shape (by first | assumption | omega) (by first | assumption | omega)) (shO_255 (by first | assumption | omega) (by first | assumption | omega)) rfl rfl rfl ⟨by decide, by decide⟩ (Nat.le_of_ble_eq_true rfl) (Nat.le_of_ble_eq_true rfl) (Nat.le_of_ble_eq_true rfl) ?_
      refine x_isub (pc := 72) dX1_place_72 ?_
      refine t_stEdge (pc := 73) (by first | assumption | omega) (by first | assumption | omega) _ (by first | assumption | omega) rfl dX1_place_73 ?_
      try dsimp only
      refine x_iinc (pc := 74) (nI (k + 1)) dX1_place_74 rfl (iinc_nI k) (by decide) ?_
      refine x_goto (pc := 77) 45 dX1_place_77 (by decide) ?_
      refine x_sub (l' := [(0, .ref (gB G + shO j i)), (5, .int (nI (k + 1)))]) ⟨rfl, rfl, trivial⟩ ?_
      have e := ih hk12
      rw [← eqE_s _ _ k] at e
      simp only [edgF, shpF, updF_same, updF_upd] at e ⊢
      exact e
  refine x_aload_n (pc := 0) dX1_place_0 rfl ?_
  refine x_iload_n (pc := 1) dX1_place_1 rfl ?_
  refine t_putShape (pc := 2) (by first | assumption | omega) (by first | assumption | omega) 0 (by decide) mF_X1_9 dX1_place_2 ?_
  try dsimp only
  refine x_aload_n (pc := 5) dX1_place_5 rfl ?_
  refine x_iload_n (pc := 6) dX1_place_6 rfl ?_
  refine t_putShape (pc := 7) (by first | assumption | omega) (by first | assumption | omega) 1 (by decide) mF_X1_15 dX1_place_7 ?_
  try dsimp only
  refine x_aload_n (pc := 10) dX1_place_10 rfl ?_
  refine x_iload_n (pc := 11) dX1_place_11 rfl ?_
  refine t_putShape (pc := 12) (by first | assumption | omega) (by first | assumption | omega) 2 (by decide) mF_X1_18 dX1_place_12 ?_
  try dsimp only
  refine x_aload_n (pc := 15) dX1_place_15 rfl ?_
  refine x_iload (pc := 16) dX1_place_16 rfl ?_
  refine t_putShape (pc := 18) (by first | assumption | omega) (by first | assumption | omega) 3 (by decide) mF_X1_21 dX1_place_18 ?_
  try dsimp only
  refine x_aload_n (pc := 21) dX1_place_21 rfl ?_
  refine x_iconst (pc := 22) (0) dX1_place_22 (by decide) ?_
  refine t_putShape (pc := 23) (by first | assumption | omega) (by first | assumption | omega) 4 (by decide) mF_X1_24 dX1_place_23 ?_
  try dsimp only
  refine x_aload_n (pc := 26) dX1_place_26 rfl ?_
  refine x_iconst (pc := 27) (0) dX1_place_27 (by decide) ?_
  refine t_putShape (pc := 28) (by first | assumption | omega) (by first | assumption | omega) 5 (by decide) mF_X1_27 dX1_place_28 ?_
  try dsimp only
  refine x_aload_n (pc := 31) dX1_place_31 rfl ?_
  refine x_iconst (pc := 32) (0) dX1_place_32 (by decide) ?_
  refine t_putShape (pc := 33) (by first | assumption | omega) (by first | assumption | omega) 6 (by decide) mF_X1_30 dX1_place_33 ?_
  try dsimp only
  refine x_aload_n (pc := 36) dX1_place_36 rfl ?_
  refine x_bipush (pc := 37) (-5) dX1_place_37 (by decide) ?_
  refine t_putShape (pc := 39) (by first | assumption | omega) (by first | assumption | omega) 7 (by decide) mF_X1_33 dX1_place_39 ?_
  try dsimp only
  refine x_iconst (pc := 42) (0) dX1_place_42 (by decide) ?_
  refine x_istore (pc := 43) dX1_place_43 (by decide) ?_
  have e := lp 0 (by omega)
  rw [eqE_0] at e
  refine x_sub (l' := [(0, .ref (gB G + shO j i)), (5, .int (nI 0))]) ⟨rfl, rfl, trivial⟩ ?_
  simp only [edgF, shpF, plF, updF_same, updF_upd, updF_self] at e ⊢
  exact e
def cpF (g f : Fs) (k : Nat) : Fs := fun q => if q < k then f q else g q
theorem cpF_0 (g f : Fs) : cpF g f 0 = g := by funext q; simp [cpF]
theorem cpF_s (g f : Fs) (k : Nat) : upd (cpF g f k) k (f k) = cpF g f (k + 1) := by
  funext q
  by_cases h : q = k
  · subst h; simp [cpF, upd]
  · by_cases h2 : q < k
    · simp [cpF, upd, h, h2, Nat.lt_succ_of_lt h2]
    · simp [cpF, upd, h, h2, show ¬ q < k + 1 by omega]
theorem cpF_8 (g f : Fs) : upd (upd (upd (upd (upd (upd (upd (upd g 0 (f 0)) 1 (f 1)) 2 (f 2)) 3 (f 3)) 4 (f 4)) 5 (f 5)) 6 (f 6)) 7 (f 7) = cpF g f 8 := by
  rw [← cpF_s g f 7, ← cpF_s g f 6, ← cpF_s g f 5, ← cpF_s g f 4, ← cpF_s g f 3, ← cpF_s g f 2, ← cpF_s g f 1, ← cpF_s g f 0, cpF_0]
theorem cpF_7 (g f : Fs) : upd (upd (upd (upd (upd (upd (upd g 0 (f 0)) 1 (f 1)) 2 (f 2)) 3 (f 3)) 4 (f 4)) 5 (f 5)) 6 (f 6) = cpF g f 7 := by
  rw [← cpF_s g f 6, ← cpF_s g f 5, ← cpF_s g f 4, ← cpF_s g f 3, ← cpF_s g f 2, ← cpF_s g f 1, ← cpF_s g f 0, cpF_0]
theorem cell_shape2 {j2 : Nat} (hj2 : j2 < 8) (hne : j2 ≠ j) (hi : i < 13) : cellOf G (updS S j σ) B M (shO j2 i) = .inr (1, [.int ((S j2).2.2.2.1 i 0), .int ((S j2).2.2.2.1 i 1), .int ((S j2).2.2.2.1 i 2), .int ((S j2).2.2.2.1 i 3), .int ((S j2).2.2.2.1 i 4), .int ((S j2).2.2.2.1 i 5), .int ((S j2).2.2.2.1 i 6), .int ((S j2).2.2.2.1 i 7), .ref (gB G + egO j2 i)]) := by
  rw [cell_shape' hj2 hi, updS_ne S σ hne]
theorem cell_edge2 {j2 : Nat} (hj2 : j2 < 8) (hne : j2 ≠ j) (hi : i < 13) : cellOf G (updS S j σ) B M (egO j2 i) = .inl (gI G, 12, .inl ((S j2).2.2.2.2 i)) := by
  rw [cell_edge' hj2 hi, updS_ne S σ hne]
theorem cell_sheet2 {j2 : Nat} (hj2 : j2 < 8) (hne : j2 ≠ j) : cellOf G (updS S j σ) B M (sB j2) = .inr (2, [.ref (gB G + arO j2), .ref (gB G + htO j2), .ref (gB G + stO j2), .int ((S j2).1 0), .int ((S j2).1 1), .int ((S j2).1 2), .int ((S j2).1 3), .int ((S j2).1 4), .int ((S j2).1 5), .int ((S j2).1 6)]) := by
  rw [cell_sheet' hj2, updS_ne S σ hne]
theorem cell_heats2 {j2 : Nat} (hj2 : j2 < 8) (hne : j2 ≠ j) : cellOf G (updS S j σ) B M (htO j2) = .inl (gI G, 12, .inl (S j2).2.1) := by
  rw [cell_heats' hj2, updS_ne S σ hne]
theorem cell_sets2 {j2 : Nat} (hj2 : j2 < 8) (hne : j2 ≠ j) : cellOf G (updS S j σ) B M (stO j2) = .inl (gI G, 4, .inl (S j2).2.2.1) := by
  rw [cell_sets' hj2, updS_ne S σ hne]
set_option maxHeartbeats 4000000 in
set_option maxRecDepth 100000 in
theorem c_X1_copyFrom {j2 : Nat} (hj : j < 8) (hj2 : j2 < 8) (hne : j2 ≠ j) (hi : i < 13) : Ct G yX1_copyFrom YX1_copyFrom 0 0 [.ref (gB G + shO j i), .ref (gB G + shO j2 i)] (nN G) (cellOf G (updS S j σ) B M) (Rt G none (updS S j (edgF (shpF σ i (cpF (σ.2.2.2.1 i) ((S j2).2.2.2.1 i) 8)) i (cpF (σ.2.2.2.2 i) ((S j2).2.2.2.2 i) 12))) B M) := by
  refine ct_of (by decide +kernel) rfl rfl (Nat.le_of_ble_eq_true rfl) (by simp [Value.category]) ?_
  refine x_sub (l' := [(0, .ref (gB G + shO j i)), (1, .ref (gB G + shO j2 i))]) ⟨rfl, rfl, trivial⟩ ?_
  have lp : ∀ k, k ≤ 12 → XJ G YX1_copyFrom (fun _ => True) (Zx G (Rt G none (updS S j (edgF (shpF σ i (cpF (σ.2.2.2.1 i) ((S j2).2.2.2.1 i) 8)) i (cpF (σ.2.2.2.2 i) ((S j2).2.2.2.2 i) 12))) B M) 0 0) 66 [(0, .ref (gB G + shO j i)), (1, .ref (gB G + shO j2 i)), (2, .int (nI k))] [] (nN G) (cellOf G (updS S j (edgF (shpF σ i (cpF (σ.2.2.2.1 i) ((S j2).2.2.2.1 i) 8)) i (cpF (σ.2.2.2.2 i) ((S j2).2.2.2.2 i) k))) B M) 0 0 := by
    refine loopD 12 ?_
    intro k hk ih
    refine x_iload_n (pc := 66) dX1_copyFrom_66 rfl ?_
    refine x_bipush (pc := 67) (12) dX1_copyFrom_67 (by decide) ?_
    refine x_cmpge (pc := 69) 90 dX1_copyFrom_69 (by decide) (fun c69 => ?_) (fun c69 => ?_)
    · obtain rfl : k = 12 := by have := mt (lt_lit (n := 12) rfl (by decide) (by omega)).mpr c69; omega
      exact x_vret rfl dX1_copyFrom_90 ⟨rfl, rfl, rfl⟩
    · have hk12 : k < 12 := (lt_lit rfl (by decide) (by omega)).mp c69
      refine x_aload_n (pc := 72) dX1_copyFrom_72 rfl ?_
      refine x_get (pc := 73) (ci := 1) (k := 8) (C := RX1) (T := TX1) (N := 9) (cell_shape (by first | assumption | omega) (by first | assumption | omega)) rfl (shO_255 (by first | assumption | omega) (by first | assumption | omega)) rfl nX1 (by decide) mF_X1_38 rfl dX1_copyFrom_73 ?_
      refine x_iload_n (pc := 76) dX1_copyFrom_76 rfl ?_
      refine x_aload_n (pc := 77) dX1_copyFrom_77 rfl ?_
      refine x_get (pc := 78) (ci := 1) (k := 8) (C := RX1) (T := TX1) (N := 9) (cell_shape2 (by assumption) (by assumption) (by first | assumption | omega)) rfl (shO_255 (by assumption) (by first | assumption | omega)) rfl nX1 (by decide) mF_X1_38 rfl dX1_copyFrom_78 ?_
      refine x_iload_n (pc := 81) dX1_copyFrom_81 rfl ?_
      refine t_ild (pc := 82) _ (cell_edge2 (by assumption) (by assumption) (by first | assumption | omega)) (egO_255 (by assumption) (by first | assumption | omega)) rfl (by first | assumption | omega) (by decide) dX1_copyFrom_82 ?_
      refine t_stEdge (pc := 83) (by first | assumption | omega) (by first | assumption | omega) _ (by first | assumption | omega) rfl dX1_copyFrom_83 ?_
      try dsimp only
      refine x_iinc (pc := 84) (nI (k + 1)) dX1_copyFrom_84 rfl (iinc_nI k) (by decide) ?_
      refine x_goto (pc := 87) 66 dX1_copyFrom_87 (by decide) ?_
      refine x_sub (l' := [(0, .ref (gB G + shO j i)), (1, .ref (gB G + shO j2 i)), (2, .int (nI (k + 1)))]) ⟨rfl, rfl, rfl, trivial⟩ ?_
      have e := ih hk12
      rw [← cpF_s (σ.2.2.2.2 i) _ k] at e
      simp only [edgF, shpF, updF_same, updF_upd] at e ⊢
      exact e
  refine x_aload_n (pc := 0) dX1_copyFrom_0 rfl ?_
  refine x_aload_n (pc := 1) dX1_copyFrom_1 rfl ?_
  refine x_get (pc := 2) (ci := 1) (k := 0) (C := RX1) (T := TX1) (N := 9) (cell_shape2 (by assumption) (by assumption) (by first | assumption | omega)) rfl (shO_255 (by assumption) (by first | assumption | omega)) rfl nX1 (by decide) mF_X1_9 rfl dX1_copyFrom_2 ?_
  refine t_putShape (pc := 5) (by first | assumption | omega) (by first | assumption | omega) 0 (by decide) mF_X1_9 dX1_copyFrom_5 ?_
  try dsimp only [shpF]
  refine x_aload_n (pc := 8) dX1_copyFrom_8 rfl ?_
  refine x_aload_n (pc := 9) dX1_copyFrom_9 rfl ?_
  refine x_get (pc := 10) (ci := 1) (k := 1) (C := RX1) (T := TX1) (N := 9) (cell_shape2 (by assumption) (by assumption) (by first | assumption | omega)) rfl (shO_255 (by assumption) (by first | assumption | omega)) rfl nX1 (by decide) mF_X1_15 rfl dX1_copyFrom_10 ?_
  refine t_putShape (pc := 13) (by first | assumption | omega) (by first | assumption | omega) 1 (by decide) mF_X1_15 dX1_copyFrom_13 ?_
  try dsimp only [shpF]
  refine x_aload_n (pc := 16) dX1_copyFrom_16 rfl ?_
  refine x_aload_n (pc := 17) dX1_copyFrom_17 rfl ?_
  refine x_get (pc := 18) (ci := 1) (k := 2) (C := RX1) (T := TX1) (N := 9) (cell_shape2 (by assumption) (by assumption) (by first | assumption | omega)) rfl (shO_255 (by assumption) (by first | assumption | omega)) rfl nX1 (by decide) mF_X1_18 rfl dX1_copyFrom_18 ?_
  refine t_putShape (pc := 21) (by first | assumption | omega) (by first | assumption | omega) 2 (by decide) mF_X1_18 dX1_copyFrom_21 ?_
  try dsimp only [shpF]
  refine x_aload_n (pc := 24) dX1_copyFrom_24 rfl ?_
  refine x_aload_n (pc := 25) dX1_copyFrom_25 rfl ?_
  refine x_get (pc := 26) (ci := 1) (k := 3) (C := RX1) (T := TX1) (N := 9) (cell_shape2 (by assumption) (by assumption) (by first | assumption | omega)) rfl (shO_255 (by assumption) (by first | assumption | omega)) rfl nX1 (by decide) mF_X1_21 rfl dX1_copyFrom_26 ?_
  refine t_putShape (pc := 29) (by first | assumption | omega) (by first | assumption | omega) 3 (by decide) mF_X1_21 dX1_copyFrom_29 ?_
  try dsimp only [shpF]
  refine x_aload_n (pc := 32) dX1_copyFrom_32 rfl ?_
  refine x_aload_n (pc := 33) dX1_copyFrom_33 rfl ?_
  refine x_get (pc := 34) (ci := 1) (k := 4) (C := RX1) (T := TX1) (N := 9) (cell_shape2 (by assumption) (by assumption) (by first | assumption | omega)) rfl (shO_255 (by assumption) (by first | assumption | omega)) rfl nX1 (by decide) mF_X1_24 rfl dX1_copyFrom_34 ?_
  refine t_putShape (pc := 37) (by first | assumption | omega) (by first | assumption | omega) 4 (by decide) mF_X1_24 dX1_copyFrom_37 ?_
  try dsimp only [shpF]
  refine x_aload_n (pc := 40) dX1_copyFrom_40 rfl ?_
  refine x_aload_n (pc := 41) dX1_copyFrom_41 rfl ?_
  refine x_get (pc := 42) (ci := 1) (k := 5) (C := RX1) (T := TX1) (N := 9) (cell_shape2 (by assumption) (by assumption) (by first | assumption | omega)) rfl (shO_255 (by assumption) (by first | assumption | omega)) rfl nX1 (by decide) mF_X1_27 rfl dX1_copyFrom_42 ?_
  refine t_putShape (pc := 45) (by first | assumption | omega) (by first | assumption | omega) 5 (by decide) mF_X1_27 dX1_copyFrom_45 ?_
  try dsimp only [shpF]
  refine x_aload_n (pc := 48) dX1_copyFrom_48 rfl ?_
  refine x_aload_n (pc := 49) dX1_copyFrom_49 rfl ?_
  refine x_get (pc := 50) (ci := 1) (k := 6) (C := RX1) (T := TX1) (N := 9) (cell_shape2 (by assumption) (by assumption) (by first | assumption | omega)) rfl (shO_255 (by assumption) (by first | assumption | omega)) rfl nX1 (by decide) mF_X1_30 rfl dX1_copyFrom_50 ?_
  refine t_putShape (pc := 53) (by first | assumption | omega) (by first | assumption | omega) 6 (by decide) mF_X1_30 dX1_copyFrom_53 ?_
  try dsimp only [shpF]
  refine x_aload_n (pc := 56) dX1_copyFrom_56 rfl ?_
  refine x_aload_n (pc := 57) dX1_copyFrom_57 rfl ?_
  refine x_get (pc := 58) (ci := 1) (k := 7) (C := RX1) (T := TX1) (N := 9) (cell_shape2 (by assumption) (by assumption) (by first | assumption | omega)) rfl (shO_255 (by assumption) (by first | assumption | omega)) rfl nX1 (by decide) mF_X1_33 rfl dX1_copyFrom_58 ?_
  refine t_putShape (pc := 61) (by first | assumption | omega) (by first | assumption | omega) 7 (by decide) mF_X1_33 dX1_copyFrom_61 ?_
  try dsimp only [shpF]
  refine x_iconst (pc := 64) (0) dX1_copyFrom_64 (by decide) ?_
  refine x_istore_n (pc := 65) dX1_copyFrom_65 (by decide) ?_
  have e := lp 0 (by omega)
  rw [cpF_0 (σ.2.2.2.2 i)] at e
  refine x_sub (l' := [(0, .ref (gB G + shO j i)), (1, .ref (gB G + shO j2 i)), (2, .int (nI 0))]) ⟨rfl, rfl, rfl, trivial⟩ ?_
  simp only [edgF, shpF, updF_same, updF_upd, updF_self] at e ⊢
  rw [cpF_8]
  exact e
end SHEET1
end
section
/-! the class: Sheet's readers (rows laid by wip/whole/p13.py) -/
theorem tl_iff {A : Ab} (ht : A.1 ≤ 12) {k : Nat} (hk : k ≤ A.1) : nI k < nI A.1 ↔ k < A.1 := nI_ltI (by omega) (by omega)
section RCS
variable {σ : Sh} {A : Ab} {i k : Nat}
theorem insB_c {f f' g g' : Fs} (h : ∀ k, k < 8 → f k = f' k) (h2 : ∀ k, k < 8 → g k = g' k) : insB f g = insB f' g' := by
  simp only [insB, h 0 (by decide), h 1 (by decide), h 2 (by decide), h 3 (by decide), h2 0 (by decide), h2 1 (by decide), h2 2 (by decide), h2 3 (by decide)]
theorem apaB_c {f f' g g' : Fs} (h : ∀ k, k < 8 → f k = f' k) (h2 : ∀ k, k < 8 → g k = g' k) : apaB f g = apaB f' g' := by
  simp only [apaB, h 0 (by decide), h 1 (by decide), h 2 (by decide), h 3 (by decide), h2 0 (by decide), h2 1 (by decide), h2 2 (by decide), h2 3 (by decide)]
theorem edgV_c {f f' : Fs} (h : ∀ k, k < 8 → f k = f' k) : edgV f = edgV f' := by simp only [edgV, h 2 (by decide), h 3 (by decide)]
theorem lcV_c {f f' : Fs} (h : ∀ k, k < 8 → f k = f' k) : lcV f = lcV f' := by simp only [lcV, h 0 (by decide), h 2 (by decide), h 4 (by decide)]
theorem lrV_c {f f' : Fs} (h : ∀ k, k < 8 → f k = f' k) : lrV f = lrV f' := by simp only [lrV, h 1 (by decide), h 3 (by decide), h 4 (by decide)]
theorem lsV_c {f f' : Fs} (h : ∀ k, k < 8 → f k = f' k) : lsV f = lsV f' := by simp only [lsV, lcV_c h, lrV_c h]
theorem edgQ_c {f f' : Fs} (h : ∀ k, k < 8 → f k = f' k) (k : Nat) : edgQ f k = edgQ f' k := by simp only [edgQ, fldV, fcV, frV, h 0 (by decide), h 1 (by decide), h 2 (by decide), h 3 (by decide)]
theorem RC.ins (h : RC σ A) (hi : i < A.1) (hk : k < A.1) : insB (σ.2.2.2.1 i) (σ.2.2.2.1 k) = insB (A.2.2.2.2 i) (A.2.2.2.2 k) := insB_c (fun q hq => h.shp hi q hq) (fun q hq => h.shp hk q hq)
theorem RC.ins1 (h : RC σ A) (f : Fs) (hi : i < A.1) : insB (σ.2.2.2.1 i) f = insB (A.2.2.2.2 i) f := insB_c (fun q hq => h.shp hi q hq) (fun _ _ => rfl)
theorem RC.ins2 (h : RC σ A) (f : Fs) (hi : i < A.1) : insB f (σ.2.2.2.1 i) = insB f (A.2.2.2.2 i) := insB_c (fun _ _ => rfl) (fun q hq => h.shp hi q hq)
theorem RC.apa2 (h : RC σ A) (f : Fs) (hi : i < A.1) : apaB f (σ.2.2.2.1 i) = apaB f (A.2.2.2.2 i) := apaB_c (fun _ _ => rfl) (fun q hq => h.shp hi q hq)
theorem RC.ed (h : RC σ A) (hi : i < A.1) : edgV (σ.2.2.2.1 i) = edgV (A.2.2.2.2 i) := edgV_c (fun q hq => h.shp hi q hq)
theorem RC.lc (h : RC σ A) (hi : i < A.1) : lcV (σ.2.2.2.1 i) = lcV (A.2.2.2.2 i) := lcV_c (fun q hq => h.shp hi q hq)
theorem RC.lr (h : RC σ A) (hi : i < A.1) : lrV (σ.2.2.2.1 i) = lrV (A.2.2.2.2 i) := lrV_c (fun q hq => h.shp hi q hq)
theorem RC.ls (h : RC σ A) (hi : i < A.1) : lsV (σ.2.2.2.1 i) = lsV (A.2.2.2.2 i) := lsV_c (fun q hq => h.shp hi q hq)
theorem hoB_mono {P : Nat → Fs} {f : Fs} {k : Nat} (h : hoB P f k = true) : ∀ n, k ≤ n → hoB P f n = true := by
  intro n hn
  induction n with
  | zero => rw [show (0 : Nat) = k by omega]; exact h
  | succ n ih =>
    by_cases hk : k = n + 1
    · subst hk; exact h
    · simp only [hoB, ih (by omega), Bool.true_or]
theorem fitB_mono {P : Nat → Fs} {f : Fs} {k : Nat} (h : fitB P f k = false) : ∀ n, k ≤ n → fitB P f n = false := by
  intro n hn
  induction n with
  | zero => rw [show (0 : Nat) = k by omega]; exact h
  | succ n ih =>
    by_cases hk : k = n + 1
    · subst hk; exact h
    · simp only [fitB, ih (by omega), Bool.false_and]
end RCS
section SHEET2
variable {G : GX} {S : Nat → Sh} {B : Bc} {M : Md} {j i : Nat} {σ : Sh}
variable {A : Ab}
set_option maxHeartbeats 4000000 in
set_option maxRecDepth 100000 in
theorem c_X2_knows (hj : j < 8) (hR : RC σ A) (v : Int32) : Ct G yX2_knows YX2_knows 0 0 [.ref (gB G + sB j), .int v] (nN G) (cellOf G (updS S j σ) B M) (Rt G (some (.int (b01 (knB A v)))) (updS S j σ) B M) := by
  refine ct_of (by decide +kernel) rfl rfl (Nat.le_of_ble_eq_true rfl) (by simp [Value.category]) ?_
  refine x_sub (l' := [(0, .ref (gB G + sB j)), (1, .int v)]) ⟨rfl, rfl, trivial⟩ ?_
  have h12 := hR.le
  refine x_iload_n (pc := 0) dX2_knows_0 rfl ?_
  refine x_iflt (pc := 1) 22 dX2_knows_1 (by decide) (fun c1 => ?_) (fun c1 => ?_)
  · refine x_iconst (pc := 22) (0) dX2_knows_22 (by decide) ?_
    exact x_zret rfl rfl dX2_knows_23 ⟨by simp only [b01, knB, *, decide_true, decide_false, decide_not, Bool.and_true, Bool.true_and, Bool.and_false, Bool.false_and, Bool.or_true, Bool.true_or, Bool.or_false, Bool.false_or, Bool.not_true, Bool.not_false, if_true, if_false, not_true, not_false_eq_true, not_false_iff, Bool.false_eq_true, reduceIte, or_true, true_or, or_false, false_or, and_true, true_and, and_false, false_and, ite_self], rfl, rfl⟩
  · refine x_iload_n (pc := 4) dX2_knows_4 rfl ?_
    refine x_aload_n (pc := 5) dX2_knows_5 rfl ?_
    refine x_get (pc := 6) (ci := 2) (k := 3) (C := RX2) (T := TX2) (N := 10) (cell_sheet (by first | assumption | omega)) rfl (sB_255 (by first | assumption | omega)) rfl nX2 (by decide) mF_X2_25 rfl dX2_knows_6 ?_
    rw [hR.told]
    refine x_cmpge (pc := 9) 22 dX2_knows_9 (by decide) (fun c9 => ?_) (fun c9 => ?_)
    · refine x_iconst (pc := 22) (0) dX2_knows_22 (by decide) ?_
      exact x_zret rfl rfl dX2_knows_23 ⟨by simp only [b01, knB, *, decide_true, decide_false, decide_not, Bool.and_true, Bool.true_and, Bool.and_false, Bool.false_and, Bool.or_true, Bool.true_or, Bool.or_false, Bool.false_or, Bool.not_true, Bool.not_false, if_true, if_false, not_true, not_false_eq_true, not_false_iff, Bool.false_eq_true, reduceIte, or_true, true_or, or_false, false_or, and_true, true_and, and_false, false_and, ite_self], rfl, rfl⟩
    · refine x_iload_n (pc := 12) dX2_knows_12 rfl ?_
      refine x_bipush (pc := 13) (12) dX2_knows_13 (by decide) ?_
      refine x_cmpge (pc := 15) 22 dX2_knows_15 (by decide) (fun c15 => ?_) (fun c15 => ?_)
      · refine x_iconst (pc := 22) (0) dX2_knows_22 (by decide) ?_
        exact x_zret rfl rfl dX2_knows_23 ⟨by simp only [b01, knB, *, decide_true, decide_false, decide_not, Bool.and_true, Bool.true_and, Bool.and_false, Bool.false_and, Bool.or_true, Bool.true_or, Bool.or_false, Bool.false_or, Bool.not_true, Bool.not_false, if_true, if_false, not_true, not_false_eq_true, not_false_iff, Bool.false_eq_true, reduceIte, or_true, true_or, or_false, false_or, and_true, true_and, and_false, false_and, ite_self], rfl, rfl⟩
      · refine x_iconst (pc := 18) (1) dX2_knows_18 (by decide) ?_
        refine x_goto (pc := 19) 23 dX2_knows_19 (by decide) ?_
        exact x_zret rfl rfl dX2_knows_23 ⟨by simp only [b01, knB, *, decide_true, decide_false, decide_not, Bool.and_true, Bool.true_and, Bool.and_false, Bool.false_and, Bool.or_true, Bool.true_or, Bool.or_false, Bool.false_or, Bool.not_true, Bool.not_false, if_true, if_false, not_true, not_false_eq_true, not_false_iff, Bool.false_eq_true, reduceIte, or_true, true_or, or_false, false_or, and_true, true_and, and_false, false_and, ite_self], rfl, rfl⟩
set_option maxHeartbeats 4000000 in
set_option maxRecDepth 100000 in
theorem c_X2_wayTo (hj : j < 8) (hR : RC σ A) (hi : i < A.1) : Ct G yX2_wayTo YX2_wayTo 0 0 [.ref (gB G + sB j), .ref (gB G + shO j i)] (nN G) (cellOf G (updS S j σ) B M) (Rt G (some (.int (wayV A i))) (updS S j σ) B M) := by
  refine ct_of (by decide +kernel) rfl rfl (Nat.le_of_ble_eq_true rfl) (by simp [Value.category]) ?_
  refine x_sub (l' := [(0, .ref (gB G + sB j)), (1, .ref (gB G + shO j i))]) ⟨rfl, rfl, trivial⟩ ?_
  have h12 := hR.le
  refine x_aload_n (pc := 0) dX2_wayTo_0 rfl ?_
  refine t_Vi (pc := 1) (c_X1_leadColumn (by first | assumption | omega) (by first | assumption | omega)) qV_X1_leadColumn mL_X2_97 dX2_wayTo_1 rfl (cell_shape (by first | assumption | omega) (by first | assumption | omega)) (shO_255 (by first | assumption | omega) (by first | assumption | omega)) rfl rfl rfl ⟨by decide, by decide⟩ (Nat.le_of_ble_eq_true rfl) (Nat.le_of_ble_eq_true rfl) (Nat.le_of_ble_eq_true rfl) ?_
  rw [hR.lc (by first | assumption | omega)]
  refine x_aload_n (pc := 4) dX2_wayTo_4 rfl ?_
  refine x_get (pc := 5) (ci := 2) (k := 4) (C := RX2) (T := TX2) (N := 10) (cell_sheet (by first | assumption | omega)) rfl (sB_255 (by first | assumption | omega)) rfl nX2 (by decide) mF_X2_29 rfl dX2_wayTo_5 ?_
  rw [hR.int 1]
  refine x_isub (pc := 8) dX2_wayTo_8 ?_
  refine x_abs (pc := 9) mL_X2_137 (by decide) (Nat.le_of_ble_eq_true rfl) (Nat.le_of_ble_eq_true rfl) (Nat.le_of_ble_eq_true rfl) dX2_wayTo_9 ?_
  refine x_aload_n (pc := 12) dX2_wayTo_12 rfl ?_
  refine t_Vi (pc := 13) (c_X1_leadRow (by first | assumption | omega) (by first | assumption | omega)) qV_X1_leadRow mL_X2_101 dX2_wayTo_13 rfl (cell_shape (by first | assumption | omega) (by first | assumption | omega)) (shO_255 (by first | assumption | omega) (by first | assumption | omega)) rfl rfl rfl ⟨by decide, by decide⟩ (Nat.le_of_ble_eq_true rfl) (Nat.le_of_ble_eq_true rfl) (Nat.le_of_ble_eq_true rfl) ?_
  rw [hR.lr (by first | assumption | omega)]
  refine x_aload_n (pc := 16) dX2_wayTo_16 rfl ?_
  refine x_get (pc := 17) (ci := 2) (k := 5) (C := RX2) (T := TX2) (N := 10) (cell_sheet (by first | assumption | omega)) rfl (sB_255 (by first | assumption | omega)) rfl nX2 (by decide) mF_X2_32 rfl dX2_wayTo_17 ?_
  rw [hR.int 2]
  refine x_isub (pc := 20) dX2_wayTo_20 ?_
  refine x_abs (pc := 21) mL_X2_137 (by decide) (Nat.le_of_ble_eq_true rfl) (Nat.le_of_ble_eq_true rfl) (Nat.le_of_ble_eq_true rfl) dX2_wayTo_21 ?_
  refine x_iadd (pc := 24) dX2_wayTo_24 ?_
  exact x_iret rfl dX2_wayTo_25 ⟨by rfl, rfl, rfl⟩
set_option maxHeartbeats 4000000 in
set_option maxRecDepth 100000 in
theorem c_X2_burningOf (hj : j < 8) (hR : RC σ A) (hi : i < A.1) : Ct G yX2_burningOf YX2_burningOf 0 0 [.ref (gB G + sB j), .ref (gB G + shO j i)] (nN G) (cellOf G (updS S j σ) B M) (Rt G (some (.int (burV A i))) (updS S j σ) B M) := by
  refine ct_of (by decide +kernel) rfl rfl (Nat.le_of_ble_eq_true rfl) (by simp [Value.category]) ?_
  refine x_sub (l' := [(0, .ref (gB G + sB j)), (1, .ref (gB G + shO j i))]) ⟨rfl, rfl, trivial⟩ ?_
  have h12 := hR.le
  refine x_aload_n (pc := 0) dX2_burningOf_0 rfl ?_
  refine t_Vi (pc := 1) (c_X1_edge (by first | assumption | omega) (by first | assumption | omega)) qV_X1_edge mL_X2_140 dX2_burningOf_1 rfl (cell_shape (by first | assumption | omega) (by first | assumption | omega)) (shO_255 (by first | assumption | omega) (by first | assumption | omega)) rfl rfl rfl ⟨by decide, by decide⟩ (Nat.le_of_ble_eq_true rfl) (Nat.le_of_ble_eq_true rfl) (Nat.le_of_ble_eq_true rfl) ?_
  rw [hR.ed (by first | assumption | omega)]
  refine x_iconst (pc := 4) (2) dX2_burningOf_4 (by decide) ?_
  refine x_aload_n (pc := 5) dX2_burningOf_5 rfl ?_
  refine x_get (pc := 6) (ci := 2) (k := 6) (C := RX2) (T := TX2) (N := 10) (cell_sheet (by first | assumption | omega)) rfl (sB_255 (by first | assumption | omega)) rfl nX2 (by decide) mF_X2_35 rfl dX2_burningOf_6 ?_
  rw [hR.int 3]
  refine x_iconst (pc := 9) (4) dX2_burningOf_9 (by decide) ?_
  refine x_idiv (pc := 10) dX2_burningOf_10 (by decide) ?_
  refine x_iadd (pc := 11) dX2_burningOf_11 ?_
  refine x_imul (pc := 12) dX2_burningOf_12 ?_
  exact x_iret rfl dX2_burningOf_13 ⟨by rfl, rfl, rfl⟩
set_option maxHeartbeats 4000000 in
set_option maxRecDepth 100000 in
theorem c_X2_holdsWholeShape (hj : j < 8) (hR : RC σ A) (hi : i < A.1) : Ct G yX2_holdsWholeShape YX2_holdsWholeShape 0 0 [.ref (gB G + sB j), .ref (gB G + shO j i)] (nN G) (cellOf G (updS S j σ) B M) (Rt G (some (.int (b01 (hoB A.2.2.2.2 (A.2.2.2.2 i) A.1)))) (updS S j σ) B M) := by
  refine ct_of (by decide +kernel) rfl rfl (Nat.le_of_ble_eq_true rfl) (by simp [Value.category]) ?_
  refine x_sub (l' := [(0, .ref (gB G + sB j)), (1, .ref (gB G + shO j i))]) ⟨rfl, rfl, trivial⟩ ?_
  have h12 := hR.le
  have lp : ∀ k, k ≤ A.1 → hoB A.2.2.2.2 (A.2.2.2.2 i) k = false → XJ G YX2_holdsWholeShape (fun _ => True) (Zx G (Rt G (some (.int (b01 (hoB A.2.2.2.2 (A.2.2.2.2 i) A.1)))) (updS S j σ) B M) 0 0) 2 [(0, .ref (gB G + sB j)), (1, .ref (gB G + shO j i)), (2, .int (nI k))] [] (nN G) (cellOf G (updS S j σ) B M) 0 0 := by
    refine loopD (A.1) ?_
    intro k hk ih hf
    refine x_iload_n (pc := 2) dX2_holdsWholeShape_2 rfl ?_
    refine x_aload_n (pc := 3) dX2_holdsWholeShape_3 rfl ?_
    refine x_get (pc := 4) (ci := 2) (k := 3) (C := RX2) (T := TX2) (N := 10) (cell_sheet (by first | assumption | omega)) rfl (sB_255 (by first | assumption | omega)) rfl nX2 (by decide) mF_X2_25 rfl dX2_holdsWholeShape_4 ?_
    rw [hR.told]
    refine x_cmpge (pc := 7) 43 dX2_holdsWholeShape_7 (by decide) (fun c7 => ?_) (fun c7 => ?_)
    · obtain rfl : k = A.1 := by have := mt (tl_iff hR.le hk).mpr c7; omega
      refine x_iconst (pc := 43) (0) dX2_holdsWholeShape_43 (by decide) ?_
      exact x_zret rfl rfl dX2_holdsWholeShape_44 ⟨by rw [hf]; rfl, rfl, rfl⟩
    · have hkn : k < A.1 := (tl_iff hR.le hk).mp c7
      refine x_aload_n (pc := 10) dX2_holdsWholeShape_10 rfl ?_
      refine x_get (pc := 11) (ci := 2) (k := 0) (C := RX2) (T := TX2) (N := 10) (cell_sheet (by first | assumption | omega)) rfl (sB_255 (by first | assumption | omega)) rfl nX2 (by decide) mF_X2_13 rfl dX2_holdsWholeShape_11 ?_
      refine x_iload_n (pc := 14) dX2_holdsWholeShape_14 rfl ?_
      refine t_shapes (pc := 15) _ (by first | assumption | omega) rfl (by first | assumption | omega) dX2_holdsWholeShape_15 ?_
      refine x_get (pc := 16) (ci := 1) (k := 5) (C := RX1) (T := TX1) (N := 9) (cell_shape (by first | assumption | omega) (by first | assumption | omega)) rfl (shO_255 (by first | assumption | omega) (by first | assumption | omega)) rfl nX1 (by decide) mF_X2_66 rfl dX2_holdsWholeShape_16 ?_
      rw [hR.shp (by first | assumption | omega) 5]
      refine x_ifne (pc := 19) 37 dX2_holdsWholeShape_19 (by decide) (fun c19 => ?_) (fun c19 => ?_)
      · refine x_iinc (pc := 37) (nI (k + 1)) dX2_holdsWholeShape_37 rfl (iinc_nI k) (by decide) ?_
        refine x_goto (pc := 40) 2 dX2_holdsWholeShape_40 (by decide) ?_
        have e := ih hkn (by simp only [hoB, hf]; simp_all [b01])
        exact x_back e ⟨rfl, rfl, rfl, trivial⟩
      · refine x_aload_n (pc := 22) dX2_holdsWholeShape_22 rfl ?_
        refine x_get (pc := 23) (ci := 2) (k := 0) (C := RX2) (T := TX2) (N := 10) (cell_sheet (by first | assumption | omega)) rfl (sB_255 (by first | assumption | omega)) rfl nX2 (by decide) mF_X2_13 rfl dX2_holdsWholeShape_23 ?_
        refine x_iload_n (pc := 26) dX2_holdsWholeShape_26 rfl ?_
        refine t_shapes (pc := 27) _ (by first | assumption | omega) rfl (by first | assumption | omega) dX2_holdsWholeShape_27 ?_
        refine x_aload_n (pc := 28) dX2_holdsWholeShape_28 rfl ?_
        refine t_Vi (pc := 29) (c_X1_isInside (by first | assumption | omega) (by first | assumption | omega) (by first | assumption | omega)) qV_X1_isInside mL_X2_63 dX2_holdsWholeShape_29 rfl (cell_shape (by first | assumption | omega) (by first | assumption | omega)) (shO_255 (by first | assumption | omega) (by first | assumption | omega)) rfl rfl rfl ⟨by decide, by decide⟩ (Nat.le_of_ble_eq_true rfl) (Nat.le_of_ble_eq_true rfl) (Nat.le_of_ble_eq_true rfl) ?_
        rw [hR.ins (by first | assumption | omega) (by first | assumption | omega)]
        refine x_ifeq (pc := 32) 37 dX2_holdsWholeShape_32 (by decide) (fun c32 => ?_) (fun c32 => ?_)
        · refine x_iinc (pc := 37) (nI (k + 1)) dX2_holdsWholeShape_37 rfl (iinc_nI k) (by decide) ?_
          refine x_goto (pc := 40) 2 dX2_holdsWholeShape_40 (by decide) ?_
          have e := ih hkn (by simp only [hoB, hf]; simp_all [b01])
          exact x_back e ⟨rfl, rfl, rfl, trivial⟩
        · refine x_iconst (pc := 35) (1) dX2_holdsWholeShape_35 (by decide) ?_
          exact x_zret rfl rfl dX2_holdsWholeShape_36 ⟨by rw [hoB_mono (k := k + 1) (by simp only [hoB, hf]; simp_all [b01]) A.1 hkn]; rfl, rfl, rfl⟩
  refine x_iconst (pc := 0) (0) dX2_holdsWholeShape_0 (by decide) ?_
  refine x_istore_n (pc := 1) dX2_holdsWholeShape_1 (by decide) ?_
  exact x_back (lp 0 (by omega) rfl) ⟨rfl, rfl, rfl, trivial⟩
set_option maxHeartbeats 4000000 in
set_option maxRecDepth 100000 in
theorem c_X2_heatOver (hj : j < 8) (hR : RC σ A) (hi : i < A.1) : Ct G yX2_heatOver YX2_heatOver 0 0 [.ref (gB G + sB j), .ref (gB G + shO j i)] (nN G) (cellOf G (updS S j σ) B M) (Rt G (some (.int (hovV A i))) (updS S j σ) B M) := by
  refine ct_of (by decide +kernel) rfl rfl (Nat.le_of_ble_eq_true rfl) (by simp [Value.category]) ?_
  refine x_sub (l' := [(0, .ref (gB G + sB j)), (1, .ref (gB G + shO j i))]) ⟨rfl, rfl, trivial⟩ ?_
  have h12 := hR.le
  have lp : ∀ k, k ≤ 12 → XJ G YX2_heatOver (fun _ => True) (Zx G (Rt G (some (.int (hovV A i))) (updS S j σ) B M) 0 0) 4 [(0, .ref (gB G + sB j)), (1, .ref (gB G + shO j i)), (2, .int (hmx (edgQ (A.2.2.2.2 i)) A.2.2.1 k)), (3, .int (nI k))] [] (nN G) (cellOf G (updS S j σ) B M) 0 0 := by
    refine loopD (12) ?_
    intro k hk ih
    refine x_iload_n (pc := 4) dX2_heatOver_4 rfl ?_
    refine x_bipush (pc := 5) (12) dX2_heatOver_5 (by decide) ?_
    refine x_cmpge (pc := 7) 36 dX2_heatOver_7 (by decide) (fun c7 => ?_) (fun c7 => ?_)
    · obtain rfl : k = 12 := by have := mt (lt_lit (n := 12) rfl (by decide) (by omega)).mpr c7; omega
      refine x_iload_n (pc := 36) dX2_heatOver_36 rfl ?_
      refine x_aload_n (pc := 37) dX2_heatOver_37 rfl ?_
      refine x_get (pc := 38) (ci := 2) (k := 2) (C := RX2) (T := TX2) (N := 10) (cell_sheet (by first | assumption | omega)) rfl (sB_255 (by first | assumption | omega)) rfl nX2 (by decide) mF_X2_22 rfl dX2_heatOver_38 ?_
      refine x_iconst (pc := 41) (2) dX2_heatOver_41 (by decide) ?_
      refine t_ild (pc := 42) 2 (cell_sets (by first | assumption | omega)) (stO_255 (by first | assumption | omega)) rfl (by decide) (by decide) dX2_heatOver_42 ?_
      rw [hR.sett _ (by decide)]
      refine x_isub (pc := 43) dX2_heatOver_43 ?_
      exact x_iret rfl dX2_heatOver_44 ⟨by rfl, rfl, rfl⟩
    · have hkn : k < 12 := (lt_lit rfl (by decide) (by omega)).mp c7
      refine x_aload_n (pc := 10) dX2_heatOver_10 rfl ?_
      refine x_get (pc := 11) (ci := 1) (k := 8) (C := RX1) (T := TX1) (N := 9) (cell_shape (by first | assumption | omega) (by first | assumption | omega)) rfl (shO_255 (by first | assumption | omega) (by first | assumption | omega)) rfl nX1 (by decide) mF_X2_128 rfl dX2_heatOver_11 ?_
      refine x_iload_n (pc := 14) dX2_heatOver_14 rfl ?_
      refine t_ild (pc := 15) _ (cell_edge (by first | assumption | omega) (by first | assumption | omega)) (egO_255 (by first | assumption | omega) (by first | assumption | omega)) rfl (by first | assumption | omega) (by decide) dX2_heatOver_15 ?_
      rw [hR.edg (by first | assumption | omega) _ (by first | assumption | omega)]
      refine x_ifle (pc := 16) 30 dX2_heatOver_16 (by decide) (fun c16 => ?_) (fun c16 => ?_)
      · refine x_iinc (pc := 30) (nI (k + 1)) dX2_heatOver_30 rfl (iinc_nI k) (by decide) ?_
        refine x_goto (pc := 33) 4 dX2_heatOver_33 (by decide) ?_
        have e := ih hkn
        simp only [hmx, *, if_true, if_false] at e
        exact x_back e ⟨rfl, rfl, rfl, rfl, trivial⟩
      · refine x_iload_n (pc := 19) dX2_heatOver_19 rfl ?_
        refine x_aload_n (pc := 20) dX2_heatOver_20 rfl ?_
        refine x_get (pc := 21) (ci := 2) (k := 1) (C := RX2) (T := TX2) (N := 10) (cell_sheet (by first | assumption | omega)) rfl (sB_255 (by first | assumption | omega)) rfl nX2 (by decide) mF_X2_18 rfl dX2_heatOver_21 ?_
        refine x_iload_n (pc := 24) dX2_heatOver_24 rfl ?_
        refine t_ild (pc := 25) _ (cell_heats (by first | assumption | omega)) (htO_255 (by first | assumption | omega)) rfl (by first | assumption | omega) (by decide) dX2_heatOver_25 ?_
        rw [hR.heat _ (by first | assumption | omega)]
        refine x_max (pc := 26) mL_X2_131 (by decide) (Nat.le_of_ble_eq_true rfl) (Nat.le_of_ble_eq_true rfl) (Nat.le_of_ble_eq_true rfl) dX2_heatOver_26 ?_
        refine x_istore_n (pc := 29) dX2_heatOver_29 (by decide) ?_
        refine x_iinc (pc := 30) (nI (k + 1)) dX2_heatOver_30 rfl (iinc_nI k) (by decide) ?_
        refine x_goto (pc := 33) 4 dX2_heatOver_33 (by decide) ?_
        have e := ih hkn
        simp only [hmx, *, if_true, if_false] at e
        exact x_back e ⟨rfl, rfl, rfl, rfl, trivial⟩
  refine x_iconst (pc := 0) (0) dX2_heatOver_0 (by decide) ?_
  refine x_istore_n (pc := 1) dX2_heatOver_1 (by decide) ?_
  refine x_iconst (pc := 2) (0) dX2_heatOver_2 (by decide) ?_
  refine x_istore_n (pc := 3) dX2_heatOver_3 (by decide) ?_
  exact x_back (lp 0 (by omega)) ⟨rfl, rfl, rfl, rfl, trivial⟩
set_option maxHeartbeats 4000000 in
set_option maxRecDepth 100000 in
theorem c_X2_reasonAgainst (hj : j < 8) (hR : RC σ A) (hi : i < A.1) : Ct G yX2_reasonAgainst YX2_reasonAgainst 0 0 [.ref (gB G + sB j), .int (nI i)] (nN G) (cellOf G (updS S j σ) B M) (Rt G (some (.int (whyV A i))) (updS S j σ) B M) := by
  refine ct_of (by decide +kernel) rfl rfl (Nat.le_of_ble_eq_true rfl) (by simp [Value.category]) ?_
  refine x_sub (l' := [(0, .ref (gB G + sB j)), (1, .int (nI i))]) ⟨rfl, rfl, trivial⟩ ?_
  have h12 := hR.le
  refine x_aload_n (pc := 0) dX2_reasonAgainst_0 rfl ?_
  refine x_get (pc := 1) (ci := 2) (k := 0) (C := RX2) (T := TX2) (N := 10) (cell_sheet (by first | assumption | omega)) rfl (sB_255 (by first | assumption | omega)) rfl nX2 (by decide) mF_X2_13 rfl dX2_reasonAgainst_1 ?_
  refine x_iload_n (pc := 4) dX2_reasonAgainst_4 rfl ?_
  refine t_shapes (pc := 5) _ (by first | assumption | omega) rfl (by first | assumption | omega) dX2_reasonAgainst_5 ?_
  refine x_astore_n (pc := 6) dX2_reasonAgainst_6 (by decide) ?_
  refine x_aload_n (pc := 7) dX2_reasonAgainst_7 rfl ?_
  refine x_get (pc := 8) (ci := 1) (k := 5) (C := RX1) (T := TX1) (N := 9) (cell_shape (by first | assumption | omega) (by first | assumption | omega)) rfl (shO_255 (by first | assumption | omega) (by first | assumption | omega)) rfl nX1 (by decide) mF_X2_66 rfl dX2_reasonAgainst_8 ?_
  rw [hR.shp (by first | assumption | omega) 5]
  refine x_iconst (pc := 11) (1) dX2_reasonAgainst_11 (by decide) ?_
  refine x_cmpne (pc := 12) 17 dX2_reasonAgainst_12 (by decide) (fun c12 => ?_) (fun c12 => ?_)
  · refine x_aload_n (pc := 17) dX2_reasonAgainst_17 rfl ?_
    refine x_get (pc := 18) (ci := 1) (k := 5) (C := RX1) (T := TX1) (N := 9) (cell_shape (by first | assumption | omega) (by first | assumption | omega)) rfl (shO_255 (by first | assumption | omega) (by first | assumption | omega)) rfl nX1 (by decide) mF_X2_66 rfl dX2_reasonAgainst_18 ?_
    rw [hR.shp (by first | assumption | omega) 5]
    refine x_iconst (pc := 21) (2) dX2_reasonAgainst_21 (by decide) ?_
    refine x_cmpne (pc := 22) 27 dX2_reasonAgainst_22 (by decide) (fun c22 => ?_) (fun c22 => ?_)
    · refine x_aload_n (pc := 27) dX2_reasonAgainst_27 rfl ?_
      refine x_get (pc := 28) (ci := 2) (k := 2) (C := RX2) (T := TX2) (N := 10) (cell_sheet (by first | assumption | omega)) rfl (sB_255 (by first | assumption | omega)) rfl nX2 (by decide) mF_X2_22 rfl dX2_reasonAgainst_28 ?_
      refine x_iconst (pc := 31) (3) dX2_reasonAgainst_31 (by decide) ?_
      refine t_ild (pc := 32) 3 (cell_sets (by first | assumption | omega)) (stO_255 (by first | assumption | omega)) rfl (by decide) (by decide) dX2_reasonAgainst_32 ?_
      rw [hR.sett _ (by decide)]
      refine x_iconst (pc := 33) (1) dX2_reasonAgainst_33 (by decide) ?_
      refine x_cmpne (pc := 34) 47 dX2_reasonAgainst_34 (by decide) (fun c34 => ?_) (fun c34 => ?_)
      · refine x_aload_n (pc := 47) dX2_reasonAgainst_47 rfl ?_
        refine x_aload_n (pc := 48) dX2_reasonAgainst_48 rfl ?_
        refine t_Vi (pc := 49) (c_X2_heatOver (by first | assumption | omega) hR (by first | assumption | omega)) qV_X2_heatOver mL_X2_146 dX2_reasonAgainst_49 rfl (cell_sheet (by first | assumption | omega)) (sB_255 (by first | assumption | omega)) rfl rfl rfl ⟨by decide, by decide⟩ (Nat.le_of_ble_eq_true rfl) (Nat.le_of_ble_eq_true rfl) (Nat.le_of_ble_eq_true rfl) ?_
        refine x_aload_n (pc := 52) dX2_reasonAgainst_52 rfl ?_
        refine x_aload_n (pc := 53) dX2_reasonAgainst_53 rfl ?_
        refine t_Vi (pc := 54) (c_X2_wayTo (by first | assumption | omega) hR (by first | assumption | omega)) qV_X2_wayTo mL_X2_89 dX2_reasonAgainst_54 rfl (cell_sheet (by first | assumption | omega)) (sB_255 (by first | assumption | omega)) rfl rfl rfl ⟨by decide, by decide⟩ (Nat.le_of_ble_eq_true rfl) (Nat.le_of_ble_eq_true rfl) (Nat.le_of_ble_eq_true rfl) ?_
        refine x_aload_n (pc := 57) dX2_reasonAgainst_57 rfl ?_
        refine x_get (pc := 58) (ci := 2) (k := 2) (C := RX2) (T := TX2) (N := 10) (cell_sheet (by first | assumption | omega)) rfl (sB_255 (by first | assumption | omega)) rfl nX2 (by decide) mF_X2_22 rfl dX2_reasonAgainst_58 ?_
        refine x_iconst (pc := 61) (1) dX2_reasonAgainst_61 (by decide) ?_
        refine t_ild (pc := 62) 1 (cell_sets (by first | assumption | omega)) (stO_255 (by first | assumption | omega)) rfl (by decide) (by decide) dX2_reasonAgainst_62 ?_
        rw [hR.sett _ (by decide)]
        refine x_imul (pc := 63) dX2_reasonAgainst_63 ?_
        refine x_cmple (pc := 64) 71 dX2_reasonAgainst_64 (by decide) (fun c64 => ?_) (fun c64 => ?_)
        · refine x_iconst (pc := 71) (0) dX2_reasonAgainst_71 (by decide) ?_
          exact x_iret rfl dX2_reasonAgainst_72 ⟨by simp_all [whyV, b01], rfl, rfl⟩
        · refine x_iconst (pc := 67) (4) dX2_reasonAgainst_67 (by decide) ?_
          refine x_goto (pc := 68) 72 dX2_reasonAgainst_68 (by decide) ?_
          exact x_iret rfl dX2_reasonAgainst_72 ⟨by simp_all [whyV, b01], rfl, rfl⟩
      · refine x_aload_n (pc := 37) dX2_reasonAgainst_37 rfl ?_
        refine x_aload_n (pc := 38) dX2_reasonAgainst_38 rfl ?_
        refine t_Vi (pc := 39) (c_X2_holdsWholeShape (by first | assumption | omega) hR (by first | assumption | omega)) qV_X2_holdsWholeShape mL_X2_143 dX2_reasonAgainst_39 rfl (cell_sheet (by first | assumption | omega)) (sB_255 (by first | assumption | omega)) rfl rfl rfl ⟨by decide, by decide⟩ (Nat.le_of_ble_eq_true rfl) (Nat.le_of_ble_eq_true rfl) (Nat.le_of_ble_eq_true rfl) ?_
        refine x_ifeq (pc := 42) 47 dX2_reasonAgainst_42 (by decide) (fun c42 => ?_) (fun c42 => ?_)
        · refine x_aload_n (pc := 47) dX2_reasonAgainst_47 rfl ?_
          refine x_aload_n (pc := 48) dX2_reasonAgainst_48 rfl ?_
          refine t_Vi (pc := 49) (c_X2_heatOver (by first | assumption | omega) hR (by first | assumption | omega)) qV_X2_heatOver mL_X2_146 dX2_reasonAgainst_49 rfl (cell_sheet (by first | assumption | omega)) (sB_255 (by first | assumption | omega)) rfl rfl rfl ⟨by decide, by decide⟩ (Nat.le_of_ble_eq_true rfl) (Nat.le_of_ble_eq_true rfl) (Nat.le_of_ble_eq_true rfl) ?_
          refine x_aload_n (pc := 52) dX2_reasonAgainst_52 rfl ?_
          refine x_aload_n (pc := 53) dX2_reasonAgainst_53 rfl ?_
          refine t_Vi (pc := 54) (c_X2_wayTo (by first | assumption | omega) hR (by first | assumption | omega)) qV_X2_wayTo mL_X2_89 dX2_reasonAgainst_54 rfl (cell_sheet (by first | assumption | omega)) (sB_255 (by first | assumption | omega)) rfl rfl rfl ⟨by decide, by decide⟩ (Nat.le_of_ble_eq_true rfl) (Nat.le_of_ble_eq_true rfl) (Nat.le_of_ble_eq_true rfl) ?_
          refine x_aload_n (pc := 57) dX2_reasonAgainst_57 rfl ?_
          refine x_get (pc := 58) (ci := 2) (k := 2) (C := RX2) (T := TX2) (N := 10) (cell_sheet (by first | assumption | omega)) rfl (sB_255 (by first | assumption | omega)) rfl nX2 (by decide) mF_X2_22 rfl dX2_reasonAgainst_58 ?_
          refine x_iconst (pc := 61) (1) dX2_reasonAgainst_61 (by decide) ?_
          refine t_ild (pc := 62) 1 (cell_sets (by first | assumption | omega)) (stO_255 (by first | assumption | omega)) rfl (by decide) (by decide) dX2_reasonAgainst_62 ?_
          rw [hR.sett _ (by decide)]
          refine x_imul (pc := 63) dX2_reasonAgainst_63 ?_
          refine x_cmple (pc := 64) 71 dX2_reasonAgainst_64 (by decide) (fun c64 => ?_) (fun c64 => ?_)
          · refine x_iconst (pc := 71) (0) dX2_reasonAgainst_71 (by decide) ?_
            exact x_iret rfl dX2_reasonAgainst_72 ⟨by simp_all [whyV, b01], rfl, rfl⟩
          · refine x_iconst (pc := 67) (4) dX2_reasonAgainst_67 (by decide) ?_
            refine x_goto (pc := 68) 72 dX2_reasonAgainst_68 (by decide) ?_
            exact x_iret rfl dX2_reasonAgainst_72 ⟨by simp_all [whyV, b01], rfl, rfl⟩
        · refine x_iconst (pc := 45) (3) dX2_reasonAgainst_45 (by decide) ?_
          exact x_iret rfl dX2_reasonAgainst_46 ⟨by simp_all [whyV, b01], rfl, rfl⟩
    · refine x_iconst (pc := 25) (2) dX2_reasonAgainst_25 (by decide) ?_
      exact x_iret rfl dX2_reasonAgainst_26 ⟨by simp_all [whyV, b01], rfl, rfl⟩
  · refine x_iconst (pc := 15) (1) dX2_reasonAgainst_15 (by decide) ?_
    exact x_iret rfl dX2_reasonAgainst_16 ⟨by simp_all [whyV, b01], rfl, rfl⟩
end SHEET2
end
section
/-! the class: Sheet's readers, second part (rows laid by wip/whole/p14.py) -/
def tcX (A : Ab) (v : Int32) : Int32 := if knB A v then tcV A v.toNatClampNeg else -1
def kcX (A : Ab) (v : Int32) : Int32 := if knB A v then kcV A v.toNatClampNeg else -1
theorem tcX_nI {A : Ab} (ht : A.1 ≤ 12) {i : Nat} (hi : i < A.1) : tcX A (nI i) = tcV A i := by
  simp only [tcX, knB_nI ht hi, if_true, nI_clamp (show i < 2 ^ 31 by omega)]
theorem kcX_nI {A : Ab} (ht : A.1 ≤ 12) {i : Nat} (hi : i < A.1) : kcX A (nI i) = kcV A i := by
  simp only [kcX, knB_nI ht hi, if_true, nI_clamp (show i < 2 ^ 31 by omega)]
theorem nI_ne5 {q : Nat} (h : q < 2 ^ 31) : ¬ nI q = -5 := fun e => by
  have h1 := nI_toInt h
  rw [e] at h1
  have h2 : (-5 : Int32).toInt = -5 := by decide
  omega
theorem oV_some {o : Option Nat} (h : ¬ oV o = -5) : ∃ q, o = some q := by
  cases o with
  | none => exact absurd rfl h
  | some q => exact ⟨q, rfl⟩
theorem oV_none {o : Option Nat} (hb : ∀ q, o = some q → q < 2 ^ 31) (h : oV o = -5) : o = none := by
  cases o with
  | none => rfl
  | some q => exact absurd h (nI_ne5 (hb q rfl))
theorem besO_lt {A : Ab} : ∀ {k q : Nat}, besO A k = some q → q < k
  | 0, _, h => by simp [besO] at h
  | k + 1, q, h => by
    simp only [besO] at h
    split at h
    · split at h
      · cases h; omega
      · rename_i q' hq'
        have := besO_lt hq'
        split at h <;> (cases h; omega)
    · exact Nat.lt_succ_of_lt (besO_lt h)
theorem outO_lt {P : Nat → Fs} {f : Fs} : ∀ {k q : Nat}, outO P f k = some q → q < k
  | 0, _, h => by simp [outO] at h
  | k + 1, q, h => by
    rw [show outO P f (k + 1) = if (insB f (P k) && (match outO P f k with | none => true | some q => insB (P k) (P q))) then some k else outO P f k from rfl] at h
    by_cases hc : (insB f (P k) && (match outO P f k with | none => true | some q => insB (P k) (P q))) = true
    · rw [if_pos hc] at h; cases h; omega
    · rw [if_neg hc] at h; exact Nat.lt_succ_of_lt (outO_lt h)
theorem hotN_1 (H : Fs) : hotN H 1 = 0 := by simp [hotN]
theorem hotN_12 (H : Fs) : hotN H 12 < 12 := (hotN_lt H 12).elim id (fun h => absurd h (by decide))
theorem betw_out {v b : Int32} {n : Nat} (hb : b = nI n) (hn : n < 2 ^ 31) (h : ¬ betw v 0 b = true) : v.toInt < 0 ∨ (n : Int) < v.toInt := by
  by_cases h1 : v < 0
  · exact Or.inl (by simpa using (Int32.lt_iff_toInt_lt.mp h1))
  · refine Or.inr ?_
    have h2 : b < v := by
      apply Classical.byContradiction
      intro q
      exact h (by simp only [betw, decide_eq_false h1, decide_eq_false q]; rfl)
    have h3 := Int32.lt_iff_toInt_lt.mp h2
    rw [hb, nI_toInt hn] at h3
    exact h3
theorem ne_out {v : Int32} {n m : Nat} (hm : m ≤ n) (hn : n < 2 ^ 31) (h : v.toInt < 0 ∨ (n : Int) < v.toInt) : ¬ v = nI m := fun e => by
  rw [e, nI_toInt (by omega)] at h
  omega
theorem betw_ge {v : Int32} {n m : Nat} (hm : m ≤ n) (hn : n < 2 ^ 31) (h : v.toInt < 0 ∨ (n : Int) < v.toInt) : betw v 0 (nI m) = false := by
  rcases h with h | h
  · have h1 : v < 0 := Int32.lt_iff_toInt_lt.mpr (by simpa using h)
    simp only [betw, decide_eq_true h1]; rfl
  · have h1 : nI m < v := Int32.lt_iff_toInt_lt.mpr (by rw [nI_toInt (by omega)]; omega)
    simp only [betw, decide_eq_true h1]; simp
section SHEET3
variable {G : GX} {S : Nat → Sh} {B : Bc} {M : Md} {j i : Nat} {σ : Sh}
variable {A : Ab}
set_option maxHeartbeats 4000000 in
set_option maxRecDepth 100000 in
theorem c_X2_ticksToCut (hj : j < 8) (hR : RC σ A) (v : Int32) : Ct G yX2_ticksToCut YX2_ticksToCut 0 0 [.ref (gB G + sB j), .int v] (nN G) (cellOf G (updS S j σ) B M) (Rt G (some (.int (tcX A v))) (updS S j σ) B M) := by
  refine ct_of (by decide +kernel) rfl rfl (Nat.le_of_ble_eq_true rfl) (by simp [Value.category]) ?_
  refine x_sub (l' := [(0, .ref (gB G + sB j)), (1, .int v)]) ⟨rfl, rfl, trivial⟩ ?_
  have h12 := hR.le
  refine x_aload_n (pc := 0) dX2_ticksToCut_0 rfl ?_
  refine x_iload_n (pc := 1) dX2_ticksToCut_1 rfl ?_
  refine t_Vi (pc := 2) (c_X2_knows (by first | assumption | omega) hR _) qV_X2_knows mL_X2_72 dX2_ticksToCut_2 rfl (cell_sheet (by first | assumption | omega)) (sB_255 (by first | assumption | omega)) rfl rfl rfl ⟨by decide, by decide⟩ (Nat.le_of_ble_eq_true rfl) (Nat.le_of_ble_eq_true rfl) (Nat.le_of_ble_eq_true rfl) ?_
  refine x_ifne (pc := 5) 10 dX2_ticksToCut_5 (by decide) (fun c5 => ?_) (fun c5 => ?_)
  · obtain ⟨i, hi, rfl, hcl⟩ := knB_some hR.le (b01_ne c5)
    refine x_aload_n (pc := 10) dX2_ticksToCut_10 rfl ?_
    refine x_get (pc := 11) (ci := 2) (k := 0) (C := RX2) (T := TX2) (N := 10) (cell_sheet (by first | assumption | omega)) rfl (sB_255 (by first | assumption | omega)) rfl nX2 (by decide) mF_X2_13 rfl dX2_ticksToCut_11 ?_
    refine x_iload_n (pc := 14) dX2_ticksToCut_14 rfl ?_
    refine t_shapes (pc := 15) _ (by first | assumption | omega) rfl (by first | assumption | omega) dX2_ticksToCut_15 ?_
    refine x_astore_n (pc := 16) dX2_ticksToCut_16 (by decide) ?_
    refine x_aload_n (pc := 17) dX2_ticksToCut_17 rfl ?_
    refine x_get (pc := 18) (ci := 1) (k := 5) (C := RX1) (T := TX1) (N := 9) (cell_shape (by first | assumption | omega) (by first | assumption | omega)) rfl (shO_255 (by first | assumption | omega) (by first | assumption | omega)) rfl nX1 (by decide) mF_X2_66 rfl dX2_ticksToCut_18 ?_
    rw [hR.shp (by first | assumption | omega) 5]
    refine x_ifne (pc := 21) 38 dX2_ticksToCut_21 (by decide) (fun c21 => ?_) (fun c21 => ?_)
    · refine x_bipush (pc := 38) (-4) dX2_ticksToCut_38 (by decide) ?_
      exact x_iret rfl dX2_ticksToCut_40 ⟨by simp only [tcX, b01_ne c5, if_true, hcl, tcV, *, if_false], rfl, rfl⟩
    · refine x_aload_n (pc := 24) dX2_ticksToCut_24 rfl ?_
      refine x_aload_n (pc := 25) dX2_ticksToCut_25 rfl ?_
      refine t_Vi (pc := 26) (c_X2_wayTo (by first | assumption | omega) hR (by first | assumption | omega)) qV_X2_wayTo mL_X2_89 dX2_ticksToCut_26 rfl (cell_sheet (by first | assumption | omega)) (sB_255 (by first | assumption | omega)) rfl rfl rfl ⟨by decide, by decide⟩ (Nat.le_of_ble_eq_true rfl) (Nat.le_of_ble_eq_true rfl) (Nat.le_of_ble_eq_true rfl) ?_
      refine x_aload_n (pc := 29) dX2_ticksToCut_29 rfl ?_
      refine x_aload_n (pc := 30) dX2_ticksToCut_30 rfl ?_
      refine t_Vi (pc := 31) (c_X2_burningOf (by first | assumption | omega) hR (by first | assumption | omega)) qV_X2_burningOf mL_X2_125 dX2_ticksToCut_31 rfl (cell_sheet (by first | assumption | omega)) (sB_255 (by first | assumption | omega)) rfl rfl rfl ⟨by decide, by decide⟩ (Nat.le_of_ble_eq_true rfl) (Nat.le_of_ble_eq_true rfl) (Nat.le_of_ble_eq_true rfl) ?_
      refine x_iadd (pc := 34) dX2_ticksToCut_34 ?_
      refine x_goto (pc := 35) 40 dX2_ticksToCut_35 (by decide) ?_
      exact x_iret rfl dX2_ticksToCut_40 ⟨by simp only [tcX, b01_ne c5, if_true, hcl, tcV, *, if_false], rfl, rfl⟩
  · refine x_iconst (pc := 8) (-1) dX2_ticksToCut_8 (by decide) ?_
    exact x_iret rfl dX2_ticksToCut_9 ⟨by simp only [tcX, b01_eq c5, Bool.false_eq_true, if_false], rfl, rfl⟩
set_option maxHeartbeats 4000000 in
set_option maxRecDepth 100000 in
theorem c_X2_ticksToCool (hj : j < 8) (hR : RC σ A) (v : Int32) : Ct G yX2_ticksToCool YX2_ticksToCool 0 0 [.ref (gB G + sB j), .int v] (nN G) (cellOf G (updS S j σ) B M) (Rt G (some (.int (kcX A v))) (updS S j σ) B M) := by
  refine ct_of (by decide +kernel) rfl rfl (Nat.le_of_ble_eq_true rfl) (by simp [Value.category]) ?_
  refine x_sub (l' := [(0, .ref (gB G + sB j)), (1, .int v)]) ⟨rfl, rfl, trivial⟩ ?_
  have h12 := hR.le
  refine x_aload_n (pc := 0) dX2_ticksToCool_0 rfl ?_
  refine x_iload_n (pc := 1) dX2_ticksToCool_1 rfl ?_
  refine t_Vi (pc := 2) (c_X2_knows (by first | assumption | omega) hR _) qV_X2_knows mL_X2_72 dX2_ticksToCool_2 rfl (cell_sheet (by first | assumption | omega)) (sB_255 (by first | assumption | omega)) rfl rfl rfl ⟨by decide, by decide⟩ (Nat.le_of_ble_eq_true rfl) (Nat.le_of_ble_eq_true rfl) (Nat.le_of_ble_eq_true rfl) ?_
  refine x_ifne (pc := 5) 10 dX2_ticksToCool_5 (by decide) (fun c5 => ?_) (fun c5 => ?_)
  · obtain ⟨i, hi, rfl, hcl⟩ := knB_some hR.le (b01_ne c5)
    refine x_aload_n (pc := 10) dX2_ticksToCool_10 rfl ?_
    refine x_iload_n (pc := 11) dX2_ticksToCool_11 rfl ?_
    refine t_Vi (pc := 12) (c_X2_reasonAgainst (by first | assumption | omega) hR (by first | assumption | omega)) qV_X2_reasonAgainst mL_X2_85 dX2_ticksToCool_12 rfl (cell_sheet (by first | assumption | omega)) (sB_255 (by first | assumption | omega)) rfl rfl rfl ⟨by decide, by decide⟩ (Nat.le_of_ble_eq_true rfl) (Nat.le_of_ble_eq_true rfl) (Nat.le_of_ble_eq_true rfl) ?_
    refine x_istore_n (pc := 15) dX2_ticksToCool_15 (by decide) ?_
    refine x_iload_n (pc := 16) dX2_ticksToCool_16 rfl ?_
    refine x_ifne (pc := 17) 22 dX2_ticksToCool_17 (by decide) (fun c17 => ?_) (fun c17 => ?_)
    · refine x_iload_n (pc := 22) dX2_ticksToCool_22 rfl ?_
      refine x_iconst (pc := 23) (4) dX2_ticksToCool_23 (by decide) ?_
      refine x_cmpeq (pc := 24) 30 dX2_ticksToCool_24 (by decide) (fun c24 => ?_) (fun c24 => ?_)
      · refine x_aload_n (pc := 30) dX2_ticksToCool_30 rfl ?_
        refine x_get (pc := 31) (ci := 2) (k := 2) (C := RX2) (T := TX2) (N := 10) (cell_sheet (by first | assumption | omega)) rfl (sB_255 (by first | assumption | omega)) rfl nX2 (by decide) mF_X2_22 rfl dX2_ticksToCool_31 ?_
        refine x_iconst (pc := 34) (1) dX2_ticksToCool_34 (by decide) ?_
        refine t_ild (pc := 35) 1 (cell_sets (by first | assumption | omega)) (stO_255 (by first | assumption | omega)) rfl (by decide) (by decide) dX2_ticksToCool_35 ?_
        rw [hR.sett _ (by decide)]
        refine x_istore_n (pc := 36) dX2_ticksToCool_36 (by decide) ?_
        refine x_iload_n (pc := 37) dX2_ticksToCool_37 rfl ?_
        refine x_ifgt (pc := 38) 44 dX2_ticksToCool_38 (by decide) (fun c38 => ?_) (fun c38 => ?_)
        · refine x_aload_n (pc := 44) dX2_ticksToCool_44 rfl ?_
          refine x_get (pc := 45) (ci := 2) (k := 0) (C := RX2) (T := TX2) (N := 10) (cell_sheet (by first | assumption | omega)) rfl (sB_255 (by first | assumption | omega)) rfl nX2 (by decide) mF_X2_13 rfl dX2_ticksToCool_45 ?_
          refine x_iload_n (pc := 48) dX2_ticksToCool_48 rfl ?_
          refine t_shapes (pc := 49) _ (by first | assumption | omega) rfl (by first | assumption | omega) dX2_ticksToCool_49 ?_
          refine x_astore (pc := 50) dX2_ticksToCool_50 (by decide) ?_
          refine x_aload_n (pc := 52) dX2_ticksToCool_52 rfl ?_
          refine x_aload (pc := 53) dX2_ticksToCool_53 rfl ?_
          refine t_Vi (pc := 55) (c_X2_heatOver (by first | assumption | omega) hR (by first | assumption | omega)) qV_X2_heatOver mL_X2_146 dX2_ticksToCool_55 rfl (cell_sheet (by first | assumption | omega)) (sB_255 (by first | assumption | omega)) rfl rfl rfl ⟨by decide, by decide⟩ (Nat.le_of_ble_eq_true rfl) (Nat.le_of_ble_eq_true rfl) (Nat.le_of_ble_eq_true rfl) ?_
          refine x_iload_n (pc := 58) dX2_ticksToCool_58 rfl ?_
          refine x_iadd (pc := 59) dX2_ticksToCool_59 ?_
          refine x_iconst (pc := 60) (1) dX2_ticksToCool_60 (by decide) ?_
          refine x_isub (pc := 61) dX2_ticksToCool_61 ?_
          refine x_iload_n (pc := 62) dX2_ticksToCool_62 rfl ?_
          refine x_idiv (pc := 63) dX2_ticksToCool_63 (fun z => absurd c38 (by rw [z]; decide)) ?_
          refine x_aload_n (pc := 64) dX2_ticksToCool_64 rfl ?_
          refine x_aload (pc := 65) dX2_ticksToCool_65 rfl ?_
          refine t_Vi (pc := 67) (c_X2_wayTo (by first | assumption | omega) hR (by first | assumption | omega)) qV_X2_wayTo mL_X2_89 dX2_ticksToCool_67 rfl (cell_sheet (by first | assumption | omega)) (sB_255 (by first | assumption | omega)) rfl rfl rfl ⟨by decide, by decide⟩ (Nat.le_of_ble_eq_true rfl) (Nat.le_of_ble_eq_true rfl) (Nat.le_of_ble_eq_true rfl) ?_
          refine x_isub (pc := 70) dX2_ticksToCool_70 ?_
          exact x_iret rfl dX2_ticksToCool_71 ⟨by simp only [kcX, b01_ne c5, if_true, hcl, kcV, if_neg c17, if_pos c24, if_pos c38], rfl, rfl⟩
        · refine x_bipush (pc := 41) (-5) dX2_ticksToCool_41 (by decide) ?_
          exact x_iret rfl dX2_ticksToCool_43 ⟨by simp only [kcX, b01_ne c5, if_true, hcl, kcV, if_neg c17, if_pos c24, if_neg c38], rfl, rfl⟩
      · refine x_bipush (pc := 27) (-4) dX2_ticksToCool_27 (by decide) ?_
        exact x_iret rfl dX2_ticksToCool_29 ⟨by simp only [kcX, b01_ne c5, if_true, hcl, kcV, if_neg c17, if_neg c24], rfl, rfl⟩
    · refine x_iconst (pc := 20) (0) dX2_ticksToCool_20 (by decide) ?_
      exact x_iret rfl dX2_ticksToCool_21 ⟨by simp only [kcX, b01_ne c5, if_true, hcl, kcV, if_pos c17], rfl, rfl⟩
  · refine x_iconst (pc := 8) (-1) dX2_ticksToCool_8 (by decide) ?_
    exact x_iret rfl dX2_ticksToCool_9 ⟨by simp only [kcX, b01_eq c5, Bool.false_eq_true, if_false], rfl, rfl⟩
set_option maxHeartbeats 4000000 in
set_option maxRecDepth 100000 in
theorem c_X2_bestShape (hj : j < 8) (hR : RC σ A) : Ct G yX2_bestShape YX2_bestShape 0 0 [.ref (gB G + sB j)] (nN G) (cellOf G (updS S j σ) B M) (Rt G (some (.int (oV (besO A A.1)))) (updS S j σ) B M) := by
  refine ct_of (by decide +kernel) rfl rfl (Nat.le_of_ble_eq_true rfl) (by simp [Value.category]) ?_
  refine x_sub (l' := [(0, .ref (gB G + sB j))]) ⟨rfl, trivial⟩ ?_
  have h12 := hR.le
  have lp : ∀ k, k ≤ A.1 → ∀ w : Int32, (∀ q, besO A k = some q → w = tcV A q) → XJ G YX2_bestShape (fun _ => True) (Zx G (Rt G (some (.int (oV (besO A A.1)))) (updS S j σ) B M) 0 0) 7 [(0, .ref (gB G + sB j)), (1, .int (oV (besO A k))), (2, .int w), (3, .int (nI k))] [] (nN G) (cellOf G (updS S j σ) B M) 0 0 := by
    refine loopD (A.1) ?_
    intro k hk ih w hw
    refine x_iload_n (pc := 7) dX2_bestShape_7 rfl ?_
    refine x_aload_n (pc := 8) dX2_bestShape_8 rfl ?_
    refine x_get (pc := 9) (ci := 2) (k := 3) (C := RX2) (T := TX2) (N := 10) (cell_sheet (by first | assumption | omega)) rfl (sB_255 (by first | assumption | omega)) rfl nX2 (by decide) mF_X2_25 rfl dX2_bestShape_9 ?_
    rw [hR.told]
    refine x_cmpge (pc := 12) 53 dX2_bestShape_12 (by decide) (fun c12 => ?_) (fun c12 => ?_)
    · obtain rfl : k = A.1 := by have := mt (tl_iff hR.le hk).mpr c12; omega
      refine x_iload_n (pc := 53) dX2_bestShape_53 rfl ?_
      exact x_iret rfl dX2_bestShape_54 ⟨by rfl, rfl, rfl⟩
    · have hkn : k < A.1 := (tl_iff hR.le hk).mp c12
      refine x_aload_n (pc := 15) dX2_bestShape_15 rfl ?_
      refine x_iload_n (pc := 16) dX2_bestShape_16 rfl ?_
      refine t_Vi (pc := 17) (c_X2_reasonAgainst (by first | assumption | omega) hR (by first | assumption | omega)) qV_X2_reasonAgainst mL_X2_85 dX2_bestShape_17 rfl (cell_sheet (by first | assumption | omega)) (sB_255 (by first | assumption | omega)) rfl rfl rfl ⟨by decide, by decide⟩ (Nat.le_of_ble_eq_true rfl) (Nat.le_of_ble_eq_true rfl) (Nat.le_of_ble_eq_true rfl) ?_
      refine x_ifne (pc := 20) 47 dX2_bestShape_20 (by decide) (fun c20 => ?_) (fun c20 => ?_)
      · refine x_iinc (pc := 47) (nI (k + 1)) dX2_bestShape_47 rfl (iinc_nI k) (by decide) ?_
        refine x_goto (pc := 50) 7 dX2_bestShape_50 (by decide) ?_
        have hbl : ∀ q, besO A k = some q → q < 2 ^ 31 := fun q hq => by have := besO_lt hq; omega
        first
        | (have eb : besO A (k + 1) = besO A k := by simp only [besO, if_neg c20]
           have e := ih hkn w (by rw [eb]; exact hw)
           rw [eb] at e
           exact x_back e ⟨rfl, rfl, rfl, rfl, trivial⟩)
        | (have hn := oV_none hbl c33
           have eb : besO A (k + 1) = some k := by simp only [besO, if_pos c20, hn]
           have e := ih hkn (tcV A k) (by rw [eb]; intro q hq; cases hq; rfl)
           rw [eb] at e
           exact x_back e ⟨rfl, rfl, rfl, rfl, trivial⟩)
        | (obtain ⟨q, hq⟩ := oV_some c33
           have hwq := hw q hq
           subst hwq
           have eb : besO A (k + 1) = some k := by simp only [besO, if_pos c20, hq, if_pos c39]
           have e := ih hkn (tcV A k) (by rw [eb]; intro q hq; cases hq; rfl)
           rw [eb] at e
           exact x_back e ⟨rfl, rfl, rfl, rfl, trivial⟩)
        | (obtain ⟨q, hq⟩ := oV_some c33
           have hwq := hw q hq
           subst hwq
           have eb : besO A (k + 1) = some q := by simp only [besO, if_pos c20, hq, if_neg c39]
           have e := ih hkn (tcV A q) (by rw [eb]; intro q hq; cases hq; rfl)
           rw [eb] at e
           rw [hq]
           exact x_back e ⟨rfl, rfl, rfl, rfl, trivial⟩)
      · refine x_aload_n (pc := 23) dX2_bestShape_23 rfl ?_
        refine x_iload_n (pc := 24) dX2_bestShape_24 rfl ?_
        refine t_Vi (pc := 25) (c_X2_ticksToCut (by first | assumption | omega) hR _) qV_X2_ticksToCut mL_X2_149 dX2_bestShape_25 rfl (cell_sheet (by first | assumption | omega)) (sB_255 (by first | assumption | omega)) rfl rfl rfl ⟨by decide, by decide⟩ (Nat.le_of_ble_eq_true rfl) (Nat.le_of_ble_eq_true rfl) (Nat.le_of_ble_eq_true rfl) ?_
        rw [tcX_nI hR.le hkn]
        refine x_istore (pc := 28) dX2_bestShape_28 (by decide) ?_
        refine x_iload_n (pc := 30) dX2_bestShape_30 rfl ?_
        refine x_bipush (pc := 31) (-5) dX2_bestShape_31 (by decide) ?_
        refine x_cmpeq (pc := 33) 42 dX2_bestShape_33 (by decide) (fun c33 => ?_) (fun c33 => ?_)
        · refine x_iload_n (pc := 42) dX2_bestShape_42 rfl ?_
          refine x_istore_n (pc := 43) dX2_bestShape_43 (by decide) ?_
          refine x_iload (pc := 44) dX2_bestShape_44 rfl ?_
          refine x_istore_n (pc := 46) dX2_bestShape_46 (by decide) ?_
          refine x_iinc (pc := 47) (nI (k + 1)) dX2_bestShape_47 rfl (iinc_nI k) (by decide) ?_
          refine x_goto (pc := 50) 7 dX2_bestShape_50 (by decide) ?_
          have hbl : ∀ q, besO A k = some q → q < 2 ^ 31 := fun q hq => by have := besO_lt hq; omega
          first
          | (have eb : besO A (k + 1) = besO A k := by simp only [besO, if_neg c20]
             have e := ih hkn w (by rw [eb]; exact hw)
             rw [eb] at e
             exact x_back e ⟨rfl, rfl, rfl, rfl, trivial⟩)
          | (have hn := oV_none hbl c33
             have eb : besO A (k + 1) = some k := by simp only [besO, if_pos c20, hn]
             have e := ih hkn (tcV A k) (by rw [eb]; intro q hq; cases hq; rfl)
             rw [eb] at e
             exact x_back e ⟨rfl, rfl, rfl, rfl, trivial⟩)
          | (obtain ⟨q, hq⟩ := oV_some c33
             have hwq := hw q hq
             subst hwq
             have eb : besO A (k + 1) = some k := by simp only [besO, if_pos c20, hq, if_pos c39]
             have e := ih hkn (tcV A k) (by rw [eb]; intro q hq; cases hq; rfl)
             rw [eb] at e
             exact x_back e ⟨rfl, rfl, rfl, rfl, trivial⟩)
          | (obtain ⟨q, hq⟩ := oV_some c33
             have hwq := hw q hq
             subst hwq
             have eb : besO A (k + 1) = some q := by simp only [besO, if_pos c20, hq, if_neg c39]
             have e := ih hkn (tcV A q) (by rw [eb]; intro q hq; cases hq; rfl)
             rw [eb] at e
             rw [hq]
             exact x_back e ⟨rfl, rfl, rfl, rfl, trivial⟩)
        · refine x_iload (pc := 36) dX2_bestShape_36 rfl ?_
          refine x_iload_n (pc := 38) dX2_bestShape_38 rfl ?_
          refine x_cmpge (pc := 39) 47 dX2_bestShape_39 (by decide) (fun c39 => ?_) (fun c39 => ?_)
          · refine x_iinc (pc := 47) (nI (k + 1)) dX2_bestShape_47 rfl (iinc_nI k) (by decide) ?_
            refine x_goto (pc := 50) 7 dX2_bestShape_50 (by decide) ?_
            have hbl : ∀ q, besO A k = some q → q < 2 ^ 31 := fun q hq => by have := besO_lt hq; omega
            first
            | (have eb : besO A (k + 1) = besO A k := by simp only [besO, if_neg c20]
               have e := ih hkn w (by rw [eb]; exact hw)
               rw [eb] at e
               exact x_back e ⟨rfl, rfl, rfl, rfl, trivial⟩)
            | (have hn := oV_none hbl c33
               have eb : besO A (k + 1) = some k := by simp only [besO, if_pos c20, hn]
               have e := ih hkn (tcV A k) (by rw [eb]; intro q hq; cases hq; rfl)
               rw [eb] at e
               exact x_back e ⟨rfl, rfl, rfl, rfl, trivial⟩)
            | (obtain ⟨q, hq⟩ := oV_some c33
               have hwq := hw q hq
               subst hwq
               have eb : besO A (k + 1) = some k := by simp only [besO, if_pos c20, hq, if_pos c39]
               have e := ih hkn (tcV A k) (by rw [eb]; intro q hq; cases hq; rfl)
               rw [eb] at e
               exact x_back e ⟨rfl, rfl, rfl, rfl, trivial⟩)
            | (obtain ⟨q, hq⟩ := oV_some c33
               have hwq := hw q hq
               subst hwq
               have eb : besO A (k + 1) = some q := by simp only [besO, if_pos c20, hq, if_neg c39]
               have e := ih hkn (tcV A q) (by rw [eb]; intro q hq; cases hq; rfl)
               rw [eb] at e
               rw [hq]
               exact x_back e ⟨rfl, rfl, rfl, rfl, trivial⟩)
          · refine x_iload_n (pc := 42) dX2_bestShape_42 rfl ?_
            refine x_istore_n (pc := 43) dX2_bestShape_43 (by decide) ?_
            refine x_iload (pc := 44) dX2_bestShape_44 rfl ?_
            refine x_istore_n (pc := 46) dX2_bestShape_46 (by decide) ?_
            refine x_iinc (pc := 47) (nI (k + 1)) dX2_bestShape_47 rfl (iinc_nI k) (by decide) ?_
            refine x_goto (pc := 50) 7 dX2_bestShape_50 (by decide) ?_
            have hbl : ∀ q, besO A k = some q → q < 2 ^ 31 := fun q hq => by have := besO_lt hq; omega
            first
            | (have eb : besO A (k + 1) = besO A k := by simp only [besO, if_neg c20]
               have e := ih hkn w (by rw [eb]; exact hw)
               rw [eb] at e
               exact x_back e ⟨rfl, rfl, rfl, rfl, trivial⟩)
            | (have hn := oV_none hbl c33
               have eb : besO A (k + 1) = some k := by simp only [besO, if_pos c20, hn]
               have e := ih hkn (tcV A k) (by rw [eb]; intro q hq; cases hq; rfl)
               rw [eb] at e
               exact x_back e ⟨rfl, rfl, rfl, rfl, trivial⟩)
            | (obtain ⟨q, hq⟩ := oV_some c33
               have hwq := hw q hq
               subst hwq
               have eb : besO A (k + 1) = some k := by simp only [besO, if_pos c20, hq, if_pos c39]
               have e := ih hkn (tcV A k) (by rw [eb]; intro q hq; cases hq; rfl)
               rw [eb] at e
               exact x_back e ⟨rfl, rfl, rfl, rfl, trivial⟩)
            | (obtain ⟨q, hq⟩ := oV_some c33
               have hwq := hw q hq
               subst hwq
               have eb : besO A (k + 1) = some q := by simp only [besO, if_pos c20, hq, if_neg c39]
               have e := ih hkn (tcV A q) (by rw [eb]; intro q hq; cases hq; rfl)
               rw [eb] at e
               rw [hq]
               exact x_back e ⟨rfl, rfl, rfl, rfl, trivial⟩)
  refine x_bipush (pc := 0) (-5) dX2_bestShape_0 (by decide) ?_
  refine x_istore_n (pc := 2) dX2_bestShape_2 (by decide) ?_
  refine x_iconst (pc := 3) (0) dX2_bestShape_3 (by decide) ?_
  refine x_istore_n (pc := 4) dX2_bestShape_4 (by decide) ?_
  refine x_iconst (pc := 5) (0) dX2_bestShape_5 (by decide) ?_
  refine x_istore_n (pc := 6) dX2_bestShape_6 (by decide) ?_
  exact x_back (lp 0 (by omega) 0 (fun q hq => by simp [besO] at hq)) ⟨rfl, rfl, rfl, rfl, trivial⟩
set_option maxHeartbeats 4000000 in
set_option maxRecDepth 100000 in
theorem c_X2_fewestTicksToCool (hj : j < 8) (hR : RC σ A) : Ct G yX2_fewestTicksToCool YX2_fewestTicksToCool 0 0 [.ref (gB G + sB j)] (nN G) (cellOf G (updS S j σ) B M) (Rt G (some (.int (fewV A A.1))) (updS S j σ) B M) := by
  refine ct_of (by decide +kernel) rfl rfl (Nat.le_of_ble_eq_true rfl) (by simp [Value.category]) ?_
  refine x_sub (l' := [(0, .ref (gB G + sB j))]) ⟨rfl, trivial⟩ ?_
  have h12 := hR.le
  have lp : ∀ k, k ≤ A.1 → XJ G YX2_fewestTicksToCool (fun _ => True) (Zx G (Rt G (some (.int (fewV A A.1))) (updS S j σ) B M) 0 0) 5 [(0, .ref (gB G + sB j)), (1, .int (fewV A k)), (2, .int (nI k))] [] (nN G) (cellOf G (updS S j σ) B M) 0 0 := by
    refine loopD (A.1) ?_
    intro k hk ih
    refine x_iload_n (pc := 5) dX2_fewestTicksToCool_5 rfl ?_
    refine x_aload_n (pc := 6) dX2_fewestTicksToCool_6 rfl ?_
    refine x_get (pc := 7) (ci := 2) (k := 3) (C := RX2) (T := TX2) (N := 10) (cell_sheet (by first | assumption | omega)) rfl (sB_255 (by first | assumption | omega)) rfl nX2 (by decide) mF_X2_25 rfl dX2_fewestTicksToCool_7 ?_
    rw [hR.told]
    refine x_cmpge (pc := 10) 42 dX2_fewestTicksToCool_10 (by decide) (fun c10 => ?_) (fun c10 => ?_)
    · obtain rfl : k = A.1 := by have := mt (tl_iff hR.le hk).mpr c10; omega
      refine x_iload_n (pc := 42) dX2_fewestTicksToCool_42 rfl ?_
      exact x_iret rfl dX2_fewestTicksToCool_43 ⟨by rfl, rfl, rfl⟩
    · have hkn : k < A.1 := (tl_iff hR.le hk).mp c10
      refine x_aload_n (pc := 13) dX2_fewestTicksToCool_13 rfl ?_
      refine x_iload_n (pc := 14) dX2_fewestTicksToCool_14 rfl ?_
      refine t_Vi (pc := 15) (c_X2_ticksToCool (by first | assumption | omega) hR _) qV_X2_ticksToCool mL_X2_152 dX2_fewestTicksToCool_15 rfl (cell_sheet (by first | assumption | omega)) (sB_255 (by first | assumption | omega)) rfl rfl rfl ⟨by decide, by decide⟩ (Nat.le_of_ble_eq_true rfl) (Nat.le_of_ble_eq_true rfl) (Nat.le_of_ble_eq_true rfl) ?_
      rw [kcX_nI hR.le hkn]
      refine x_istore_n (pc := 18) dX2_fewestTicksToCool_18 (by decide) ?_
      refine x_iload_n (pc := 19) dX2_fewestTicksToCool_19 rfl ?_
      refine x_iflt (pc := 20) 36 dX2_fewestTicksToCool_20 (by decide) (fun c20 => ?_) (fun c20 => ?_)
      · refine x_iinc (pc := 36) (nI (k + 1)) dX2_fewestTicksToCool_36 rfl (iinc_nI k) (by decide) ?_
        refine x_goto (pc := 39) 5 dX2_fewestTicksToCool_39 (by decide) ?_
        have e := ih hkn
        first
        | (simp only [fewV, if_pos c20] at e; exact x_back e ⟨rfl, rfl, rfl, trivial⟩)
        | (simp only [fewV, if_neg c20, if_pos c26] at e; exact x_back e ⟨rfl, rfl, rfl, trivial⟩)
        | (simp only [fewV, if_neg c20, if_neg c26, if_pos c31] at e; exact x_back e ⟨rfl, rfl, rfl, trivial⟩)
        | (simp only [fewV, if_neg c20, if_neg c26, if_neg c31] at e; exact x_back e ⟨rfl, rfl, rfl, trivial⟩)
      · refine x_iload_n (pc := 23) dX2_fewestTicksToCool_23 rfl ?_
        refine x_bipush (pc := 24) (-5) dX2_fewestTicksToCool_24 (by decide) ?_
        refine x_cmpeq (pc := 26) 34 dX2_fewestTicksToCool_26 (by decide) (fun c26 => ?_) (fun c26 => ?_)
        · refine x_iload_n (pc := 34) dX2_fewestTicksToCool_34 rfl ?_
          refine x_istore_n (pc := 35) dX2_fewestTicksToCool_35 (by decide) ?_
          refine x_iinc (pc := 36) (nI (k + 1)) dX2_fewestTicksToCool_36 rfl (iinc_nI k) (by decide) ?_
          refine x_goto (pc := 39) 5 dX2_fewestTicksToCool_39 (by decide) ?_
          have e := ih hkn
          first
          | (simp only [fewV, if_pos c20] at e; exact x_back e ⟨rfl, rfl, rfl, trivial⟩)
          | (simp only [fewV, if_neg c20, if_pos c26] at e; exact x_back e ⟨rfl, rfl, rfl, trivial⟩)
          | (simp only [fewV, if_neg c20, if_neg c26, if_pos c31] at e; exact x_back e ⟨rfl, rfl, rfl, trivial⟩)
          | (simp only [fewV, if_neg c20, if_neg c26, if_neg c31] at e; exact x_back e ⟨rfl, rfl, rfl, trivial⟩)
        · refine x_iload_n (pc := 29) dX2_fewestTicksToCool_29 rfl ?_
          refine x_iload_n (pc := 30) dX2_fewestTicksToCool_30 rfl ?_
          refine x_cmpge (pc := 31) 36 dX2_fewestTicksToCool_31 (by decide) (fun c31 => ?_) (fun c31 => ?_)
          · refine x_iinc (pc := 36) (nI (k + 1)) dX2_fewestTicksToCool_36 rfl (iinc_nI k) (by decide) ?_
            refine x_goto (pc := 39) 5 dX2_fewestTicksToCool_39 (by decide) ?_
            have e := ih hkn
            first
            | (simp only [fewV, if_pos c20] at e; exact x_back e ⟨rfl, rfl, rfl, trivial⟩)
            | (simp only [fewV, if_neg c20, if_pos c26] at e; exact x_back e ⟨rfl, rfl, rfl, trivial⟩)
            | (simp only [fewV, if_neg c20, if_neg c26, if_pos c31] at e; exact x_back e ⟨rfl, rfl, rfl, trivial⟩)
            | (simp only [fewV, if_neg c20, if_neg c26, if_neg c31] at e; exact x_back e ⟨rfl, rfl, rfl, trivial⟩)
          · refine x_iload_n (pc := 34) dX2_fewestTicksToCool_34 rfl ?_
            refine x_istore_n (pc := 35) dX2_fewestTicksToCool_35 (by decide) ?_
            refine x_iinc (pc := 36) (nI (k + 1)) dX2_fewestTicksToCool_36 rfl (iinc_nI k) (by decide) ?_
            refine x_goto (pc := 39) 5 dX2_fewestTicksToCool_39 (by decide) ?_
            have e := ih hkn
            first
            | (simp only [fewV, if_pos c20] at e; exact x_back e ⟨rfl, rfl, rfl, trivial⟩)
            | (simp only [fewV, if_neg c20, if_pos c26] at e; exact x_back e ⟨rfl, rfl, rfl, trivial⟩)
            | (simp only [fewV, if_neg c20, if_neg c26, if_pos c31] at e; exact x_back e ⟨rfl, rfl, rfl, trivial⟩)
            | (simp only [fewV, if_neg c20, if_neg c26, if_neg c31] at e; exact x_back e ⟨rfl, rfl, rfl, trivial⟩)
  refine x_bipush (pc := 0) (-5) dX2_fewestTicksToCool_0 (by decide) ?_
  refine x_istore_n (pc := 2) dX2_fewestTicksToCool_2 (by decide) ?_
  refine x_iconst (pc := 3) (0) dX2_fewestTicksToCool_3 (by decide) ?_
  refine x_istore_n (pc := 4) dX2_fewestTicksToCool_4 (by decide) ?_
  exact x_back (lp 0 (by omega)) ⟨rfl, rfl, rfl, trivial⟩
set_option maxHeartbeats 4000000 in
set_option maxRecDepth 100000 in
theorem c_X2_hottestSquare (hj : j < 8) (hR : RC σ A) : Ct G yX2_hottestSquare YX2_hottestSquare 0 0 [.ref (gB G + sB j)] (nN G) (cellOf G (updS S j σ) B M) (Rt G (some (.int (nI (hotN A.2.2.1 12)))) (updS S j σ) B M) := by
  refine ct_of (by decide +kernel) rfl rfl (Nat.le_of_ble_eq_true rfl) (by simp [Value.category]) ?_
  refine x_sub (l' := [(0, .ref (gB G + sB j))]) ⟨rfl, trivial⟩ ?_
  have h12 := hR.le
  have lp : ∀ k, k ≤ 12 → 1 ≤ k → XJ G YX2_hottestSquare (fun _ => True) (Zx G (Rt G (some (.int (nI (hotN A.2.2.1 12)))) (updS S j σ) B M) 0 0) 4 [(0, .ref (gB G + sB j)), (1, .int (nI (hotN A.2.2.1 k))), (2, .int (nI k))] [] (nN G) (cellOf G (updS S j σ) B M) 0 0 := by
    refine loopD 12 ?_
    intro k hk ih h1
    have hh : hotN A.2.2.1 k < 12 := (hotN_lt A.2.2.1 k).elim id (fun h => absurd h (by omega))
    refine x_iload_n (pc := 4) dX2_hottestSquare_4 rfl ?_
    refine x_bipush (pc := 5) (12) dX2_hottestSquare_5 (by decide) ?_
    refine x_cmpge (pc := 7) 33 dX2_hottestSquare_7 (by decide) (fun c7 => ?_) (fun c7 => ?_)
    · obtain rfl : k = 12 := by have := mt (lt_lit (n := 12) rfl (by decide) (by omega)).mpr c7; omega
      refine x_iload_n (pc := 33) dX2_hottestSquare_33 rfl ?_
      exact x_iret rfl dX2_hottestSquare_34 ⟨by rfl, rfl, rfl⟩
    · have hkn : k < 12 := (lt_lit rfl (by decide) (by omega)).mp c7
      refine x_aload_n (pc := 10) dX2_hottestSquare_10 rfl ?_
      refine x_get (pc := 11) (ci := 2) (k := 1) (C := RX2) (T := TX2) (N := 10) (cell_sheet (by first | assumption | omega)) rfl (sB_255 (by first | assumption | omega)) rfl nX2 (by decide) mF_X2_18 rfl dX2_hottestSquare_11 ?_
      refine x_iload_n (pc := 14) dX2_hottestSquare_14 rfl ?_
      refine t_ild (pc := 15) _ (cell_heats (by first | assumption | omega)) (htO_255 (by first | assumption | omega)) rfl (by first | assumption | omega) (by decide) dX2_hottestSquare_15 ?_
      rw [hR.heat _ (by first | assumption | omega)]
      refine x_aload_n (pc := 16) dX2_hottestSquare_16 rfl ?_
      refine x_get (pc := 17) (ci := 2) (k := 1) (C := RX2) (T := TX2) (N := 10) (cell_sheet (by first | assumption | omega)) rfl (sB_255 (by first | assumption | omega)) rfl nX2 (by decide) mF_X2_18 rfl dX2_hottestSquare_17 ?_
      refine x_iload_n (pc := 20) dX2_hottestSquare_20 rfl ?_
      refine t_ild (pc := 21) _ (cell_heats (by first | assumption | omega)) (htO_255 (by first | assumption | omega)) rfl hh (by decide) dX2_hottestSquare_21 ?_
      rw [hR.heat _ hh]
      refine x_cmple (pc := 22) 27 dX2_hottestSquare_22 (by decide) (fun c22 => ?_) (fun c22 => ?_)
      · refine x_iinc (pc := 27) (nI (k + 1)) dX2_hottestSquare_27 rfl (iinc_nI k) (by decide) ?_
        refine x_goto (pc := 30) 4 dX2_hottestSquare_30 (by decide) ?_
        have e := ih hkn (by omega)
        first
        | (simp only [hotN, if_pos c22] at e; exact x_back e ⟨rfl, rfl, rfl, trivial⟩)
        | (simp only [hotN, if_neg c22] at e; exact x_back e ⟨rfl, rfl, rfl, trivial⟩)
      · refine x_iload_n (pc := 25) dX2_hottestSquare_25 rfl ?_
        refine x_istore_n (pc := 26) dX2_hottestSquare_26 (by decide) ?_
        refine x_iinc (pc := 27) (nI (k + 1)) dX2_hottestSquare_27 rfl (iinc_nI k) (by decide) ?_
        refine x_goto (pc := 30) 4 dX2_hottestSquare_30 (by decide) ?_
        have e := ih hkn (by omega)
        first
        | (simp only [hotN, if_pos c22] at e; exact x_back e ⟨rfl, rfl, rfl, trivial⟩)
        | (simp only [hotN, if_neg c22] at e; exact x_back e ⟨rfl, rfl, rfl, trivial⟩)
  refine x_iconst (pc := 0) (0) dX2_hottestSquare_0 (by decide) ?_
  refine x_istore_n (pc := 1) dX2_hottestSquare_1 (by decide) ?_
  refine x_iconst (pc := 2) (1) dX2_hottestSquare_2 (by decide) ?_
  refine x_istore_n (pc := 3) dX2_hottestSquare_3 (by decide) ?_
  have e := lp 1 (by omega) (by omega)
  rw [hotN_1] at e
  exact x_back e ⟨rfl, rfl, rfl, trivial⟩
set_option maxHeartbeats 4000000 in
set_option maxRecDepth 100000 in
theorem c_X2_greatestHeat (hj : j < 8) (hR : RC σ A) : Ct G yX2_greatestHeat YX2_greatestHeat 0 0 [.ref (gB G + sB j)] (nN G) (cellOf G (updS S j σ) B M) (Rt G (some (.int (grV A))) (updS S j σ) B M) := by
  refine ct_of (by decide +kernel) rfl rfl (Nat.le_of_ble_eq_true rfl) (by simp [Value.category]) ?_
  refine x_sub (l' := [(0, .ref (gB G + sB j))]) ⟨rfl, trivial⟩ ?_
  have h12 := hR.le
  refine x_aload_n (pc := 0) dX2_greatestHeat_0 rfl ?_
  refine x_get (pc := 1) (ci := 2) (k := 1) (C := RX2) (T := TX2) (N := 10) (cell_sheet (by first | assumption | omega)) rfl (sB_255 (by first | assumption | omega)) rfl nX2 (by decide) mF_X2_18 rfl dX2_greatestHeat_1 ?_
  refine x_aload_n (pc := 4) dX2_greatestHeat_4 rfl ?_
  refine t_Vi (pc := 5) (c_X2_hottestSquare (by first | assumption | omega) hR) qV_X2_hottestSquare mL_X2_164 dX2_greatestHeat_5 rfl (cell_sheet (by first | assumption | omega)) (sB_255 (by first | assumption | omega)) rfl rfl rfl ⟨by decide, by decide⟩ (Nat.le_of_ble_eq_true rfl) (Nat.le_of_ble_eq_true rfl) (Nat.le_of_ble_eq_true rfl) ?_
  refine t_ild (pc := 8) _ (cell_heats (by first | assumption | omega)) (htO_255 (by first | assumption | omega)) rfl (hotN_12 _) (by decide) dX2_greatestHeat_8 ?_
  rw [hR.heat _ (hotN_12 _)]
  exact x_iret rfl dX2_greatestHeat_9 ⟨by rfl, rfl, rfl⟩
set_option maxHeartbeats 4000000 in
set_option maxRecDepth 100000 in
theorem c_X2_allHeat (hj : j < 8) (hR : RC σ A) : Ct G yX2_allHeat YX2_allHeat 0 0 [.ref (gB G + sB j)] (nN G) (cellOf G (updS S j σ) B M) (Rt G (some (.int (sumN A.2.2.1 12))) (updS S j σ) B M) := by
  refine ct_of (by decide +kernel) rfl rfl (Nat.le_of_ble_eq_true rfl) (by simp [Value.category]) ?_
  refine x_sub (l' := [(0, .ref (gB G + sB j))]) ⟨rfl, trivial⟩ ?_
  have h12 := hR.le
  have lp : ∀ k, k ≤ 12 → XJ G YX2_allHeat (fun _ => True) (Zx G (Rt G (some (.int (sumN A.2.2.1 12))) (updS S j σ) B M) 0 0) 4 [(0, .ref (gB G + sB j)), (1, .int (sumN A.2.2.1 k)), (2, .int (nI k))] [] (nN G) (cellOf G (updS S j σ) B M) 0 0 := by
    refine loopD (12) ?_
    intro k hk ih
    refine x_iload_n (pc := 4) dX2_allHeat_4 rfl ?_
    refine x_bipush (pc := 5) (12) dX2_allHeat_5 (by decide) ?_
    refine x_cmpge (pc := 7) 25 dX2_allHeat_7 (by decide) (fun c7 => ?_) (fun c7 => ?_)
    · obtain rfl : k = 12 := by have := mt (lt_lit (n := 12) rfl (by decide) (by omega)).mpr c7; omega
      refine x_iload_n (pc := 25) dX2_allHeat_25 rfl ?_
      exact x_iret rfl dX2_allHeat_26 ⟨by rfl, rfl, rfl⟩
    · have hkn : k < 12 := (lt_lit rfl (by decide) (by omega)).mp c7
      refine x_iload_n (pc := 10) dX2_allHeat_10 rfl ?_
      refine x_aload_n (pc := 11) dX2_allHeat_11 rfl ?_
      refine x_get (pc := 12) (ci := 2) (k := 1) (C := RX2) (T := TX2) (N := 10) (cell_sheet (by first | assumption | omega)) rfl (sB_255 (by first | assumption | omega)) rfl nX2 (by decide) mF_X2_18 rfl dX2_allHeat_12 ?_
      refine x_iload_n (pc := 15) dX2_allHeat_15 rfl ?_
      refine t_ild (pc := 16) _ (cell_heats (by first | assumption | omega)) (htO_255 (by first | assumption | omega)) rfl (by first | assumption | omega) (by decide) dX2_allHeat_16 ?_
      rw [hR.heat _ (by first | assumption | omega)]
      refine x_iadd (pc := 17) dX2_allHeat_17 ?_
      refine x_istore_n (pc := 18) dX2_allHeat_18 (by decide) ?_
      refine x_iinc (pc := 19) (nI (k + 1)) dX2_allHeat_19 rfl (iinc_nI k) (by decide) ?_
      refine x_goto (pc := 22) 4 dX2_allHeat_22 (by decide) ?_
      have e := ih hkn
      simp only [sumN] at e
      exact x_back e ⟨rfl, rfl, rfl, trivial⟩
  refine x_iconst (pc := 0) (0) dX2_allHeat_0 (by decide) ?_
  refine x_istore_n (pc := 1) dX2_allHeat_1 (by decide) ?_
  refine x_iconst (pc := 2) (0) dX2_allHeat_2 (by decide) ?_
  refine x_istore_n (pc := 3) dX2_allHeat_3 (by decide) ?_
  exact x_back (lp 0 (by omega)) ⟨rfl, rfl, rfl, trivial⟩
set_option maxHeartbeats 4000000 in
set_option maxRecDepth 100000 in
theorem c_X2_heatIn (hj : j < 8) (hR : RC σ A) (v : Int32) : Ct G yX2_heatIn YX2_heatIn 0 0 [.ref (gB G + sB j), .int v] (nN G) (cellOf G (updS S j σ) B M) (Rt G (some (.int (hinV A.2.2.1 v))) (updS S j σ) B M) := by
  refine ct_of (by decide +kernel) rfl rfl (Nat.le_of_ble_eq_true rfl) (by simp [Value.category]) ?_
  refine x_sub (l' := [(0, .ref (gB G + sB j)), (1, .int v)]) ⟨rfl, rfl, trivial⟩ ?_
  have h12 := hR.le
  refine x_iload_n (pc := 0) dX2_heatIn_0 rfl ?_
  refine x_iconst (pc := 1) (0) dX2_heatIn_1 (by decide) ?_
  refine x_bipush (pc := 2) (11) dX2_heatIn_2 (by decide) ?_
  refine t_Ni (pc := 4) (c_X3_isIn _ _ _) qS_X3_isIn (fun s h => h.2.2.2) dX2_heatIn_4 rfl rfl rfl ⟨by decide, by decide⟩ (Nat.le_of_ble_eq_true rfl) (Nat.le_of_ble_eq_true rfl) (Nat.le_of_ble_eq_true rfl) ?_
  refine x_ifeq (pc := 7) 19 dX2_heatIn_7 (by decide) (fun c7 => ?_) (fun c7 => ?_)
  · refine x_iconst (pc := 19) (-1) dX2_heatIn_19 (by decide) ?_
    first
    | (have t := b01_eq c7; exact x_iret rfl dX2_heatIn_20 ⟨by simp only [hinV, t, Bool.false_eq_true, if_false], rfl, rfl⟩)
    | (have t := b01_ne c7; exact x_iret rfl dX2_heatIn_20 ⟨by simp only [hinV, t, if_true, hcl], rfl, rfl⟩)
  · obtain ⟨q, hq, rfl, hcl⟩ := betw_some (n := 11) rfl (by decide) (b01_ne c7)
    refine x_aload_n (pc := 10) dX2_heatIn_10 rfl ?_
    refine x_get (pc := 11) (ci := 2) (k := 1) (C := RX2) (T := TX2) (N := 10) (cell_sheet (by first | assumption | omega)) rfl (sB_255 (by first | assumption | omega)) rfl nX2 (by decide) mF_X2_18 rfl dX2_heatIn_11 ?_
    refine x_iload_n (pc := 14) dX2_heatIn_14 rfl ?_
    refine t_ild (pc := 15) _ (cell_heats (by first | assumption | omega)) (htO_255 (by first | assumption | omega)) rfl (show q < 12 by omega) (by decide) dX2_heatIn_15 ?_
    rw [hR.heat _ (show q < 12 by omega)]
    refine x_goto (pc := 16) 20 dX2_heatIn_16 (by decide) ?_
    first
    | (have t := b01_eq c7; exact x_iret rfl dX2_heatIn_20 ⟨by simp only [hinV, t, Bool.false_eq_true, if_false], rfl, rfl⟩)
    | (have t := b01_ne c7; exact x_iret rfl dX2_heatIn_20 ⟨by simp only [hinV, t, if_true, hcl], rfl, rfl⟩)
set_option maxHeartbeats 4000000 in
set_option maxRecDepth 100000 in
theorem c_X2_shapesThatAre (hj : j < 8) (hR : RC σ A) (v : Int32) : Ct G yX2_shapesThatAre YX2_shapesThatAre 0 0 [.ref (gB G + sB j), .int v] (nN G) (cellOf G (updS S j σ) B M) (Rt G (some (.int (cntN A.2.2.2.2 v A.1))) (updS S j σ) B M) := by
  refine ct_of (by decide +kernel) rfl rfl (Nat.le_of_ble_eq_true rfl) (by simp [Value.category]) ?_
  refine x_sub (l' := [(0, .ref (gB G + sB j)), (1, .int v)]) ⟨rfl, rfl, trivial⟩ ?_
  have h12 := hR.le
  have lp : ∀ k, k ≤ A.1 → XJ G YX2_shapesThatAre (fun _ => True) (Zx G (Rt G (some (.int (cntN A.2.2.2.2 v A.1))) (updS S j σ) B M) 0 0) 4 [(0, .ref (gB G + sB j)), (1, .int v), (2, .int (cntN A.2.2.2.2 v k)), (3, .int (nI k))] [] (nN G) (cellOf G (updS S j σ) B M) 0 0 := by
    refine loopD (A.1) ?_
    intro k hk ih
    refine x_iload_n (pc := 4) dX2_shapesThatAre_4 rfl ?_
    refine x_aload_n (pc := 5) dX2_shapesThatAre_5 rfl ?_
    refine x_get (pc := 6) (ci := 2) (k := 3) (C := RX2) (T := TX2) (N := 10) (cell_sheet (by first | assumption | omega)) rfl (sB_255 (by first | assumption | omega)) rfl nX2 (by decide) mF_X2_25 rfl dX2_shapesThatAre_6 ?_
    rw [hR.told]
    refine x_cmpge (pc := 9) 34 dX2_shapesThatAre_9 (by decide) (fun c9 => ?_) (fun c9 => ?_)
    · obtain rfl : k = A.1 := by have := mt (tl_iff hR.le hk).mpr c9; omega
      refine x_iload_n (pc := 34) dX2_shapesThatAre_34 rfl ?_
      exact x_iret rfl dX2_shapesThatAre_35 ⟨by rfl, rfl, rfl⟩
    · have hkn : k < A.1 := (tl_iff hR.le hk).mp c9
      refine x_aload_n (pc := 12) dX2_shapesThatAre_12 rfl ?_
      refine x_get (pc := 13) (ci := 2) (k := 0) (C := RX2) (T := TX2) (N := 10) (cell_sheet (by first | assumption | omega)) rfl (sB_255 (by first | assumption | omega)) rfl nX2 (by decide) mF_X2_13 rfl dX2_shapesThatAre_13 ?_
      refine x_iload_n (pc := 16) dX2_shapesThatAre_16 rfl ?_
      refine t_shapes (pc := 17) _ (by first | assumption | omega) rfl (by first | assumption | omega) dX2_shapesThatAre_17 ?_
      refine x_get (pc := 18) (ci := 1) (k := 5) (C := RX1) (T := TX1) (N := 9) (cell_shape (by first | assumption | omega) (by first | assumption | omega)) rfl (shO_255 (by first | assumption | omega) (by first | assumption | omega)) rfl nX1 (by decide) mF_X2_66 rfl dX2_shapesThatAre_18 ?_
      rw [hR.shp (by first | assumption | omega) 5]
      refine x_iload_n (pc := 21) dX2_shapesThatAre_21 rfl ?_
      refine x_cmpne (pc := 22) 28 dX2_shapesThatAre_22 (by decide) (fun c22 => ?_) (fun c22 => ?_)
      · refine x_iinc (pc := 28) (nI (k + 1)) dX2_shapesThatAre_28 rfl (iinc_nI k) (by decide) ?_
        refine x_goto (pc := 31) 4 dX2_shapesThatAre_31 (by decide) ?_
        have e := ih hkn
        first
        | (simp only [cntN, if_pos c22] at e; exact x_back e ⟨rfl, rfl, rfl, rfl, trivial⟩)
        | (simp only [cntN, if_neg c22] at e; exact x_back e ⟨rfl, rfl, rfl, rfl, trivial⟩)
      · refine x_iinc (pc := 25) (_ + (1)) dX2_shapesThatAre_25 rfl rfl (by decide) ?_
        refine x_iinc (pc := 28) (nI (k + 1)) dX2_shapesThatAre_28 rfl (iinc_nI k) (by decide) ?_
        refine x_goto (pc := 31) 4 dX2_shapesThatAre_31 (by decide) ?_
        have e := ih hkn
        first
        | (simp only [cntN, if_pos c22] at e; exact x_back e ⟨rfl, rfl, rfl, rfl, trivial⟩)
        | (simp only [cntN, if_neg c22] at e; exact x_back e ⟨rfl, rfl, rfl, rfl, trivial⟩)
  refine x_iconst (pc := 0) (0) dX2_shapesThatAre_0 (by decide) ?_
  refine x_istore_n (pc := 1) dX2_shapesThatAre_1 (by decide) ?_
  refine x_iconst (pc := 2) (0) dX2_shapesThatAre_2 (by decide) ?_
  refine x_istore_n (pc := 3) dX2_shapesThatAre_3 (by decide) ?_
  exact x_back (lp 0 (by omega)) ⟨rfl, rfl, rfl, rfl, trivial⟩
set_option maxHeartbeats 4000000 in
set_option maxRecDepth 100000 in
theorem c_X2_shapesThatTilted (hj : j < 8) (hR : RC σ A) : Ct G yX2_shapesThatTilted YX2_shapesThatTilted 0 0 [.ref (gB G + sB j)] (nN G) (cellOf G (updS S j σ) B M) (Rt G (some (.int (tilN A.2.2.2.2 A.1))) (updS S j σ) B M) := by
  refine ct_of (by decide +kernel) rfl rfl (Nat.le_of_ble_eq_true rfl) (by simp [Value.category]) ?_
  refine x_sub (l' := [(0, .ref (gB G + sB j))]) ⟨rfl, trivial⟩ ?_
  have h12 := hR.le
  have lp : ∀ k, k ≤ A.1 → XJ G YX2_shapesThatTilted (fun _ => True) (Zx G (Rt G (some (.int (tilN A.2.2.2.2 A.1))) (updS S j σ) B M) 0 0) 4 [(0, .ref (gB G + sB j)), (1, .int (tilN A.2.2.2.2 k)), (2, .int (nI k))] [] (nN G) (cellOf G (updS S j σ) B M) 0 0 := by
    refine loopD (A.1) ?_
    intro k hk ih
    refine x_iload_n (pc := 4) dX2_shapesThatTilted_4 rfl ?_
    refine x_aload_n (pc := 5) dX2_shapesThatTilted_5 rfl ?_
    refine x_get (pc := 6) (ci := 2) (k := 3) (C := RX2) (T := TX2) (N := 10) (cell_sheet (by first | assumption | omega)) rfl (sB_255 (by first | assumption | omega)) rfl nX2 (by decide) mF_X2_25 rfl dX2_shapesThatTilted_6 ?_
    rw [hR.told]
    refine x_cmpge (pc := 9) 30 dX2_shapesThatTilted_9 (by decide) (fun c9 => ?_) (fun c9 => ?_)
    · obtain rfl : k = A.1 := by have := mt (tl_iff hR.le hk).mpr c9; omega
      refine x_iload_n (pc := 30) dX2_shapesThatTilted_30 rfl ?_
      exact x_iret rfl dX2_shapesThatTilted_31 ⟨by rfl, rfl, rfl⟩
    · have hkn : k < A.1 := (tl_iff hR.le hk).mp c9
      refine x_iload_n (pc := 12) dX2_shapesThatTilted_12 rfl ?_
      refine x_aload_n (pc := 13) dX2_shapesThatTilted_13 rfl ?_
      refine x_get (pc := 14) (ci := 2) (k := 0) (C := RX2) (T := TX2) (N := 10) (cell_sheet (by first | assumption | omega)) rfl (sB_255 (by first | assumption | omega)) rfl nX2 (by decide) mF_X2_13 rfl dX2_shapesThatTilted_14 ?_
      refine x_iload_n (pc := 17) dX2_shapesThatTilted_17 rfl ?_
      refine t_shapes (pc := 18) _ (by first | assumption | omega) rfl (by first | assumption | omega) dX2_shapesThatTilted_18 ?_
      refine x_get (pc := 19) (ci := 1) (k := 6) (C := RX1) (T := TX1) (N := 9) (cell_shape (by first | assumption | omega) (by first | assumption | omega)) rfl (shO_255 (by first | assumption | omega) (by first | assumption | omega)) rfl nX1 (by decide) mF_X2_119 rfl dX2_shapesThatTilted_19 ?_
      rw [hR.shp (by first | assumption | omega) 6]
      refine x_iadd (pc := 22) dX2_shapesThatTilted_22 ?_
      refine x_istore_n (pc := 23) dX2_shapesThatTilted_23 (by decide) ?_
      refine x_iinc (pc := 24) (nI (k + 1)) dX2_shapesThatTilted_24 rfl (iinc_nI k) (by decide) ?_
      refine x_goto (pc := 27) 4 dX2_shapesThatTilted_27 (by decide) ?_
      have e := ih hkn
      simp only [tilN] at e
      exact x_back e ⟨rfl, rfl, rfl, trivial⟩
  refine x_iconst (pc := 0) (0) dX2_shapesThatTilted_0 (by decide) ?_
  refine x_istore_n (pc := 1) dX2_shapesThatTilted_1 (by decide) ?_
  refine x_iconst (pc := 2) (0) dX2_shapesThatTilted_2 (by decide) ?_
  refine x_istore_n (pc := 3) dX2_shapesThatTilted_3 (by decide) ?_
  exact x_back (lp 0 (by omega)) ⟨rfl, rfl, rfl, trivial⟩
set_option maxHeartbeats 4000000 in
set_option maxRecDepth 100000 in
theorem c_X2_outerOf (hj : j < 8) (hR : RC σ A) (hi : i < A.1) : Ct G yX2_outerOf YX2_outerOf 0 0 [.ref (gB G + sB j), .ref (gB G + shO j i)] (nN G) (cellOf G (updS S j σ) B M) (Rt G (some (.int (oV (outO A.2.2.2.2 (A.2.2.2.2 i) A.1)))) (updS S j σ) B M) := by
  refine ct_of (by decide +kernel) rfl rfl (Nat.le_of_ble_eq_true rfl) (by simp [Value.category]) ?_
  refine x_sub (l' := [(0, .ref (gB G + sB j)), (1, .ref (gB G + shO j i))]) ⟨rfl, rfl, trivial⟩ ?_
  have h12 := hR.le
  have lp : ∀ k, k ≤ A.1 → XJ G YX2_outerOf (fun _ => True) (Zx G (Rt G (some (.int (oV (outO A.2.2.2.2 (A.2.2.2.2 i) A.1)))) (updS S j σ) B M) 0 0) 5 [(0, .ref (gB G + sB j)), (1, .ref (gB G + shO j i)), (2, .int (oV (outO A.2.2.2.2 (A.2.2.2.2 i) k))), (3, .int (nI k))] [] (nN G) (cellOf G (updS S j σ) B M) 0 0 := by
    refine loopD (A.1) ?_
    intro k hk ih
    refine x_iload_n (pc := 5) dX2_outerOf_5 rfl ?_
    refine x_aload_n (pc := 6) dX2_outerOf_6 rfl ?_
    refine x_get (pc := 7) (ci := 2) (k := 3) (C := RX2) (T := TX2) (N := 10) (cell_sheet (by first | assumption | omega)) rfl (sB_255 (by first | assumption | omega)) rfl nX2 (by decide) mF_X2_25 rfl dX2_outerOf_7 ?_
    rw [hR.told]
    refine x_cmpge (pc := 10) 58 dX2_outerOf_10 (by decide) (fun c10 => ?_) (fun c10 => ?_)
    · obtain rfl : k = A.1 := by have := mt (tl_iff hR.le hk).mpr c10; omega
      refine x_iload_n (pc := 58) dX2_outerOf_58 rfl ?_
      exact x_iret rfl dX2_outerOf_59 ⟨by rfl, rfl, rfl⟩
    · have hkn : k < A.1 := (tl_iff hR.le hk).mp c10
      refine x_aload_n (pc := 13) dX2_outerOf_13 rfl ?_
      refine x_aload_n (pc := 14) dX2_outerOf_14 rfl ?_
      refine x_get (pc := 15) (ci := 2) (k := 0) (C := RX2) (T := TX2) (N := 10) (cell_sheet (by first | assumption | omega)) rfl (sB_255 (by first | assumption | omega)) rfl nX2 (by decide) mF_X2_13 rfl dX2_outerOf_15 ?_
      refine x_iload_n (pc := 18) dX2_outerOf_18 rfl ?_
      refine t_shapes (pc := 19) _ (by first | assumption | omega) rfl (by first | assumption | omega) dX2_outerOf_19 ?_
      refine t_Vi (pc := 20) (c_X1_isInside (by first | assumption | omega) (by first | assumption | omega) (by first | assumption | omega)) qV_X1_isInside mL_X2_63 dX2_outerOf_20 rfl (cell_shape (by first | assumption | omega) (by first | assumption | omega)) (shO_255 (by first | assumption | omega) (by first | assumption | omega)) rfl rfl rfl ⟨by decide, by decide⟩ (Nat.le_of_ble_eq_true rfl) (Nat.le_of_ble_eq_true rfl) (Nat.le_of_ble_eq_true rfl) ?_
      rw [hR.ins (by first | assumption | omega) (by first | assumption | omega)]
      refine x_ifeq (pc := 23) 52 dX2_outerOf_23 (by decide) (fun c23 => ?_) (fun c23 => ?_)
      · refine x_iinc (pc := 52) (nI (k + 1)) dX2_outerOf_52 rfl (iinc_nI k) (by decide) ?_
        refine x_goto (pc := 55) 5 dX2_outerOf_55 (by decide) ?_
        have hol : ∀ q, outO A.2.2.2.2 (A.2.2.2.2 i) k = some q → q < 2 ^ 31 := fun q hq => by have := outO_lt hq; omega
        have e := ih hkn
        first
        | (simp only [outO, b01_eq c23, Bool.false_and, Bool.false_eq_true, if_false] at e; exact x_back e ⟨rfl, rfl, rfl, rfl, trivial⟩)
        | (have hn := oV_none hol c29
           simp only [outO, b01_ne c23, hn, Bool.true_and, if_true] at e; exact x_back e ⟨rfl, rfl, rfl, rfl, trivial⟩)
        | (simp only [outO, b01_ne c23, hq, b01_ne c47, Bool.true_and, if_true] at e; exact x_back e ⟨rfl, rfl, rfl, rfl, trivial⟩)
        | (simp only [outO, b01_ne c23, hq, b01_eq c47, Bool.true_and, Bool.false_eq_true, if_false] at e; exact x_back e ⟨rfl, rfl, rfl, rfl, trivial⟩)
      · refine x_iload_n (pc := 26) dX2_outerOf_26 rfl ?_
        refine x_bipush (pc := 27) (-5) dX2_outerOf_27 (by decide) ?_
        refine x_cmpeq (pc := 29) 50 dX2_outerOf_29 (by decide) (fun c29 => ?_) (fun c29 => ?_)
        · refine x_iload_n (pc := 50) dX2_outerOf_50 rfl ?_
          refine x_istore_n (pc := 51) dX2_outerOf_51 (by decide) ?_
          refine x_iinc (pc := 52) (nI (k + 1)) dX2_outerOf_52 rfl (iinc_nI k) (by decide) ?_
          refine x_goto (pc := 55) 5 dX2_outerOf_55 (by decide) ?_
          have hol : ∀ q, outO A.2.2.2.2 (A.2.2.2.2 i) k = some q → q < 2 ^ 31 := fun q hq => by have := outO_lt hq; omega
          have e := ih hkn
          first
          | (simp only [outO, b01_eq c23, Bool.false_and, Bool.false_eq_true, if_false] at e; exact x_back e ⟨rfl, rfl, rfl, rfl, trivial⟩)
          | (have hn := oV_none hol c29
             simp only [outO, b01_ne c23, hn, Bool.true_and, if_true] at e; exact x_back e ⟨rfl, rfl, rfl, rfl, trivial⟩)
          | (simp only [outO, b01_ne c23, hq, b01_ne c47, Bool.true_and, if_true] at e; exact x_back e ⟨rfl, rfl, rfl, rfl, trivial⟩)
          | (simp only [outO, b01_ne c23, hq, b01_eq c47, Bool.true_and, Bool.false_eq_true, if_false] at e; exact x_back e ⟨rfl, rfl, rfl, rfl, trivial⟩)
        · obtain ⟨q, hq⟩ := oV_some c29
          have hqk := outO_lt hq
          simp only [hq, oV]
          refine x_aload_n (pc := 32) dX2_outerOf_32 rfl ?_
          refine x_get (pc := 33) (ci := 2) (k := 0) (C := RX2) (T := TX2) (N := 10) (cell_sheet (by first | assumption | omega)) rfl (sB_255 (by first | assumption | omega)) rfl nX2 (by decide) mF_X2_13 rfl dX2_outerOf_33 ?_
          refine x_iload_n (pc := 36) dX2_outerOf_36 rfl ?_
          refine t_shapes (pc := 37) _ (by first | assumption | omega) rfl (by first | assumption | omega) dX2_outerOf_37 ?_
          refine x_aload_n (pc := 38) dX2_outerOf_38 rfl ?_
          refine x_get (pc := 39) (ci := 2) (k := 0) (C := RX2) (T := TX2) (N := 10) (cell_sheet (by first | assumption | omega)) rfl (sB_255 (by first | assumption | omega)) rfl nX2 (by decide) mF_X2_13 rfl dX2_outerOf_39 ?_
          refine x_iload_n (pc := 42) dX2_outerOf_42 rfl ?_
          refine t_shapes (pc := 43) _ (by first | assumption | omega) rfl (by first | assumption | omega) dX2_outerOf_43 ?_
          refine t_Vi (pc := 44) (c_X1_isInside (by first | assumption | omega) (by first | assumption | omega) (by first | assumption | omega)) qV_X1_isInside mL_X2_63 dX2_outerOf_44 rfl (cell_shape (by first | assumption | omega) (by first | assumption | omega)) (shO_255 (by first | assumption | omega) (by first | assumption | omega)) rfl rfl rfl ⟨by decide, by decide⟩ (Nat.le_of_ble_eq_true rfl) (Nat.le_of_ble_eq_true rfl) (Nat.le_of_ble_eq_true rfl) ?_
          rw [hR.ins (by first | assumption | omega) (by first | assumption | omega)]
          refine x_ifeq (pc := 47) 52 dX2_outerOf_47 (by decide) (fun c47 => ?_) (fun c47 => ?_)
          · refine x_iinc (pc := 52) (nI (k + 1)) dX2_outerOf_52 rfl (iinc_nI k) (by decide) ?_
            refine x_goto (pc := 55) 5 dX2_outerOf_55 (by decide) ?_
            have hol : ∀ q, outO A.2.2.2.2 (A.2.2.2.2 i) k = some q → q < 2 ^ 31 := fun q hq => by have := outO_lt hq; omega
            have e := ih hkn
            first
            | (simp only [outO, b01_eq c23, Bool.false_and, Bool.false_eq_true, if_false] at e; exact x_back e ⟨rfl, rfl, rfl, rfl, trivial⟩)
            | (have hn := oV_none hol c29
               simp only [outO, b01_ne c23, hn, Bool.true_and, if_true] at e; exact x_back e ⟨rfl, rfl, rfl, rfl, trivial⟩)
            | (simp only [outO, b01_ne c23, hq, b01_ne c47, Bool.true_and, if_true] at e; exact x_back e ⟨rfl, rfl, rfl, rfl, trivial⟩)
            | (simp only [outO, b01_ne c23, hq, b01_eq c47, Bool.true_and, Bool.false_eq_true, if_false] at e; exact x_back e ⟨rfl, rfl, rfl, rfl, trivial⟩)
          · refine x_iload_n (pc := 50) dX2_outerOf_50 rfl ?_
            refine x_istore_n (pc := 51) dX2_outerOf_51 (by decide) ?_
            refine x_iinc (pc := 52) (nI (k + 1)) dX2_outerOf_52 rfl (iinc_nI k) (by decide) ?_
            refine x_goto (pc := 55) 5 dX2_outerOf_55 (by decide) ?_
            have hol : ∀ q, outO A.2.2.2.2 (A.2.2.2.2 i) k = some q → q < 2 ^ 31 := fun q hq => by have := outO_lt hq; omega
            have e := ih hkn
            first
            | (simp only [outO, b01_eq c23, Bool.false_and, Bool.false_eq_true, if_false] at e; exact x_back e ⟨rfl, rfl, rfl, rfl, trivial⟩)
            | (have hn := oV_none hol c29
               simp only [outO, b01_ne c23, hn, Bool.true_and, if_true] at e; exact x_back e ⟨rfl, rfl, rfl, rfl, trivial⟩)
            | (simp only [outO, b01_ne c23, hq, b01_ne c47, Bool.true_and, if_true] at e; exact x_back e ⟨rfl, rfl, rfl, rfl, trivial⟩)
            | (simp only [outO, b01_ne c23, hq, b01_eq c47, Bool.true_and, Bool.false_eq_true, if_false] at e; exact x_back e ⟨rfl, rfl, rfl, rfl, trivial⟩)
  refine x_bipush (pc := 0) (-5) dX2_outerOf_0 (by decide) ?_
  refine x_istore_n (pc := 2) dX2_outerOf_2 (by decide) ?_
  refine x_iconst (pc := 3) (0) dX2_outerOf_3 (by decide) ?_
  refine x_istore_n (pc := 4) dX2_outerOf_4 (by decide) ?_
  exact x_back (lp 0 (by omega)) ⟨rfl, rfl, rfl, rfl, trivial⟩
set_option maxHeartbeats 4000000 in
set_option maxRecDepth 100000 in
theorem c_X2_setInside (hj : j < 8) (hR : RC σ A) (hi : i < A.1) : Ct G yX2_setInside YX2_setInside 0 0 [.ref (gB G + sB j), .ref (gB G + shO j i)] (nN G) (cellOf G (updS S j σ) B M) (Rt G (some (.int (setN A.2.2.2.2 (A.2.2.2.2 i) A.1))) (updS S j σ) B M) := by
  refine ct_of (by decide +kernel) rfl rfl (Nat.le_of_ble_eq_true rfl) (by simp [Value.category]) ?_
  refine x_sub (l' := [(0, .ref (gB G + sB j)), (1, .ref (gB G + shO j i))]) ⟨rfl, rfl, trivial⟩ ?_
  have h12 := hR.le
  have lp : ∀ k, k ≤ A.1 → XJ G YX2_setInside (fun _ => True) (Zx G (Rt G (some (.int (setN A.2.2.2.2 (A.2.2.2.2 i) A.1))) (updS S j σ) B M) 0 0) 4 [(0, .ref (gB G + sB j)), (1, .ref (gB G + shO j i)), (2, .int (setN A.2.2.2.2 (A.2.2.2.2 i) k)), (3, .int (nI k))] [] (nN G) (cellOf G (updS S j σ) B M) 0 0 := by
    refine loopD (A.1) ?_
    intro k hk ih
    refine x_iload_n (pc := 4) dX2_setInside_4 rfl ?_
    refine x_aload_n (pc := 5) dX2_setInside_5 rfl ?_
    refine x_get (pc := 6) (ci := 2) (k := 3) (C := RX2) (T := TX2) (N := 10) (cell_sheet (by first | assumption | omega)) rfl (sB_255 (by first | assumption | omega)) rfl nX2 (by decide) mF_X2_25 rfl dX2_setInside_6 ?_
    rw [hR.told]
    refine x_cmpge (pc := 9) 37 dX2_setInside_9 (by decide) (fun c9 => ?_) (fun c9 => ?_)
    · obtain rfl : k = A.1 := by have := mt (tl_iff hR.le hk).mpr c9; omega
      refine x_iload_n (pc := 37) dX2_setInside_37 rfl ?_
      exact x_iret rfl dX2_setInside_38 ⟨by rfl, rfl, rfl⟩
    · have hkn : k < A.1 := (tl_iff hR.le hk).mp c9
      refine x_aload_n (pc := 12) dX2_setInside_12 rfl ?_
      refine x_get (pc := 13) (ci := 2) (k := 0) (C := RX2) (T := TX2) (N := 10) (cell_sheet (by first | assumption | omega)) rfl (sB_255 (by first | assumption | omega)) rfl nX2 (by decide) mF_X2_13 rfl dX2_setInside_13 ?_
      refine x_iload_n (pc := 16) dX2_setInside_16 rfl ?_
      refine t_shapes (pc := 17) _ (by first | assumption | omega) rfl (by first | assumption | omega) dX2_setInside_17 ?_
      refine x_aload_n (pc := 18) dX2_setInside_18 rfl ?_
      refine t_Vi (pc := 19) (c_X1_isInside (by first | assumption | omega) (by first | assumption | omega) (by first | assumption | omega)) qV_X1_isInside mL_X2_63 dX2_setInside_19 rfl (cell_shape (by first | assumption | omega) (by first | assumption | omega)) (shO_255 (by first | assumption | omega) (by first | assumption | omega)) rfl rfl rfl ⟨by decide, by decide⟩ (Nat.le_of_ble_eq_true rfl) (Nat.le_of_ble_eq_true rfl) (Nat.le_of_ble_eq_true rfl) ?_
      rw [hR.ins (by first | assumption | omega) (by first | assumption | omega)]
      refine x_ifeq (pc := 22) 31 dX2_setInside_22 (by decide) (fun c22 => ?_) (fun c22 => ?_)
      · refine x_iinc (pc := 31) (nI (k + 1)) dX2_setInside_31 rfl (iinc_nI k) (by decide) ?_
        refine x_goto (pc := 34) 4 dX2_setInside_34 (by decide) ?_
        have e := ih hkn
        first
        | (simp only [setN, b01_eq c22, Bool.false_eq_true, if_false] at e; exact x_back e ⟨rfl, rfl, rfl, rfl, trivial⟩)
        | (simp only [setN, b01_ne c22, if_true] at e; exact x_back e ⟨rfl, rfl, rfl, rfl, trivial⟩)
      · refine x_iload_n (pc := 25) dX2_setInside_25 rfl ?_
        refine x_iconst (pc := 26) (1) dX2_setInside_26 (by decide) ?_
        refine x_iload_n (pc := 27) dX2_setInside_27 rfl ?_
        refine x_ishl (pc := 28) dX2_setInside_28 ?_
        refine x_ior (pc := 29) dX2_setInside_29 ?_
        refine x_istore_n (pc := 30) dX2_setInside_30 (by decide) ?_
        refine x_iinc (pc := 31) (nI (k + 1)) dX2_setInside_31 rfl (iinc_nI k) (by decide) ?_
        refine x_goto (pc := 34) 4 dX2_setInside_34 (by decide) ?_
        have e := ih hkn
        first
        | (simp only [setN, b01_eq c22, Bool.false_eq_true, if_false] at e; exact x_back e ⟨rfl, rfl, rfl, rfl, trivial⟩)
        | (simp only [setN, b01_ne c22, if_true] at e; exact x_back e ⟨rfl, rfl, rfl, rfl, trivial⟩)
  refine x_iconst (pc := 0) (0) dX2_setInside_0 (by decide) ?_
  refine x_istore_n (pc := 1) dX2_setInside_1 (by decide) ?_
  refine x_iconst (pc := 2) (0) dX2_setInside_2 (by decide) ?_
  refine x_istore_n (pc := 3) dX2_setInside_3 (by decide) ?_
  exact x_back (lp 0 (by omega)) ⟨rfl, rfl, rfl, rfl, trivial⟩
set_option maxHeartbeats 4000000 in
set_option maxRecDepth 100000 in
theorem c_X2_fits (hj : j < 8) (hR : RC σ A) : Ct G yX2_fits YX2_fits 0 0 [.ref (gB G + sB j), .ref (gB G + shO j A.1)] (nN G) (cellOf G (updS S j σ) B M) (Rt G (some (.int (b01 (fitB A.2.2.2.2 (σ.2.2.2.1 A.1) A.1)))) (updS S j σ) B M) := by
  refine ct_of (by decide +kernel) rfl rfl (Nat.le_of_ble_eq_true rfl) (by simp [Value.category]) ?_
  refine x_sub (l' := [(0, .ref (gB G + sB j)), (1, .ref (gB G + shO j A.1))]) ⟨rfl, rfl, trivial⟩ ?_
  have h12 := hR.le
  have lp : ∀ k, k ≤ A.1 → fitB A.2.2.2.2 (σ.2.2.2.1 A.1) k = true → XJ G YX2_fits (fun _ => True) (Zx G (Rt G (some (.int (b01 (fitB A.2.2.2.2 (σ.2.2.2.1 A.1) A.1)))) (updS S j σ) B M) 0 0) 2 [(0, .ref (gB G + sB j)), (1, .ref (gB G + shO j A.1)), (2, .int (nI k))] [] (nN G) (cellOf G (updS S j σ) B M) 0 0 := by
    refine loopD (A.1) ?_
    intro k hk ih hf
    refine x_iload_n (pc := 2) dX2_fits_2 rfl ?_
    refine x_aload_n (pc := 3) dX2_fits_3 rfl ?_
    refine x_get (pc := 4) (ci := 2) (k := 3) (C := RX2) (T := TX2) (N := 10) (cell_sheet (by first | assumption | omega)) rfl (sB_255 (by first | assumption | omega)) rfl nX2 (by decide) mF_X2_25 rfl dX2_fits_4 ?_
    rw [hR.told]
    refine x_cmpge (pc := 7) 71 dX2_fits_7 (by decide) (fun c7 => ?_) (fun c7 => ?_)
    · obtain rfl : k = A.1 := by have := mt (tl_iff hR.le hk).mpr c7; omega
      refine x_iconst (pc := 71) (1) dX2_fits_71 (by decide) ?_
      exact x_zret rfl rfl dX2_fits_72 ⟨by rw [hf]; rfl, rfl, rfl⟩
    · have hkn : k < A.1 := (tl_iff hR.le hk).mp c7
      refine x_aload_n (pc := 10) dX2_fits_10 rfl ?_
      refine x_get (pc := 11) (ci := 2) (k := 0) (C := RX2) (T := TX2) (N := 10) (cell_sheet (by first | assumption | omega)) rfl (sB_255 (by first | assumption | omega)) rfl nX2 (by decide) mF_X2_13 rfl dX2_fits_11 ?_
      refine x_iload_n (pc := 14) dX2_fits_14 rfl ?_
      refine t_shapes (pc := 15) _ (by first | assumption | omega) rfl (by first | assumption | omega) dX2_fits_15 ?_
      refine x_astore_n (pc := 16) dX2_fits_16 (by decide) ?_
      refine x_aload_n (pc := 17) dX2_fits_17 rfl ?_
      refine x_aload_n (pc := 18) dX2_fits_18 rfl ?_
      refine t_Vi (pc := 19) (c_X1_isInside (by first | assumption | omega) (by first | assumption | omega) (by first | assumption | omega)) qV_X1_isInside mL_X2_63 dX2_fits_19 rfl (cell_shape (by first | assumption | omega) (by first | assumption | omega)) (shO_255 (by first | assumption | omega) (by first | assumption | omega)) rfl rfl rfl ⟨by decide, by decide⟩ (Nat.le_of_ble_eq_true rfl) (Nat.le_of_ble_eq_true rfl) (Nat.le_of_ble_eq_true rfl) ?_
      rw [hR.ins2 _ hkn]
      refine x_ifne (pc := 22) 33 dX2_fits_22 (by decide) (fun c22 => ?_) (fun c22 => ?_)
      · refine x_iconst (pc := 33) (1) dX2_fits_33 (by decide) ?_
        refine x_goto (pc := 34) 38 dX2_fits_34 (by decide) ?_
        refine x_istore (pc := 38) dX2_fits_38 (by decide) ?_
        refine x_iload (pc := 40) dX2_fits_40 rfl ?_
        refine x_ifeq (pc := 42) 55 dX2_fits_42 (by decide) (fun h => absurd h (by decide)) (fun _ => ?_)
        refine x_aload_n (pc := 45) dX2_fits_45 rfl ?_
        refine x_get (pc := 46) (ci := 1) (k := 5) (C := RX1) (T := TX1) (N := 9) (cell_shape (by first | assumption | omega) (by first | assumption | omega)) rfl (shO_255 (by first | assumption | omega) (by first | assumption | omega)) rfl nX1 (by decide) mF_X2_66 rfl dX2_fits_46 ?_
        rw [hR.shp (by first | assumption | omega) 5]
        refine x_ifeq (pc := 49) 65 dX2_fits_49 (by decide) (fun c49 => ?_) (fun c49 => ?_)
        · refine x_iinc (pc := 65) (nI (k + 1)) dX2_fits_65 rfl (iinc_nI k) (by decide) ?_
          refine x_goto (pc := 68) 2 dX2_fits_68 (by decide) ?_
          have hk1 : fitB A.2.2.2.2 (σ.2.2.2.1 A.1) (k + 1) = true := by
            simp only [fitB, hf, okB, Bool.true_and]
            first
            | simp only [b01_ne c22, Bool.true_or, if_true, c49, decide_true]
            | simp only [b01_eq c22, b01_ne c30, Bool.false_or, if_true, c49, decide_true]
            | simp only [b01_eq c22, b01_eq c30, Bool.or_self, Bool.false_eq_true, if_false, b01_ne c60]
          exact x_back (ih hkn hk1) ⟨rfl, rfl, rfl, trivial⟩
        · refine x_goto (pc := 52) 63 dX2_fits_52 (by decide) ?_
          refine x_iconst (pc := 63) (0) dX2_fits_63 (by decide) ?_
          have hk1 : fitB A.2.2.2.2 (σ.2.2.2.1 A.1) (k + 1) = false := by
            simp only [fitB, hf, okB, Bool.true_and]
            first
            | simp only [b01_ne c22, Bool.true_or, if_true, c49, decide_false]
            | simp only [b01_eq c22, b01_ne c30, Bool.false_or, if_true, c49, decide_false]
            | simp only [b01_eq c22, b01_eq c30, Bool.or_self, Bool.false_eq_true, if_false, b01_eq c60]
          exact x_zret rfl rfl dX2_fits_64 ⟨by rw [fitB_mono hk1 A.1 hkn]; rfl, rfl, rfl⟩
      · refine x_aload_n (pc := 25) dX2_fits_25 rfl ?_
        refine x_aload_n (pc := 26) dX2_fits_26 rfl ?_
        refine t_Vi (pc := 27) (c_X1_isInside (by first | assumption | omega) (by first | assumption | omega) (by first | assumption | omega)) qV_X1_isInside mL_X2_63 dX2_fits_27 rfl (cell_shape (by first | assumption | omega) (by first | assumption | omega)) (shO_255 (by first | assumption | omega) (by first | assumption | omega)) rfl rfl rfl ⟨by decide, by decide⟩ (Nat.le_of_ble_eq_true rfl) (Nat.le_of_ble_eq_true rfl) (Nat.le_of_ble_eq_true rfl) ?_
        rw [hR.ins1 _ hkn]
        refine x_ifeq (pc := 30) 37 dX2_fits_30 (by decide) (fun c30 => ?_) (fun c30 => ?_)
        · refine x_iconst (pc := 37) (0) dX2_fits_37 (by decide) ?_
          refine x_istore (pc := 38) dX2_fits_38 (by decide) ?_
          refine x_iload (pc := 40) dX2_fits_40 rfl ?_
          refine x_ifeq (pc := 42) 55 dX2_fits_42 (by decide) (fun _ => ?_) (fun h => absurd h (by decide))
          refine x_aload_n (pc := 55) dX2_fits_55 rfl ?_
          refine x_aload_n (pc := 56) dX2_fits_56 rfl ?_
          refine t_Vi (pc := 57) (c_X1_isApartFrom (by first | assumption | omega) (by first | assumption | omega) (by first | assumption | omega)) qV_X1_isApartFrom mL_X2_69 dX2_fits_57 rfl (cell_shape (by first | assumption | omega) (by first | assumption | omega)) (shO_255 (by first | assumption | omega) (by first | assumption | omega)) rfl rfl rfl ⟨by decide, by decide⟩ (Nat.le_of_ble_eq_true rfl) (Nat.le_of_ble_eq_true rfl) (Nat.le_of_ble_eq_true rfl) ?_
          rw [hR.apa2 _ hkn]
          refine x_ifne (pc := 60) 65 dX2_fits_60 (by decide) (fun c60 => ?_) (fun c60 => ?_)
          · refine x_iinc (pc := 65) (nI (k + 1)) dX2_fits_65 rfl (iinc_nI k) (by decide) ?_
            refine x_goto (pc := 68) 2 dX2_fits_68 (by decide) ?_
            have hk1 : fitB A.2.2.2.2 (σ.2.2.2.1 A.1) (k + 1) = true := by
              simp only [fitB, hf, okB, Bool.true_and]
              first
              | simp only [b01_ne c22, Bool.true_or, if_true, c49, decide_true]
              | simp only [b01_eq c22, b01_ne c30, Bool.false_or, if_true, c49, decide_true]
              | simp only [b01_eq c22, b01_eq c30, Bool.or_self, Bool.false_eq_true, if_false, b01_ne c60]
            exact x_back (ih hkn hk1) ⟨rfl, rfl, rfl, trivial⟩
          · refine x_iconst (pc := 63) (0) dX2_fits_63 (by decide) ?_
            have hk1 : fitB A.2.2.2.2 (σ.2.2.2.1 A.1) (k + 1) = false := by
              simp only [fitB, hf, okB, Bool.true_and]
              first
              | simp only [b01_ne c22, Bool.true_or, if_true, c49, decide_false]
              | simp only [b01_eq c22, b01_ne c30, Bool.false_or, if_true, c49, decide_false]
              | simp only [b01_eq c22, b01_eq c30, Bool.or_self, Bool.false_eq_true, if_false, b01_eq c60]
            exact x_zret rfl rfl dX2_fits_64 ⟨by rw [fitB_mono hk1 A.1 hkn]; rfl, rfl, rfl⟩
        · refine x_iconst (pc := 33) (1) dX2_fits_33 (by decide) ?_
          refine x_goto (pc := 34) 38 dX2_fits_34 (by decide) ?_
          refine x_istore (pc := 38) dX2_fits_38 (by decide) ?_
          refine x_iload (pc := 40) dX2_fits_40 rfl ?_
          refine x_ifeq (pc := 42) 55 dX2_fits_42 (by decide) (fun h => absurd h (by decide)) (fun _ => ?_)
          refine x_aload_n (pc := 45) dX2_fits_45 rfl ?_
          refine x_get (pc := 46) (ci := 1) (k := 5) (C := RX1) (T := TX1) (N := 9) (cell_shape (by first | assumption | omega) (by first | assumption | omega)) rfl (shO_255 (by first | assumption | omega) (by first | assumption | omega)) rfl nX1 (by decide) mF_X2_66 rfl dX2_fits_46 ?_
          rw [hR.shp (by first | assumption | omega) 5]
          refine x_ifeq (pc := 49) 65 dX2_fits_49 (by decide) (fun c49 => ?_) (fun c49 => ?_)
          · refine x_iinc (pc := 65) (nI (k + 1)) dX2_fits_65 rfl (iinc_nI k) (by decide) ?_
            refine x_goto (pc := 68) 2 dX2_fits_68 (by decide) ?_
            have hk1 : fitB A.2.2.2.2 (σ.2.2.2.1 A.1) (k + 1) = true := by
              simp only [fitB, hf, okB, Bool.true_and]
              first
              | simp only [b01_ne c22, Bool.true_or, if_true, c49, decide_true]
              | simp only [b01_eq c22, b01_ne c30, Bool.false_or, if_true, c49, decide_true]
              | simp only [b01_eq c22, b01_eq c30, Bool.or_self, Bool.false_eq_true, if_false, b01_ne c60]
            exact x_back (ih hkn hk1) ⟨rfl, rfl, rfl, trivial⟩
          · refine x_goto (pc := 52) 63 dX2_fits_52 (by decide) ?_
            refine x_iconst (pc := 63) (0) dX2_fits_63 (by decide) ?_
            have hk1 : fitB A.2.2.2.2 (σ.2.2.2.1 A.1) (k + 1) = false := by
              simp only [fitB, hf, okB, Bool.true_and]
              first
              | simp only [b01_ne c22, Bool.true_or, if_true, c49, decide_false]
              | simp only [b01_eq c22, b01_ne c30, Bool.false_or, if_true, c49, decide_false]
              | simp only [b01_eq c22, b01_eq c30, Bool.or_self, Bool.false_eq_true, if_false, b01_eq c60]
            exact x_zret rfl rfl dX2_fits_64 ⟨by rw [fitB_mono hk1 A.1 hkn]; rfl, rfl, rfl⟩
  refine x_iconst (pc := 0) (0) dX2_fits_0 (by decide) ?_
  refine x_istore_n (pc := 1) dX2_fits_1 (by decide) ?_
  exact x_back (lp 0 (by omega) rfl) ⟨rfl, rfl, rfl, trivial⟩
set_option maxHeartbeats 4000000 in
set_option maxRecDepth 100000 in
theorem c_X2_factOfShape (hj : j < 8) (hR : RC σ A) (v w : Int32) : Ct G yX2_factOfShape YX2_factOfShape 0 0 [.ref (gB G + sB j), .int v, .int w] (nN G) (cellOf G (updS S j σ) B M) (Rt G (some (.int (factX A v w))) (updS S j σ) B M) := by
  refine ct_of (by decide +kernel) rfl rfl (Nat.le_of_ble_eq_true rfl) (by simp [Value.category]) ?_
  refine x_sub (l' := [(0, .ref (gB G + sB j)), (1, .int v), (2, .int w)]) ⟨rfl, rfl, rfl, trivial⟩ ?_
  have h12 := hR.le
  refine x_aload_n (pc := 0) dX2_factOfShape_0 rfl ?_
  refine x_iload_n (pc := 1) dX2_factOfShape_1 rfl ?_
  refine t_Vi (pc := 2) (c_X2_knows (by first | assumption | omega) hR _) qV_X2_knows mL_X2_72 dX2_factOfShape_2 rfl (cell_sheet (by first | assumption | omega)) (sB_255 (by first | assumption | omega)) rfl rfl rfl ⟨by decide, by decide⟩ (Nat.le_of_ble_eq_true rfl) (Nat.le_of_ble_eq_true rfl) (Nat.le_of_ble_eq_true rfl) ?_
  refine x_ifne (pc := 5) 10 dX2_factOfShape_5 (by decide) (fun c5 => ?_) (fun c5 => ?_)
  · obtain ⟨i, hi, rfl, hcl⟩ := knB_some hR.le (b01_ne c5)
    refine x_aload_n (pc := 10) dX2_factOfShape_10 rfl ?_
    refine x_get (pc := 11) (ci := 2) (k := 0) (C := RX2) (T := TX2) (N := 10) (cell_sheet (by first | assumption | omega)) rfl (sB_255 (by first | assumption | omega)) rfl nX2 (by decide) mF_X2_13 rfl dX2_factOfShape_11 ?_
    refine x_iload_n (pc := 14) dX2_factOfShape_14 rfl ?_
    refine t_shapes (pc := 15) _ (by first | assumption | omega) rfl (by first | assumption | omega) dX2_factOfShape_15 ?_
    refine x_astore_n (pc := 16) dX2_factOfShape_16 (by decide) ?_
    refine x_iload_n (pc := 17) dX2_factOfShape_17 rfl ?_
    by_cases hw : betw w 0 (nI 10) = true
    · obtain ⟨q, hq, rfl, hcq⟩ := betw_some (n := 10) rfl (by decide) hw
      rcases (show q = 0 ∨ q = 1 ∨ q = 2 ∨ q = 3 ∨ q = 4 ∨ q = 5 ∨ q = 6 ∨ q = 7 ∨ q = 8 ∨ q = 9 ∨ q = 10 by omega) with rfl | rfl | rfl | rfl | rfl | rfl | rfl | rfl | rfl | rfl | rfl
      · refine x_tableIn (pc := 18) 76 dX2_factOfShape_18 (by decide) (by decide) rfl (by decide) ?_
        refine x_aload_n (pc := 76) dX2_factOfShape_76 rfl ?_
        refine x_get (pc := 77) (ci := 1) (k := 0) (C := RX1) (T := TX1) (N := 9) (cell_shape (by first | assumption | omega) (by first | assumption | omega)) rfl (shO_255 (by first | assumption | omega) (by first | assumption | omega)) rfl nX1 (by decide) mF_X2_167 rfl dX2_factOfShape_77 ?_
        rw [hR.shp (by first | assumption | omega) 0]
        exact x_iret rfl dX2_factOfShape_80 ⟨by simp only [factX, b01_ne c5, if_true, hcl]; rfl, rfl, rfl⟩
      · refine x_tableIn (pc := 18) 81 dX2_factOfShape_18 (by decide) (by decide) rfl (by decide) ?_
        refine x_aload_n (pc := 81) dX2_factOfShape_81 rfl ?_
        refine x_get (pc := 82) (ci := 1) (k := 1) (C := RX1) (T := TX1) (N := 9) (cell_shape (by first | assumption | omega) (by first | assumption | omega)) rfl (shO_255 (by first | assumption | omega) (by first | assumption | omega)) rfl nX1 (by decide) mF_X2_170 rfl dX2_factOfShape_82 ?_
        rw [hR.shp (by first | assumption | omega) 1]
        exact x_iret rfl dX2_factOfShape_85 ⟨by simp only [factX, b01_ne c5, if_true, hcl]; rfl, rfl, rfl⟩
      · refine x_tableIn (pc := 18) 86 dX2_factOfShape_18 (by decide) (by decide) rfl (by decide) ?_
        refine x_aload_n (pc := 86) dX2_factOfShape_86 rfl ?_
        refine x_get (pc := 87) (ci := 1) (k := 2) (C := RX1) (T := TX1) (N := 9) (cell_shape (by first | assumption | omega) (by first | assumption | omega)) rfl (shO_255 (by first | assumption | omega) (by first | assumption | omega)) rfl nX1 (by decide) mF_X2_173 rfl dX2_factOfShape_87 ?_
        rw [hR.shp (by first | assumption | omega) 2]
        exact x_iret rfl dX2_factOfShape_90 ⟨by simp only [factX, b01_ne c5, if_true, hcl]; rfl, rfl, rfl⟩
      · refine x_tableIn (pc := 18) 91 dX2_factOfShape_18 (by decide) (by decide) rfl (by decide) ?_
        refine x_aload_n (pc := 91) dX2_factOfShape_91 rfl ?_
        refine x_get (pc := 92) (ci := 1) (k := 3) (C := RX1) (T := TX1) (N := 9) (cell_shape (by first | assumption | omega) (by first | assumption | omega)) rfl (shO_255 (by first | assumption | omega) (by first | assumption | omega)) rfl nX1 (by decide) mF_X2_176 rfl dX2_factOfShape_92 ?_
        rw [hR.shp (by first | assumption | omega) 3]
        exact x_iret rfl dX2_factOfShape_95 ⟨by simp only [factX, b01_ne c5, if_true, hcl]; rfl, rfl, rfl⟩
      · refine x_tableIn (pc := 18) 96 dX2_factOfShape_18 (by decide) (by decide) rfl (by decide) ?_
        refine x_aload_n (pc := 96) dX2_factOfShape_96 rfl ?_
        refine x_get (pc := 97) (ci := 1) (k := 4) (C := RX1) (T := TX1) (N := 9) (cell_shape (by first | assumption | omega) (by first | assumption | omega)) rfl (shO_255 (by first | assumption | omega) (by first | assumption | omega)) rfl nX1 (by decide) mF_X2_76 rfl dX2_factOfShape_97 ?_
        rw [hR.shp (by first | assumption | omega) 4]
        exact x_iret rfl dX2_factOfShape_100 ⟨by simp only [factX, b01_ne c5, if_true, hcl]; rfl, rfl, rfl⟩
      · refine x_tableIn (pc := 18) 101 dX2_factOfShape_18 (by decide) (by decide) rfl (by decide) ?_
        refine x_aload_n (pc := 101) dX2_factOfShape_101 rfl ?_
        refine x_get (pc := 102) (ci := 1) (k := 5) (C := RX1) (T := TX1) (N := 9) (cell_shape (by first | assumption | omega) (by first | assumption | omega)) rfl (shO_255 (by first | assumption | omega) (by first | assumption | omega)) rfl nX1 (by decide) mF_X2_66 rfl dX2_factOfShape_102 ?_
        rw [hR.shp (by first | assumption | omega) 5]
        exact x_iret rfl dX2_factOfShape_105 ⟨by simp only [factX, b01_ne c5, if_true, hcl]; rfl, rfl, rfl⟩
      · refine x_tableIn (pc := 18) 106 dX2_factOfShape_18 (by decide) (by decide) rfl (by decide) ?_
        refine x_aload_n (pc := 106) dX2_factOfShape_106 rfl ?_
        refine x_aload_n (pc := 107) dX2_factOfShape_107 rfl ?_
        refine t_Vi (pc := 108) (c_X2_outerOf (by first | assumption | omega) hR (by first | assumption | omega)) qV_X2_outerOf mL_X2_179 dX2_factOfShape_108 rfl (cell_sheet (by first | assumption | omega)) (sB_255 (by first | assumption | omega)) rfl rfl rfl ⟨by decide, by decide⟩ (Nat.le_of_ble_eq_true rfl) (Nat.le_of_ble_eq_true rfl) (Nat.le_of_ble_eq_true rfl) ?_
        exact x_iret rfl dX2_factOfShape_111 ⟨by simp only [factX, b01_ne c5, if_true, hcl]; rfl, rfl, rfl⟩
      · refine x_tableIn (pc := 18) 112 dX2_factOfShape_18 (by decide) (by decide) rfl (by decide) ?_
        refine x_aload_n (pc := 112) dX2_factOfShape_112 rfl ?_
        refine x_aload_n (pc := 113) dX2_factOfShape_113 rfl ?_
        refine t_Vi (pc := 114) (c_X2_setInside (by first | assumption | omega) hR (by first | assumption | omega)) qV_X2_setInside mL_X2_182 dX2_factOfShape_114 rfl (cell_sheet (by first | assumption | omega)) (sB_255 (by first | assumption | omega)) rfl rfl rfl ⟨by decide, by decide⟩ (Nat.le_of_ble_eq_true rfl) (Nat.le_of_ble_eq_true rfl) (Nat.le_of_ble_eq_true rfl) ?_
        exact x_iret rfl dX2_factOfShape_117 ⟨by simp only [factX, b01_ne c5, if_true, hcl]; rfl, rfl, rfl⟩
      · refine x_tableIn (pc := 18) 118 dX2_factOfShape_18 (by decide) (by decide) rfl (by decide) ?_
        refine x_aload_n (pc := 118) dX2_factOfShape_118 rfl ?_
        refine t_Vi (pc := 119) (c_X1_edge (by first | assumption | omega) (by first | assumption | omega)) qV_X1_edge mL_X2_140 dX2_factOfShape_119 rfl (cell_shape (by first | assumption | omega) (by first | assumption | omega)) (shO_255 (by first | assumption | omega) (by first | assumption | omega)) rfl rfl rfl ⟨by decide, by decide⟩ (Nat.le_of_ble_eq_true rfl) (Nat.le_of_ble_eq_true rfl) (Nat.le_of_ble_eq_true rfl) ?_
        rw [hR.ed (by first | assumption | omega)]
        exact x_iret rfl dX2_factOfShape_122 ⟨by simp only [factX, b01_ne c5, if_true, hcl]; rfl, rfl, rfl⟩
      · refine x_tableIn (pc := 18) 123 dX2_factOfShape_18 (by decide) (by decide) rfl (by decide) ?_
        refine x_aload_n (pc := 123) dX2_factOfShape_123 rfl ?_
        refine x_get (pc := 124) (ci := 1) (k := 6) (C := RX1) (T := TX1) (N := 9) (cell_shape (by first | assumption | omega) (by first | assumption | omega)) rfl (shO_255 (by first | assumption | omega) (by first | assumption | omega)) rfl nX1 (by decide) mF_X2_119 rfl dX2_factOfShape_124 ?_
        rw [hR.shp (by first | assumption | omega) 6]
        exact x_iret rfl dX2_factOfShape_127 ⟨by simp only [factX, b01_ne c5, if_true, hcl]; rfl, rfl, rfl⟩
      · refine x_tableIn (pc := 18) 128 dX2_factOfShape_18 (by decide) (by decide) rfl (by decide) ?_
        refine x_aload_n (pc := 128) dX2_factOfShape_128 rfl ?_
        refine x_get (pc := 129) (ci := 1) (k := 7) (C := RX1) (T := TX1) (N := 9) (cell_shape (by first | assumption | omega) (by first | assumption | omega)) rfl (shO_255 (by first | assumption | omega) (by first | assumption | omega)) rfl nX1 (by decide) mF_X2_107 rfl dX2_factOfShape_129 ?_
        rw [hR.shp (by first | assumption | omega) 7]
        exact x_iret rfl dX2_factOfShape_132 ⟨by simp only [factX, b01_ne c5, if_true, hcl]; rfl, rfl, rfl⟩
    · have ho := betw_out rfl (by decide) hw
      refine x_tableOut (pc := 18) 133 dX2_factOfShape_18 ho (by decide) ?_
      refine x_bipush (pc := 133) (-2) dX2_factOfShape_133 (by decide) ?_
      exact x_iret rfl dX2_factOfShape_135 ⟨by (have n6 : ¬ w = 6 := ne_out (m := 6) (n := 10) (by decide) (by decide) ho; have n7 : ¬ w = 7 := ne_out (m := 7) (n := 10) (by decide) (by decide) ho; have n8 : ¬ w = 8 := ne_out (m := 8) (n := 10) (by decide) (by decide) ho; have n9 : ¬ w = 9 := ne_out (m := 9) (n := 10) (by decide) (by decide) ho; have n10 : ¬ w = 10 := ne_out (m := 10) (n := 10) (by decide) (by decide) ho; have h5 : betw w 0 5 = false := betw_ge (m := 5) (n := 10) (by decide) (by decide) ho; simp only [factX, b01_ne c5, if_true, h5, Bool.false_eq_true, if_false, n6, n7, n8, n9, n10]), rfl, rfl⟩
  · refine x_iconst (pc := 8) (-1) dX2_factOfShape_8 (by decide) ?_
    exact x_iret rfl dX2_factOfShape_9 ⟨by simp only [factX, b01_eq c5, Bool.false_eq_true, if_false], rfl, rfl⟩
set_option maxHeartbeats 4000000 in
set_option maxRecDepth 100000 in
theorem c_X2_factOfSheet (hj : j < 8) (hR : RC σ A) (w : Int32) : Ct G yX2_factOfSheet YX2_factOfSheet 0 0 [.ref (gB G + sB j), .int w] (nN G) (cellOf G (updS S j σ) B M) (Rt G (some (.int (sheetX A w))) (updS S j σ) B M) := by
  refine ct_of (by decide +kernel) rfl rfl (Nat.le_of_ble_eq_true rfl) (by simp [Value.category]) ?_
  refine x_sub (l' := [(0, .ref (gB G + sB j)), (1, .int w)]) ⟨rfl, rfl, trivial⟩ ?_
  have h12 := hR.le
  refine x_iload_n (pc := 0) dX2_factOfSheet_0 rfl ?_
  by_cases hw : betw w 0 (nI 16) = true
  · obtain ⟨q, hq, rfl, hcq⟩ := betw_some (n := 16) rfl (by decide) hw
    rcases (show q = 0 ∨ q = 1 ∨ q = 2 ∨ q = 3 ∨ q = 4 ∨ q = 5 ∨ q = 6 ∨ q = 7 ∨ q = 8 ∨ q = 9 ∨ q = 10 ∨ q = 11 ∨ q = 12 ∨ q = 13 ∨ q = 14 ∨ q = 15 ∨ q = 16 by omega) with rfl | rfl | rfl | rfl | rfl | rfl | rfl | rfl | rfl | rfl | rfl | rfl | rfl | rfl | rfl | rfl | rfl
    · refine x_tableIn (pc := 1) 84 dX2_factOfSheet_1 (by decide) (by decide) rfl (by decide) ?_
      refine x_aload_n (pc := 84) dX2_factOfSheet_84 rfl ?_
      refine x_get (pc := 85) (ci := 2) (k := 3) (C := RX2) (T := TX2) (N := 10) (cell_sheet (by first | assumption | omega)) rfl (sB_255 (by first | assumption | omega)) rfl nX2 (by decide) mF_X2_25 rfl dX2_factOfSheet_85 ?_
      rw [hR.told]
      exact x_iret rfl dX2_factOfSheet_88 ⟨rfl, rfl, rfl⟩
    · refine x_tableIn (pc := 1) 89 dX2_factOfSheet_1 (by decide) (by decide) rfl (by decide) ?_
      refine x_aload_n (pc := 89) dX2_factOfSheet_89 rfl ?_
      refine x_iconst (pc := 90) (0) dX2_factOfSheet_90 (by decide) ?_
      refine t_Vi (pc := 91) (c_X2_shapesThatAre (by first | assumption | omega) hR _) qV_X2_shapesThatAre mL_X2_185 dX2_factOfSheet_91 rfl (cell_sheet (by first | assumption | omega)) (sB_255 (by first | assumption | omega)) rfl rfl rfl ⟨by decide, by decide⟩ (Nat.le_of_ble_eq_true rfl) (Nat.le_of_ble_eq_true rfl) (Nat.le_of_ble_eq_true rfl) ?_
      exact x_iret rfl dX2_factOfSheet_94 ⟨rfl, rfl, rfl⟩
    · refine x_tableIn (pc := 1) 95 dX2_factOfSheet_1 (by decide) (by decide) rfl (by decide) ?_
      refine x_aload_n (pc := 95) dX2_factOfSheet_95 rfl ?_
      refine x_iconst (pc := 96) (1) dX2_factOfSheet_96 (by decide) ?_
      refine t_Vi (pc := 97) (c_X2_shapesThatAre (by first | assumption | omega) hR _) qV_X2_shapesThatAre mL_X2_185 dX2_factOfSheet_97 rfl (cell_sheet (by first | assumption | omega)) (sB_255 (by first | assumption | omega)) rfl rfl rfl ⟨by decide, by decide⟩ (Nat.le_of_ble_eq_true rfl) (Nat.le_of_ble_eq_true rfl) (Nat.le_of_ble_eq_true rfl) ?_
      exact x_iret rfl dX2_factOfSheet_100 ⟨rfl, rfl, rfl⟩
    · refine x_tableIn (pc := 1) 101 dX2_factOfSheet_1 (by decide) (by decide) rfl (by decide) ?_
      refine x_aload_n (pc := 101) dX2_factOfSheet_101 rfl ?_
      refine x_iconst (pc := 102) (2) dX2_factOfSheet_102 (by decide) ?_
      refine t_Vi (pc := 103) (c_X2_shapesThatAre (by first | assumption | omega) hR _) qV_X2_shapesThatAre mL_X2_185 dX2_factOfSheet_103 rfl (cell_sheet (by first | assumption | omega)) (sB_255 (by first | assumption | omega)) rfl rfl rfl ⟨by decide, by decide⟩ (Nat.le_of_ble_eq_true rfl) (Nat.le_of_ble_eq_true rfl) (Nat.le_of_ble_eq_true rfl) ?_
      exact x_iret rfl dX2_factOfSheet_106 ⟨rfl, rfl, rfl⟩
    · refine x_tableIn (pc := 1) 107 dX2_factOfSheet_1 (by decide) (by decide) rfl (by decide) ?_
      refine x_aload_n (pc := 107) dX2_factOfSheet_107 rfl ?_
      refine t_Vi (pc := 108) (c_X2_shapesThatTilted (by first | assumption | omega) hR) qV_X2_shapesThatTilted mL_X2_188 dX2_factOfSheet_108 rfl (cell_sheet (by first | assumption | omega)) (sB_255 (by first | assumption | omega)) rfl rfl rfl ⟨by decide, by decide⟩ (Nat.le_of_ble_eq_true rfl) (Nat.le_of_ble_eq_true rfl) (Nat.le_of_ble_eq_true rfl) ?_
      exact x_iret rfl dX2_factOfSheet_111 ⟨rfl, rfl, rfl⟩
    · refine x_tableIn (pc := 1) 112 dX2_factOfSheet_1 (by decide) (by decide) rfl (by decide) ?_
      refine x_aload_n (pc := 112) dX2_factOfSheet_112 rfl ?_
      refine x_get (pc := 113) (ci := 2) (k := 6) (C := RX2) (T := TX2) (N := 10) (cell_sheet (by first | assumption | omega)) rfl (sB_255 (by first | assumption | omega)) rfl nX2 (by decide) mF_X2_35 rfl dX2_factOfSheet_113 ?_
      rw [hR.int 3]
      exact x_iret rfl dX2_factOfSheet_116 ⟨rfl, rfl, rfl⟩
    · refine x_tableIn (pc := 1) 117 dX2_factOfSheet_1 (by decide) (by decide) rfl (by decide) ?_
      refine x_aload_n (pc := 117) dX2_factOfSheet_117 rfl ?_
      refine x_get (pc := 118) (ci := 2) (k := 4) (C := RX2) (T := TX2) (N := 10) (cell_sheet (by first | assumption | omega)) rfl (sB_255 (by first | assumption | omega)) rfl nX2 (by decide) mF_X2_29 rfl dX2_factOfSheet_118 ?_
      rw [hR.int 1]
      exact x_iret rfl dX2_factOfSheet_121 ⟨rfl, rfl, rfl⟩
    · refine x_tableIn (pc := 1) 122 dX2_factOfSheet_1 (by decide) (by decide) rfl (by decide) ?_
      refine x_aload_n (pc := 122) dX2_factOfSheet_122 rfl ?_
      refine x_get (pc := 123) (ci := 2) (k := 5) (C := RX2) (T := TX2) (N := 10) (cell_sheet (by first | assumption | omega)) rfl (sB_255 (by first | assumption | omega)) rfl nX2 (by decide) mF_X2_32 rfl dX2_factOfSheet_123 ?_
      rw [hR.int 2]
      exact x_iret rfl dX2_factOfSheet_126 ⟨rfl, rfl, rfl⟩
    · refine x_tableIn (pc := 1) 127 dX2_factOfSheet_1 (by decide) (by decide) rfl (by decide) ?_
      refine x_aload_n (pc := 127) dX2_factOfSheet_127 rfl ?_
      refine x_get (pc := 128) (ci := 2) (k := 7) (C := RX2) (T := TX2) (N := 10) (cell_sheet (by first | assumption | omega)) rfl (sB_255 (by first | assumption | omega)) rfl nX2 (by decide) mF_X2_38 rfl dX2_factOfSheet_128 ?_
      rw [hR.int 4]
      exact x_iret rfl dX2_factOfSheet_131 ⟨rfl, rfl, rfl⟩
    · refine x_tableIn (pc := 1) 132 dX2_factOfSheet_1 (by decide) (by decide) rfl (by decide) ?_
      refine x_aload_n (pc := 132) dX2_factOfSheet_132 rfl ?_
      refine x_get (pc := 133) (ci := 2) (k := 8) (C := RX2) (T := TX2) (N := 10) (cell_sheet (by first | assumption | omega)) rfl (sB_255 (by first | assumption | omega)) rfl nX2 (by decide) mF_X2_41 rfl dX2_factOfSheet_133 ?_
      rw [hR.int 5]
      exact x_iret rfl dX2_factOfSheet_136 ⟨rfl, rfl, rfl⟩
    · refine x_tableIn (pc := 1) 137 dX2_factOfSheet_1 (by decide) (by decide) rfl (by decide) ?_
      refine x_aload_n (pc := 137) dX2_factOfSheet_137 rfl ?_
      refine t_Vi (pc := 138) (c_X2_greatestHeat (by first | assumption | omega) hR) qV_X2_greatestHeat mL_X2_116 dX2_factOfSheet_138 rfl (cell_sheet (by first | assumption | omega)) (sB_255 (by first | assumption | omega)) rfl rfl rfl ⟨by decide, by decide⟩ (Nat.le_of_ble_eq_true rfl) (Nat.le_of_ble_eq_true rfl) (Nat.le_of_ble_eq_true rfl) ?_
      exact x_iret rfl dX2_factOfSheet_141 ⟨rfl, rfl, rfl⟩
    · refine x_tableIn (pc := 1) 142 dX2_factOfSheet_1 (by decide) (by decide) rfl (by decide) ?_
      refine x_aload_n (pc := 142) dX2_factOfSheet_142 rfl ?_
      refine t_Vi (pc := 143) (c_X2_hottestSquare (by first | assumption | omega) hR) qV_X2_hottestSquare mL_X2_164 dX2_factOfSheet_143 rfl (cell_sheet (by first | assumption | omega)) (sB_255 (by first | assumption | omega)) rfl rfl rfl ⟨by decide, by decide⟩ (Nat.le_of_ble_eq_true rfl) (Nat.le_of_ble_eq_true rfl) (Nat.le_of_ble_eq_true rfl) ?_
      exact x_iret rfl dX2_factOfSheet_146 ⟨rfl, rfl, rfl⟩
    · refine x_tableIn (pc := 1) 147 dX2_factOfSheet_1 (by decide) (by decide) rfl (by decide) ?_
      refine x_aload_n (pc := 147) dX2_factOfSheet_147 rfl ?_
      refine t_Vi (pc := 148) (c_X2_allHeat (by first | assumption | omega) hR) qV_X2_allHeat mL_X2_191 dX2_factOfSheet_148 rfl (cell_sheet (by first | assumption | omega)) (sB_255 (by first | assumption | omega)) rfl rfl rfl ⟨by decide, by decide⟩ (Nat.le_of_ble_eq_true rfl) (Nat.le_of_ble_eq_true rfl) (Nat.le_of_ble_eq_true rfl) ?_
      exact x_iret rfl dX2_factOfSheet_151 ⟨rfl, rfl, rfl⟩
    · refine x_tableIn (pc := 1) 152 dX2_factOfSheet_1 (by decide) (by decide) rfl (by decide) ?_
      refine x_aload_n (pc := 152) dX2_factOfSheet_152 rfl ?_
      refine x_get (pc := 153) (ci := 2) (k := 2) (C := RX2) (T := TX2) (N := 10) (cell_sheet (by first | assumption | omega)) rfl (sB_255 (by first | assumption | omega)) rfl nX2 (by decide) mF_X2_22 rfl dX2_factOfSheet_153 ?_
      refine x_iconst (pc := 156) (0) dX2_factOfSheet_156 (by decide) ?_
      refine t_ild (pc := 157) 0 (cell_sets (by first | assumption | omega)) (stO_255 (by first | assumption | omega)) rfl (by decide) (by decide) dX2_factOfSheet_157 ?_
      rw [hR.sett _ (by decide)]
      exact x_iret rfl dX2_factOfSheet_158 ⟨rfl, rfl, rfl⟩
    · refine x_tableIn (pc := 1) 159 dX2_factOfSheet_1 (by decide) (by decide) rfl (by decide) ?_
      refine x_aload_n (pc := 159) dX2_factOfSheet_159 rfl ?_
      refine x_get (pc := 160) (ci := 2) (k := 2) (C := RX2) (T := TX2) (N := 10) (cell_sheet (by first | assumption | omega)) rfl (sB_255 (by first | assumption | omega)) rfl nX2 (by decide) mF_X2_22 rfl dX2_factOfSheet_160 ?_
      refine x_iconst (pc := 163) (1) dX2_factOfSheet_163 (by decide) ?_
      refine t_ild (pc := 164) 1 (cell_sets (by first | assumption | omega)) (stO_255 (by first | assumption | omega)) rfl (by decide) (by decide) dX2_factOfSheet_164 ?_
      rw [hR.sett _ (by decide)]
      exact x_iret rfl dX2_factOfSheet_165 ⟨rfl, rfl, rfl⟩
    · refine x_tableIn (pc := 1) 166 dX2_factOfSheet_1 (by decide) (by decide) rfl (by decide) ?_
      refine x_aload_n (pc := 166) dX2_factOfSheet_166 rfl ?_
      refine x_get (pc := 167) (ci := 2) (k := 2) (C := RX2) (T := TX2) (N := 10) (cell_sheet (by first | assumption | omega)) rfl (sB_255 (by first | assumption | omega)) rfl nX2 (by decide) mF_X2_22 rfl dX2_factOfSheet_167 ?_
      refine x_iconst (pc := 170) (2) dX2_factOfSheet_170 (by decide) ?_
      refine t_ild (pc := 171) 2 (cell_sets (by first | assumption | omega)) (stO_255 (by first | assumption | omega)) rfl (by decide) (by decide) dX2_factOfSheet_171 ?_
      rw [hR.sett _ (by decide)]
      exact x_iret rfl dX2_factOfSheet_172 ⟨rfl, rfl, rfl⟩
    · refine x_tableIn (pc := 1) 173 dX2_factOfSheet_1 (by decide) (by decide) rfl (by decide) ?_
      refine x_aload_n (pc := 173) dX2_factOfSheet_173 rfl ?_
      refine x_get (pc := 174) (ci := 2) (k := 2) (C := RX2) (T := TX2) (N := 10) (cell_sheet (by first | assumption | omega)) rfl (sB_255 (by first | assumption | omega)) rfl nX2 (by decide) mF_X2_22 rfl dX2_factOfSheet_174 ?_
      refine x_iconst (pc := 177) (3) dX2_factOfSheet_177 (by decide) ?_
      refine t_ild (pc := 178) 3 (cell_sets (by first | assumption | omega)) (stO_255 (by first | assumption | omega)) rfl (by decide) (by decide) dX2_factOfSheet_178 ?_
      rw [hR.sett _ (by decide)]
      exact x_iret rfl dX2_factOfSheet_179 ⟨rfl, rfl, rfl⟩
  · have ho := betw_out rfl (by decide) hw
    refine x_tableOut (pc := 1) 180 dX2_factOfSheet_1 ho (by decide) ?_
    refine x_bipush (pc := 180) (-2) dX2_factOfSheet_180 (by decide) ?_
    exact x_iret rfl dX2_factOfSheet_182 ⟨by (have n0 : ¬ w = 0 := ne_out (m := 0) (n := 16) (by decide) (by decide) ho; have n1 : ¬ w = 1 := ne_out (m := 1) (n := 16) (by decide) (by decide) ho; have n2 : ¬ w = 2 := ne_out (m := 2) (n := 16) (by decide) (by decide) ho; have n3 : ¬ w = 3 := ne_out (m := 3) (n := 16) (by decide) (by decide) ho; have n4 : ¬ w = 4 := ne_out (m := 4) (n := 16) (by decide) (by decide) ho; have n5 : ¬ w = 5 := ne_out (m := 5) (n := 16) (by decide) (by decide) ho; have n6 : ¬ w = 6 := ne_out (m := 6) (n := 16) (by decide) (by decide) ho; have n7 : ¬ w = 7 := ne_out (m := 7) (n := 16) (by decide) (by decide) ho; have n8 : ¬ w = 8 := ne_out (m := 8) (n := 16) (by decide) (by decide) ho; have n9 : ¬ w = 9 := ne_out (m := 9) (n := 16) (by decide) (by decide) ho; have n10 : ¬ w = 10 := ne_out (m := 10) (n := 16) (by decide) (by decide) ho; have n11 : ¬ w = 11 := ne_out (m := 11) (n := 16) (by decide) (by decide) ho; have n12 : ¬ w = 12 := ne_out (m := 12) (n := 16) (by decide) (by decide) ho; have n13 : ¬ w = 13 := ne_out (m := 13) (n := 16) (by decide) (by decide) ho; have n14 : ¬ w = 14 := ne_out (m := 14) (n := 16) (by decide) (by decide) ho; have n15 : ¬ w = 15 := ne_out (m := 15) (n := 16) (by decide) (by decide) ho; have n16 : ¬ w = 16 := ne_out (m := 16) (n := 16) (by decide) (by decide) ho; simp only [sheetX, if_false, n0, n1, n2, n3, n4, n5, n6, n7, n8, n9, n10, n11, n12, n13, n14, n15, n16]), rfl, rfl⟩
end SHEET3
end
section
/-! the class: Sheet's writers (rows laid by wip/whole/p15.py) -/
theorem cpF_at (g f : Fs) (k : Nat) : cpF g f k k = g k := by simp [cpF]
theorem cpF_in (g f : Fs) {k q : Nat} (h : q < k) : cpF g f k q = f q := by simp [cpF, h]
theorem edgQ_4 {f f' : Fs} (h : ∀ k, k < 4 → f k = f' k) (k : Nat) : edgQ f k = edgQ f' k := by simp only [edgQ, fldV, fcV, frV, h 0 (by decide), h 1 (by decide), h 2 (by decide), h 3 (by decide)]
theorem lsV_5 {f f' : Fs} (h : ∀ k, k < 5 → f k = f' k) : lsV f = lsV f' := by simp only [lsV, lcV, lrV, h 0 (by decide), h 1 (by decide), h 2 (by decide), h 3 (by decide), h 4 (by decide)]
theorem insB_4 {f f' g g' : Fs} (h : ∀ k, k < 4 → f k = f' k) (h2 : ∀ k, k < 4 → g k = g' k) : insB f g = insB f' g' := by
  simp only [insB, h 0 (by decide), h 1 (by decide), h 2 (by decide), h 3 (by decide), h2 0 (by decide), h2 1 (by decide), h2 2 (by decide), h2 3 (by decide)]
theorem apaB_4 {f f' g g' : Fs} (h : ∀ k, k < 4 → f k = f' k) (h2 : ∀ k, k < 4 → g k = g' k) : apaB f g = apaB f' g' := by
  simp only [apaB, h 0 (by decide), h 1 (by decide), h 2 (by decide), h 3 (by decide), h2 0 (by decide), h2 1 (by decide), h2 2 (by decide), h2 3 (by decide)]
theorem fitB_4 {P : Nat → Fs} {f f' : Fs} (h : ∀ k, k < 4 → f k = f' k) : ∀ k, fitB P f k = fitB P f' k
  | 0 => rfl
  | k + 1 => by simp only [fitB, fitB_4 h k, okB, insB_4 h (fun _ _ => rfl), insB_4 (fun _ _ => rfl) h, apaB_4 h (fun _ _ => rfl)]
theorem insB_irr (f : Fs) : insB f f = false := by simp [insB]
theorem RC_int {σ : Sh} {A : Ab} (h : RC σ A) (k : Nat) (v : Int32) (h1 : 1 ≤ k := by decide) : RC (upd σ.1 k v, σ.2) (A.1, upd A.2.1 k v, A.2.2) := by
  refine ⟨h.1, (upd_ne _ _ (by omega)).trans h.told, fun q q1 q2 => ?_, h.2.2.2.1, h.2.2.2.2.1, h.2.2.2.2.2.1, h.2.2.2.2.2.2⟩
  by_cases e : q = k
  · subst e; exact (upd_same _ _ _).trans (upd_same _ _ _).symm
  · exact (upd_ne _ _ e).trans ((h.int q q1 q2).trans (upd_ne _ _ e).symm)
theorem RC_shp {σ : Sh} {A : Ab} (h : RC σ A) {i : Nat} (hi : i < A.1) (k : Nat) (v : Int32) (h1 : 4 ≤ k := by decide) : RC (shpF σ i (upd (σ.2.2.2.1 i) k v)) (A.1, A.2.1, A.2.2.1, A.2.2.2.1, updF A.2.2.2.2 i (upd (A.2.2.2.2 i) k v)) := by
  refine ⟨h.1, h.told, h.2.2.1, h.2.2.2.1, h.2.2.2.2.1, fun q hq z hz => ?_, fun q hq z hz => ?_⟩
  · show updF σ.2.2.2.1 i _ q z = updF A.2.2.2.2 i _ q z
    by_cases e : q = i
    · subst e
      rw [updF_same, updF_same]
      by_cases e2 : z = k
      · subst e2; rw [upd_same, upd_same]
      · rw [upd_ne _ _ e2, upd_ne _ _ e2]; exact h.shp hq z hz
    · rw [updF_ne _ _ e, updF_ne _ _ e]; exact h.shp hq z hz
  · show σ.2.2.2.2 q z = edgQ (updF A.2.2.2.2 i _ q) z
    by_cases e : q = i
    · subst e
      rw [updF_same, h.edg hq z hz]
      exact edgQ_4 (fun y hy => (upd_ne _ _ (by omega)).symm) z
    · rw [updF_ne _ _ e]; exact h.edg hq z hz
theorem RC_cool {σ : Sh} {A : Ab} (h : RC σ A) (x : Int32) : RC (upd σ.1 4 (A.2.1 4 + x), cpF σ.2.1 (fun q => imx (A.2.2.1 q - x * A.2.2.2.1 1) 0) 12, σ.2.2) (coolA A x) := by
  have h1 := RC_int h 4 (A.2.1 4 + x)
  exact ⟨h1.1, h1.2.1, h1.2.2.1, fun k hk => cpF_in σ.2.1 (fun q => imx (A.2.2.1 q - x * A.2.2.2.1 1) 0) hk, h1.2.2.2.2⟩
theorem RC_burn {σ : Sh} {A : Ab} (h : RC σ A) (i : Nat) : RC (upd (upd (upd σ.1 4 (A.2.1 4 + burV A i)) 5 (A.2.1 5 + burV A i)) 3 (A.2.1 3 + 1), cpF σ.2.1 (fun q => A.2.2.1 q + edgQ (A.2.2.2.2 i) q) 12, σ.2.2) (burnA A i) := by
  have h1 := RC_int (RC_int (RC_int h 4 (A.2.1 4 + burV A i)) 5 (A.2.1 5 + burV A i)) 3 (A.2.1 3 + 1)
  exact ⟨h1.1, h1.2.1, h1.2.2.1, fun k hk => cpF_in σ.2.1 (fun q => A.2.2.1 q + edgQ (A.2.2.2.2 i) q) hk, h1.2.2.2.2⟩
def wP (A : Ab) (P : Nat → Fs) : Ab := (A.1, A.2.1, A.2.2.1, A.2.2.2.1, P)
theorem losP_ge (P : Nat → Fs) (f : Fs) {k q : Nat} (h : k ≤ q) : losP P f k q = P q := by simp only [losP, show ¬ q < k by omega, false_and, if_false]
theorem losP_self (P : Nat → Fs) (i k : Nat) : losP P (P i) k i = P i := by simp only [losP, insB_irr, Bool.false_eq_true, and_false, if_false]
theorem losP_no (P : Nat → Fs) (f : Fs) {k : Nat} (h : ¬ (P k 5 = 0 ∧ insB (P k) f = true)) : losP P f (k + 1) = losP P f k := by
  funext q
  by_cases e : q = k
  · subst e
    rw [losP_ge P f (Nat.le_refl _)]
    simp only [losP, show q < q + 1 by omega, true_and, if_neg h]
  · simp only [losP, show q < k + 1 ↔ q < k by omega]
theorem losP_yes (P : Nat → Fs) (f : Fs) {k : Nat} (h1 : P k 5 = 0) (h2 : insB (P k) f = true) : losP P f (k + 1) = updF (losP P f k) k (upd (losP P f k k) 5 2) := by
  funext q
  by_cases e : q = k
  · subst e
    rw [losP_ge P f (Nat.le_refl _), updF_same]
    simp only [losP, show q < q + 1 by omega, true_and, h1, h2, if_true]
  · rw [updF_ne _ _ e]
    simp only [losP, show q < k + 1 ↔ q < k by omega]
theorem losP_0 (P : Nat → Fs) (f : Fs) : losP P f 0 = P := by funext q; exact losP_ge P f (Nat.zero_le _)
theorem besO_why {A : Ab} : ∀ {k q : Nat}, besO A k = some q → whyV A q = 0
  | 0, _, h => by simp [besO] at h
  | k + 1, q, h => by
    simp only [besO] at h
    split at h
    · rename_i hk
      split at h
      · cases h; exact hk
      · rename_i q' hq'
        have := besO_why hq'
        split at h <;> (cases h; assumption)
    · exact besO_why h
theorem cutX_nI {A : Ab} (ht : A.1 ≤ 12) {i : Nat} (hi : i < A.1) (h : whyV A i = 0) : cutX A (nI i) = (cutN A i, cutA A i) := by
  simp only [cutX, knB_nI ht hi, if_true, nI_clamp (show i < 2 ^ 31 by omega), h]
theorem RC_spare {σ : Sh} {A : Ab} (h : RC σ A) (f g : Fs) : RC (edgF (shpF σ A.1 f) A.1 g) A := by
  refine ⟨h.1, h.told, h.2.2.1, h.2.2.2.1, h.2.2.2.2.1, fun q hq z hz => ?_, fun q hq z hz => ?_⟩
  · show updF σ.2.2.2.1 A.1 f q z = _
    rw [updF_ne _ _ (show q ≠ A.1 by omega)]; exact h.shp hq z hz
  · show updF σ.2.2.2.2 A.1 g q z = _
    rw [updF_ne _ _ (show q ≠ A.1 by omega)]; exact h.edg hq z hz
theorem plF_8 (f g : Fs) (c r w h : Int32) : ∀ k, k < 8 → plF f c r w h k = plF g c r w h k := by
  intro k hk
  match k, hk with
  | 0, _ => rfl
  | 1, _ => rfl
  | 2, _ => rfl
  | 3, _ => rfl
  | 4, _ => rfl
  | 5, _ => rfl
  | 6, _ => rfl
  | 7, _ => rfl
theorem RC_add {σ : Sh} {A : Ab} (h : RC σ A) (ht : A.1 < 12) (g g2 f2 : Fs) (c r w hh : Int32) : RC (upd σ.1 0 (nI (A.1 + 1)), (edgF (shpF σ A.1 (plF g c r w hh)) A.1 (eqE g2 (plF g c r w hh) 12)).2) (A.1 + 1, A.2.1, A.2.2.1, A.2.2.2.1, updF A.2.2.2.2 A.1 (plF f2 c r w hh)) := by
  refine ⟨ht, upd_same σ.1 0 _, fun q q1 q2 => (upd_ne σ.1 _ (show q ≠ 0 by omega)).trans (h.int q q1 q2), h.2.2.2.1, h.2.2.2.2.1, fun q hq z hz => ?_, fun q hq z hz => ?_⟩
  · show updF σ.2.2.2.1 A.1 _ q z = updF A.2.2.2.2 A.1 _ q z
    by_cases e : q = A.1
    · subst e; rw [updF_same, updF_same]; exact plF_8 _ _ _ _ _ _ z hz
    · rw [updF_ne _ _ e, updF_ne _ _ e]; exact h.shp (by omega) z hz
  · show updF σ.2.2.2.2 A.1 _ q z = edgQ (updF A.2.2.2.2 A.1 _ q) z
    by_cases e : q = A.1
    · subst e
      rw [updF_same, updF_same]
      show (if z < 12 then edgQ _ z else _) = _
      rw [if_pos hz]
      exact edgQ_4 (fun y hy => plF_8 _ _ _ _ _ _ y (by omega)) z
    · rw [updF_ne _ _ e, updF_ne _ _ e]; exact h.edg (by omega) z hz
section SHEET4
variable {G : GX} {S : Nat → Sh} {B : Bc} {M : Md} {j i : Nat} {σ : Sh}
variable {A : Ab}
set_option maxHeartbeats 4000000 in
set_option maxRecDepth 100000 in
theorem c_X2_coolFor (hj : j < 8) (hR : RC σ A) (x : Int32) : Ct G yX2_coolFor YX2_coolFor 0 0 [.ref (gB G + sB j), .int x] (nN G) (cellOf G (updS S j σ) B M) (RS G (none) S j B M (coolA A x)) := by
  refine ct_of (by decide +kernel) rfl rfl (Nat.le_of_ble_eq_true rfl) (by simp [Value.category]) ?_
  refine x_sub (l' := [(0, .ref (gB G + sB j)), (1, .int x)]) ⟨rfl, rfl, trivial⟩ ?_
  have h12 := hR.le
  have lp : ∀ k, k ≤ 12 → XJ G YX2_coolFor (fun _ => True) (Zx G (RS G (none) S j B M (coolA A x)) 0 0) 12 [(0, .ref (gB G + sB j)), (1, .int x), (2, .int (nI k))] [] (nN G) (cellOf G (updS S j (upd σ.1 4 (A.2.1 4 + x), cpF σ.2.1 (fun q => imx (A.2.2.1 q - x * A.2.2.2.1 1) 0) k, σ.2.2)) B M) 0 0 := by
    refine loopD (12) ?_
    intro k hk ih
    refine x_iload_n (pc := 12) dX2_coolFor_12 rfl ?_
    refine x_bipush (pc := 13) (12) dX2_coolFor_13 (by decide) ?_
    refine x_cmpge (pc := 15) 49 dX2_coolFor_15 (by decide) (fun c15 => ?_) (fun c15 => ?_)
    · obtain rfl : k = 12 := by have := mt (lt_lit (n := 12) rfl (by decide) (by omega)).mpr c15; omega
      exact x_vret rfl dX2_coolFor_49 ⟨_, rfl, rfl, rfl, RC_cool hR x⟩
    · have hkn : k < 12 := (lt_lit rfl (by decide) (by omega)).mp c15
      refine x_aload_n (pc := 18) dX2_coolFor_18 rfl ?_
      refine x_get (pc := 19) (ci := 2) (k := 1) (C := RX2) (T := TX2) (N := 10) (cell_sheet (by first | assumption | omega)) rfl (sB_255 (by first | assumption | omega)) rfl nX2 (by decide) mF_X2_18 rfl dX2_coolFor_19 ?_
      refine x_iload_n (pc := 22) dX2_coolFor_22 rfl ?_
      refine x_aload_n (pc := 23) dX2_coolFor_23 rfl ?_
      refine x_get (pc := 24) (ci := 2) (k := 1) (C := RX2) (T := TX2) (N := 10) (cell_sheet (by first | assumption | omega)) rfl (sB_255 (by first | assumption | omega)) rfl nX2 (by decide) mF_X2_18 rfl dX2_coolFor_24 ?_
      refine x_iload_n (pc := 27) dX2_coolFor_27 rfl ?_
      refine t_ild (pc := 28) _ (cell_heats (by first | assumption | omega)) (htO_255 (by first | assumption | omega)) rfl (by first | assumption | omega) (by decide) dX2_coolFor_28 ?_
      try dsimp only
      rw [cpF_at, hR.heat _ hkn]
      refine x_iload_n (pc := 29) dX2_coolFor_29 rfl ?_
      refine x_aload_n (pc := 30) dX2_coolFor_30 rfl ?_
      refine x_get (pc := 31) (ci := 2) (k := 2) (C := RX2) (T := TX2) (N := 10) (cell_sheet (by first | assumption | omega)) rfl (sB_255 (by first | assumption | omega)) rfl nX2 (by decide) mF_X2_22 rfl dX2_coolFor_31 ?_
      refine x_iconst (pc := 34) (1) dX2_coolFor_34 (by decide) ?_
      refine t_ild (pc := 35) 1 (cell_sets (by first | assumption | omega)) (stO_255 (by first | assumption | omega)) rfl (by decide) (by decide) dX2_coolFor_35 ?_
      try dsimp only
      rw [hR.sett 1]
      refine x_imul (pc := 36) dX2_coolFor_36 ?_
      refine x_isub (pc := 37) dX2_coolFor_37 ?_
      refine x_iconst (pc := 38) (0) dX2_coolFor_38 (by decide) ?_
      refine x_max (pc := 39) mL_X2_131 (by decide) (Nat.le_of_ble_eq_true rfl) (Nat.le_of_ble_eq_true rfl) (Nat.le_of_ble_eq_true rfl) dX2_coolFor_39 ?_
      refine t_stHeats (pc := 42) (by first | assumption | omega) _ (by first | assumption | omega) rfl dX2_coolFor_42 ?_
      try dsimp only
      refine x_iinc (pc := 43) (nI (k + 1)) dX2_coolFor_43 rfl (iinc_nI k) (by decide) ?_
      refine x_goto (pc := 46) 12 dX2_coolFor_46 (by decide) ?_
      have e := ih hkn
      rw [← cpF_s _ _ k] at e
      exact x_back e ⟨rfl, rfl, rfl, trivial⟩
  refine x_aload_n (pc := 0) dX2_coolFor_0 rfl ?_
  refine x_dup (pc := 1) dX2_coolFor_1 rfl ?_
  refine x_get (pc := 2) (ci := 2) (k := 7) (C := RX2) (T := TX2) (N := 10) (cell_sheet (by first | assumption | omega)) rfl (sB_255 (by first | assumption | omega)) rfl nX2 (by decide) mF_X2_38 rfl dX2_coolFor_2 ?_
  rw [hR.int 4]
  refine x_iload_n (pc := 5) dX2_coolFor_5 rfl ?_
  refine x_iadd (pc := 6) dX2_coolFor_6 ?_
  refine t_putSh (pc := 7) (by first | assumption | omega) 4 (by decide) mF_X2_38 dX2_coolFor_7 ?_
  try dsimp only
  refine x_iconst (pc := 10) (0) dX2_coolFor_10 (by decide) ?_
  refine x_istore_n (pc := 11) dX2_coolFor_11 (by decide) ?_
  have e := lp 0 (by omega)
  rw [cpF_0] at e
  exact x_back e ⟨rfl, rfl, rfl, trivial⟩
set_option maxHeartbeats 4000000 in
set_option maxRecDepth 100000 in
theorem c_X2_burnEdge (hj : j < 8) (hR : RC σ A) (hi : i < A.1) : Ct G yX2_burnEdge YX2_burnEdge 0 0 [.ref (gB G + sB j), .ref (gB G + shO j i)] (nN G) (cellOf G (updS S j σ) B M) (RS G (none) S j B M (burnA A i)) := by
  refine ct_of (by decide +kernel) rfl rfl (Nat.le_of_ble_eq_true rfl) (by simp [Value.category]) ?_
  refine x_sub (l' := [(0, .ref (gB G + sB j)), (1, .ref (gB G + shO j i))]) ⟨rfl, rfl, trivial⟩ ?_
  have h12 := hR.le
  have lp : ∀ k, k ≤ 12 → XJ G YX2_burnEdge (fun _ => True) (Zx G (RS G (none) S j B M (burnA A i)) 0 0) 28 [(0, .ref (gB G + sB j)), (1, .ref (gB G + shO j i)), (3, .int (nI k))] [] (nN G) (cellOf G (updS S j (upd (upd σ.1 4 (A.2.1 4 + burV A i)) 5 (A.2.1 5 + burV A i), cpF σ.2.1 (fun q => A.2.2.1 q + edgQ (A.2.2.2.2 i) q) k, σ.2.2)) B M) 0 0 := by
    refine loopD (12) ?_
    intro k hk ih
    refine x_iload_n (pc := 28) dX2_burnEdge_28 rfl ?_
    refine x_bipush (pc := 29) (12) dX2_burnEdge_29 (by decide) ?_
    refine x_cmpge (pc := 31) 55 dX2_burnEdge_31 (by decide) (fun c31 => ?_) (fun c31 => ?_)
    · obtain rfl : k = 12 := by have := mt (lt_lit (n := 12) rfl (by decide) (by omega)).mpr c31; omega
      refine x_aload_n (pc := 55) dX2_burnEdge_55 rfl ?_
      refine x_dup (pc := 56) dX2_burnEdge_56 rfl ?_
      refine x_get (pc := 57) (ci := 2) (k := 6) (C := RX2) (T := TX2) (N := 10) (cell_sheet (by first | assumption | omega)) rfl (sB_255 (by first | assumption | omega)) rfl nX2 (by decide) mF_X2_35 rfl dX2_burnEdge_57 ?_
      try dsimp only
      rw [upd_ne _ _ (show 3 ≠ 5 by decide), upd_ne _ _ (show 3 ≠ 4 by decide), hR.int 3]
      refine x_iconst (pc := 60) (1) dX2_burnEdge_60 (by decide) ?_
      refine x_iadd (pc := 61) dX2_burnEdge_61 ?_
      refine t_putSh (pc := 62) (by first | assumption | omega) 3 (by decide) mF_X2_35 dX2_burnEdge_62 ?_
      try dsimp only
      exact x_vret rfl dX2_burnEdge_65 ⟨_, rfl, rfl, rfl, RC_burn hR i⟩
    · have hkn : k < 12 := (lt_lit rfl (by decide) (by omega)).mp c31
      refine x_aload_n (pc := 34) dX2_burnEdge_34 rfl ?_
      refine x_get (pc := 35) (ci := 2) (k := 1) (C := RX2) (T := TX2) (N := 10) (cell_sheet (by first | assumption | omega)) rfl (sB_255 (by first | assumption | omega)) rfl nX2 (by decide) mF_X2_18 rfl dX2_burnEdge_35 ?_
      refine x_iload_n (pc := 38) dX2_burnEdge_38 rfl ?_
      refine x_dup2 (pc := 39) dX2_burnEdge_39 rfl rfl ?_
      refine t_ild (pc := 40) _ (cell_heats (by first | assumption | omega)) (htO_255 (by first | assumption | omega)) rfl (by first | assumption | omega) (by decide) dX2_burnEdge_40 ?_
      try dsimp only
      rw [cpF_at, hR.heat _ hkn]
      refine x_aload_n (pc := 41) dX2_burnEdge_41 rfl ?_
      refine x_get (pc := 42) (ci := 1) (k := 8) (C := RX1) (T := TX1) (N := 9) (cell_shape (by first | assumption | omega) (by first | assumption | omega)) rfl (shO_255 (by first | assumption | omega) (by first | assumption | omega)) rfl nX1 (by decide) mF_X2_128 rfl dX2_burnEdge_42 ?_
      refine x_iload_n (pc := 45) dX2_burnEdge_45 rfl ?_
      refine t_ild (pc := 46) _ (cell_edge (by first | assumption | omega) (by first | assumption | omega)) (egO_255 (by first | assumption | omega) (by first | assumption | omega)) rfl (by first | assumption | omega) (by decide) dX2_burnEdge_46 ?_
      try dsimp only
      rw [hR.edg hi _ hkn]
      refine x_iadd (pc := 47) dX2_burnEdge_47 ?_
      refine t_stHeats (pc := 48) (by first | assumption | omega) _ (by first | assumption | omega) rfl dX2_burnEdge_48 ?_
      try dsimp only
      refine x_iinc (pc := 49) (nI (k + 1)) dX2_burnEdge_49 rfl (iinc_nI k) (by decide) ?_
      refine x_goto (pc := 52) 28 dX2_burnEdge_52 (by decide) ?_
      have e := ih hkn
      rw [← cpF_s _ _ k] at e
      exact x_back e ⟨rfl, rfl, rfl, trivial⟩
  refine x_aload_n (pc := 0) dX2_burnEdge_0 rfl ?_
  refine x_aload_n (pc := 1) dX2_burnEdge_1 rfl ?_
  refine t_Vi (pc := 2) (c_X2_burningOf (by first | assumption | omega) hR (by first | assumption | omega)) qV_X2_burningOf mL_X2_125 dX2_burnEdge_2 rfl (cell_sheet (by first | assumption | omega)) (sB_255 (by first | assumption | omega)) rfl rfl rfl ⟨by decide, by decide⟩ (Nat.le_of_ble_eq_true rfl) (Nat.le_of_ble_eq_true rfl) (Nat.le_of_ble_eq_true rfl) ?_
  refine x_istore_n (pc := 5) dX2_burnEdge_5 (by decide) ?_
  refine x_aload_n (pc := 6) dX2_burnEdge_6 rfl ?_
  refine x_dup (pc := 7) dX2_burnEdge_7 rfl ?_
  refine x_get (pc := 8) (ci := 2) (k := 7) (C := RX2) (T := TX2) (N := 10) (cell_sheet (by first | assumption | omega)) rfl (sB_255 (by first | assumption | omega)) rfl nX2 (by decide) mF_X2_38 rfl dX2_burnEdge_8 ?_
  rw [hR.int 4]
  refine x_iload_n (pc := 11) dX2_burnEdge_11 rfl ?_
  refine x_iadd (pc := 12) dX2_burnEdge_12 ?_
  refine t_putSh (pc := 13) (by first | assumption | omega) 4 (by decide) mF_X2_38 dX2_burnEdge_13 ?_
  try dsimp only
  refine x_aload_n (pc := 16) dX2_burnEdge_16 rfl ?_
  refine x_dup (pc := 17) dX2_burnEdge_17 rfl ?_
  refine x_get (pc := 18) (ci := 2) (k := 8) (C := RX2) (T := TX2) (N := 10) (cell_sheet (by first | assumption | omega)) rfl (sB_255 (by first | assumption | omega)) rfl nX2 (by decide) mF_X2_41 rfl dX2_burnEdge_18 ?_
  try dsimp only
  rw [upd_ne _ _ (show 5 ≠ 4 by decide), hR.int 5]
  refine x_iload_n (pc := 21) dX2_burnEdge_21 rfl ?_
  refine x_iadd (pc := 22) dX2_burnEdge_22 ?_
  refine t_putSh (pc := 23) (by first | assumption | omega) 5 (by decide) mF_X2_41 dX2_burnEdge_23 ?_
  try dsimp only
  refine x_iconst (pc := 26) (0) dX2_burnEdge_26 (by decide) ?_
  refine x_istore_n (pc := 27) dX2_burnEdge_27 (by decide) ?_
  have e := lp 0 (by omega)
  rw [cpF_0] at e
  exact x_back e ⟨rfl, rfl, rfl, trivial⟩
set_option maxHeartbeats 4000000 in
set_option maxRecDepth 100000 in
theorem c_X2_loseShapesInside (hj : j < 8) (hR : RC σ A) (hi : i < A.1) : Ct G yX2_loseShapesInside YX2_loseShapesInside 0 0 [.ref (gB G + sB j), .ref (gB G + shO j i)] (nN G) (cellOf G (updS S j σ) B M) (RS G (some (.int (losN A.2.2.2.2 (A.2.2.2.2 i) A.1))) S j B M (losA A i)) := by
  refine ct_of (by decide +kernel) rfl rfl (Nat.le_of_ble_eq_true rfl) (by simp [Value.category]) ?_
  refine x_sub (l' := [(0, .ref (gB G + sB j)), (1, .ref (gB G + shO j i))]) ⟨rfl, rfl, trivial⟩ ?_
  have h12 := hR.le
  have lp : ∀ k, k ≤ A.1 → ∀ τ : Sh, RC τ (wP A (losP A.2.2.2.2 (A.2.2.2.2 i) k)) → XJ G YX2_loseShapesInside (fun _ => True) (Zx G (RS G (some (.int (losN A.2.2.2.2 (A.2.2.2.2 i) A.1))) S j B M (losA A i)) 0 0) 4 [(0, .ref (gB G + sB j)), (1, .ref (gB G + shO j i)), (2, .int (losN A.2.2.2.2 (A.2.2.2.2 i) k)), (3, .int (nI k))] [] (nN G) (cellOf G (updS S j τ) B M) 0 0 := by
    refine loopD (A.1) ?_
    intro k hk ih τ hT
    refine x_iload_n (pc := 4) dX2_loseShapesInside_4 rfl ?_
    refine x_aload_n (pc := 5) dX2_loseShapesInside_5 rfl ?_
    refine x_get (pc := 6) (ci := 2) (k := 3) (C := RX2) (T := TX2) (N := 10) (cell_sheet (by first | assumption | omega)) rfl (sB_255 (by first | assumption | omega)) rfl nX2 (by decide) mF_X2_25 rfl dX2_loseShapesInside_6 ?_
    rw [hT.told]
    show XJ _ _ _ _ _ _ (.int (nI A.1) :: _) _ _ _ _
    refine x_cmpge (pc := 9) 52 dX2_loseShapesInside_9 (by decide) (fun c9 => ?_) (fun c9 => ?_)
    · obtain rfl : k = A.1 := by have := mt (tl_iff hR.le hk).mpr c9; omega
      refine x_iload_n (pc := 52) dX2_loseShapesInside_52 rfl ?_
      exact x_iret rfl dX2_loseShapesInside_53 ⟨τ, rfl, rfl, rfl, hT⟩
    · have hkn : k < A.1 := (tl_iff hR.le hk).mp c9
      refine x_aload_n (pc := 12) dX2_loseShapesInside_12 rfl ?_
      refine x_get (pc := 13) (ci := 2) (k := 0) (C := RX2) (T := TX2) (N := 10) (cell_sheet (by first | assumption | omega)) rfl (sB_255 (by first | assumption | omega)) rfl nX2 (by decide) mF_X2_13 rfl dX2_loseShapesInside_13 ?_
      refine x_iload_n (pc := 16) dX2_loseShapesInside_16 rfl ?_
      refine t_shapes (pc := 17) _ (by first | assumption | omega) rfl (by first | assumption | omega) dX2_loseShapesInside_17 ?_
      refine x_astore (pc := 18) dX2_loseShapesInside_18 (by decide) ?_
      refine x_aload (pc := 20) dX2_loseShapesInside_20 rfl ?_
      refine x_get (pc := 22) (ci := 1) (k := 5) (C := RX1) (T := TX1) (N := 9) (cell_shape (by first | assumption | omega) (by first | assumption | omega)) rfl (shO_255 (by first | assumption | omega) (by first | assumption | omega)) rfl nX1 (by decide) mF_X2_66 rfl dX2_loseShapesInside_22 ?_
      rw [hT.shp hkn 5]
      simp only [wP, losP_ge _ _ (Nat.le_refl k)]
      refine x_ifne (pc := 25) 46 dX2_loseShapesInside_25 (by decide) (fun c25 => ?_) (fun c25 => ?_)
      · refine x_iinc (pc := 46) (nI (k + 1)) dX2_loseShapesInside_46 rfl (iinc_nI k) (by decide) ?_
        refine x_goto (pc := 49) 4 dX2_loseShapesInside_49 (by decide) ?_
        first
        | (have hn : ¬ (A.2.2.2.2 k 5 = 0 ∧ insB (A.2.2.2.2 k) (A.2.2.2.2 i) = true) := fun z => c25 z.1
           have e := ih hkn τ (by rw [losP_no _ _ hn]; exact hT)
           simp only [losN, if_neg hn] at e
           exact x_back e ⟨rfl, rfl, rfl, rfl, trivial⟩)
        | (have hb := b01_eq c34
           have hn : ¬ (A.2.2.2.2 k 5 = 0 ∧ insB (A.2.2.2.2 k) (A.2.2.2.2 i) = true) := fun z => by rw [hb] at z; cases z.2
           have e := ih hkn τ (by rw [losP_no _ _ hn]; exact hT)
           simp only [losN, if_neg hn] at e
           exact x_back e ⟨rfl, rfl, rfl, rfl, trivial⟩)
        | (have hb := b01_ne c34
           have e := ih hkn _ (by rw [losP_yes _ _ c25 hb]; exact RC_shp hT hkn 5 2)
           simp only [losN, if_pos (And.intro c25 hb)] at e
           exact x_back e ⟨rfl, rfl, rfl, rfl, trivial⟩)
      · refine x_aload (pc := 28) dX2_loseShapesInside_28 rfl ?_
        refine x_aload_n (pc := 30) dX2_loseShapesInside_30 rfl ?_
        refine t_Vi (pc := 31) (c_X1_isInside (i := k) (i2 := i) (σ := τ) (by first | assumption | omega) (by first | assumption | omega) (by first | assumption | omega)) qV_X1_isInside mL_X2_63 dX2_loseShapesInside_31 rfl (cell_shape (by first | assumption | omega) (by first | assumption | omega)) (shO_255 (by first | assumption | omega) (by first | assumption | omega)) rfl rfl rfl ⟨by decide, by decide⟩ (Nat.le_of_ble_eq_true rfl) (Nat.le_of_ble_eq_true rfl) (Nat.le_of_ble_eq_true rfl) ?_
        rw [hT.ins hkn hi]
        simp only [wP, losP_ge _ _ (Nat.le_refl k), losP_self]
        refine x_ifeq (pc := 34) 46 dX2_loseShapesInside_34 (by decide) (fun c34 => ?_) (fun c34 => ?_)
        · refine x_iinc (pc := 46) (nI (k + 1)) dX2_loseShapesInside_46 rfl (iinc_nI k) (by decide) ?_
          refine x_goto (pc := 49) 4 dX2_loseShapesInside_49 (by decide) ?_
          first
          | (have hn : ¬ (A.2.2.2.2 k 5 = 0 ∧ insB (A.2.2.2.2 k) (A.2.2.2.2 i) = true) := fun z => c25 z.1
             have e := ih hkn τ (by rw [losP_no _ _ hn]; exact hT)
             simp only [losN, if_neg hn] at e
             exact x_back e ⟨rfl, rfl, rfl, rfl, trivial⟩)
          | (have hb := b01_eq c34
             have hn : ¬ (A.2.2.2.2 k 5 = 0 ∧ insB (A.2.2.2.2 k) (A.2.2.2.2 i) = true) := fun z => by rw [hb] at z; cases z.2
             have e := ih hkn τ (by rw [losP_no _ _ hn]; exact hT)
             simp only [losN, if_neg hn] at e
             exact x_back e ⟨rfl, rfl, rfl, rfl, trivial⟩)
          | (have hb := b01_ne c34
             have e := ih hkn _ (by rw [losP_yes _ _ c25 hb]; exact RC_shp hT hkn 5 2)
             simp only [losN, if_pos (And.intro c25 hb)] at e
             exact x_back e ⟨rfl, rfl, rfl, rfl, trivial⟩)
        · refine x_aload (pc := 37) dX2_loseShapesInside_37 rfl ?_
          refine x_iconst (pc := 39) (2) dX2_loseShapesInside_39 (by decide) ?_
          refine t_putShape (pc := 40) (by first | assumption | omega) (by first | assumption | omega) 5 (by decide) mF_X2_66 dX2_loseShapesInside_40 ?_
          try dsimp only
          refine x_iinc (pc := 43) (_ + (1)) dX2_loseShapesInside_43 rfl rfl (by decide) ?_
          refine x_iinc (pc := 46) (nI (k + 1)) dX2_loseShapesInside_46 rfl (iinc_nI k) (by decide) ?_
          refine x_goto (pc := 49) 4 dX2_loseShapesInside_49 (by decide) ?_
          first
          | (have hn : ¬ (A.2.2.2.2 k 5 = 0 ∧ insB (A.2.2.2.2 k) (A.2.2.2.2 i) = true) := fun z => c25 z.1
             have e := ih hkn τ (by rw [losP_no _ _ hn]; exact hT)
             simp only [losN, if_neg hn] at e
             exact x_back e ⟨rfl, rfl, rfl, rfl, trivial⟩)
          | (have hb := b01_eq c34
             have hn : ¬ (A.2.2.2.2 k 5 = 0 ∧ insB (A.2.2.2.2 k) (A.2.2.2.2 i) = true) := fun z => by rw [hb] at z; cases z.2
             have e := ih hkn τ (by rw [losP_no _ _ hn]; exact hT)
             simp only [losN, if_neg hn] at e
             exact x_back e ⟨rfl, rfl, rfl, rfl, trivial⟩)
          | (have hb := b01_ne c34
             have e := ih hkn _ (by rw [losP_yes _ _ c25 hb]; exact RC_shp hT hkn 5 2)
             simp only [losN, if_pos (And.intro c25 hb)] at e
             exact x_back e ⟨rfl, rfl, rfl, rfl, trivial⟩)
  refine x_iconst (pc := 0) (0) dX2_loseShapesInside_0 (by decide) ?_
  refine x_istore_n (pc := 1) dX2_loseShapesInside_1 (by decide) ?_
  refine x_iconst (pc := 2) (0) dX2_loseShapesInside_2 (by decide) ?_
  refine x_istore_n (pc := 3) dX2_loseShapesInside_3 (by decide) ?_
  exact x_back (lp 0 (by omega) σ (by rw [losP_0]; exact hR)) ⟨rfl, rfl, rfl, rfl, trivial⟩
set_option maxHeartbeats 4000000 in
set_option maxRecDepth 100000 in
theorem c_X2_waitFor (hj : j < 8) (hR : RC σ A) (v : Int32) : Ct G yX2_waitFor YX2_waitFor 0 0 [.ref (gB G + sB j), .int v] (nN G) (cellOf G (updS S j σ) B M) (RS G (some (.int (waitX A v).1)) S j B M ((waitX A v).2)) := by
  refine ct_of (by decide +kernel) rfl rfl (Nat.le_of_ble_eq_true rfl) (by simp [Value.category]) ?_
  refine x_sub (l' := [(0, .ref (gB G + sB j)), (1, .int v)]) ⟨rfl, rfl, trivial⟩ ?_
  have h12 := hR.le
  refine x_iload_n (pc := 0) dX2_waitFor_0 rfl ?_
  refine x_iconst (pc := 1) (1) dX2_waitFor_1 (by decide) ?_
  refine x_sipush (pc := 2) (999) dX2_waitFor_2 (by decide) ?_
  refine t_Ni (pc := 5) (c_X3_isIn _ _ _) qS_X3_isIn (fun s h => h.2.2.2) dX2_waitFor_5 rfl rfl rfl ⟨by decide, by decide⟩ (Nat.le_of_ble_eq_true rfl) (Nat.le_of_ble_eq_true rfl) (Nat.le_of_ble_eq_true rfl) ?_
  refine x_ifne (pc := 8) 14 dX2_waitFor_8 (by decide) (fun c8 => ?_) (fun c8 => ?_)
  · refine x_aload_n (pc := 14) dX2_waitFor_14 rfl ?_
    refine x_iload_n (pc := 15) dX2_waitFor_15 rfl ?_
    refine e_Vv (pc := 16) (c_X2_coolFor (by first | assumption | omega) hR _) qV_X2_coolFor mL_X2_93 dX2_waitFor_16 rfl (cell_sheet (by first | assumption | omega)) (sB_255 (by first | assumption | omega)) rfl rfl rfl ⟨by decide, by decide⟩ (Nat.le_of_ble_eq_true rfl) (Nat.le_of_ble_eq_true rfl) (Nat.le_of_ble_eq_true rfl) ?_
    intro σ1 R1
    refine x_aload_n (pc := 19) dX2_waitFor_19 rfl ?_
    refine t_Vi (pc := 20) (c_X2_greatestHeat (by first | assumption | omega) R1) qV_X2_greatestHeat mL_X2_116 dX2_waitFor_20 rfl (cell_sheet (by first | assumption | omega)) (sB_255 (by first | assumption | omega)) rfl rfl rfl ⟨by decide, by decide⟩ (Nat.le_of_ble_eq_true rfl) (Nat.le_of_ble_eq_true rfl) (Nat.le_of_ble_eq_true rfl) ?_
    have t := b01_ne c8
    exact x_iret rfl dX2_waitFor_23 ⟨σ1, by simp only [waitX, t, if_true], rfl, rfl, by simp only [waitX, t, if_true]; exact R1⟩
  · refine x_bipush (pc := 11) (-2) dX2_waitFor_11 (by decide) ?_
    have t := b01_eq c8
    exact x_iret rfl dX2_waitFor_13 ⟨σ, by simp only [waitX, t, Bool.false_eq_true, if_false], rfl, rfl, by simp only [waitX, t, Bool.false_eq_true, if_false]; exact hR⟩
set_option maxHeartbeats 4000000 in
set_option maxRecDepth 100000 in
theorem c_X2_cleanLens (hj : j < 8) (hR : RC σ A) : Ct G yX2_cleanLens YX2_cleanLens 0 0 [.ref (gB G + sB j)] (nN G) (cellOf G (updS S j σ) B M) (RS G (some (.int (cleanX A).1)) S j B M ((cleanX A).2)) := by
  refine ct_of (by decide +kernel) rfl rfl (Nat.le_of_ble_eq_true rfl) (by simp [Value.category]) ?_
  refine x_sub (l' := [(0, .ref (gB G + sB j))]) ⟨rfl, trivial⟩ ?_
  have h12 := hR.le
  refine x_aload_n (pc := 0) dX2_cleanLens_0 rfl ?_
  refine x_get (pc := 1) (ci := 2) (k := 6) (C := RX2) (T := TX2) (N := 10) (cell_sheet (by first | assumption | omega)) rfl (sB_255 (by first | assumption | omega)) rfl nX2 (by decide) mF_X2_35 rfl dX2_cleanLens_1 ?_
  rw [hR.int 3]
  refine x_ifne (pc := 4) 10 dX2_cleanLens_4 (by decide) (fun c4 => ?_) (fun c4 => ?_)
  · refine x_aload_n (pc := 10) dX2_cleanLens_10 rfl ?_
    refine x_get (pc := 11) (ci := 2) (k := 6) (C := RX2) (T := TX2) (N := 10) (cell_sheet (by first | assumption | omega)) rfl (sB_255 (by first | assumption | omega)) rfl nX2 (by decide) mF_X2_35 rfl dX2_cleanLens_11 ?_
    rw [hR.int 3]
    refine x_istore_n (pc := 14) dX2_cleanLens_14 (by decide) ?_
    refine x_aload_n (pc := 15) dX2_cleanLens_15 rfl ?_
    refine x_aload_n (pc := 16) dX2_cleanLens_16 rfl ?_
    refine x_get (pc := 17) (ci := 2) (k := 2) (C := RX2) (T := TX2) (N := 10) (cell_sheet (by first | assumption | omega)) rfl (sB_255 (by first | assumption | omega)) rfl nX2 (by decide) mF_X2_22 rfl dX2_cleanLens_17 ?_
    refine x_iconst (pc := 20) (0) dX2_cleanLens_20 (by decide) ?_
    refine t_ild (pc := 21) 0 (cell_sets (by first | assumption | omega)) (stO_255 (by first | assumption | omega)) rfl (by decide) (by decide) dX2_cleanLens_21 ?_
    rw [hR.sett _ (by decide)]
    refine e_Vv (pc := 22) (c_X2_coolFor (by first | assumption | omega) hR _) qV_X2_coolFor mL_X2_93 dX2_cleanLens_22 rfl (cell_sheet (by first | assumption | omega)) (sB_255 (by first | assumption | omega)) rfl rfl rfl ⟨by decide, by decide⟩ (Nat.le_of_ble_eq_true rfl) (Nat.le_of_ble_eq_true rfl) (Nat.le_of_ble_eq_true rfl) ?_
    intro σ1 R1
    refine x_aload_n (pc := 25) dX2_cleanLens_25 rfl ?_
    refine x_iconst (pc := 26) (0) dX2_cleanLens_26 (by decide) ?_
    refine t_putSh (pc := 27) (by first | assumption | omega) 3 (by decide) mF_X2_35 dX2_cleanLens_27 ?_
    try dsimp only
    refine x_iload_n (pc := 30) dX2_cleanLens_30 rfl ?_
    exact x_iret rfl dX2_cleanLens_31 ⟨_, by simp only [cleanX, if_neg c4], rfl, rfl, by simp only [cleanX, if_neg c4]; exact RC_int R1 3 0⟩
  · refine x_bipush (pc := 7) (-5) dX2_cleanLens_7 (by decide) ?_
    exact x_iret rfl dX2_cleanLens_9 ⟨σ, by simp only [cleanX, if_pos c4], rfl, rfl, by simp only [cleanX, if_pos c4]; exact hR⟩
set_option maxHeartbeats 4000000 in
set_option maxRecDepth 100000 in
theorem c_X2_changeLead (hj : j < 8) (hR : RC σ A) (v c : Int32) : Ct G yX2_changeLead YX2_changeLead 0 0 [.ref (gB G + sB j), .int v, .int c] (nN G) (cellOf G (updS S j σ) B M) (RS G (some (.int (leadX A v c).1)) S j B M ((leadX A v c).2)) := by
  refine ct_of (by decide +kernel) rfl rfl (Nat.le_of_ble_eq_true rfl) (by simp [Value.category]) ?_
  refine x_sub (l' := [(0, .ref (gB G + sB j)), (1, .int v), (2, .int c)]) ⟨rfl, rfl, rfl, trivial⟩ ?_
  have h12 := hR.le
  refine x_aload_n (pc := 0) dX2_changeLead_0 rfl ?_
  refine x_iload_n (pc := 1) dX2_changeLead_1 rfl ?_
  refine t_Vi (pc := 2) (c_X2_knows (by first | assumption | omega) hR _) qV_X2_knows mL_X2_72 dX2_changeLead_2 rfl (cell_sheet (by first | assumption | omega)) (sB_255 (by first | assumption | omega)) rfl rfl rfl ⟨by decide, by decide⟩ (Nat.le_of_ble_eq_true rfl) (Nat.le_of_ble_eq_true rfl) (Nat.le_of_ble_eq_true rfl) ?_
  refine x_ifeq (pc := 5) 17 dX2_changeLead_5 (by decide) (fun c5 => ?_) (fun c5 => ?_)
  · refine x_iconst (pc := 17) (-1) dX2_changeLead_17 (by decide) ?_
    have tt : (knB A v && betw c 0 3) = false := by
      first
      | (have t := b01_eq c5; rw [t]; rfl)
      | (have t := b01_eq c14; rw [t]; exact Bool.and_false _)
    exact x_iret rfl dX2_changeLead_18 ⟨σ, by simp only [leadX, tt, Bool.false_eq_true, if_false], rfl, rfl, by simp only [leadX, tt, Bool.false_eq_true, if_false]; exact hR⟩
  · refine x_iload_n (pc := 8) dX2_changeLead_8 rfl ?_
    refine x_iconst (pc := 9) (0) dX2_changeLead_9 (by decide) ?_
    refine x_iconst (pc := 10) (3) dX2_changeLead_10 (by decide) ?_
    refine t_Ni (pc := 11) (c_X3_isIn _ _ _) qS_X3_isIn (fun s h => h.2.2.2) dX2_changeLead_11 rfl rfl rfl ⟨by decide, by decide⟩ (Nat.le_of_ble_eq_true rfl) (Nat.le_of_ble_eq_true rfl) (Nat.le_of_ble_eq_true rfl) ?_
    refine x_ifne (pc := 14) 19 dX2_changeLead_14 (by decide) (fun c14 => ?_) (fun c14 => ?_)
    · have t1 := b01_ne c5
      have t2 := b01_ne c14
      obtain ⟨i, hi, rfl, hcl⟩ := knB_some hR.le t1
      refine x_aload_n (pc := 19) dX2_changeLead_19 rfl ?_
      refine x_get (pc := 20) (ci := 2) (k := 0) (C := RX2) (T := TX2) (N := 10) (cell_sheet (by first | assumption | omega)) rfl (sB_255 (by first | assumption | omega)) rfl nX2 (by decide) mF_X2_13 rfl dX2_changeLead_20 ?_
      refine x_iload_n (pc := 23) dX2_changeLead_23 rfl ?_
      refine t_shapes (pc := 24) _ (by first | assumption | omega) rfl (by first | assumption | omega) dX2_changeLead_24 ?_
      refine x_astore_n (pc := 25) dX2_changeLead_25 (by decide) ?_
      refine x_aload_n (pc := 26) dX2_changeLead_26 rfl ?_
      refine x_get (pc := 27) (ci := 1) (k := 5) (C := RX1) (T := TX1) (N := 9) (cell_shape (by first | assumption | omega) (by first | assumption | omega)) rfl (shO_255 (by first | assumption | omega) (by first | assumption | omega)) rfl nX1 (by decide) mF_X2_66 rfl dX2_changeLead_27 ?_
      rw [hR.shp (by first | assumption | omega) 5]
      refine x_ifeq (pc := 30) 36 dX2_changeLead_30 (by decide) (fun c30 => ?_) (fun c30 => ?_)
      · refine x_aload_n (pc := 36) dX2_changeLead_36 rfl ?_
        refine x_get (pc := 37) (ci := 1) (k := 4) (C := RX1) (T := TX1) (N := 9) (cell_shape (by first | assumption | omega) (by first | assumption | omega)) rfl (shO_255 (by first | assumption | omega) (by first | assumption | omega)) rfl nX1 (by decide) mF_X2_76 rfl dX2_changeLead_37 ?_
        rw [hR.shp (by first | assumption | omega) 4]
        refine x_iload_n (pc := 40) dX2_changeLead_40 rfl ?_
        refine x_cmpne (pc := 41) 47 dX2_changeLead_41 (by decide) (fun c41 => ?_) (fun c41 => ?_)
        · refine x_aload_n (pc := 47) dX2_changeLead_47 rfl ?_
          refine x_get (pc := 48) (ci := 1) (k := 4) (C := RX1) (T := TX1) (N := 9) (cell_shape (by first | assumption | omega) (by first | assumption | omega)) rfl (shO_255 (by first | assumption | omega) (by first | assumption | omega)) rfl nX1 (by decide) mF_X2_76 rfl dX2_changeLead_48 ?_
          rw [hR.shp (by first | assumption | omega) 4]
          refine x_istore (pc := 51) dX2_changeLead_51 (by decide) ?_
          refine x_aload_n (pc := 53) dX2_changeLead_53 rfl ?_
          refine x_iload_n (pc := 54) dX2_changeLead_54 rfl ?_
          refine t_putShape (pc := 55) (by first | assumption | omega) (by first | assumption | omega) 4 (by decide) mF_X2_76 dX2_changeLead_55 ?_
          try dsimp only
          refine x_iload (pc := 58) dX2_changeLead_58 rfl ?_
          exact x_iret rfl dX2_changeLead_60 ⟨_, by simp only [leadX, t1, t2, Bool.and_self, if_true, hcl, if_pos c30, if_neg c41], rfl, rfl, by simp only [leadX, t1, t2, Bool.and_self, if_true, hcl, if_pos c30, if_neg c41]; exact RC_shp hR hi 4 c⟩
        · refine x_bipush (pc := 44) (-5) dX2_changeLead_44 (by decide) ?_
          exact x_iret rfl dX2_changeLead_46 ⟨σ, by simp only [leadX, t1, t2, Bool.and_self, if_true, hcl, if_pos c30, if_pos c41], rfl, rfl, by simp only [leadX, t1, t2, Bool.and_self, if_true, hcl, if_pos c30, if_pos c41]; exact hR⟩
      · refine x_bipush (pc := 33) (-4) dX2_changeLead_33 (by decide) ?_
        exact x_iret rfl dX2_changeLead_35 ⟨σ, by simp only [leadX, t1, t2, Bool.and_self, if_true, hcl, if_neg c30], rfl, rfl, by simp only [leadX, t1, t2, Bool.and_self, if_true, hcl, if_neg c30]; exact hR⟩
    · refine x_iconst (pc := 17) (-1) dX2_changeLead_17 (by decide) ?_
      have tt : (knB A v && betw c 0 3) = false := by
        first
        | (have t := b01_eq c5; rw [t]; rfl)
        | (have t := b01_eq c14; rw [t]; exact Bool.and_false _)
      exact x_iret rfl dX2_changeLead_18 ⟨σ, by simp only [leadX, tt, Bool.false_eq_true, if_false], rfl, rfl, by simp only [leadX, tt, Bool.false_eq_true, if_false]; exact hR⟩
theorem RC_set {σ : Sh} {A : Ab} (h : RC σ A) (k : Nat) (v : Int32) : RC (σ.1, σ.2.1, upd σ.2.2.1 k v, σ.2.2.2) (A.1, A.2.1, A.2.2.1, upd A.2.2.2.1 k v, A.2.2.2.2) := by
  refine ⟨h.1, h.2.1, h.2.2.1, h.2.2.2.1, fun q hq => ?_, h.2.2.2.2.2.1, h.2.2.2.2.2.2⟩
  by_cases e : q = k
  · subst e; exact (upd_same _ _ _).trans (upd_same _ _ _).symm
  · exact (upd_ne _ _ e).trans ((h.sett q hq).trans (upd_ne _ _ e).symm)
set_option maxHeartbeats 4000000 in
set_option maxRecDepth 100000 in
theorem c_X2_changeSetting (hj : j < 8) (hR : RC σ A) (w v : Int32) : Ct G yX2_changeSetting YX2_changeSetting 0 0 [.ref (gB G + sB j), .int w, .int v] (nN G) (cellOf G (updS S j σ) B M) (RS G (some (.int (setX A w v).1)) S j B M ((setX A w v).2)) := by
  refine ct_of (by decide +kernel) rfl rfl (Nat.le_of_ble_eq_true rfl) (by simp [Value.category]) ?_
  refine x_sub (l' := [(0, .ref (gB G + sB j)), (1, .int w), (2, .int v)]) ⟨rfl, rfl, rfl, trivial⟩ ?_
  have h12 := hR.le
  refine x_iload_n (pc := 0) dX2_changeSetting_0 rfl ?_
  refine x_iconst (pc := 1) (0) dX2_changeSetting_1 (by decide) ?_
  refine x_iconst (pc := 2) (3) dX2_changeSetting_2 (by decide) ?_
  refine t_Ni (pc := 3) (c_X3_isIn _ _ _) qS_X3_isIn (fun s h => h.2.2.2) dX2_changeSetting_3 rfl rfl rfl ⟨by decide, by decide⟩ (Nat.le_of_ble_eq_true rfl) (Nat.le_of_ble_eq_true rfl) (Nat.le_of_ble_eq_true rfl) ?_
  refine x_ifne (pc := 6) 11 dX2_changeSetting_6 (by decide) (fun c6 => ?_) (fun c6 => ?_)
  · have t1 := b01_ne c6
    obtain ⟨q, hq, rfl, hcl⟩ := betw_some (n := 3) rfl (by decide) t1
    have hq4 : q < 4 := by omega
    refine x_iload_n (pc := 11) dX2_changeSetting_11 rfl ?_
    refine x_gets1 (pc := 12) rfl dX2_changeSetting_12 ?_
    refine x_iload_n (pc := 15) dX2_changeSetting_15 rfl ?_
    refine x_tab1 (pc := 16) (in_of rfl hq4 (by decide)) dX2_changeSetting_16 ?_
    refine x_gets2 (pc := 17) rfl dX2_changeSetting_17 ?_
    refine x_iload_n (pc := 20) dX2_changeSetting_20 rfl ?_
    refine x_tab2 (pc := 21) (in_of rfl hq4 (by decide)) dX2_changeSetting_21 ?_
    refine t_Ni (pc := 22) (c_X3_isIn _ _ _) qS_X3_isIn (fun s h => h.2.2.2) dX2_changeSetting_22 rfl rfl rfl ⟨by decide, by decide⟩ (Nat.le_of_ble_eq_true rfl) (Nat.le_of_ble_eq_true rfl) (Nat.le_of_ble_eq_true rfl) ?_
    refine x_ifne (pc := 25) 31 dX2_changeSetting_25 (by decide) (fun c25 => ?_) (fun c25 => ?_)
    · have t2 := b01_ne c25
      rw [hcl] at t2
      refine x_aload_n (pc := 31) dX2_changeSetting_31 rfl ?_
      refine x_get (pc := 32) (ci := 2) (k := 2) (C := RX2) (T := TX2) (N := 10) (cell_sheet (by first | assumption | omega)) rfl (sB_255 (by first | assumption | omega)) rfl nX2 (by decide) mF_X2_22 rfl dX2_changeSetting_32 ?_
      refine x_iload_n (pc := 35) dX2_changeSetting_35 rfl ?_
      refine t_ild (pc := 36) q (cell_sets (by first | assumption | omega)) (stO_255 (by first | assumption | omega)) rfl hq4 (by decide) dX2_changeSetting_36 ?_
      rw [hR.sett _ hq4]
      refine x_iload_n (pc := 37) dX2_changeSetting_37 rfl ?_
      refine x_cmpne (pc := 38) 44 dX2_changeSetting_38 (by decide) (fun c38 => ?_) (fun c38 => ?_)
      · refine x_aload_n (pc := 44) dX2_changeSetting_44 rfl ?_
        refine x_get (pc := 45) (ci := 2) (k := 2) (C := RX2) (T := TX2) (N := 10) (cell_sheet (by first | assumption | omega)) rfl (sB_255 (by first | assumption | omega)) rfl nX2 (by decide) mF_X2_22 rfl dX2_changeSetting_45 ?_
        refine x_iload_n (pc := 48) dX2_changeSetting_48 rfl ?_
        refine t_ild (pc := 49) q (cell_sets (by first | assumption | omega)) (stO_255 (by first | assumption | omega)) rfl hq4 (by decide) dX2_changeSetting_49 ?_
        rw [hR.sett _ hq4]
        refine x_istore_n (pc := 50) dX2_changeSetting_50 (by decide) ?_
        refine x_aload_n (pc := 51) dX2_changeSetting_51 rfl ?_
        refine x_get (pc := 52) (ci := 2) (k := 2) (C := RX2) (T := TX2) (N := 10) (cell_sheet (by first | assumption | omega)) rfl (sB_255 (by first | assumption | omega)) rfl nX2 (by decide) mF_X2_22 rfl dX2_changeSetting_52 ?_
        refine x_iload_n (pc := 55) dX2_changeSetting_55 rfl ?_
        refine x_iload_n (pc := 56) dX2_changeSetting_56 rfl ?_
        refine t_stSets (pc := 57) (by first | assumption | omega) q hq4 rfl dX2_changeSetting_57 ?_
        try dsimp only
        refine x_iload_n (pc := 58) dX2_changeSetting_58 rfl ?_
        exact x_iret rfl dX2_changeSetting_59 ⟨_, by simp only [setX, t1, if_true, hcl, t2, if_neg c38], rfl, rfl, by simp only [setX, t1, if_true, hcl, t2, if_neg c38]; exact RC_set hR q v⟩
      · refine x_bipush (pc := 41) (-5) dX2_changeSetting_41 (by decide) ?_
        exact x_iret rfl dX2_changeSetting_43 ⟨σ, by simp only [setX, t1, if_true, hcl, t2, if_pos c38], rfl, rfl, by simp only [setX, t1, if_true, hcl, t2, if_pos c38]; exact hR⟩
    · have t2 := b01_eq c25
      rw [hcl] at t2
      refine x_bipush (pc := 28) (-2) dX2_changeSetting_28 (by decide) ?_
      exact x_iret rfl dX2_changeSetting_30 ⟨σ, by simp only [setX, t1, if_true, hcl, t2, Bool.false_eq_true, if_false], rfl, rfl, by simp only [setX, t1, if_true, hcl, t2, Bool.false_eq_true, if_false]; exact hR⟩
  · refine x_iconst (pc := 9) (-1) dX2_changeSetting_9 (by decide) ?_
    have t := b01_eq c6
    exact x_iret rfl dX2_changeSetting_10 ⟨σ, by simp only [setX, t, Bool.false_eq_true, if_false], rfl, rfl, by simp only [setX, t, Bool.false_eq_true, if_false]; exact hR⟩
end SHEET4
end
section
/-! the class: cutShape, addShape, cutNext, copyFrom (rows laid by wip/whole/p16.py) -/
section SHEET5
variable {G : GX} {S : Nat → Sh} {B : Bc} {M : Md} {j i : Nat} {σ : Sh}
variable {A : Ab}
def midA (A : Ab) (i : Nat) : Ab := burnA (goA (coolA A (wayV A i)) i) i
def m5A (A : Ab) (i : Nat) : Ab := ((midA A i).1, upd (midA A i).2.1 6 ((midA A i).2.1 6 + 1), (midA A i).2.2.1, (midA A i).2.2.2.1, updF (midA A i).2.2.2.2 i (upd (upd ((midA A i).2.2.2.2 i) 5 1) 7 ((midA A i).2.1 6)))
theorem m5_lsV (A : Ab) (i : Nat) : lsV ((m5A A i).2.2.2.2 i) = lsV ((midA A i).2.2.2.2 i) := by
  show lsV (updF _ i _ i) = _
  rw [updF_same]
  exact lsV_5 (fun k hk => (upd_ne _ _ (by omega)).trans (upd_ne _ _ (by omega)))
theorem m5_pre (A : Ab) (i : Nat) (t : Int32) (ht : t = if hinV (m5A A i).2.2.1 (lsV ((m5A A i).2.2.2.2 i)) = grV (m5A A i) then 1 else 0) : ((m5A A i).1, (m5A A i).2.1, (m5A A i).2.2.1, (m5A A i).2.2.2.1, updF (m5A A i).2.2.2.2 i (upd ((m5A A i).2.2.2.2 i) 6 t)) = preA A i := by
  rw [m5_lsV] at ht
  rw [ht]
  show (_, _, _, _, updF (updF _ i _) i (upd (updF _ i _ i) 6 _)) = _
  rw [updF_upd, updF_same]
  rfl
set_option maxHeartbeats 4000000 in
set_option maxRecDepth 100000 in
theorem tl_X2_cutShape (hj : j < 8) (hi : i < A.1) (h12 : A.1 ≤ 12) (hy : whyV A i = 0) {τ : Sh} (R5 : RC τ (m5A A i)) : XJ G YX2_cutShape (fun _ => True) (Zx G (RS G (some (.int (cutX A (nI i)).1)) S j B M ((cutX A (nI i)).2)) 0 0) 85 [(0, .ref (gB G + sB j)), (1, .int (nI i)), (2, .int 0), (3, .ref (gB G + shO j i))] [] (nN G) (cellOf G (updS S j τ) B M) 0 0 := by
  have hi5 : i < (m5A A i).1 := hi
  refine x_aload_n (pc := 85) dX2_cutShape_85 rfl ?_
  refine x_aload_n (pc := 86) dX2_cutShape_86 rfl ?_
  refine x_aload_n (pc := 87) dX2_cutShape_87 rfl ?_
  refine t_Vi (pc := 88) (c_X1_leadSquare (by first | assumption | omega) (by first | assumption | omega)) qV_X1_leadSquare mL_X2_110 dX2_cutShape_88 rfl (cell_shape (by first | assumption | omega) (by first | assumption | omega)) (shO_255 (by first | assumption | omega) (by first | assumption | omega)) rfl rfl rfl ⟨by decide, by decide⟩ (Nat.le_of_ble_eq_true rfl) (Nat.le_of_ble_eq_true rfl) (Nat.le_of_ble_eq_true rfl) ?_
  rw [R5.ls hi5]
  refine t_Vi (pc := 91) (c_X2_heatIn (by first | assumption | omega) R5 _) qV_X2_heatIn mL_X2_113 dX2_cutShape_91 rfl (cell_sheet (by first | assumption | omega)) (sB_255 (by first | assumption | omega)) rfl rfl rfl ⟨by decide, by decide⟩ (Nat.le_of_ble_eq_true rfl) (Nat.le_of_ble_eq_true rfl) (Nat.le_of_ble_eq_true rfl) ?_
  refine x_aload_n (pc := 94) dX2_cutShape_94 rfl ?_
  refine t_Vi (pc := 95) (c_X2_greatestHeat (by first | assumption | omega) R5) qV_X2_greatestHeat mL_X2_116 dX2_cutShape_95 rfl (cell_sheet (by first | assumption | omega)) (sB_255 (by first | assumption | omega)) rfl rfl rfl ⟨by decide, by decide⟩ (Nat.le_of_ble_eq_true rfl) (Nat.le_of_ble_eq_true rfl) (Nat.le_of_ble_eq_true rfl) ?_
  refine x_cmpne (pc := 98) 105 dX2_cutShape_98 (by decide) (fun c98 => ?_) (fun c98 => ?_)
  · have hp := m5_pre A i 0 (by rw [if_neg c98])
    have R6 := RC_shp R5 hi5 6 0
    rw [hp] at R6
    have hi6 : i < (preA A i).1 := hi
    refine x_iconst (pc := 105) (0) dX2_cutShape_105 (by decide) ?_
    refine t_putShape (pc := 106) (by first | assumption | omega) (by first | assumption | omega) 6 (by decide) mF_X2_119 dX2_cutShape_106 ?_
    try dsimp only
    refine x_aload_n (pc := 109) dX2_cutShape_109 rfl ?_
    refine x_aload_n (pc := 110) dX2_cutShape_110 rfl ?_
    refine e_Vi (pc := 111) (c_X2_loseShapesInside (by first | assumption | omega) R6 hi6) qV_X2_loseShapesInside mL_X2_122 dX2_cutShape_111 rfl (cell_sheet (by first | assumption | omega)) (sB_255 (by first | assumption | omega)) rfl rfl rfl ⟨by decide, by decide⟩ (Nat.le_of_ble_eq_true rfl) (Nat.le_of_ble_eq_true rfl) (Nat.le_of_ble_eq_true rfl) ?_
    intro σ7 R7
    exact x_iret rfl dX2_cutShape_114 ⟨σ7, by rw [cutX_nI h12 hi hy]; rfl, rfl, rfl, by rw [cutX_nI h12 hi hy]; exact R7⟩
  · have hp := m5_pre A i 1 (by rw [if_pos c98])
    have R6 := RC_shp R5 hi5 6 1
    rw [hp] at R6
    have hi6 : i < (preA A i).1 := hi
    refine x_iconst (pc := 101) (1) dX2_cutShape_101 (by decide) ?_
    refine x_goto (pc := 102) 106 dX2_cutShape_102 (by decide) ?_
    refine t_putShape (pc := 106) (by first | assumption | omega) (by first | assumption | omega) 6 (by decide) mF_X2_119 dX2_cutShape_106 ?_
    try dsimp only
    refine x_aload_n (pc := 109) dX2_cutShape_109 rfl ?_
    refine x_aload_n (pc := 110) dX2_cutShape_110 rfl ?_
    refine e_Vi (pc := 111) (c_X2_loseShapesInside (by first | assumption | omega) R6 hi6) qV_X2_loseShapesInside mL_X2_122 dX2_cutShape_111 rfl (cell_sheet (by first | assumption | omega)) (sB_255 (by first | assumption | omega)) rfl rfl rfl ⟨by decide, by decide⟩ (Nat.le_of_ble_eq_true rfl) (Nat.le_of_ble_eq_true rfl) (Nat.le_of_ble_eq_true rfl) ?_
    intro σ7 R7
    exact x_iret rfl dX2_cutShape_114 ⟨σ7, by rw [cutX_nI h12 hi hy]; rfl, rfl, rfl, by rw [cutX_nI h12 hi hy]; exact R7⟩
set_option maxHeartbeats 4000000 in
set_option maxRecDepth 100000 in
theorem c_X2_cutShape (hj : j < 8) (hR : RC σ A) (v : Int32) : Ct G yX2_cutShape YX2_cutShape 0 0 [.ref (gB G + sB j), .int v] (nN G) (cellOf G (updS S j σ) B M) (RS G (some (.int (cutX A v).1)) S j B M ((cutX A v).2)) := by
  refine ct_of (by decide +kernel) rfl rfl (Nat.le_of_ble_eq_true rfl) (by simp [Value.category]) ?_
  refine x_sub (l' := [(0, .ref (gB G + sB j)), (1, .int v)]) ⟨rfl, rfl, trivial⟩ ?_
  have h12 := hR.le
  refine x_aload_n (pc := 0) dX2_cutShape_0 rfl ?_
  refine x_iload_n (pc := 1) dX2_cutShape_1 rfl ?_
  refine t_Vi (pc := 2) (c_X2_knows (by first | assumption | omega) hR _) qV_X2_knows mL_X2_72 dX2_cutShape_2 rfl (cell_sheet (by first | assumption | omega)) (sB_255 (by first | assumption | omega)) rfl rfl rfl ⟨by decide, by decide⟩ (Nat.le_of_ble_eq_true rfl) (Nat.le_of_ble_eq_true rfl) (Nat.le_of_ble_eq_true rfl) ?_
  refine x_ifne (pc := 5) 10 dX2_cutShape_5 (by decide) (fun c5 => ?_) (fun c5 => ?_)
  · obtain ⟨i, hi, rfl, hcl⟩ := knB_some hR.le (b01_ne c5)
    refine x_aload_n (pc := 10) dX2_cutShape_10 rfl ?_
    refine x_iload_n (pc := 11) dX2_cutShape_11 rfl ?_
    refine t_Vi (pc := 12) (c_X2_reasonAgainst (by first | assumption | omega) hR (by first | assumption | omega)) qV_X2_reasonAgainst mL_X2_85 dX2_cutShape_12 rfl (cell_sheet (by first | assumption | omega)) (sB_255 (by first | assumption | omega)) rfl rfl rfl ⟨by decide, by decide⟩ (Nat.le_of_ble_eq_true rfl) (Nat.le_of_ble_eq_true rfl) (Nat.le_of_ble_eq_true rfl) ?_
    refine x_istore_n (pc := 15) dX2_cutShape_15 (by decide) ?_
    refine x_iload_n (pc := 16) dX2_cutShape_16 rfl ?_
    refine x_ifeq (pc := 17) 25 dX2_cutShape_17 (by decide) (fun c17 => ?_) (fun c17 => ?_)
    · have h1i : i < (coolA A (wayV A i)).1 := hi
      refine x_aload_n (pc := 25) dX2_cutShape_25 rfl ?_
      refine x_get (pc := 26) (ci := 2) (k := 0) (C := RX2) (T := TX2) (N := 10) (cell_sheet (by first | assumption | omega)) rfl (sB_255 (by first | assumption | omega)) rfl nX2 (by decide) mF_X2_13 rfl dX2_cutShape_26 ?_
      refine x_iload_n (pc := 29) dX2_cutShape_29 rfl ?_
      refine t_shapes (pc := 30) i (by first | assumption | omega) rfl (by first | assumption | omega) dX2_cutShape_30 ?_
      refine x_astore_n (pc := 31) dX2_cutShape_31 (by decide) ?_
      refine x_aload_n (pc := 32) dX2_cutShape_32 rfl ?_
      refine x_aload_n (pc := 33) dX2_cutShape_33 rfl ?_
      refine x_aload_n (pc := 34) dX2_cutShape_34 rfl ?_
      refine t_Vi (pc := 35) (c_X2_wayTo (by first | assumption | omega) hR (by first | assumption | omega)) qV_X2_wayTo mL_X2_89 dX2_cutShape_35 rfl (cell_sheet (by first | assumption | omega)) (sB_255 (by first | assumption | omega)) rfl rfl rfl ⟨by decide, by decide⟩ (Nat.le_of_ble_eq_true rfl) (Nat.le_of_ble_eq_true rfl) (Nat.le_of_ble_eq_true rfl) ?_
      refine e_Vv (pc := 38) (c_X2_coolFor (by first | assumption | omega) hR _) qV_X2_coolFor mL_X2_93 dX2_cutShape_38 rfl (cell_sheet (by first | assumption | omega)) (sB_255 (by first | assumption | omega)) rfl rfl rfl ⟨by decide, by decide⟩ (Nat.le_of_ble_eq_true rfl) (Nat.le_of_ble_eq_true rfl) (Nat.le_of_ble_eq_true rfl) ?_
      intro σ1 R1
      refine x_aload_n (pc := 41) dX2_cutShape_41 rfl ?_
      refine x_aload_n (pc := 42) dX2_cutShape_42 rfl ?_
      refine t_Vi (pc := 43) (c_X1_leadColumn (by first | assumption | omega) (by first | assumption | omega)) qV_X1_leadColumn mL_X2_97 dX2_cutShape_43 rfl (cell_shape (by first | assumption | omega) (by first | assumption | omega)) (shO_255 (by first | assumption | omega) (by first | assumption | omega)) rfl rfl rfl ⟨by decide, by decide⟩ (Nat.le_of_ble_eq_true rfl) (Nat.le_of_ble_eq_true rfl) (Nat.le_of_ble_eq_true rfl) ?_
      rw [R1.lc h1i]
      show XJ _ _ _ _ _ _ (.int (lcV (A.2.2.2.2 i)) :: _) _ _ _ _
      refine t_putSh (pc := 46) (by first | assumption | omega) 1 (by decide) mF_X2_29 dX2_cutShape_46 ?_
      try dsimp only
      refine x_aload_n (pc := 49) dX2_cutShape_49 rfl ?_
      refine x_aload_n (pc := 50) dX2_cutShape_50 rfl ?_
      refine t_Vi (pc := 51) (c_X1_leadRow (by first | assumption | omega) (by first | assumption | omega)) qV_X1_leadRow mL_X2_101 dX2_cutShape_51 rfl (cell_shape (by first | assumption | omega) (by first | assumption | omega)) (shO_255 (by first | assumption | omega) (by first | assumption | omega)) rfl rfl rfl ⟨by decide, by decide⟩ (Nat.le_of_ble_eq_true rfl) (Nat.le_of_ble_eq_true rfl) (Nat.le_of_ble_eq_true rfl) ?_
      try dsimp only
      rw [R1.lr h1i]
      show XJ _ _ _ _ _ _ (.int (lrV (A.2.2.2.2 i)) :: _) _ _ _ _
      refine t_putSh (pc := 54) (by first | assumption | omega) 2 (by decide) mF_X2_32 dX2_cutShape_54 ?_
      try dsimp only
      have R3 : RC _ (goA (coolA A (wayV A i)) i) := RC_int (RC_int R1 1 (lcV (A.2.2.2.2 i))) 2 (lrV (A.2.2.2.2 i))
      refine x_aload_n (pc := 57) dX2_cutShape_57 rfl ?_
      refine x_aload_n (pc := 58) dX2_cutShape_58 rfl ?_
      refine e_Vv (pc := 59) (c_X2_burnEdge (by first | assumption | omega) R3 (by first | assumption | omega)) qV_X2_burnEdge mL_X2_104 dX2_cutShape_59 rfl (cell_sheet (by first | assumption | omega)) (sB_255 (by first | assumption | omega)) rfl rfl rfl ⟨by decide, by decide⟩ (Nat.le_of_ble_eq_true rfl) (Nat.le_of_ble_eq_true rfl) (Nat.le_of_ble_eq_true rfl) ?_
      intro σ4 R4
      have R4 : RC σ4 (midA A i) := R4
      have h4i : i < (midA A i).1 := hi
      refine x_aload_n (pc := 62) dX2_cutShape_62 rfl ?_
      refine x_iconst (pc := 63) (1) dX2_cutShape_63 (by decide) ?_
      refine t_putShape (pc := 64) (by first | assumption | omega) (by first | assumption | omega) 5 (by decide) mF_X2_66 dX2_cutShape_64 ?_
      try dsimp only
      refine x_aload_n (pc := 67) dX2_cutShape_67 rfl ?_
      refine x_aload_n (pc := 68) dX2_cutShape_68 rfl ?_
      refine x_get (pc := 69) (ci := 2) (k := 9) (C := RX2) (T := TX2) (N := 10) (cell_sheet (by first | assumption | omega)) rfl (sB_255 (by first | assumption | omega)) rfl nX2 (by decide) mF_X2_44 rfl dX2_cutShape_69 ?_
      simp only [shpF]
      rw [R4.int 6]
      refine t_putShape (pc := 72) (by first | assumption | omega) (by first | assumption | omega) 7 (by decide) mF_X2_107 dX2_cutShape_72 ?_
      try dsimp only
      simp only [shpF, updF_same, updF_upd]
      refine x_aload_n (pc := 75) dX2_cutShape_75 rfl ?_
      refine x_dup (pc := 76) dX2_cutShape_76 rfl ?_
      refine x_get (pc := 77) (ci := 2) (k := 9) (C := RX2) (T := TX2) (N := 10) (cell_sheet (by first | assumption | omega)) rfl (sB_255 (by first | assumption | omega)) rfl nX2 (by decide) mF_X2_44 rfl dX2_cutShape_77 ?_
      rw [R4.int 6]
      refine x_iconst (pc := 80) (1) dX2_cutShape_80 (by decide) ?_
      refine x_iadd (pc := 81) dX2_cutShape_81 ?_
      refine t_putSh (pc := 82) (by first | assumption | omega) 6 (by decide) mF_X2_44 dX2_cutShape_82 ?_
      try dsimp only
      have R5 := RC_int (RC_shp (RC_shp R4 h4i 5 1) h4i 7 ((midA A i).2.1 6)) 6 ((midA A i).2.1 6 + 1)
      simp only [shpF, updF_same, updF_upd] at R5
      exact x_back (tl_X2_cutShape hj hi h12 (by rw [← c17]) (τ := _) R5) ⟨rfl, rfl, by rw [c17]; rfl, rfl, trivial⟩
    · refine x_bipush (pc := 20) (-10) dX2_cutShape_20 (by decide) ?_
      refine x_iload_n (pc := 22) dX2_cutShape_22 rfl ?_
      refine x_isub (pc := 23) dX2_cutShape_23 ?_
      have t := b01_ne c5
      exact x_iret rfl dX2_cutShape_24 ⟨σ, by simp only [cutX, t, if_true, hcl, if_neg c17], rfl, rfl, by simp only [cutX, t, if_true, hcl, if_neg c17]; exact hR⟩
  · refine x_iconst (pc := 8) (-1) dX2_cutShape_8 (by decide) ?_
    have t := b01_eq c5
    exact x_iret rfl dX2_cutShape_9 ⟨σ, by simp only [cutX, t, Bool.false_eq_true, if_false], rfl, rfl, by simp only [cutX, t, Bool.false_eq_true, if_false]; exact hR⟩
theorem badB_eq {c r w h : Int32} (h1 : betw c 0 31 = true) (h2 : betw r 0 23 = true) (h3 : betw w 2 32 = true) (h4 : betw h 2 24 = true) (h5 : ¬ 32 < c + w) (h6 : ¬ 24 < r + h) : badB c r w h = false := by
  simp only [badB, h1, h2, h3, h4, decide_eq_false h5, decide_eq_false h6]; rfl
set_option maxHeartbeats 4000000 in
set_option maxRecDepth 100000 in
theorem c_X2_addShape (hj : j < 8) (hR : RC σ A) (c r w h : Int32) : Ct G yX2_addShape YX2_addShape 0 0 [.ref (gB G + sB j), .int c, .int r, .int w, .int h] (nN G) (cellOf G (updS S j σ) B M) (RS G (some (.int (tellX A c r w h).1)) S j B M ((tellX A c r w h).2)) := by
  refine ct_of (by decide +kernel) rfl rfl (Nat.le_of_ble_eq_true rfl) (by simp [Value.category]) ?_
  refine x_sub (l' := [(0, .ref (gB G + sB j)), (1, .int c), (2, .int r), (3, .int w), (4, .int h)]) ⟨rfl, rfl, rfl, rfl, rfl, trivial⟩ ?_
  have h12 := hR.le
  refine x_iload_n (pc := 0) dX2_addShape_0 rfl ?_
  refine x_iconst (pc := 1) (0) dX2_addShape_1 (by decide) ?_
  refine x_bipush (pc := 2) (31) dX2_addShape_2 (by decide) ?_
  refine t_Ni (pc := 4) (c_X3_isIn _ _ _) qS_X3_isIn (fun s h => h.2.2.2) dX2_addShape_4 rfl rfl rfl ⟨by decide, by decide⟩ (Nat.le_of_ble_eq_true rfl) (Nat.le_of_ble_eq_true rfl) (Nat.le_of_ble_eq_true rfl) ?_
  refine x_ifeq (pc := 7) 58 dX2_addShape_7 (by decide) (fun c7 => ?_) (fun c7 => ?_)
  · refine x_bipush (pc := 58) (-2) dX2_addShape_58 (by decide) ?_
    have tt : badB c r w h = true := by
      first
      | (have t := b01_eq c7; simp only [badB, t, Bool.false_and, Bool.not_false])
      | (have t := b01_eq c17; simp only [badB, t, Bool.and_false, Bool.false_and, Bool.not_false])
      | (have t := b01_eq c27; simp only [badB, t, Bool.and_false, Bool.false_and, Bool.not_false])
      | (have t := b01_eq c38; simp only [badB, t, Bool.and_false, Bool.false_and, Bool.not_false])
      | (have t := decide_eq_true (show (32 : Int32) < c + w from c46); simp only [badB, t, Bool.not_true, Bool.and_false, Bool.false_and, Bool.not_false])
      | (have t := decide_eq_true (show (24 : Int32) < r + h from c55); simp only [badB, t, Bool.not_true, Bool.and_false, Bool.not_false])
    exact x_iret rfl dX2_addShape_60 ⟨σ, by simp only [tellX, tt, if_true], rfl, rfl, by simp only [tellX, tt, if_true]; exact hR⟩
  · refine x_iload_n (pc := 10) dX2_addShape_10 rfl ?_
    refine x_iconst (pc := 11) (0) dX2_addShape_11 (by decide) ?_
    refine x_bipush (pc := 12) (23) dX2_addShape_12 (by decide) ?_
    refine t_Ni (pc := 14) (c_X3_isIn _ _ _) qS_X3_isIn (fun s h => h.2.2.2) dX2_addShape_14 rfl rfl rfl ⟨by decide, by decide⟩ (Nat.le_of_ble_eq_true rfl) (Nat.le_of_ble_eq_true rfl) (Nat.le_of_ble_eq_true rfl) ?_
    refine x_ifeq (pc := 17) 58 dX2_addShape_17 (by decide) (fun c17 => ?_) (fun c17 => ?_)
    · refine x_bipush (pc := 58) (-2) dX2_addShape_58 (by decide) ?_
      have tt : badB c r w h = true := by
        first
        | (have t := b01_eq c7; simp only [badB, t, Bool.false_and, Bool.not_false])
        | (have t := b01_eq c17; simp only [badB, t, Bool.and_false, Bool.false_and, Bool.not_false])
        | (have t := b01_eq c27; simp only [badB, t, Bool.and_false, Bool.false_and, Bool.not_false])
        | (have t := b01_eq c38; simp only [badB, t, Bool.and_false, Bool.false_and, Bool.not_false])
        | (have t := decide_eq_true (show (32 : Int32) < c + w from c46); simp only [badB, t, Bool.not_true, Bool.and_false, Bool.false_and, Bool.not_false])
        | (have t := decide_eq_true (show (24 : Int32) < r + h from c55); simp only [badB, t, Bool.not_true, Bool.and_false, Bool.not_false])
      exact x_iret rfl dX2_addShape_60 ⟨σ, by simp only [tellX, tt, if_true], rfl, rfl, by simp only [tellX, tt, if_true]; exact hR⟩
    · refine x_iload_n (pc := 20) dX2_addShape_20 rfl ?_
      refine x_iconst (pc := 21) (2) dX2_addShape_21 (by decide) ?_
      refine x_bipush (pc := 22) (32) dX2_addShape_22 (by decide) ?_
      refine t_Ni (pc := 24) (c_X3_isIn _ _ _) qS_X3_isIn (fun s h => h.2.2.2) dX2_addShape_24 rfl rfl rfl ⟨by decide, by decide⟩ (Nat.le_of_ble_eq_true rfl) (Nat.le_of_ble_eq_true rfl) (Nat.le_of_ble_eq_true rfl) ?_
      refine x_ifeq (pc := 27) 58 dX2_addShape_27 (by decide) (fun c27 => ?_) (fun c27 => ?_)
      · refine x_bipush (pc := 58) (-2) dX2_addShape_58 (by decide) ?_
        have tt : badB c r w h = true := by
          first
          | (have t := b01_eq c7; simp only [badB, t, Bool.false_and, Bool.not_false])
          | (have t := b01_eq c17; simp only [badB, t, Bool.and_false, Bool.false_and, Bool.not_false])
          | (have t := b01_eq c27; simp only [badB, t, Bool.and_false, Bool.false_and, Bool.not_false])
          | (have t := b01_eq c38; simp only [badB, t, Bool.and_false, Bool.false_and, Bool.not_false])
          | (have t := decide_eq_true (show (32 : Int32) < c + w from c46); simp only [badB, t, Bool.not_true, Bool.and_false, Bool.false_and, Bool.not_false])
          | (have t := decide_eq_true (show (24 : Int32) < r + h from c55); simp only [badB, t, Bool.not_true, Bool.and_false, Bool.not_false])
        exact x_iret rfl dX2_addShape_60 ⟨σ, by simp only [tellX, tt, if_true], rfl, rfl, by simp only [tellX, tt, if_true]; exact hR⟩
      · refine x_iload (pc := 30) dX2_addShape_30 rfl ?_
        refine x_iconst (pc := 32) (2) dX2_addShape_32 (by decide) ?_
        refine x_bipush (pc := 33) (24) dX2_addShape_33 (by decide) ?_
        refine t_Ni (pc := 35) (c_X3_isIn _ _ _) qS_X3_isIn (fun s h => h.2.2.2) dX2_addShape_35 rfl rfl rfl ⟨by decide, by decide⟩ (Nat.le_of_ble_eq_true rfl) (Nat.le_of_ble_eq_true rfl) (Nat.le_of_ble_eq_true rfl) ?_
        refine x_ifeq (pc := 38) 58 dX2_addShape_38 (by decide) (fun c38 => ?_) (fun c38 => ?_)
        · refine x_bipush (pc := 58) (-2) dX2_addShape_58 (by decide) ?_
          have tt : badB c r w h = true := by
            first
            | (have t := b01_eq c7; simp only [badB, t, Bool.false_and, Bool.not_false])
            | (have t := b01_eq c17; simp only [badB, t, Bool.and_false, Bool.false_and, Bool.not_false])
            | (have t := b01_eq c27; simp only [badB, t, Bool.and_false, Bool.false_and, Bool.not_false])
            | (have t := b01_eq c38; simp only [badB, t, Bool.and_false, Bool.false_and, Bool.not_false])
            | (have t := decide_eq_true (show (32 : Int32) < c + w from c46); simp only [badB, t, Bool.not_true, Bool.and_false, Bool.false_and, Bool.not_false])
            | (have t := decide_eq_true (show (24 : Int32) < r + h from c55); simp only [badB, t, Bool.not_true, Bool.and_false, Bool.not_false])
          exact x_iret rfl dX2_addShape_60 ⟨σ, by simp only [tellX, tt, if_true], rfl, rfl, by simp only [tellX, tt, if_true]; exact hR⟩
        · refine x_iload_n (pc := 41) dX2_addShape_41 rfl ?_
          refine x_iload_n (pc := 42) dX2_addShape_42 rfl ?_
          refine x_iadd (pc := 43) dX2_addShape_43 ?_
          refine x_bipush (pc := 44) (32) dX2_addShape_44 (by decide) ?_
          refine x_cmpgt (pc := 46) 58 dX2_addShape_46 (by decide) (fun c46 => ?_) (fun c46 => ?_)
          · refine x_bipush (pc := 58) (-2) dX2_addShape_58 (by decide) ?_
            have tt : badB c r w h = true := by
              first
              | (have t := b01_eq c7; simp only [badB, t, Bool.false_and, Bool.not_false])
              | (have t := b01_eq c17; simp only [badB, t, Bool.and_false, Bool.false_and, Bool.not_false])
              | (have t := b01_eq c27; simp only [badB, t, Bool.and_false, Bool.false_and, Bool.not_false])
              | (have t := b01_eq c38; simp only [badB, t, Bool.and_false, Bool.false_and, Bool.not_false])
              | (have t := decide_eq_true (show (32 : Int32) < c + w from c46); simp only [badB, t, Bool.not_true, Bool.and_false, Bool.false_and, Bool.not_false])
              | (have t := decide_eq_true (show (24 : Int32) < r + h from c55); simp only [badB, t, Bool.not_true, Bool.and_false, Bool.not_false])
            exact x_iret rfl dX2_addShape_60 ⟨σ, by simp only [tellX, tt, if_true], rfl, rfl, by simp only [tellX, tt, if_true]; exact hR⟩
          · refine x_iload_n (pc := 49) dX2_addShape_49 rfl ?_
            refine x_iload (pc := 50) dX2_addShape_50 rfl ?_
            refine x_iadd (pc := 52) dX2_addShape_52 ?_
            refine x_bipush (pc := 53) (24) dX2_addShape_53 (by decide) ?_
            refine x_cmple (pc := 55) 61 dX2_addShape_55 (by decide) (fun c55 => ?_) (fun c55 => ?_)
            · refine x_aload_n (pc := 61) dX2_addShape_61 rfl ?_
              refine x_get (pc := 62) (ci := 2) (k := 0) (C := RX2) (T := TX2) (N := 10) (cell_sheet (by first | assumption | omega)) rfl (sB_255 (by first | assumption | omega)) rfl nX2 (by decide) mF_X2_13 rfl dX2_addShape_62 ?_
              refine x_aload_n (pc := 65) dX2_addShape_65 rfl ?_
              refine x_get (pc := 66) (ci := 2) (k := 3) (C := RX2) (T := TX2) (N := 10) (cell_sheet (by first | assumption | omega)) rfl (sB_255 (by first | assumption | omega)) rfl nX2 (by decide) mF_X2_25 rfl dX2_addShape_66 ?_
              rw [hR.told]
              refine t_shapes (pc := 69) A.1 (by first | assumption | omega) rfl (show A.1 < 13 by omega) dX2_addShape_69 ?_
              refine x_astore (pc := 70) dX2_addShape_70 (by decide) ?_
              refine x_aload (pc := 72) dX2_addShape_72 rfl ?_
              refine x_iload_n (pc := 74) dX2_addShape_74 rfl ?_
              refine x_iload_n (pc := 75) dX2_addShape_75 rfl ?_
              refine x_iload_n (pc := 76) dX2_addShape_76 rfl ?_
              refine x_iload (pc := 77) dX2_addShape_77 rfl ?_
              refine t_Vv (pc := 79) (c_X1_place (by first | assumption | omega) (show A.1 < 13 by omega) _ _ _ _) qV_X1_place mL_X2_55 dX2_addShape_79 rfl (cell_shape (by first | assumption | omega) (by first | assumption | omega)) (shO_255 (by first | assumption | omega) (by first | assumption | omega)) rfl rfl rfl ⟨by decide, by decide⟩ (Nat.le_of_ble_eq_true rfl) (Nat.le_of_ble_eq_true rfl) (Nat.le_of_ble_eq_true rfl) ?_
              have RP := RC_spare hR (plF (σ.2.2.2.1 A.1) c r w h) (eqE (σ.2.2.2.2 A.1) (plF (σ.2.2.2.1 A.1) c r w h) 12)
              refine x_aload_n (pc := 82) dX2_addShape_82 rfl ?_
              refine x_aload (pc := 83) dX2_addShape_83 rfl ?_
              refine t_Vi (pc := 85) (c_X2_fits (by first | assumption | omega) RP) qV_X2_fits mL_X2_59 dX2_addShape_85 rfl (cell_sheet (by first | assumption | omega)) (sB_255 (by first | assumption | omega)) rfl rfl rfl ⟨by decide, by decide⟩ (Nat.le_of_ble_eq_true rfl) (Nat.le_of_ble_eq_true rfl) (Nat.le_of_ble_eq_true rfl) ?_
              simp only [edgF, shpF, updF_same]
              rw [fitB_4 (f' := plF (fun _ => 0) c r w h) (fun q hq => plF_8 _ _ _ _ _ _ q (by omega))]
              have hb : badB c r w h = false := badB_eq (b01_ne c7) (b01_ne c17) (b01_ne c27) (b01_ne c38) c46 c55
              refine x_ifne (pc := 88) 94 dX2_addShape_88 (by decide) (fun c88 => ?_) (fun c88 => ?_)
              · refine x_aload_n (pc := 94) dX2_addShape_94 rfl ?_
                refine x_get (pc := 95) (ci := 2) (k := 3) (C := RX2) (T := TX2) (N := 10) (cell_sheet (by first | assumption | omega)) rfl (sB_255 (by first | assumption | omega)) rfl nX2 (by decide) mF_X2_25 rfl dX2_addShape_95 ?_
                rw [hR.told]
                refine x_bipush (pc := 98) (12) dX2_addShape_98 (by decide) ?_
                refine x_cmplt (pc := 100) 106 dX2_addShape_100 (by decide) (fun c100 => ?_) (fun c100 => ?_)
                · refine x_aload_n (pc := 106) dX2_addShape_106 rfl ?_
                  refine x_dup (pc := 107) dX2_addShape_107 rfl ?_
                  refine x_get (pc := 108) (ci := 2) (k := 3) (C := RX2) (T := TX2) (N := 10) (cell_sheet (by first | assumption | omega)) rfl (sB_255 (by first | assumption | omega)) rfl nX2 (by decide) mF_X2_25 rfl dX2_addShape_108 ?_
                  rw [hR.told]
                  refine x_iconst (pc := 111) (1) dX2_addShape_111 (by decide) ?_
                  refine x_iadd (pc := 112) dX2_addShape_112 ?_
                  refine t_putSh (pc := 113) (by first | assumption | omega) 0 (by decide) mF_X2_25 dX2_addShape_113 ?_
                  try dsimp only
                  have hk1 : A.1 < 12 := (lt_lit (n := 12) rfl (by decide) (by omega)).mp c100
                  have RA := RC_add hR hk1 (σ.2.2.2.1 A.1) (σ.2.2.2.2 A.1) (fun _ => 0) c r w h
                  simp only [edgF, shpF] at RA
                  refine x_aload_n (pc := 116) dX2_addShape_116 rfl ?_
                  refine x_get (pc := 117) (ci := 2) (k := 3) (C := RX2) (T := TX2) (N := 10) (cell_sheet (by first | assumption | omega)) rfl (sB_255 (by first | assumption | omega)) rfl nX2 (by decide) mF_X2_25 rfl dX2_addShape_117 ?_
                  try dsimp only
                  rw [upd_same]
                  refine x_iconst (pc := 120) (1) dX2_addShape_120 (by decide) ?_
                  refine x_isub (pc := 121) dX2_addShape_121 ?_
                  rw [Int32.add_sub_cancel]
                  have t := b01_ne c88
                  exact x_iret rfl dX2_addShape_122 ⟨_, by simp only [tellX, hb, t, Bool.false_eq_true, if_false, if_true, if_pos hk1], rfl, rfl, by simp only [tellX, hb, t, Bool.false_eq_true, if_false, if_true, if_pos hk1, nI_1]; exact RA⟩
                · refine x_bipush (pc := 103) (-3) dX2_addShape_103 (by decide) ?_
                  have t := b01_ne c88
                  have hk1 : ¬ A.1 < 12 := fun z => c100 ((lt_lit (n := 12) rfl (by decide) (by omega)).mpr z)
                  exact x_iret rfl dX2_addShape_105 ⟨_, by simp only [tellX, hb, t, Bool.false_eq_true, if_false, if_true, if_neg hk1], rfl, rfl, by simp only [tellX, hb, t, Bool.false_eq_true, if_false, if_true, if_neg hk1]; exact RP⟩
              · refine x_bipush (pc := 91) (-4) dX2_addShape_91 (by decide) ?_
                have t := b01_eq c88
                exact x_iret rfl dX2_addShape_93 ⟨_, by simp only [tellX, hb, t, Bool.false_eq_true, if_false], rfl, rfl, by simp only [tellX, hb, t, Bool.false_eq_true, if_false]; exact RP⟩
            · refine x_bipush (pc := 58) (-2) dX2_addShape_58 (by decide) ?_
              have tt : badB c r w h = true := by
                first
                | (have t := b01_eq c7; simp only [badB, t, Bool.false_and, Bool.not_false])
                | (have t := b01_eq c17; simp only [badB, t, Bool.and_false, Bool.false_and, Bool.not_false])
                | (have t := b01_eq c27; simp only [badB, t, Bool.and_false, Bool.false_and, Bool.not_false])
                | (have t := b01_eq c38; simp only [badB, t, Bool.and_false, Bool.false_and, Bool.not_false])
                | (have t := decide_eq_true (show (32 : Int32) < c + w from c46); simp only [badB, t, Bool.not_true, Bool.and_false, Bool.false_and, Bool.not_false])
                | (have t := decide_eq_true (show (24 : Int32) < r + h from c55); simp only [badB, t, Bool.not_true, Bool.and_false, Bool.not_false])
              exact x_iret rfl dX2_addShape_60 ⟨σ, by simp only [tellX, tt, if_true], rfl, rfl, by simp only [tellX, tt, if_true]; exact hR⟩
theorem coolA_t (A : Ab) (x : Int32) : (coolA A x).1 = A.1 := rfl
theorem nextX_1 {A : Ab} {q : Nat} (h : besO A A.1 = some q) : nextX A = (some q, cutA A q) := by simp only [nextX, h]
theorem nextX_2 {A : Ab} (h : besO A A.1 = none) (h2 : fewV A A.1 = -5) : nextX A = (none, A) := by simp only [nextX, h, if_pos h2]
theorem nextX_3 {A : Ab} {q : Nat} (h : besO A A.1 = none) (h2 : ¬ fewV A A.1 = -5) (h3 : besO (coolA A (fewV A A.1)) A.1 = some q) : nextX A = (some q, cutA (coolA A (fewV A A.1)) q) := by simp only [nextX, h, if_neg h2, h3]
theorem nextX_4 {A : Ab} (h : besO A A.1 = none) (h2 : ¬ fewV A A.1 = -5) (h3 : besO (coolA A (fewV A A.1)) A.1 = none) : nextX A = (none, coolA A (fewV A A.1)) := by simp only [nextX, h, if_neg h2, h3]
set_option maxHeartbeats 4000000 in
set_option maxRecDepth 100000 in
theorem tl_X2_cutNext (hj : j < 8) (hR : RC σ A) (hi : i < A.1) (hw : whyV A i = 0) : XJ G YX2_cutNext (fun _ => True) (Zx G (RS G (some (.int (nI i))) S j B M (cutA A i)) 0 0) 35 [(0, .ref (gB G + sB j)), (1, .int (nI i))] [] (nN G) (cellOf G (updS S j σ) B M) 0 0 := by
  have h12 := hR.le
  refine x_iload_n (pc := 35) dX2_cutNext_35 rfl ?_
  refine x_bipush (pc := 36) (-5) dX2_cutNext_36 (by decide) ?_
  refine x_cmpeq (pc := 38) 47 dX2_cutNext_38 (by decide) (fun c38 => absurd c38 (nI_ne5 (by omega))) (fun c38 => ?_)
  refine x_aload_n (pc := 41) dX2_cutNext_41 rfl ?_
  refine x_iload_n (pc := 42) dX2_cutNext_42 rfl ?_
  refine e_Vi (pc := 43) (c_X2_cutShape (by first | assumption | omega) hR _) qV_X2_cutShape mL_X2_161 dX2_cutNext_43 rfl (cell_sheet (by first | assumption | omega)) (sB_255 (by first | assumption | omega)) rfl rfl rfl ⟨by decide, by decide⟩ (Nat.le_of_ble_eq_true rfl) (Nat.le_of_ble_eq_true rfl) (Nat.le_of_ble_eq_true rfl) ?_
  intro σ2 R2
  refine x_pop (pc := 46) dX2_cutNext_46 rfl ?_
  refine x_iload_n (pc := 47) dX2_cutNext_47 rfl ?_
  exact x_iret rfl dX2_cutNext_48 ⟨σ2, rfl, rfl, rfl, by rw [cutX_nI hR.le hi hw] at R2; exact R2⟩
set_option maxHeartbeats 4000000 in
set_option maxRecDepth 100000 in
theorem c_X2_cutNext (hj : j < 8) (hR : RC σ A) : Ct G yX2_cutNext YX2_cutNext 0 0 [.ref (gB G + sB j)] (nN G) (cellOf G (updS S j σ) B M) (RS G (some (.int (oV (nextX A).1))) S j B M ((nextX A).2)) := by
  refine ct_of (by decide +kernel) rfl rfl (Nat.le_of_ble_eq_true rfl) (by simp [Value.category]) ?_
  refine x_sub (l' := [(0, .ref (gB G + sB j))]) ⟨rfl, trivial⟩ ?_
  have h12 := hR.le
  refine x_aload_n (pc := 0) dX2_cutNext_0 rfl ?_
  refine t_Vi (pc := 1) (c_X2_bestShape (by first | assumption | omega) hR) qV_X2_bestShape mL_X2_155 dX2_cutNext_1 rfl (cell_sheet (by first | assumption | omega)) (sB_255 (by first | assumption | omega)) rfl rfl rfl ⟨by decide, by decide⟩ (Nat.le_of_ble_eq_true rfl) (Nat.le_of_ble_eq_true rfl) (Nat.le_of_ble_eq_true rfl) ?_
  refine x_istore_n (pc := 4) dX2_cutNext_4 (by decide) ?_
  refine x_iload_n (pc := 5) dX2_cutNext_5 rfl ?_
  refine x_bipush (pc := 6) (-5) dX2_cutNext_6 (by decide) ?_
  refine x_cmpne (pc := 8) 35 dX2_cutNext_8 (by decide) (fun c8 => ?_) (fun c8 => ?_)
  · obtain ⟨q, hq⟩ := oV_some c8
    have hqt := besO_lt hq
    have e1 := tl_X2_cutNext (G := G) (S := S) (B := B) (M := M) hj hR hqt (besO_why hq)
    rw [nextX_1 hq, hq]
    first
    | exact x_back e1 ⟨rfl, rfl, trivial⟩
    | (show XJ _ _ _ _ _ ((_, .int (oV (besO (coolA A (fewV A A.1)) A.1))) :: _) _ _ _ _ _
       rcases hb2 : besO (coolA A (fewV A A.1)) A.1 with _ | q
       · rw [nextX_4 hn c19 hb2]
         refine x_iload_n (pc := 35) dX2_cutNext_35 rfl ?_
         refine x_bipush (pc := 36) (-5) dX2_cutNext_36 (by decide) ?_
         refine x_cmpeq (pc := 38) 47 dX2_cutNext_38 (by decide) (fun _ => ?_) (fun h => absurd h (by decide))
         refine x_iload_n (pc := 47) dX2_cutNext_47 rfl ?_
         exact x_iret rfl dX2_cutNext_48 ⟨σ1, rfl, rfl, rfl, R1⟩
       · have hqt : q < (coolA A (fewV A A.1)).1 := besO_lt hb2
         have e := tl_X2_cutNext (G := G) (S := S) (B := B) (M := M) hj R1 hqt (besO_why hb2)
         rw [nextX_3 hn c19 hb2]
         exact x_back e ⟨rfl, rfl, trivial⟩)
  · have hbl : ∀ q, besO A A.1 = some q → q < 2 ^ 31 := fun q hq => by have := besO_lt hq; omega
    have hn := oV_none hbl c8
    refine x_aload_n (pc := 11) dX2_cutNext_11 rfl ?_
    refine t_Vi (pc := 12) (c_X2_fewestTicksToCool (by first | assumption | omega) hR) qV_X2_fewestTicksToCool mL_X2_158 dX2_cutNext_12 rfl (cell_sheet (by first | assumption | omega)) (sB_255 (by first | assumption | omega)) rfl rfl rfl ⟨by decide, by decide⟩ (Nat.le_of_ble_eq_true rfl) (Nat.le_of_ble_eq_true rfl) (Nat.le_of_ble_eq_true rfl) ?_
    refine x_istore_n (pc := 15) dX2_cutNext_15 (by decide) ?_
    refine x_iload_n (pc := 16) dX2_cutNext_16 rfl ?_
    refine x_bipush (pc := 17) (-5) dX2_cutNext_17 (by decide) ?_
    refine x_cmpne (pc := 19) 25 dX2_cutNext_19 (by decide) (fun c19 => ?_) (fun c19 => ?_)
    · refine x_aload_n (pc := 25) dX2_cutNext_25 rfl ?_
      refine x_iload_n (pc := 26) dX2_cutNext_26 rfl ?_
      refine e_Vv (pc := 27) (c_X2_coolFor (by first | assumption | omega) hR _) qV_X2_coolFor mL_X2_93 dX2_cutNext_27 rfl (cell_sheet (by first | assumption | omega)) (sB_255 (by first | assumption | omega)) rfl rfl rfl ⟨by decide, by decide⟩ (Nat.le_of_ble_eq_true rfl) (Nat.le_of_ble_eq_true rfl) (Nat.le_of_ble_eq_true rfl) ?_
      intro σ1 R1
      refine x_aload_n (pc := 30) dX2_cutNext_30 rfl ?_
      refine t_Vi (pc := 31) (c_X2_bestShape (by first | assumption | omega) R1) qV_X2_bestShape mL_X2_155 dX2_cutNext_31 rfl (cell_sheet (by first | assumption | omega)) (sB_255 (by first | assumption | omega)) rfl rfl rfl ⟨by decide, by decide⟩ (Nat.le_of_ble_eq_true rfl) (Nat.le_of_ble_eq_true rfl) (Nat.le_of_ble_eq_true rfl) ?_
      refine x_istore_n (pc := 34) dX2_cutNext_34 (by decide) ?_
      first
      | exact x_back e1 ⟨rfl, rfl, trivial⟩
      | (show XJ _ _ _ _ _ ((_, .int (oV (besO (coolA A (fewV A A.1)) A.1))) :: _) _ _ _ _ _
         rcases hb2 : besO (coolA A (fewV A A.1)) A.1 with _ | q
         · rw [nextX_4 hn c19 hb2]
           refine x_iload_n (pc := 35) dX2_cutNext_35 rfl ?_
           refine x_bipush (pc := 36) (-5) dX2_cutNext_36 (by decide) ?_
           refine x_cmpeq (pc := 38) 47 dX2_cutNext_38 (by decide) (fun _ => ?_) (fun h => absurd h (by decide))
           refine x_iload_n (pc := 47) dX2_cutNext_47 rfl ?_
           exact x_iret rfl dX2_cutNext_48 ⟨σ1, rfl, rfl, rfl, R1⟩
         · have hqt : q < (coolA A (fewV A A.1)).1 := besO_lt hb2
           have e := tl_X2_cutNext (G := G) (S := S) (B := B) (M := M) hj R1 hqt (besO_why hb2)
           rw [nextX_3 hn c19 hb2]
           exact x_back e ⟨rfl, rfl, trivial⟩)
    · refine x_bipush (pc := 22) (-5) dX2_cutNext_22 (by decide) ?_
      exact x_iret rfl dX2_cutNext_24 ⟨σ, by rw [nextX_2 hn c19]; rfl, rfl, rfl, by rw [nextX_2 hn c19]; exact hR⟩
def shE (τ : Sh) (A : Ab) (k : Nat) : Prop := (∀ i, i < k → ∀ q, q < 8 → τ.2.2.2.1 i q = A.2.2.2.2 i q) ∧ (∀ i, i < k → ∀ q, q < 12 → τ.2.2.2.2 i q = edgQ (A.2.2.2.2 i) q)
theorem shE_s {τ ρ : Sh} {A : Ab} (h : RC ρ A) {k : Nat} (hk : k < A.1) (hE : shE τ A k) : shE (edgF (shpF τ k (cpF (τ.2.2.2.1 k) (ρ.2.2.2.1 k) 8)) k (cpF (τ.2.2.2.2 k) (ρ.2.2.2.2 k) 12)) A (k + 1) := by
  refine ⟨fun i hi q hq => ?_, fun i hi q hq => ?_⟩
  · show updF τ.2.2.2.1 k _ i q = _
    by_cases e : i = k
    · subst e; rw [updF_same, cpF_in _ _ hq]; exact h.shp hk q hq
    · rw [updF_ne _ _ e]; exact hE.1 i (by omega) q hq
  · show updF τ.2.2.2.2 k _ i q = _
    by_cases e : i = k
    · subst e; rw [updF_same, cpF_in _ _ hq]; exact h.edg hk q hq
    · rw [updF_ne _ _ e]; exact hE.2 i (by omega) q hq
theorem RC_cp {τ ρ : Sh} {A : Ab} (h : RC ρ A) (hE : shE τ A A.1) (I0 H0 T0 : Fs) : RC (cpF I0 ρ.1 7, cpF H0 ρ.2.1 12, cpF T0 ρ.2.2.1 4, τ.2.2.2) A :=
  ⟨h.1, (cpF_in I0 ρ.1 (show 0 < 7 by decide)).trans h.told, fun k h1 h2 => (cpF_in I0 ρ.1 h2).trans (h.int k h1 h2), fun k hk => (cpF_in H0 ρ.2.1 hk).trans (h.heat k hk), fun k hk => (cpF_in T0 ρ.2.2.1 hk).trans (h.sett k hk), hE.1, hE.2⟩
set_option maxHeartbeats 4000000 in
set_option maxRecDepth 100000 in
theorem c_X2_copyFrom {j2 : Nat} (hj : j < 8) (hj2 : j2 < 8) (hne : j2 ≠ j) (hR : RC (S j2) A) : Ct G yX2_copyFrom YX2_copyFrom 0 0 [.ref (gB G + sB j), .ref (gB G + sB j2)] (nN G) (cellOf G (updS S j σ) B M) (RS G (none) S j B M (A)) := by
  refine ct_of (by decide +kernel) rfl rfl (Nat.le_of_ble_eq_true rfl) (by simp [Value.category]) ?_
  refine x_sub (l' := [(0, .ref (gB G + sB j)), (1, .ref (gB G + sB j2))]) ⟨rfl, rfl, trivial⟩ ?_
  have h12 := hR.le
  have lp3 : ∀ k, k ≤ 4 → ∀ τ : Sh, shE τ A A.1 → XJ G YX2_copyFrom (fun _ => True) (Zx G (RS G (none) S j B M (A)) 0 0) 59 [(0, .ref (gB G + sB j)), (1, .ref (gB G + sB j2)), (2, .int (nI k))] [] (nN G) (cellOf G (updS S j (τ.1, cpF τ.2.1 (S j2).2.1 12, cpF τ.2.2.1 (S j2).2.2.1 k, τ.2.2.2)) B M) 0 0 := by
    refine loopD (4) ?_
    intro k hk ih τ hE
    refine x_iload_n (pc := 59) dX2_copyFrom_59 rfl ?_
    refine x_iconst (pc := 60) (4) dX2_copyFrom_60 (by decide) ?_
    refine x_cmpge (pc := 61) 82 dX2_copyFrom_61 (by decide) (fun c61 => ?_) (fun c61 => ?_)
    · obtain rfl : k = 4 := by have := mt (lt_lit (n := 4) rfl (by decide) (by omega)).mpr c61; omega
      refine x_aload_n (pc := 82) dX2_copyFrom_82 rfl ?_
      refine x_aload_n (pc := 83) dX2_copyFrom_83 rfl ?_
      refine x_get (pc := 84) (ci := 2) (k := 3) (C := RX2) (T := TX2) (N := 10) (cell_sheet2 (by assumption) (by assumption)) rfl (sB_255 (by assumption)) rfl nX2 (by decide) mF_X2_25 rfl dX2_copyFrom_84 ?_
      refine t_putSh (pc := 87) (by first | assumption | omega) 0 (by decide) mF_X2_25 dX2_copyFrom_87 ?_
      try dsimp only
      refine x_aload_n (pc := 90) dX2_copyFrom_90 rfl ?_
      refine x_aload_n (pc := 91) dX2_copyFrom_91 rfl ?_
      refine x_get (pc := 92) (ci := 2) (k := 4) (C := RX2) (T := TX2) (N := 10) (cell_sheet2 (by assumption) (by assumption)) rfl (sB_255 (by assumption)) rfl nX2 (by decide) mF_X2_29 rfl dX2_copyFrom_92 ?_
      refine t_putSh (pc := 95) (by first | assumption | omega) 1 (by decide) mF_X2_29 dX2_copyFrom_95 ?_
      try dsimp only
      refine x_aload_n (pc := 98) dX2_copyFrom_98 rfl ?_
      refine x_aload_n (pc := 99) dX2_copyFrom_99 rfl ?_
      refine x_get (pc := 100) (ci := 2) (k := 5) (C := RX2) (T := TX2) (N := 10) (cell_sheet2 (by assumption) (by assumption)) rfl (sB_255 (by assumption)) rfl nX2 (by decide) mF_X2_32 rfl dX2_copyFrom_100 ?_
      refine t_putSh (pc := 103) (by first | assumption | omega) 2 (by decide) mF_X2_32 dX2_copyFrom_103 ?_
      try dsimp only
      refine x_aload_n (pc := 106) dX2_copyFrom_106 rfl ?_
      refine x_aload_n (pc := 107) dX2_copyFrom_107 rfl ?_
      refine x_get (pc := 108) (ci := 2) (k := 6) (C := RX2) (T := TX2) (N := 10) (cell_sheet2 (by assumption) (by assumption)) rfl (sB_255 (by assumption)) rfl nX2 (by decide) mF_X2_35 rfl dX2_copyFrom_108 ?_
      refine t_putSh (pc := 111) (by first | assumption | omega) 3 (by decide) mF_X2_35 dX2_copyFrom_111 ?_
      try dsimp only
      refine x_aload_n (pc := 114) dX2_copyFrom_114 rfl ?_
      refine x_aload_n (pc := 115) dX2_copyFrom_115 rfl ?_
      refine x_get (pc := 116) (ci := 2) (k := 7) (C := RX2) (T := TX2) (N := 10) (cell_sheet2 (by assumption) (by assumption)) rfl (sB_255 (by assumption)) rfl nX2 (by decide) mF_X2_38 rfl dX2_copyFrom_116 ?_
      refine t_putSh (pc := 119) (by first | assumption | omega) 4 (by decide) mF_X2_38 dX2_copyFrom_119 ?_
      try dsimp only
      refine x_aload_n (pc := 122) dX2_copyFrom_122 rfl ?_
      refine x_aload_n (pc := 123) dX2_copyFrom_123 rfl ?_
      refine x_get (pc := 124) (ci := 2) (k := 8) (C := RX2) (T := TX2) (N := 10) (cell_sheet2 (by assumption) (by assumption)) rfl (sB_255 (by assumption)) rfl nX2 (by decide) mF_X2_41 rfl dX2_copyFrom_124 ?_
      refine t_putSh (pc := 127) (by first | assumption | omega) 5 (by decide) mF_X2_41 dX2_copyFrom_127 ?_
      try dsimp only
      refine x_aload_n (pc := 130) dX2_copyFrom_130 rfl ?_
      refine x_aload_n (pc := 131) dX2_copyFrom_131 rfl ?_
      refine x_get (pc := 132) (ci := 2) (k := 9) (C := RX2) (T := TX2) (N := 10) (cell_sheet2 (by assumption) (by assumption)) rfl (sB_255 (by assumption)) rfl nX2 (by decide) mF_X2_44 rfl dX2_copyFrom_132 ?_
      refine t_putSh (pc := 135) (by first | assumption | omega) 6 (by decide) mF_X2_44 dX2_copyFrom_135 ?_
      try dsimp only
      rw [cpF_7]
      exact x_vret rfl dX2_copyFrom_138 ⟨_, rfl, rfl, rfl, RC_cp hR hE _ _ _⟩
    · have hkn : k < 4 := (lt_lit rfl (by decide) (by omega)).mp c61
      refine x_aload_n (pc := 64) dX2_copyFrom_64 rfl ?_
      refine x_get (pc := 65) (ci := 2) (k := 2) (C := RX2) (T := TX2) (N := 10) (cell_sheet (by first | assumption | omega)) rfl (sB_255 (by first | assumption | omega)) rfl nX2 (by decide) mF_X2_22 rfl dX2_copyFrom_65 ?_
      refine x_iload_n (pc := 68) dX2_copyFrom_68 rfl ?_
      refine x_aload_n (pc := 69) dX2_copyFrom_69 rfl ?_
      refine x_get (pc := 70) (ci := 2) (k := 2) (C := RX2) (T := TX2) (N := 10) (cell_sheet2 (by assumption) (by assumption)) rfl (sB_255 (by assumption)) rfl nX2 (by decide) mF_X2_22 rfl dX2_copyFrom_70 ?_
      refine x_iload_n (pc := 73) dX2_copyFrom_73 rfl ?_
      refine t_ild (pc := 74) _ (cell_sets2 (by assumption) (by assumption)) (stO_255 (by assumption)) rfl (by first | assumption | omega) (by decide) dX2_copyFrom_74 ?_
      refine t_stSets (pc := 75) (by first | assumption | omega) _ (by first | assumption | omega) rfl dX2_copyFrom_75 ?_
      try dsimp only
      refine x_iinc (pc := 76) (nI (k + 1)) dX2_copyFrom_76 rfl (iinc_nI k) (by decide) ?_
      refine x_goto (pc := 79) 59 dX2_copyFrom_79 (by decide) ?_
      have e := ih hkn τ hE
      rw [← cpF_s τ.2.2.1 _ k] at e
      exact x_back e ⟨rfl, rfl, rfl, trivial⟩
  have lp2 : ∀ k, k ≤ 12 → ∀ τ : Sh, shE τ A A.1 → XJ G YX2_copyFrom (fun _ => True) (Zx G (RS G (none) S j B M (A)) 0 0) 33 [(0, .ref (gB G + sB j)), (1, .ref (gB G + sB j2)), (2, .int (nI k))] [] (nN G) (cellOf G (updS S j (τ.1, cpF τ.2.1 (S j2).2.1 k, τ.2.2)) B M) 0 0 := by
    refine loopD (12) ?_
    intro k hk ih τ hE
    refine x_iload_n (pc := 33) dX2_copyFrom_33 rfl ?_
    refine x_bipush (pc := 34) (12) dX2_copyFrom_34 (by decide) ?_
    refine x_cmpge (pc := 36) 57 dX2_copyFrom_36 (by decide) (fun c36 => ?_) (fun c36 => ?_)
    · obtain rfl : k = 12 := by have := mt (lt_lit (n := 12) rfl (by decide) (by omega)).mpr c36; omega
      refine x_iconst (pc := 57) (0) dX2_copyFrom_57 (by decide) ?_
      refine x_istore_n (pc := 58) dX2_copyFrom_58 (by decide) ?_
      have e := lp3 0 (by omega) τ hE
      rw [cpF_0] at e
      exact x_back e ⟨rfl, rfl, rfl, trivial⟩
    · have hkn : k < 12 := (lt_lit rfl (by decide) (by omega)).mp c36
      refine x_aload_n (pc := 39) dX2_copyFrom_39 rfl ?_
      refine x_get (pc := 40) (ci := 2) (k := 1) (C := RX2) (T := TX2) (N := 10) (cell_sheet (by first | assumption | omega)) rfl (sB_255 (by first | assumption | omega)) rfl nX2 (by decide) mF_X2_18 rfl dX2_copyFrom_40 ?_
      refine x_iload_n (pc := 43) dX2_copyFrom_43 rfl ?_
      refine x_aload_n (pc := 44) dX2_copyFrom_44 rfl ?_
      refine x_get (pc := 45) (ci := 2) (k := 1) (C := RX2) (T := TX2) (N := 10) (cell_sheet2 (by assumption) (by assumption)) rfl (sB_255 (by assumption)) rfl nX2 (by decide) mF_X2_18 rfl dX2_copyFrom_45 ?_
      refine x_iload_n (pc := 48) dX2_copyFrom_48 rfl ?_
      refine t_ild (pc := 49) _ (cell_heats2 (by assumption) (by assumption)) (htO_255 (by assumption)) rfl (by first | assumption | omega) (by decide) dX2_copyFrom_49 ?_
      refine t_stHeats (pc := 50) (by first | assumption | omega) _ (by first | assumption | omega) rfl dX2_copyFrom_50 ?_
      try dsimp only
      refine x_iinc (pc := 51) (nI (k + 1)) dX2_copyFrom_51 rfl (iinc_nI k) (by decide) ?_
      refine x_goto (pc := 54) 33 dX2_copyFrom_54 (by decide) ?_
      have e := ih hkn τ hE
      rw [← cpF_s τ.2.1 _ k] at e
      exact x_back e ⟨rfl, rfl, rfl, trivial⟩
  have lp1 : ∀ k, k ≤ A.1 → ∀ τ : Sh, shE τ A k → XJ G YX2_copyFrom (fun _ => True) (Zx G (RS G (none) S j B M (A)) 0 0) 2 [(0, .ref (gB G + sB j)), (1, .ref (gB G + sB j2)), (2, .int (nI k))] [] (nN G) (cellOf G (updS S j τ) B M) 0 0 := by
    refine loopD (A.1) ?_
    intro k hk ih τ hE
    refine x_iload_n (pc := 2) dX2_copyFrom_2 rfl ?_
    refine x_aload_n (pc := 3) dX2_copyFrom_3 rfl ?_
    refine x_get (pc := 4) (ci := 2) (k := 3) (C := RX2) (T := TX2) (N := 10) (cell_sheet2 (by assumption) (by assumption)) rfl (sB_255 (by assumption)) rfl nX2 (by decide) mF_X2_25 rfl dX2_copyFrom_4 ?_
    rw [hR.told]
    refine x_cmpge (pc := 7) 31 dX2_copyFrom_7 (by decide) (fun c7 => ?_) (fun c7 => ?_)
    · obtain rfl : k = A.1 := by have := mt (tl_iff hR.le hk).mpr c7; omega
      refine x_iconst (pc := 31) (0) dX2_copyFrom_31 (by decide) ?_
      refine x_istore_n (pc := 32) dX2_copyFrom_32 (by decide) ?_
      have e := lp2 0 (by omega) τ hE
      rw [cpF_0] at e
      exact x_back e ⟨rfl, rfl, rfl, trivial⟩
    · have hkn : k < A.1 := (tl_iff hR.le hk).mp c7
      refine x_aload_n (pc := 10) dX2_copyFrom_10 rfl ?_
      refine x_get (pc := 11) (ci := 2) (k := 0) (C := RX2) (T := TX2) (N := 10) (cell_sheet (by first | assumption | omega)) rfl (sB_255 (by first | assumption | omega)) rfl nX2 (by decide) mF_X2_13 rfl dX2_copyFrom_11 ?_
      refine x_iload_n (pc := 14) dX2_copyFrom_14 rfl ?_
      refine t_shapes (pc := 15) _ (by first | assumption | omega) rfl (by first | assumption | omega) dX2_copyFrom_15 ?_
      refine x_aload_n (pc := 16) dX2_copyFrom_16 rfl ?_
      refine x_get (pc := 17) (ci := 2) (k := 0) (C := RX2) (T := TX2) (N := 10) (cell_sheet2 (by assumption) (by assumption)) rfl (sB_255 (by assumption)) rfl nX2 (by decide) mF_X2_13 rfl dX2_copyFrom_17 ?_
      refine x_iload_n (pc := 20) dX2_copyFrom_20 rfl ?_
      refine t_shapes (pc := 21) _ (by first | assumption | omega) rfl (by first | assumption | omega) dX2_copyFrom_21 ?_
      refine t_Vv (pc := 22) (c_X1_copyFrom (by first | assumption | omega) hj2 hne (by first | assumption | omega)) qV_X1_copyFrom mL_X2_47 dX2_copyFrom_22 rfl (cell_shape (by first | assumption | omega) (by first | assumption | omega)) (shO_255 (by first | assumption | omega) (by first | assumption | omega)) rfl rfl rfl ⟨by decide, by decide⟩ (Nat.le_of_ble_eq_true rfl) (Nat.le_of_ble_eq_true rfl) (Nat.le_of_ble_eq_true rfl) ?_
      refine x_iinc (pc := 25) (nI (k + 1)) dX2_copyFrom_25 rfl (iinc_nI k) (by decide) ?_
      refine x_goto (pc := 28) 2 dX2_copyFrom_28 (by decide) ?_
      have e := ih hkn _ (shE_s hR hkn hE)
      exact x_back e ⟨rfl, rfl, rfl, trivial⟩
  refine x_iconst (pc := 0) (0) dX2_copyFrom_0 (by decide) ?_
  refine x_istore_n (pc := 1) dX2_copyFrom_1 (by decide) ?_
  exact x_back (lp1 0 (by omega) σ ⟨fun _ h => absurd h (by omega), fun _ h => absurd h (by omega)⟩) ⟨rfl, rfl, rfl, trivial⟩
end SHEET5
end
section
/-! the class: BeamCuts, history (rows laid by wip/whole/p20.py) -/
section GENS
variable {G : GX} {S : Nat → Sh} {B : Bc} {M : Md} {j i : Nat} {σ : Sh}
variable {A : Ab}
theorem g_copyFrom {j2 : Nat} (hj : j < 8) (hj2 : j2 < 8) (hne : j2 ≠ j) (hR : RC (S j2) A) : Ct G yX2_copyFrom YX2_copyFrom 0 0 [.ref (gB G + sB j), .ref (gB G + sB j2)] (nN G) (cellOf G S B M) (RS G none S j B M A) := by
  have e := c_X2_copyFrom (G := G) (S := S) (B := B) (M := M) (j := j) (σ := S j) hj hj2 hne hR
  rwa [updS_self] at e
theorem g_addShape (hj : j < 8) (hR : RC (S j) A) (c r w h : Int32) : Ct G yX2_addShape YX2_addShape 0 0 [.ref (gB G + sB j), .int c, .int r, .int w, .int h] (nN G) (cellOf G S B M) (RS G (some (.int (tellX A c r w h).1)) S j B M (tellX A c r w h).2) := by
  have e := c_X2_addShape (G := G) (S := S) (B := B) (M := M) (j := j) (σ := S j) hj hR c r w h
  rwa [updS_self] at e
theorem g_changeLead (hj : j < 8) (hR : RC (S j) A) (v c : Int32) : Ct G yX2_changeLead YX2_changeLead 0 0 [.ref (gB G + sB j), .int v, .int c] (nN G) (cellOf G S B M) (RS G (some (.int (leadX A v c).1)) S j B M (leadX A v c).2) := by
  have e := c_X2_changeLead (G := G) (S := S) (B := B) (M := M) (j := j) (σ := S j) hj hR v c
  rwa [updS_self] at e
theorem g_changeSetting (hj : j < 8) (hR : RC (S j) A) (w v : Int32) : Ct G yX2_changeSetting YX2_changeSetting 0 0 [.ref (gB G + sB j), .int w, .int v] (nN G) (cellOf G S B M) (RS G (some (.int (setX A w v).1)) S j B M (setX A w v).2) := by
  have e := c_X2_changeSetting (G := G) (S := S) (B := B) (M := M) (j := j) (σ := S j) hj hR w v
  rwa [updS_self] at e
theorem g_cutShape (hj : j < 8) (hR : RC (S j) A) (v : Int32) : Ct G yX2_cutShape YX2_cutShape 0 0 [.ref (gB G + sB j), .int v] (nN G) (cellOf G S B M) (RS G (some (.int (cutX A v).1)) S j B M (cutX A v).2) := by
  have e := c_X2_cutShape (G := G) (S := S) (B := B) (M := M) (j := j) (σ := S j) hj hR v
  rwa [updS_self] at e
theorem g_waitFor (hj : j < 8) (hR : RC (S j) A) (v : Int32) : Ct G yX2_waitFor YX2_waitFor 0 0 [.ref (gB G + sB j), .int v] (nN G) (cellOf G S B M) (RS G (some (.int (waitX A v).1)) S j B M (waitX A v).2) := by
  have e := c_X2_waitFor (G := G) (S := S) (B := B) (M := M) (j := j) (σ := S j) hj hR v
  rwa [updS_self] at e
theorem g_cleanLens (hj : j < 8) (hR : RC (S j) A) : Ct G yX2_cleanLens YX2_cleanLens 0 0 [.ref (gB G + sB j)] (nN G) (cellOf G S B M) (RS G (some (.int (cleanX A).1)) S j B M (cleanX A).2) := by
  have e := c_X2_cleanLens (G := G) (S := S) (B := B) (M := M) (j := j) (σ := S j) hj hR 
  rwa [updS_self] at e
theorem g_cutNext (hj : j < 8) (hR : RC (S j) A) : Ct G yX2_cutNext YX2_cutNext 0 0 [.ref (gB G + sB j)] (nN G) (cellOf G S B M) (RS G (some (.int (oV (nextX A).1))) S j B M (nextX A).2) := by
  have e := c_X2_cutNext (G := G) (S := S) (B := B) (M := M) (j := j) (σ := S j) hj hR
  rwa [updS_self] at e
theorem g_knows (hj : j < 8) (hR : RC (S j) A) (v : Int32) : Ct G yX2_knows YX2_knows 0 0 [.ref (gB G + sB j), .int v] (nN G) (cellOf G S B M) (Rt G (some (.int (b01 (knB A v)))) S B M) := by
  have e := c_X2_knows (G := G) (S := S) (B := B) (M := M) (j := j) (σ := S j) hj hR v
  rwa [updS_self] at e
theorem g_factOfShape (hj : j < 8) (hR : RC (S j) A) (v w : Int32) : Ct G yX2_factOfShape YX2_factOfShape 0 0 [.ref (gB G + sB j), .int v, .int w] (nN G) (cellOf G S B M) (Rt G (some (.int (factX A v w))) S B M) := by
  have e := c_X2_factOfShape (G := G) (S := S) (B := B) (M := M) (j := j) (σ := S j) hj hR v w
  rwa [updS_self] at e
theorem g_heatIn (hj : j < 8) (hR : RC (S j) A) (v : Int32) : Ct G yX2_heatIn YX2_heatIn 0 0 [.ref (gB G + sB j), .int v] (nN G) (cellOf G S B M) (Rt G (some (.int (hinV A.2.2.1 v))) S B M) := by
  have e := c_X2_heatIn (G := G) (S := S) (B := B) (M := M) (j := j) (σ := S j) hj hR v
  rwa [updS_self] at e
theorem g_ticksToCut (hj : j < 8) (hR : RC (S j) A) (v : Int32) : Ct G yX2_ticksToCut YX2_ticksToCut 0 0 [.ref (gB G + sB j), .int v] (nN G) (cellOf G S B M) (Rt G (some (.int (tcX A v))) S B M) := by
  have e := c_X2_ticksToCut (G := G) (S := S) (B := B) (M := M) (j := j) (σ := S j) hj hR v
  rwa [updS_self] at e
theorem g_ticksToCool (hj : j < 8) (hR : RC (S j) A) (v : Int32) : Ct G yX2_ticksToCool YX2_ticksToCool 0 0 [.ref (gB G + sB j), .int v] (nN G) (cellOf G S B M) (Rt G (some (.int (kcX A v))) S B M) := by
  have e := c_X2_ticksToCool (G := G) (S := S) (B := B) (M := M) (j := j) (σ := S j) hj hR v
  rwa [updS_self] at e
theorem g_bestShape (hj : j < 8) (hR : RC (S j) A) : Ct G yX2_bestShape YX2_bestShape 0 0 [.ref (gB G + sB j)] (nN G) (cellOf G S B M) (Rt G (some (.int (oV (besO A A.1)))) S B M) := by
  have e := c_X2_bestShape (G := G) (S := S) (B := B) (M := M) (j := j) (σ := S j) hj hR 
  rwa [updS_self] at e
theorem g_shapesThatAre (hj : j < 8) (hR : RC (S j) A) (v : Int32) : Ct G yX2_shapesThatAre YX2_shapesThatAre 0 0 [.ref (gB G + sB j), .int v] (nN G) (cellOf G S B M) (Rt G (some (.int (cntN A.2.2.2.2 v A.1))) S B M) := by
  have e := c_X2_shapesThatAre (G := G) (S := S) (B := B) (M := M) (j := j) (σ := S j) hj hR v
  rwa [updS_self] at e
theorem g_factOfSheet (hj : j < 8) (hR : RC (S j) A) (w : Int32) : Ct G yX2_factOfSheet YX2_factOfSheet 0 0 [.ref (gB G + sB j), .int w] (nN G) (cellOf G S B M) (Rt G (some (.int (sheetX A w))) S B M) := by
  have e := c_X2_factOfSheet (G := G) (S := S) (B := B) (M := M) (j := j) (σ := S j) hj hR w
  rwa [updS_self] at e
theorem g_reasonAgainst (hj : j < 8) (hR : RC (S j) A) (i : Nat) (hi : i < A.1) : Ct G yX2_reasonAgainst YX2_reasonAgainst 0 0 [.ref (gB G + sB j), .int (nI i)] (nN G) (cellOf G S B M) (Rt G (some (.int (whyV A i))) S B M) := by
  have e := c_X2_reasonAgainst (G := G) (S := S) (B := B) (M := M) (j := j) (σ := S j) hj hR hi
  rwa [updS_self] at e
end GENS
def HR (S : Nat → Sh) (B : Bc) (h : List Ab) : Prop := B.1 0 = nI h.length ∧ h.length ≤ 4 ∧ (∀ k, k < 4 → 4 ≤ B.2.1 k ∧ B.2.1 k < 8) ∧ (∀ k q, k < 4 → q < 4 → B.2.1 k = B.2.1 q → k = q) ∧ ∀ k A, h[k]? = some A → RC (S (B.2.1 k)) A
def pushH (h : List Ab) (A : Ab) : List Ab := if h.length = 4 then h.drop 1 ++ [A] else h ++ [A]
theorem HR_S {S S' : Nat → Sh} {B : Bc} {h : List Ab} (hH : HR S B h) (hS : ∀ q, 4 ≤ q → S' q = S q) : HR S' B h := by
  obtain ⟨h1, h2, h3, h4, h5⟩ := hH
  refine ⟨h1, h2, h3, h4, fun k A hk => ?_⟩
  have hl := (List.getElem?_eq_some_iff.mp hk).1
  rw [hS _ (h3 k (by omega)).1]
  exact h5 k A hk
theorem HR_B {S : Nat → Sh} {B B' : Bc} {h : List Ab} (hH : HR S B h) (h1 : B'.1 0 = B.1 0) (h2 : B'.2.1 = B.2.1) : HR S B' h := by
  obtain ⟨a1, a2, a3, a4, a5⟩ := hH
  exact ⟨h1.trans a1, a2, by rw [h2]; exact a3, by rw [h2]; exact a4, by rw [h2]; exact a5⟩
def rotN (f : Nat → Nat) : Nat → Nat := updN (updN (updN (updN f 0 (f 1)) 1 (f 2)) 2 (f 3)) 3 (f 0)
theorem updN_same (f : Nat → Nat) (k v : Nat) : updN f k v k = v := by simp [updN]
theorem updN_ne (f : Nat → Nat) {k j : Nat} (v : Nat) (h : j ≠ k) : updN f k v j = f j := by simp [updN, h]
theorem rotN_0 (f : Nat → Nat) : rotN f 0 = f 1 := rfl
theorem rotN_1 (f : Nat → Nat) : rotN f 1 = f 2 := rfl
theorem rotN_2 (f : Nat → Nat) : rotN f 2 = f 3 := rfl
theorem rotN_3 (f : Nat → Nat) : rotN f 3 = f 0 := rfl
theorem rotN_s (f : Nat → Nat) {k : Nat} (hk : k < 3) : rotN f k = f (k + 1) := by
  match k, hk with
  | 0, _ => rfl
  | 1, _ => rfl
  | 2, _ => rfl
theorem HR_rot {S : Nat → Sh} {B : Bc} {h : List Ab} (hH : HR S B h) (hl : h.length = 4) : HR S (upd B.1 0 3, rotN B.2.1, B.2.2) (h.drop 1) := by
  obtain ⟨h1, h2, h3, h4, h5⟩ := hH
  have key : ∀ k, k < 4 → ∃ q, q < 4 ∧ rotN B.2.1 k = B.2.1 q ∧ q = (k + 1) % 4 := by
    intro k hk
    match k, hk with
    | 0, _ => exact ⟨1, by decide, rfl, rfl⟩
    | 1, _ => exact ⟨2, by decide, rfl, rfl⟩
    | 2, _ => exact ⟨3, by decide, rfl, rfl⟩
    | 3, _ => exact ⟨0, by decide, rfl, rfl⟩
  refine ⟨?_, by rw [List.length_drop]; omega, fun k hk => ?_, fun k q hk hq e => ?_, fun k A hk => ?_⟩
  · show upd B.1 0 3 0 = _
    rw [upd_same, List.length_drop, hl]; rfl
  · obtain ⟨q, hq, e, -⟩ := key k hk
    show 4 ≤ rotN B.2.1 k ∧ rotN B.2.1 k < 8
    rw [e]; exact h3 q hq
  · obtain ⟨a, ha, e1, e2⟩ := key k hk
    obtain ⟨b, hb, f1, f2⟩ := key q hq
    have e : rotN B.2.1 k = rotN B.2.1 q := e
    rw [e1, f1] at e
    have := h4 a b ha hb e
    omega
  · have hk3 : k < 3 := by
      have := (List.getElem?_eq_some_iff.mp hk).1
      rw [List.length_drop] at this
      omega
    show RC (S (rotN B.2.1 k)) A
    rw [rotN_s _ hk3]
    refine h5 (k + 1) A ?_
    rw [List.getElem?_drop] at hk
    rw [Nat.add_comm]; exact hk
theorem HR_add {S : Nat → Sh} {B : Bc} {h : List Ab} (hH : HR S B h) (hl : h.length < 4) {σ : Sh} {A : Ab} (hR : RC σ A) : HR (updS S (B.2.1 h.length) σ) (upd B.1 0 (nI (h.length + 1)), B.2) (h ++ [A]) := by
  obtain ⟨h1, h2, h3, h4, h5⟩ := hH
  refine ⟨?_, by rw [List.length_append]; show h.length + 1 ≤ 4; omega, h3, h4, fun k A' hk => ?_⟩
  · show upd B.1 0 _ 0 = _
    rw [upd_same, List.length_append]; rfl
  · show RC (updS S (B.2.1 h.length) σ (B.2.1 k)) A'
    by_cases e : k < h.length
    · rw [List.getElem?_append_left e] at hk
      rw [updS_ne _ _ (fun z => by have := h4 k h.length (by omega) hl z; omega)]
      exact h5 k A' hk
    · rw [List.getElem?_append_right (by omega)] at hk
      have h0 : k - h.length < 1 := by
        have := (List.getElem?_eq_some_iff.mp hk).1
        simpa using this
      have hkk : k = h.length := by omega
      subst hkk
      rw [Nat.sub_self] at hk
      cases hk
      rw [updS_same]
      exact hR
section REC
variable {G : GX} {S : Nat → Sh} {B : Bc} {M : Md} {j i : Nat} {σ : Sh}
variable {A : Ab} {h : List Ab}
set_option maxHeartbeats 4000000 in
set_option maxRecDepth 100000 in
theorem c_X3_dropOldestState (h0 : B.2.1 0 < 8) (h1 : B.2.1 1 < 8) (h2 : B.2.1 2 < 8) (h3 : B.2.1 3 < 8) : Ct G yX3_dropOldestState YX3_dropOldestState 0 0 [.ref (gB G + 0)] (nN G) (cellOf G S B M) (Rt G none S (upd B.1 0 3, rotN B.2.1, B.2.2) M) := by
  refine ct_of (by decide +kernel) rfl rfl (Nat.le_of_ble_eq_true rfl) (by simp [Value.category]) ?_
  refine x_sub (l' := [(0, .ref (gB G + 0))]) ⟨rfl, trivial⟩ ?_
  refine x_aload_n (pc := 0) dX3_dropOldestState_0 rfl ?_
  refine x_get (pc := 1) (ci := 3) (k := 4) (C := RX3) (T := TX3) (N := 10) cell_bc rfl (nN_lt (by decide)) rfl nX3 (by decide) mF_X3_25 rfl dX3_dropOldestState_1 ?_
  refine x_iconst (pc := 4) (0) dX3_dropOldestState_4 (by decide) ?_
  refine t_hist (pc := 5) 0 (by decide) (by decide) dX3_dropOldestState_5 ?_
  refine x_astore_n (pc := 6) dX3_dropOldestState_6 (by decide) ?_
  refine x_iconst (pc := 7) (1) dX3_dropOldestState_7 (by decide) ?_
  refine x_istore_n (pc := 8) dX3_dropOldestState_8 (by decide) ?_
  refine x_iload_n (pc := 9) dX3_dropOldestState_9 rfl ?_
  refine x_iconst (pc := 10) (4) dX3_dropOldestState_10 (by decide) ?_
  refine x_cmpge (pc := 11) 34 dX3_dropOldestState_11 (by decide) (fun h => absurd h (by decide)) (fun _ => ?_)
  refine x_aload_n (pc := 14) dX3_dropOldestState_14 rfl ?_
  refine x_get (pc := 15) (ci := 3) (k := 4) (C := RX3) (T := TX3) (N := 10) cell_bc rfl (nN_lt (by decide)) rfl nX3 (by decide) mF_X3_25 rfl dX3_dropOldestState_15 ?_
  refine x_iload_n (pc := 18) dX3_dropOldestState_18 rfl ?_
  refine x_iconst (pc := 19) (1) dX3_dropOldestState_19 (by decide) ?_
  refine x_isub (pc := 20) dX3_dropOldestState_20 ?_
  refine x_aload_n (pc := 21) dX3_dropOldestState_21 rfl ?_
  refine x_get (pc := 22) (ci := 3) (k := 4) (C := RX3) (T := TX3) (N := 10) cell_bc rfl (nN_lt (by decide)) rfl nX3 (by decide) mF_X3_25 rfl dX3_dropOldestState_22 ?_
  refine x_iload_n (pc := 25) dX3_dropOldestState_25 rfl ?_
  refine t_hist (pc := 26) 1 (by decide) (by decide) dX3_dropOldestState_26 ?_
  try dsimp only
  try simp only [updN_ne _ _ (show (2 : Nat) ≠ 0 by decide), updN_ne _ _ (show (3 : Nat) ≠ 1 by decide), updN_ne _ _ (show (3 : Nat) ≠ 0 by decide)]
  refine t_stHist (pc := 27) 0 _ (by decide) (by first | assumption | omega) (by decide) dX3_dropOldestState_27 ?_
  try dsimp only
  refine x_iinc (pc := 28) (_ + (1)) dX3_dropOldestState_28 rfl rfl (by decide) ?_
  refine x_goto (pc := 31) 9 dX3_dropOldestState_31 (by decide) ?_
  refine x_iload_n (pc := 9) dX3_dropOldestState_9 rfl ?_
  refine x_iconst (pc := 10) (4) dX3_dropOldestState_10 (by decide) ?_
  refine x_cmpge (pc := 11) 34 dX3_dropOldestState_11 (by decide) (fun h => absurd h (by decide)) (fun _ => ?_)
  refine x_aload_n (pc := 14) dX3_dropOldestState_14 rfl ?_
  refine x_get (pc := 15) (ci := 3) (k := 4) (C := RX3) (T := TX3) (N := 10) cell_bc rfl (nN_lt (by decide)) rfl nX3 (by decide) mF_X3_25 rfl dX3_dropOldestState_15 ?_
  refine x_iload_n (pc := 18) dX3_dropOldestState_18 rfl ?_
  refine x_iconst (pc := 19) (1) dX3_dropOldestState_19 (by decide) ?_
  refine x_isub (pc := 20) dX3_dropOldestState_20 ?_
  refine x_aload_n (pc := 21) dX3_dropOldestState_21 rfl ?_
  refine x_get (pc := 22) (ci := 3) (k := 4) (C := RX3) (T := TX3) (N := 10) cell_bc rfl (nN_lt (by decide)) rfl nX3 (by decide) mF_X3_25 rfl dX3_dropOldestState_22 ?_
  refine x_iload_n (pc := 25) dX3_dropOldestState_25 rfl ?_
  refine t_hist (pc := 26) 2 (by decide) (by decide) dX3_dropOldestState_26 ?_
  try dsimp only
  try simp only [updN_ne _ _ (show (2 : Nat) ≠ 0 by decide), updN_ne _ _ (show (3 : Nat) ≠ 1 by decide), updN_ne _ _ (show (3 : Nat) ≠ 0 by decide)]
  refine t_stHist (pc := 27) 1 _ (by decide) (by first | assumption | omega) (by decide) dX3_dropOldestState_27 ?_
  try dsimp only
  refine x_iinc (pc := 28) (_ + (1)) dX3_dropOldestState_28 rfl rfl (by decide) ?_
  refine x_goto (pc := 31) 9 dX3_dropOldestState_31 (by decide) ?_
  refine x_iload_n (pc := 9) dX3_dropOldestState_9 rfl ?_
  refine x_iconst (pc := 10) (4) dX3_dropOldestState_10 (by decide) ?_
  refine x_cmpge (pc := 11) 34 dX3_dropOldestState_11 (by decide) (fun h => absurd h (by decide)) (fun _ => ?_)
  refine x_aload_n (pc := 14) dX3_dropOldestState_14 rfl ?_
  refine x_get (pc := 15) (ci := 3) (k := 4) (C := RX3) (T := TX3) (N := 10) cell_bc rfl (nN_lt (by decide)) rfl nX3 (by decide) mF_X3_25 rfl dX3_dropOldestState_15 ?_
  refine x_iload_n (pc := 18) dX3_dropOldestState_18 rfl ?_
  refine x_iconst (pc := 19) (1) dX3_dropOldestState_19 (by decide) ?_
  refine x_isub (pc := 20) dX3_dropOldestState_20 ?_
  refine x_aload_n (pc := 21) dX3_dropOldestState_21 rfl ?_
  refine x_get (pc := 22) (ci := 3) (k := 4) (C := RX3) (T := TX3) (N := 10) cell_bc rfl (nN_lt (by decide)) rfl nX3 (by decide) mF_X3_25 rfl dX3_dropOldestState_22 ?_
  refine x_iload_n (pc := 25) dX3_dropOldestState_25 rfl ?_
  refine t_hist (pc := 26) 3 (by decide) (by decide) dX3_dropOldestState_26 ?_
  try dsimp only
  try simp only [updN_ne _ _ (show (2 : Nat) ≠ 0 by decide), updN_ne _ _ (show (3 : Nat) ≠ 1 by decide), updN_ne _ _ (show (3 : Nat) ≠ 0 by decide)]
  refine t_stHist (pc := 27) 2 _ (by decide) (by first | assumption | omega) (by decide) dX3_dropOldestState_27 ?_
  try dsimp only
  refine x_iinc (pc := 28) (_ + (1)) dX3_dropOldestState_28 rfl rfl (by decide) ?_
  refine x_goto (pc := 31) 9 dX3_dropOldestState_31 (by decide) ?_
  refine x_iload_n (pc := 9) dX3_dropOldestState_9 rfl ?_
  refine x_iconst (pc := 10) (4) dX3_dropOldestState_10 (by decide) ?_
  refine x_cmpge (pc := 11) 34 dX3_dropOldestState_11 (by decide) (fun _ => ?_) (fun h => absurd h (by decide))
  refine x_aload_n (pc := 34) dX3_dropOldestState_34 rfl ?_
  refine x_get (pc := 35) (ci := 3) (k := 4) (C := RX3) (T := TX3) (N := 10) cell_bc rfl (nN_lt (by decide)) rfl nX3 (by decide) mF_X3_25 rfl dX3_dropOldestState_35 ?_
  refine x_iconst (pc := 38) (3) dX3_dropOldestState_38 (by decide) ?_
  refine x_aload_n (pc := 39) dX3_dropOldestState_39 rfl ?_
  refine t_stHist (pc := 40) 3 _ (by decide) (by first | assumption | omega) (by decide) dX3_dropOldestState_40 ?_
  try dsimp only
  refine x_aload_n (pc := 41) dX3_dropOldestState_41 rfl ?_
  refine x_iconst (pc := 42) (3) dX3_dropOldestState_42 (by decide) ?_
  refine t_putBc (pc := 43) 0 (by decide) rfl rfl mF_X3_36 dX3_dropOldestState_43 ?_
  try dsimp only
  exact x_vret rfl dX3_dropOldestState_46 ⟨rfl, rfl, rfl⟩
set_option maxHeartbeats 4000000 in
set_option maxRecDepth 100000 in
theorem tl_X3_recorded {h' : List Ab} (hH : HR S B h') (hl : h'.length < 4) (hR : RC (S 1) A) (v : Int32) : XJ G YX3_recorded (fun _ => True) (Zx G (Re G (some (.int v)) (fun a : (Nat → Sh) × Bc => a.1) (fun a => a.2) (fun _ => M) (fun a => a.1 0 = S 0 ∧ a.1 3 = S 3 ∧ (∀ k, k ≠ 0 → a.2.1 k = B.1 k) ∧ a.2.2.2 = B.2.2 ∧ HR a.1 a.2 (h' ++ [A]))) 0 0) 16 [(0, .ref (gB G + 0)), (1, .int v)] [] (nN G) (cellOf G S B M) 0 0 := by
  have hb := hH.2.2.1 h'.length hl
  have hb8 := hb.2
  refine x_aload_n (pc := 16) dX3_recorded_16 rfl ?_
  refine x_get (pc := 17) (ci := 3) (k := 4) (C := RX3) (T := TX3) (N := 10) cell_bc rfl (nN_lt (by decide)) rfl nX3 (by decide) mF_X3_25 rfl dX3_recorded_17 ?_
  refine x_aload_n (pc := 20) dX3_recorded_20 rfl ?_
  refine x_get (pc := 21) (ci := 3) (k := 6) (C := RX3) (T := TX3) (N := 10) cell_bc rfl (nN_lt (by decide)) rfl nX3 (by decide) mF_X3_36 rfl dX3_recorded_21 ?_
  try dsimp only
  rw [hH.1]
  refine t_hist (pc := 24) h'.length rfl hl dX3_recorded_24 ?_
  refine x_aload_n (pc := 25) dX3_recorded_25 rfl ?_
  refine x_get (pc := 26) (ci := 3) (k := 1) (C := RX3) (T := TX3) (N := 10) cell_bc rfl (nN_lt (by decide)) rfl nX3 (by decide) mF_X3_16 rfl dX3_recorded_26 ?_
  refine e_Vv (pc := 29) (g_copyFrom (j := B.2.1 h'.length) (j2 := 1) hb8 (by decide) (by omega) hR) qV_X2_copyFrom mL_X3_50 dX3_recorded_29 rfl (cell_sheet' (by first | assumption | omega)) (sB_255 (by first | assumption | omega)) rfl rfl rfl ⟨by decide, by decide⟩ (Nat.le_of_ble_eq_true rfl) (Nat.le_of_ble_eq_true rfl) (Nat.le_of_ble_eq_true rfl) ?_
  intro σ1 R1
  refine x_aload_n (pc := 32) dX3_recorded_32 rfl ?_
  refine x_dup (pc := 33) dX3_recorded_33 rfl ?_
  refine x_get (pc := 34) (ci := 3) (k := 6) (C := RX3) (T := TX3) (N := 10) cell_bc rfl (nN_lt (by decide)) rfl nX3 (by decide) mF_X3_36 rfl dX3_recorded_34 ?_
  try dsimp only
  rw [hH.1]
  refine x_iconst (pc := 37) (1) dX3_recorded_37 (by decide) ?_
  refine x_iadd (pc := 38) dX3_recorded_38 ?_
  refine t_putBc (pc := 39) 0 (by decide) rfl rfl mF_X3_36 dX3_recorded_39 ?_
  try dsimp only
  refine x_iload_n (pc := 42) dX3_recorded_42 rfl ?_
  have e := HR_add hH hl R1
  rw [nI_1]
  exact x_iret rfl dX3_recorded_43 ⟨(_, _), rfl, rfl, rfl, updS_ne _ _ (by omega), updS_ne _ _ (by omega), fun k hk => upd_ne _ _ hk, rfl, e⟩
set_option maxHeartbeats 4000000 in
set_option maxRecDepth 100000 in
theorem c_X3_recorded (hH : HR S B h) (hR : RC (S 1) A) (v : Int32) : Ct G yX3_recorded YX3_recorded 0 0 [.ref (gB G + 0), .int v] (nN G) (cellOf G S B M) (Re G (some (.int v)) (fun a : (Nat → Sh) × Bc => a.1) (fun a => a.2) (fun _ => M) (fun a => a.1 0 = S 0 ∧ a.1 3 = S 3 ∧ (∀ k, k ≠ 0 → a.2.1 k = B.1 k) ∧ a.2.2.2 = B.2.2 ∧ HR a.1 a.2 (if v < 0 then h else pushH h A))) := by
  refine ct_of (by decide +kernel) rfl rfl (Nat.le_of_ble_eq_true rfl) (by simp [Value.category]) ?_
  refine x_sub (l' := [(0, .ref (gB G + 0)), (1, .int v)]) ⟨rfl, rfl, trivial⟩ ?_
  have h4 := hH.2.1
  have hb := hH.2.2.1
  refine x_iload_n (pc := 0) dX3_recorded_0 rfl ?_
  refine x_iflt (pc := 1) 42 dX3_recorded_1 (by decide) (fun c1 => ?_) (fun c1 => ?_)
  · refine x_iload_n (pc := 42) dX3_recorded_42 rfl ?_
    exact x_iret rfl dX3_recorded_43 ⟨(_, _), rfl, rfl, rfl, rfl, rfl, fun _ _ => rfl, rfl, by rw [if_pos c1]; exact hH⟩
  · refine x_aload_n (pc := 4) dX3_recorded_4 rfl ?_
    refine x_get (pc := 5) (ci := 3) (k := 6) (C := RX3) (T := TX3) (N := 10) cell_bc rfl (nN_lt (by decide)) rfl nX3 (by decide) mF_X3_36 rfl dX3_recorded_5 ?_
    try dsimp only
    rw [hH.1]
    refine x_iconst (pc := 8) (4) dX3_recorded_8 (by decide) ?_
    refine x_cmplt (pc := 9) 16 dX3_recorded_9 (by decide) (fun c9 => ?_) (fun c9 => ?_)
    · have hl : h.length < 4 := (lt_lit (n := 4) rfl (by decide) (by omega)).mp c9
      first
      | (have hlt : h.length < 4 := hl
         have e := tl_X3_recorded (G := G) (M := M) hH hlt hR v
         have ep : pushH h A = h ++ [A] := if_neg (by omega)
         rw [← ep, ← if_neg (c := v < 0) (t := h) (e := pushH h A) c1] at e
         exact x_back e ⟨rfl, rfl, trivial⟩)
      | (have e := tl_X3_recorded (G := G) (M := M) (HR_rot hH hl) (by rw [List.length_drop]; omega) hR v
         have ep : pushH h A = h.drop 1 ++ [A] := if_pos hl
         rw [← ep, ← if_neg (c := v < 0) (t := h) (e := pushH h A) c1] at e
         refine x_back (x_post e ?_) ⟨rfl, rfl, trivial⟩
         intro v n cs hh
         obtain ⟨a, q1, q2, q3, q4, q5, q6, q7, q8⟩ := hh
         exact ⟨a, q1, q2, q3, q4, q5, fun k hk => (q6 k hk).trans (upd_ne _ _ hk), q7, q8⟩)
    · have hl : h.length = 4 := by have := mt (lt_lit (n := 4) (x := 4) rfl (by decide) (by omega)).mpr c9; omega
      refine x_aload_n (pc := 12) dX3_recorded_12 rfl ?_
      refine t_Vv (pc := 13) (c_X3_dropOldestState (hb 0 (by decide)).2 (hb 1 (by decide)).2 (hb 2 (by decide)).2 (hb 3 (by decide)).2) qV_X3_dropOldestState mL_X3_138 dX3_recorded_13 rfl cell_bc (nN_lt (by decide)) rfl rfl rfl ⟨by decide, by decide⟩ (Nat.le_of_ble_eq_true rfl) (Nat.le_of_ble_eq_true rfl) (Nat.le_of_ble_eq_true rfl) ?_
      first
      | (have hlt : h.length < 4 := hl
         have e := tl_X3_recorded (G := G) (M := M) hH hlt hR v
         have ep : pushH h A = h ++ [A] := if_neg (by omega)
         rw [← ep, ← if_neg (c := v < 0) (t := h) (e := pushH h A) c1] at e
         exact x_back e ⟨rfl, rfl, trivial⟩)
      | (have e := tl_X3_recorded (G := G) (M := M) (HR_rot hH hl) (by rw [List.length_drop]; omega) hR v
         have ep : pushH h A = h.drop 1 ++ [A] := if_pos hl
         rw [← ep, ← if_neg (c := v < 0) (t := h) (e := pushH h A) c1] at e
         refine x_back (x_post e ?_) ⟨rfl, rfl, trivial⟩
         intro v n cs hh
         obtain ⟨a, q1, q2, q3, q4, q5, q6, q7, q8⟩ := hh
         exact ⟨a, q1, q2, q3, q4, q5, fun k hk => (q6 k hk).trans (upd_ne _ _ hk), q7, q8⟩)
end REC
end
section
/-! the class: BeamCuts, all calls but perform (rows laid by wip/whole/p21.py) -/
/-- the whole value: the sheet, the history (oldest first), the snapshot, the text, the latest stop -/
abbrev Wt : Type := Ab × List Ab × Option Ab × (Nat × Fs) × Option (Nat × Int32)
def snR (S : Nat → Sh) (B : Bc) : Option Ab → Prop
  | none => B.1 1 = 0
  | some A => B.1 1 = 1 ∧ RC (S 3) A
def txR (B : Bc) (t : Nat × Fs) : Prop := B.2.2.1 0 = nI t.1 ∧ t.1 ≤ 60 ∧ ∀ p, p < t.1 → B.2.2.2.1 p = t.2 p
def stR (B : Bc) : Option (Nat × Int32) → Prop
  | none => B.1 3 = 0
  | some z => B.1 2 = nI z.1 ∧ B.1 3 = z.2 ∧ z.2 < 0
def GC (S : Nat → Sh) (B : Bc) (w : Wt) : Prop := RC (S 0) w.1 ∧ HR S B w.2.1 ∧ snR S B w.2.2.1 ∧ txR B w.2.2.2.1 ∧ stR B w.2.2.2.2
def recX (w : Wt) (r : Int32 × Ab) : Int32 × Wt := (r.1, (r.2, if r.1 < 0 then w.2.1 else pushH w.2.1 w.1, w.2.2))
def undX (w : Wt) : Int32 × Wt := match w.2.1.getLast? with
  | none => (-5, w)
  | some A => (nI (w.2.1.length - 1), (A, w.2.1.dropLast, w.2.2))
def keepX (w : Wt) : Int32 × Wt := (nI w.1.1, (w.1, w.2.1, some w.1, w.2.2.2))
def resX (w : Wt) : Int32 × Wt := match w.2.2.1 with
  | none => (-5, w)
  | some A => recX w (nI A.1, A)
def reaX (A : Ab) (v : Int32) : Int32 := if knB A v then whyV A v.toNatClampNeg else -1
def ordV (A : Ab) : Nat → Int32
  | 0 => oV (nextX A).1
  | k + 1 => match (nextX A).1 with
    | none => -5
    | some _ => ordV (nextX A).2 k
def ordX (A : Ab) (v : Int32) : Int32 := if v < 0 then -2 else if v < 12 then ordV A v.toNatClampNeg else -5
def finA (A : Ab) : Nat → Ab
  | 0 => A
  | k + 1 => match (nextX A).1 with
    | none => (nextX A).2
    | some _ => finA (nextX A).2 k
def allX (A : Ab) : Int32 := if cntN (finA A 12).2.2.2.2 0 (finA A 12).1 = 0 then (finA A 12).2.1 4 - A.2.1 4 else -5
def couX (w : Wt) (v : Int32) : Int32 := if v = 17 then nI w.2.1.length else if v = 18 then nI w.2.2.2.1.1 else sheetX w.1 v
theorem snR_k {S S' : Nat → Sh} {B B' : Bc} {o : Option Ab} (h : snR S B o) (h1 : S' 3 = S 3) (h2 : B'.1 1 = B.1 1) : snR S' B' o := by
  cases o with
  | none => exact h2.trans h
  | some A => exact ⟨h2.trans h.1, by rw [h1]; exact h.2⟩
theorem stR_k {B B' : Bc} {o : Option (Nat × Int32)} (h : stR B o) (h2 : B'.1 2 = B.1 2) (h3 : B'.1 3 = B.1 3) : stR B' o := by
  cases o with
  | none => exact h3.trans h
  | some A => exact ⟨h2.trans h.1, h3.trans h.2.1, h.2.2⟩
theorem GC_rec {S : Nat → Sh} {B : Bc} {w : Wt} {σ1 σ2 : Sh} {a : (Nat → Sh) × Bc} {r : Int32 × Ab} (hG : GC S B w) (R2 : RC σ2 r.2) (ha : a.1 0 = updS (updS S 1 σ1) 0 σ2 0 ∧ a.1 3 = updS (updS S 1 σ1) 0 σ2 3 ∧ (∀ k, k ≠ 0 → a.2.1 k = B.1 k) ∧ a.2.2.2 = B.2.2 ∧ HR a.1 a.2 (if r.1 < 0 then w.2.1 else pushH w.2.1 w.1)) : GC a.1 a.2 (recX w r).2 := by
  obtain ⟨g1, g2, g3, g4, g5⟩ := hG
  obtain ⟨a1, a2, a3, a4, a5⟩ := ha
  rw [updS_same] at a1
  rw [updS_ne _ _ (by decide), updS_ne _ _ (by decide)] at a2
  refine ⟨by rw [a1]; exact R2, a5, snR_k g3 a2 (a3 1 (by decide)), ?_, stR_k g5 (a3 2 (by decide)) (a3 3 (by decide))⟩
  unfold txR at *
  rw [a4]
  exact g4
section BEAM
variable {G : GX} {S : Nat → Sh} {B : Bc} {M : Md} {j i : Nat} {σ : Sh}
variable {w : Wt}
set_option maxHeartbeats 4000000 in
set_option maxRecDepth 100000 in
theorem c_X3_tell (hG : GC S B w) (c r x h : Int32) : Ct G yX3_tell YX3_tell 0 0 [.ref (gB G + 0), .int c, .int r, .int x, .int h] (nN G) (cellOf G S B M) (Re G (some (.int (recX w (tellX w.1 c r x h)).1)) (fun a : (Nat → Sh) × Bc => a.1) (fun a => a.2) (fun _ => M) (fun a => GC a.1 a.2 (recX w (tellX w.1 c r x h)).2)) := by
  refine ct_of (by decide +kernel) rfl rfl (Nat.le_of_ble_eq_true rfl) (by simp [Value.category]) ?_
  refine x_sub (l' := [(0, .ref (gB G + 0)), (1, .int c), (2, .int r), (3, .int x), (4, .int h)]) ⟨rfl, rfl, rfl, rfl, rfl, trivial⟩ ?_
  refine x_aload_n (pc := 0) dX3_tell_0 rfl ?_
  refine x_get (pc := 1) (ci := 3) (k := 1) (C := RX3) (T := TX3) (N := 10) cell_bc rfl (nN_lt (by decide)) rfl nX3 (by decide) mF_X3_16 rfl dX3_tell_1 ?_
  refine x_aload_n (pc := 4) dX3_tell_4 rfl ?_
  refine x_get (pc := 5) (ci := 3) (k := 0) (C := RX3) (T := TX3) (N := 10) cell_bc rfl (nN_lt (by decide)) rfl nX3 (by decide) mF_X3_10 rfl dX3_tell_5 ?_
  refine e_Vv (pc := 8) (g_copyFrom (j := 1) (j2 := 0) (by decide) (by decide) (by decide) hG.1) qV_X2_copyFrom mL_X3_50 dX3_tell_8 rfl (cell_sheet' (by first | assumption | omega)) (sB_255 (by first | assumption | omega)) rfl rfl rfl ⟨by decide, by decide⟩ (Nat.le_of_ble_eq_true rfl) (Nat.le_of_ble_eq_true rfl) (Nat.le_of_ble_eq_true rfl) ?_
  intro σ1 R1
  have hR0 : RC (updS S 1 σ1 0) w.1 := by rw [updS_ne _ _ (by decide)]; exact hG.1
  refine x_aload_n (pc := 11) dX3_tell_11 rfl ?_
  refine x_aload_n (pc := 12) dX3_tell_12 rfl ?_
  refine x_get (pc := 13) (ci := 3) (k := 0) (C := RX3) (T := TX3) (N := 10) cell_bc rfl (nN_lt (by decide)) rfl nX3 (by decide) mF_X3_10 rfl dX3_tell_13 ?_
  refine x_iload_n (pc := 16) dX3_tell_16 rfl ?_
  refine x_iload_n (pc := 17) dX3_tell_17 rfl ?_
  refine x_iload_n (pc := 18) dX3_tell_18 rfl ?_
  refine x_iload (pc := 19) dX3_tell_19 rfl ?_
  refine e_Vi (pc := 21) (g_addShape (j := 0) (by decide) hR0 c r x h) qV_X2_addShape mL_X3_54 dX3_tell_21 rfl (cell_sheet' (by first | assumption | omega)) (sB_255 (by first | assumption | omega)) rfl rfl rfl ⟨by decide, by decide⟩ (Nat.le_of_ble_eq_true rfl) (Nat.le_of_ble_eq_true rfl) (Nat.le_of_ble_eq_true rfl) ?_
  intro σ2 R2
  have hH2 : HR (updS (updS S 1 σ1) 0 σ2) B w.2.1 := HR_S hG.2.1 (fun q hq => by rw [updS_ne _ _ (by omega), updS_ne _ _ (by omega)])
  have hR1 : RC (updS (updS S 1 σ1) 0 σ2 1) w.1 := by rw [updS_ne _ _ (by decide), updS_same]; exact R1
  refine e_Vi (pc := 24) (c_X3_recorded hH2 hR1 _) qV_X3_recorded mL_X3_58 dX3_tell_24 rfl cell_bc (nN_lt (by decide)) rfl rfl rfl ⟨by decide, by decide⟩ (Nat.le_of_ble_eq_true rfl) (Nat.le_of_ble_eq_true rfl) (Nat.le_of_ble_eq_true rfl) ?_
  intro a ha
  exact x_iret rfl dX3_tell_27 ⟨a, rfl, rfl, rfl, GC_rec (σ1 := σ1) hG R2 ha⟩
set_option maxHeartbeats 4000000 in
set_option maxRecDepth 100000 in
theorem c_X3_setLead (hG : GC S B w) (v c : Int32) : Ct G yX3_setLead YX3_setLead 0 0 [.ref (gB G + 0), .int v, .int c] (nN G) (cellOf G S B M) (Re G (some (.int (recX w (leadX w.1 v c)).1)) (fun a : (Nat → Sh) × Bc => a.1) (fun a => a.2) (fun _ => M) (fun a => GC a.1 a.2 (recX w (leadX w.1 v c)).2)) := by
  refine ct_of (by decide +kernel) rfl rfl (Nat.le_of_ble_eq_true rfl) (by simp [Value.category]) ?_
  refine x_sub (l' := [(0, .ref (gB G + 0)), (1, .int v), (2, .int c)]) ⟨rfl, rfl, rfl, trivial⟩ ?_
  refine x_aload_n (pc := 0) dX3_setLead_0 rfl ?_
  refine x_get (pc := 1) (ci := 3) (k := 1) (C := RX3) (T := TX3) (N := 10) cell_bc rfl (nN_lt (by decide)) rfl nX3 (by decide) mF_X3_16 rfl dX3_setLead_1 ?_
  refine x_aload_n (pc := 4) dX3_setLead_4 rfl ?_
  refine x_get (pc := 5) (ci := 3) (k := 0) (C := RX3) (T := TX3) (N := 10) cell_bc rfl (nN_lt (by decide)) rfl nX3 (by decide) mF_X3_10 rfl dX3_setLead_5 ?_
  refine e_Vv (pc := 8) (g_copyFrom (j := 1) (j2 := 0) (by decide) (by decide) (by decide) hG.1) qV_X2_copyFrom mL_X3_50 dX3_setLead_8 rfl (cell_sheet' (by first | assumption | omega)) (sB_255 (by first | assumption | omega)) rfl rfl rfl ⟨by decide, by decide⟩ (Nat.le_of_ble_eq_true rfl) (Nat.le_of_ble_eq_true rfl) (Nat.le_of_ble_eq_true rfl) ?_
  intro σ1 R1
  have hR0 : RC (updS S 1 σ1 0) w.1 := by rw [updS_ne _ _ (by decide)]; exact hG.1
  refine x_aload_n (pc := 11) dX3_setLead_11 rfl ?_
  refine x_aload_n (pc := 12) dX3_setLead_12 rfl ?_
  refine x_get (pc := 13) (ci := 3) (k := 0) (C := RX3) (T := TX3) (N := 10) cell_bc rfl (nN_lt (by decide)) rfl nX3 (by decide) mF_X3_10 rfl dX3_setLead_13 ?_
  refine x_iload_n (pc := 16) dX3_setLead_16 rfl ?_
  refine x_iload_n (pc := 17) dX3_setLead_17 rfl ?_
  refine e_Vi (pc := 18) (g_changeLead (j := 0) (by decide) hR0 v c) qV_X2_changeLead mL_X3_62 dX3_setLead_18 rfl (cell_sheet' (by first | assumption | omega)) (sB_255 (by first | assumption | omega)) rfl rfl rfl ⟨by decide, by decide⟩ (Nat.le_of_ble_eq_true rfl) (Nat.le_of_ble_eq_true rfl) (Nat.le_of_ble_eq_true rfl) ?_
  intro σ2 R2
  have hH2 : HR (updS (updS S 1 σ1) 0 σ2) B w.2.1 := HR_S hG.2.1 (fun q hq => by rw [updS_ne _ _ (by omega), updS_ne _ _ (by omega)])
  have hR1 : RC (updS (updS S 1 σ1) 0 σ2 1) w.1 := by rw [updS_ne _ _ (by decide), updS_same]; exact R1
  refine e_Vi (pc := 21) (c_X3_recorded hH2 hR1 _) qV_X3_recorded mL_X3_58 dX3_setLead_21 rfl cell_bc (nN_lt (by decide)) rfl rfl rfl ⟨by decide, by decide⟩ (Nat.le_of_ble_eq_true rfl) (Nat.le_of_ble_eq_true rfl) (Nat.le_of_ble_eq_true rfl) ?_
  intro a ha
  exact x_iret rfl dX3_setLead_24 ⟨a, rfl, rfl, rfl, GC_rec (σ1 := σ1) hG R2 ha⟩
set_option maxHeartbeats 4000000 in
set_option maxRecDepth 100000 in
theorem c_X3_set (hG : GC S B w) (v c : Int32) : Ct G yX3_set YX3_set 0 0 [.ref (gB G + 0), .int v, .int c] (nN G) (cellOf G S B M) (Re G (some (.int (recX w (setX w.1 v c)).1)) (fun a : (Nat → Sh) × Bc => a.1) (fun a => a.2) (fun _ => M) (fun a => GC a.1 a.2 (recX w (setX w.1 v c)).2)) := by
  refine ct_of (by decide +kernel) rfl rfl (Nat.le_of_ble_eq_true rfl) (by simp [Value.category]) ?_
  refine x_sub (l' := [(0, .ref (gB G + 0)), (1, .int v), (2, .int c)]) ⟨rfl, rfl, rfl, trivial⟩ ?_
  refine x_aload_n (pc := 0) dX3_set_0 rfl ?_
  refine x_get (pc := 1) (ci := 3) (k := 1) (C := RX3) (T := TX3) (N := 10) cell_bc rfl (nN_lt (by decide)) rfl nX3 (by decide) mF_X3_16 rfl dX3_set_1 ?_
  refine x_aload_n (pc := 4) dX3_set_4 rfl ?_
  refine x_get (pc := 5) (ci := 3) (k := 0) (C := RX3) (T := TX3) (N := 10) cell_bc rfl (nN_lt (by decide)) rfl nX3 (by decide) mF_X3_10 rfl dX3_set_5 ?_
  refine e_Vv (pc := 8) (g_copyFrom (j := 1) (j2 := 0) (by decide) (by decide) (by decide) hG.1) qV_X2_copyFrom mL_X3_50 dX3_set_8 rfl (cell_sheet' (by first | assumption | omega)) (sB_255 (by first | assumption | omega)) rfl rfl rfl ⟨by decide, by decide⟩ (Nat.le_of_ble_eq_true rfl) (Nat.le_of_ble_eq_true rfl) (Nat.le_of_ble_eq_true rfl) ?_
  intro σ1 R1
  have hR0 : RC (updS S 1 σ1 0) w.1 := by rw [updS_ne _ _ (by decide)]; exact hG.1
  refine x_aload_n (pc := 11) dX3_set_11 rfl ?_
  refine x_aload_n (pc := 12) dX3_set_12 rfl ?_
  refine x_get (pc := 13) (ci := 3) (k := 0) (C := RX3) (T := TX3) (N := 10) cell_bc rfl (nN_lt (by decide)) rfl nX3 (by decide) mF_X3_10 rfl dX3_set_13 ?_
  refine x_iload_n (pc := 16) dX3_set_16 rfl ?_
  refine x_iload_n (pc := 17) dX3_set_17 rfl ?_
  refine e_Vi (pc := 18) (g_changeSetting (j := 0) (by decide) hR0 v c) qV_X2_changeSetting mL_X3_66 dX3_set_18 rfl (cell_sheet' (by first | assumption | omega)) (sB_255 (by first | assumption | omega)) rfl rfl rfl ⟨by decide, by decide⟩ (Nat.le_of_ble_eq_true rfl) (Nat.le_of_ble_eq_true rfl) (Nat.le_of_ble_eq_true rfl) ?_
  intro σ2 R2
  have hH2 : HR (updS (updS S 1 σ1) 0 σ2) B w.2.1 := HR_S hG.2.1 (fun q hq => by rw [updS_ne _ _ (by omega), updS_ne _ _ (by omega)])
  have hR1 : RC (updS (updS S 1 σ1) 0 σ2 1) w.1 := by rw [updS_ne _ _ (by decide), updS_same]; exact R1
  refine e_Vi (pc := 21) (c_X3_recorded hH2 hR1 _) qV_X3_recorded mL_X3_58 dX3_set_21 rfl cell_bc (nN_lt (by decide)) rfl rfl rfl ⟨by decide, by decide⟩ (Nat.le_of_ble_eq_true rfl) (Nat.le_of_ble_eq_true rfl) (Nat.le_of_ble_eq_true rfl) ?_
  intro a ha
  exact x_iret rfl dX3_set_24 ⟨a, rfl, rfl, rfl, GC_rec (σ1 := σ1) hG R2 ha⟩
set_option maxHeartbeats 4000000 in
set_option maxRecDepth 100000 in
theorem c_X3_cut (hG : GC S B w) (v : Int32) : Ct G yX3_cut YX3_cut 0 0 [.ref (gB G + 0), .int v] (nN G) (cellOf G S B M) (Re G (some (.int (recX w (cutX w.1 v)).1)) (fun a : (Nat → Sh) × Bc => a.1) (fun a => a.2) (fun _ => M) (fun a => GC a.1 a.2 (recX w (cutX w.1 v)).2)) := by
  refine ct_of (by decide +kernel) rfl rfl (Nat.le_of_ble_eq_true rfl) (by simp [Value.category]) ?_
  refine x_sub (l' := [(0, .ref (gB G + 0)), (1, .int v)]) ⟨rfl, rfl, trivial⟩ ?_
  refine x_aload_n (pc := 0) dX3_cut_0 rfl ?_
  refine x_get (pc := 1) (ci := 3) (k := 1) (C := RX3) (T := TX3) (N := 10) cell_bc rfl (nN_lt (by decide)) rfl nX3 (by decide) mF_X3_16 rfl dX3_cut_1 ?_
  refine x_aload_n (pc := 4) dX3_cut_4 rfl ?_
  refine x_get (pc := 5) (ci := 3) (k := 0) (C := RX3) (T := TX3) (N := 10) cell_bc rfl (nN_lt (by decide)) rfl nX3 (by decide) mF_X3_10 rfl dX3_cut_5 ?_
  refine e_Vv (pc := 8) (g_copyFrom (j := 1) (j2 := 0) (by decide) (by decide) (by decide) hG.1) qV_X2_copyFrom mL_X3_50 dX3_cut_8 rfl (cell_sheet' (by first | assumption | omega)) (sB_255 (by first | assumption | omega)) rfl rfl rfl ⟨by decide, by decide⟩ (Nat.le_of_ble_eq_true rfl) (Nat.le_of_ble_eq_true rfl) (Nat.le_of_ble_eq_true rfl) ?_
  intro σ1 R1
  have hR0 : RC (updS S 1 σ1 0) w.1 := by rw [updS_ne _ _ (by decide)]; exact hG.1
  refine x_aload_n (pc := 11) dX3_cut_11 rfl ?_
  refine x_aload_n (pc := 12) dX3_cut_12 rfl ?_
  refine x_get (pc := 13) (ci := 3) (k := 0) (C := RX3) (T := TX3) (N := 10) cell_bc rfl (nN_lt (by decide)) rfl nX3 (by decide) mF_X3_10 rfl dX3_cut_13 ?_
  refine x_iload_n (pc := 16) dX3_cut_16 rfl ?_
  refine e_Vi (pc := 17) (g_cutShape (j := 0) (by decide) hR0 v) qV_X2_cutShape mL_X3_69 dX3_cut_17 rfl (cell_sheet' (by first | assumption | omega)) (sB_255 (by first | assumption | omega)) rfl rfl rfl ⟨by decide, by decide⟩ (Nat.le_of_ble_eq_true rfl) (Nat.le_of_ble_eq_true rfl) (Nat.le_of_ble_eq_true rfl) ?_
  intro σ2 R2
  have hH2 : HR (updS (updS S 1 σ1) 0 σ2) B w.2.1 := HR_S hG.2.1 (fun q hq => by rw [updS_ne _ _ (by omega), updS_ne _ _ (by omega)])
  have hR1 : RC (updS (updS S 1 σ1) 0 σ2 1) w.1 := by rw [updS_ne _ _ (by decide), updS_same]; exact R1
  refine e_Vi (pc := 20) (c_X3_recorded hH2 hR1 _) qV_X3_recorded mL_X3_58 dX3_cut_20 rfl cell_bc (nN_lt (by decide)) rfl rfl rfl ⟨by decide, by decide⟩ (Nat.le_of_ble_eq_true rfl) (Nat.le_of_ble_eq_true rfl) (Nat.le_of_ble_eq_true rfl) ?_
  intro a ha
  exact x_iret rfl dX3_cut_23 ⟨a, rfl, rfl, rfl, GC_rec (σ1 := σ1) hG R2 ha⟩
set_option maxHeartbeats 4000000 in
set_option maxRecDepth 100000 in
theorem c_X3_pause (hG : GC S B w) (v : Int32) : Ct G yX3_pause YX3_pause 0 0 [.ref (gB G + 0), .int v] (nN G) (cellOf G S B M) (Re G (some (.int (recX w (waitX w.1 v)).1)) (fun a : (Nat → Sh) × Bc => a.1) (fun a => a.2) (fun _ => M) (fun a => GC a.1 a.2 (recX w (waitX w.1 v)).2)) := by
  refine ct_of (by decide +kernel) rfl rfl (Nat.le_of_ble_eq_true rfl) (by simp [Value.category]) ?_
  refine x_sub (l' := [(0, .ref (gB G + 0)), (1, .int v)]) ⟨rfl, rfl, trivial⟩ ?_
  refine x_aload_n (pc := 0) dX3_pause_0 rfl ?_
  refine x_get (pc := 1) (ci := 3) (k := 1) (C := RX3) (T := TX3) (N := 10) cell_bc rfl (nN_lt (by decide)) rfl nX3 (by decide) mF_X3_16 rfl dX3_pause_1 ?_
  refine x_aload_n (pc := 4) dX3_pause_4 rfl ?_
  refine x_get (pc := 5) (ci := 3) (k := 0) (C := RX3) (T := TX3) (N := 10) cell_bc rfl (nN_lt (by decide)) rfl nX3 (by decide) mF_X3_10 rfl dX3_pause_5 ?_
  refine e_Vv (pc := 8) (g_copyFrom (j := 1) (j2 := 0) (by decide) (by decide) (by decide) hG.1) qV_X2_copyFrom mL_X3_50 dX3_pause_8 rfl (cell_sheet' (by first | assumption | omega)) (sB_255 (by first | assumption | omega)) rfl rfl rfl ⟨by decide, by decide⟩ (Nat.le_of_ble_eq_true rfl) (Nat.le_of_ble_eq_true rfl) (Nat.le_of_ble_eq_true rfl) ?_
  intro σ1 R1
  have hR0 : RC (updS S 1 σ1 0) w.1 := by rw [updS_ne _ _ (by decide)]; exact hG.1
  refine x_aload_n (pc := 11) dX3_pause_11 rfl ?_
  refine x_aload_n (pc := 12) dX3_pause_12 rfl ?_
  refine x_get (pc := 13) (ci := 3) (k := 0) (C := RX3) (T := TX3) (N := 10) cell_bc rfl (nN_lt (by decide)) rfl nX3 (by decide) mF_X3_10 rfl dX3_pause_13 ?_
  refine x_iload_n (pc := 16) dX3_pause_16 rfl ?_
  refine e_Vi (pc := 17) (g_waitFor (j := 0) (by decide) hR0 v) qV_X2_waitFor mL_X3_72 dX3_pause_17 rfl (cell_sheet' (by first | assumption | omega)) (sB_255 (by first | assumption | omega)) rfl rfl rfl ⟨by decide, by decide⟩ (Nat.le_of_ble_eq_true rfl) (Nat.le_of_ble_eq_true rfl) (Nat.le_of_ble_eq_true rfl) ?_
  intro σ2 R2
  have hH2 : HR (updS (updS S 1 σ1) 0 σ2) B w.2.1 := HR_S hG.2.1 (fun q hq => by rw [updS_ne _ _ (by omega), updS_ne _ _ (by omega)])
  have hR1 : RC (updS (updS S 1 σ1) 0 σ2 1) w.1 := by rw [updS_ne _ _ (by decide), updS_same]; exact R1
  refine e_Vi (pc := 20) (c_X3_recorded hH2 hR1 _) qV_X3_recorded mL_X3_58 dX3_pause_20 rfl cell_bc (nN_lt (by decide)) rfl rfl rfl ⟨by decide, by decide⟩ (Nat.le_of_ble_eq_true rfl) (Nat.le_of_ble_eq_true rfl) (Nat.le_of_ble_eq_true rfl) ?_
  intro a ha
  exact x_iret rfl dX3_pause_23 ⟨a, rfl, rfl, rfl, GC_rec (σ1 := σ1) hG R2 ha⟩
set_option maxHeartbeats 4000000 in
set_option maxRecDepth 100000 in
theorem c_X3_clean (hG : GC S B w) : Ct G yX3_clean YX3_clean 0 0 [.ref (gB G + 0)] (nN G) (cellOf G S B M) (Re G (some (.int (recX w (cleanX w.1)).1)) (fun a : (Nat → Sh) × Bc => a.1) (fun a => a.2) (fun _ => M) (fun a => GC a.1 a.2 (recX w (cleanX w.1)).2)) := by
  refine ct_of (by decide +kernel) rfl rfl (Nat.le_of_ble_eq_true rfl) (by simp [Value.category]) ?_
  refine x_sub (l' := [(0, .ref (gB G + 0))]) ⟨rfl, trivial⟩ ?_
  refine x_aload_n (pc := 0) dX3_clean_0 rfl ?_
  refine x_get (pc := 1) (ci := 3) (k := 1) (C := RX3) (T := TX3) (N := 10) cell_bc rfl (nN_lt (by decide)) rfl nX3 (by decide) mF_X3_16 rfl dX3_clean_1 ?_
  refine x_aload_n (pc := 4) dX3_clean_4 rfl ?_
  refine x_get (pc := 5) (ci := 3) (k := 0) (C := RX3) (T := TX3) (N := 10) cell_bc rfl (nN_lt (by decide)) rfl nX3 (by decide) mF_X3_10 rfl dX3_clean_5 ?_
  refine e_Vv (pc := 8) (g_copyFrom (j := 1) (j2 := 0) (by decide) (by decide) (by decide) hG.1) qV_X2_copyFrom mL_X3_50 dX3_clean_8 rfl (cell_sheet' (by first | assumption | omega)) (sB_255 (by first | assumption | omega)) rfl rfl rfl ⟨by decide, by decide⟩ (Nat.le_of_ble_eq_true rfl) (Nat.le_of_ble_eq_true rfl) (Nat.le_of_ble_eq_true rfl) ?_
  intro σ1 R1
  have hR0 : RC (updS S 1 σ1 0) w.1 := by rw [updS_ne _ _ (by decide)]; exact hG.1
  refine x_aload_n (pc := 11) dX3_clean_11 rfl ?_
  refine x_aload_n (pc := 12) dX3_clean_12 rfl ?_
  refine x_get (pc := 13) (ci := 3) (k := 0) (C := RX3) (T := TX3) (N := 10) cell_bc rfl (nN_lt (by decide)) rfl nX3 (by decide) mF_X3_10 rfl dX3_clean_13 ?_
  refine e_Vi (pc := 16) (g_cleanLens (j := 0) (by decide) hR0) qV_X2_cleanLens mL_X3_75 dX3_clean_16 rfl (cell_sheet' (by first | assumption | omega)) (sB_255 (by first | assumption | omega)) rfl rfl rfl ⟨by decide, by decide⟩ (Nat.le_of_ble_eq_true rfl) (Nat.le_of_ble_eq_true rfl) (Nat.le_of_ble_eq_true rfl) ?_
  intro σ2 R2
  have hH2 : HR (updS (updS S 1 σ1) 0 σ2) B w.2.1 := HR_S hG.2.1 (fun q hq => by rw [updS_ne _ _ (by omega), updS_ne _ _ (by omega)])
  have hR1 : RC (updS (updS S 1 σ1) 0 σ2 1) w.1 := by rw [updS_ne _ _ (by decide), updS_same]; exact R1
  refine e_Vi (pc := 19) (c_X3_recorded hH2 hR1 _) qV_X3_recorded mL_X3_58 dX3_clean_19 rfl cell_bc (nN_lt (by decide)) rfl rfl rfl ⟨by decide, by decide⟩ (Nat.le_of_ble_eq_true rfl) (Nat.le_of_ble_eq_true rfl) (Nat.le_of_ble_eq_true rfl) ?_
  intro a ha
  exact x_iret rfl dX3_clean_22 ⟨a, rfl, rfl, rfl, GC_rec (σ1 := σ1) hG R2 ha⟩
theorem HR_pop {h : List Ab} {A : Ab} (hH : HR S B h) {σ : Sh} (hl : h.getLast? = some A) : HR (updS S 0 σ) (upd B.1 0 (nI (h.length - 1)), B.2) h.dropLast := by
  obtain ⟨h1, h2, h3, h4, h5⟩ := hH
  refine ⟨?_, by rw [List.length_dropLast]; omega, h3, h4, fun k A' hk => ?_⟩
  · have e : upd B.1 0 (nI (h.length - 1)) 0 = nI (h.length - 1) := upd_same _ _ _
    rw [List.length_dropLast]
    exact e
  · show RC (updS S 0 σ (B.2.1 k)) A'
    have hk1 : k < h.dropLast.length := (List.getElem?_eq_some_iff.mp hk).1
    rw [List.length_dropLast] at hk1
    rw [updS_ne _ _ (show B.2.1 k ≠ 0 by have := (h3 k (by omega)).1; omega)]
    refine h5 k A' ?_
    rw [List.getElem?_dropLast] at hk
    rw [if_pos (by omega)] at hk
    exact hk
theorem und_last {h : List Ab} {A : Ab} (hl : h.getLast? = some A) : 0 < h.length ∧ h[h.length - 1]? = some A := by
  rw [List.getLast?_eq_getElem?] at hl
  refine ⟨?_, hl⟩
  have := (List.getElem?_eq_some_iff.mp hl).1
  omega
set_option maxHeartbeats 4000000 in
set_option maxRecDepth 100000 in
theorem c_X3_undo (hG : GC S B w) : Ct G yX3_undo YX3_undo 0 0 [.ref (gB G + 0)] (nN G) (cellOf G S B M) (Re G (some (.int (undX w).1)) (fun a : (Nat → Sh) × Bc => a.1) (fun a => a.2) (fun _ => M) (fun a => GC a.1 a.2 (undX w).2)) := by
  refine ct_of (by decide +kernel) rfl rfl (Nat.le_of_ble_eq_true rfl) (by simp [Value.category]) ?_
  refine x_sub (l' := [(0, .ref (gB G + 0))]) ⟨rfl, trivial⟩ ?_
  have hH := hG.2.1
  cases hl : w.2.1.getLast? with
  | none =>
    have h0 : w.2.1 = [] := List.getLast?_eq_none_iff.mp hl
    have hB : B.1 0 = 0 := hH.1.trans (by rw [h0]; rfl)
    have hX : undX w = (-5, w) := by simp only [undX, hl]
    rw [hX]
    refine x_aload_n (pc := 0) dX3_undo_0 rfl ?_
    refine x_get (pc := 1) (ci := 3) (k := 6) (C := RX3) (T := TX3) (N := 10) cell_bc rfl (nN_lt (by decide)) rfl nX3 (by decide) mF_X3_36 rfl dX3_undo_1 ?_
    try dsimp only
    rw [hB]
    refine x_ifle (pc := 4) 15 dX3_undo_4 (by decide) (fun c4 => ?_) (fun c4 => absurd c4 (by decide))
    refine x_bipush (pc := 15) (-5) dX3_undo_15 (by decide) ?_
    exact x_iret rfl dX3_undo_17 ⟨(S, B), rfl, rfl, rfl, hG⟩
  | some A =>
    obtain ⟨hp, hk⟩ := und_last hl
    have h4 := hH.2.1
    have hX : undX w = (nI (w.2.1.length - 1), (A, w.2.1.dropLast, w.2.2)) := by simp only [undX, hl]
    rw [hX]
    have hb := hH.2.2.1 (w.2.1.length - 1) (by omega)
    have hRk := hH.2.2.2.2 _ _ hk
    have hpd : nI w.2.1.length - 1 = nI (w.2.1.length - 1) := by
      have := nI_pred (w.2.1.length - 1)
      rwa [Nat.sub_add_cancel hp] at this
    refine x_aload_n (pc := 0) dX3_undo_0 rfl ?_
    refine x_get (pc := 1) (ci := 3) (k := 6) (C := RX3) (T := TX3) (N := 10) cell_bc rfl (nN_lt (by decide)) rfl nX3 (by decide) mF_X3_36 rfl dX3_undo_1 ?_
    try dsimp only
    rw [hH.1]
    refine x_ifle (pc := 4) 15 dX3_undo_4 (by decide) (fun c4 => absurd (show (0 : Int32) < nI w.2.1.length from (lt_nI (a := 0) (by decide) (by omega)).mpr hp) c4) (fun c4 => ?_)
    refine x_aload_n (pc := 7) dX3_undo_7 rfl ?_
    refine x_get (pc := 8) (ci := 3) (k := 6) (C := RX3) (T := TX3) (N := 10) cell_bc rfl (nN_lt (by decide)) rfl nX3 (by decide) mF_X3_36 rfl dX3_undo_8 ?_
    try dsimp only
    rw [hH.1]
    refine x_iconst (pc := 11) (4) dX3_undo_11 (by decide) ?_
    refine x_cmple (pc := 12) 18 dX3_undo_12 (by decide) (fun c12 => ?_) (fun c12 => absurd ((lt_nI (a := 4) (by decide) (by omega)).mp (show nI 4 < nI w.2.1.length from c12)) (by omega))
    refine x_aload_n (pc := 18) dX3_undo_18 rfl ?_
    refine x_dup (pc := 19) dX3_undo_19 rfl ?_
    refine x_get (pc := 20) (ci := 3) (k := 6) (C := RX3) (T := TX3) (N := 10) cell_bc rfl (nN_lt (by decide)) rfl nX3 (by decide) mF_X3_36 rfl dX3_undo_20 ?_
    try dsimp only
    rw [hH.1]
    refine x_iconst (pc := 23) (1) dX3_undo_23 (by decide) ?_
    refine x_isub (pc := 24) dX3_undo_24 ?_
    try dsimp only
    rw [hpd]
    refine t_putBc (pc := 25) 0 (by decide) rfl rfl mF_X3_36 dX3_undo_25 ?_
    try dsimp only
    refine x_aload_n (pc := 28) dX3_undo_28 rfl ?_
    refine x_get (pc := 29) (ci := 3) (k := 0) (C := RX3) (T := TX3) (N := 10) cell_bc rfl (nN_lt (by decide)) rfl nX3 (by decide) mF_X3_10 rfl dX3_undo_29 ?_
    refine x_aload_n (pc := 32) dX3_undo_32 rfl ?_
    refine x_get (pc := 33) (ci := 3) (k := 4) (C := RX3) (T := TX3) (N := 10) cell_bc rfl (nN_lt (by decide)) rfl nX3 (by decide) mF_X3_25 rfl dX3_undo_33 ?_
    refine x_aload_n (pc := 36) dX3_undo_36 rfl ?_
    refine x_get (pc := 37) (ci := 3) (k := 6) (C := RX3) (T := TX3) (N := 10) cell_bc rfl (nN_lt (by decide)) rfl nX3 (by decide) mF_X3_36 rfl dX3_undo_37 ?_
    try dsimp only
    rw [upd_same]
    refine t_hist (pc := 40) (w.2.1.length - 1) rfl (by omega) dX3_undo_40 ?_
    refine e_Vv (pc := 41) (g_copyFrom (j := 0) (j2 := B.2.1 (w.2.1.length - 1)) (by decide) hb.2 (by omega) hRk) qV_X2_copyFrom mL_X3_50 dX3_undo_41 rfl (cell_sheet' (by first | assumption | omega)) (sB_255 (by first | assumption | omega)) rfl rfl rfl ⟨by decide, by decide⟩ (Nat.le_of_ble_eq_true rfl) (Nat.le_of_ble_eq_true rfl) (Nat.le_of_ble_eq_true rfl) ?_
    intro σ1 R1
    refine x_aload_n (pc := 44) dX3_undo_44 rfl ?_
    refine x_get (pc := 45) (ci := 3) (k := 6) (C := RX3) (T := TX3) (N := 10) cell_bc rfl (nN_lt (by decide)) rfl nX3 (by decide) mF_X3_36 rfl dX3_undo_45 ?_
    try dsimp only
    rw [upd_same]
    have r0 : RC (updS S 0 σ1 0) A := by rw [updS_same]; exact R1
    exact x_iret rfl dX3_undo_48 ⟨(updS S 0 σ1, upd B.1 0 (nI (w.2.1.length - 1)), B.2), rfl, rfl, rfl, r0, HR_pop hH hl, snR_k hG.2.2.1 (updS_ne S σ1 (show 3 ≠ 0 by decide)) (upd_ne B.1 (nI (w.2.1.length - 1)) (show 1 ≠ 0 by decide)), hG.2.2.2.1, stR_k hG.2.2.2.2 (upd_ne B.1 (nI (w.2.1.length - 1)) (show 2 ≠ 0 by decide)) (upd_ne B.1 (nI (w.2.1.length - 1)) (show 3 ≠ 0 by decide))⟩
set_option maxHeartbeats 4000000 in
set_option maxRecDepth 100000 in
theorem c_X3_restore (hG : GC S B w) : Ct G yX3_restore YX3_restore 0 0 [.ref (gB G + 0)] (nN G) (cellOf G S B M) (Re G (some (.int (resX w).1)) (fun a : (Nat → Sh) × Bc => a.1) (fun a => a.2) (fun _ => M) (fun a => GC a.1 a.2 (resX w).2)) := by
  refine ct_of (by decide +kernel) rfl rfl (Nat.le_of_ble_eq_true rfl) (by simp [Value.category]) ?_
  refine x_sub (l' := [(0, .ref (gB G + 0))]) ⟨rfl, trivial⟩ ?_
  have h3 := hG.2.2.1
  cases hs : w.2.2.1 with
  | none =>
    rw [hs] at h3
    have hX : resX w = (-5, w) := by simp only [resX, hs]
    rw [hX]
    have h3 : B.1 1 = 0 := h3
    refine x_aload_n (pc := 0) dX3_restore_0 rfl ?_
    refine x_get (pc := 1) (ci := 3) (k := 7) (C := RX3) (T := TX3) (N := 10) cell_bc rfl (nN_lt (by decide)) rfl nX3 (by decide) mF_X3_40 rfl dX3_restore_1 ?_
    try dsimp only
    rw [h3]
    refine x_ifne (pc := 4) 10 dX3_restore_4 (by decide) (fun c4 => absurd rfl c4) (fun c4 => ?_)
    refine x_bipush (pc := 7) (-5) dX3_restore_7 (by decide) ?_
    exact x_iret rfl dX3_restore_9 ⟨(S, B), rfl, rfl, rfl, hG⟩
  | some A =>
    rw [hs] at h3
    have hX : resX w = recX w (nI A.1, A) := by simp only [resX, hs]
    rw [hX]
    have h3a : B.1 1 = 1 := h3.1
    refine x_aload_n (pc := 0) dX3_restore_0 rfl ?_
    refine x_get (pc := 1) (ci := 3) (k := 7) (C := RX3) (T := TX3) (N := 10) cell_bc rfl (nN_lt (by decide)) rfl nX3 (by decide) mF_X3_40 rfl dX3_restore_1 ?_
    try dsimp only
    rw [h3a]
    refine x_ifne (pc := 4) 10 dX3_restore_4 (by decide) (fun c4 => ?_) (fun c4 => absurd c4 (by decide))
    refine x_aload_n (pc := 10) dX3_restore_10 rfl ?_
    refine x_get (pc := 11) (ci := 3) (k := 1) (C := RX3) (T := TX3) (N := 10) cell_bc rfl (nN_lt (by decide)) rfl nX3 (by decide) mF_X3_16 rfl dX3_restore_11 ?_
    refine x_aload_n (pc := 14) dX3_restore_14 rfl ?_
    refine x_get (pc := 15) (ci := 3) (k := 0) (C := RX3) (T := TX3) (N := 10) cell_bc rfl (nN_lt (by decide)) rfl nX3 (by decide) mF_X3_10 rfl dX3_restore_15 ?_
    refine e_Vv (pc := 18) (g_copyFrom (j := 1) (j2 := 0) (by decide) (by decide) (by decide) hG.1) qV_X2_copyFrom mL_X3_50 dX3_restore_18 rfl (cell_sheet' (by first | assumption | omega)) (sB_255 (by first | assumption | omega)) rfl rfl rfl ⟨by decide, by decide⟩ (Nat.le_of_ble_eq_true rfl) (Nat.le_of_ble_eq_true rfl) (Nat.le_of_ble_eq_true rfl) ?_
    intro σ1 R1
    have hR0 : RC (updS S 1 σ1 0) w.1 := by rw [updS_ne _ _ (by decide)]; exact hG.1
    refine x_aload_n (pc := 21) dX3_restore_21 rfl ?_
    refine x_get (pc := 22) (ci := 3) (k := 0) (C := RX3) (T := TX3) (N := 10) cell_bc rfl (nN_lt (by decide)) rfl nX3 (by decide) mF_X3_10 rfl dX3_restore_22 ?_
    refine x_aload_n (pc := 25) dX3_restore_25 rfl ?_
    refine x_get (pc := 26) (ci := 3) (k := 3) (C := RX3) (T := TX3) (N := 10) cell_bc rfl (nN_lt (by decide)) rfl nX3 (by decide) mF_X3_22 rfl dX3_restore_26 ?_
    refine e_Vv (pc := 29) (g_copyFrom (j := 0) (j2 := 3) (A := A) (by decide) (by decide) (by decide) (by rw [updS_ne _ _ (by decide)]; exact h3.2)) qV_X2_copyFrom mL_X3_50 dX3_restore_29 rfl (cell_sheet' (by first | assumption | omega)) (sB_255 (by first | assumption | omega)) rfl rfl rfl ⟨by decide, by decide⟩ (Nat.le_of_ble_eq_true rfl) (Nat.le_of_ble_eq_true rfl) (Nat.le_of_ble_eq_true rfl) ?_
    intro σ2 R2
    have hH2 : HR (updS (updS S 1 σ1) 0 σ2) B w.2.1 := HR_S hG.2.1 (fun q hq => by rw [updS_ne _ _ (by omega), updS_ne _ _ (by omega)])
    have hR1 : RC (updS (updS S 1 σ1) 0 σ2 1) w.1 := by rw [updS_ne _ _ (by decide), updS_same]; exact R1
    refine x_aload_n (pc := 32) dX3_restore_32 rfl ?_
    refine x_aload_n (pc := 33) dX3_restore_33 rfl ?_
    refine x_get (pc := 34) (ci := 3) (k := 0) (C := RX3) (T := TX3) (N := 10) cell_bc rfl (nN_lt (by decide)) rfl nX3 (by decide) mF_X3_10 rfl dX3_restore_34 ?_
    refine x_get (pc := 37) (ci := 2) (k := 3) (C := RX2) (T := TX2) (N := 10) (cell_sheet' (by first | assumption | omega)) rfl (sB_255 (by first | assumption | omega)) rfl nX2 (by decide) mF_X3_96 rfl dX3_restore_37 ?_
    try dsimp only
    rw [updS_same, R2.told]
    refine e_Vi (pc := 40) (c_X3_recorded hH2 hR1 _) qV_X3_recorded mL_X3_58 dX3_restore_40 rfl cell_bc (nN_lt (by decide)) rfl rfl rfl ⟨by decide, by decide⟩ (Nat.le_of_ble_eq_true rfl) (Nat.le_of_ble_eq_true rfl) (Nat.le_of_ble_eq_true rfl) ?_
    intro a ha
    exact x_iret rfl dX3_restore_43 ⟨a, rfl, rfl, rfl, GC_rec (σ1 := σ1) (r := (nI A.1, A)) hG R2 ha⟩
set_option maxHeartbeats 4000000 in
set_option maxRecDepth 100000 in
theorem c_X3_shape (hG : GC S B w) (v c : Int32) : Ct G yX3_shape YX3_shape 0 0 [.ref (gB G + 0), .int v, .int c] (nN G) (cellOf G S B M) (Rt G (some (.int (factX w.1 v c))) S B M) := by
  refine ct_of (by decide +kernel) rfl rfl (Nat.le_of_ble_eq_true rfl) (by simp [Value.category]) ?_
  refine x_sub (l' := [(0, .ref (gB G + 0)), (1, .int v), (2, .int c)]) ⟨rfl, rfl, rfl, trivial⟩ ?_
  refine x_aload_n (pc := 0) dX3_shape_0 rfl ?_
  refine x_get (pc := 1) (ci := 3) (k := 0) (C := RX3) (T := TX3) (N := 10) cell_bc rfl (nN_lt (by decide)) rfl nX3 (by decide) mF_X3_10 rfl dX3_shape_1 ?_
  refine x_iload_n (pc := 4) dX3_shape_4 rfl ?_
  refine x_iload_n (pc := 5) dX3_shape_5 rfl ?_
  refine t_Vi (pc := 6) (g_factOfShape (j := 0) (by decide) hG.1 v c) qV_X2_factOfShape mL_X3_99 dX3_shape_6 rfl (cell_sheet' (by first | assumption | omega)) (sB_255 (by first | assumption | omega)) rfl rfl rfl ⟨by decide, by decide⟩ (Nat.le_of_ble_eq_true rfl) (Nat.le_of_ble_eq_true rfl) (Nat.le_of_ble_eq_true rfl) ?_
  exact x_iret rfl dX3_shape_9 ⟨by rfl, rfl, rfl⟩
set_option maxHeartbeats 4000000 in
set_option maxRecDepth 100000 in
theorem c_X3_heat (hG : GC S B w) (v : Int32) : Ct G yX3_heat YX3_heat 0 0 [.ref (gB G + 0), .int v] (nN G) (cellOf G S B M) (Rt G (some (.int (hinV w.1.2.2.1 v))) S B M) := by
  refine ct_of (by decide +kernel) rfl rfl (Nat.le_of_ble_eq_true rfl) (by simp [Value.category]) ?_
  refine x_sub (l' := [(0, .ref (gB G + 0)), (1, .int v)]) ⟨rfl, rfl, trivial⟩ ?_
  refine x_aload_n (pc := 0) dX3_heat_0 rfl ?_
  refine x_get (pc := 1) (ci := 3) (k := 0) (C := RX3) (T := TX3) (N := 10) cell_bc rfl (nN_lt (by decide)) rfl nX3 (by decide) mF_X3_10 rfl dX3_heat_1 ?_
  refine x_iload_n (pc := 4) dX3_heat_4 rfl ?_
  refine t_Vi (pc := 5) (g_heatIn (j := 0) (by decide) hG.1 v) qV_X2_heatIn mL_X3_102 dX3_heat_5 rfl (cell_sheet' (by first | assumption | omega)) (sB_255 (by first | assumption | omega)) rfl rfl rfl ⟨by decide, by decide⟩ (Nat.le_of_ble_eq_true rfl) (Nat.le_of_ble_eq_true rfl) (Nat.le_of_ble_eq_true rfl) ?_
  exact x_iret rfl dX3_heat_8 ⟨by rfl, rfl, rfl⟩
set_option maxHeartbeats 4000000 in
set_option maxRecDepth 100000 in
theorem c_X3_takes (hG : GC S B w) (v : Int32) : Ct G yX3_takes YX3_takes 0 0 [.ref (gB G + 0), .int v] (nN G) (cellOf G S B M) (Rt G (some (.int (tcX w.1 v))) S B M) := by
  refine ct_of (by decide +kernel) rfl rfl (Nat.le_of_ble_eq_true rfl) (by simp [Value.category]) ?_
  refine x_sub (l' := [(0, .ref (gB G + 0)), (1, .int v)]) ⟨rfl, rfl, trivial⟩ ?_
  refine x_aload_n (pc := 0) dX3_takes_0 rfl ?_
  refine x_get (pc := 1) (ci := 3) (k := 0) (C := RX3) (T := TX3) (N := 10) cell_bc rfl (nN_lt (by decide)) rfl nX3 (by decide) mF_X3_10 rfl dX3_takes_1 ?_
  refine x_iload_n (pc := 4) dX3_takes_4 rfl ?_
  refine t_Vi (pc := 5) (g_ticksToCut (j := 0) (by decide) hG.1 v) qV_X2_ticksToCut mL_X3_112 dX3_takes_5 rfl (cell_sheet' (by first | assumption | omega)) (sB_255 (by first | assumption | omega)) rfl rfl rfl ⟨by decide, by decide⟩ (Nat.le_of_ble_eq_true rfl) (Nat.le_of_ble_eq_true rfl) (Nat.le_of_ble_eq_true rfl) ?_
  exact x_iret rfl dX3_takes_8 ⟨by rfl, rfl, rfl⟩
set_option maxHeartbeats 4000000 in
set_option maxRecDepth 100000 in
theorem c_X3_coolsIn (hG : GC S B w) (v : Int32) : Ct G yX3_coolsIn YX3_coolsIn 0 0 [.ref (gB G + 0), .int v] (nN G) (cellOf G S B M) (Rt G (some (.int (kcX w.1 v))) S B M) := by
  refine ct_of (by decide +kernel) rfl rfl (Nat.le_of_ble_eq_true rfl) (by simp [Value.category]) ?_
  refine x_sub (l' := [(0, .ref (gB G + 0)), (1, .int v)]) ⟨rfl, rfl, trivial⟩ ?_
  refine x_aload_n (pc := 0) dX3_coolsIn_0 rfl ?_
  refine x_get (pc := 1) (ci := 3) (k := 0) (C := RX3) (T := TX3) (N := 10) cell_bc rfl (nN_lt (by decide)) rfl nX3 (by decide) mF_X3_10 rfl dX3_coolsIn_1 ?_
  refine x_iload_n (pc := 4) dX3_coolsIn_4 rfl ?_
  refine t_Vi (pc := 5) (g_ticksToCool (j := 0) (by decide) hG.1 v) qV_X2_ticksToCool mL_X3_115 dX3_coolsIn_5 rfl (cell_sheet' (by first | assumption | omega)) (sB_255 (by first | assumption | omega)) rfl rfl rfl ⟨by decide, by decide⟩ (Nat.le_of_ble_eq_true rfl) (Nat.le_of_ble_eq_true rfl) (Nat.le_of_ble_eq_true rfl) ?_
  exact x_iret rfl dX3_coolsIn_8 ⟨by rfl, rfl, rfl⟩
set_option maxHeartbeats 4000000 in
set_option maxRecDepth 100000 in
theorem c_X3_best (hG : GC S B w) : Ct G yX3_best YX3_best 0 0 [.ref (gB G + 0)] (nN G) (cellOf G S B M) (Rt G (some (.int (oV (besO w.1 w.1.1)))) S B M) := by
  refine ct_of (by decide +kernel) rfl rfl (Nat.le_of_ble_eq_true rfl) (by simp [Value.category]) ?_
  refine x_sub (l' := [(0, .ref (gB G + 0))]) ⟨rfl, trivial⟩ ?_
  refine x_aload_n (pc := 0) dX3_best_0 rfl ?_
  refine x_get (pc := 1) (ci := 3) (k := 0) (C := RX3) (T := TX3) (N := 10) cell_bc rfl (nN_lt (by decide)) rfl nX3 (by decide) mF_X3_10 rfl dX3_best_1 ?_
  refine t_Vi (pc := 4) (g_bestShape (j := 0) (by decide) hG.1) qV_X2_bestShape mL_X3_118 dX3_best_4 rfl (cell_sheet' (by first | assumption | omega)) (sB_255 (by first | assumption | omega)) rfl rfl rfl ⟨by decide, by decide⟩ (Nat.le_of_ble_eq_true rfl) (Nat.le_of_ble_eq_true rfl) (Nat.le_of_ble_eq_true rfl) ?_
  exact x_iret rfl dX3_best_7 ⟨by rfl, rfl, rfl⟩
set_option maxHeartbeats 4000000 in
set_option maxRecDepth 100000 in
theorem c_X3_reason (hG : GC S B w) (v : Int32) : Ct G yX3_reason YX3_reason 0 0 [.ref (gB G + 0), .int v] (nN G) (cellOf G S B M) (Rt G (some (.int (reaX w.1 v))) S B M) := by
  refine ct_of (by decide +kernel) rfl rfl (Nat.le_of_ble_eq_true rfl) (by simp [Value.category]) ?_
  refine x_sub (l' := [(0, .ref (gB G + 0)), (1, .int v)]) ⟨rfl, rfl, trivial⟩ ?_
  refine x_aload_n (pc := 0) dX3_reason_0 rfl ?_
  refine x_get (pc := 1) (ci := 3) (k := 0) (C := RX3) (T := TX3) (N := 10) cell_bc rfl (nN_lt (by decide)) rfl nX3 (by decide) mF_X3_10 rfl dX3_reason_1 ?_
  refine x_iload_n (pc := 4) dX3_reason_4 rfl ?_
  refine t_Vi (pc := 5) (g_knows (j := 0) (by decide) hG.1 v) qV_X2_knows mL_X3_105 dX3_reason_5 rfl (cell_sheet' (by first | assumption | omega)) (sB_255 (by first | assumption | omega)) rfl rfl rfl ⟨by decide, by decide⟩ (Nat.le_of_ble_eq_true rfl) (Nat.le_of_ble_eq_true rfl) (Nat.le_of_ble_eq_true rfl) ?_
  refine x_ifeq (pc := 8) 22 dX3_reason_8 (by decide) (fun c8 => ?_) (fun c8 => ?_)
  · have t := b01_eq c8
    refine x_iconst (pc := 22) (-1) dX3_reason_22 (by decide) ?_
    first
    | (have u := hcl; exact x_iret rfl dX3_reason_23 ⟨by simp only [reaX, t, if_true, u], rfl, rfl⟩)
    | exact x_iret rfl dX3_reason_23 ⟨by simp only [reaX, t, Bool.false_eq_true, if_false], rfl, rfl⟩
  · have t := b01_ne c8
    obtain ⟨i, hi, rfl, hcl⟩ := knB_some hG.1.le t
    refine x_aload_n (pc := 11) dX3_reason_11 rfl ?_
    refine x_get (pc := 12) (ci := 3) (k := 0) (C := RX3) (T := TX3) (N := 10) cell_bc rfl (nN_lt (by decide)) rfl nX3 (by decide) mF_X3_10 rfl dX3_reason_12 ?_
    refine x_iload_n (pc := 15) dX3_reason_15 rfl ?_
    refine t_Vi (pc := 16) (g_reasonAgainst (j := 0) (by decide) hG.1 i hi) qV_X2_reasonAgainst mL_X3_109 dX3_reason_16 rfl (cell_sheet' (by first | assumption | omega)) (sB_255 (by first | assumption | omega)) rfl rfl rfl ⟨by decide, by decide⟩ (Nat.le_of_ble_eq_true rfl) (Nat.le_of_ble_eq_true rfl) (Nat.le_of_ble_eq_true rfl) ?_
    refine x_goto (pc := 19) 23 dX3_reason_19 (by decide) ?_
    first
    | (have u := hcl; exact x_iret rfl dX3_reason_23 ⟨by simp only [reaX, t, if_true, u], rfl, rfl⟩)
    | exact x_iret rfl dX3_reason_23 ⟨by simp only [reaX, t, Bool.false_eq_true, if_false], rfl, rfl⟩
set_option maxHeartbeats 4000000 in
set_option maxRecDepth 100000 in
theorem c_X3_count (hG : GC S B w) (v : Int32) : Ct G yX3_count YX3_count 0 0 [.ref (gB G + 0), .int v] (nN G) (cellOf G S B M) (Rt G (some (.int (couX w v))) S B M) := by
  refine ct_of (by decide +kernel) rfl rfl (Nat.le_of_ble_eq_true rfl) (by simp [Value.category]) ?_
  refine x_sub (l' := [(0, .ref (gB G + 0)), (1, .int v)]) ⟨rfl, rfl, trivial⟩ ?_
  refine x_iload_n (pc := 0) dX3_count_0 rfl ?_
  refine x_bipush (pc := 1) (17) dX3_count_1 (by decide) ?_
  refine x_cmpne (pc := 3) 11 dX3_count_3 (by decide) (fun c3 => ?_) (fun c3 => ?_)
  · refine x_iload_n (pc := 11) dX3_count_11 rfl ?_
    refine x_bipush (pc := 12) (18) dX3_count_12 (by decide) ?_
    refine x_cmpne (pc := 14) 25 dX3_count_14 (by decide) (fun c14 => ?_) (fun c14 => ?_)
    · refine x_aload_n (pc := 25) dX3_count_25 rfl ?_
      refine x_get (pc := 26) (ci := 3) (k := 0) (C := RX3) (T := TX3) (N := 10) cell_bc rfl (nN_lt (by decide)) rfl nX3 (by decide) mF_X3_10 rfl dX3_count_26 ?_
      refine x_iload_n (pc := 29) dX3_count_29 rfl ?_
      refine t_Vi (pc := 30) (g_factOfSheet (j := 0) (by decide) hG.1 v) qV_X2_factOfSheet mL_X3_135 dX3_count_30 rfl (cell_sheet' (by first | assumption | omega)) (sB_255 (by first | assumption | omega)) rfl rfl rfl ⟨by decide, by decide⟩ (Nat.le_of_ble_eq_true rfl) (Nat.le_of_ble_eq_true rfl) (Nat.le_of_ble_eq_true rfl) ?_
      exact x_iret rfl dX3_count_33 ⟨by simp only [couX, if_neg c3, if_neg c14], rfl, rfl⟩
    · refine x_aload_n (pc := 17) dX3_count_17 rfl ?_
      refine x_get (pc := 18) (ci := 3) (k := 5) (C := RX3) (T := TX3) (N := 10) cell_bc rfl (nN_lt (by decide)) rfl nX3 (by decide) mF_X3_32 rfl dX3_count_18 ?_
      refine x_get (pc := 21) (ci := 0) (k := 4) (C := RX0) (T := TX0) (N := 7) cell_plan rfl (nN_lt (by decide)) rfl nX0 (by decide) mF_X3_132 rfl dX3_count_21 ?_
      try dsimp only
      rw [hG.2.2.2.1.1]
      exact x_iret rfl dX3_count_24 ⟨by simp only [couX, if_neg c3, if_pos c14], rfl, rfl⟩
  · refine x_aload_n (pc := 6) dX3_count_6 rfl ?_
    refine x_get (pc := 7) (ci := 3) (k := 6) (C := RX3) (T := TX3) (N := 10) cell_bc rfl (nN_lt (by decide)) rfl nX3 (by decide) mF_X3_36 rfl dX3_count_7 ?_
    try dsimp only
    rw [hG.2.1.1]
    exact x_iret rfl dX3_count_10 ⟨by simp only [couX, if_pos c3], rfl, rfl⟩
end BEAM
end
section
/-! the class: ordered, allTakes, perform (rows laid by wip/whole/p22.py) -/
theorem GC_2 {S : Nat → Sh} {B : Bc} {w : Wt} {σ : Sh} (hG : GC S B w) : GC (updS S 2 σ) B w := by
  obtain ⟨g1, g2, g3, g4, g5⟩ := hG
  refine ⟨?_, HR_S g2 (fun q hq => updS_ne S σ (by omega)), snR_k g3 (updS_ne S σ (show 3 ≠ 2 by decide)) rfl, g4, g5⟩
  rw [updS_ne S σ (show 0 ≠ 2 by decide)]
  exact g1
section BEAM2
variable {G : GX} {S : Nat → Sh} {B : Bc} {M : Md} {j i : Nat} {σ : Sh}
variable {w : Wt} {A : Ab}
theorem nextX_lt {A : Ab} (h12 : A.1 ≤ 12) : ∀ q, (nextX A).1 = some q → q < 12 := by
  intro q h
  rcases hb : besO A A.1 with _ | r
  · by_cases h2 : fewV A A.1 = -5
    · rw [nextX_2 hb h2] at h; cases h
    · rcases hb3 : besO (coolA A (fewV A A.1)) A.1 with _ | r
      · rw [nextX_4 hb h2 hb3] at h; cases h
      · rw [nextX_3 hb h2 hb3] at h
        cases h
        have := besO_lt hb3
        omega
  · rw [nextX_1 hb] at h
    cases h
    have := besO_lt hb
    omega
theorem nextX_none {A : Ab} (h12 : A.1 ≤ 12) (h : oV (nextX A).1 = -5) : (nextX A).1 = none := oV_none (fun q hq => by have := nextX_lt h12 q hq; omega) h
theorem ordV_n {A : Ab} {k : Nat} (h : (nextX A).1 = none) : ordV A k = -5 := by
  cases k with
  | zero => simp only [ordV, h, oV]
  | succ k => simp only [ordV, h]
theorem ordV_s {A : Ab} {k q : Nat} (h : (nextX A).1 = some q) : ordV A (k + 1) = ordV (nextX A).2 k := by simp only [ordV, h]
theorem finA_n {A : Ab} {k : Nat} (h : (nextX A).1 = none) : finA A (k + 1) = (nextX A).2 := by simp only [finA, h]
theorem finA_s {A : Ab} {k q : Nat} (h : (nextX A).1 = some q) : finA A (k + 1) = finA (nextX A).2 k := by simp only [finA, h]
set_option maxHeartbeats 4000000 in
set_option maxRecDepth 100000 in
theorem lp_X3_ordered (hG : GC S B w) {m : Nat} (hm : m < 12) : ∀ d k (σ : Sh) (A : Ab) (x : Int32), k + d = m → RC σ A → XJ G YX3_ordered (fun _ => True) (Zx G (Re G (some (.int (ordV A d))) (fun a : (Nat → Sh) × Bc => a.1) (fun a => a.2) (fun _ => M) (fun a => GC a.1 a.2 w)) 0 0) 32 [(0, .ref (gB G + 0)), (1, .int (nI m)), (2, .int x), (3, .int (nI k))] [] (nN G) (cellOf G (updS S 2 σ) B M) 0 0 := by
  intro d
  induction d with
  | zero =>
    intro k σ A x hk hR
    have hk : k = m := hk
    subst hk
    refine x_iload_n (pc := 32) dX3_ordered_32 rfl ?_
    refine x_iload_n (pc := 33) dX3_ordered_33 rfl ?_
    refine x_cmpgt (pc := 34) 60 dX3_ordered_34 (by decide) (fun c34 => absurd c34 (Int32.lt_irrefl)) (fun c34 => ?_)
    refine x_aload_n (pc := 37) dX3_ordered_37 rfl ?_
    refine x_get (pc := 38) (ci := 3) (k := 2) (C := RX3) (T := TX3) (N := 10) cell_bc rfl (nN_lt (by decide)) rfl nX3 (by decide) mF_X3_19 rfl dX3_ordered_38 ?_
    refine e_Vi (pc := 41) (c_X2_cutNext (j := 2) (by decide) hR) qV_X2_cutNext mL_X3_121 dX3_ordered_41 rfl (cell_sheet' (by first | assumption | omega)) (sB_255 (by first | assumption | omega)) rfl rfl rfl ⟨by decide, by decide⟩ (Nat.le_of_ble_eq_true rfl) (Nat.le_of_ble_eq_true rfl) (Nat.le_of_ble_eq_true rfl) ?_
    intro σ2 R2
    refine x_istore_n (pc := 44) dX3_ordered_44 (by decide) ?_
    refine x_iload_n (pc := 45) dX3_ordered_45 rfl ?_
    refine x_bipush (pc := 46) (-5) dX3_ordered_46 (by decide) ?_
    refine x_cmpne (pc := 48) 54 dX3_ordered_48 (by decide) (fun c48 => ?_) (fun c48 => ?_)
    · refine x_iinc (pc := 54) (nI (k + 1)) dX3_ordered_54 rfl (iinc_nI k) (by decide) ?_
      refine x_goto (pc := 57) 32 dX3_ordered_57 (by decide) ?_
      refine x_iload_n (pc := 32) dX3_ordered_32 rfl ?_
      refine x_iload_n (pc := 33) dX3_ordered_33 rfl ?_
      refine x_cmpgt (pc := 34) 60 dX3_ordered_34 (by decide) (fun c34 => ?_) (fun c34 => absurd ((nI_ltI (by omega) (by omega)).mpr (Nat.lt_succ_self k)) c34)
      refine x_iload_n (pc := 60) dX3_ordered_60 rfl ?_
      exact x_iret rfl dX3_ordered_61 ⟨(updS S 2 σ2, B), rfl, rfl, rfl, GC_2 hG⟩
    · refine x_bipush (pc := 51) (-5) dX3_ordered_51 (by decide) ?_
      have hn := nextX_none hR.le c48
      rw [ordV_n hn]
      exact x_iret rfl dX3_ordered_53 ⟨(updS S 2 σ2, B), rfl, rfl, rfl, GC_2 hG⟩
  | succ d ih =>
    intro k σ A x hk hR
    refine x_iload_n (pc := 32) dX3_ordered_32 rfl ?_
    refine x_iload_n (pc := 33) dX3_ordered_33 rfl ?_
    refine x_cmpgt (pc := 34) 60 dX3_ordered_34 (by decide) (fun c34 => absurd ((nI_ltI (by omega) (by omega)).mp c34) (by omega)) (fun c34 => ?_)
    refine x_aload_n (pc := 37) dX3_ordered_37 rfl ?_
    refine x_get (pc := 38) (ci := 3) (k := 2) (C := RX3) (T := TX3) (N := 10) cell_bc rfl (nN_lt (by decide)) rfl nX3 (by decide) mF_X3_19 rfl dX3_ordered_38 ?_
    refine e_Vi (pc := 41) (c_X2_cutNext (j := 2) (by decide) hR) qV_X2_cutNext mL_X3_121 dX3_ordered_41 rfl (cell_sheet' (by first | assumption | omega)) (sB_255 (by first | assumption | omega)) rfl rfl rfl ⟨by decide, by decide⟩ (Nat.le_of_ble_eq_true rfl) (Nat.le_of_ble_eq_true rfl) (Nat.le_of_ble_eq_true rfl) ?_
    intro σ2 R2
    refine x_istore_n (pc := 44) dX3_ordered_44 (by decide) ?_
    refine x_iload_n (pc := 45) dX3_ordered_45 rfl ?_
    refine x_bipush (pc := 46) (-5) dX3_ordered_46 (by decide) ?_
    refine x_cmpne (pc := 48) 54 dX3_ordered_48 (by decide) (fun c48 => ?_) (fun c48 => ?_)
    · refine x_iinc (pc := 54) (nI (k + 1)) dX3_ordered_54 rfl (iinc_nI k) (by decide) ?_
      refine x_goto (pc := 57) 32 dX3_ordered_57 (by decide) ?_
      obtain ⟨q, hq⟩ := oV_some c48
      rw [ordV_s hq]
      exact x_back (ih (k + 1) σ2 _ _ (by omega) R2) ⟨rfl, rfl, rfl, rfl, trivial⟩
    · refine x_bipush (pc := 51) (-5) dX3_ordered_51 (by decide) ?_
      have hn := nextX_none hR.le c48
      rw [ordV_n hn]
      exact x_iret rfl dX3_ordered_53 ⟨(updS S 2 σ2, B), rfl, rfl, rfl, GC_2 hG⟩
set_option maxHeartbeats 4000000 in
set_option maxRecDepth 100000 in
theorem c_X3_ordered (hG : GC S B w) (v : Int32) : Ct G yX3_ordered YX3_ordered 0 0 [.ref (gB G + 0), .int v] (nN G) (cellOf G S B M) (Re G (some (.int (ordX w.1 v))) (fun a : (Nat → Sh) × Bc => a.1) (fun a => a.2) (fun _ => M) (fun a => GC a.1 a.2 w)) := by
  refine ct_of (by decide +kernel) rfl rfl (Nat.le_of_ble_eq_true rfl) (by simp [Value.category]) ?_
  refine x_sub (l' := [(0, .ref (gB G + 0)), (1, .int v)]) ⟨rfl, rfl, trivial⟩ ?_
  refine x_iload_n (pc := 0) dX3_ordered_0 rfl ?_
  refine x_ifge (pc := 1) 7 dX3_ordered_1 (by decide) (fun c1 => ?_) (fun c1 => ?_)
  · refine x_iload_n (pc := 7) dX3_ordered_7 rfl ?_
    refine x_bipush (pc := 8) (12) dX3_ordered_8 (by decide) ?_
    refine x_cmplt (pc := 10) 16 dX3_ordered_10 (by decide) (fun c10 => ?_) (fun c10 => ?_)
    · refine x_aload_n (pc := 16) dX3_ordered_16 rfl ?_
      refine x_get (pc := 17) (ci := 3) (k := 2) (C := RX3) (T := TX3) (N := 10) cell_bc rfl (nN_lt (by decide)) rfl nX3 (by decide) mF_X3_19 rfl dX3_ordered_17 ?_
      refine x_aload_n (pc := 20) dX3_ordered_20 rfl ?_
      refine x_get (pc := 21) (ci := 3) (k := 0) (C := RX3) (T := TX3) (N := 10) cell_bc rfl (nN_lt (by decide)) rfl nX3 (by decide) mF_X3_10 rfl dX3_ordered_21 ?_
      refine e_Vv (pc := 24) (g_copyFrom (j := 2) (j2 := 0) (by decide) (by decide) (by decide) hG.1) qV_X2_copyFrom mL_X3_50 dX3_ordered_24 rfl (cell_sheet' (by first | assumption | omega)) (sB_255 (by first | assumption | omega)) rfl rfl rfl ⟨by decide, by decide⟩ (Nat.le_of_ble_eq_true rfl) (Nat.le_of_ble_eq_true rfl) (Nat.le_of_ble_eq_true rfl) ?_
      intro σ1 R1
      refine x_bipush (pc := 27) (-5) dX3_ordered_27 (by decide) ?_
      refine x_istore_n (pc := 29) dX3_ordered_29 (by decide) ?_
      refine x_iconst (pc := 30) (0) dX3_ordered_30 (by decide) ?_
      refine x_istore_n (pc := 31) dX3_ordered_31 (by decide) ?_
      obtain ⟨m, hm, rfl⟩ := nI_of c1
      have h12 : m < 12 := (lt_lit (n := 12) rfl (by decide) hm).mp c10
      have e : ordX w.1 (nI m) = ordV w.1 m := by simp only [ordX, if_neg c1, if_pos c10, nI_clamp hm]
      rw [e]
      exact x_back (lp_X3_ordered hG h12 m 0 σ1 w.1 (-5) (Nat.zero_add m) R1) ⟨rfl, rfl, rfl, rfl, trivial⟩
    · refine x_bipush (pc := 13) (-5) dX3_ordered_13 (by decide) ?_
      have t := id (α := ¬ v < 12) c10
      exact x_iret rfl dX3_ordered_15 ⟨(S, B), by simp only [ordX, if_neg c1, if_neg t], rfl, rfl, hG⟩
  · refine x_bipush (pc := 4) (-2) dX3_ordered_4 (by decide) ?_
    have t := id (α := v < 0) c1
    exact x_iret rfl dX3_ordered_6 ⟨(S, B), by simp only [ordX, if_pos t], rfl, rfl, hG⟩
set_option maxHeartbeats 4000000 in
set_option maxRecDepth 100000 in
theorem tl_X3_allTakes (hG : GC S B w) (hR : RC σ (finA w.1 12)) (x : Int32) : XJ G YX3_allTakes (fun _ => True) (Zx G (Re G (some (.int (allX w.1))) (fun a : (Nat → Sh) × Bc => a.1) (fun a => a.2) (fun _ => M) (fun a => GC a.1 a.2 w)) 0 0) 40 [(0, .ref (gB G + 0)), (1, .int x)] [] (nN G) (cellOf G (updS S 2 σ) B M) 0 0 := by
  refine x_aload_n (pc := 40) dX3_allTakes_40 rfl ?_
  refine x_get (pc := 41) (ci := 3) (k := 2) (C := RX3) (T := TX3) (N := 10) cell_bc rfl (nN_lt (by decide)) rfl nX3 (by decide) mF_X3_19 rfl dX3_allTakes_41 ?_
  refine x_iconst (pc := 44) (0) dX3_allTakes_44 (by decide) ?_
  refine t_Vi (pc := 45) (c_X2_shapesThatAre (j := 2) (by decide) hR _) qV_X2_shapesThatAre mL_X3_126 dX3_allTakes_45 rfl (cell_sheet' (by first | assumption | omega)) (sB_255 (by first | assumption | omega)) rfl rfl rfl ⟨by decide, by decide⟩ (Nat.le_of_ble_eq_true rfl) (Nat.le_of_ble_eq_true rfl) (Nat.le_of_ble_eq_true rfl) ?_
  refine x_ifne (pc := 48) 69 dX3_allTakes_48 (by decide) (fun c48 => ?_) (fun c48 => ?_)
  · refine x_bipush (pc := 69) (-5) dX3_allTakes_69 (by decide) ?_
    first
    | (have t := id (α := cntN (finA w.1 12).2.2.2.2 0 (finA w.1 12).1 = 0) c48; exact x_iret rfl dX3_allTakes_71 ⟨(updS S 2 σ, B), by simp only [allX, if_pos t], rfl, rfl, GC_2 hG⟩)
    | (have t := id (α := ¬ cntN (finA w.1 12).2.2.2.2 0 (finA w.1 12).1 = 0) c48; exact x_iret rfl dX3_allTakes_71 ⟨(updS S 2 σ, B), by simp only [allX, if_neg t], rfl, rfl, GC_2 hG⟩)
  · refine x_aload_n (pc := 51) dX3_allTakes_51 rfl ?_
    refine x_get (pc := 52) (ci := 3) (k := 2) (C := RX3) (T := TX3) (N := 10) cell_bc rfl (nN_lt (by decide)) rfl nX3 (by decide) mF_X3_19 rfl dX3_allTakes_52 ?_
    refine x_get (pc := 55) (ci := 2) (k := 7) (C := RX2) (T := TX2) (N := 10) (cell_sheet' (by first | assumption | omega)) rfl (sB_255 (by first | assumption | omega)) rfl nX2 (by decide) mF_X3_129 rfl dX3_allTakes_55 ?_
    try dsimp only
    rw [updS_same, hR.int 4]
    refine x_aload_n (pc := 58) dX3_allTakes_58 rfl ?_
    refine x_get (pc := 59) (ci := 3) (k := 0) (C := RX3) (T := TX3) (N := 10) cell_bc rfl (nN_lt (by decide)) rfl nX3 (by decide) mF_X3_10 rfl dX3_allTakes_59 ?_
    refine x_get (pc := 62) (ci := 2) (k := 7) (C := RX2) (T := TX2) (N := 10) (cell_sheet' (by first | assumption | omega)) rfl (sB_255 (by first | assumption | omega)) rfl nX2 (by decide) mF_X3_129 rfl dX3_allTakes_62 ?_
    try dsimp only
    rw [updS_ne _ _ (show 0 ≠ 2 by decide), hG.1.int 4]
    refine x_isub (pc := 65) dX3_allTakes_65 ?_
    refine x_goto (pc := 66) 71 dX3_allTakes_66 (by decide) ?_
    first
    | (have t := id (α := cntN (finA w.1 12).2.2.2.2 0 (finA w.1 12).1 = 0) c48; exact x_iret rfl dX3_allTakes_71 ⟨(updS S 2 σ, B), by simp only [allX, if_pos t], rfl, rfl, GC_2 hG⟩)
    | (have t := id (α := ¬ cntN (finA w.1 12).2.2.2.2 0 (finA w.1 12).1 = 0) c48; exact x_iret rfl dX3_allTakes_71 ⟨(updS S 2 σ, B), by simp only [allX, if_neg t], rfl, rfl, GC_2 hG⟩)
set_option maxHeartbeats 4000000 in
set_option maxRecDepth 100000 in
theorem lp_X3_allTakes (hG : GC S B w) : ∀ d k (σ : Sh) (A : Ab), k + d = 12 → RC σ A → finA A d = finA w.1 12 → XJ G YX3_allTakes (fun _ => True) (Zx G (Re G (some (.int (allX w.1))) (fun a : (Nat → Sh) × Bc => a.1) (fun a => a.2) (fun _ => M) (fun a => GC a.1 a.2 w)) 0 0) 13 [(0, .ref (gB G + 0)), (1, .int (nI k))] [] (nN G) (cellOf G (updS S 2 σ) B M) 0 0 := by
  intro d
  induction d with
  | zero =>
    intro k σ A hk hR hf
    have hf : A = finA w.1 12 := hf
    subst hf
    refine x_iload_n (pc := 13) dX3_allTakes_13 rfl ?_
    refine x_bipush (pc := 14) (12) dX3_allTakes_14 (by decide) ?_
    refine x_cmpge (pc := 16) 40 dX3_allTakes_16 (by decide) (fun c16 => ?_) (fun c16 => absurd ((lt_lit (n := 12) rfl (by decide) (by omega)).mp c16) (by omega))
    exact tl_X3_allTakes hG hR _
  | succ d ih =>
    intro k σ A hk hR hf
    refine x_iload_n (pc := 13) dX3_allTakes_13 rfl ?_
    refine x_bipush (pc := 14) (12) dX3_allTakes_14 (by decide) ?_
    refine x_cmpge (pc := 16) 40 dX3_allTakes_16 (by decide) (fun c16 => absurd ((lt_lit (n := 12) rfl (by decide) (by omega)).mpr (show k < 12 by omega)) c16) (fun c16 => ?_)
    refine x_aload_n (pc := 19) dX3_allTakes_19 rfl ?_
    refine x_get (pc := 20) (ci := 3) (k := 2) (C := RX3) (T := TX3) (N := 10) cell_bc rfl (nN_lt (by decide)) rfl nX3 (by decide) mF_X3_19 rfl dX3_allTakes_20 ?_
    refine e_Vi (pc := 23) (c_X2_cutNext (j := 2) (by decide) hR) qV_X2_cutNext mL_X3_121 dX3_allTakes_23 rfl (cell_sheet' (by first | assumption | omega)) (sB_255 (by first | assumption | omega)) rfl rfl rfl ⟨by decide, by decide⟩ (Nat.le_of_ble_eq_true rfl) (Nat.le_of_ble_eq_true rfl) (Nat.le_of_ble_eq_true rfl) ?_
    intro σ2 R2
    refine x_bipush (pc := 26) (-5) dX3_allTakes_26 (by decide) ?_
    refine x_cmpne (pc := 28) 34 dX3_allTakes_28 (by decide) (fun c28 => ?_) (fun c28 => ?_)
    · refine x_iinc (pc := 34) (nI (k + 1)) dX3_allTakes_34 rfl (iinc_nI k) (by decide) ?_
      refine x_goto (pc := 37) 13 dX3_allTakes_37 (by decide) ?_
      obtain ⟨q, hq⟩ := oV_some c28
      rw [finA_s hq] at hf
      exact x_back (ih (k + 1) σ2 _ (by omega) R2 hf) ⟨rfl, rfl, trivial⟩
    · refine x_goto (pc := 31) 40 dX3_allTakes_31 (by decide) ?_
      have hn := nextX_none hR.le c28
      rw [finA_n hn] at hf
      rw [hf] at R2
      exact tl_X3_allTakes hG R2 _
set_option maxHeartbeats 4000000 in
set_option maxRecDepth 100000 in
theorem c_X3_allTakes (hG : GC S B w) : Ct G yX3_allTakes YX3_allTakes 0 0 [.ref (gB G + 0)] (nN G) (cellOf G S B M) (Re G (some (.int (allX w.1))) (fun a : (Nat → Sh) × Bc => a.1) (fun a => a.2) (fun _ => M) (fun a => GC a.1 a.2 w)) := by
  refine ct_of (by decide +kernel) rfl rfl (Nat.le_of_ble_eq_true rfl) (by simp [Value.category]) ?_
  refine x_sub (l' := [(0, .ref (gB G + 0))]) ⟨rfl, trivial⟩ ?_
  refine x_aload_n (pc := 0) dX3_allTakes_0 rfl ?_
  refine x_get (pc := 1) (ci := 3) (k := 2) (C := RX3) (T := TX3) (N := 10) cell_bc rfl (nN_lt (by decide)) rfl nX3 (by decide) mF_X3_19 rfl dX3_allTakes_1 ?_
  refine x_aload_n (pc := 4) dX3_allTakes_4 rfl ?_
  refine x_get (pc := 5) (ci := 3) (k := 0) (C := RX3) (T := TX3) (N := 10) cell_bc rfl (nN_lt (by decide)) rfl nX3 (by decide) mF_X3_10 rfl dX3_allTakes_5 ?_
  refine e_Vv (pc := 8) (g_copyFrom (j := 2) (j2 := 0) (by decide) (by decide) (by decide) hG.1) qV_X2_copyFrom mL_X3_50 dX3_allTakes_8 rfl (cell_sheet' (by first | assumption | omega)) (sB_255 (by first | assumption | omega)) rfl rfl rfl ⟨by decide, by decide⟩ (Nat.le_of_ble_eq_true rfl) (Nat.le_of_ble_eq_true rfl) (Nat.le_of_ble_eq_true rfl) ?_
  intro σ1 R1
  refine x_iconst (pc := 11) (0) dX3_allTakes_11 (by decide) ?_
  refine x_istore_n (pc := 12) dX3_allTakes_12 (by decide) ?_
  exact x_back (lp_X3_allTakes hG 12 0 σ1 w.1 rfl R1 rfl) ⟨rfl, rfl, trivial⟩
end BEAM2
end
section
/-! numbers, and what makes a value a sound one -/
theorem ti_bm {x : Int} (h1 : -2147483648 ≤ x) (h2 : x < 2147483648) : x.bmod (2 ^ 32) = x := Int.bmod_eq_of_le (by omega) (by omega)
theorem ti_add {a b : Int32} (h1 : -2147483648 ≤ a.toInt + b.toInt) (h2 : a.toInt + b.toInt < 2147483648) : (a + b).toInt = a.toInt + b.toInt := by
  rw [Int32.toInt_add]; exact ti_bm h1 h2
theorem ti_sub {a b : Int32} (h1 : -2147483648 ≤ a.toInt - b.toInt) (h2 : a.toInt - b.toInt < 2147483648) : (a - b).toInt = a.toInt - b.toInt := by
  rw [Int32.toInt_sub]; exact ti_bm h1 h2
theorem ti_mul {a b : Int32} (h1 : -2147483648 ≤ a.toInt * b.toInt) (h2 : a.toInt * b.toInt < 2147483648) : (a * b).toInt = a.toInt * b.toInt := by
  rw [Int32.toInt_mul]; exact ti_bm h1 h2
theorem ti_div {a b : Int32} (h1 : 0 ≤ a.toInt) (h2 : 0 < b.toInt) : (a / b).toInt = a.toInt / b.toInt := by
  have h3 := Int32.toInt_lt a
  have h5 : a.toInt / b.toInt ≤ a.toInt := Int.ediv_le_self _ h1
  have h6 : 0 ≤ a.toInt / b.toInt := Int.ediv_nonneg h1 (by omega)
  rw [Int32.toInt_div, Int.tdiv_eq_ediv_of_nonneg h1]
  exact ti_bm (by omega) (by omega)
theorem ti_lt {a b : Int32} : a < b ↔ a.toInt < b.toInt := Int32.lt_iff_toInt_lt
theorem ti_le {a b : Int32} : a ≤ b ↔ a.toInt ≤ b.toInt := Int32.le_iff_toInt_le
theorem ti_eq {a b : Int32} : a = b ↔ a.toInt = b.toInt := Int32.toInt_inj.symm
theorem ti_imx (a b : Int32) : (imx a b).toInt = max a.toInt b.toInt := by
  unfold imx; rw [Int.max_def]; simp only [ti_lt]; split <;> split <;> omega
theorem ti_imn (a b : Int32) : (imn a b).toInt = min a.toInt b.toInt := by
  unfold imn; rw [Int.min_def]; simp only [ti_lt]; split <;> split <;> omega
theorem ti_iab {a : Int32} (h : -2147483648 < a.toInt) : (iab a).toInt = if 0 ≤ a.toInt then a.toInt else - a.toInt := by
  have h3 := Int32.toInt_lt a
  have h0 : (0 : Int32).toInt = 0 := rfl
  unfold iab
  simp only [ti_le, h0]
  split
  · rfl
  · rw [ti_sub] <;> rw [h0] <;> omega
/-- a shape's ints are sound -/
def vF (f : Fs) : Prop := (0 ≤ (f 0).toInt ∧ 0 ≤ (f 1).toInt ∧ 2 ≤ (f 2).toInt ∧ 2 ≤ (f 3).toInt ∧ (f 0).toInt + (f 2).toInt ≤ 32 ∧ (f 1).toInt + (f 3).toInt ≤ 24) ∧ (0 ≤ (f 4).toInt ∧ (f 4).toInt ≤ 3) ∧ 0 ≤ (f 5).toInt ∧ (f 5).toInt ≤ 2
theorem vF.x2 {f : Fs} (h : vF f) : (f 0 + f 2).toInt = (f 0).toInt + (f 2).toInt := by obtain ⟨h, -⟩ := h; exact ti_add (by omega) (by omega)
theorem vF.y2 {f : Fs} (h : vF f) : (f 1 + f 3).toInt = (f 1).toInt + (f 3).toInt := by obtain ⟨h, -⟩ := h; exact ti_add (by omega) (by omega)
theorem t1 : (1 : Int32).toInt = 1 := rfl
theorem t0 : (0 : Int32).toInt = 0 := rfl
theorem vF.xl {f : Fs} (h : vF f) : (f 0 + f 2 - 1).toInt = (f 0).toInt + (f 2).toInt - 1 := by
  have e := h.x2
  obtain ⟨h, -⟩ := h
  rw [ti_sub (by rw [e, t1]; omega) (by rw [e, t1]; omega), e, t1]
theorem vF.yl {f : Fs} (h : vF f) : (f 1 + f 3 - 1).toInt = (f 1).toInt + (f 3).toInt - 1 := by
  have e := h.y2
  obtain ⟨h, -⟩ := h
  rw [ti_sub (by rw [e, t1]; omega) (by rw [e, t1]; omega), e, t1]
def insR (f g : Fs) : Bool := (decide (g 0 < f 0) && decide (f 0 + f 2 - 1 < g 0 + g 2 - 1)) && (decide (g 1 < f 1) && decide (f 1 + f 3 - 1 < g 1 + g 3 - 1))
theorem insR_eq {f g : Fs} (h : vF f) (h2 : vF g) : insR f g = insB f g := by
  have e1 : (f 0 + f 2 - 1 < g 0 + g 2 - 1) = (f 0 + f 2 < g 0 + g 2) := by rw [eq_iff_iff, ti_lt, ti_lt, h.xl, h2.xl, h.x2, h2.x2]; omega
  have e2 : (f 1 + f 3 - 1 < g 1 + g 3 - 1) = (f 1 + f 3 < g 1 + g 3) := by rw [eq_iff_iff, ti_lt, ti_lt, h.yl, h2.yl, h.y2, h2.y2]; omega
  unfold insR insB
  simp only [e1, e2, Bool.and_assoc]
theorem t2 : (2 : Int32).toInt = 2 := rfl
theorem t3 : (3 : Int32).toInt = 3 := rfl
theorem t4 : (4 : Int32).toInt = 4 := rfl
theorem t8 : (8 : Int32).toInt = 8 := rfl
def lcR (f : Fs) : Int32 := if f 4 = 0 ∨ f 4 = 3 then f 0 else f 0 + f 2 - 1
theorem lcR_eq {f : Fs} (h : vF f) : lcR f = lcV f := by
  obtain ⟨-, h, -⟩ := h
  unfold lcR lcV
  simp only [ti_eq (b := 0), ti_eq (b := 1), ti_eq (b := 2), ti_eq (b := 3), t0, t1, t2, t3]
  by_cases e : (f 4).toInt = 0 ∨ (f 4).toInt = 3
  · rw [if_pos e, if_neg (by omega)]
  · rw [if_neg e, if_pos (by omega)]
def lrR (f : Fs) : Int32 := if f 4 < 2 then f 1 else f 1 + f 3 - 1
theorem lrR_eq {f : Fs} (h : vF f) : lrR f = lrV f := by
  obtain ⟨-, h, -⟩ := h
  unfold lrR lrV
  simp only [ti_eq (b := 2), ti_eq (b := 3), ti_lt, t2, t3]
  by_cases e : (f 4).toInt < 2
  · rw [if_pos e, if_neg (by omega)]
  · rw [if_neg e, if_pos (by omega)]
theorem lcV_in {f : Fs} (h : vF f) : 0 ≤ (lcV f).toInt ∧ (lcV f).toInt ≤ 31 := by
  have e := h.xl
  obtain ⟨h, -⟩ := h
  unfold lcV
  split
  · rw [e]; omega
  · omega
theorem lrV_in {f : Fs} (h : vF f) : 0 ≤ (lrV f).toInt ∧ (lrV f).toInt ≤ 23 := by
  have e := h.yl
  obtain ⟨h, -⟩ := h
  unfold lrV
  split
  · rw [e]; omega
  · omega
def offV (a b : Int32) : Int32 := if b < a then a - b else b - a
theorem offV_eq {a b : Int32} (h : 0 ≤ a.toInt ∧ a.toInt ≤ 1000) (h2 : 0 ≤ b.toInt ∧ b.toInt ≤ 1000) : offV a b = iab (a - b) := by
  have e := ti_sub (a := a) (b := b) (by omega) (by omega)
  have e2 := ti_sub (a := b) (b := a) (by omega) (by omega)
  rw [ti_eq, ti_iab (by omega), e]
  unfold offV
  simp only [ti_lt]
  split
  · rw [if_pos (by omega), e]
  · split
    · rw [e2]; omega
    · rw [e2]; omega
/-! the edge, told field by field -/
def cb (P : Nat → Bool) : Nat → Int32
  | 0 => 0
  | k + 1 => cb P k + b01 (P k)
def sI (g : Nat → Int) : Nat → Int
  | 0 => 0
  | k + 1 => sI g k + g k
def iB (b : Bool) : Int := if b then 1 else 0
theorem b01_ti (b : Bool) : (b01 b).toInt = iB b := by cases b <;> rfl
theorem sI_b (P : Nat → Bool) : ∀ k, 0 ≤ sI (fun q => iB (P q)) k ∧ sI (fun q => iB (P q)) k ≤ k
  | 0 => ⟨Int.le_refl 0, Int.le_refl 0⟩
  | k + 1 => by
    have ih := sI_b P k
    simp only [sI]
    have h : iB (P k) = 0 ∨ iB (P k) = 1 := by cases P k <;> simp [iB]
    omega
theorem cb_ti (P : Nat → Bool) : ∀ k, k ≤ 1000 → (cb P k).toInt = sI (fun q => iB (P q)) k
  | 0, _ => rfl
  | k + 1, hk => by
    have ih := cb_ti P k (by omega)
    have h0 := sI_b P k
    have h : iB (P k) = 0 ∨ iB (P k) = 1 := by cases P k <;> simp [iB]
    simp only [cb, sI]
    rw [ti_add (by rw [ih, b01_ti]; omega) (by rw [ih, b01_ti]; omega), ih, b01_ti]
theorem sI_c {g g' : Nat → Int} : ∀ {n}, (∀ k, k < n → g k = g' k) → sI g n = sI g' n
  | 0, _ => rfl
  | n + 1, h => by simp only [sI, sI_c (fun k hk => h k (Nat.lt_succ_of_lt hk)), h n (Nat.lt_succ_self n)]
theorem sI_sub (g g' : Nat → Int) : ∀ n, sI (fun k => g k - g' k) n = sI g n - sI g' n
  | 0 => rfl
  | n + 1 => by simp only [sI, sI_sub g g' n]; omega
theorem sI_8 (p q : Nat → Int) : ∀ u, sI (fun k => p (k % 8) * q (k / 8)) (8 * u) = sI p 8 * sI q u
  | 0 => by simp [sI]
  | u + 1 => by
    have ih := sI_8 p q u
    have e : ∀ t, t < 8 → p ((8 * u + t) % 8) * q ((8 * u + t) / 8) = p t * q u := by
      intro t ht
      rw [show (8 * u + t) % 8 = t by omega, show (8 * u + t) / 8 = u by omega]
    rw [show 8 * (u + 1) = 8 * u + 0 + 1 + 1 + 1 + 1 + 1 + 1 + 1 + 1 by omega]
    simp only [sI, e 0 (by decide), e 1 (by decide), e 2 (by decide), e 3 (by decide), e 4 (by decide), e 5 (by decide), e 6 (by decide), e 7 (by decide), Nat.add_assoc, Nat.reduceAdd, Nat.add_zero] at *
    have e0 := e 0 (by decide)
    rw [Nat.add_zero] at e0
    rw [ih, e0]
    simp only [Int.zero_add, Int.add_mul, Int.mul_add]
    omega
def iv (a b c : Int) : Int := if a ≤ c ∧ c < b then 1 else 0
theorem sI_iv (a b X : Int) : ∀ n : Nat, sI (fun t => iv a b (X + t)) n = max (min b (X + n) - max a X) 0
  | 0 => by simp only [sI]; omega
  | n + 1 => by
    have ih := sI_iv a b X n
    have e : ((n + 1 : Nat) : Int) = (n : Int) + 1 := by omega
    simp only [sI]
    rw [ih, e]
    unfold iv
    by_cases h : a ≤ X + (n : Int) ∧ X + (n : Int) < b
    · rw [if_pos h]; omega
    · rw [if_neg h]; omega
def onR (f : Fs) (c r : Int32) : Bool := (betw c (f 0) (f 0 + f 2 - 1) && betw r (f 1) (f 1 + f 3 - 1)) && (decide (c = f 0) || decide (c = f 0 + f 2 - 1) || decide (r = f 1) || decide (r = f 1 + f 3 - 1))
theorem onR_ti {f : Fs} (h : vF f) (c r : Int32) : iB (onR f c r) = iv (f 0).toInt ((f 0).toInt + (f 2).toInt) c.toInt * iv (f 1).toInt ((f 1).toInt + (f 3).toInt) r.toInt - iv ((f 0).toInt + 1) ((f 0).toInt + (f 2).toInt - 1) c.toInt * iv ((f 1).toInt + 1) ((f 1).toInt + (f 3).toInt - 1) r.toInt := by
  have e1 := h.xl
  have e2 := h.yl
  have e3 : onR f c r = decide (((f 0).toInt ≤ c.toInt ∧ c.toInt ≤ (f 0).toInt + (f 2).toInt - 1 ∧ (f 1).toInt ≤ r.toInt ∧ r.toInt ≤ (f 1).toInt + (f 3).toInt - 1) ∧ (c.toInt = (f 0).toInt ∨ c.toInt = (f 0).toInt + (f 2).toInt - 1 ∨ r.toInt = (f 1).toInt ∨ r.toInt = (f 1).toInt + (f 3).toInt - 1)) := by
    unfold onR betw
    rw [Bool.eq_iff_iff]
    simp only [Bool.and_eq_true, Bool.or_eq_true, Bool.not_eq_true', decide_eq_true_eq, decide_eq_false_iff_not, ti_lt, ti_eq, e1, e2]
    omega
  rw [e3]
  unfold iB iv
  obtain ⟨h, -⟩ := h
  by_cases a1 : (f 0).toInt ≤ c.toInt ∧ c.toInt < (f 0).toInt + (f 2).toInt
  · by_cases a2 : (f 1).toInt ≤ r.toInt ∧ r.toInt < (f 1).toInt + (f 3).toInt
    · rw [if_pos a1, if_pos a2]
      by_cases a3 : (f 0).toInt + 1 ≤ c.toInt ∧ c.toInt < (f 0).toInt + (f 2).toInt - 1
      · by_cases a4 : (f 1).toInt + 1 ≤ r.toInt ∧ r.toInt < (f 1).toInt + (f 3).toInt - 1
        · rw [if_pos a3, if_pos a4, if_neg (by rw [decide_eq_true_eq]; omega)]; rfl
        · rw [if_pos a3, if_neg a4, if_pos (by rw [decide_eq_true_eq]; omega)]; rfl
      · rw [if_neg a3, if_pos (by rw [decide_eq_true_eq]; omega)]; simp
    · rw [if_neg a2, if_neg (show ¬ ((f 1).toInt + 1 ≤ r.toInt ∧ r.toInt < (f 1).toInt + (f 3).toInt - 1) by omega), if_neg (by rw [decide_eq_true_eq]; omega)]; simp
  · rw [if_neg a1, if_neg (show ¬ ((f 0).toInt + 1 ≤ c.toInt ∧ c.toInt < (f 0).toInt + (f 2).toInt - 1) by omega), if_neg (by rw [decide_eq_true_eq]; omega)]; simp
def edgR (f : Fs) (q : Nat) : Int32 := cb (fun k => onR f (8 * (nI q % 4) + nI k % 8) (8 * (nI q / 4) + nI k / 8)) 64
theorem ix8 : ∀ q, q < 12 → ∀ k, k < 64 → (8 * (nI q % 4) + nI k % 8).toInt = ((8 * (q % 4) : Nat) : Int) + ((k % 8 : Nat) : Int) ∧ (8 * (nI q / 4) + nI k / 8).toInt = ((8 * (q / 4) : Nat) : Int) + ((k / 8 : Nat) : Int) := by decide +kernel
theorem ixq : ∀ q, q < 12 → ((nI q - nI q / 4 * 4) * 8).toInt = ((8 * (q % 4) : Nat) : Int) ∧ ((nI q - nI q / 4 * 4) * 8 + 8).toInt = ((8 * (q % 4) : Nat) : Int) + 8 ∧ (nI q / 4 * 8).toInt = ((8 * (q / 4) : Nat) : Int) ∧ (nI q / 4 * 8 + 8).toInt = ((8 * (q / 4) : Nat) : Int) + 8 := by decide +kernel
theorem mul_8 {a b : Int} (h1 : 0 ≤ a) (h2 : a ≤ 8) (h3 : 0 ≤ b) (h4 : b ≤ 8) : 0 ≤ a * b ∧ a * b ≤ 64 :=
  ⟨Int.mul_nonneg h1 h3, Int.le_trans (Int.mul_le_mul h2 h4 h3 (by decide)) (by decide)⟩
theorem fld_ti {f : Fs} (h : vF f) {q : Nat} (hq : q < 12) {m : Int32} (hm : m.toInt = 0 ∨ m.toInt = 1) : (fldV f (nI q) m).toInt = max (min ((f 0).toInt + (f 2).toInt - m.toInt) (((8 * (q % 4) : Nat) : Int) + 8) - max ((f 0).toInt + m.toInt) ((8 * (q % 4) : Nat) : Int)) 0 * max (min ((f 1).toInt + (f 3).toInt - m.toInt) (((8 * (q / 4) : Nat) : Int) + 8) - max ((f 1).toInt + m.toInt) ((8 * (q / 4) : Nat) : Int)) 0 := by
  obtain ⟨i1, i2, i3, i4⟩ := ixq q hq
  have e1 := h.x2
  have e2 := h.y2
  obtain ⟨h, -⟩ := h
  have a1 : (f 0 + f 2 - m).toInt = (f 0).toInt + (f 2).toInt - m.toInt := by rw [ti_sub (by rw [e1]; omega) (by rw [e1]; omega), e1]
  have a2 : (f 1 + f 3 - m).toInt = (f 1).toInt + (f 3).toInt - m.toInt := by rw [ti_sub (by rw [e2]; omega) (by rw [e2]; omega), e2]
  have a3 : (f 0 + m).toInt = (f 0).toInt + m.toInt := ti_add (by omega) (by omega)
  have a4 : (f 1 + m).toInt = (f 1).toInt + m.toInt := ti_add (by omega) (by omega)
  have b1 : (fcV f (nI q) m).toInt = min ((f 0).toInt + (f 2).toInt - m.toInt) (((8 * (q % 4) : Nat) : Int) + 8) - max ((f 0).toInt + m.toInt) ((8 * (q % 4) : Nat) : Int) := by
    unfold fcV
    rw [ti_sub (by rw [ti_imn, ti_imx, a1, a3, i1, i2]; omega) (by rw [ti_imn, ti_imx, a1, a3, i1, i2]; omega), ti_imn, ti_imx, a1, a3, i1, i2]
  have b2 : (frV f (nI q) m).toInt = min ((f 1).toInt + (f 3).toInt - m.toInt) (((8 * (q / 4) : Nat) : Int) + 8) - max ((f 1).toInt + m.toInt) ((8 * (q / 4) : Nat) : Int) := by
    unfold frV
    rw [ti_sub (by rw [ti_imn, ti_imx, a2, a4, i3, i4]; omega) (by rw [ti_imn, ti_imx, a2, a4, i3, i4]; omega), ti_imn, ti_imx, a2, a4, i3, i4]
  unfold fldV
  have c := mul_8 (a := max (fcV f (nI q) m).toInt 0) (b := max (frV f (nI q) m).toInt 0) (by omega) (by omega) (by omega) (by omega)
  rw [ti_mul (by rw [ti_imx, ti_imx, t0]; omega) (by rw [ti_imx, ti_imx, t0]; omega), ti_imx, ti_imx, t0, b1, b2]
theorem edgR_eq {f : Fs} (h : vF f) {q : Nat} (hq : q < 12) : edgR f q = edgQ f q := by
  have e : (edgR f q).toInt = (fldV f (nI q) 0).toInt - (fldV f (nI q) 1).toInt := by
    unfold edgR
    rw [cb_ti _ 64 (by decide), fld_ti h hq (Or.inl t0), fld_ti h hq (Or.inr t1), t0, t1]
    have s1 := sI_8 (fun t => iv (f 0).toInt ((f 0).toInt + (f 2).toInt) (((8 * (q % 4) : Nat) : Int) + t)) (fun t => iv (f 1).toInt ((f 1).toInt + (f 3).toInt) (((8 * (q / 4) : Nat) : Int) + t)) 8
    have s2 := sI_8 (fun t => iv ((f 0).toInt + 1) ((f 0).toInt + (f 2).toInt - 1) (((8 * (q % 4) : Nat) : Int) + t)) (fun t => iv ((f 1).toInt + 1) ((f 1).toInt + (f 3).toInt - 1) (((8 * (q / 4) : Nat) : Int) + t)) 8
    rw [sI_iv, sI_iv] at s1 s2
    rw [sI_c (g' := fun k => (fun k => iv (f 0).toInt ((f 0).toInt + (f 2).toInt) (((8 * (q % 4) : Nat) : Int) + ((k % 8 : Nat) : Int)) * iv (f 1).toInt ((f 1).toInt + (f 3).toInt) (((8 * (q / 4) : Nat) : Int) + ((k / 8 : Nat) : Int))) k - (fun k => iv ((f 0).toInt + 1) ((f 0).toInt + (f 2).toInt - 1) (((8 * (q % 4) : Nat) : Int) + ((k % 8 : Nat) : Int)) * iv ((f 1).toInt + 1) ((f 1).toInt + (f 3).toInt - 1) (((8 * (q / 4) : Nat) : Int) + ((k / 8 : Nat) : Int))) k) (fun k hk => by obtain ⟨i1, i2⟩ := ix8 q hq k hk; rw [onR_ti h, i1, i2])]
    rw [sI_sub]
    refine (congr (congrArg _ s1) s2).trans ?_
    simp only [Int.add_zero, Int.sub_zero]
    rfl
  have e2 : 0 ≤ (edgR f q).toInt ∧ (edgR f q).toInt ≤ 64 := by
    unfold edgR
    rw [cb_ti _ 64 (by decide)]
    exact sI_b _ 64
  rw [ti_eq]
  unfold edgQ
  rw [ti_sub (by omega) (by omega), e]
theorem edgQ_in {f : Fs} (h : vF f) {q : Nat} (hq : q < 12) : 0 ≤ (edgQ f q).toInt ∧ (edgQ f q).toInt ≤ 64 := by
  rw [← edgR_eq h hq]
  unfold edgR
  rw [cb_ti _ 64 (by decide)]
  exact sI_b _ 64
end
section
/-! a sound value; the reference's ways of reckoning are the class's -/
def ncN (P : Nat → Fs) : Nat → Nat
  | 0 => 0
  | k + 1 => ncN P k + (if P k 5 = 0 then 0 else 1)
theorem ncN_le (P : Nat → Fs) : ∀ k, ncN P k ≤ k
  | 0 => Nat.le_refl 0
  | k + 1 => by
    have := ncN_le P k
    simp only [ncN]
    split <;> omega
def iR (x : Int32) (a b : Int) : Prop := a ≤ x.toInt ∧ x.toInt ≤ b
def VA (A : Ab) : Prop := A.1 ≤ 12 ∧ (∀ i, i < A.1 → vF (A.2.2.2.2 i)) ∧ (iR (A.2.1 1) 0 31 ∧ iR (A.2.1 2) 0 23) ∧ iR (A.2.1 3) 0 (ncN A.2.2.2.2 A.1) ∧ (iR (A.2.2.2.1 0) 1 99 ∧ iR (A.2.2.2.1 1) 0 20 ∧ iR (A.2.2.2.1 2) 0 999 ∧ iR (A.2.2.2.1 3) 0 1) ∧ ∀ k, k < 12 → iR (A.2.2.1 k) 0 (64 * ncN A.2.2.2.2 A.1)
theorem VA.le {A : Ab} (h : VA A) : A.1 ≤ 12 := h.1
theorem VA.sh {A : Ab} (h : VA A) {i : Nat} (hi : i < A.1) : vF (A.2.2.2.2 i) := h.2.1 i hi
theorem VA.nc {A : Ab} (h : VA A) : ncN A.2.2.2.2 A.1 ≤ 12 := Nat.le_trans (ncN_le _ _) h.1
theorem VA.ht {A : Ab} (h : VA A) {k : Nat} (hk : k < 12) : iR (A.2.2.1 k) 0 768 := by
  have h1 := h.nc
  obtain ⟨h2, h3⟩ := h.2.2.2.2.2 k hk
  exact ⟨h2, by omega⟩
theorem VA.s0 {A : Ab} (h : VA A) : iR (A.2.2.2.1 0) 1 99 := h.2.2.2.2.1.1
theorem VA.s1 {A : Ab} (h : VA A) : iR (A.2.2.2.1 1) 0 20 := h.2.2.2.2.1.2.1
theorem VA.s2 {A : Ab} (h : VA A) : iR (A.2.2.2.1 2) 0 999 := h.2.2.2.2.1.2.2.1
theorem VA.s3 {A : Ab} (h : VA A) : iR (A.2.2.2.1 3) 0 1 := h.2.2.2.2.1.2.2.2
theorem VA.cl {A : Ab} (h : VA A) : iR (A.2.1 1) 0 31 := h.2.2.1.1
theorem VA.rw {A : Ab} (h : VA A) : iR (A.2.1 2) 0 23 := h.2.2.1.2
theorem VA.dt {A : Ab} (h : VA A) : iR (A.2.1 3) 0 12 := by
  have h1 := h.nc
  obtain ⟨h2, h3⟩ := h.2.2.2.1
  exact ⟨h2, by omega⟩
section SOUND
variable {A : Ab} {i : Nat}
def wayR (A : Ab) (i : Nat) : Int32 := offV (lcV (A.2.2.2.2 i)) (A.2.1 1) + offV (lrV (A.2.2.2.2 i)) (A.2.1 2)
theorem wayR_eq (hV : VA A) (hi : i < A.1) : wayR A i = wayV A i := by
  have e1 := lcV_in (hV.sh hi)
  have e2 := lrV_in (hV.sh hi)
  have e3 := hV.cl
  have e4 := hV.rw
  unfold iR at e3 e4
  unfold wayR wayV
  rw [offV_eq ⟨e1.1, by omega⟩ ⟨e3.1, by omega⟩, offV_eq ⟨e2.1, by omega⟩ ⟨e4.1, by omega⟩]
theorem way_in (hV : VA A) (hi : i < A.1) : iR (wayV A i) 0 54 := by
  have e1 := lcV_in (hV.sh hi)
  have e2 := lrV_in (hV.sh hi)
  have e3 := hV.cl
  have e4 := hV.rw
  unfold iR at *
  have s1 := ti_sub (a := lcV (A.2.2.2.2 i)) (b := A.2.1 1) (by omega) (by omega)
  have s2 := ti_sub (a := lrV (A.2.2.2.2 i)) (b := A.2.1 2) (by omega) (by omega)
  have a1 := ti_iab (a := lcV (A.2.2.2.2 i) - A.2.1 1) (by omega)
  have a2 := ti_iab (a := lrV (A.2.2.2.2 i) - A.2.1 2) (by omega)
  have b1 : 0 ≤ (iab (lcV (A.2.2.2.2 i) - A.2.1 1)).toInt ∧ (iab (lcV (A.2.2.2.2 i) - A.2.1 1)).toInt ≤ 31 := by rw [a1]; split <;> omega
  have b2 : 0 ≤ (iab (lrV (A.2.2.2.2 i) - A.2.1 2)).toInt ∧ (iab (lrV (A.2.2.2.2 i) - A.2.1 2)).toInt ≤ 23 := by rw [a2]; split <;> omega
  unfold wayV
  rw [ti_add (by omega) (by omega)]
  omega
theorem mul_in {a b : Int} {x y : Int} (h1 : 0 ≤ a) (h2 : a ≤ x) (h3 : 0 ≤ b) (h4 : b ≤ y) (hx : 0 ≤ x) : 0 ≤ a * b ∧ a * b ≤ x * y := ⟨Int.mul_nonneg h1 h3, Int.mul_le_mul h2 h4 h3 hx⟩
theorem xT_ti (hV : VA A) {x : Int32} (hx : iR x 0 999) : (x * A.2.2.2.1 1).toInt = x.toInt * (A.2.2.2.1 1).toInt ∧ iR (x * A.2.2.2.1 1) 0 19980 := by
  have h := hV.s1
  unfold iR at *
  have c := mul_in hx.1 hx.2 h.1 h.2 (by decide)
  have e := ti_mul (a := x) (b := A.2.2.2.1 1) (by omega) (by omega)
  exact ⟨e, by omega⟩
def clV (h b : Int32) : Int32 := if b < h then h - b else 0
theorem clV_ti {h b : Int32} (hh : iR h 0 100000) (hb : iR b 0 100000) : (clV h b).toInt = max (h.toInt - b.toInt) 0 := by
  unfold iR at *
  have e := ti_sub (a := h) (b := b) (by omega) (by omega)
  unfold clV
  simp only [ti_lt]
  split
  · rw [e]; omega
  · rw [t0]; omega
theorem imx_ti {h b : Int32} (hh : iR h 0 100000) (hb : iR b 0 100000) : (imx (h - b) 0).toInt = max (h.toInt - b.toInt) 0 := by
  unfold iR at *
  have e := ti_sub (a := h) (b := b) (by omega) (by omega)
  rw [ti_imx, e, t0]
theorem clV_eq {h b : Int32} (hh : iR h 0 100000) (hb : iR b 0 100000) : clV h b = imx (h - b) 0 := by
  rw [ti_eq, clV_ti hh hb, imx_ti hh hb]
theorem cool_eq (hV : VA A) {x : Int32} (hx : iR x 0 999) {k : Nat} (hk : k < 12) : clV (A.2.2.1 k) (x * A.2.2.2.1 1) = imx (A.2.2.1 k - x * A.2.2.2.1 1) 0 := by
  have h1 := hV.ht hk
  have h2 := (xT_ti hV hx).2
  unfold iR at *
  exact clV_eq ⟨h1.1, by omega⟩ ⟨h2.1, by omega⟩
/-! the hottest -/
def htN (H : Fs) : Nat → Int32
  | 0 => 0
  | k + 1 => if htN H k < H k then H k else htN H k
theorem hot_all {H : Fs} (h : ∀ k, k < 12 → 0 ≤ (H k).toInt) : ∀ k, k < 12 → htN H (k + 1) = H (hotN H (k + 1)) ∧ hotN H (k + 1) ≤ k ∧ (∀ q, q ≤ k → (H q).toInt ≤ (H (hotN H (k + 1))).toInt) ∧ ∀ q, q < hotN H (k + 1) → (H q).toInt < (H (hotN H (k + 1))).toInt := by
  intro k
  induction k with
  | zero =>
    intro _
    have h0 := h 0 (by decide)
    have e1 : hotN H 1 = 0 := by
      show (if H (hotN H 0) < H 0 then 0 else hotN H 0) = 0
      split <;> rfl
    rw [e1]
    refine ⟨?_, Nat.le_refl 0, fun q hq => by rw [show q = 0 by omega]; exact Int.le_refl _, fun q hq => absurd hq (Nat.not_lt_zero q)⟩
    show (if htN H 0 < H 0 then H 0 else htN H 0) = H 0
    split
    · rfl
    · rename_i h1
      have h1 : ¬ (0 : Int32) < H 0 := h1
      show (0 : Int32) = H 0
      rw [ti_lt, t0] at h1
      rw [ti_eq, t0]; omega
  | succ k ih =>
    intro hk
    obtain ⟨i1, i2, i3, i4⟩ := ih (by omega)
    rw [htN, hotN, i1]
    by_cases c : H (hotN H (k + 1)) < H (k + 1)
    · rw [if_pos c, if_pos c]
      rw [ti_lt] at c
      refine ⟨rfl, Nat.le_refl _, fun q hq => ?_, fun q hq => ?_⟩
      · by_cases e : q = k + 1
        · subst e; exact Int.le_refl _
        · have := i3 q (by omega); omega
      · have := i3 q (by omega); omega
    · rw [if_neg c, if_neg c]
      rw [ti_lt] at c
      refine ⟨rfl, by omega, fun q hq => ?_, i4⟩
      by_cases e : q = k + 1
      · subst e; omega
      · exact i3 q (by omega)
theorem hott_eq (hV : VA A) : htN A.2.2.1 12 = grV A := (hot_all (fun k hk => (hV.ht hk).1) 11 (by decide)).1
/-! too hot -/
theorem hmx_in (hV : VA A) (e : Fs) : ∀ k, k ≤ 12 → iR (hmx e A.2.2.1 k) 0 768
  | 0, _ => (show iR 0 0 768 from ⟨by decide, by decide⟩)
  | k + 1, hk => by
    have ih := hmx_in hV e k (by omega)
    have h1 := hV.ht (show k < 12 by omega)
    unfold iR at *
    simp only [hmx]
    split
    · rw [ti_imx]; omega
    · exact ih
theorem hov_ti (hV : VA A) : (hovV A i).toInt = (hmx (edgQ (A.2.2.2.2 i)) A.2.2.1 12).toInt - (A.2.2.2.1 2).toInt := by
  have h1 := hmx_in hV (edgQ (A.2.2.2.2 i)) 12 (by decide)
  have h2 := hV.s2
  unfold iR at *
  exact ti_sub (by omega) (by omega)
def tooN (A : Ab) (e : Fs) (b : Int32) : Nat → Bool
  | 0 => false
  | k + 1 => tooN A e b k || (decide (0 < e k) && decide (A.2.2.2.1 2 < clV (A.2.2.1 k) b))
theorem tooN_eq (hV : VA A) (e : Fs) {b : Int32} (hb : iR b 0 19980) : ∀ k, k ≤ 12 → (tooN A e b k = true ↔ b.toInt + (A.2.2.2.1 2).toInt < (hmx e A.2.2.1 k).toInt)
  | 0, _ => by
    have h2 := hV.s2
    unfold iR at *
    simp only [tooN, hmx, t0]
    constructor
    · intro h; cases h
    · intro h; omega
  | k + 1, hk => by
    have ih := tooN_eq hV e hb k (by omega)
    have h1 := hV.ht (show k < 12 by omega)
    have h2 := hV.s2
    unfold iR at *
    have c := clV_ti (h := A.2.2.1 k) (b := b) ⟨h1.1, by omega⟩ ⟨hb.1, by omega⟩
    simp only [tooN, hmx, Bool.or_eq_true, Bool.and_eq_true, decide_eq_true_eq]
    rw [ih]
    by_cases he : 0 < e k
    · simp only [he, if_true, true_and]
      rw [ti_imx, ti_lt, c]; omega
    · simp only [he, if_false, false_and, or_false]
theorem too_eq (hV : VA A) (hi : i < A.1) : tooN A (edgQ (A.2.2.2.2 i)) (wayV A i * A.2.2.2.1 1) 12 = decide (wayV A i * A.2.2.2.1 1 < hovV A i) := by
  have hw := way_in hV hi
  have hx := (xT_ti hV (x := wayV A i) ⟨hw.1, by have := hw.2; omega⟩).2
  rw [Bool.eq_iff_iff, tooN_eq hV _ hx 12 (by decide), decide_eq_true_eq, ti_lt, hov_ti hV]
  omega
/-! how long to wait -/
def wfN (e H : Fs) (t T : Int32) : Nat → Int32
  | 0 => 0
  | k + 1 => if 0 < H k - t ∧ 0 < e k then (if wfN e H t T k < (H k - t + T - 1) / T then (H k - t + T - 1) / T else wfN e H t T k) else wfN e H t T k
def cei (x T : Int) : Int := if 0 < x then (x + T - 1) / T else 0
theorem cei_in {x T : Int} (hT : 0 < T) (hx : x ≤ 768) : 0 ≤ cei x T ∧ cei x T ≤ 768 := by
  unfold cei
  split
  · rename_i h
    refine ⟨Int.ediv_nonneg (by omega) (by omega), ?_⟩
    have : (x + T - 1) / T < 769 := by
      rw [Int.ediv_lt_iff_lt_mul hT]
      have : (769 - x) * 1 ≤ (769 - x) * T := Int.mul_le_mul_of_nonneg_left (by omega) (by omega)
      have h3 : 769 * T = (769 - x) * T + x * T := by rw [← Int.add_mul]; congr 1; omega
      have h4 : x * 1 ≤ x * T := Int.mul_le_mul_of_nonneg_left (by omega) (by omega)
      have h5 : 1 * T ≤ (769 - x) * T := Int.mul_le_mul_of_nonneg_right (by omega) (by omega)
      omega
    omega
  · omega
theorem cei_mono {x y T : Int} (hT : 0 < T) (h : x ≤ y) : cei x T ≤ cei y T := by
  unfold cei
  split
  · rw [if_pos (by omega)]
    exact Int.ediv_le_ediv hT (by omega)
  · split
    · exact Int.ediv_nonneg (by omega) (by omega)
    · exact Int.le_refl _
theorem cei_pos {x T : Int} (hT : 0 < T) (h : 0 < x) : 0 < cei x T := by
  unfold cei
  rw [if_pos h]
  have : 1 ≤ (x + T - 1) / T := (Int.le_ediv_iff_mul_le hT).mpr (by omega)
  omega
theorem cei_lt {x T w : Int} (hT : 0 < T) (hw : 0 ≤ w) : w < cei x T ↔ w * T < x := by
  have h0 := Int.mul_nonneg hw (Int.le_of_lt hT)
  unfold cei
  split
  · have e : (x + T - 1) / T < w + 1 ↔ x + T - 1 < (w + 1) * T := Int.ediv_lt_iff_lt_mul hT
    rw [Int.add_mul] at e
    omega
  · omega
theorem wfN_ti (hV : VA A) (e : Fs) (hT : 0 < (A.2.2.2.1 1).toInt) : ∀ k, k ≤ 12 → (wfN e A.2.2.1 (A.2.2.2.1 2) (A.2.2.2.1 1) k).toInt = cei ((hmx e A.2.2.1 k).toInt - (A.2.2.2.1 2).toInt) (A.2.2.2.1 1).toInt
  | 0, _ => by
    have h2 := hV.s2
    unfold iR at *
    show (0 : Int32).toInt = cei ((0 : Int32).toInt - (A.2.2.2.1 2).toInt) (A.2.2.2.1 1).toInt
    rw [t0]
    unfold cei
    rw [if_neg (by omega)]
  | k + 1, hk => by
    have ih := wfN_ti hV e hT k (by omega)
    have h1 := hV.ht (show k < 12 by omega)
    have h2 := hV.s2
    have h3 := hV.s1
    have h4 := hmx_in hV e k (by omega)
    unfold iR at *
    have s1 := ti_sub (a := A.2.2.1 k) (b := A.2.2.2.1 2) (by omega) (by omega)
    simp only [wfN, hmx]
    by_cases he : 0 < e k
    · simp only [he, if_true, and_true]
      rw [ti_imx]
      by_cases ho : 0 < A.2.2.1 k - A.2.2.2.1 2
      · rw [if_pos ho]
        rw [ti_lt, t0, s1] at ho
        have s2 := ti_add (a := A.2.2.1 k - A.2.2.2.1 2) (b := A.2.2.2.1 1) (by omega) (by omega)
        have s3 := ti_sub (a := A.2.2.1 k - A.2.2.2.1 2 + A.2.2.2.1 1) (b := 1) (by rw [s2, t1]; omega) (by rw [s2, t1]; omega)
        rw [s2, s1, t1] at s3
        have s4 := ti_div (a := A.2.2.1 k - A.2.2.2.1 2 + A.2.2.2.1 1 - 1) (b := A.2.2.2.1 1) (by omega) hT
        have s5 : ((A.2.2.1 k - A.2.2.2.1 2 + A.2.2.2.1 1 - 1) / A.2.2.2.1 1).toInt = cei ((A.2.2.1 k).toInt - (A.2.2.2.1 2).toInt) (A.2.2.2.1 1).toInt := by
          rw [s4, s3, cei, if_pos ho]
        by_cases hc : (hmx e A.2.2.1 k).toInt ≤ (A.2.2.1 k).toInt
        · have m := cei_mono (x := (hmx e A.2.2.1 k).toInt - (A.2.2.2.1 2).toInt) (y := (A.2.2.1 k).toInt - (A.2.2.2.1 2).toInt) hT (by omega)
          rw [Int.max_eq_right hc]
          simp only [ti_lt]
          split
          · exact s5
          · rename_i hx
            rw [ih, s5] at hx
            rw [ih]; omega
        · have m := cei_mono (x := (A.2.2.1 k).toInt - (A.2.2.2.1 2).toInt) (y := (hmx e A.2.2.1 k).toInt - (A.2.2.2.1 2).toInt) hT (by omega)
          rw [Int.max_eq_left (by omega)]
          simp only [ti_lt]
          split
          · rename_i hx
            rw [ih, s5] at hx
            omega
          · exact ih
      · rw [if_neg ho, ih]
        rw [ti_lt, t0, s1] at ho
        by_cases hc : (A.2.2.1 k).toInt ≤ (hmx e A.2.2.1 k).toInt
        · rw [Int.max_eq_left hc]
        · rw [Int.max_eq_right (by omega)]
          unfold cei
          rw [if_neg (by omega), if_neg (by omega)]
    · simp only [he, if_false, and_false]
      exact ih
def wfR (A : Ab) (i : Nat) : Int32 := if A.2.2.2.1 1 = 0 ∧ 0 < hovV A i then -5 else if wayV A i < wfN (edgQ (A.2.2.2.2 i)) A.2.2.1 (A.2.2.2.1 2) (A.2.2.2.1 1) 12 then wfN (edgQ (A.2.2.2.2 i)) A.2.2.1 (A.2.2.2.1 2) (A.2.2.2.1 1) 12 - wayV A i else 0
theorem why_all : (A.2.2.2.2 i 5 = 1 ∧ whyV A i = 1) ∨ (A.2.2.2.2 i 5 = 2 ∧ whyV A i = 2) ∨ ((A.2.2.2.2 i 5 ≠ 1 ∧ A.2.2.2.2 i 5 ≠ 2) ∧ (whyV A i = 3 ∨ (whyV A i = 4 ∧ wayV A i * A.2.2.2.1 1 < hovV A i) ∨ (whyV A i = 0 ∧ ¬ wayV A i * A.2.2.2.1 1 < hovV A i))) := by
  unfold whyV
  by_cases a : A.2.2.2.2 i 5 = 1
  · rw [if_pos a]; exact Or.inl ⟨a, rfl⟩
  rw [if_neg a]
  by_cases b : A.2.2.2.2 i 5 = 2
  · rw [if_pos b]; exact Or.inr (Or.inl ⟨b, rfl⟩)
  rw [if_neg b]
  refine Or.inr (Or.inr ⟨⟨a, b⟩, ?_⟩)
  by_cases c : A.2.2.2.1 3 = 1 ∧ hoB A.2.2.2.2 (A.2.2.2.2 i) A.1 = true
  · rw [if_pos c]; exact Or.inl rfl
  rw [if_neg c]
  by_cases d : wayV A i * A.2.2.2.1 1 < hovV A i
  · rw [if_pos d]; exact Or.inr (Or.inl ⟨rfl, d⟩)
  · rw [if_neg d]; exact Or.inr (Or.inr ⟨rfl, d⟩)
theorem why_0 (h : whyV A i = 0) : ¬ wayV A i * A.2.2.2.1 1 < hovV A i ∧ A.2.2.2.2 i 5 ≠ 1 ∧ A.2.2.2.2 i 5 ≠ 2 := by
  rcases why_all (A := A) (i := i) with ⟨-, e⟩ | ⟨-, e⟩ | ⟨a, e | ⟨e, -⟩ | ⟨-, d⟩⟩
  · rw [h] at e; exact absurd e (by decide)
  · rw [h] at e; exact absurd e (by decide)
  · rw [h] at e; exact absurd e (by decide)
  · rw [h] at e; exact absurd e (by decide)
  · exact ⟨d, a⟩
theorem why_4 (h : whyV A i = 4) : wayV A i * A.2.2.2.1 1 < hovV A i := by
  rcases why_all (A := A) (i := i) with ⟨-, e⟩ | ⟨-, e⟩ | ⟨-, e | ⟨-, d⟩ | ⟨e, -⟩⟩
  · rw [h] at e; exact absurd e (by decide)
  · rw [h] at e; exact absurd e (by decide)
  · rw [h] at e; exact absurd e (by decide)
  · exact d
  · rw [h] at e; exact absurd e (by decide)
theorem wfR_eq (hV : VA A) (hi : i < A.1) (hw : whyV A i = 0 ∨ whyV A i = 4) : wfR A i = kcV A i := by
  have w := way_in hV hi
  have ho := hov_ti (i := i) hV
  have hm := hmx_in hV (edgQ (A.2.2.2.2 i)) 12 (by decide)
  have h1 := hV.s1
  have h2 := hV.s2
  have hx := (xT_ti hV (x := wayV A i) ⟨w.1, by have := w.2; omega⟩).1
  unfold iR at *
  by_cases hT : A.2.2.2.1 1 = 0
  · rw [hT, t0, Int.mul_zero] at hx
    rcases hw with hw | hw
    · have d := (why_0 hw).1
      rw [hT, ti_lt, hx] at d
      unfold wfR kcV
      rw [if_pos hw, if_neg (fun c => d (by have c := c.2; rw [ti_lt, t0] at c; exact c))]
      have z : ¬ wayV A i < wfN (edgQ (A.2.2.2.2 i)) A.2.2.1 (A.2.2.2.1 2) (A.2.2.2.1 1) 12 := by
        have z0 : ∀ k, k ≤ 12 → (∀ q, q < k → ¬ (0 < A.2.2.1 q - A.2.2.2.1 2 ∧ 0 < edgQ (A.2.2.2.2 i) q)) → wfN (edgQ (A.2.2.2.2 i)) A.2.2.1 (A.2.2.2.1 2) (A.2.2.2.1 1) k = 0 := by
          intro k
          induction k with
          | zero => intro _ _; rfl
          | succ k ih =>
            intro hk hq
            rw [wfN, if_neg (hq k (Nat.lt_succ_self k))]
            exact ih (by omega) (fun q h => hq q (by omega))
        rw [z0 12 (by decide) ?_, ti_lt, t0]
        · omega
        · rintro q hq ⟨c1, c2⟩
          have hh := hV.ht hq
          unfold iR at hh
          rw [ti_lt, t0, ti_sub (by omega) (by omega)] at c1
          have hle : ∀ k, q < k → (A.2.2.1 q).toInt ≤ (hmx (edgQ (A.2.2.2.2 i)) A.2.2.1 k).toInt := by
            intro k
            induction k with
            | zero => intro h; exact absurd h (Nat.not_lt_zero q)
            | succ k ih =>
              intro h
              rw [hmx]
              by_cases e : q = k
              · subst e; rw [if_pos c2, ti_imx]; omega
              · have := ih (by omega)
                split
                · rw [ti_imx]; omega
                · exact this
          have := hle 12 hq
          omega
      rw [if_neg z]
    · have d := why_4 hw
      rw [hT, ti_lt, hx] at d
      unfold wfR kcV
      rw [if_pos ⟨hT, by rw [ti_lt, t0]; exact d⟩, hw, if_neg (by decide), if_pos rfl, hT, if_neg (by decide)]
  · have hT1 : 0 < (A.2.2.2.1 1).toInt := by rw [ti_eq, t0] at hT; omega
    have hf := wfN_ti hV (edgQ (A.2.2.2.2 i)) hT1 12 (by decide)
    rw [← ho] at hf
    have hl := cei_lt (x := (hovV A i).toInt) (w := (wayV A i).toInt) hT1 w.1
    rw [← hx] at hl
    have hb := cei_in (x := (hovV A i).toInt) hT1 (by omega)
    unfold wfR
    rw [if_neg (fun c => hT c.1)]
    rcases hw with hw | hw
    · have d := (why_0 hw).1
      rw [ti_lt] at d
      unfold kcV
      rw [if_pos hw, if_neg (by rw [ti_lt, hf]; omega)]
    · have d := why_4 hw
      rw [ti_lt] at d
      have d0 : 0 < (hovV A i).toInt := by
        have := Int.mul_nonneg w.1 h1.1
        omega
      unfold kcV
      rw [if_pos (by rw [ti_lt, hf]; omega), hw, if_neg (by decide), if_pos rfl, if_pos (by rw [ti_lt, t0]; exact hT1)]
      have s2 := ti_add (a := hovV A i) (b := A.2.2.2.1 1) (by omega) (by omega)
      have s3 := ti_sub (a := hovV A i + A.2.2.2.1 1) (b := 1) (by rw [s2, t1]; omega) (by rw [s2, t1]; omega)
      rw [s2, t1] at s3
      have s4 := ti_div (a := hovV A i + A.2.2.2.1 1 - 1) (b := A.2.2.2.1 1) (by omega) hT1
      have s5 : wfN (edgQ (A.2.2.2.2 i)) A.2.2.1 (A.2.2.2.1 2) (A.2.2.2.1 1) 12 = (hovV A i + A.2.2.2.1 1 - 1) / A.2.2.2.1 1 := by
        rw [ti_eq, hf, s4, s3, cei, if_pos d0]
      rw [s5]
theorem kc_in (hV : VA A) (hi : i < A.1) : iR (kcV A i) (-5) 768 := by
  have w := way_in hV hi
  have ho := hov_ti (i := i) hV
  have hm := hmx_in hV (edgQ (A.2.2.2.2 i)) 12 (by decide)
  have h1 := hV.s1
  have h2 := hV.s2
  have hx := (xT_ti hV (x := wayV A i) ⟨w.1, by have := w.2; omega⟩).1
  unfold iR at *
  unfold kcV
  by_cases a : whyV A i = 0
  · rw [if_pos a, t0]; omega
  rw [if_neg a]
  by_cases b : whyV A i = 4
  · rw [if_pos b]
    by_cases c : 0 < A.2.2.2.1 1
    · rw [if_pos c]
      rw [ti_lt, t0] at c
      have d := why_4 b
      rw [ti_lt] at d
      have d0 : 0 < (hovV A i).toInt := by
        have := Int.mul_nonneg w.1 h1.1
        omega
      have hb := cei_in (x := (hovV A i).toInt) c (by omega)
      have s2 := ti_add (a := hovV A i) (b := A.2.2.2.1 1) (by omega) (by omega)
      have s3 := ti_sub (a := hovV A i + A.2.2.2.1 1) (b := 1) (by rw [s2, t1]; omega) (by rw [s2, t1]; omega)
      rw [s2, t1] at s3
      have s4 := ti_div (a := hovV A i + A.2.2.2.1 1 - 1) (b := A.2.2.2.1 1) (by omega) c
      have hl := (cei_lt (x := (hovV A i).toInt) (w := (wayV A i).toInt) c w.1).mpr (by rw [← hx]; exact d)
      rw [cei, if_pos d0, ← s3, ← s4] at hl hb
      rw [ti_sub (by omega) (by omega)]
      omega
    · rw [if_neg c]; exact ⟨by decide, by decide⟩
  · rw [if_neg b]; exact ⟨by decide, by decide⟩
theorem kc_pos (hV : VA A) (hi : i < A.1) (h : whyV A i = 4) (h5 : kcV A i ≠ -5) : 0 < (kcV A i).toInt := by
  have e := wfR_eq hV hi (Or.inr h)
  have w := way_in hV hi
  have h1 := hV.s1
  have d := why_4 h
  have hx := (xT_ti hV (x := wayV A i) ⟨w.1, by have := w.2; omega⟩).1
  have hm := hmx_in hV (edgQ (A.2.2.2.2 i)) 12 (by decide)
  have ho := hov_ti (i := i) hV
  have h2 := hV.s2
  unfold iR at *
  rw [ti_lt] at d
  have hT : A.2.2.2.1 1 ≠ 0 := by
    intro z
    apply h5
    unfold kcV
    rw [h, if_neg (by decide), if_pos rfl, z, if_neg (by decide)]
  have hT1 : 0 < (A.2.2.2.1 1).toInt := by rw [ne_eq, ti_eq, t0] at hT; omega
  have hf := wfN_ti hV (edgQ (A.2.2.2.2 i)) hT1 12 (by decide)
  rw [← ho] at hf
  have hl := (cei_lt (x := (hovV A i).toInt) (w := (wayV A i).toInt) hT1 w.1).mpr (by rw [← hx]; exact d)
  have hb := cei_in (x := (hovV A i).toInt) hT1 (by omega)
  rw [← e]
  unfold wfR
  rw [if_neg (fun c => hT c.1), if_pos (by rw [ti_lt, hf]; exact hl), ti_sub (by omega) (by omega)]
  omega
end SOUND
end
section
/-! sound values are kept by the acts -/
theorem vF_5 {f : Fs} (h : vF f) {x : Int32} (h1 : 0 ≤ x.toInt) (h2 : x.toInt ≤ 2) : vF (upd f 5 x) := ⟨h.1, h.2.1, h1, h2⟩
theorem vF_4 {f : Fs} (h : vF f) {x : Int32} (h1 : 0 ≤ x.toInt) (h2 : x.toInt ≤ 3) : vF (upd f 4 x) := ⟨h.1, ⟨h1, h2⟩, h.2.2⟩
theorem vF_6 {f : Fs} (h : vF f) (x : Int32) : vF (upd f 6 x) := h
theorem vF_7 {f : Fs} (h : vF f) (x : Int32) : vF (upd f 7 x) := h
theorem ncN_mono {P Q : Nat → Fs} : ∀ n, (∀ q, q < n → P q 5 ≠ 0 → Q q 5 ≠ 0) → ncN P n ≤ ncN Q n
  | 0, _ => Nat.le_refl 0
  | n + 1, h => by
    have ih := ncN_mono n (fun q hq => h q (by omega))
    have h1 := h n (by omega)
    simp only [ncN]
    by_cases a : P n 5 = 0
    · rw [if_pos a]; split <;> omega
    · rw [if_neg a, if_neg (h1 a)]; omega
theorem ncN_more {P Q : Nat → Fs} {i : Nat} (h0 : P i 5 = 0) (h1 : Q i 5 ≠ 0) : ∀ n, i < n → (∀ q, q < n → P q 5 ≠ 0 → Q q 5 ≠ 0) → ncN P n + 1 ≤ ncN Q n
  | 0, hi, _ => absurd hi (Nat.not_lt_zero i)
  | n + 1, hi, h => by
    simp only [ncN]
    by_cases e : i = n
    · subst e
      have := ncN_mono (P := P) (Q := Q) i (fun q hq => h q (by omega))
      rw [if_pos h0, if_neg h1]; omega
    · have ih := ncN_more h0 h1 n (by omega) (fun q hq => h q (by omega))
      have h2 := h n (by omega)
      by_cases a : P n 5 = 0
      · rw [if_pos a]; split <;> omega
      · rw [if_neg a, if_neg (h2 a)]; omega
theorem ncN_all {P : Nat → Fs} : ∀ n, n ≤ ncN P n → ∀ q, q < n → P q 5 ≠ 0
  | 0, _, q, hq => absurd hq (Nat.not_lt_zero q)
  | n + 1, h, q, hq => by
    have h1 := ncN_le P n
    simp only [ncN] at h
    by_cases a : P n 5 = 0
    · rw [if_pos a] at h; omega
    · rw [if_neg a] at h
      by_cases e : q = n
      · subst e; exact a
      · exact ncN_all n (by omega) q (by omega)
section KEEP
variable {A : Ab} {i : Nat}
theorem VA_cool (hV : VA A) {x : Int32} (hx : iR x 0 999) : VA (coolA A x) := by
  refine ⟨hV.1, hV.2.1, hV.2.2.1, hV.2.2.2.1, hV.2.2.2.2.1, fun k hk => ?_⟩
  have h1 := hV.ht hk
  have h2 := hV.2.2.2.2.2 k hk
  have h3 := (xT_ti hV hx).2
  have e := imx_ti (h := A.2.2.1 k) (b := x * A.2.2.2.1 1) ⟨h1.1, by have := h1.2; omega⟩ ⟨h3.1, by have := h3.2; omega⟩
  show iR (imx (A.2.2.1 k - x * A.2.2.2.1 1) 0) 0 (64 * ncN A.2.2.2.2 A.1)
  have h4 := h3.1
  unfold iR at *
  rw [e]
  omega
theorem VA_P (hV : VA A) {Q : Nat → Fs} (h : ∀ i, i < A.1 → vF (Q i)) (h2 : ncN A.2.2.2.2 A.1 ≤ ncN Q A.1) : VA (A.1, A.2.1, A.2.2.1, A.2.2.2.1, Q) := by
  refine ⟨hV.1, h, hV.2.2.1, ⟨hV.2.2.2.1.1, ?_⟩, hV.2.2.2.2.1, fun k hk => ⟨(hV.2.2.2.2.2 k hk).1, ?_⟩⟩
  · have := hV.2.2.2.1.2
    show (A.2.1 3).toInt ≤ (ncN Q A.1 : Int)
    omega
  · have := (hV.2.2.2.2.2 k hk).2
    show (A.2.2.1 k).toInt ≤ 64 * (ncN Q A.1 : Int)
    omega
theorem way_9 (hV : VA A) (hi : i < A.1) : iR (wayV A i) 0 999 := by
  have h := way_in hV hi
  exact ⟨h.1, by have := h.2; omega⟩
theorem VA_cut (hV : VA A) (hi : i < A.1) (h0 : A.2.2.2.2 i 5 = 0) : VA (cutA A i) := by
  have hC := VA_cool hV (way_9 hV hi)
  have hv := hV.sh hi
  obtain ⟨c, t, hP⟩ : ∃ c t, (preA A i).2.2.2.2 = updF A.2.2.2.2 i (upd (upd (upd (A.2.2.2.2 i) 5 1) 7 c) 6 t) := ⟨_, _, rfl⟩
  have hp : ∀ q, q < A.1 → vF ((preA A i).2.2.2.2 q) ∧ (A.2.2.2.2 q 5 ≠ 0 → (preA A i).2.2.2.2 q 5 ≠ 0) := by
    intro q hq
    rw [hP]
    by_cases e : q = i
    · subst e
      rw [updF_same]
      exact ⟨vF_6 (vF_7 (vF_5 hv (by decide) (by decide)) c) t, fun h => absurd h0 h⟩
    · rw [updF_ne _ _ e]
      exact ⟨hV.sh hq, id⟩
  have hq : ∀ q, q < A.1 → vF ((cutA A i).2.2.2.2 q) ∧ (A.2.2.2.2 q 5 ≠ 0 → (cutA A i).2.2.2.2 q 5 ≠ 0) := by
    intro q hq
    obtain ⟨p1, p2⟩ := hp q hq
    show vF (losP (preA A i).2.2.2.2 ((preA A i).2.2.2.2 i) A.1 q) ∧ (_ → losP (preA A i).2.2.2.2 ((preA A i).2.2.2.2 i) A.1 q 5 ≠ 0)
    by_cases e : q < A.1 ∧ (preA A i).2.2.2.2 q 5 = 0 ∧ insB ((preA A i).2.2.2.2 q) ((preA A i).2.2.2.2 i) = true
    · simp only [losP, if_pos e]
      exact ⟨vF_5 p1 (by decide) (by decide), fun _ => (show (2 : Int32) ≠ 0 by decide)⟩
    · simp only [losP, if_neg e]
      exact ⟨p1, p2⟩
  have hci : (cutA A i).2.2.2.2 i 5 ≠ 0 := by
    show losP (preA A i).2.2.2.2 ((preA A i).2.2.2.2 i) A.1 i 5 ≠ 0
    rw [losP_self, hP, updF_same]
    exact (show (1 : Int32) ≠ 0 by decide)
  have hn := ncN_more h0 hci A.1 hi (fun q h => (hq q h).2)
  have l1 := lcV_in hv
  have l2 := lrV_in hv
  refine ⟨hV.1, fun q h => (hq q h).1, ⟨l1, l2⟩, ?_, hV.2.2.2.2.1, fun k hk => ?_⟩
  · have d := hV.2.2.2.1
    have d2 := hV.nc
    have e : (A.2.1 3 + 1).toInt = (A.2.1 3).toInt + 1 := by
      unfold iR at d
      rw [ti_add (by rw [t1]; omega) (by rw [t1]; omega), t1]
    show iR (A.2.1 3 + 1) 0 (ncN (cutA A i).2.2.2.2 A.1)
    unfold iR at *
    rw [e]
    omega
  · have g1 := hC.2.2.2.2.2 k hk
    have g2 := edgQ_in hv hk
    have g3 := hC.nc
    have e : ((coolA A (wayV A i)).2.2.1 k + edgQ (A.2.2.2.2 i) k).toInt = ((coolA A (wayV A i)).2.2.1 k).toInt + (edgQ (A.2.2.2.2 i) k).toInt := by
      unfold iR at g1
      exact ti_add (by omega) (by omega)
    show iR ((coolA A (wayV A i)).2.2.1 k + edgQ (A.2.2.2.2 i) k) 0 (64 * ncN (cutA A i).2.2.2.2 A.1)
    have g4 : ncN (coolA A (wayV A i)).2.2.2.2 (coolA A (wayV A i)).1 = ncN A.2.2.2.2 A.1 := rfl
    rw [g4] at g1
    unfold iR at *
    rw [e]
    omega
theorem cut_nc (hV : VA A) (hi : i < A.1) (h0 : A.2.2.2.2 i 5 = 0) : ncN A.2.2.2.2 A.1 + 1 ≤ ncN (cutA A i).2.2.2.2 (cutA A i).1 := by
  obtain ⟨c, t, hP⟩ : ∃ c t, (preA A i).2.2.2.2 = updF A.2.2.2.2 i (upd (upd (upd (A.2.2.2.2 i) 5 1) 7 c) 6 t) := ⟨_, _, rfl⟩
  have hci : (cutA A i).2.2.2.2 i 5 ≠ 0 := by
    show losP (preA A i).2.2.2.2 ((preA A i).2.2.2.2 i) A.1 i 5 ≠ 0
    rw [losP_self, hP, updF_same]
    exact (show (1 : Int32) ≠ 0 by decide)
  refine ncN_more h0 hci A.1 hi (fun q hq h => ?_)
  show losP (preA A i).2.2.2.2 ((preA A i).2.2.2.2 i) A.1 q 5 ≠ 0
  have p2 : (preA A i).2.2.2.2 q 5 ≠ 0 := by
    rw [hP]
    by_cases e : q = i
    · subst e; exact absurd h0 h
    · rw [updF_ne _ _ e]; exact h
  simp only [losP, if_neg (show ¬ (q < A.1 ∧ (preA A i).2.2.2.2 q 5 = 0 ∧ insB ((preA A i).2.2.2.2 q) ((preA A i).2.2.2.2 i) = true) from fun z => p2 z.2.1)]
  exact p2
theorem f5_0 {f : Fs} (h : vF f) (h1 : f 5 ≠ 1) (h2 : f 5 ≠ 2) : f 5 = 0 := by
  obtain ⟨-, -, a, b⟩ := h
  rw [ne_eq, ti_eq, t1] at h1
  rw [ne_eq, ti_eq, t2] at h2
  rw [ti_eq, t0]
  omega
theorem why_5 (hV : VA A) (hi : i < A.1) (h : whyV A i = 0) : A.2.2.2.2 i 5 = 0 := by
  have e := why_0 h
  exact f5_0 (hV.sh hi) e.2.1 e.2.2
theorem VA_cutX (hV : VA A) (v : Int32) : VA (cutX A v).2 := by
  unfold cutX
  split
  · rename_i h
    obtain ⟨i, hi, rfl, hc⟩ := knB_some hV.le h
    split
    · rename_i h2
      rw [hc] at h2 ⊢
      exact VA_cut hV hi (why_5 hV hi h2)
    · exact hV
  · exact hV
theorem betw_ti {v a b : Int32} (h : betw v a b = true) : a.toInt ≤ v.toInt ∧ v.toInt ≤ b.toInt := by
  simp only [betw, Bool.and_eq_true, Bool.not_eq_true', decide_eq_false_iff_not, ti_lt] at h
  omega
theorem VA_leadX (hV : VA A) (v c : Int32) : VA (leadX A v c).2 := by
  unfold leadX
  split
  · rename_i h
    simp only [Bool.and_eq_true] at h
    obtain ⟨i, hi, rfl, hc⟩ := knB_some hV.le h.1
    have hb := betw_ti h.2
    split
    · split
      · exact hV
      · refine VA_P hV (fun q hq => ?_) (ncN_mono _ (fun q hq z => ?_))
        · rw [hc]
          by_cases e : q = i
          · subst e; rw [updF_same]; exact vF_4 (hV.sh hi) hb.1 hb.2
          · rw [updF_ne _ _ e]; exact hV.sh hq
        · rw [hc]
          by_cases e : q = i
          · subst e; rw [updF_same]; exact z
          · rw [updF_ne _ _ e]; exact z
    · exact hV
  · exact hV
theorem VA_setX (hV : VA A) (w v : Int32) : VA (setX A w v).2 := by
  unfold setX
  split
  · rename_i h
    obtain ⟨q, hq, rfl, hc⟩ := betw_some (n := 3) rfl (by decide) h
    rw [hc]
    split
    · rename_i h2
      have hb := betw_ti h2
      split
      · exact hV
      · refine ⟨hV.1, hV.2.1, hV.2.2.1, hV.2.2.2.1, ?_, hV.2.2.2.2.2⟩
        obtain ⟨a0, a1, a2, a3⟩ := hV.2.2.2.2.1
        rcases (show q = 0 ∨ q = 1 ∨ q = 2 ∨ q = 3 by omega) with rfl | rfl | rfl | rfl
        · exact ⟨hb, a1, a2, a3⟩
        · exact ⟨a0, hb, a2, a3⟩
        · exact ⟨a0, a1, hb, a3⟩
        · exact ⟨a0, a1, a2, hb⟩
    · exact hV
  · exact hV
theorem VA_waitX (hV : VA A) (v : Int32) : VA (waitX A v).2 := by
  unfold waitX
  split
  · rename_i h
    have hb := betw_ti h
    exact VA_cool hV ⟨Int.le_trans (by decide) hb.1, hb.2⟩
  · exact hV
theorem s0_9 (hV : VA A) : iR (A.2.2.2.1 0) 0 999 := by
  have h := hV.s0
  exact ⟨by have := h.1; omega, by have := h.2; omega⟩
theorem VA_cleanX (hV : VA A) : VA (cleanX A).2 := by
  unfold cleanX
  split
  · exact hV
  · have h := VA_cool hV (s0_9 hV)
    exact ⟨h.1, h.2.1, h.2.2.1, ⟨(show 0 ≤ (0 : Int32).toInt by decide), Int.natCast_nonneg _⟩, h.2.2.2.2.1, h.2.2.2.2.2⟩
theorem bad_vF {c r w h : Int32} (hb : badB c r w h = false) (f : Fs) : vF (plF f c r w h) := by
  simp only [badB, Bool.not_eq_false', Bool.and_eq_true, Bool.not_eq_true', decide_eq_false_iff_not, ti_lt] at hb
  obtain ⟨⟨⟨⟨⟨h1, h2⟩, h3⟩, h4⟩, h5⟩, h6⟩ := hb
  have b1 := betw_ti h1
  have b2 := betw_ti h2
  have b3 := betw_ti h3
  have b4 := betw_ti h4
  have k31 : (31 : Int32).toInt = 31 := rfl
  have k23 : (23 : Int32).toInt = 23 := rfl
  have k32 : (32 : Int32).toInt = 32 := rfl
  have k24 : (24 : Int32).toInt = 24 := rfl
  rw [t0, k31] at b1
  rw [t0, k23] at b2
  rw [t2, k32] at b3
  rw [t2, k24] at b4
  rw [k32, ti_add (by omega) (by omega)] at h5
  rw [k24, ti_add (by omega) (by omega)] at h6
  refine ⟨⟨?_, ?_, ?_, ?_, ?_, ?_⟩, ⟨(show 0 ≤ (0 : Int32).toInt by decide), (show (0 : Int32).toInt ≤ 3 by decide)⟩, (show 0 ≤ (0 : Int32).toInt by decide), (show (0 : Int32).toInt ≤ 2 by decide)⟩
  · show 0 ≤ c.toInt; omega
  · show 0 ≤ r.toInt; omega
  · show 2 ≤ w.toInt; omega
  · show 2 ≤ h.toInt; omega
  · show c.toInt + w.toInt ≤ 32; omega
  · show r.toInt + h.toInt ≤ 24; omega
theorem VA_tellX (hV : VA A) (c r w h : Int32) : VA (tellX A c r w h).2 := by
  unfold tellX
  split
  · exact hV
  · rename_i hb
    rw [Bool.not_eq_true] at hb
    split
    · split
      · rename_i h12
        have hn : ncN A.2.2.2.2 A.1 ≤ ncN (updF A.2.2.2.2 A.1 (plF (fun _ => 0) c r w h)) (A.1 + 1) := by
          have := ncN_mono (P := A.2.2.2.2) (Q := updF A.2.2.2.2 A.1 (plF (fun _ => 0) c r w h)) A.1 (fun q hq z => by rw [updF_ne _ _ (show q ≠ A.1 by omega)]; exact z)
          simp only [ncN]
          omega
        refine ⟨h12, fun q hq => ?_, hV.2.2.1, ⟨hV.2.2.2.1.1, ?_⟩, hV.2.2.2.2.1, fun k hk => ⟨(hV.2.2.2.2.2 k hk).1, ?_⟩⟩
        · show vF (updF A.2.2.2.2 A.1 (plF (fun _ => 0) c r w h) q)
          by_cases e : q = A.1
          · subst e; rw [updF_same]; exact bad_vF hb _
          · rw [updF_ne _ _ e]
            have : q < A.1 + 1 := hq
            exact hV.sh (by omega)
        · have := hV.2.2.2.1.2
          show (A.2.1 3).toInt ≤ (ncN (updF A.2.2.2.2 A.1 (plF (fun _ => 0) c r w h)) (A.1 + 1) : Int)
          omega
        · have := (hV.2.2.2.2.2 k hk).2
          show (A.2.2.1 k).toInt ≤ 64 * (ncN (updF A.2.2.2.2 A.1 (plF (fun _ => 0) c r w h)) (A.1 + 1) : Int)
          omega
      · exact hV
    · exact hV
theorem few_in (hV : VA A) : ∀ n, n ≤ A.1 → fewV A n = -5 ∨ iR (fewV A n) 0 768
  | 0, _ => Or.inl rfl
  | n + 1, h => by
    have ih := few_in hV n (by omega)
    have k := kc_in hV (show n < A.1 by omega)
    simp only [fewV]
    by_cases a : kcV A n < 0
    · rw [if_pos a]; exact ih
    · rw [if_neg a]
      rw [ti_lt, t0] at a
      have hk : iR (kcV A n) 0 768 := ⟨by omega, k.2⟩
      split
      · exact Or.inr hk
      · split
        · exact Or.inr hk
        · exact ih
theorem few_9 (hV : VA A) (h : ¬ fewV A A.1 = -5) : iR (fewV A A.1) 0 999 := by
  rcases few_in hV A.1 (Nat.le_refl _) with e | e
  · exact absurd e h
  · exact ⟨e.1, by have := e.2; omega⟩
theorem VA_nextX (hV : VA A) : VA (nextX A).2 := by
  rcases hb : besO A A.1 with _ | q
  · by_cases h2 : fewV A A.1 = -5
    · rw [nextX_2 hb h2]; exact hV
    · have hC := VA_cool hV (few_9 hV h2)
      rcases hb3 : besO (coolA A (fewV A A.1)) A.1 with _ | q
      · rw [nextX_4 hb h2 hb3]; exact hC
      · rw [nextX_3 hb h2 hb3]
        exact VA_cut hC (besO_lt hb3) (why_5 hC (besO_lt hb3) (besO_why hb3))
  · rw [nextX_1 hb]
    exact VA_cut hV (besO_lt hb) (why_5 hV (besO_lt hb) (besO_why hb))
theorem next_nc (hV : VA A) {q : Nat} (h : (nextX A).1 = some q) : ncN A.2.2.2.2 A.1 + 1 ≤ ncN (nextX A).2.2.2.2.2 (nextX A).2.1 := by
  rcases hb : besO A A.1 with _ | q
  · by_cases h2 : fewV A A.1 = -5
    · rw [nextX_2 hb h2] at h; cases h
    · have hC := VA_cool hV (few_9 hV h2)
      rcases hb3 : besO (coolA A (fewV A A.1)) A.1 with _ | q
      · rw [nextX_4 hb h2 hb3] at h; cases h
      · have e := cut_nc hC (besO_lt hb3) (why_5 hC (besO_lt hb3) (besO_why hb3))
        have e2 : (nextX A).2 = cutA (coolA A (fewV A A.1)) q := by rw [nextX_3 hb h2 hb3]
        rw [e2]
        exact e
  · have e2 : (nextX A).2 = cutA A q := by rw [nextX_1 hb]
    rw [e2]
    exact cut_nc hV (besO_lt hb) (why_5 hV (besO_lt hb) (besO_why hb))
end KEEP
/-- a whole value is sound -/
def VW (w : Wt) : Prop := VA w.1 ∧ (∀ A, A ∈ w.2.1 → VA A) ∧ ∀ A, w.2.2.1 = some A → VA A
section KEEPW
variable {w : Wt}
theorem VW_rec (h : VW w) {r : Int32 × Ab} (hr : VA r.2) : VW (recX w r).2 := by
  refine ⟨hr, fun A hA => ?_, h.2.2⟩
  have hA : A ∈ (if r.1 < 0 then w.2.1 else pushH w.2.1 w.1) := hA
  split at hA
  · exact h.2.1 A hA
  · unfold pushH at hA
    split at hA
    · rcases List.mem_append.mp hA with e | e
      · exact h.2.1 A (List.mem_of_mem_drop e)
      · rcases List.mem_singleton.mp e with rfl; exact h.1
    · rcases List.mem_append.mp hA with e | e
      · exact h.2.1 A e
      · rcases List.mem_singleton.mp e with rfl; exact h.1
theorem VW_und (h : VW w) : VW (undX w).2 := by
  unfold undX
  split
  · exact h
  · rename_i A hl
    exact ⟨h.2.1 A (List.mem_of_getLast? hl), fun B hB => h.2.1 B (List.dropLast_subset _ hB), h.2.2⟩
theorem VW_keep (h : VW w) : VW (keepX w).2 := ⟨h.1, h.2.1, fun A hA => by cases hA; exact h.1⟩
theorem VW_res (h : VW w) : VW (resX w).2 := by
  unfold resX
  split
  · exact h
  · rename_i A hA
    exact VW_rec (r := (nI A.1, A)) h (h.2.2 A hA)
end KEEPW
end
section
/-! the reference's ways of choosing are the class's -/
section EQ2
variable {A : Ab} {i n : Nat}
def tkV (A : Ab) (i : Nat) : Int32 := wayV A i + burV A i
theorem tk_tc (hV : VA A) (hi : i < A.1) (h : whyV A i = 0) : tkV A i = tcV A i := by
  unfold tkV tcV
  rw [if_pos (why_5 hV hi h)]
/-- best, from the last shape to the first -/
def besD (A : Ab) : Nat → Option Nat → Option Nat
  | 0, f => f
  | k + 1, f => besD A k (if (decide (whyV A k = 0) && (match f with | none => true | some q => !decide (tkV A q < tkV A k))) = true then some k else f)
def isB (A : Ab) (a n : Nat) : Option Nat → Prop
  | none => ∀ k, a ≤ k → k < n → whyV A k ≠ 0
  | some q => (a ≤ q ∧ q < n ∧ whyV A q = 0) ∧ ∀ k, a ≤ k → k < n → whyV A k = 0 → (tcV A q).toInt ≤ (tcV A k).toInt ∧ (k < q → (tcV A q).toInt < (tcV A k).toInt)
theorem isB_up (A : Ab) : ∀ n, isB A 0 n (besO A n)
  | 0 => fun k _ hk => absurd hk (Nat.not_lt_zero k)
  | n + 1 => by
    have ih := isB_up A n
    simp only [besO]
    by_cases h : whyV A n = 0
    · rw [if_pos h]
      rcases hb : besO A n with _ | q
      · rw [hb] at ih
        refine ⟨⟨Nat.zero_le n, Nat.lt_succ_self n, h⟩, fun k h0 hk hw => ?_⟩
        by_cases e : k = n
        · subst e; exact ⟨Int.le_refl _, fun z => absurd z (Nat.lt_irrefl k)⟩
        · exact absurd hw (ih k h0 (by omega))
      · rw [hb] at ih
        obtain ⟨⟨-, i2, i3⟩, i4⟩ := ih
        dsimp only
        by_cases c : tcV A n < tcV A q
        · rw [if_pos c]
          rw [ti_lt] at c
          refine ⟨⟨Nat.zero_le n, Nat.lt_succ_self n, h⟩, fun k h0 hk hw => ?_⟩
          by_cases e : k = n
          · subst e; exact ⟨Int.le_refl _, fun z => absurd z (Nat.lt_irrefl k)⟩
          · have := (i4 k h0 (by omega) hw).1
            exact ⟨by omega, fun _ => by omega⟩
        · rw [if_neg c]
          rw [ti_lt] at c
          refine ⟨⟨Nat.zero_le q, by omega, i3⟩, fun k h0 hk hw => ?_⟩
          by_cases e : k = n
          · subst e; exact ⟨by omega, fun z => by omega⟩
          · exact i4 k h0 (by omega) hw
    · rw [if_neg h]
      rcases hb : besO A n with _ | q
      · rw [hb] at ih
        intro k h0 hk
        by_cases e : k = n
        · subst e; exact h
        · exact ih k h0 (by omega)
      · rw [hb] at ih
        obtain ⟨⟨i1, i2, i3⟩, i4⟩ := ih
        refine ⟨⟨i1, by omega, i3⟩, fun k h0 hk hw => ?_⟩
        by_cases e : k = n
        · subst e; exact absurd hw h
        · exact i4 k h0 (by omega) hw
theorem isB_dn (hV : VA A) (hn : n ≤ A.1) : ∀ k f, k ≤ n → isB A k n f → isB A 0 n (besD A k f)
  | 0, f, _, h => h
  | k + 1, f, hk, h => by
    simp only [besD]
    refine isB_dn hV hn k _ (by omega) ?_
    by_cases hw : whyV A k = 0
    · cases f with
      | none =>
        simp only [decide_eq_true hw, Bool.and_self, if_true]
        refine ⟨⟨Nat.le_refl k, by omega, hw⟩, fun q h0 hq hwq => ?_⟩
        by_cases e : q = k
        · subst e; exact ⟨Int.le_refl _, fun z => absurd z (Nat.lt_irrefl q)⟩
        · exact absurd hwq (h q (by omega) hq)
      | some q =>
        obtain ⟨⟨i1, i2, i3⟩, i4⟩ := h
        have e1 := tk_tc hV (i := q) (by omega) i3
        have e2 := tk_tc hV (i := k) (by omega) hw
        by_cases c : tcV A q < tcV A k
        · rw [if_neg (by simp [e1, e2, c])]
          rw [ti_lt] at c
          refine ⟨⟨by omega, i2, i3⟩, fun m h0 hm hwm => ?_⟩
          by_cases e : m = k
          · subst e; exact ⟨by omega, fun _ => c⟩
          · exact i4 m (by omega) hm hwm
        · rw [if_pos (by simp [e1, e2, c, hw])]
          rw [ti_lt] at c
          refine ⟨⟨Nat.le_refl k, by omega, hw⟩, fun m h0 hm hwm => ?_⟩
          by_cases e : m = k
          · subst e; exact ⟨Int.le_refl _, fun z => absurd z (Nat.lt_irrefl m)⟩
          · have := (i4 m (by omega) hm hwm).1
            exact ⟨by omega, fun z => by omega⟩
    · rw [decide_eq_false hw, if_neg (by simp)]
      cases f with
      | none =>
        intro q h0 hq
        by_cases e : q = k
        · subst e; exact hw
        · exact h q (by omega) hq
      | some q =>
        obtain ⟨⟨i1, i2, i3⟩, i4⟩ := h
        refine ⟨⟨by omega, i2, i3⟩, fun m h0 hm hwm => ?_⟩
        by_cases e : m = k
        · subst e; exact absurd hwm hw
        · exact i4 m (by omega) hm hwm
theorem isB_uni {o o' : Option Nat} (h : isB A 0 n o) (h' : isB A 0 n o') : o = o' := by
  cases o with
  | none =>
    cases o' with
    | none => rfl
    | some q => exact absurd h'.1.2.2 (h q (Nat.zero_le q) h'.1.2.1)
  | some p =>
    cases o' with
    | none => exact absurd h.1.2.2 (h' p (Nat.zero_le p) h.1.2.1)
    | some q =>
      have a := h.2 q (Nat.zero_le q) h'.1.2.1 h'.1.2.2
      have b := h'.2 p (Nat.zero_le p) h.1.2.1 h.1.2.2
      have : ¬ q < p := fun z => by have := a.2 z; omega
      have : ¬ p < q := fun z => by have := b.2 z; omega
      rw [show p = q by omega]
theorem besD_eq (hV : VA A) : besD A A.1 none = besO A A.1 :=
  isB_uni (isB_dn hV (Nat.le_refl _) A.1 none (Nat.le_refl _) (fun k h1 h2 => by omega)) (isB_up A A.1)
/-- the soonest, from the last shape to the first -/
def mayB (A : Ab) (k : Nat) : Bool := decide (whyV A k = 4) && !decide (kcV A k = -5)
def sooD (A : Ab) : Nat → Option Nat → Option Nat
  | 0, f => f
  | k + 1, f => sooD A k (if (mayB A k && (match f with | none => true | some q => !decide (kcV A q < kcV A k))) = true then some k else f)
def isS (A : Ab) (a n : Nat) : Option Nat → Prop
  | none => ∀ k, a ≤ k → k < n → mayB A k = false
  | some q => (a ≤ q ∧ q < n ∧ mayB A q = true) ∧ ∀ k, a ≤ k → k < n → mayB A k = true → (kcV A q).toInt ≤ (kcV A k).toInt
theorem isS_dn : ∀ k f, k ≤ n → isS A k n f → isS A 0 n (sooD A k f)
  | 0, f, _, h => h
  | k + 1, f, hk, h => by
    simp only [sooD]
    refine isS_dn k _ (by omega) ?_
    cases hw : mayB A k with
    | true =>
      cases f with
      | none =>
        simp only [Bool.and_self, if_true]
        refine ⟨⟨Nat.le_refl k, by omega, hw⟩, fun q h0 hq hwq => ?_⟩
        by_cases e : q = k
        · subst e; exact Int.le_refl _
        · have := h q (by omega) hq; rw [hwq] at this; cases this
      | some q =>
        obtain ⟨⟨i1, i2, i3⟩, i4⟩ := h
        by_cases c : kcV A q < kcV A k
        · rw [if_neg (by simp [c])]
          rw [ti_lt] at c
          refine ⟨⟨by omega, i2, i3⟩, fun m h0 hm hwm => ?_⟩
          by_cases e : m = k
          · subst e; omega
          · exact i4 m (by omega) hm hwm
        · rw [if_pos (by simp [c])]
          rw [ti_lt] at c
          refine ⟨⟨Nat.le_refl k, by omega, hw⟩, fun m h0 hm hwm => ?_⟩
          by_cases e : m = k
          · subst e; exact Int.le_refl _
          · have := i4 m (by omega) hm hwm
            omega
    | false =>
      rw [if_neg (by simp)]
      cases f with
      | none =>
        intro q h0 hq
        by_cases e : q = k
        · subst e; exact hw
        · exact h q (by omega) hq
      | some q =>
        obtain ⟨⟨i1, i2, i3⟩, i4⟩ := h
        refine ⟨⟨by omega, i2, i3⟩, fun m h0 hm hwm => ?_⟩
        by_cases e : m = k
        · subst e; rw [hwm] at hw; cases hw
        · exact i4 m (by omega) hm hwm
def isF (A : Ab) (n : Nat) (v : Int32) : Prop := (v = -5 ∧ ∀ k, k < n → kcV A k < 0) ∨ (¬ v < 0 ∧ (∃ k, k < n ∧ kcV A k = v) ∧ ∀ k, k < n → kcV A k < 0 ∨ v.toInt ≤ (kcV A k).toInt)
theorem isF_up (A : Ab) : ∀ n, isF A n (fewV A n)
  | 0 => Or.inl ⟨rfl, fun k hk => absurd hk (Nat.not_lt_zero k)⟩
  | n + 1 => by
    have ih := isF_up A n
    simp only [fewV]
    by_cases a : kcV A n < 0
    · rw [if_pos a]
      rcases ih with ⟨h1, h2⟩ | ⟨h1, ⟨k, h2, h3⟩, h4⟩
      · refine Or.inl ⟨h1, fun k hk => ?_⟩
        by_cases e : k = n
        · subst e; exact a
        · exact h2 k (by omega)
      · refine Or.inr ⟨h1, ⟨k, by omega, h3⟩, fun k hk => ?_⟩
        by_cases e : k = n
        · subst e; exact Or.inl a
        · exact h4 k (by omega)
    · rw [if_neg a]
      rcases ih with ⟨h1, h2⟩ | ⟨h1, ⟨k, h2, h3⟩, h4⟩
      · rw [if_pos h1]
        refine Or.inr ⟨a, ⟨n, Nat.lt_succ_self n, rfl⟩, fun k hk => ?_⟩
        by_cases e : k = n
        · subst e; exact Or.inr (Int.le_refl _)
        · exact Or.inl (h2 k (by omega))
      · rw [if_neg (fun z => h1 (by rw [z]; decide))]
        by_cases c : kcV A n < fewV A n
        · rw [if_pos c]
          rw [ti_lt] at c
          refine Or.inr ⟨a, ⟨n, Nat.lt_succ_self n, rfl⟩, fun k hk => ?_⟩
          by_cases e : k = n
          · subst e; exact Or.inr (Int.le_refl _)
          · rcases h4 k (by omega) with z | z
            · exact Or.inl z
            · exact Or.inr (by omega)
        · rw [if_neg c]
          rw [ti_lt] at c
          refine Or.inr ⟨h1, ⟨k, by omega, h3⟩, fun k hk => ?_⟩
          by_cases e : k = n
          · subst e; exact Or.inr (by omega)
          · exact h4 k (by omega)
theorem may_iff (hV : VA A) (hi : i < A.1) (h : whyV A i ≠ 0) : mayB A i = true ↔ ¬ kcV A i < 0 := by
  unfold mayB
  by_cases h4 : whyV A i = 4
  · rw [decide_eq_true h4, Bool.true_and]
    by_cases h5 : kcV A i = -5
    · rw [decide_eq_true h5, h5]; decide
    · rw [decide_eq_false h5, ti_lt, t0]
      have := kc_pos hV hi h4 h5
      constructor
      · intro _; omega
      · intro _; rfl
  · have e : kcV A i = -4 := by unfold kcV; rw [if_neg h, if_neg h4]
    rw [decide_eq_false h4, e]; decide
theorem soo_few (hV : VA A) (hb : besO A A.1 = none) : fewV A A.1 = (match sooD A A.1 none with | none => -5 | some q => kcV A q) ∧ ∀ q, sooD A A.1 none = some q → q < A.1 ∧ whyV A q = 4 ∧ kcV A q ≠ -5 := by
  have hB := isB_up A A.1
  rw [hb] at hB
  have hS := isS_dn (A := A) (n := A.1) A.1 none (Nat.le_refl _) (fun k h1 h2 => by omega)
  have hF := isF_up A A.1
  rcases hs : sooD A A.1 none with _ | q
  · rw [hs] at hS
    refine ⟨?_, fun q hq => by cases hq⟩
    rcases hF with ⟨h1, -⟩ | ⟨h1, ⟨k, h2, h3⟩, -⟩
    · exact h1
    · exfalso
      have := hS k (Nat.zero_le k) h2
      have m := (may_iff hV h2 (hB k (Nat.zero_le k) h2)).mpr (by rw [h3]; exact h1)
      rw [m] at this
      cases this
  · rw [hs] at hS
    obtain ⟨⟨-, s2, s3⟩, s4⟩ := hS
    have m := (may_iff hV s2 (hB q (Nat.zero_le q) s2)).mp s3
    refine ⟨?_, fun r hr => ?_⟩
    · show fewV A A.1 = kcV A q
      rcases hF with ⟨-, h2⟩ | ⟨h1, ⟨k, h2, h3⟩, h4⟩
      · exact absurd (h2 q s2) m
      · have mk := (may_iff hV h2 (hB k (Nat.zero_le k) h2)).mpr (by rw [h3]; exact h1)
        have a := s4 k (Nat.zero_le k) h2 mk
        rw [h3] at a
        rcases h4 q s2 with b | b
        · exact absurd b m
        · rw [ti_eq]; omega
    · cases hr
      unfold mayB at s3
      simp only [Bool.and_eq_true, decide_eq_true_eq, Bool.not_eq_true', decide_eq_false_iff_not] at s3
      exact ⟨s2, s3⟩
/-- the hottest square, from the last to the first -/
def hsD (H : Fs) (m : Int32) : Nat → Nat → Nat
  | 0, f => f
  | k + 1, f => hsD H m k (if H k = m then k else f)
theorem hsD_eq {H : Fs} {m : Int32} {h : Nat} (h1 : H h = m) (h2 : ∀ q, q < h → H q ≠ m) : ∀ k f, hsD H m k f = if h < k then h else f
  | 0, f => by rw [if_neg (Nat.not_lt_zero h)]; rfl
  | k + 1, f => by
    simp only [hsD]
    rw [hsD_eq h1 h2 k]
    by_cases a : h < k
    · rw [if_pos a, if_pos (by omega)]
    · rw [if_neg a]
      by_cases b : h = k
      · subst b; rw [if_pos h1, if_pos (Nat.lt_succ_self h)]
      · rw [if_neg (h2 k (by omega)), if_neg (by omega)]
theorem hs_eq (hV : VA A) (f : Nat) : hsD A.2.2.1 (grV A) 12 f = hotN A.2.2.1 12 := by
  obtain ⟨-, a2, -, a4⟩ := hot_all (fun k hk => (hV.ht hk).1) 11 (by decide)
  have a2 : hotN A.2.2.1 12 ≤ 11 := a2
  rw [hsD_eq (H := A.2.2.1) (m := grV A) (h := hotN A.2.2.1 12) rfl (fun q hq e => ?_), if_pos (by omega)]
  have := a4 q hq
  have e : A.2.2.1 q = A.2.2.1 (hotN A.2.2.1 12) := e
  rw [e] at this
  exact absurd this (Int.lt_irrefl _)
/-- whether a rectangle could be told -/
def okR (f g : Fs) : Bool := (decide (g 0 + g 2 - 1 < f 0) || !decide (g 0 < f 0 + f 2) || decide (g 1 + g 3 - 1 < f 1) || !decide (g 1 < f 1 + f 3)) || (((decide (g 0 < f 0) && decide (f 0 + f 2 - 1 < g 0 + g 2 - 1) && decide (g 1 < f 1) && decide (f 1 + f 3 - 1 < g 1 + g 3 - 1)) || (decide (f 0 < g 0) && decide (g 0 + g 2 - 1 < f 0 + f 2 - 1) && decide (f 1 < g 1) && decide (g 1 + g 3 - 1 < f 1 + f 3 - 1))) && decide (g 5 = 0))
theorem okR_eq {f g : Fs} (h : vF f) (h2 : vF g) : okR f g = okB f g := by
  have a1 := h.xl
  have a2 := h.yl
  have a3 := h.x2
  have a4 := h.y2
  have b1 := h2.xl
  have b2 := h2.yl
  have b3 := h2.x2
  have b4 := h2.y2
  obtain ⟨h, -⟩ := h
  obtain ⟨h2, -⟩ := h2
  unfold okR okB insB apaB
  rw [Bool.eq_iff_iff]
  simp only [Bool.or_eq_true, Bool.and_eq_true, Bool.not_eq_true', decide_eq_true_eq, decide_eq_false_iff_not, ti_lt, ti_eq (b := 0), t0, a1, a2, a3, a4, b1, b2, b3, b4]
  by_cases c : ((((g 0).toInt < (f 0).toInt ∧ (f 0).toInt + (f 2).toInt < (g 0).toInt + (g 2).toInt) ∧ (g 1).toInt < (f 1).toInt) ∧ (f 1).toInt + (f 3).toInt < (g 1).toInt + (g 3).toInt) ∨ ((((f 0).toInt < (g 0).toInt ∧ (g 0).toInt + (g 2).toInt < (f 0).toInt + (f 2).toInt) ∧ (f 1).toInt < (g 1).toInt) ∧ (g 1).toInt + (g 3).toInt < (f 1).toInt + (f 3).toInt)
  · rw [if_pos c, decide_eq_true_eq]
    omega
  · rw [if_neg c]
    simp only [Bool.or_eq_true, Bool.not_eq_true', decide_eq_false_iff_not]
    omega
theorem kn_eq (h : A.1 ≤ 12) (v : Int32) : betw v 0 (nI A.1 - 1) = knB A v := by
  have e : (nI A.1).toInt = A.1 := nI_toInt (by omega)
  have e2 : (nI A.1 - 1).toInt = (A.1 : Int) - 1 := by rw [ti_sub (by rw [e, t1]; omega) (by rw [e, t1]; omega), e, t1]
  have e3 : (12 : Int32).toInt = 12 := rfl
  unfold betw knB
  rw [Bool.eq_iff_iff]
  simp only [Bool.and_eq_true, Bool.not_eq_true', decide_eq_true_eq, decide_eq_false_iff_not, ti_lt, e, e2, e3]
  omega
theorem cool_0 (hV : VA A) {k : Nat} (hk : k < 12) : (coolA A 0).2.2.1 k = A.2.2.1 k := by
  have h := hV.ht hk
  have hx := (xT_ti hV (x := 0) ⟨by decide, by decide⟩)
  have e := imx_ti (h := A.2.2.1 k) (b := 0 * A.2.2.2.1 1) ⟨h.1, by have := h.2; omega⟩ ⟨hx.2.1, by have := hx.2.2; omega⟩
  show imx (A.2.2.1 k - 0 * A.2.2.2.1 1) 0 = A.2.2.1 k
  rw [ti_eq, e, hx.1, t0]
  have := h.1
  omega
theorem bes_none (hV : VA A) (h : ∀ q, q < A.1 → A.2.2.2.2 q 5 ≠ 0) : besO A A.1 = none ∧ fewV A A.1 = -5 := by
  have hw : ∀ q, q < A.1 → whyV A q ≠ 0 ∧ whyV A q ≠ 4 := by
    intro q hq
    have h0 := h q hq
    have hf := hV.sh hq
    rcases why_all (A := A) (i := q) with ⟨-, e⟩ | ⟨-, e⟩ | ⟨⟨a, b⟩, -⟩
    · rw [e]; exact ⟨by decide, by decide⟩
    · rw [e]; exact ⟨by decide, by decide⟩
    · exact absurd (f5_0 hf a b) h0
  constructor
  · rcases hb : besO A A.1 with _ | q
    · rfl
    · exact absurd (besO_why hb) (hw q (besO_lt hb)).1
  · rcases isF_up A A.1 with ⟨h1, -⟩ | ⟨h1, ⟨k, h2, h3⟩, -⟩
    · exact h1
    · exfalso
      obtain ⟨a, b⟩ := hw k h2
      have e : kcV A k = -4 := by unfold kcV; rw [if_neg a, if_neg b]
      rw [← h3, e] at h1
      exact h1 (by decide)
/-! how long to wait, with the early end -/
theorem hit_pos (hV : VA A) {q : Nat} (hq : q < 12) (h1 : 0 < A.2.2.1 q - A.2.2.2.1 2) (h2 : 0 < edgQ (A.2.2.2.2 i) q) : 0 < hovV A i := by
  have hle : ∀ k, k ≤ 12 → q < k → (A.2.2.1 q).toInt ≤ (hmx (edgQ (A.2.2.2.2 i)) A.2.2.1 k).toInt := by
    intro k
    induction k with
    | zero => intro _ h; exact absurd h (Nat.not_lt_zero q)
    | succ k ih =>
      intro hk h
      rw [hmx]
      by_cases e : q = k
      · subst e; rw [if_pos h2, ti_imx]; omega
      · have := ih (by omega) (by omega)
        split
        · rw [ti_imx]; omega
        · exact this
  have a := hle 12 (by decide) hq
  have h := hV.ht hq
  have s := hV.s2
  unfold iR at *
  rw [ti_lt, t0, ti_sub (by omega) (by omega)] at h1
  rw [ti_lt, t0, hov_ti hV]
  omega
theorem no_hit (hV : VA A) : ∀ k, k ≤ 12 → (∀ q, q < k → ¬ (0 < A.2.2.1 q - A.2.2.2.1 2 ∧ 0 < edgQ (A.2.2.2.2 i) q)) → (hmx (edgQ (A.2.2.2.2 i)) A.2.2.1 k).toInt ≤ (A.2.2.2.1 2).toInt
  | 0, _, _ => by
    have := hV.s2.1
    show (0 : Int32).toInt ≤ _
    rw [t0]; exact this
  | k + 1, hk, h => by
    have ih := no_hit hV k (by omega) (fun q hq => h q (by omega))
    have h1 := h k (Nat.lt_succ_self k)
    have hh := hV.ht (show k < 12 by omega)
    have s := hV.s2
    unfold iR at *
    rw [hmx]
    split
    · rename_i he
      rw [ti_imx]
      have h2 : ¬ 0 < A.2.2.1 k - A.2.2.2.1 2 := fun z => h1 ⟨z, he⟩
      rw [ti_lt, t0, ti_sub (by omega) (by omega)] at h2
      omega
    · exact ih
theorem hov_no (hV : VA A) (h : ∀ q, q < 12 → ¬ (0 < A.2.2.1 q - A.2.2.2.1 2 ∧ 0 < edgQ (A.2.2.2.2 i) q)) : ¬ 0 < hovV A i := by
  have := no_hit hV 12 (Nat.le_refl _) h
  rw [ti_lt, t0, hov_ti hV]
  omega
end EQ2
end
