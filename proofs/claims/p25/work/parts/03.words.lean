/-! each word of the tables, by its place (by program: wip/whole/gen_words.py) -/
def WS : List Cond := lw_tbl.filter goodWord
theorem WS_sub : ∀ w ∈ WS, w ∈ lw_tbl := fun w h => (List.mem_filter.mp h).1
theorem WS_good : GoodIn WS WS := fun w h => ⟨h, good_of_word (List.mem_filter.mp h).2⟩
set_option maxRecDepth 20000 in
theorem mI_L : Cond.initialized RL ∈ WS := List.mem_filter.mpr ⟨List.mem_of_getElem? (i := 18) rfl, rfl⟩
set_option maxRecDepth 20000 in
theorem mI_X3 : Cond.initialized RX3 ∈ WS := List.mem_filter.mpr ⟨List.mem_of_getElem? (i := 19) rfl, rfl⟩
set_option maxRecDepth 20000 in
theorem mI_X2 : Cond.initialized RX2 ∈ WS := List.mem_filter.mpr ⟨List.mem_of_getElem? (i := 20) rfl, rfl⟩
set_option maxRecDepth 20000 in
theorem mI_X1 : Cond.initialized RX1 ∈ WS := List.mem_filter.mpr ⟨List.mem_of_getElem? (i := 21) rfl, rfl⟩
set_option maxRecDepth 20000 in
theorem mI_X0 : Cond.initialized RX0 ∈ WS := List.mem_filter.mpr ⟨List.mem_of_getElem? (i := 22) rfl, rfl⟩
set_option maxRecDepth 20000 in
theorem mI_Math : Cond.initialized "java/lang/Math" ∈ WS := List.mem_filter.mpr ⟨List.mem_of_getElem? (i := 23) rfl, rfl⟩
set_option maxRecDepth 20000 in
theorem mC_L_10 : Cond.classLink RL 10 RX3 ∈ WS := List.mem_filter.mpr ⟨List.mem_of_getElem? (i := 24) rfl, rfl⟩
set_option maxRecDepth 20000 in
theorem mN_X3 : Cond.instantiable RX3 10 ∈ WS := List.mem_filter.mpr ⟨List.mem_of_getElem? (i := 25) rfl, rfl⟩
set_option maxRecDepth 20000 in
theorem mL_L_94 : Cond.methodLink RL 94 yX3_init ∈ WS := List.mem_filter.mpr ⟨List.mem_of_getElem? (i := 26) rfl, rfl⟩
set_option maxRecDepth 20000 in
theorem mL_X3_1 : Cond.methodLink RX3 1 objectInit ∈ WS := List.mem_filter.mpr ⟨List.mem_of_getElem? (i := 29) rfl, rfl⟩
set_option maxRecDepth 20000 in
theorem mC_X3_7 : Cond.classLink RX3 7 RX2 ∈ WS := List.mem_filter.mpr ⟨List.mem_of_getElem? (i := 32) rfl, rfl⟩
set_option maxRecDepth 20000 in
theorem mN_X2 : Cond.instantiable RX2 10 ∈ WS := List.mem_filter.mpr ⟨List.mem_of_getElem? (i := 33) rfl, rfl⟩
set_option maxRecDepth 20000 in
theorem mL_X3_9 : Cond.methodLink RX3 9 yX2_init ∈ WS := List.mem_filter.mpr ⟨List.mem_of_getElem? (i := 34) rfl, rfl⟩
set_option maxRecDepth 20000 in
theorem mL_X2_3 : Cond.methodLink RX2 3 objectInit ∈ WS := List.mem_filter.mpr ⟨List.mem_of_getElem? (i := 37) rfl, rfl⟩
set_option maxRecDepth 20000 in
theorem mC_X2_11 : Cond.classLink RX2 11 RX1 ∈ WS := List.mem_filter.mpr ⟨List.mem_of_getElem? (i := 38) rfl, rfl⟩
set_option maxRecDepth 20000 in
theorem mN_X1 : Cond.instantiable RX1 9 ∈ WS := List.mem_filter.mpr ⟨List.mem_of_getElem? (i := 40) rfl, rfl⟩
set_option maxRecDepth 20000 in
theorem mL_X2_17 : Cond.methodLink RX2 17 yX1_init ∈ WS := List.mem_filter.mpr ⟨List.mem_of_getElem? (i := 41) rfl, rfl⟩
set_option maxRecDepth 20000 in
theorem mL_X1_3 : Cond.methodLink RX1 3 objectInit ∈ WS := List.mem_filter.mpr ⟨List.mem_of_getElem? (i := 44) rfl, rfl⟩
set_option maxRecDepth 20000 in
theorem mF_X1_9 : Cond.fieldLink RX1 9 "BeamCuts$Shape" "left" "I" ∈ WS := List.mem_filter.mpr ⟨List.mem_of_getElem? (i := 45) rfl, rfl⟩
set_option maxRecDepth 20000 in
theorem mF_X2_167 : Cond.fieldLink RX2 167 "BeamCuts$Shape" "left" "I" ∈ WS := List.mem_filter.mpr ⟨List.mem_of_getElem? (i := 46) rfl, rfl⟩
set_option maxRecDepth 20000 in
theorem mF_X1_15 : Cond.fieldLink RX1 15 "BeamCuts$Shape" "top" "I" ∈ WS := List.mem_filter.mpr ⟨List.mem_of_getElem? (i := 47) rfl, rfl⟩
set_option maxRecDepth 20000 in
theorem mF_X2_170 : Cond.fieldLink RX2 170 "BeamCuts$Shape" "top" "I" ∈ WS := List.mem_filter.mpr ⟨List.mem_of_getElem? (i := 48) rfl, rfl⟩
set_option maxRecDepth 20000 in
theorem mF_X1_18 : Cond.fieldLink RX1 18 "BeamCuts$Shape" "width" "I" ∈ WS := List.mem_filter.mpr ⟨List.mem_of_getElem? (i := 49) rfl, rfl⟩
set_option maxRecDepth 20000 in
theorem mF_X2_173 : Cond.fieldLink RX2 173 "BeamCuts$Shape" "width" "I" ∈ WS := List.mem_filter.mpr ⟨List.mem_of_getElem? (i := 50) rfl, rfl⟩
set_option maxRecDepth 20000 in
theorem mF_X1_21 : Cond.fieldLink RX1 21 "BeamCuts$Shape" "height" "I" ∈ WS := List.mem_filter.mpr ⟨List.mem_of_getElem? (i := 51) rfl, rfl⟩
set_option maxRecDepth 20000 in
theorem mF_X2_176 : Cond.fieldLink RX2 176 "BeamCuts$Shape" "height" "I" ∈ WS := List.mem_filter.mpr ⟨List.mem_of_getElem? (i := 52) rfl, rfl⟩
set_option maxRecDepth 20000 in
theorem mF_X1_24 : Cond.fieldLink RX1 24 "BeamCuts$Shape" "lead" "I" ∈ WS := List.mem_filter.mpr ⟨List.mem_of_getElem? (i := 53) rfl, rfl⟩
set_option maxRecDepth 20000 in
theorem mF_X2_76 : Cond.fieldLink RX2 76 "BeamCuts$Shape" "lead" "I" ∈ WS := List.mem_filter.mpr ⟨List.mem_of_getElem? (i := 54) rfl, rfl⟩
set_option maxRecDepth 20000 in
theorem mF_X1_27 : Cond.fieldLink RX1 27 "BeamCuts$Shape" "condition" "I" ∈ WS := List.mem_filter.mpr ⟨List.mem_of_getElem? (i := 55) rfl, rfl⟩
set_option maxRecDepth 20000 in
theorem mF_X2_66 : Cond.fieldLink RX2 66 "BeamCuts$Shape" "condition" "I" ∈ WS := List.mem_filter.mpr ⟨List.mem_of_getElem? (i := 56) rfl, rfl⟩
set_option maxRecDepth 20000 in
theorem mF_X1_30 : Cond.fieldLink RX1 30 "BeamCuts$Shape" "tilted" "I" ∈ WS := List.mem_filter.mpr ⟨List.mem_of_getElem? (i := 57) rfl, rfl⟩
set_option maxRecDepth 20000 in
theorem mF_X2_119 : Cond.fieldLink RX2 119 "BeamCuts$Shape" "tilted" "I" ∈ WS := List.mem_filter.mpr ⟨List.mem_of_getElem? (i := 58) rfl, rfl⟩
set_option maxRecDepth 20000 in
theorem mF_X1_33 : Cond.fieldLink RX1 33 "BeamCuts$Shape" "rank" "I" ∈ WS := List.mem_filter.mpr ⟨List.mem_of_getElem? (i := 59) rfl, rfl⟩
set_option maxRecDepth 20000 in
theorem mF_X2_107 : Cond.fieldLink RX2 107 "BeamCuts$Shape" "rank" "I" ∈ WS := List.mem_filter.mpr ⟨List.mem_of_getElem? (i := 60) rfl, rfl⟩
set_option maxRecDepth 20000 in
theorem mF_X1_38 : Cond.fieldLink RX1 38 "BeamCuts$Shape" "edgeIn" "[I" ∈ WS := List.mem_filter.mpr ⟨List.mem_of_getElem? (i := 61) rfl, rfl⟩
set_option maxRecDepth 20000 in
theorem mF_X2_128 : Cond.fieldLink RX2 128 "BeamCuts$Shape" "edgeIn" "[I" ∈ WS := List.mem_filter.mpr ⟨List.mem_of_getElem? (i := 62) rfl, rfl⟩
set_option maxRecDepth 20000 in
theorem mA_int : Cond.arrayClass .int ∈ WS := List.mem_filter.mpr ⟨List.mem_of_getElem? (i := 82) rfl, rfl⟩
set_option maxRecDepth 20000 in
theorem mF_X2_13 : Cond.fieldLink RX2 13 "BeamCuts$Sheet" "shapes" "[LBeamCuts$Shape;" ∈ WS := List.mem_filter.mpr ⟨List.mem_of_getElem? (i := 83) rfl, rfl⟩
set_option maxRecDepth 20000 in
theorem mF_X2_18 : Cond.fieldLink RX2 18 "BeamCuts$Sheet" "heats" "[I" ∈ WS := List.mem_filter.mpr ⟨List.mem_of_getElem? (i := 84) rfl, rfl⟩
set_option maxRecDepth 20000 in
theorem mF_X2_22 : Cond.fieldLink RX2 22 "BeamCuts$Sheet" "settings" "[I" ∈ WS := List.mem_filter.mpr ⟨List.mem_of_getElem? (i := 85) rfl, rfl⟩
set_option maxRecDepth 20000 in
theorem mF_X2_25 : Cond.fieldLink RX2 25 "BeamCuts$Sheet" "told" "I" ∈ WS := List.mem_filter.mpr ⟨List.mem_of_getElem? (i := 86) rfl, rfl⟩
set_option maxRecDepth 20000 in
theorem mF_X3_96 : Cond.fieldLink RX3 96 "BeamCuts$Sheet" "told" "I" ∈ WS := List.mem_filter.mpr ⟨List.mem_of_getElem? (i := 87) rfl, rfl⟩
set_option maxRecDepth 20000 in
theorem mF_X2_29 : Cond.fieldLink RX2 29 "BeamCuts$Sheet" "column" "I" ∈ WS := List.mem_filter.mpr ⟨List.mem_of_getElem? (i := 88) rfl, rfl⟩
set_option maxRecDepth 20000 in
theorem mF_X2_32 : Cond.fieldLink RX2 32 "BeamCuts$Sheet" "row" "I" ∈ WS := List.mem_filter.mpr ⟨List.mem_of_getElem? (i := 89) rfl, rfl⟩
set_option maxRecDepth 20000 in
theorem mF_X2_35 : Cond.fieldLink RX2 35 "BeamCuts$Sheet" "dirt" "I" ∈ WS := List.mem_filter.mpr ⟨List.mem_of_getElem? (i := 90) rfl, rfl⟩
set_option maxRecDepth 20000 in
theorem mF_X2_38 : Cond.fieldLink RX2 38 "BeamCuts$Sheet" "ticks" "I" ∈ WS := List.mem_filter.mpr ⟨List.mem_of_getElem? (i := 91) rfl, rfl⟩
set_option maxRecDepth 20000 in
theorem mF_X3_129 : Cond.fieldLink RX3 129 "BeamCuts$Sheet" "ticks" "I" ∈ WS := List.mem_filter.mpr ⟨List.mem_of_getElem? (i := 92) rfl, rfl⟩
set_option maxRecDepth 20000 in
theorem mF_X2_41 : Cond.fieldLink RX2 41 "BeamCuts$Sheet" "burningTicks" "I" ∈ WS := List.mem_filter.mpr ⟨List.mem_of_getElem? (i := 93) rfl, rfl⟩
set_option maxRecDepth 20000 in
theorem mF_X2_44 : Cond.fieldLink RX2 44 "BeamCuts$Sheet" "cuts" "I" ∈ WS := List.mem_filter.mpr ⟨List.mem_of_getElem? (i := 94) rfl, rfl⟩
set_option maxRecDepth 20000 in
theorem mC_X3_29 : Cond.classLink RX3 29 RX0 ∈ WS := List.mem_filter.mpr ⟨List.mem_of_getElem? (i := 117) rfl, rfl⟩
set_option maxRecDepth 20000 in
theorem mN_X0 : Cond.instantiable RX0 7 ∈ WS := List.mem_filter.mpr ⟨List.mem_of_getElem? (i := 118) rfl, rfl⟩
set_option maxRecDepth 20000 in
theorem mL_X3_31 : Cond.methodLink RX3 31 yX0_init ∈ WS := List.mem_filter.mpr ⟨List.mem_of_getElem? (i := 119) rfl, rfl⟩
set_option maxRecDepth 20000 in
theorem mL_X0_3 : Cond.methodLink RX0 3 objectInit ∈ WS := List.mem_filter.mpr ⟨List.mem_of_getElem? (i := 122) rfl, rfl⟩
set_option maxRecDepth 20000 in
theorem mF_X0_11 : Cond.fieldLink RX0 11 "BeamCuts$Plan" "letters" "[C" ∈ WS := List.mem_filter.mpr ⟨List.mem_of_getElem? (i := 123) rfl, rfl⟩
set_option maxRecDepth 20000 in
theorem mF_X0_15 : Cond.fieldLink RX0 15 "BeamCuts$Plan" "kinds" "[I" ∈ WS := List.mem_filter.mpr ⟨List.mem_of_getElem? (i := 124) rfl, rfl⟩
set_option maxRecDepth 20000 in
theorem mF_X0_19 : Cond.fieldLink RX0 19 "BeamCuts$Plan" "firsts" "[I" ∈ WS := List.mem_filter.mpr ⟨List.mem_of_getElem? (i := 125) rfl, rfl⟩
set_option maxRecDepth 20000 in
theorem mF_X0_22 : Cond.fieldLink RX0 22 "BeamCuts$Plan" "seconds" "[I" ∈ WS := List.mem_filter.mpr ⟨List.mem_of_getElem? (i := 126) rfl, rfl⟩
set_option maxRecDepth 20000 in
theorem mF_X0_25 : Cond.fieldLink RX0 25 "BeamCuts$Plan" "length" "I" ∈ WS := List.mem_filter.mpr ⟨List.mem_of_getElem? (i := 127) rfl, rfl⟩
set_option maxRecDepth 20000 in
theorem mF_X3_132 : Cond.fieldLink RX3 132 "BeamCuts$Plan" "length" "I" ∈ WS := List.mem_filter.mpr ⟨List.mem_of_getElem? (i := 128) rfl, rfl⟩
set_option maxRecDepth 20000 in
theorem mF_X0_29 : Cond.fieldLink RX0 29 "BeamCuts$Plan" "size" "I" ∈ WS := List.mem_filter.mpr ⟨List.mem_of_getElem? (i := 129) rfl, rfl⟩
set_option maxRecDepth 20000 in
theorem mF_X0_32 : Cond.fieldLink RX0 32 "BeamCuts$Plan" "at" "I" ∈ WS := List.mem_filter.mpr ⟨List.mem_of_getElem? (i := 130) rfl, rfl⟩
set_option maxRecDepth 20000 in
theorem mA_char : Cond.arrayClass .char ∈ WS := List.mem_filter.mpr ⟨List.mem_of_getElem? (i := 146) rfl, rfl⟩
set_option maxRecDepth 20000 in
theorem mF_X3_10 : Cond.fieldLink RX3 10 "BeamCuts" "sheet" "LBeamCuts$Sheet;" ∈ WS := List.mem_filter.mpr ⟨List.mem_of_getElem? (i := 147) rfl, rfl⟩
set_option maxRecDepth 20000 in
theorem mF_X3_16 : Cond.fieldLink RX3 16 "BeamCuts" "before" "LBeamCuts$Sheet;" ∈ WS := List.mem_filter.mpr ⟨List.mem_of_getElem? (i := 148) rfl, rfl⟩
set_option maxRecDepth 20000 in
theorem mF_X3_19 : Cond.fieldLink RX3 19 "BeamCuts" "trial" "LBeamCuts$Sheet;" ∈ WS := List.mem_filter.mpr ⟨List.mem_of_getElem? (i := 149) rfl, rfl⟩
set_option maxRecDepth 20000 in
theorem mF_X3_22 : Cond.fieldLink RX3 22 "BeamCuts" "snapshot" "LBeamCuts$Sheet;" ∈ WS := List.mem_filter.mpr ⟨List.mem_of_getElem? (i := 150) rfl, rfl⟩
set_option maxRecDepth 20000 in
theorem mF_X3_25 : Cond.fieldLink RX3 25 "BeamCuts" "history" "[LBeamCuts$Sheet;" ∈ WS := List.mem_filter.mpr ⟨List.mem_of_getElem? (i := 151) rfl, rfl⟩
set_option maxRecDepth 20000 in
theorem mF_X3_32 : Cond.fieldLink RX3 32 "BeamCuts" "plan" "LBeamCuts$Plan;" ∈ WS := List.mem_filter.mpr ⟨List.mem_of_getElem? (i := 152) rfl, rfl⟩
set_option maxRecDepth 20000 in
theorem mF_X3_36 : Cond.fieldLink RX3 36 "BeamCuts" "states" "I" ∈ WS := List.mem_filter.mpr ⟨List.mem_of_getElem? (i := 153) rfl, rfl⟩
set_option maxRecDepth 20000 in
theorem mF_X3_40 : Cond.fieldLink RX3 40 "BeamCuts" "hasSnapshot" "Z" ∈ WS := List.mem_filter.mpr ⟨List.mem_of_getElem? (i := 154) rfl, rfl⟩
set_option maxRecDepth 20000 in
theorem mF_X3_44 : Cond.fieldLink RX3 44 "BeamCuts" "stopNumber" "I" ∈ WS := List.mem_filter.mpr ⟨List.mem_of_getElem? (i := 155) rfl, rfl⟩
set_option maxRecDepth 20000 in
theorem mF_X3_47 : Cond.fieldLink RX3 47 "BeamCuts" "stopError" "I" ∈ WS := List.mem_filter.mpr ⟨List.mem_of_getElem? (i := 156) rfl, rfl⟩
set_option maxRecDepth 20000 in
theorem mL_L_85 : Cond.methodLink RL 85 yX3_undo ∈ WS := List.mem_filter.mpr ⟨List.mem_of_getElem? (i := 178) rfl, rfl⟩
set_option maxRecDepth 20000 in
theorem mL_X3_50 : Cond.methodLink RX3 50 yX2_copyFrom ∈ WS := List.mem_filter.mpr ⟨List.mem_of_getElem? (i := 182) rfl, rfl⟩
set_option maxRecDepth 20000 in
theorem mL_X2_47 : Cond.methodLink RX2 47 yX1_copyFrom ∈ WS := List.mem_filter.mpr ⟨List.mem_of_getElem? (i := 186) rfl, rfl⟩
set_option maxRecDepth 20000 in
theorem mL_L_99 : Cond.methodLink RL 99 yX3_restore ∈ WS := List.mem_filter.mpr ⟨List.mem_of_getElem? (i := 190) rfl, rfl⟩
set_option maxRecDepth 20000 in
theorem mL_X3_58 : Cond.methodLink RX3 58 yX3_recorded ∈ WS := List.mem_filter.mpr ⟨List.mem_of_getElem? (i := 194) rfl, rfl⟩
set_option maxRecDepth 20000 in
theorem mL_X3_138 : Cond.methodLink RX3 138 yX3_dropOldestState ∈ WS := List.mem_filter.mpr ⟨List.mem_of_getElem? (i := 198) rfl, rfl⟩
set_option maxRecDepth 20000 in
theorem mL_L_88 : Cond.methodLink RL 88 yX3_allTakes ∈ WS := List.mem_filter.mpr ⟨List.mem_of_getElem? (i := 202) rfl, rfl⟩
set_option maxRecDepth 20000 in
theorem mL_X3_121 : Cond.methodLink RX3 121 yX2_cutNext ∈ WS := List.mem_filter.mpr ⟨List.mem_of_getElem? (i := 206) rfl, rfl⟩
set_option maxRecDepth 20000 in
theorem mL_X2_155 : Cond.methodLink RX2 155 yX2_bestShape ∈ WS := List.mem_filter.mpr ⟨List.mem_of_getElem? (i := 210) rfl, rfl⟩
set_option maxRecDepth 20000 in
theorem mL_X2_85 : Cond.methodLink RX2 85 yX2_reasonAgainst ∈ WS := List.mem_filter.mpr ⟨List.mem_of_getElem? (i := 214) rfl, rfl⟩
set_option maxRecDepth 20000 in
theorem mL_X2_143 : Cond.methodLink RX2 143 yX2_holdsWholeShape ∈ WS := List.mem_filter.mpr ⟨List.mem_of_getElem? (i := 218) rfl, rfl⟩
set_option maxRecDepth 20000 in
theorem mL_X2_63 : Cond.methodLink RX2 63 yX1_isInside ∈ WS := List.mem_filter.mpr ⟨List.mem_of_getElem? (i := 222) rfl, rfl⟩
set_option maxRecDepth 20000 in
theorem mL_X2_146 : Cond.methodLink RX2 146 yX2_heatOver ∈ WS := List.mem_filter.mpr ⟨List.mem_of_getElem? (i := 226) rfl, rfl⟩
set_option maxRecDepth 20000 in
theorem mL_X2_131 : Cond.methodLink RX2 131 Lib.Math.max.name ∈ WS := List.mem_filter.mpr ⟨List.mem_of_getElem? (i := 230) rfl, rfl⟩
set_option maxRecDepth 20000 in
theorem mL_X2_89 : Cond.methodLink RX2 89 yX2_wayTo ∈ WS := List.mem_filter.mpr ⟨List.mem_of_getElem? (i := 233) rfl, rfl⟩
set_option maxRecDepth 20000 in
theorem mL_X2_97 : Cond.methodLink RX2 97 yX1_leadColumn ∈ WS := List.mem_filter.mpr ⟨List.mem_of_getElem? (i := 237) rfl, rfl⟩
set_option maxRecDepth 20000 in
theorem mL_X2_137 : Cond.methodLink RX2 137 Lib.Math.abs.name ∈ WS := List.mem_filter.mpr ⟨List.mem_of_getElem? (i := 241) rfl, rfl⟩
set_option maxRecDepth 20000 in
theorem mL_X2_101 : Cond.methodLink RX2 101 yX1_leadRow ∈ WS := List.mem_filter.mpr ⟨List.mem_of_getElem? (i := 244) rfl, rfl⟩
set_option maxRecDepth 20000 in
theorem mL_X2_149 : Cond.methodLink RX2 149 yX2_ticksToCut ∈ WS := List.mem_filter.mpr ⟨List.mem_of_getElem? (i := 248) rfl, rfl⟩
set_option maxRecDepth 20000 in
theorem mL_X2_72 : Cond.methodLink RX2 72 yX2_knows ∈ WS := List.mem_filter.mpr ⟨List.mem_of_getElem? (i := 252) rfl, rfl⟩
set_option maxRecDepth 20000 in
theorem mL_X2_125 : Cond.methodLink RX2 125 yX2_burningOf ∈ WS := List.mem_filter.mpr ⟨List.mem_of_getElem? (i := 256) rfl, rfl⟩
set_option maxRecDepth 20000 in
theorem mL_X2_140 : Cond.methodLink RX2 140 yX1_edge ∈ WS := List.mem_filter.mpr ⟨List.mem_of_getElem? (i := 260) rfl, rfl⟩
set_option maxRecDepth 20000 in
theorem mL_X2_158 : Cond.methodLink RX2 158 yX2_fewestTicksToCool ∈ WS := List.mem_filter.mpr ⟨List.mem_of_getElem? (i := 264) rfl, rfl⟩
set_option maxRecDepth 20000 in
theorem mL_X2_152 : Cond.methodLink RX2 152 yX2_ticksToCool ∈ WS := List.mem_filter.mpr ⟨List.mem_of_getElem? (i := 268) rfl, rfl⟩
set_option maxRecDepth 20000 in
theorem mL_X2_93 : Cond.methodLink RX2 93 yX2_coolFor ∈ WS := List.mem_filter.mpr ⟨List.mem_of_getElem? (i := 272) rfl, rfl⟩
set_option maxRecDepth 20000 in
theorem mL_X2_161 : Cond.methodLink RX2 161 yX2_cutShape ∈ WS := List.mem_filter.mpr ⟨List.mem_of_getElem? (i := 276) rfl, rfl⟩
set_option maxRecDepth 20000 in
theorem mL_X2_104 : Cond.methodLink RX2 104 yX2_burnEdge ∈ WS := List.mem_filter.mpr ⟨List.mem_of_getElem? (i := 280) rfl, rfl⟩
set_option maxRecDepth 20000 in
theorem mL_X2_110 : Cond.methodLink RX2 110 yX1_leadSquare ∈ WS := List.mem_filter.mpr ⟨List.mem_of_getElem? (i := 284) rfl, rfl⟩
set_option maxRecDepth 20000 in
theorem mL_X1_54 : Cond.methodLink RX1 54 yX1_leadColumn ∈ WS := List.mem_filter.mpr ⟨List.mem_of_getElem? (i := 288) rfl, rfl⟩
set_option maxRecDepth 20000 in
theorem mL_X1_58 : Cond.methodLink RX1 58 yX1_leadRow ∈ WS := List.mem_filter.mpr ⟨List.mem_of_getElem? (i := 289) rfl, rfl⟩
set_option maxRecDepth 20000 in
theorem mL_X2_113 : Cond.methodLink RX2 113 yX2_heatIn ∈ WS := List.mem_filter.mpr ⟨List.mem_of_getElem? (i := 290) rfl, rfl⟩
set_option maxRecDepth 20000 in
theorem mL_X2_116 : Cond.methodLink RX2 116 yX2_greatestHeat ∈ WS := List.mem_filter.mpr ⟨List.mem_of_getElem? (i := 297) rfl, rfl⟩
set_option maxRecDepth 20000 in
theorem mL_X2_164 : Cond.methodLink RX2 164 yX2_hottestSquare ∈ WS := List.mem_filter.mpr ⟨List.mem_of_getElem? (i := 301) rfl, rfl⟩
set_option maxRecDepth 20000 in
theorem mL_X2_122 : Cond.methodLink RX2 122 yX2_loseShapesInside ∈ WS := List.mem_filter.mpr ⟨List.mem_of_getElem? (i := 305) rfl, rfl⟩
set_option maxRecDepth 20000 in
theorem mL_X3_126 : Cond.methodLink RX3 126 yX2_shapesThatAre ∈ WS := List.mem_filter.mpr ⟨List.mem_of_getElem? (i := 309) rfl, rfl⟩
set_option maxRecDepth 20000 in
theorem mL_L_9 : Cond.methodLink RL 9 yX3_count ∈ WS := List.mem_filter.mpr ⟨List.mem_of_getElem? (i := 313) rfl, rfl⟩
set_option maxRecDepth 20000 in
theorem mL_X3_135 : Cond.methodLink RX3 135 yX2_factOfSheet ∈ WS := List.mem_filter.mpr ⟨List.mem_of_getElem? (i := 317) rfl, rfl⟩
set_option maxRecDepth 20000 in
theorem mL_X2_185 : Cond.methodLink RX2 185 yX2_shapesThatAre ∈ WS := List.mem_filter.mpr ⟨List.mem_of_getElem? (i := 321) rfl, rfl⟩
set_option maxRecDepth 20000 in
theorem mL_X2_188 : Cond.methodLink RX2 188 yX2_shapesThatTilted ∈ WS := List.mem_filter.mpr ⟨List.mem_of_getElem? (i := 322) rfl, rfl⟩
set_option maxRecDepth 20000 in
theorem mL_X2_191 : Cond.methodLink RX2 191 yX2_allHeat ∈ WS := List.mem_filter.mpr ⟨List.mem_of_getElem? (i := 326) rfl, rfl⟩
set_option maxRecDepth 20000 in
theorem mL_L_102 : Cond.methodLink RL 102 yL_cell ∈ WS := List.mem_filter.mpr ⟨List.mem_of_getElem? (i := 330) rfl, rfl⟩
set_option maxRecDepth 20000 in
theorem mV_L_7 : Cond.constant RL 7 (40503 : Int32) ∈ WS := List.mem_filter.mpr ⟨List.mem_of_getElem? (i := 333) rfl, rfl⟩
set_option maxRecDepth 20000 in
theorem mL_L_15 : Cond.methodLink RL 15 yL_low ∈ WS := List.mem_filter.mpr ⟨List.mem_of_getElem? (i := 334) rfl, rfl⟩
set_option maxRecDepth 20000 in
theorem mV_L_8 : Cond.constant RL 8 (2147483647 : Int32) ∈ WS := List.mem_filter.mpr ⟨List.mem_of_getElem? (i := 337) rfl, rfl⟩
set_option maxRecDepth 20000 in
theorem mL_L_106 : Cond.methodLink RL 106 yL_act ∈ WS := List.mem_filter.mpr ⟨List.mem_of_getElem? (i := 338) rfl, rfl⟩
set_option maxRecDepth 20000 in
theorem mL_L_21 : Cond.methodLink RL 21 yX3_tell ∈ WS := List.mem_filter.mpr ⟨List.mem_of_getElem? (i := 341) rfl, rfl⟩
set_option maxRecDepth 20000 in
theorem mL_X3_54 : Cond.methodLink RX3 54 yX2_addShape ∈ WS := List.mem_filter.mpr ⟨List.mem_of_getElem? (i := 345) rfl, rfl⟩
set_option maxRecDepth 20000 in
theorem mL_X2_55 : Cond.methodLink RX2 55 yX1_place ∈ WS := List.mem_filter.mpr ⟨List.mem_of_getElem? (i := 349) rfl, rfl⟩
set_option maxRecDepth 20000 in
theorem mL_X1_42 : Cond.methodLink RX1 42 yX1_fieldsIn ∈ WS := List.mem_filter.mpr ⟨List.mem_of_getElem? (i := 353) rfl, rfl⟩
set_option maxRecDepth 20000 in
theorem mL_X1_46 : Cond.methodLink RX1 46 Lib.Math.min.name ∈ WS := List.mem_filter.mpr ⟨List.mem_of_getElem? (i := 357) rfl, rfl⟩
set_option maxRecDepth 20000 in
theorem mL_X1_51 : Cond.methodLink RX1 51 Lib.Math.max.name ∈ WS := List.mem_filter.mpr ⟨List.mem_of_getElem? (i := 360) rfl, rfl⟩
set_option maxRecDepth 20000 in
theorem mL_X2_59 : Cond.methodLink RX2 59 yX2_fits ∈ WS := List.mem_filter.mpr ⟨List.mem_of_getElem? (i := 361) rfl, rfl⟩
set_option maxRecDepth 20000 in
theorem mL_X2_69 : Cond.methodLink RX2 69 yX1_isApartFrom ∈ WS := List.mem_filter.mpr ⟨List.mem_of_getElem? (i := 365) rfl, rfl⟩
set_option maxRecDepth 20000 in
theorem mL_L_25 : Cond.methodLink RL 25 yL_within ∈ WS := List.mem_filter.mpr ⟨List.mem_of_getElem? (i := 369) rfl, rfl⟩
set_option maxRecDepth 20000 in
theorem mL_L_45 : Cond.methodLink RL 45 yX3_shape ∈ WS := List.mem_filter.mpr ⟨List.mem_of_getElem? (i := 372) rfl, rfl⟩
set_option maxRecDepth 20000 in
theorem mL_X3_99 : Cond.methodLink RX3 99 yX2_factOfShape ∈ WS := List.mem_filter.mpr ⟨List.mem_of_getElem? (i := 376) rfl, rfl⟩
set_option maxRecDepth 20000 in
theorem mL_X2_179 : Cond.methodLink RX2 179 yX2_outerOf ∈ WS := List.mem_filter.mpr ⟨List.mem_of_getElem? (i := 380) rfl, rfl⟩
set_option maxRecDepth 20000 in
theorem mL_X2_182 : Cond.methodLink RX2 182 yX2_setInside ∈ WS := List.mem_filter.mpr ⟨List.mem_of_getElem? (i := 384) rfl, rfl⟩
set_option maxRecDepth 20000 in
theorem mL_L_29 : Cond.methodLink RL 29 yX3_cut ∈ WS := List.mem_filter.mpr ⟨List.mem_of_getElem? (i := 388) rfl, rfl⟩
set_option maxRecDepth 20000 in
theorem mL_X3_69 : Cond.methodLink RX3 69 yX2_cutShape ∈ WS := List.mem_filter.mpr ⟨List.mem_of_getElem? (i := 392) rfl, rfl⟩
set_option maxRecDepth 20000 in
theorem mL_L_32 : Cond.methodLink RL 32 yX3_setLead ∈ WS := List.mem_filter.mpr ⟨List.mem_of_getElem? (i := 393) rfl, rfl⟩
set_option maxRecDepth 20000 in
theorem mL_X3_62 : Cond.methodLink RX3 62 yX2_changeLead ∈ WS := List.mem_filter.mpr ⟨List.mem_of_getElem? (i := 397) rfl, rfl⟩
set_option maxRecDepth 20000 in
theorem mL_L_35 : Cond.methodLink RL 35 yX3_pause ∈ WS := List.mem_filter.mpr ⟨List.mem_of_getElem? (i := 401) rfl, rfl⟩
set_option maxRecDepth 20000 in
theorem mL_X3_72 : Cond.methodLink RX3 72 yX2_waitFor ∈ WS := List.mem_filter.mpr ⟨List.mem_of_getElem? (i := 405) rfl, rfl⟩
set_option maxRecDepth 20000 in
theorem mL_L_38 : Cond.methodLink RL 38 yX3_clean ∈ WS := List.mem_filter.mpr ⟨List.mem_of_getElem? (i := 409) rfl, rfl⟩
set_option maxRecDepth 20000 in
theorem mL_X3_75 : Cond.methodLink RX3 75 yX2_cleanLens ∈ WS := List.mem_filter.mpr ⟨List.mem_of_getElem? (i := 413) rfl, rfl⟩
set_option maxRecDepth 20000 in
theorem mL_L_42 : Cond.methodLink RL 42 yX3_set ∈ WS := List.mem_filter.mpr ⟨List.mem_of_getElem? (i := 417) rfl, rfl⟩
set_option maxRecDepth 20000 in
theorem mL_X3_66 : Cond.methodLink RX3 66 yX2_changeSetting ∈ WS := List.mem_filter.mpr ⟨List.mem_of_getElem? (i := 421) rfl, rfl⟩
set_option maxRecDepth 20000 in
theorem mF_X2_79 : Cond.fieldLink RX2 79 "BeamCuts$Sheet" "LEAST_SETTINGS" "[I" ∈ WS := List.mem_filter.mpr ⟨List.mem_of_getElem? (i := 425) rfl, rfl⟩
set_option maxRecDepth 20000 in
theorem mF_X2_82 : Cond.fieldLink RX2 82 "BeamCuts$Sheet" "GREATEST_SETTINGS" "[I" ∈ WS := List.mem_filter.mpr ⟨List.mem_of_getElem? (i := 427) rfl, rfl⟩
set_option maxRecDepth 20000 in
theorem mL_L_95 : Cond.methodLink RL 95 yL_holds ∈ WS := List.mem_filter.mpr ⟨List.mem_of_getElem? (i := 429) rfl, rfl⟩
set_option maxRecDepth 20000 in
theorem mL_L_59 : Cond.methodLink RL 59 yX3_heat ∈ WS := List.mem_filter.mpr ⟨List.mem_of_getElem? (i := 432) rfl, rfl⟩
set_option maxRecDepth 20000 in
theorem mL_X3_102 : Cond.methodLink RX3 102 yX2_heatIn ∈ WS := List.mem_filter.mpr ⟨List.mem_of_getElem? (i := 436) rfl, rfl⟩
set_option maxRecDepth 20000 in
theorem mL_L_78 : Cond.methodLink RL 78 yL_isShape ∈ WS := List.mem_filter.mpr ⟨List.mem_of_getElem? (i := 437) rfl, rfl⟩
set_option maxRecDepth 20000 in
theorem mL_L_55 : Cond.methodLink RL 55 yL_isInside ∈ WS := List.mem_filter.mpr ⟨List.mem_of_getElem? (i := 440) rfl, rfl⟩
set_option maxRecDepth 20000 in
theorem mL_L_62 : Cond.methodLink RL 62 yL_goes ∈ WS := List.mem_filter.mpr ⟨List.mem_of_getElem? (i := 443) rfl, rfl⟩
set_option maxRecDepth 20000 in
theorem mL_L_52 : Cond.methodLink RL 52 yL_off ∈ WS := List.mem_filter.mpr ⟨List.mem_of_getElem? (i := 446) rfl, rfl⟩
set_option maxRecDepth 20000 in
theorem mL_L_66 : Cond.methodLink RL 66 yL_edgeIn ∈ WS := List.mem_filter.mpr ⟨List.mem_of_getElem? (i := 449) rfl, rfl⟩
set_option maxRecDepth 20000 in
theorem mL_L_48 : Cond.methodLink RL 48 yL_isEdge ∈ WS := List.mem_filter.mpr ⟨List.mem_of_getElem? (i := 452) rfl, rfl⟩
set_option maxRecDepth 20000 in
theorem mL_L_69 : Cond.methodLink RL 69 yX3_reason ∈ WS := List.mem_filter.mpr ⟨List.mem_of_getElem? (i := 455) rfl, rfl⟩
set_option maxRecDepth 20000 in
theorem mL_X3_105 : Cond.methodLink RX3 105 yX2_knows ∈ WS := List.mem_filter.mpr ⟨List.mem_of_getElem? (i := 459) rfl, rfl⟩
set_option maxRecDepth 20000 in
theorem mL_X3_109 : Cond.methodLink RX3 109 yX2_reasonAgainst ∈ WS := List.mem_filter.mpr ⟨List.mem_of_getElem? (i := 460) rfl, rfl⟩
set_option maxRecDepth 20000 in
theorem mL_L_72 : Cond.methodLink RL 72 yX3_takes ∈ WS := List.mem_filter.mpr ⟨List.mem_of_getElem? (i := 461) rfl, rfl⟩
set_option maxRecDepth 20000 in
theorem mL_X3_112 : Cond.methodLink RX3 112 yX2_ticksToCut ∈ WS := List.mem_filter.mpr ⟨List.mem_of_getElem? (i := 465) rfl, rfl⟩
set_option maxRecDepth 20000 in
theorem mL_L_75 : Cond.methodLink RL 75 yX3_coolsIn ∈ WS := List.mem_filter.mpr ⟨List.mem_of_getElem? (i := 466) rfl, rfl⟩
set_option maxRecDepth 20000 in
theorem mL_X3_115 : Cond.methodLink RX3 115 yX2_ticksToCool ∈ WS := List.mem_filter.mpr ⟨List.mem_of_getElem? (i := 470) rfl, rfl⟩
set_option maxRecDepth 20000 in
theorem mL_L_82 : Cond.methodLink RL 82 yX3_best ∈ WS := List.mem_filter.mpr ⟨List.mem_of_getElem? (i := 471) rfl, rfl⟩
set_option maxRecDepth 20000 in
theorem mL_X3_118 : Cond.methodLink RX3 118 yX2_bestShape ∈ WS := List.mem_filter.mpr ⟨List.mem_of_getElem? (i := 475) rfl, rfl⟩
set_option maxRecDepth 20000 in
theorem mL_L_110 : Cond.methodLink RL 110 yL_tries ∈ WS := List.mem_filter.mpr ⟨List.mem_of_getElem? (i := 476) rfl, rfl⟩
set_option maxRecDepth 20000 in
theorem mL_L_113 : Cond.methodLink RL 113 yL_goesThrough ∈ WS := List.mem_filter.mpr ⟨List.mem_of_getElem? (i := 479) rfl, rfl⟩
set_option maxRecDepth 20000 in
theorem mL_L_91 : Cond.methodLink RL 91 yX3_ordered ∈ WS := List.mem_filter.mpr ⟨List.mem_of_getElem? (i := 482) rfl, rfl⟩
set_option maxRecDepth 20000 in
theorem mK_X3_init : Cond.code yX3_init cX3_init 2 none ∈ WS := List.mem_filter.mpr ⟨List.mem_of_getElem? (i := 28) rfl, rfl⟩
set_option maxRecDepth 20000 in
theorem mM_X3_init : Cond.instanceMethod yX3_init ∈ WS := List.mem_filter.mpr ⟨List.mem_of_getElem? (i := 27) rfl, rfl⟩
set_option maxRecDepth 20000 in
theorem mK_objInit : Cond.code objectInit ⟨#[0xb1]⟩ 1 none ∈ WS := List.mem_filter.mpr ⟨List.mem_of_getElem? (i := 31) rfl, rfl⟩
set_option maxRecDepth 20000 in
theorem mM_objInit : Cond.instanceMethod objectInit ∈ WS := List.mem_filter.mpr ⟨List.mem_of_getElem? (i := 30) rfl, rfl⟩
set_option maxRecDepth 20000 in
theorem mK_X2_init : Cond.code yX2_init cX2_init 2 none ∈ WS := List.mem_filter.mpr ⟨List.mem_of_getElem? (i := 36) rfl, rfl⟩
set_option maxRecDepth 20000 in
theorem mM_X2_init : Cond.instanceMethod yX2_init ∈ WS := List.mem_filter.mpr ⟨List.mem_of_getElem? (i := 35) rfl, rfl⟩
set_option maxRecDepth 20000 in
theorem mK_X1_init : Cond.code yX1_init cX1_init 1 none ∈ WS := List.mem_filter.mpr ⟨List.mem_of_getElem? (i := 43) rfl, rfl⟩
set_option maxRecDepth 20000 in
theorem mM_X1_init : Cond.instanceMethod yX1_init ∈ WS := List.mem_filter.mpr ⟨List.mem_of_getElem? (i := 42) rfl, rfl⟩
set_option maxRecDepth 20000 in
theorem mK_X0_init : Cond.code yX0_init cX0_init 1 none ∈ WS := List.mem_filter.mpr ⟨List.mem_of_getElem? (i := 121) rfl, rfl⟩
set_option maxRecDepth 20000 in
theorem mM_X0_init : Cond.instanceMethod yX0_init ∈ WS := List.mem_filter.mpr ⟨List.mem_of_getElem? (i := 120) rfl, rfl⟩
set_option maxRecDepth 20000 in
theorem mK_X3_undo : Cond.code yX3_undo cX3_undo 1 (some .int) ∈ WS := List.mem_filter.mpr ⟨List.mem_of_getElem? (i := 181) rfl, rfl⟩
set_option maxRecDepth 20000 in
theorem mM_X3_undo : Cond.instanceMethod yX3_undo ∈ WS := List.mem_filter.mpr ⟨List.mem_of_getElem? (i := 179) rfl, rfl⟩
set_option maxRecDepth 20000 in
theorem mS_X3_undo : Cond.selects RX3 yX3_undo yX3_undo ∈ WS := List.mem_filter.mpr ⟨List.mem_of_getElem? (i := 180) rfl, rfl⟩
set_option maxRecDepth 20000 in
theorem mK_X2_copyFrom : Cond.code yX2_copyFrom cX2_copyFrom 3 none ∈ WS := List.mem_filter.mpr ⟨List.mem_of_getElem? (i := 185) rfl, rfl⟩
set_option maxRecDepth 20000 in
theorem mM_X2_copyFrom : Cond.instanceMethod yX2_copyFrom ∈ WS := List.mem_filter.mpr ⟨List.mem_of_getElem? (i := 183) rfl, rfl⟩
set_option maxRecDepth 20000 in
theorem mS_X2_copyFrom : Cond.selects RX2 yX2_copyFrom yX2_copyFrom ∈ WS := List.mem_filter.mpr ⟨List.mem_of_getElem? (i := 184) rfl, rfl⟩
set_option maxRecDepth 20000 in
theorem mK_X1_copyFrom : Cond.code yX1_copyFrom cX1_copyFrom 3 none ∈ WS := List.mem_filter.mpr ⟨List.mem_of_getElem? (i := 189) rfl, rfl⟩
set_option maxRecDepth 20000 in
theorem mM_X1_copyFrom : Cond.instanceMethod yX1_copyFrom ∈ WS := List.mem_filter.mpr ⟨List.mem_of_getElem? (i := 187) rfl, rfl⟩
set_option maxRecDepth 20000 in
theorem mS_X1_copyFrom : Cond.selects RX1 yX1_copyFrom yX1_copyFrom ∈ WS := List.mem_filter.mpr ⟨List.mem_of_getElem? (i := 188) rfl, rfl⟩
set_option maxRecDepth 20000 in
theorem mK_X3_restore : Cond.code yX3_restore cX3_restore 1 (some .int) ∈ WS := List.mem_filter.mpr ⟨List.mem_of_getElem? (i := 193) rfl, rfl⟩
set_option maxRecDepth 20000 in
theorem mM_X3_restore : Cond.instanceMethod yX3_restore ∈ WS := List.mem_filter.mpr ⟨List.mem_of_getElem? (i := 191) rfl, rfl⟩
set_option maxRecDepth 20000 in
theorem mS_X3_restore : Cond.selects RX3 yX3_restore yX3_restore ∈ WS := List.mem_filter.mpr ⟨List.mem_of_getElem? (i := 192) rfl, rfl⟩
set_option maxRecDepth 20000 in
theorem mK_X3_recorded : Cond.code yX3_recorded cX3_recorded 2 (some .int) ∈ WS := List.mem_filter.mpr ⟨List.mem_of_getElem? (i := 197) rfl, rfl⟩
set_option maxRecDepth 20000 in
theorem mM_X3_recorded : Cond.instanceMethod yX3_recorded ∈ WS := List.mem_filter.mpr ⟨List.mem_of_getElem? (i := 196) rfl, rfl⟩
set_option maxRecDepth 20000 in
theorem mS_X3_recorded : Cond.selects RX3 yX3_recorded yX3_recorded ∈ WS := List.mem_filter.mpr ⟨List.mem_of_getElem? (i := 0) rfl, rfl⟩
set_option maxRecDepth 20000 in
theorem mK_X3_dropOldestState : Cond.code yX3_dropOldestState cX3_dropOldestState 3 none ∈ WS := List.mem_filter.mpr ⟨List.mem_of_getElem? (i := 201) rfl, rfl⟩
set_option maxRecDepth 20000 in
theorem mM_X3_dropOldestState : Cond.instanceMethod yX3_dropOldestState ∈ WS := List.mem_filter.mpr ⟨List.mem_of_getElem? (i := 200) rfl, rfl⟩
set_option maxRecDepth 20000 in
theorem mS_X3_dropOldestState : Cond.selects RX3 yX3_dropOldestState yX3_dropOldestState ∈ WS := List.mem_filter.mpr ⟨List.mem_of_getElem? (i := 1) rfl, rfl⟩
set_option maxRecDepth 20000 in
theorem mK_X3_allTakes : Cond.code yX3_allTakes cX3_allTakes 2 (some .int) ∈ WS := List.mem_filter.mpr ⟨List.mem_of_getElem? (i := 205) rfl, rfl⟩
set_option maxRecDepth 20000 in
theorem mM_X3_allTakes : Cond.instanceMethod yX3_allTakes ∈ WS := List.mem_filter.mpr ⟨List.mem_of_getElem? (i := 203) rfl, rfl⟩
set_option maxRecDepth 20000 in
theorem mS_X3_allTakes : Cond.selects RX3 yX3_allTakes yX3_allTakes ∈ WS := List.mem_filter.mpr ⟨List.mem_of_getElem? (i := 204) rfl, rfl⟩
set_option maxRecDepth 20000 in
theorem mK_X2_cutNext : Cond.code yX2_cutNext cX2_cutNext 3 (some .int) ∈ WS := List.mem_filter.mpr ⟨List.mem_of_getElem? (i := 209) rfl, rfl⟩
set_option maxRecDepth 20000 in
theorem mM_X2_cutNext : Cond.instanceMethod yX2_cutNext ∈ WS := List.mem_filter.mpr ⟨List.mem_of_getElem? (i := 207) rfl, rfl⟩
set_option maxRecDepth 20000 in
theorem mS_X2_cutNext : Cond.selects RX2 yX2_cutNext yX2_cutNext ∈ WS := List.mem_filter.mpr ⟨List.mem_of_getElem? (i := 208) rfl, rfl⟩
set_option maxRecDepth 20000 in
theorem mK_X2_bestShape : Cond.code yX2_bestShape cX2_bestShape 5 (some .int) ∈ WS := List.mem_filter.mpr ⟨List.mem_of_getElem? (i := 213) rfl, rfl⟩
set_option maxRecDepth 20000 in
theorem mM_X2_bestShape : Cond.instanceMethod yX2_bestShape ∈ WS := List.mem_filter.mpr ⟨List.mem_of_getElem? (i := 211) rfl, rfl⟩
set_option maxRecDepth 20000 in
theorem mS_X2_bestShape : Cond.selects RX2 yX2_bestShape yX2_bestShape ∈ WS := List.mem_filter.mpr ⟨List.mem_of_getElem? (i := 212) rfl, rfl⟩
set_option maxRecDepth 20000 in
theorem mK_X2_reasonAgainst : Cond.code yX2_reasonAgainst cX2_reasonAgainst 3 (some .int) ∈ WS := List.mem_filter.mpr ⟨List.mem_of_getElem? (i := 217) rfl, rfl⟩
set_option maxRecDepth 20000 in
theorem mM_X2_reasonAgainst : Cond.instanceMethod yX2_reasonAgainst ∈ WS := List.mem_filter.mpr ⟨List.mem_of_getElem? (i := 215) rfl, rfl⟩
set_option maxRecDepth 20000 in
theorem mS_X2_reasonAgainst : Cond.selects RX2 yX2_reasonAgainst yX2_reasonAgainst ∈ WS := List.mem_filter.mpr ⟨List.mem_of_getElem? (i := 216) rfl, rfl⟩
set_option maxRecDepth 20000 in
theorem mK_X2_holdsWholeShape : Cond.code yX2_holdsWholeShape cX2_holdsWholeShape 3 (some .boolean) ∈ WS := List.mem_filter.mpr ⟨List.mem_of_getElem? (i := 221) rfl, rfl⟩
set_option maxRecDepth 20000 in
theorem mM_X2_holdsWholeShape : Cond.instanceMethod yX2_holdsWholeShape ∈ WS := List.mem_filter.mpr ⟨List.mem_of_getElem? (i := 220) rfl, rfl⟩
set_option maxRecDepth 20000 in
theorem mS_X2_holdsWholeShape : Cond.selects RX2 yX2_holdsWholeShape yX2_holdsWholeShape ∈ WS := List.mem_filter.mpr ⟨List.mem_of_getElem? (i := 2) rfl, rfl⟩
set_option maxRecDepth 20000 in
theorem mK_X1_isInside : Cond.code yX1_isInside cX1_isInside 2 (some .boolean) ∈ WS := List.mem_filter.mpr ⟨List.mem_of_getElem? (i := 225) rfl, rfl⟩
set_option maxRecDepth 20000 in
theorem mM_X1_isInside : Cond.instanceMethod yX1_isInside ∈ WS := List.mem_filter.mpr ⟨List.mem_of_getElem? (i := 223) rfl, rfl⟩
set_option maxRecDepth 20000 in
theorem mS_X1_isInside : Cond.selects RX1 yX1_isInside yX1_isInside ∈ WS := List.mem_filter.mpr ⟨List.mem_of_getElem? (i := 224) rfl, rfl⟩
set_option maxRecDepth 20000 in
theorem mK_X2_heatOver : Cond.code yX2_heatOver cX2_heatOver 4 (some .int) ∈ WS := List.mem_filter.mpr ⟨List.mem_of_getElem? (i := 229) rfl, rfl⟩
set_option maxRecDepth 20000 in
theorem mM_X2_heatOver : Cond.instanceMethod yX2_heatOver ∈ WS := List.mem_filter.mpr ⟨List.mem_of_getElem? (i := 228) rfl, rfl⟩
set_option maxRecDepth 20000 in
theorem mS_X2_heatOver : Cond.selects RX2 yX2_heatOver yX2_heatOver ∈ WS := List.mem_filter.mpr ⟨List.mem_of_getElem? (i := 3) rfl, rfl⟩
set_option maxRecDepth 20000 in
theorem mK_max : Cond.code Lib.Math.max.name Lib.Math.max.code 2 (some .int) ∈ WS := List.mem_filter.mpr ⟨List.mem_of_getElem? (i := 232) rfl, rfl⟩
set_option maxRecDepth 20000 in
theorem mT_max : Cond.static Lib.Math.max.name ∈ WS := List.mem_filter.mpr ⟨List.mem_of_getElem? (i := 231) rfl, rfl⟩
set_option maxRecDepth 20000 in
theorem mK_X2_wayTo : Cond.code yX2_wayTo cX2_wayTo 2 (some .int) ∈ WS := List.mem_filter.mpr ⟨List.mem_of_getElem? (i := 236) rfl, rfl⟩
set_option maxRecDepth 20000 in
theorem mM_X2_wayTo : Cond.instanceMethod yX2_wayTo ∈ WS := List.mem_filter.mpr ⟨List.mem_of_getElem? (i := 235) rfl, rfl⟩
set_option maxRecDepth 20000 in
theorem mS_X2_wayTo : Cond.selects RX2 yX2_wayTo yX2_wayTo ∈ WS := List.mem_filter.mpr ⟨List.mem_of_getElem? (i := 4) rfl, rfl⟩
set_option maxRecDepth 20000 in
theorem mK_X1_leadColumn : Cond.code yX1_leadColumn cX1_leadColumn 1 (some .int) ∈ WS := List.mem_filter.mpr ⟨List.mem_of_getElem? (i := 240) rfl, rfl⟩
set_option maxRecDepth 20000 in
theorem mM_X1_leadColumn : Cond.instanceMethod yX1_leadColumn ∈ WS := List.mem_filter.mpr ⟨List.mem_of_getElem? (i := 238) rfl, rfl⟩
set_option maxRecDepth 20000 in
theorem mS_X1_leadColumn : Cond.selects RX1 yX1_leadColumn yX1_leadColumn ∈ WS := List.mem_filter.mpr ⟨List.mem_of_getElem? (i := 239) rfl, rfl⟩
set_option maxRecDepth 20000 in
theorem mK_abs : Cond.code Lib.Math.abs.name Lib.Math.abs.code 1 (some .int) ∈ WS := List.mem_filter.mpr ⟨List.mem_of_getElem? (i := 243) rfl, rfl⟩
set_option maxRecDepth 20000 in
theorem mT_abs : Cond.static Lib.Math.abs.name ∈ WS := List.mem_filter.mpr ⟨List.mem_of_getElem? (i := 242) rfl, rfl⟩
set_option maxRecDepth 20000 in
theorem mK_X1_leadRow : Cond.code yX1_leadRow cX1_leadRow 1 (some .int) ∈ WS := List.mem_filter.mpr ⟨List.mem_of_getElem? (i := 247) rfl, rfl⟩
set_option maxRecDepth 20000 in
theorem mM_X1_leadRow : Cond.instanceMethod yX1_leadRow ∈ WS := List.mem_filter.mpr ⟨List.mem_of_getElem? (i := 245) rfl, rfl⟩
set_option maxRecDepth 20000 in
theorem mS_X1_leadRow : Cond.selects RX1 yX1_leadRow yX1_leadRow ∈ WS := List.mem_filter.mpr ⟨List.mem_of_getElem? (i := 246) rfl, rfl⟩
set_option maxRecDepth 20000 in
theorem mK_X2_ticksToCut : Cond.code yX2_ticksToCut cX2_ticksToCut 3 (some .int) ∈ WS := List.mem_filter.mpr ⟨List.mem_of_getElem? (i := 251) rfl, rfl⟩
set_option maxRecDepth 20000 in
theorem mM_X2_ticksToCut : Cond.instanceMethod yX2_ticksToCut ∈ WS := List.mem_filter.mpr ⟨List.mem_of_getElem? (i := 249) rfl, rfl⟩
set_option maxRecDepth 20000 in
theorem mS_X2_ticksToCut : Cond.selects RX2 yX2_ticksToCut yX2_ticksToCut ∈ WS := List.mem_filter.mpr ⟨List.mem_of_getElem? (i := 250) rfl, rfl⟩
set_option maxRecDepth 20000 in
theorem mK_X2_knows : Cond.code yX2_knows cX2_knows 2 (some .boolean) ∈ WS := List.mem_filter.mpr ⟨List.mem_of_getElem? (i := 255) rfl, rfl⟩
set_option maxRecDepth 20000 in
theorem mM_X2_knows : Cond.instanceMethod yX2_knows ∈ WS := List.mem_filter.mpr ⟨List.mem_of_getElem? (i := 253) rfl, rfl⟩
set_option maxRecDepth 20000 in
theorem mS_X2_knows : Cond.selects RX2 yX2_knows yX2_knows ∈ WS := List.mem_filter.mpr ⟨List.mem_of_getElem? (i := 254) rfl, rfl⟩
set_option maxRecDepth 20000 in
theorem mK_X2_burningOf : Cond.code yX2_burningOf cX2_burningOf 2 (some .int) ∈ WS := List.mem_filter.mpr ⟨List.mem_of_getElem? (i := 259) rfl, rfl⟩
set_option maxRecDepth 20000 in
theorem mM_X2_burningOf : Cond.instanceMethod yX2_burningOf ∈ WS := List.mem_filter.mpr ⟨List.mem_of_getElem? (i := 258) rfl, rfl⟩
set_option maxRecDepth 20000 in
theorem mS_X2_burningOf : Cond.selects RX2 yX2_burningOf yX2_burningOf ∈ WS := List.mem_filter.mpr ⟨List.mem_of_getElem? (i := 5) rfl, rfl⟩
set_option maxRecDepth 20000 in
theorem mK_X1_edge : Cond.code yX1_edge cX1_edge 1 (some .int) ∈ WS := List.mem_filter.mpr ⟨List.mem_of_getElem? (i := 263) rfl, rfl⟩
set_option maxRecDepth 20000 in
theorem mM_X1_edge : Cond.instanceMethod yX1_edge ∈ WS := List.mem_filter.mpr ⟨List.mem_of_getElem? (i := 261) rfl, rfl⟩
set_option maxRecDepth 20000 in
theorem mS_X1_edge : Cond.selects RX1 yX1_edge yX1_edge ∈ WS := List.mem_filter.mpr ⟨List.mem_of_getElem? (i := 262) rfl, rfl⟩
set_option maxRecDepth 20000 in
theorem mK_X2_fewestTicksToCool : Cond.code yX2_fewestTicksToCool cX2_fewestTicksToCool 4 (some .int) ∈ WS := List.mem_filter.mpr ⟨List.mem_of_getElem? (i := 267) rfl, rfl⟩
set_option maxRecDepth 20000 in
theorem mM_X2_fewestTicksToCool : Cond.instanceMethod yX2_fewestTicksToCool ∈ WS := List.mem_filter.mpr ⟨List.mem_of_getElem? (i := 266) rfl, rfl⟩
set_option maxRecDepth 20000 in
theorem mS_X2_fewestTicksToCool : Cond.selects RX2 yX2_fewestTicksToCool yX2_fewestTicksToCool ∈ WS := List.mem_filter.mpr ⟨List.mem_of_getElem? (i := 6) rfl, rfl⟩
set_option maxRecDepth 20000 in
theorem mK_X2_ticksToCool : Cond.code yX2_ticksToCool cX2_ticksToCool 5 (some .int) ∈ WS := List.mem_filter.mpr ⟨List.mem_of_getElem? (i := 271) rfl, rfl⟩
set_option maxRecDepth 20000 in
theorem mM_X2_ticksToCool : Cond.instanceMethod yX2_ticksToCool ∈ WS := List.mem_filter.mpr ⟨List.mem_of_getElem? (i := 269) rfl, rfl⟩
set_option maxRecDepth 20000 in
theorem mS_X2_ticksToCool : Cond.selects RX2 yX2_ticksToCool yX2_ticksToCool ∈ WS := List.mem_filter.mpr ⟨List.mem_of_getElem? (i := 270) rfl, rfl⟩
set_option maxRecDepth 20000 in
theorem mK_X2_coolFor : Cond.code yX2_coolFor cX2_coolFor 3 none ∈ WS := List.mem_filter.mpr ⟨List.mem_of_getElem? (i := 275) rfl, rfl⟩
set_option maxRecDepth 20000 in
theorem mM_X2_coolFor : Cond.instanceMethod yX2_coolFor ∈ WS := List.mem_filter.mpr ⟨List.mem_of_getElem? (i := 274) rfl, rfl⟩
set_option maxRecDepth 20000 in
theorem mS_X2_coolFor : Cond.selects RX2 yX2_coolFor yX2_coolFor ∈ WS := List.mem_filter.mpr ⟨List.mem_of_getElem? (i := 7) rfl, rfl⟩
set_option maxRecDepth 20000 in
theorem mK_X2_cutShape : Cond.code yX2_cutShape cX2_cutShape 4 (some .int) ∈ WS := List.mem_filter.mpr ⟨List.mem_of_getElem? (i := 279) rfl, rfl⟩
set_option maxRecDepth 20000 in
theorem mM_X2_cutShape : Cond.instanceMethod yX2_cutShape ∈ WS := List.mem_filter.mpr ⟨List.mem_of_getElem? (i := 277) rfl, rfl⟩
set_option maxRecDepth 20000 in
theorem mS_X2_cutShape : Cond.selects RX2 yX2_cutShape yX2_cutShape ∈ WS := List.mem_filter.mpr ⟨List.mem_of_getElem? (i := 278) rfl, rfl⟩
set_option maxRecDepth 20000 in
theorem mK_X2_burnEdge : Cond.code yX2_burnEdge cX2_burnEdge 4 none ∈ WS := List.mem_filter.mpr ⟨List.mem_of_getElem? (i := 283) rfl, rfl⟩
set_option maxRecDepth 20000 in
theorem mM_X2_burnEdge : Cond.instanceMethod yX2_burnEdge ∈ WS := List.mem_filter.mpr ⟨List.mem_of_getElem? (i := 282) rfl, rfl⟩
set_option maxRecDepth 20000 in
theorem mS_X2_burnEdge : Cond.selects RX2 yX2_burnEdge yX2_burnEdge ∈ WS := List.mem_filter.mpr ⟨List.mem_of_getElem? (i := 8) rfl, rfl⟩
set_option maxRecDepth 20000 in
theorem mK_X1_leadSquare : Cond.code yX1_leadSquare cX1_leadSquare 1 (some .int) ∈ WS := List.mem_filter.mpr ⟨List.mem_of_getElem? (i := 287) rfl, rfl⟩
set_option maxRecDepth 20000 in
theorem mM_X1_leadSquare : Cond.instanceMethod yX1_leadSquare ∈ WS := List.mem_filter.mpr ⟨List.mem_of_getElem? (i := 285) rfl, rfl⟩
set_option maxRecDepth 20000 in
theorem mS_X1_leadSquare : Cond.selects RX1 yX1_leadSquare yX1_leadSquare ∈ WS := List.mem_filter.mpr ⟨List.mem_of_getElem? (i := 286) rfl, rfl⟩
set_option maxRecDepth 20000 in
theorem mK_X2_heatIn : Cond.code yX2_heatIn cX2_heatIn 2 (some .int) ∈ WS := List.mem_filter.mpr ⟨List.mem_of_getElem? (i := 293) rfl, rfl⟩
set_option maxRecDepth 20000 in
theorem mM_X2_heatIn : Cond.instanceMethod yX2_heatIn ∈ WS := List.mem_filter.mpr ⟨List.mem_of_getElem? (i := 291) rfl, rfl⟩
set_option maxRecDepth 20000 in
theorem mS_X2_heatIn : Cond.selects RX2 yX2_heatIn yX2_heatIn ∈ WS := List.mem_filter.mpr ⟨List.mem_of_getElem? (i := 292) rfl, rfl⟩
set_option maxRecDepth 20000 in
theorem mK_X3_isIn : Cond.code yX3_isIn cX3_isIn 3 (some .boolean) ∈ WS := List.mem_filter.mpr ⟨List.mem_of_getElem? (i := 296) rfl, rfl⟩
set_option maxRecDepth 20000 in
theorem mT_X3_isIn : Cond.static yX3_isIn ∈ WS := List.mem_filter.mpr ⟨List.mem_of_getElem? (i := 295) rfl, rfl⟩
set_option maxRecDepth 20000 in
theorem mK_X2_greatestHeat : Cond.code yX2_greatestHeat cX2_greatestHeat 1 (some .int) ∈ WS := List.mem_filter.mpr ⟨List.mem_of_getElem? (i := 300) rfl, rfl⟩
set_option maxRecDepth 20000 in
theorem mM_X2_greatestHeat : Cond.instanceMethod yX2_greatestHeat ∈ WS := List.mem_filter.mpr ⟨List.mem_of_getElem? (i := 299) rfl, rfl⟩
set_option maxRecDepth 20000 in
theorem mS_X2_greatestHeat : Cond.selects RX2 yX2_greatestHeat yX2_greatestHeat ∈ WS := List.mem_filter.mpr ⟨List.mem_of_getElem? (i := 9) rfl, rfl⟩
set_option maxRecDepth 20000 in
theorem mK_X2_hottestSquare : Cond.code yX2_hottestSquare cX2_hottestSquare 3 (some .int) ∈ WS := List.mem_filter.mpr ⟨List.mem_of_getElem? (i := 304) rfl, rfl⟩
set_option maxRecDepth 20000 in
theorem mM_X2_hottestSquare : Cond.instanceMethod yX2_hottestSquare ∈ WS := List.mem_filter.mpr ⟨List.mem_of_getElem? (i := 303) rfl, rfl⟩
set_option maxRecDepth 20000 in
theorem mS_X2_hottestSquare : Cond.selects RX2 yX2_hottestSquare yX2_hottestSquare ∈ WS := List.mem_filter.mpr ⟨List.mem_of_getElem? (i := 10) rfl, rfl⟩
set_option maxRecDepth 20000 in
theorem mK_X2_loseShapesInside : Cond.code yX2_loseShapesInside cX2_loseShapesInside 5 (some .int) ∈ WS := List.mem_filter.mpr ⟨List.mem_of_getElem? (i := 308) rfl, rfl⟩
set_option maxRecDepth 20000 in
theorem mM_X2_loseShapesInside : Cond.instanceMethod yX2_loseShapesInside ∈ WS := List.mem_filter.mpr ⟨List.mem_of_getElem? (i := 307) rfl, rfl⟩
set_option maxRecDepth 20000 in
theorem mS_X2_loseShapesInside : Cond.selects RX2 yX2_loseShapesInside yX2_loseShapesInside ∈ WS := List.mem_filter.mpr ⟨List.mem_of_getElem? (i := 11) rfl, rfl⟩
set_option maxRecDepth 20000 in
theorem mK_X2_shapesThatAre : Cond.code yX2_shapesThatAre cX2_shapesThatAre 4 (some .int) ∈ WS := List.mem_filter.mpr ⟨List.mem_of_getElem? (i := 312) rfl, rfl⟩
set_option maxRecDepth 20000 in
theorem mM_X2_shapesThatAre : Cond.instanceMethod yX2_shapesThatAre ∈ WS := List.mem_filter.mpr ⟨List.mem_of_getElem? (i := 310) rfl, rfl⟩
set_option maxRecDepth 20000 in
theorem mS_X2_shapesThatAre : Cond.selects RX2 yX2_shapesThatAre yX2_shapesThatAre ∈ WS := List.mem_filter.mpr ⟨List.mem_of_getElem? (i := 311) rfl, rfl⟩
set_option maxRecDepth 20000 in
theorem mK_X3_count : Cond.code yX3_count cX3_count 2 (some .int) ∈ WS := List.mem_filter.mpr ⟨List.mem_of_getElem? (i := 316) rfl, rfl⟩
set_option maxRecDepth 20000 in
theorem mM_X3_count : Cond.instanceMethod yX3_count ∈ WS := List.mem_filter.mpr ⟨List.mem_of_getElem? (i := 314) rfl, rfl⟩
set_option maxRecDepth 20000 in
theorem mS_X3_count : Cond.selects RX3 yX3_count yX3_count ∈ WS := List.mem_filter.mpr ⟨List.mem_of_getElem? (i := 315) rfl, rfl⟩
set_option maxRecDepth 20000 in
theorem mK_X2_factOfSheet : Cond.code yX2_factOfSheet cX2_factOfSheet 2 (some .int) ∈ WS := List.mem_filter.mpr ⟨List.mem_of_getElem? (i := 320) rfl, rfl⟩
set_option maxRecDepth 20000 in
theorem mM_X2_factOfSheet : Cond.instanceMethod yX2_factOfSheet ∈ WS := List.mem_filter.mpr ⟨List.mem_of_getElem? (i := 318) rfl, rfl⟩
set_option maxRecDepth 20000 in
theorem mS_X2_factOfSheet : Cond.selects RX2 yX2_factOfSheet yX2_factOfSheet ∈ WS := List.mem_filter.mpr ⟨List.mem_of_getElem? (i := 319) rfl, rfl⟩
set_option maxRecDepth 20000 in
theorem mK_X2_shapesThatTilted : Cond.code yX2_shapesThatTilted cX2_shapesThatTilted 3 (some .int) ∈ WS := List.mem_filter.mpr ⟨List.mem_of_getElem? (i := 325) rfl, rfl⟩
set_option maxRecDepth 20000 in
theorem mM_X2_shapesThatTilted : Cond.instanceMethod yX2_shapesThatTilted ∈ WS := List.mem_filter.mpr ⟨List.mem_of_getElem? (i := 324) rfl, rfl⟩
set_option maxRecDepth 20000 in
theorem mS_X2_shapesThatTilted : Cond.selects RX2 yX2_shapesThatTilted yX2_shapesThatTilted ∈ WS := List.mem_filter.mpr ⟨List.mem_of_getElem? (i := 12) rfl, rfl⟩
set_option maxRecDepth 20000 in
theorem mK_X2_allHeat : Cond.code yX2_allHeat cX2_allHeat 3 (some .int) ∈ WS := List.mem_filter.mpr ⟨List.mem_of_getElem? (i := 329) rfl, rfl⟩
set_option maxRecDepth 20000 in
theorem mM_X2_allHeat : Cond.instanceMethod yX2_allHeat ∈ WS := List.mem_filter.mpr ⟨List.mem_of_getElem? (i := 328) rfl, rfl⟩
set_option maxRecDepth 20000 in
theorem mS_X2_allHeat : Cond.selects RX2 yX2_allHeat yX2_allHeat ∈ WS := List.mem_filter.mpr ⟨List.mem_of_getElem? (i := 13) rfl, rfl⟩
set_option maxRecDepth 20000 in
theorem mK_L_cell : Cond.code yL_cell cL_cell 2 (some .int) ∈ WS := List.mem_filter.mpr ⟨List.mem_of_getElem? (i := 332) rfl, rfl⟩
set_option maxRecDepth 20000 in
theorem mT_L_cell : Cond.static yL_cell ∈ WS := List.mem_filter.mpr ⟨List.mem_of_getElem? (i := 331) rfl, rfl⟩
set_option maxRecDepth 20000 in
theorem mK_L_low : Cond.code yL_low cL_low 2 (some .int) ∈ WS := List.mem_filter.mpr ⟨List.mem_of_getElem? (i := 336) rfl, rfl⟩
set_option maxRecDepth 20000 in
theorem mT_L_low : Cond.static yL_low ∈ WS := List.mem_filter.mpr ⟨List.mem_of_getElem? (i := 335) rfl, rfl⟩
set_option maxRecDepth 20000 in
theorem mK_L_act : Cond.code yL_act cL_act 6 (some .int) ∈ WS := List.mem_filter.mpr ⟨List.mem_of_getElem? (i := 340) rfl, rfl⟩
set_option maxRecDepth 20000 in
theorem mT_L_act : Cond.static yL_act ∈ WS := List.mem_filter.mpr ⟨List.mem_of_getElem? (i := 339) rfl, rfl⟩
set_option maxRecDepth 20000 in
theorem mK_X3_tell : Cond.code yX3_tell cX3_tell 5 (some .int) ∈ WS := List.mem_filter.mpr ⟨List.mem_of_getElem? (i := 344) rfl, rfl⟩
set_option maxRecDepth 20000 in
theorem mM_X3_tell : Cond.instanceMethod yX3_tell ∈ WS := List.mem_filter.mpr ⟨List.mem_of_getElem? (i := 342) rfl, rfl⟩
set_option maxRecDepth 20000 in
theorem mS_X3_tell : Cond.selects RX3 yX3_tell yX3_tell ∈ WS := List.mem_filter.mpr ⟨List.mem_of_getElem? (i := 343) rfl, rfl⟩
set_option maxRecDepth 20000 in
theorem mK_X2_addShape : Cond.code yX2_addShape cX2_addShape 6 (some .int) ∈ WS := List.mem_filter.mpr ⟨List.mem_of_getElem? (i := 348) rfl, rfl⟩
set_option maxRecDepth 20000 in
theorem mM_X2_addShape : Cond.instanceMethod yX2_addShape ∈ WS := List.mem_filter.mpr ⟨List.mem_of_getElem? (i := 346) rfl, rfl⟩
set_option maxRecDepth 20000 in
theorem mS_X2_addShape : Cond.selects RX2 yX2_addShape yX2_addShape ∈ WS := List.mem_filter.mpr ⟨List.mem_of_getElem? (i := 347) rfl, rfl⟩
set_option maxRecDepth 20000 in
theorem mK_X1_place : Cond.code yX1_place cX1_place 6 none ∈ WS := List.mem_filter.mpr ⟨List.mem_of_getElem? (i := 352) rfl, rfl⟩
set_option maxRecDepth 20000 in
theorem mM_X1_place : Cond.instanceMethod yX1_place ∈ WS := List.mem_filter.mpr ⟨List.mem_of_getElem? (i := 350) rfl, rfl⟩
set_option maxRecDepth 20000 in
theorem mS_X1_place : Cond.selects RX1 yX1_place yX1_place ∈ WS := List.mem_filter.mpr ⟨List.mem_of_getElem? (i := 351) rfl, rfl⟩
set_option maxRecDepth 20000 in
theorem mK_X1_fieldsIn : Cond.code yX1_fieldsIn cX1_fieldsIn 7 (some .int) ∈ WS := List.mem_filter.mpr ⟨List.mem_of_getElem? (i := 356) rfl, rfl⟩
set_option maxRecDepth 20000 in
theorem mM_X1_fieldsIn : Cond.instanceMethod yX1_fieldsIn ∈ WS := List.mem_filter.mpr ⟨List.mem_of_getElem? (i := 355) rfl, rfl⟩
set_option maxRecDepth 20000 in
theorem mS_X1_fieldsIn : Cond.selects RX1 yX1_fieldsIn yX1_fieldsIn ∈ WS := List.mem_filter.mpr ⟨List.mem_of_getElem? (i := 14) rfl, rfl⟩
set_option maxRecDepth 20000 in
theorem mK_min : Cond.code Lib.Math.min.name Lib.Math.min.code 2 (some .int) ∈ WS := List.mem_filter.mpr ⟨List.mem_of_getElem? (i := 359) rfl, rfl⟩
set_option maxRecDepth 20000 in
theorem mT_min : Cond.static Lib.Math.min.name ∈ WS := List.mem_filter.mpr ⟨List.mem_of_getElem? (i := 358) rfl, rfl⟩
set_option maxRecDepth 20000 in
theorem mK_X2_fits : Cond.code yX2_fits cX2_fits 5 (some .boolean) ∈ WS := List.mem_filter.mpr ⟨List.mem_of_getElem? (i := 364) rfl, rfl⟩
set_option maxRecDepth 20000 in
theorem mM_X2_fits : Cond.instanceMethod yX2_fits ∈ WS := List.mem_filter.mpr ⟨List.mem_of_getElem? (i := 363) rfl, rfl⟩
set_option maxRecDepth 20000 in
theorem mS_X2_fits : Cond.selects RX2 yX2_fits yX2_fits ∈ WS := List.mem_filter.mpr ⟨List.mem_of_getElem? (i := 15) rfl, rfl⟩
set_option maxRecDepth 20000 in
theorem mK_X1_isApartFrom : Cond.code yX1_isApartFrom cX1_isApartFrom 2 (some .boolean) ∈ WS := List.mem_filter.mpr ⟨List.mem_of_getElem? (i := 368) rfl, rfl⟩
set_option maxRecDepth 20000 in
theorem mM_X1_isApartFrom : Cond.instanceMethod yX1_isApartFrom ∈ WS := List.mem_filter.mpr ⟨List.mem_of_getElem? (i := 366) rfl, rfl⟩
set_option maxRecDepth 20000 in
theorem mS_X1_isApartFrom : Cond.selects RX1 yX1_isApartFrom yX1_isApartFrom ∈ WS := List.mem_filter.mpr ⟨List.mem_of_getElem? (i := 367) rfl, rfl⟩
set_option maxRecDepth 20000 in
theorem mK_L_within : Cond.code yL_within cL_within 5 (some .int) ∈ WS := List.mem_filter.mpr ⟨List.mem_of_getElem? (i := 371) rfl, rfl⟩
set_option maxRecDepth 20000 in
theorem mT_L_within : Cond.static yL_within ∈ WS := List.mem_filter.mpr ⟨List.mem_of_getElem? (i := 370) rfl, rfl⟩
set_option maxRecDepth 20000 in
theorem mK_X3_shape : Cond.code yX3_shape cX3_shape 3 (some .int) ∈ WS := List.mem_filter.mpr ⟨List.mem_of_getElem? (i := 375) rfl, rfl⟩
set_option maxRecDepth 20000 in
theorem mM_X3_shape : Cond.instanceMethod yX3_shape ∈ WS := List.mem_filter.mpr ⟨List.mem_of_getElem? (i := 373) rfl, rfl⟩
set_option maxRecDepth 20000 in
theorem mS_X3_shape : Cond.selects RX3 yX3_shape yX3_shape ∈ WS := List.mem_filter.mpr ⟨List.mem_of_getElem? (i := 374) rfl, rfl⟩
set_option maxRecDepth 20000 in
theorem mK_X2_factOfShape : Cond.code yX2_factOfShape cX2_factOfShape 4 (some .int) ∈ WS := List.mem_filter.mpr ⟨List.mem_of_getElem? (i := 379) rfl, rfl⟩
set_option maxRecDepth 20000 in
theorem mM_X2_factOfShape : Cond.instanceMethod yX2_factOfShape ∈ WS := List.mem_filter.mpr ⟨List.mem_of_getElem? (i := 377) rfl, rfl⟩
set_option maxRecDepth 20000 in
theorem mS_X2_factOfShape : Cond.selects RX2 yX2_factOfShape yX2_factOfShape ∈ WS := List.mem_filter.mpr ⟨List.mem_of_getElem? (i := 378) rfl, rfl⟩
set_option maxRecDepth 20000 in
theorem mK_X2_outerOf : Cond.code yX2_outerOf cX2_outerOf 4 (some .int) ∈ WS := List.mem_filter.mpr ⟨List.mem_of_getElem? (i := 383) rfl, rfl⟩
set_option maxRecDepth 20000 in
theorem mM_X2_outerOf : Cond.instanceMethod yX2_outerOf ∈ WS := List.mem_filter.mpr ⟨List.mem_of_getElem? (i := 382) rfl, rfl⟩
set_option maxRecDepth 20000 in
theorem mS_X2_outerOf : Cond.selects RX2 yX2_outerOf yX2_outerOf ∈ WS := List.mem_filter.mpr ⟨List.mem_of_getElem? (i := 16) rfl, rfl⟩
set_option maxRecDepth 20000 in
theorem mK_X2_setInside : Cond.code yX2_setInside cX2_setInside 4 (some .int) ∈ WS := List.mem_filter.mpr ⟨List.mem_of_getElem? (i := 387) rfl, rfl⟩
set_option maxRecDepth 20000 in
theorem mM_X2_setInside : Cond.instanceMethod yX2_setInside ∈ WS := List.mem_filter.mpr ⟨List.mem_of_getElem? (i := 386) rfl, rfl⟩
set_option maxRecDepth 20000 in
theorem mS_X2_setInside : Cond.selects RX2 yX2_setInside yX2_setInside ∈ WS := List.mem_filter.mpr ⟨List.mem_of_getElem? (i := 17) rfl, rfl⟩
set_option maxRecDepth 20000 in
theorem mK_X3_cut : Cond.code yX3_cut cX3_cut 2 (some .int) ∈ WS := List.mem_filter.mpr ⟨List.mem_of_getElem? (i := 391) rfl, rfl⟩
set_option maxRecDepth 20000 in
theorem mM_X3_cut : Cond.instanceMethod yX3_cut ∈ WS := List.mem_filter.mpr ⟨List.mem_of_getElem? (i := 389) rfl, rfl⟩
set_option maxRecDepth 20000 in
theorem mS_X3_cut : Cond.selects RX3 yX3_cut yX3_cut ∈ WS := List.mem_filter.mpr ⟨List.mem_of_getElem? (i := 390) rfl, rfl⟩
set_option maxRecDepth 20000 in
theorem mK_X3_setLead : Cond.code yX3_setLead cX3_setLead 3 (some .int) ∈ WS := List.mem_filter.mpr ⟨List.mem_of_getElem? (i := 396) rfl, rfl⟩
set_option maxRecDepth 20000 in
theorem mM_X3_setLead : Cond.instanceMethod yX3_setLead ∈ WS := List.mem_filter.mpr ⟨List.mem_of_getElem? (i := 394) rfl, rfl⟩
set_option maxRecDepth 20000 in
theorem mS_X3_setLead : Cond.selects RX3 yX3_setLead yX3_setLead ∈ WS := List.mem_filter.mpr ⟨List.mem_of_getElem? (i := 395) rfl, rfl⟩
set_option maxRecDepth 20000 in
theorem mK_X2_changeLead : Cond.code yX2_changeLead cX2_changeLead 5 (some .int) ∈ WS := List.mem_filter.mpr ⟨List.mem_of_getElem? (i := 400) rfl, rfl⟩
set_option maxRecDepth 20000 in
theorem mM_X2_changeLead : Cond.instanceMethod yX2_changeLead ∈ WS := List.mem_filter.mpr ⟨List.mem_of_getElem? (i := 398) rfl, rfl⟩
set_option maxRecDepth 20000 in
theorem mS_X2_changeLead : Cond.selects RX2 yX2_changeLead yX2_changeLead ∈ WS := List.mem_filter.mpr ⟨List.mem_of_getElem? (i := 399) rfl, rfl⟩
set_option maxRecDepth 20000 in
theorem mK_X3_pause : Cond.code yX3_pause cX3_pause 2 (some .int) ∈ WS := List.mem_filter.mpr ⟨List.mem_of_getElem? (i := 404) rfl, rfl⟩
set_option maxRecDepth 20000 in
theorem mM_X3_pause : Cond.instanceMethod yX3_pause ∈ WS := List.mem_filter.mpr ⟨List.mem_of_getElem? (i := 402) rfl, rfl⟩
set_option maxRecDepth 20000 in
theorem mS_X3_pause : Cond.selects RX3 yX3_pause yX3_pause ∈ WS := List.mem_filter.mpr ⟨List.mem_of_getElem? (i := 403) rfl, rfl⟩
set_option maxRecDepth 20000 in
theorem mK_X2_waitFor : Cond.code yX2_waitFor cX2_waitFor 2 (some .int) ∈ WS := List.mem_filter.mpr ⟨List.mem_of_getElem? (i := 408) rfl, rfl⟩
set_option maxRecDepth 20000 in
theorem mM_X2_waitFor : Cond.instanceMethod yX2_waitFor ∈ WS := List.mem_filter.mpr ⟨List.mem_of_getElem? (i := 406) rfl, rfl⟩
set_option maxRecDepth 20000 in
theorem mS_X2_waitFor : Cond.selects RX2 yX2_waitFor yX2_waitFor ∈ WS := List.mem_filter.mpr ⟨List.mem_of_getElem? (i := 407) rfl, rfl⟩
set_option maxRecDepth 20000 in
theorem mK_X3_clean : Cond.code yX3_clean cX3_clean 1 (some .int) ∈ WS := List.mem_filter.mpr ⟨List.mem_of_getElem? (i := 412) rfl, rfl⟩
set_option maxRecDepth 20000 in
theorem mM_X3_clean : Cond.instanceMethod yX3_clean ∈ WS := List.mem_filter.mpr ⟨List.mem_of_getElem? (i := 410) rfl, rfl⟩
set_option maxRecDepth 20000 in
theorem mS_X3_clean : Cond.selects RX3 yX3_clean yX3_clean ∈ WS := List.mem_filter.mpr ⟨List.mem_of_getElem? (i := 411) rfl, rfl⟩
set_option maxRecDepth 20000 in
theorem mK_X2_cleanLens : Cond.code yX2_cleanLens cX2_cleanLens 2 (some .int) ∈ WS := List.mem_filter.mpr ⟨List.mem_of_getElem? (i := 416) rfl, rfl⟩
set_option maxRecDepth 20000 in
theorem mM_X2_cleanLens : Cond.instanceMethod yX2_cleanLens ∈ WS := List.mem_filter.mpr ⟨List.mem_of_getElem? (i := 414) rfl, rfl⟩
set_option maxRecDepth 20000 in
theorem mS_X2_cleanLens : Cond.selects RX2 yX2_cleanLens yX2_cleanLens ∈ WS := List.mem_filter.mpr ⟨List.mem_of_getElem? (i := 415) rfl, rfl⟩
set_option maxRecDepth 20000 in
theorem mK_X3_set : Cond.code yX3_set cX3_set 3 (some .int) ∈ WS := List.mem_filter.mpr ⟨List.mem_of_getElem? (i := 420) rfl, rfl⟩
set_option maxRecDepth 20000 in
theorem mM_X3_set : Cond.instanceMethod yX3_set ∈ WS := List.mem_filter.mpr ⟨List.mem_of_getElem? (i := 418) rfl, rfl⟩
set_option maxRecDepth 20000 in
theorem mS_X3_set : Cond.selects RX3 yX3_set yX3_set ∈ WS := List.mem_filter.mpr ⟨List.mem_of_getElem? (i := 419) rfl, rfl⟩
set_option maxRecDepth 20000 in
theorem mK_X2_changeSetting : Cond.code yX2_changeSetting cX2_changeSetting 4 (some .int) ∈ WS := List.mem_filter.mpr ⟨List.mem_of_getElem? (i := 424) rfl, rfl⟩
set_option maxRecDepth 20000 in
theorem mM_X2_changeSetting : Cond.instanceMethod yX2_changeSetting ∈ WS := List.mem_filter.mpr ⟨List.mem_of_getElem? (i := 422) rfl, rfl⟩
set_option maxRecDepth 20000 in
theorem mS_X2_changeSetting : Cond.selects RX2 yX2_changeSetting yX2_changeSetting ∈ WS := List.mem_filter.mpr ⟨List.mem_of_getElem? (i := 423) rfl, rfl⟩
set_option maxRecDepth 20000 in
theorem mK_L_holds : Cond.code yL_holds cL_holds 10 (some .boolean) ∈ WS := List.mem_filter.mpr ⟨List.mem_of_getElem? (i := 431) rfl, rfl⟩
set_option maxRecDepth 20000 in
theorem mT_L_holds : Cond.static yL_holds ∈ WS := List.mem_filter.mpr ⟨List.mem_of_getElem? (i := 430) rfl, rfl⟩
set_option maxRecDepth 20000 in
theorem mK_X3_heat : Cond.code yX3_heat cX3_heat 2 (some .int) ∈ WS := List.mem_filter.mpr ⟨List.mem_of_getElem? (i := 435) rfl, rfl⟩
set_option maxRecDepth 20000 in
theorem mM_X3_heat : Cond.instanceMethod yX3_heat ∈ WS := List.mem_filter.mpr ⟨List.mem_of_getElem? (i := 433) rfl, rfl⟩
set_option maxRecDepth 20000 in
theorem mS_X3_heat : Cond.selects RX3 yX3_heat yX3_heat ∈ WS := List.mem_filter.mpr ⟨List.mem_of_getElem? (i := 434) rfl, rfl⟩
set_option maxRecDepth 20000 in
theorem mK_L_isShape : Cond.code yL_isShape cL_isShape 14 (some .boolean) ∈ WS := List.mem_filter.mpr ⟨List.mem_of_getElem? (i := 439) rfl, rfl⟩
set_option maxRecDepth 20000 in
theorem mT_L_isShape : Cond.static yL_isShape ∈ WS := List.mem_filter.mpr ⟨List.mem_of_getElem? (i := 438) rfl, rfl⟩
set_option maxRecDepth 20000 in
theorem mK_L_isInside : Cond.code yL_isInside cL_isInside 4 (some .boolean) ∈ WS := List.mem_filter.mpr ⟨List.mem_of_getElem? (i := 442) rfl, rfl⟩
set_option maxRecDepth 20000 in
theorem mT_L_isInside : Cond.static yL_isInside ∈ WS := List.mem_filter.mpr ⟨List.mem_of_getElem? (i := 441) rfl, rfl⟩
set_option maxRecDepth 20000 in
theorem mK_L_goes : Cond.code yL_goes cL_goes 5 (some .int) ∈ WS := List.mem_filter.mpr ⟨List.mem_of_getElem? (i := 445) rfl, rfl⟩
set_option maxRecDepth 20000 in
theorem mT_L_goes : Cond.static yL_goes ∈ WS := List.mem_filter.mpr ⟨List.mem_of_getElem? (i := 444) rfl, rfl⟩
set_option maxRecDepth 20000 in
theorem mK_L_off : Cond.code yL_off cL_off 2 (some .int) ∈ WS := List.mem_filter.mpr ⟨List.mem_of_getElem? (i := 448) rfl, rfl⟩
set_option maxRecDepth 20000 in
theorem mT_L_off : Cond.static yL_off ∈ WS := List.mem_filter.mpr ⟨List.mem_of_getElem? (i := 447) rfl, rfl⟩
set_option maxRecDepth 20000 in
theorem mK_L_edgeIn : Cond.code yL_edgeIn cL_edgeIn 5 (some .int) ∈ WS := List.mem_filter.mpr ⟨List.mem_of_getElem? (i := 451) rfl, rfl⟩
set_option maxRecDepth 20000 in
theorem mT_L_edgeIn : Cond.static yL_edgeIn ∈ WS := List.mem_filter.mpr ⟨List.mem_of_getElem? (i := 450) rfl, rfl⟩
set_option maxRecDepth 20000 in
theorem mK_L_isEdge : Cond.code yL_isEdge cL_isEdge 7 (some .boolean) ∈ WS := List.mem_filter.mpr ⟨List.mem_of_getElem? (i := 454) rfl, rfl⟩
set_option maxRecDepth 20000 in
theorem mT_L_isEdge : Cond.static yL_isEdge ∈ WS := List.mem_filter.mpr ⟨List.mem_of_getElem? (i := 453) rfl, rfl⟩
set_option maxRecDepth 20000 in
theorem mK_X3_reason : Cond.code yX3_reason cX3_reason 2 (some .int) ∈ WS := List.mem_filter.mpr ⟨List.mem_of_getElem? (i := 458) rfl, rfl⟩
set_option maxRecDepth 20000 in
theorem mM_X3_reason : Cond.instanceMethod yX3_reason ∈ WS := List.mem_filter.mpr ⟨List.mem_of_getElem? (i := 456) rfl, rfl⟩
set_option maxRecDepth 20000 in
theorem mS_X3_reason : Cond.selects RX3 yX3_reason yX3_reason ∈ WS := List.mem_filter.mpr ⟨List.mem_of_getElem? (i := 457) rfl, rfl⟩
set_option maxRecDepth 20000 in
theorem mK_X3_takes : Cond.code yX3_takes cX3_takes 2 (some .int) ∈ WS := List.mem_filter.mpr ⟨List.mem_of_getElem? (i := 464) rfl, rfl⟩
set_option maxRecDepth 20000 in
theorem mM_X3_takes : Cond.instanceMethod yX3_takes ∈ WS := List.mem_filter.mpr ⟨List.mem_of_getElem? (i := 462) rfl, rfl⟩
set_option maxRecDepth 20000 in
theorem mS_X3_takes : Cond.selects RX3 yX3_takes yX3_takes ∈ WS := List.mem_filter.mpr ⟨List.mem_of_getElem? (i := 463) rfl, rfl⟩
set_option maxRecDepth 20000 in
theorem mK_X3_coolsIn : Cond.code yX3_coolsIn cX3_coolsIn 2 (some .int) ∈ WS := List.mem_filter.mpr ⟨List.mem_of_getElem? (i := 469) rfl, rfl⟩
set_option maxRecDepth 20000 in
theorem mM_X3_coolsIn : Cond.instanceMethod yX3_coolsIn ∈ WS := List.mem_filter.mpr ⟨List.mem_of_getElem? (i := 467) rfl, rfl⟩
set_option maxRecDepth 20000 in
theorem mS_X3_coolsIn : Cond.selects RX3 yX3_coolsIn yX3_coolsIn ∈ WS := List.mem_filter.mpr ⟨List.mem_of_getElem? (i := 468) rfl, rfl⟩
set_option maxRecDepth 20000 in
theorem mK_X3_best : Cond.code yX3_best cX3_best 1 (some .int) ∈ WS := List.mem_filter.mpr ⟨List.mem_of_getElem? (i := 474) rfl, rfl⟩
set_option maxRecDepth 20000 in
theorem mM_X3_best : Cond.instanceMethod yX3_best ∈ WS := List.mem_filter.mpr ⟨List.mem_of_getElem? (i := 472) rfl, rfl⟩
set_option maxRecDepth 20000 in
theorem mS_X3_best : Cond.selects RX3 yX3_best yX3_best ∈ WS := List.mem_filter.mpr ⟨List.mem_of_getElem? (i := 473) rfl, rfl⟩
set_option maxRecDepth 20000 in
theorem mK_L_tries : Cond.code yL_tries cL_tries 11 (some .boolean) ∈ WS := List.mem_filter.mpr ⟨List.mem_of_getElem? (i := 478) rfl, rfl⟩
set_option maxRecDepth 20000 in
theorem mT_L_tries : Cond.static yL_tries ∈ WS := List.mem_filter.mpr ⟨List.mem_of_getElem? (i := 477) rfl, rfl⟩
set_option maxRecDepth 20000 in
theorem mK_L_goesThrough : Cond.code yL_goesThrough cL_goesThrough 9 (some .boolean) ∈ WS := List.mem_filter.mpr ⟨List.mem_of_getElem? (i := 481) rfl, rfl⟩
set_option maxRecDepth 20000 in
theorem mT_L_goesThrough : Cond.static yL_goesThrough ∈ WS := List.mem_filter.mpr ⟨List.mem_of_getElem? (i := 480) rfl, rfl⟩
set_option maxRecDepth 20000 in
theorem mK_X3_ordered : Cond.code yX3_ordered cX3_ordered 4 (some .int) ∈ WS := List.mem_filter.mpr ⟨List.mem_of_getElem? (i := 485) rfl, rfl⟩
set_option maxRecDepth 20000 in
theorem mM_X3_ordered : Cond.instanceMethod yX3_ordered ∈ WS := List.mem_filter.mpr ⟨List.mem_of_getElem? (i := 483) rfl, rfl⟩
set_option maxRecDepth 20000 in
theorem mS_X3_ordered : Cond.selects RX3 yX3_ordered yX3_ordered ∈ WS := List.mem_filter.mpr ⟨List.mem_of_getElem? (i := 484) rfl, rfl⟩
theorem nX0 : ∀ w ∈ wsX00, w ∈ WS := by decide +kernel
theorem nX1 : ∀ w ∈ wsX10, w ∈ WS := by decide +kernel
theorem nX2 : ∀ w ∈ wsX20, w ∈ WS := by decide +kernel
theorem nX3 : ∀ w ∈ wsX30, w ∈ WS := by decide +kernel
