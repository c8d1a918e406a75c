/-! each word of the tables, by its place (by program: wip/whole/gen_words.py) -/
def WS : List Cond := lw_tbl.filter goodWord
theorem WS_sub : ∀ w ∈ WS, w ∈ lw_tbl := fun w h => (List.mem_filter.mp h).1
theorem WS_good : GoodIn WS WS := fun w h => ⟨h, good_of_word (List.mem_filter.mp h).2⟩
set_option maxRecDepth 20000 in
theorem mI_L : Cond.initialized RL ∈ WS := List.mem_filter.mpr ⟨List.mem_of_getElem? (i := 68) rfl, rfl⟩
set_option maxRecDepth 20000 in
theorem mI_X3 : Cond.initialized RX3 ∈ WS := List.mem_filter.mpr ⟨List.mem_of_getElem? (i := 69) rfl, rfl⟩
set_option maxRecDepth 20000 in
theorem mI_X2 : Cond.initialized RX2 ∈ WS := List.mem_filter.mpr ⟨List.mem_of_getElem? (i := 70) rfl, rfl⟩
set_option maxRecDepth 20000 in
theorem mI_X1 : Cond.initialized RX1 ∈ WS := List.mem_filter.mpr ⟨List.mem_of_getElem? (i := 71) rfl, rfl⟩
set_option maxRecDepth 20000 in
theorem mI_X0 : Cond.initialized RX0 ∈ WS := List.mem_filter.mpr ⟨List.mem_of_getElem? (i := 72) rfl, rfl⟩
set_option maxRecDepth 20000 in
theorem mI_X4 : Cond.initialized RX4 ∈ WS := List.mem_filter.mpr ⟨List.mem_of_getElem? (i := 73) rfl, rfl⟩
set_option maxRecDepth 20000 in
theorem mI_Math : Cond.initialized "java/lang/Math" ∈ WS := List.mem_filter.mpr ⟨List.mem_of_getElem? (i := 74) rfl, rfl⟩
set_option maxRecDepth 20000 in
theorem mC_L_7 : Cond.classLink RL 7 RX3 ∈ WS := List.mem_filter.mpr ⟨List.mem_of_getElem? (i := 75) rfl, rfl⟩
set_option maxRecDepth 20000 in
theorem mN_X3 : Cond.instantiable RX3 10 ∈ WS := List.mem_filter.mpr ⟨List.mem_of_getElem? (i := 76) rfl, rfl⟩
set_option maxRecDepth 20000 in
theorem mL_L_9 : Cond.methodLink RL 9 yX3_init ∈ WS := List.mem_filter.mpr ⟨List.mem_of_getElem? (i := 77) rfl, rfl⟩
set_option maxRecDepth 20000 in
theorem mL_X3_1 : Cond.methodLink RX3 1 objectInit ∈ WS := List.mem_filter.mpr ⟨List.mem_of_getElem? (i := 80) rfl, rfl⟩
set_option maxRecDepth 20000 in
theorem mC_X3_7 : Cond.classLink RX3 7 RX2 ∈ WS := List.mem_filter.mpr ⟨List.mem_of_getElem? (i := 83) rfl, rfl⟩
set_option maxRecDepth 20000 in
theorem mN_X2 : Cond.instantiable RX2 10 ∈ WS := List.mem_filter.mpr ⟨List.mem_of_getElem? (i := 84) rfl, rfl⟩
set_option maxRecDepth 20000 in
theorem mL_X3_9 : Cond.methodLink RX3 9 yX2_init ∈ WS := List.mem_filter.mpr ⟨List.mem_of_getElem? (i := 85) rfl, rfl⟩
set_option maxRecDepth 20000 in
theorem mL_X2_3 : Cond.methodLink RX2 3 objectInit ∈ WS := List.mem_filter.mpr ⟨List.mem_of_getElem? (i := 88) rfl, rfl⟩
set_option maxRecDepth 20000 in
theorem mC_X2_11 : Cond.classLink RX2 11 RX1 ∈ WS := List.mem_filter.mpr ⟨List.mem_of_getElem? (i := 89) rfl, rfl⟩
set_option maxRecDepth 20000 in
theorem mN_X1 : Cond.instantiable RX1 9 ∈ WS := List.mem_filter.mpr ⟨List.mem_of_getElem? (i := 91) rfl, rfl⟩
set_option maxRecDepth 20000 in
theorem mL_X2_17 : Cond.methodLink RX2 17 yX1_init ∈ WS := List.mem_filter.mpr ⟨List.mem_of_getElem? (i := 92) rfl, rfl⟩
set_option maxRecDepth 20000 in
theorem mL_X1_3 : Cond.methodLink RX1 3 objectInit ∈ WS := List.mem_filter.mpr ⟨List.mem_of_getElem? (i := 95) rfl, rfl⟩
set_option maxRecDepth 20000 in
theorem mF_X1_9 : Cond.fieldLink RX1 9 "BeamCuts$Shape" "left" "I" ∈ WS := List.mem_filter.mpr ⟨List.mem_of_getElem? (i := 96) rfl, rfl⟩
set_option maxRecDepth 20000 in
theorem mF_X2_167 : Cond.fieldLink RX2 167 "BeamCuts$Shape" "left" "I" ∈ WS := List.mem_filter.mpr ⟨List.mem_of_getElem? (i := 97) rfl, rfl⟩
set_option maxRecDepth 20000 in
theorem mF_X1_15 : Cond.fieldLink RX1 15 "BeamCuts$Shape" "top" "I" ∈ WS := List.mem_filter.mpr ⟨List.mem_of_getElem? (i := 98) rfl, rfl⟩
set_option maxRecDepth 20000 in
theorem mF_X2_170 : Cond.fieldLink RX2 170 "BeamCuts$Shape" "top" "I" ∈ WS := List.mem_filter.mpr ⟨List.mem_of_getElem? (i := 99) rfl, rfl⟩
set_option maxRecDepth 20000 in
theorem mF_X1_18 : Cond.fieldLink RX1 18 "BeamCuts$Shape" "width" "I" ∈ WS := List.mem_filter.mpr ⟨List.mem_of_getElem? (i := 100) rfl, rfl⟩
set_option maxRecDepth 20000 in
theorem mF_X2_173 : Cond.fieldLink RX2 173 "BeamCuts$Shape" "width" "I" ∈ WS := List.mem_filter.mpr ⟨List.mem_of_getElem? (i := 101) rfl, rfl⟩
set_option maxRecDepth 20000 in
theorem mF_X1_21 : Cond.fieldLink RX1 21 "BeamCuts$Shape" "height" "I" ∈ WS := List.mem_filter.mpr ⟨List.mem_of_getElem? (i := 102) rfl, rfl⟩
set_option maxRecDepth 20000 in
theorem mF_X2_176 : Cond.fieldLink RX2 176 "BeamCuts$Shape" "height" "I" ∈ WS := List.mem_filter.mpr ⟨List.mem_of_getElem? (i := 103) rfl, rfl⟩
set_option maxRecDepth 20000 in
theorem mF_X1_24 : Cond.fieldLink RX1 24 "BeamCuts$Shape" "lead" "I" ∈ WS := List.mem_filter.mpr ⟨List.mem_of_getElem? (i := 104) rfl, rfl⟩
set_option maxRecDepth 20000 in
theorem mF_X2_76 : Cond.fieldLink RX2 76 "BeamCuts$Shape" "lead" "I" ∈ WS := List.mem_filter.mpr ⟨List.mem_of_getElem? (i := 105) rfl, rfl⟩
set_option maxRecDepth 20000 in
theorem mF_X1_27 : Cond.fieldLink RX1 27 "BeamCuts$Shape" "condition" "I" ∈ WS := List.mem_filter.mpr ⟨List.mem_of_getElem? (i := 106) rfl, rfl⟩
set_option maxRecDepth 20000 in
theorem mF_X2_66 : Cond.fieldLink RX2 66 "BeamCuts$Shape" "condition" "I" ∈ WS := List.mem_filter.mpr ⟨List.mem_of_getElem? (i := 107) rfl, rfl⟩
set_option maxRecDepth 20000 in
theorem mF_X1_30 : Cond.fieldLink RX1 30 "BeamCuts$Shape" "tilted" "I" ∈ WS := List.mem_filter.mpr ⟨List.mem_of_getElem? (i := 108) rfl, rfl⟩
set_option maxRecDepth 20000 in
theorem mF_X2_119 : Cond.fieldLink RX2 119 "BeamCuts$Shape" "tilted" "I" ∈ WS := List.mem_filter.mpr ⟨List.mem_of_getElem? (i := 109) rfl, rfl⟩
set_option maxRecDepth 20000 in
theorem mF_X1_33 : Cond.fieldLink RX1 33 "BeamCuts$Shape" "rank" "I" ∈ WS := List.mem_filter.mpr ⟨List.mem_of_getElem? (i := 110) rfl, rfl⟩
set_option maxRecDepth 20000 in
theorem mF_X2_107 : Cond.fieldLink RX2 107 "BeamCuts$Shape" "rank" "I" ∈ WS := List.mem_filter.mpr ⟨List.mem_of_getElem? (i := 111) rfl, rfl⟩
set_option maxRecDepth 20000 in
theorem mF_X1_38 : Cond.fieldLink RX1 38 "BeamCuts$Shape" "edgeIn" "[I" ∈ WS := List.mem_filter.mpr ⟨List.mem_of_getElem? (i := 112) rfl, rfl⟩
set_option maxRecDepth 20000 in
theorem mF_X2_128 : Cond.fieldLink RX2 128 "BeamCuts$Shape" "edgeIn" "[I" ∈ WS := List.mem_filter.mpr ⟨List.mem_of_getElem? (i := 113) rfl, rfl⟩
set_option maxRecDepth 20000 in
theorem mA_int : Cond.arrayClass .int ∈ WS := List.mem_filter.mpr ⟨List.mem_of_getElem? (i := 133) rfl, rfl⟩
set_option maxRecDepth 20000 in
theorem mF_X2_13 : Cond.fieldLink RX2 13 "BeamCuts$Sheet" "shapes" "[LBeamCuts$Shape;" ∈ WS := List.mem_filter.mpr ⟨List.mem_of_getElem? (i := 134) rfl, rfl⟩
set_option maxRecDepth 20000 in
theorem mF_X2_18 : Cond.fieldLink RX2 18 "BeamCuts$Sheet" "heats" "[I" ∈ WS := List.mem_filter.mpr ⟨List.mem_of_getElem? (i := 135) rfl, rfl⟩
set_option maxRecDepth 20000 in
theorem mF_X2_22 : Cond.fieldLink RX2 22 "BeamCuts$Sheet" "settings" "[I" ∈ WS := List.mem_filter.mpr ⟨List.mem_of_getElem? (i := 136) rfl, rfl⟩
set_option maxRecDepth 20000 in
theorem mF_X2_25 : Cond.fieldLink RX2 25 "BeamCuts$Sheet" "told" "I" ∈ WS := List.mem_filter.mpr ⟨List.mem_of_getElem? (i := 137) rfl, rfl⟩
set_option maxRecDepth 20000 in
theorem mF_X3_96 : Cond.fieldLink RX3 96 "BeamCuts$Sheet" "told" "I" ∈ WS := List.mem_filter.mpr ⟨List.mem_of_getElem? (i := 138) rfl, rfl⟩
set_option maxRecDepth 20000 in
theorem mF_X2_29 : Cond.fieldLink RX2 29 "BeamCuts$Sheet" "column" "I" ∈ WS := List.mem_filter.mpr ⟨List.mem_of_getElem? (i := 139) rfl, rfl⟩
set_option maxRecDepth 20000 in
theorem mF_X2_32 : Cond.fieldLink RX2 32 "BeamCuts$Sheet" "row" "I" ∈ WS := List.mem_filter.mpr ⟨List.mem_of_getElem? (i := 140) rfl, rfl⟩
set_option maxRecDepth 20000 in
theorem mF_X2_35 : Cond.fieldLink RX2 35 "BeamCuts$Sheet" "dirt" "I" ∈ WS := List.mem_filter.mpr ⟨List.mem_of_getElem? (i := 141) rfl, rfl⟩
set_option maxRecDepth 20000 in
theorem mF_X2_38 : Cond.fieldLink RX2 38 "BeamCuts$Sheet" "ticks" "I" ∈ WS := List.mem_filter.mpr ⟨List.mem_of_getElem? (i := 142) rfl, rfl⟩
set_option maxRecDepth 20000 in
theorem mF_X3_129 : Cond.fieldLink RX3 129 "BeamCuts$Sheet" "ticks" "I" ∈ WS := List.mem_filter.mpr ⟨List.mem_of_getElem? (i := 143) rfl, rfl⟩
set_option maxRecDepth 20000 in
theorem mF_X2_41 : Cond.fieldLink RX2 41 "BeamCuts$Sheet" "burningTicks" "I" ∈ WS := List.mem_filter.mpr ⟨List.mem_of_getElem? (i := 144) rfl, rfl⟩
set_option maxRecDepth 20000 in
theorem mF_X2_44 : Cond.fieldLink RX2 44 "BeamCuts$Sheet" "cuts" "I" ∈ WS := List.mem_filter.mpr ⟨List.mem_of_getElem? (i := 145) rfl, rfl⟩
set_option maxRecDepth 20000 in
theorem mC_X3_29 : Cond.classLink RX3 29 RX0 ∈ WS := List.mem_filter.mpr ⟨List.mem_of_getElem? (i := 168) rfl, rfl⟩
set_option maxRecDepth 20000 in
theorem mN_X0 : Cond.instantiable RX0 7 ∈ WS := List.mem_filter.mpr ⟨List.mem_of_getElem? (i := 169) rfl, rfl⟩
set_option maxRecDepth 20000 in
theorem mL_X3_31 : Cond.methodLink RX3 31 yX0_init ∈ WS := List.mem_filter.mpr ⟨List.mem_of_getElem? (i := 170) rfl, rfl⟩
set_option maxRecDepth 20000 in
theorem mL_X0_3 : Cond.methodLink RX0 3 objectInit ∈ WS := List.mem_filter.mpr ⟨List.mem_of_getElem? (i := 173) rfl, rfl⟩
set_option maxRecDepth 20000 in
theorem mF_X0_11 : Cond.fieldLink RX0 11 "BeamCuts$Plan" "letters" "[C" ∈ WS := List.mem_filter.mpr ⟨List.mem_of_getElem? (i := 174) rfl, rfl⟩
set_option maxRecDepth 20000 in
theorem mF_X0_15 : Cond.fieldLink RX0 15 "BeamCuts$Plan" "kinds" "[I" ∈ WS := List.mem_filter.mpr ⟨List.mem_of_getElem? (i := 175) rfl, rfl⟩
set_option maxRecDepth 20000 in
theorem mF_X0_19 : Cond.fieldLink RX0 19 "BeamCuts$Plan" "firsts" "[I" ∈ WS := List.mem_filter.mpr ⟨List.mem_of_getElem? (i := 176) rfl, rfl⟩
set_option maxRecDepth 20000 in
theorem mF_X0_22 : Cond.fieldLink RX0 22 "BeamCuts$Plan" "seconds" "[I" ∈ WS := List.mem_filter.mpr ⟨List.mem_of_getElem? (i := 177) rfl, rfl⟩
set_option maxRecDepth 20000 in
theorem mF_X0_25 : Cond.fieldLink RX0 25 "BeamCuts$Plan" "length" "I" ∈ WS := List.mem_filter.mpr ⟨List.mem_of_getElem? (i := 178) rfl, rfl⟩
set_option maxRecDepth 20000 in
theorem mF_X3_132 : Cond.fieldLink RX3 132 "BeamCuts$Plan" "length" "I" ∈ WS := List.mem_filter.mpr ⟨List.mem_of_getElem? (i := 179) rfl, rfl⟩
set_option maxRecDepth 20000 in
theorem mF_X0_29 : Cond.fieldLink RX0 29 "BeamCuts$Plan" "size" "I" ∈ WS := List.mem_filter.mpr ⟨List.mem_of_getElem? (i := 180) rfl, rfl⟩
set_option maxRecDepth 20000 in
theorem mF_X3_89 : Cond.fieldLink RX3 89 "BeamCuts$Plan" "size" "I" ∈ WS := List.mem_filter.mpr ⟨List.mem_of_getElem? (i := 181) rfl, rfl⟩
set_option maxRecDepth 20000 in
theorem mF_X0_32 : Cond.fieldLink RX0 32 "BeamCuts$Plan" "at" "I" ∈ WS := List.mem_filter.mpr ⟨List.mem_of_getElem? (i := 182) rfl, rfl⟩
set_option maxRecDepth 20000 in
theorem mA_char : Cond.arrayClass .char ∈ WS := List.mem_filter.mpr ⟨List.mem_of_getElem? (i := 198) rfl, rfl⟩
set_option maxRecDepth 20000 in
theorem mF_X3_10 : Cond.fieldLink RX3 10 "BeamCuts" "sheet" "LBeamCuts$Sheet;" ∈ WS := List.mem_filter.mpr ⟨List.mem_of_getElem? (i := 199) rfl, rfl⟩
set_option maxRecDepth 20000 in
theorem mF_X3_16 : Cond.fieldLink RX3 16 "BeamCuts" "before" "LBeamCuts$Sheet;" ∈ WS := List.mem_filter.mpr ⟨List.mem_of_getElem? (i := 200) rfl, rfl⟩
set_option maxRecDepth 20000 in
theorem mF_X3_19 : Cond.fieldLink RX3 19 "BeamCuts" "trial" "LBeamCuts$Sheet;" ∈ WS := List.mem_filter.mpr ⟨List.mem_of_getElem? (i := 201) rfl, rfl⟩
set_option maxRecDepth 20000 in
theorem mF_X3_22 : Cond.fieldLink RX3 22 "BeamCuts" "snapshot" "LBeamCuts$Sheet;" ∈ WS := List.mem_filter.mpr ⟨List.mem_of_getElem? (i := 202) rfl, rfl⟩
set_option maxRecDepth 20000 in
theorem mF_X3_25 : Cond.fieldLink RX3 25 "BeamCuts" "history" "[LBeamCuts$Sheet;" ∈ WS := List.mem_filter.mpr ⟨List.mem_of_getElem? (i := 203) rfl, rfl⟩
set_option maxRecDepth 20000 in
theorem mF_X3_32 : Cond.fieldLink RX3 32 "BeamCuts" "plan" "LBeamCuts$Plan;" ∈ WS := List.mem_filter.mpr ⟨List.mem_of_getElem? (i := 204) rfl, rfl⟩
set_option maxRecDepth 20000 in
theorem mF_X3_36 : Cond.fieldLink RX3 36 "BeamCuts" "states" "I" ∈ WS := List.mem_filter.mpr ⟨List.mem_of_getElem? (i := 205) rfl, rfl⟩
set_option maxRecDepth 20000 in
theorem mF_X3_40 : Cond.fieldLink RX3 40 "BeamCuts" "hasSnapshot" "Z" ∈ WS := List.mem_filter.mpr ⟨List.mem_of_getElem? (i := 206) rfl, rfl⟩
set_option maxRecDepth 20000 in
theorem mF_X3_44 : Cond.fieldLink RX3 44 "BeamCuts" "stopNumber" "I" ∈ WS := List.mem_filter.mpr ⟨List.mem_of_getElem? (i := 207) rfl, rfl⟩
set_option maxRecDepth 20000 in
theorem mF_X3_47 : Cond.fieldLink RX3 47 "BeamCuts" "stopError" "I" ∈ WS := List.mem_filter.mpr ⟨List.mem_of_getElem? (i := 208) rfl, rfl⟩
set_option maxRecDepth 20000 in
theorem mL_L_13 : Cond.methodLink RL 13 yX3_tell ∈ WS := List.mem_filter.mpr ⟨List.mem_of_getElem? (i := 230) rfl, rfl⟩
set_option maxRecDepth 20000 in
theorem mL_X3_50 : Cond.methodLink RX3 50 yX2_copyFrom ∈ WS := List.mem_filter.mpr ⟨List.mem_of_getElem? (i := 234) rfl, rfl⟩
set_option maxRecDepth 20000 in
theorem mL_X2_47 : Cond.methodLink RX2 47 yX1_copyFrom ∈ WS := List.mem_filter.mpr ⟨List.mem_of_getElem? (i := 238) rfl, rfl⟩
set_option maxRecDepth 20000 in
theorem mL_X3_54 : Cond.methodLink RX3 54 yX2_addShape ∈ WS := List.mem_filter.mpr ⟨List.mem_of_getElem? (i := 242) rfl, rfl⟩
set_option maxRecDepth 20000 in
theorem mL_X2_55 : Cond.methodLink RX2 55 yX1_place ∈ WS := List.mem_filter.mpr ⟨List.mem_of_getElem? (i := 249) rfl, rfl⟩
set_option maxRecDepth 20000 in
theorem mL_X1_42 : Cond.methodLink RX1 42 yX1_fieldsIn ∈ WS := List.mem_filter.mpr ⟨List.mem_of_getElem? (i := 253) rfl, rfl⟩
set_option maxRecDepth 20000 in
theorem mL_X1_46 : Cond.methodLink RX1 46 Lib.Math.min.name ∈ WS := List.mem_filter.mpr ⟨List.mem_of_getElem? (i := 257) rfl, rfl⟩
set_option maxRecDepth 20000 in
theorem mL_X1_51 : Cond.methodLink RX1 51 Lib.Math.max.name ∈ WS := List.mem_filter.mpr ⟨List.mem_of_getElem? (i := 260) rfl, rfl⟩
set_option maxRecDepth 20000 in
theorem mL_X2_59 : Cond.methodLink RX2 59 yX2_fits ∈ WS := List.mem_filter.mpr ⟨List.mem_of_getElem? (i := 263) rfl, rfl⟩
set_option maxRecDepth 20000 in
theorem mL_X2_63 : Cond.methodLink RX2 63 yX1_isInside ∈ WS := List.mem_filter.mpr ⟨List.mem_of_getElem? (i := 267) rfl, rfl⟩
set_option maxRecDepth 20000 in
theorem mL_X2_69 : Cond.methodLink RX2 69 yX1_isApartFrom ∈ WS := List.mem_filter.mpr ⟨List.mem_of_getElem? (i := 271) rfl, rfl⟩
set_option maxRecDepth 20000 in
theorem mL_X3_58 : Cond.methodLink RX3 58 yX3_recorded ∈ WS := List.mem_filter.mpr ⟨List.mem_of_getElem? (i := 275) rfl, rfl⟩
set_option maxRecDepth 20000 in
theorem mL_X3_138 : Cond.methodLink RX3 138 yX3_dropOldestState ∈ WS := List.mem_filter.mpr ⟨List.mem_of_getElem? (i := 279) rfl, rfl⟩
set_option maxRecDepth 20000 in
theorem mL_L_18 : Cond.methodLink RL 18 yX3_setLead ∈ WS := List.mem_filter.mpr ⟨List.mem_of_getElem? (i := 283) rfl, rfl⟩
set_option maxRecDepth 20000 in
theorem mL_X3_62 : Cond.methodLink RX3 62 yX2_changeLead ∈ WS := List.mem_filter.mpr ⟨List.mem_of_getElem? (i := 287) rfl, rfl⟩
set_option maxRecDepth 20000 in
theorem mL_X2_72 : Cond.methodLink RX2 72 yX2_knows ∈ WS := List.mem_filter.mpr ⟨List.mem_of_getElem? (i := 291) rfl, rfl⟩
set_option maxRecDepth 20000 in
theorem mL_L_23 : Cond.methodLink RL 23 yX3_set ∈ WS := List.mem_filter.mpr ⟨List.mem_of_getElem? (i := 295) rfl, rfl⟩
set_option maxRecDepth 20000 in
theorem mL_X3_66 : Cond.methodLink RX3 66 yX2_changeSetting ∈ WS := List.mem_filter.mpr ⟨List.mem_of_getElem? (i := 299) rfl, rfl⟩
set_option maxRecDepth 20000 in
theorem mF_X2_79 : Cond.fieldLink RX2 79 "BeamCuts$Sheet" "LEAST_SETTINGS" "[I" ∈ WS := List.mem_filter.mpr ⟨List.mem_of_getElem? (i := 303) rfl, rfl⟩
set_option maxRecDepth 20000 in
theorem mF_X2_82 : Cond.fieldLink RX2 82 "BeamCuts$Sheet" "GREATEST_SETTINGS" "[I" ∈ WS := List.mem_filter.mpr ⟨List.mem_of_getElem? (i := 305) rfl, rfl⟩
set_option maxRecDepth 20000 in
theorem mL_L_27 : Cond.methodLink RL 27 yX3_cut ∈ WS := List.mem_filter.mpr ⟨List.mem_of_getElem? (i := 307) rfl, rfl⟩
set_option maxRecDepth 20000 in
theorem mL_X3_69 : Cond.methodLink RX3 69 yX2_cutShape ∈ WS := List.mem_filter.mpr ⟨List.mem_of_getElem? (i := 311) rfl, rfl⟩
set_option maxRecDepth 20000 in
theorem mL_X2_85 : Cond.methodLink RX2 85 yX2_reasonAgainst ∈ WS := List.mem_filter.mpr ⟨List.mem_of_getElem? (i := 315) rfl, rfl⟩
set_option maxRecDepth 20000 in
theorem mL_X2_143 : Cond.methodLink RX2 143 yX2_holdsWholeShape ∈ WS := List.mem_filter.mpr ⟨List.mem_of_getElem? (i := 319) rfl, rfl⟩
set_option maxRecDepth 20000 in
theorem mL_X2_146 : Cond.methodLink RX2 146 yX2_heatOver ∈ WS := List.mem_filter.mpr ⟨List.mem_of_getElem? (i := 323) rfl, rfl⟩
set_option maxRecDepth 20000 in
theorem mL_X2_131 : Cond.methodLink RX2 131 Lib.Math.max.name ∈ WS := List.mem_filter.mpr ⟨List.mem_of_getElem? (i := 327) rfl, rfl⟩
set_option maxRecDepth 20000 in
theorem mL_X2_89 : Cond.methodLink RX2 89 yX2_wayTo ∈ WS := List.mem_filter.mpr ⟨List.mem_of_getElem? (i := 328) rfl, rfl⟩
set_option maxRecDepth 20000 in
theorem mL_X2_97 : Cond.methodLink RX2 97 yX1_leadColumn ∈ WS := List.mem_filter.mpr ⟨List.mem_of_getElem? (i := 332) rfl, rfl⟩
set_option maxRecDepth 20000 in
theorem mL_X2_137 : Cond.methodLink RX2 137 Lib.Math.abs.name ∈ WS := List.mem_filter.mpr ⟨List.mem_of_getElem? (i := 336) rfl, rfl⟩
set_option maxRecDepth 20000 in
theorem mL_X2_101 : Cond.methodLink RX2 101 yX1_leadRow ∈ WS := List.mem_filter.mpr ⟨List.mem_of_getElem? (i := 339) rfl, rfl⟩
set_option maxRecDepth 20000 in
theorem mL_X2_93 : Cond.methodLink RX2 93 yX2_coolFor ∈ WS := List.mem_filter.mpr ⟨List.mem_of_getElem? (i := 343) rfl, rfl⟩
set_option maxRecDepth 20000 in
theorem mL_X2_104 : Cond.methodLink RX2 104 yX2_burnEdge ∈ WS := List.mem_filter.mpr ⟨List.mem_of_getElem? (i := 347) rfl, rfl⟩
set_option maxRecDepth 20000 in
theorem mL_X2_125 : Cond.methodLink RX2 125 yX2_burningOf ∈ WS := List.mem_filter.mpr ⟨List.mem_of_getElem? (i := 351) rfl, rfl⟩
set_option maxRecDepth 20000 in
theorem mL_X2_140 : Cond.methodLink RX2 140 yX1_edge ∈ WS := List.mem_filter.mpr ⟨List.mem_of_getElem? (i := 355) rfl, rfl⟩
set_option maxRecDepth 20000 in
theorem mL_X2_110 : Cond.methodLink RX2 110 yX1_leadSquare ∈ WS := List.mem_filter.mpr ⟨List.mem_of_getElem? (i := 359) rfl, rfl⟩
set_option maxRecDepth 20000 in
theorem mL_X1_54 : Cond.methodLink RX1 54 yX1_leadColumn ∈ WS := List.mem_filter.mpr ⟨List.mem_of_getElem? (i := 363) rfl, rfl⟩
set_option maxRecDepth 20000 in
theorem mL_X1_58 : Cond.methodLink RX1 58 yX1_leadRow ∈ WS := List.mem_filter.mpr ⟨List.mem_of_getElem? (i := 364) rfl, rfl⟩
set_option maxRecDepth 20000 in
theorem mL_X2_113 : Cond.methodLink RX2 113 yX2_heatIn ∈ WS := List.mem_filter.mpr ⟨List.mem_of_getElem? (i := 365) rfl, rfl⟩
set_option maxRecDepth 20000 in
theorem mL_X2_116 : Cond.methodLink RX2 116 yX2_greatestHeat ∈ WS := List.mem_filter.mpr ⟨List.mem_of_getElem? (i := 369) rfl, rfl⟩
set_option maxRecDepth 20000 in
theorem mL_X2_164 : Cond.methodLink RX2 164 yX2_hottestSquare ∈ WS := List.mem_filter.mpr ⟨List.mem_of_getElem? (i := 373) rfl, rfl⟩
set_option maxRecDepth 20000 in
theorem mL_X2_122 : Cond.methodLink RX2 122 yX2_loseShapesInside ∈ WS := List.mem_filter.mpr ⟨List.mem_of_getElem? (i := 377) rfl, rfl⟩
set_option maxRecDepth 20000 in
theorem mL_L_32 : Cond.methodLink RL 32 yX3_pause ∈ WS := List.mem_filter.mpr ⟨List.mem_of_getElem? (i := 381) rfl, rfl⟩
set_option maxRecDepth 20000 in
theorem mL_X3_72 : Cond.methodLink RX3 72 yX2_waitFor ∈ WS := List.mem_filter.mpr ⟨List.mem_of_getElem? (i := 385) rfl, rfl⟩
set_option maxRecDepth 20000 in
theorem mL_L_36 : Cond.methodLink RL 36 yX3_clean ∈ WS := List.mem_filter.mpr ⟨List.mem_of_getElem? (i := 389) rfl, rfl⟩
set_option maxRecDepth 20000 in
theorem mL_X3_75 : Cond.methodLink RX3 75 yX2_cleanLens ∈ WS := List.mem_filter.mpr ⟨List.mem_of_getElem? (i := 393) rfl, rfl⟩
set_option maxRecDepth 20000 in
theorem mL_L_41 : Cond.methodLink RL 41 yX3_type ∈ WS := List.mem_filter.mpr ⟨List.mem_of_getElem? (i := 397) rfl, rfl⟩
set_option maxRecDepth 20000 in
theorem mL_X3_79 : Cond.methodLink RX3 79 yX0_addLetter ∈ WS := List.mem_filter.mpr ⟨List.mem_of_getElem? (i := 401) rfl, rfl⟩
set_option maxRecDepth 20000 in
theorem mL_L_46 : Cond.methodLink RL 46 yX3_clearText ∈ WS := List.mem_filter.mpr ⟨List.mem_of_getElem? (i := 405) rfl, rfl⟩
set_option maxRecDepth 20000 in
theorem mL_X3_83 : Cond.methodLink RX3 83 yX0_dropLetters ∈ WS := List.mem_filter.mpr ⟨List.mem_of_getElem? (i := 409) rfl, rfl⟩
set_option maxRecDepth 20000 in
theorem mL_L_50 : Cond.methodLink RL 50 yX3_perform ∈ WS := List.mem_filter.mpr ⟨List.mem_of_getElem? (i := 413) rfl, rfl⟩
set_option maxRecDepth 20000 in
theorem mL_X3_86 : Cond.methodLink RX3 86 yX0_read ∈ WS := List.mem_filter.mpr ⟨List.mem_of_getElem? (i := 417) rfl, rfl⟩
set_option maxRecDepth 20000 in
theorem mL_X0_35 : Cond.methodLink RX0 35 yX0_readThing ∈ WS := List.mem_filter.mpr ⟨List.mem_of_getElem? (i := 421) rfl, rfl⟩
set_option maxRecDepth 20000 in
theorem mL_X0_39 : Cond.methodLink RX0 39 yX0_readLetter ∈ WS := List.mem_filter.mpr ⟨List.mem_of_getElem? (i := 425) rfl, rfl⟩
set_option maxRecDepth 20000 in
theorem mL_X0_43 : Cond.methodLink RX0 43 yX0_readNumber ∈ WS := List.mem_filter.mpr ⟨List.mem_of_getElem? (i := 429) rfl, rfl⟩
set_option maxRecDepth 20000 in
theorem mL_X0_49 : Cond.methodLink RX0 49 yX0_digitAt ∈ WS := List.mem_filter.mpr ⟨List.mem_of_getElem? (i := 433) rfl, rfl⟩
set_option maxRecDepth 20000 in
theorem mL_X0_53 : Cond.methodLink RX0 53 Lib.Math.max.name ∈ WS := List.mem_filter.mpr ⟨List.mem_of_getElem? (i := 438) rfl, rfl⟩
set_option maxRecDepth 20000 in
theorem mL_X3_92 : Cond.methodLink RX3 92 yX0_doThing ∈ WS := List.mem_filter.mpr ⟨List.mem_of_getElem? (i := 439) rfl, rfl⟩
set_option maxRecDepth 20000 in
theorem mL_X0_63 : Cond.methodLink RX0 63 yX2_cutShape ∈ WS := List.mem_filter.mpr ⟨List.mem_of_getElem? (i := 443) rfl, rfl⟩
set_option maxRecDepth 20000 in
theorem mL_X0_66 : Cond.methodLink RX0 66 yX2_changeLead ∈ WS := List.mem_filter.mpr ⟨List.mem_of_getElem? (i := 444) rfl, rfl⟩
set_option maxRecDepth 20000 in
theorem mL_X0_69 : Cond.methodLink RX0 69 yX2_waitFor ∈ WS := List.mem_filter.mpr ⟨List.mem_of_getElem? (i := 445) rfl, rfl⟩
set_option maxRecDepth 20000 in
theorem mL_X0_72 : Cond.methodLink RX0 72 yX2_cleanLens ∈ WS := List.mem_filter.mpr ⟨List.mem_of_getElem? (i := 446) rfl, rfl⟩
set_option maxRecDepth 20000 in
theorem mL_L_54 : Cond.methodLink RL 54 yX3_stopped ∈ WS := List.mem_filter.mpr ⟨List.mem_of_getElem? (i := 447) rfl, rfl⟩
set_option maxRecDepth 20000 in
theorem mL_L_58 : Cond.methodLink RL 58 yX3_undo ∈ WS := List.mem_filter.mpr ⟨List.mem_of_getElem? (i := 451) rfl, rfl⟩
set_option maxRecDepth 20000 in
theorem mL_L_62 : Cond.methodLink RL 62 yX3_keep ∈ WS := List.mem_filter.mpr ⟨List.mem_of_getElem? (i := 455) rfl, rfl⟩
set_option maxRecDepth 20000 in
theorem mL_L_66 : Cond.methodLink RL 66 yX3_restore ∈ WS := List.mem_filter.mpr ⟨List.mem_of_getElem? (i := 459) rfl, rfl⟩
set_option maxRecDepth 20000 in
theorem mL_L_70 : Cond.methodLink RL 70 yX3_shape ∈ WS := List.mem_filter.mpr ⟨List.mem_of_getElem? (i := 463) rfl, rfl⟩
set_option maxRecDepth 20000 in
theorem mL_X3_99 : Cond.methodLink RX3 99 yX2_factOfShape ∈ WS := List.mem_filter.mpr ⟨List.mem_of_getElem? (i := 467) rfl, rfl⟩
set_option maxRecDepth 20000 in
theorem mL_X2_179 : Cond.methodLink RX2 179 yX2_outerOf ∈ WS := List.mem_filter.mpr ⟨List.mem_of_getElem? (i := 471) rfl, rfl⟩
set_option maxRecDepth 20000 in
theorem mL_X2_182 : Cond.methodLink RX2 182 yX2_setInside ∈ WS := List.mem_filter.mpr ⟨List.mem_of_getElem? (i := 475) rfl, rfl⟩
set_option maxRecDepth 20000 in
theorem mL_L_74 : Cond.methodLink RL 74 yX3_heat ∈ WS := List.mem_filter.mpr ⟨List.mem_of_getElem? (i := 479) rfl, rfl⟩
set_option maxRecDepth 20000 in
theorem mL_X3_102 : Cond.methodLink RX3 102 yX2_heatIn ∈ WS := List.mem_filter.mpr ⟨List.mem_of_getElem? (i := 483) rfl, rfl⟩
set_option maxRecDepth 20000 in
theorem mL_L_78 : Cond.methodLink RL 78 yX3_reason ∈ WS := List.mem_filter.mpr ⟨List.mem_of_getElem? (i := 484) rfl, rfl⟩
set_option maxRecDepth 20000 in
theorem mL_X3_105 : Cond.methodLink RX3 105 yX2_knows ∈ WS := List.mem_filter.mpr ⟨List.mem_of_getElem? (i := 488) rfl, rfl⟩
set_option maxRecDepth 20000 in
theorem mL_X3_109 : Cond.methodLink RX3 109 yX2_reasonAgainst ∈ WS := List.mem_filter.mpr ⟨List.mem_of_getElem? (i := 489) rfl, rfl⟩
set_option maxRecDepth 20000 in
theorem mL_L_82 : Cond.methodLink RL 82 yX3_takes ∈ WS := List.mem_filter.mpr ⟨List.mem_of_getElem? (i := 490) rfl, rfl⟩
set_option maxRecDepth 20000 in
theorem mL_X3_112 : Cond.methodLink RX3 112 yX2_ticksToCut ∈ WS := List.mem_filter.mpr ⟨List.mem_of_getElem? (i := 494) rfl, rfl⟩
set_option maxRecDepth 20000 in
theorem mL_L_86 : Cond.methodLink RL 86 yX3_coolsIn ∈ WS := List.mem_filter.mpr ⟨List.mem_of_getElem? (i := 498) rfl, rfl⟩
set_option maxRecDepth 20000 in
theorem mL_X3_115 : Cond.methodLink RX3 115 yX2_ticksToCool ∈ WS := List.mem_filter.mpr ⟨List.mem_of_getElem? (i := 502) rfl, rfl⟩
set_option maxRecDepth 20000 in
theorem mL_L_90 : Cond.methodLink RL 90 yX3_best ∈ WS := List.mem_filter.mpr ⟨List.mem_of_getElem? (i := 506) rfl, rfl⟩
set_option maxRecDepth 20000 in
theorem mL_X3_118 : Cond.methodLink RX3 118 yX2_bestShape ∈ WS := List.mem_filter.mpr ⟨List.mem_of_getElem? (i := 510) rfl, rfl⟩
set_option maxRecDepth 20000 in
theorem mL_X2_149 : Cond.methodLink RX2 149 yX2_ticksToCut ∈ WS := List.mem_filter.mpr ⟨List.mem_of_getElem? (i := 514) rfl, rfl⟩
set_option maxRecDepth 20000 in
theorem mL_L_94 : Cond.methodLink RL 94 yX3_ordered ∈ WS := List.mem_filter.mpr ⟨List.mem_of_getElem? (i := 515) rfl, rfl⟩
set_option maxRecDepth 20000 in
theorem mL_X3_121 : Cond.methodLink RX3 121 yX2_cutNext ∈ WS := List.mem_filter.mpr ⟨List.mem_of_getElem? (i := 519) rfl, rfl⟩
set_option maxRecDepth 20000 in
theorem mL_X2_155 : Cond.methodLink RX2 155 yX2_bestShape ∈ WS := List.mem_filter.mpr ⟨List.mem_of_getElem? (i := 523) rfl, rfl⟩
set_option maxRecDepth 20000 in
theorem mL_X2_158 : Cond.methodLink RX2 158 yX2_fewestTicksToCool ∈ WS := List.mem_filter.mpr ⟨List.mem_of_getElem? (i := 524) rfl, rfl⟩
set_option maxRecDepth 20000 in
theorem mL_X2_152 : Cond.methodLink RX2 152 yX2_ticksToCool ∈ WS := List.mem_filter.mpr ⟨List.mem_of_getElem? (i := 528) rfl, rfl⟩
set_option maxRecDepth 20000 in
theorem mL_X2_161 : Cond.methodLink RX2 161 yX2_cutShape ∈ WS := List.mem_filter.mpr ⟨List.mem_of_getElem? (i := 529) rfl, rfl⟩
set_option maxRecDepth 20000 in
theorem mL_L_98 : Cond.methodLink RL 98 yX3_allTakes ∈ WS := List.mem_filter.mpr ⟨List.mem_of_getElem? (i := 530) rfl, rfl⟩
set_option maxRecDepth 20000 in
theorem mL_X3_126 : Cond.methodLink RX3 126 yX2_shapesThatAre ∈ WS := List.mem_filter.mpr ⟨List.mem_of_getElem? (i := 534) rfl, rfl⟩
set_option maxRecDepth 20000 in
theorem mL_L_102 : Cond.methodLink RL 102 yX3_count ∈ WS := List.mem_filter.mpr ⟨List.mem_of_getElem? (i := 538) rfl, rfl⟩
set_option maxRecDepth 20000 in
theorem mL_X3_135 : Cond.methodLink RX3 135 yX2_factOfSheet ∈ WS := List.mem_filter.mpr ⟨List.mem_of_getElem? (i := 542) rfl, rfl⟩
set_option maxRecDepth 20000 in
theorem mL_X2_185 : Cond.methodLink RX2 185 yX2_shapesThatAre ∈ WS := List.mem_filter.mpr ⟨List.mem_of_getElem? (i := 546) rfl, rfl⟩
set_option maxRecDepth 20000 in
theorem mL_X2_188 : Cond.methodLink RX2 188 yX2_shapesThatTilted ∈ WS := List.mem_filter.mpr ⟨List.mem_of_getElem? (i := 547) rfl, rfl⟩
set_option maxRecDepth 20000 in
theorem mL_X2_191 : Cond.methodLink RX2 191 yX2_allHeat ∈ WS := List.mem_filter.mpr ⟨List.mem_of_getElem? (i := 551) rfl, rfl⟩
set_option maxRecDepth 20000 in
theorem mC_L_10 : Cond.classLink RL 10 RX4 ∈ WS := List.mem_filter.mpr ⟨List.mem_of_getElem? (i := 555) rfl, rfl⟩
set_option maxRecDepth 20000 in
theorem mN_X4 : Cond.instantiable RX4 21 ∈ WS := List.mem_filter.mpr ⟨List.mem_of_getElem? (i := 556) rfl, rfl⟩
set_option maxRecDepth 20000 in
theorem mL_L_12 : Cond.methodLink RL 12 yX4_init ∈ WS := List.mem_filter.mpr ⟨List.mem_of_getElem? (i := 557) rfl, rfl⟩
set_option maxRecDepth 20000 in
theorem mL_X4_1 : Cond.methodLink RX4 1 objectInit ∈ WS := List.mem_filter.mpr ⟨List.mem_of_getElem? (i := 560) rfl, rfl⟩
set_option maxRecDepth 20000 in
theorem mF_X4_7 : Cond.fieldLink RX4 7 "BeamCutsModel" "s" "[I" ∈ WS := List.mem_filter.mpr ⟨List.mem_of_getElem? (i := 561) rfl, rfl⟩
set_option maxRecDepth 20000 in
theorem mF_X4_13 : Cond.fieldLink RX4 13 "BeamCutsModel" "aside" "[I" ∈ WS := List.mem_filter.mpr ⟨List.mem_of_getElem? (i := 562) rfl, rfl⟩
set_option maxRecDepth 20000 in
theorem mF_X4_16 : Cond.fieldLink RX4 16 "BeamCutsModel" "ahead" "[I" ∈ WS := List.mem_filter.mpr ⟨List.mem_of_getElem? (i := 563) rfl, rfl⟩
set_option maxRecDepth 20000 in
theorem mF_X4_19 : Cond.fieldLink RX4 19 "BeamCutsModel" "snapshot" "[I" ∈ WS := List.mem_filter.mpr ⟨List.mem_of_getElem? (i := 564) rfl, rfl⟩
set_option maxRecDepth 20000 in
theorem mF_X4_187 : Cond.fieldLink RX4 187 "BeamCutsModel" "isKept" "Z" ∈ WS := List.mem_filter.mpr ⟨List.mem_of_getElem? (i := 565) rfl, rfl⟩
set_option maxRecDepth 20000 in
theorem mF_X4_22 : Cond.fieldLink RX4 22 "BeamCutsModel" "before" "[I" ∈ WS := List.mem_filter.mpr ⟨List.mem_of_getElem? (i := 566) rfl, rfl⟩
set_option maxRecDepth 20000 in
theorem mF_X4_49 : Cond.fieldLink RX4 49 "BeamCutsModel" "known" "I" ∈ WS := List.mem_filter.mpr ⟨List.mem_of_getElem? (i := 567) rfl, rfl⟩
set_option maxRecDepth 20000 in
theorem mF_X4_25 : Cond.fieldLink RX4 25 "BeamCutsModel" "text" "[I" ∈ WS := List.mem_filter.mpr ⟨List.mem_of_getElem? (i := 568) rfl, rfl⟩
set_option maxRecDepth 20000 in
theorem mF_X4_146 : Cond.fieldLink RX4 146 "BeamCutsModel" "length" "I" ∈ WS := List.mem_filter.mpr ⟨List.mem_of_getElem? (i := 569) rfl, rfl⟩
set_option maxRecDepth 20000 in
theorem mF_X4_28 : Cond.fieldLink RX4 28 "BeamCutsModel" "stopAt" "I" ∈ WS := List.mem_filter.mpr ⟨List.mem_of_getElem? (i := 570) rfl, rfl⟩
set_option maxRecDepth 20000 in
theorem mF_X4_32 : Cond.fieldLink RX4 32 "BeamCutsModel" "stopBy" "I" ∈ WS := List.mem_filter.mpr ⟨List.mem_of_getElem? (i := 571) rfl, rfl⟩
set_option maxRecDepth 20000 in
theorem mF_X4_153 : Cond.fieldLink RX4 153 "BeamCutsModel" "position" "I" ∈ WS := List.mem_filter.mpr ⟨List.mem_of_getElem? (i := 572) rfl, rfl⟩
set_option maxRecDepth 20000 in
theorem mF_X4_149 : Cond.fieldLink RX4 149 "BeamCutsModel" "isWrong" "Z" ∈ WS := List.mem_filter.mpr ⟨List.mem_of_getElem? (i := 573) rfl, rfl⟩
set_option maxRecDepth 20000 in
theorem mF_X4_162 : Cond.fieldLink RX4 162 "BeamCutsModel" "letter" "I" ∈ WS := List.mem_filter.mpr ⟨List.mem_of_getElem? (i := 574) rfl, rfl⟩
set_option maxRecDepth 20000 in
theorem mF_X4_168 : Cond.fieldLink RX4 168 "BeamCutsModel" "number" "I" ∈ WS := List.mem_filter.mpr ⟨List.mem_of_getElem? (i := 575) rfl, rfl⟩
set_option maxRecDepth 20000 in
theorem mF_X4_171 : Cond.fieldLink RX4 171 "BeamCutsModel" "corner" "I" ∈ WS := List.mem_filter.mpr ⟨List.mem_of_getElem? (i := 576) rfl, rfl⟩
set_option maxRecDepth 20000 in
theorem mF_X4_174 : Cond.fieldLink RX4 174 "BeamCutsModel" "stop" "I" ∈ WS := List.mem_filter.mpr ⟨List.mem_of_getElem? (i := 577) rfl, rfl⟩
set_option maxRecDepth 20000 in
theorem mF_X4_35 : Cond.fieldLink RX4 35 "BeamCutsModel" "order" "[I" ∈ WS := List.mem_filter.mpr ⟨List.mem_of_getElem? (i := 578) rfl, rfl⟩
set_option maxRecDepth 20000 in
theorem mF_X4_208 : Cond.fieldLink RX4 208 "BeamCutsModel" "orderedMany" "I" ∈ WS := List.mem_filter.mpr ⟨List.mem_of_getElem? (i := 579) rfl, rfl⟩
set_option maxRecDepth 20000 in
theorem mF_X4_214 : Cond.fieldLink RX4 214 "BeamCutsModel" "orderTicks" "I" ∈ WS := List.mem_filter.mpr ⟨List.mem_of_getElem? (i := 580) rfl, rfl⟩
set_option maxRecDepth 20000 in
theorem mF_X4_220 : Cond.fieldLink RX4 220 "BeamCutsModel" "isAll" "Z" ∈ WS := List.mem_filter.mpr ⟨List.mem_of_getElem? (i := 581) rfl, rfl⟩
set_option maxRecDepth 20000 in
theorem mL_L_17 : Cond.methodLink RL 17 yX4_tell ∈ WS := List.mem_filter.mpr ⟨List.mem_of_getElem? (i := 625) rfl, rfl⟩
set_option maxRecDepth 20000 in
theorem mL_X4_38 : Cond.methodLink RX4 38 yX4_in ∈ WS := List.mem_filter.mpr ⟨List.mem_of_getElem? (i := 629) rfl, rfl⟩
set_option maxRecDepth 20000 in
theorem mL_X4_117 : Cond.methodLink RX4 117 yX4_couldBe ∈ WS := List.mem_filter.mpr ⟨List.mem_of_getElem? (i := 632) rfl, rfl⟩
set_option maxRecDepth 20000 in
theorem mL_X4_52 : Cond.methodLink RX4 52 yX4_lastColumn ∈ WS := List.mem_filter.mpr ⟨List.mem_of_getElem? (i := 636) rfl, rfl⟩
set_option maxRecDepth 20000 in
theorem mL_X4_46 : Cond.methodLink RX4 46 yX4_of ∈ WS := List.mem_filter.mpr ⟨List.mem_of_getElem? (i := 640) rfl, rfl⟩
set_option maxRecDepth 20000 in
theorem mL_X4_42 : Cond.methodLink RX4 42 yX4_at ∈ WS := List.mem_filter.mpr ⟨List.mem_of_getElem? (i := 644) rfl, rfl⟩
set_option maxRecDepth 20000 in
theorem mL_X4_56 : Cond.methodLink RX4 56 yX4_lastRow ∈ WS := List.mem_filter.mpr ⟨List.mem_of_getElem? (i := 647) rfl, rfl⟩
set_option maxRecDepth 20000 in
theorem mL_X4_66 : Cond.methodLink RX4 66 yX4_isWhole ∈ WS := List.mem_filter.mpr ⟨List.mem_of_getElem? (i := 651) rfl, rfl⟩
set_option maxRecDepth 20000 in
theorem mL_X4_121 : Cond.methodLink RX4 121 yX4_looks ∈ WS := List.mem_filter.mpr ⟨List.mem_of_getElem? (i := 655) rfl, rfl⟩
set_option maxRecDepth 20000 in
theorem mL_X4_114 : Cond.methodLink RX4 114 yX4_records ∈ WS := List.mem_filter.mpr ⟨List.mem_of_getElem? (i := 659) rfl, rfl⟩
set_option maxRecDepth 20000 in
theorem mL_X4_124 : Cond.methodLink RX4 124 yX4_lays ∈ WS := List.mem_filter.mpr ⟨List.mem_of_getElem? (i := 663) rfl, rfl⟩
set_option maxRecDepth 20000 in
theorem mL_L_22 : Cond.methodLink RL 22 yX4_setLead ∈ WS := List.mem_filter.mpr ⟨List.mem_of_getElem? (i := 667) rfl, rfl⟩
set_option maxRecDepth 20000 in
theorem mL_X4_128 : Cond.methodLink RX4 128 yX4_leads ∈ WS := List.mem_filter.mpr ⟨List.mem_of_getElem? (i := 671) rfl, rfl⟩
set_option maxRecDepth 20000 in
theorem mL_X4_97 : Cond.methodLink RX4 97 yX4_isShape ∈ WS := List.mem_filter.mpr ⟨List.mem_of_getElem? (i := 675) rfl, rfl⟩
set_option maxRecDepth 20000 in
theorem mL_X4_131 : Cond.methodLink RX4 131 yX4_acted ∈ WS := List.mem_filter.mpr ⟨List.mem_of_getElem? (i := 679) rfl, rfl⟩
set_option maxRecDepth 20000 in
theorem mL_L_26 : Cond.methodLink RL 26 yX4_set ∈ WS := List.mem_filter.mpr ⟨List.mem_of_getElem? (i := 683) rfl, rfl⟩
set_option maxRecDepth 20000 in
theorem mL_X4_134 : Cond.methodLink RX4 134 yX4_most ∈ WS := List.mem_filter.mpr ⟨List.mem_of_getElem? (i := 687) rfl, rfl⟩
set_option maxRecDepth 20000 in
theorem mL_L_31 : Cond.methodLink RL 31 yX4_cut ∈ WS := List.mem_filter.mpr ⟨List.mem_of_getElem? (i := 690) rfl, rfl⟩
set_option maxRecDepth 20000 in
theorem mL_X4_137 : Cond.methodLink RX4 137 yX4_cuts ∈ WS := List.mem_filter.mpr ⟨List.mem_of_getElem? (i := 694) rfl, rfl⟩
set_option maxRecDepth 20000 in
theorem mL_X4_100 : Cond.methodLink RX4 100 yX4_why ∈ WS := List.mem_filter.mpr ⟨List.mem_of_getElem? (i := 698) rfl, rfl⟩
set_option maxRecDepth 20000 in
theorem mL_X4_88 : Cond.methodLink RX4 88 yX4_hasWholeInside ∈ WS := List.mem_filter.mpr ⟨List.mem_of_getElem? (i := 702) rfl, rfl⟩
set_option maxRecDepth 20000 in
theorem mL_X4_62 : Cond.methodLink RX4 62 yX4_isInside ∈ WS := List.mem_filter.mpr ⟨List.mem_of_getElem? (i := 706) rfl, rfl⟩
set_option maxRecDepth 20000 in
theorem mL_X4_91 : Cond.methodLink RX4 91 yX4_going ∈ WS := List.mem_filter.mpr ⟨List.mem_of_getElem? (i := 710) rfl, rfl⟩
set_option maxRecDepth 20000 in
theorem mL_X4_70 : Cond.methodLink RX4 70 yX4_leadColumn ∈ WS := List.mem_filter.mpr ⟨List.mem_of_getElem? (i := 714) rfl, rfl⟩
set_option maxRecDepth 20000 in
theorem mL_X4_73 : Cond.methodLink RX4 73 yX4_off ∈ WS := List.mem_filter.mpr ⟨List.mem_of_getElem? (i := 718) rfl, rfl⟩
set_option maxRecDepth 20000 in
theorem mL_X4_76 : Cond.methodLink RX4 76 yX4_leadRow ∈ WS := List.mem_filter.mpr ⟨List.mem_of_getElem? (i := 721) rfl, rfl⟩
set_option maxRecDepth 20000 in
theorem mL_X4_94 : Cond.methodLink RX4 94 yX4_isTooHot ∈ WS := List.mem_filter.mpr ⟨List.mem_of_getElem? (i := 725) rfl, rfl⟩
set_option maxRecDepth 20000 in
theorem mL_X4_85 : Cond.methodLink RX4 85 yX4_edgeIn ∈ WS := List.mem_filter.mpr ⟨List.mem_of_getElem? (i := 729) rfl, rfl⟩
set_option maxRecDepth 20000 in
theorem mL_X4_59 : Cond.methodLink RX4 59 yX4_isOnEdge ∈ WS := List.mem_filter.mpr ⟨List.mem_of_getElem? (i := 733) rfl, rfl⟩
set_option maxRecDepth 20000 in
theorem mL_X4_82 : Cond.methodLink RX4 82 yX4_cooled ∈ WS := List.mem_filter.mpr ⟨List.mem_of_getElem? (i := 737) rfl, rfl⟩
set_option maxRecDepth 20000 in
theorem mL_X4_103 : Cond.methodLink RX4 103 yX4_cools ∈ WS := List.mem_filter.mpr ⟨List.mem_of_getElem? (i := 740) rfl, rfl⟩
set_option maxRecDepth 20000 in
theorem mL_X4_107 : Cond.methodLink RX4 107 yX4_burning ∈ WS := List.mem_filter.mpr ⟨List.mem_of_getElem? (i := 744) rfl, rfl⟩
set_option maxRecDepth 20000 in
theorem mL_X4_79 : Cond.methodLink RX4 79 yX4_edge ∈ WS := List.mem_filter.mpr ⟨List.mem_of_getElem? (i := 748) rfl, rfl⟩
set_option maxRecDepth 20000 in
theorem mL_X4_110 : Cond.methodLink RX4 110 yX4_hottest ∈ WS := List.mem_filter.mpr ⟨List.mem_of_getElem? (i := 752) rfl, rfl⟩
set_option maxRecDepth 20000 in
theorem mL_L_35 : Cond.methodLink RL 35 yX4_pause ∈ WS := List.mem_filter.mpr ⟨List.mem_of_getElem? (i := 756) rfl, rfl⟩
set_option maxRecDepth 20000 in
theorem mL_X4_140 : Cond.methodLink RX4 140 yX4_waits ∈ WS := List.mem_filter.mpr ⟨List.mem_of_getElem? (i := 760) rfl, rfl⟩
set_option maxRecDepth 20000 in
theorem mL_L_40 : Cond.methodLink RL 40 yX4_clean ∈ WS := List.mem_filter.mpr ⟨List.mem_of_getElem? (i := 764) rfl, rfl⟩
set_option maxRecDepth 20000 in
theorem mL_X4_143 : Cond.methodLink RX4 143 yX4_cleans ∈ WS := List.mem_filter.mpr ⟨List.mem_of_getElem? (i := 768) rfl, rfl⟩
set_option maxRecDepth 20000 in
theorem mL_L_45 : Cond.methodLink RL 45 yX4_type ∈ WS := List.mem_filter.mpr ⟨List.mem_of_getElem? (i := 772) rfl, rfl⟩
set_option maxRecDepth 20000 in
theorem mL_L_49 : Cond.methodLink RL 49 yX4_clearText ∈ WS := List.mem_filter.mpr ⟨List.mem_of_getElem? (i := 776) rfl, rfl⟩
set_option maxRecDepth 20000 in
theorem mL_L_53 : Cond.methodLink RL 53 yX4_perform ∈ WS := List.mem_filter.mpr ⟨List.mem_of_getElem? (i := 780) rfl, rfl⟩
set_option maxRecDepth 20000 in
theorem mL_X4_183 : Cond.methodLink RX4 183 yX4_runs ∈ WS := List.mem_filter.mpr ⟨List.mem_of_getElem? (i := 784) rfl, rfl⟩
set_option maxRecDepth 20000 in
theorem mL_X4_177 : Cond.methodLink RX4 177 yX4_readThing ∈ WS := List.mem_filter.mpr ⟨List.mem_of_getElem? (i := 788) rfl, rfl⟩
set_option maxRecDepth 20000 in
theorem mL_X4_165 : Cond.methodLink RX4 165 yX4_takesNumber ∈ WS := List.mem_filter.mpr ⟨List.mem_of_getElem? (i := 792) rfl, rfl⟩
set_option maxRecDepth 20000 in
theorem mL_X4_156 : Cond.methodLink RX4 156 yX4_takesOne ∈ WS := List.mem_filter.mpr ⟨List.mem_of_getElem? (i := 796) rfl, rfl⟩
set_option maxRecDepth 20000 in
theorem mL_X4_159 : Cond.methodLink RX4 159 yX4_isNext ∈ WS := List.mem_filter.mpr ⟨List.mem_of_getElem? (i := 800) rfl, rfl⟩
set_option maxRecDepth 20000 in
theorem mL_X4_180 : Cond.methodLink RX4 180 yX4_does ∈ WS := List.mem_filter.mpr ⟨List.mem_of_getElem? (i := 804) rfl, rfl⟩
set_option maxRecDepth 20000 in
theorem mL_L_57 : Cond.methodLink RL 57 yX4_stopped ∈ WS := List.mem_filter.mpr ⟨List.mem_of_getElem? (i := 808) rfl, rfl⟩
set_option maxRecDepth 20000 in
theorem mL_L_61 : Cond.methodLink RL 61 yX4_undo ∈ WS := List.mem_filter.mpr ⟨List.mem_of_getElem? (i := 812) rfl, rfl⟩
set_option maxRecDepth 20000 in
theorem mL_L_65 : Cond.methodLink RL 65 yX4_keep ∈ WS := List.mem_filter.mpr ⟨List.mem_of_getElem? (i := 816) rfl, rfl⟩
set_option maxRecDepth 20000 in
theorem mL_L_69 : Cond.methodLink RL 69 yX4_restore ∈ WS := List.mem_filter.mpr ⟨List.mem_of_getElem? (i := 820) rfl, rfl⟩
set_option maxRecDepth 20000 in
theorem mL_L_73 : Cond.methodLink RL 73 yX4_shape ∈ WS := List.mem_filter.mpr ⟨List.mem_of_getElem? (i := 824) rfl, rfl⟩
set_option maxRecDepth 20000 in
theorem mL_X4_190 : Cond.methodLink RX4 190 yX4_outer ∈ WS := List.mem_filter.mpr ⟨List.mem_of_getElem? (i := 828) rfl, rfl⟩
set_option maxRecDepth 20000 in
theorem mL_X4_193 : Cond.methodLink RX4 193 yX4_inner ∈ WS := List.mem_filter.mpr ⟨List.mem_of_getElem? (i := 832) rfl, rfl⟩
set_option maxRecDepth 20000 in
theorem mL_L_77 : Cond.methodLink RL 77 yX4_heat ∈ WS := List.mem_filter.mpr ⟨List.mem_of_getElem? (i := 836) rfl, rfl⟩
set_option maxRecDepth 20000 in
theorem mL_L_81 : Cond.methodLink RL 81 yX4_reason ∈ WS := List.mem_filter.mpr ⟨List.mem_of_getElem? (i := 840) rfl, rfl⟩
set_option maxRecDepth 20000 in
theorem mL_L_85 : Cond.methodLink RL 85 yX4_takes ∈ WS := List.mem_filter.mpr ⟨List.mem_of_getElem? (i := 844) rfl, rfl⟩
set_option maxRecDepth 20000 in
theorem mL_X4_196 : Cond.methodLink RX4 196 yX4_ticksOf ∈ WS := List.mem_filter.mpr ⟨List.mem_of_getElem? (i := 848) rfl, rfl⟩
set_option maxRecDepth 20000 in
theorem mL_L_89 : Cond.methodLink RL 89 yX4_coolsIn ∈ WS := List.mem_filter.mpr ⟨List.mem_of_getElem? (i := 852) rfl, rfl⟩
set_option maxRecDepth 20000 in
theorem mL_X4_199 : Cond.methodLink RX4 199 yX4_waitFor ∈ WS := List.mem_filter.mpr ⟨List.mem_of_getElem? (i := 856) rfl, rfl⟩
set_option maxRecDepth 20000 in
theorem mL_L_93 : Cond.methodLink RL 93 yX4_best ∈ WS := List.mem_filter.mpr ⟨List.mem_of_getElem? (i := 860) rfl, rfl⟩
set_option maxRecDepth 20000 in
theorem mL_X4_202 : Cond.methodLink RX4 202 yX4_bestOne ∈ WS := List.mem_filter.mpr ⟨List.mem_of_getElem? (i := 864) rfl, rfl⟩
set_option maxRecDepth 20000 in
theorem mL_L_97 : Cond.methodLink RL 97 yX4_ordered ∈ WS := List.mem_filter.mpr ⟨List.mem_of_getElem? (i := 868) rfl, rfl⟩
set_option maxRecDepth 20000 in
theorem mL_X4_226 : Cond.methodLink RX4 226 yX4_layOrder ∈ WS := List.mem_filter.mpr ⟨List.mem_of_getElem? (i := 872) rfl, rfl⟩
set_option maxRecDepth 20000 in
theorem mL_X4_205 : Cond.methodLink RX4 205 yX4_putAside ∈ WS := List.mem_filter.mpr ⟨List.mem_of_getElem? (i := 876) rfl, rfl⟩
set_option maxRecDepth 20000 in
theorem mL_X4_211 : Cond.methodLink RX4 211 yX4_soonest ∈ WS := List.mem_filter.mpr ⟨List.mem_of_getElem? (i := 880) rfl, rfl⟩
set_option maxRecDepth 20000 in
theorem mL_X4_217 : Cond.methodLink RX4 217 yX4_many ∈ WS := List.mem_filter.mpr ⟨List.mem_of_getElem? (i := 884) rfl, rfl⟩
set_option maxRecDepth 20000 in
theorem mL_X4_223 : Cond.methodLink RX4 223 yX4_putBack ∈ WS := List.mem_filter.mpr ⟨List.mem_of_getElem? (i := 888) rfl, rfl⟩
set_option maxRecDepth 20000 in
theorem mL_L_101 : Cond.methodLink RL 101 yX4_allTakes ∈ WS := List.mem_filter.mpr ⟨List.mem_of_getElem? (i := 892) rfl, rfl⟩
set_option maxRecDepth 20000 in
theorem mL_L_105 : Cond.methodLink RL 105 yX4_count ∈ WS := List.mem_filter.mpr ⟨List.mem_of_getElem? (i := 896) rfl, rfl⟩
set_option maxRecDepth 20000 in
theorem mL_X4_229 : Cond.methodLink RX4 229 yX4_tilted ∈ WS := List.mem_filter.mpr ⟨List.mem_of_getElem? (i := 900) rfl, rfl⟩
set_option maxRecDepth 20000 in
theorem mL_X4_232 : Cond.methodLink RX4 232 yX4_hottestSquare ∈ WS := List.mem_filter.mpr ⟨List.mem_of_getElem? (i := 904) rfl, rfl⟩
set_option maxRecDepth 20000 in
theorem mL_X4_235 : Cond.methodLink RX4 235 yX4_allHeat ∈ WS := List.mem_filter.mpr ⟨List.mem_of_getElem? (i := 908) rfl, rfl⟩
set_option maxRecDepth 20000 in
theorem mK_X3_init : Cond.code yX3_init cX3_init 2 none ∈ WS := List.mem_filter.mpr ⟨List.mem_of_getElem? (i := 79) rfl, rfl⟩
set_option maxRecDepth 20000 in
theorem mM_X3_init : Cond.instanceMethod yX3_init ∈ WS := List.mem_filter.mpr ⟨List.mem_of_getElem? (i := 78) rfl, rfl⟩
set_option maxRecDepth 20000 in
theorem mK_objInit : Cond.code objectInit ⟨#[0xb1]⟩ 1 none ∈ WS := List.mem_filter.mpr ⟨List.mem_of_getElem? (i := 82) rfl, rfl⟩
set_option maxRecDepth 20000 in
theorem mM_objInit : Cond.instanceMethod objectInit ∈ WS := List.mem_filter.mpr ⟨List.mem_of_getElem? (i := 81) rfl, rfl⟩
set_option maxRecDepth 20000 in
theorem mK_X2_init : Cond.code yX2_init cX2_init 2 none ∈ WS := List.mem_filter.mpr ⟨List.mem_of_getElem? (i := 87) rfl, rfl⟩
set_option maxRecDepth 20000 in
theorem mM_X2_init : Cond.instanceMethod yX2_init ∈ WS := List.mem_filter.mpr ⟨List.mem_of_getElem? (i := 86) rfl, rfl⟩
set_option maxRecDepth 20000 in
theorem mK_X1_init : Cond.code yX1_init cX1_init 1 none ∈ WS := List.mem_filter.mpr ⟨List.mem_of_getElem? (i := 94) rfl, rfl⟩
set_option maxRecDepth 20000 in
theorem mM_X1_init : Cond.instanceMethod yX1_init ∈ WS := List.mem_filter.mpr ⟨List.mem_of_getElem? (i := 93) rfl, rfl⟩
set_option maxRecDepth 20000 in
theorem mK_X0_init : Cond.code yX0_init cX0_init 1 none ∈ WS := List.mem_filter.mpr ⟨List.mem_of_getElem? (i := 172) rfl, rfl⟩
set_option maxRecDepth 20000 in
theorem mM_X0_init : Cond.instanceMethod yX0_init ∈ WS := List.mem_filter.mpr ⟨List.mem_of_getElem? (i := 171) rfl, rfl⟩
set_option maxRecDepth 20000 in
theorem mK_X3_tell : Cond.code yX3_tell cX3_tell 5 (some .int) ∈ WS := List.mem_filter.mpr ⟨List.mem_of_getElem? (i := 233) rfl, rfl⟩
set_option maxRecDepth 20000 in
theorem mM_X3_tell : Cond.instanceMethod yX3_tell ∈ WS := List.mem_filter.mpr ⟨List.mem_of_getElem? (i := 231) rfl, rfl⟩
set_option maxRecDepth 20000 in
theorem mS_X3_tell : Cond.selects RX3 yX3_tell yX3_tell ∈ WS := List.mem_filter.mpr ⟨List.mem_of_getElem? (i := 232) rfl, rfl⟩
set_option maxRecDepth 20000 in
theorem mK_X2_copyFrom : Cond.code yX2_copyFrom cX2_copyFrom 3 none ∈ WS := List.mem_filter.mpr ⟨List.mem_of_getElem? (i := 237) rfl, rfl⟩
set_option maxRecDepth 20000 in
theorem mM_X2_copyFrom : Cond.instanceMethod yX2_copyFrom ∈ WS := List.mem_filter.mpr ⟨List.mem_of_getElem? (i := 235) rfl, rfl⟩
set_option maxRecDepth 20000 in
theorem mS_X2_copyFrom : Cond.selects RX2 yX2_copyFrom yX2_copyFrom ∈ WS := List.mem_filter.mpr ⟨List.mem_of_getElem? (i := 236) rfl, rfl⟩
set_option maxRecDepth 20000 in
theorem mK_X1_copyFrom : Cond.code yX1_copyFrom cX1_copyFrom 3 none ∈ WS := List.mem_filter.mpr ⟨List.mem_of_getElem? (i := 241) rfl, rfl⟩
set_option maxRecDepth 20000 in
theorem mM_X1_copyFrom : Cond.instanceMethod yX1_copyFrom ∈ WS := List.mem_filter.mpr ⟨List.mem_of_getElem? (i := 239) rfl, rfl⟩
set_option maxRecDepth 20000 in
theorem mS_X1_copyFrom : Cond.selects RX1 yX1_copyFrom yX1_copyFrom ∈ WS := List.mem_filter.mpr ⟨List.mem_of_getElem? (i := 240) rfl, rfl⟩
set_option maxRecDepth 20000 in
theorem mK_X2_addShape : Cond.code yX2_addShape cX2_addShape 6 (some .int) ∈ WS := List.mem_filter.mpr ⟨List.mem_of_getElem? (i := 245) rfl, rfl⟩
set_option maxRecDepth 20000 in
theorem mM_X2_addShape : Cond.instanceMethod yX2_addShape ∈ WS := List.mem_filter.mpr ⟨List.mem_of_getElem? (i := 243) rfl, rfl⟩
set_option maxRecDepth 20000 in
theorem mS_X2_addShape : Cond.selects RX2 yX2_addShape yX2_addShape ∈ WS := List.mem_filter.mpr ⟨List.mem_of_getElem? (i := 244) rfl, rfl⟩
set_option maxRecDepth 20000 in
theorem mK_X3_isIn : Cond.code yX3_isIn cX3_isIn 3 (some .boolean) ∈ WS := List.mem_filter.mpr ⟨List.mem_of_getElem? (i := 248) rfl, rfl⟩
set_option maxRecDepth 20000 in
theorem mT_X3_isIn : Cond.static yX3_isIn ∈ WS := List.mem_filter.mpr ⟨List.mem_of_getElem? (i := 247) rfl, rfl⟩
set_option maxRecDepth 20000 in
theorem mK_X1_place : Cond.code yX1_place cX1_place 6 none ∈ WS := List.mem_filter.mpr ⟨List.mem_of_getElem? (i := 252) rfl, rfl⟩
set_option maxRecDepth 20000 in
theorem mM_X1_place : Cond.instanceMethod yX1_place ∈ WS := List.mem_filter.mpr ⟨List.mem_of_getElem? (i := 250) rfl, rfl⟩
set_option maxRecDepth 20000 in
theorem mS_X1_place : Cond.selects RX1 yX1_place yX1_place ∈ WS := List.mem_filter.mpr ⟨List.mem_of_getElem? (i := 251) rfl, rfl⟩
set_option maxRecDepth 20000 in
theorem mK_X1_fieldsIn : Cond.code yX1_fieldsIn cX1_fieldsIn 7 (some .int) ∈ WS := List.mem_filter.mpr ⟨List.mem_of_getElem? (i := 256) rfl, rfl⟩
set_option maxRecDepth 20000 in
theorem mM_X1_fieldsIn : Cond.instanceMethod yX1_fieldsIn ∈ WS := List.mem_filter.mpr ⟨List.mem_of_getElem? (i := 255) rfl, rfl⟩
set_option maxRecDepth 20000 in
theorem mS_X1_fieldsIn : Cond.selects RX1 yX1_fieldsIn yX1_fieldsIn ∈ WS := List.mem_filter.mpr ⟨List.mem_of_getElem? (i := 0) rfl, rfl⟩
set_option maxRecDepth 20000 in
theorem mK_min : Cond.code Lib.Math.min.name Lib.Math.min.code 2 (some .int) ∈ WS := List.mem_filter.mpr ⟨List.mem_of_getElem? (i := 259) rfl, rfl⟩
set_option maxRecDepth 20000 in
theorem mT_min : Cond.static Lib.Math.min.name ∈ WS := List.mem_filter.mpr ⟨List.mem_of_getElem? (i := 258) rfl, rfl⟩
set_option maxRecDepth 20000 in
theorem mK_max : Cond.code Lib.Math.max.name Lib.Math.max.code 2 (some .int) ∈ WS := List.mem_filter.mpr ⟨List.mem_of_getElem? (i := 262) rfl, rfl⟩
set_option maxRecDepth 20000 in
theorem mT_max : Cond.static Lib.Math.max.name ∈ WS := List.mem_filter.mpr ⟨List.mem_of_getElem? (i := 261) rfl, rfl⟩
set_option maxRecDepth 20000 in
theorem mK_X2_fits : Cond.code yX2_fits cX2_fits 5 (some .boolean) ∈ WS := List.mem_filter.mpr ⟨List.mem_of_getElem? (i := 266) rfl, rfl⟩
set_option maxRecDepth 20000 in
theorem mM_X2_fits : Cond.instanceMethod yX2_fits ∈ WS := List.mem_filter.mpr ⟨List.mem_of_getElem? (i := 265) rfl, rfl⟩
set_option maxRecDepth 20000 in
theorem mS_X2_fits : Cond.selects RX2 yX2_fits yX2_fits ∈ WS := List.mem_filter.mpr ⟨List.mem_of_getElem? (i := 1) rfl, rfl⟩
set_option maxRecDepth 20000 in
theorem mK_X1_isInside : Cond.code yX1_isInside cX1_isInside 2 (some .boolean) ∈ WS := List.mem_filter.mpr ⟨List.mem_of_getElem? (i := 270) rfl, rfl⟩
set_option maxRecDepth 20000 in
theorem mM_X1_isInside : Cond.instanceMethod yX1_isInside ∈ WS := List.mem_filter.mpr ⟨List.mem_of_getElem? (i := 268) rfl, rfl⟩
set_option maxRecDepth 20000 in
theorem mS_X1_isInside : Cond.selects RX1 yX1_isInside yX1_isInside ∈ WS := List.mem_filter.mpr ⟨List.mem_of_getElem? (i := 269) rfl, rfl⟩
set_option maxRecDepth 20000 in
theorem mK_X1_isApartFrom : Cond.code yX1_isApartFrom cX1_isApartFrom 2 (some .boolean) ∈ WS := List.mem_filter.mpr ⟨List.mem_of_getElem? (i := 274) rfl, rfl⟩
set_option maxRecDepth 20000 in
theorem mM_X1_isApartFrom : Cond.instanceMethod yX1_isApartFrom ∈ WS := List.mem_filter.mpr ⟨List.mem_of_getElem? (i := 272) rfl, rfl⟩
set_option maxRecDepth 20000 in
theorem mS_X1_isApartFrom : Cond.selects RX1 yX1_isApartFrom yX1_isApartFrom ∈ WS := List.mem_filter.mpr ⟨List.mem_of_getElem? (i := 273) rfl, rfl⟩
set_option maxRecDepth 20000 in
theorem mK_X3_recorded : Cond.code yX3_recorded cX3_recorded 2 (some .int) ∈ WS := List.mem_filter.mpr ⟨List.mem_of_getElem? (i := 278) rfl, rfl⟩
set_option maxRecDepth 20000 in
theorem mM_X3_recorded : Cond.instanceMethod yX3_recorded ∈ WS := List.mem_filter.mpr ⟨List.mem_of_getElem? (i := 277) rfl, rfl⟩
set_option maxRecDepth 20000 in
theorem mS_X3_recorded : Cond.selects RX3 yX3_recorded yX3_recorded ∈ WS := List.mem_filter.mpr ⟨List.mem_of_getElem? (i := 2) rfl, rfl⟩
set_option maxRecDepth 20000 in
theorem mK_X3_dropOldestState : Cond.code yX3_dropOldestState cX3_dropOldestState 3 none ∈ WS := List.mem_filter.mpr ⟨List.mem_of_getElem? (i := 282) rfl, rfl⟩
set_option maxRecDepth 20000 in
theorem mM_X3_dropOldestState : Cond.instanceMethod yX3_dropOldestState ∈ WS := List.mem_filter.mpr ⟨List.mem_of_getElem? (i := 281) rfl, rfl⟩
set_option maxRecDepth 20000 in
theorem mS_X3_dropOldestState : Cond.selects RX3 yX3_dropOldestState yX3_dropOldestState ∈ WS := List.mem_filter.mpr ⟨List.mem_of_getElem? (i := 3) rfl, rfl⟩
set_option maxRecDepth 20000 in
theorem mK_X3_setLead : Cond.code yX3_setLead cX3_setLead 3 (some .int) ∈ WS := List.mem_filter.mpr ⟨List.mem_of_getElem? (i := 286) rfl, rfl⟩
set_option maxRecDepth 20000 in
theorem mM_X3_setLead : Cond.instanceMethod yX3_setLead ∈ WS := List.mem_filter.mpr ⟨List.mem_of_getElem? (i := 284) rfl, rfl⟩
set_option maxRecDepth 20000 in
theorem mS_X3_setLead : Cond.selects RX3 yX3_setLead yX3_setLead ∈ WS := List.mem_filter.mpr ⟨List.mem_of_getElem? (i := 285) rfl, rfl⟩
set_option maxRecDepth 20000 in
theorem mK_X2_changeLead : Cond.code yX2_changeLead cX2_changeLead 5 (some .int) ∈ WS := List.mem_filter.mpr ⟨List.mem_of_getElem? (i := 290) rfl, rfl⟩
set_option maxRecDepth 20000 in
theorem mM_X2_changeLead : Cond.instanceMethod yX2_changeLead ∈ WS := List.mem_filter.mpr ⟨List.mem_of_getElem? (i := 288) rfl, rfl⟩
set_option maxRecDepth 20000 in
theorem mS_X2_changeLead : Cond.selects RX2 yX2_changeLead yX2_changeLead ∈ WS := List.mem_filter.mpr ⟨List.mem_of_getElem? (i := 289) rfl, rfl⟩
set_option maxRecDepth 20000 in
theorem mK_X2_knows : Cond.code yX2_knows cX2_knows 2 (some .boolean) ∈ WS := List.mem_filter.mpr ⟨List.mem_of_getElem? (i := 294) rfl, rfl⟩
set_option maxRecDepth 20000 in
theorem mM_X2_knows : Cond.instanceMethod yX2_knows ∈ WS := List.mem_filter.mpr ⟨List.mem_of_getElem? (i := 292) rfl, rfl⟩
set_option maxRecDepth 20000 in
theorem mS_X2_knows : Cond.selects RX2 yX2_knows yX2_knows ∈ WS := List.mem_filter.mpr ⟨List.mem_of_getElem? (i := 293) rfl, rfl⟩
set_option maxRecDepth 20000 in
theorem mK_X3_set : Cond.code yX3_set cX3_set 3 (some .int) ∈ WS := List.mem_filter.mpr ⟨List.mem_of_getElem? (i := 298) rfl, rfl⟩
set_option maxRecDepth 20000 in
theorem mM_X3_set : Cond.instanceMethod yX3_set ∈ WS := List.mem_filter.mpr ⟨List.mem_of_getElem? (i := 296) rfl, rfl⟩
set_option maxRecDepth 20000 in
theorem mS_X3_set : Cond.selects RX3 yX3_set yX3_set ∈ WS := List.mem_filter.mpr ⟨List.mem_of_getElem? (i := 297) rfl, rfl⟩
set_option maxRecDepth 20000 in
theorem mK_X2_changeSetting : Cond.code yX2_changeSetting cX2_changeSetting 4 (some .int) ∈ WS := List.mem_filter.mpr ⟨List.mem_of_getElem? (i := 302) rfl, rfl⟩
set_option maxRecDepth 20000 in
theorem mM_X2_changeSetting : Cond.instanceMethod yX2_changeSetting ∈ WS := List.mem_filter.mpr ⟨List.mem_of_getElem? (i := 300) rfl, rfl⟩
set_option maxRecDepth 20000 in
theorem mS_X2_changeSetting : Cond.selects RX2 yX2_changeSetting yX2_changeSetting ∈ WS := List.mem_filter.mpr ⟨List.mem_of_getElem? (i := 301) rfl, rfl⟩
set_option maxRecDepth 20000 in
theorem mK_X3_cut : Cond.code yX3_cut cX3_cut 2 (some .int) ∈ WS := List.mem_filter.mpr ⟨List.mem_of_getElem? (i := 310) rfl, rfl⟩
set_option maxRecDepth 20000 in
theorem mM_X3_cut : Cond.instanceMethod yX3_cut ∈ WS := List.mem_filter.mpr ⟨List.mem_of_getElem? (i := 308) rfl, rfl⟩
set_option maxRecDepth 20000 in
theorem mS_X3_cut : Cond.selects RX3 yX3_cut yX3_cut ∈ WS := List.mem_filter.mpr ⟨List.mem_of_getElem? (i := 309) rfl, rfl⟩
set_option maxRecDepth 20000 in
theorem mK_X2_cutShape : Cond.code yX2_cutShape cX2_cutShape 4 (some .int) ∈ WS := List.mem_filter.mpr ⟨List.mem_of_getElem? (i := 314) rfl, rfl⟩
set_option maxRecDepth 20000 in
theorem mM_X2_cutShape : Cond.instanceMethod yX2_cutShape ∈ WS := List.mem_filter.mpr ⟨List.mem_of_getElem? (i := 312) rfl, rfl⟩
set_option maxRecDepth 20000 in
theorem mS_X2_cutShape : Cond.selects RX2 yX2_cutShape yX2_cutShape ∈ WS := List.mem_filter.mpr ⟨List.mem_of_getElem? (i := 313) rfl, rfl⟩
set_option maxRecDepth 20000 in
theorem mK_X2_reasonAgainst : Cond.code yX2_reasonAgainst cX2_reasonAgainst 3 (some .int) ∈ WS := List.mem_filter.mpr ⟨List.mem_of_getElem? (i := 318) rfl, rfl⟩
set_option maxRecDepth 20000 in
theorem mM_X2_reasonAgainst : Cond.instanceMethod yX2_reasonAgainst ∈ WS := List.mem_filter.mpr ⟨List.mem_of_getElem? (i := 316) rfl, rfl⟩
set_option maxRecDepth 20000 in
theorem mS_X2_reasonAgainst : Cond.selects RX2 yX2_reasonAgainst yX2_reasonAgainst ∈ WS := List.mem_filter.mpr ⟨List.mem_of_getElem? (i := 317) rfl, rfl⟩
set_option maxRecDepth 20000 in
theorem mK_X2_holdsWholeShape : Cond.code yX2_holdsWholeShape cX2_holdsWholeShape 3 (some .boolean) ∈ WS := List.mem_filter.mpr ⟨List.mem_of_getElem? (i := 322) rfl, rfl⟩
set_option maxRecDepth 20000 in
theorem mM_X2_holdsWholeShape : Cond.instanceMethod yX2_holdsWholeShape ∈ WS := List.mem_filter.mpr ⟨List.mem_of_getElem? (i := 321) rfl, rfl⟩
set_option maxRecDepth 20000 in
theorem mS_X2_holdsWholeShape : Cond.selects RX2 yX2_holdsWholeShape yX2_holdsWholeShape ∈ WS := List.mem_filter.mpr ⟨List.mem_of_getElem? (i := 4) rfl, rfl⟩
set_option maxRecDepth 20000 in
theorem mK_X2_heatOver : Cond.code yX2_heatOver cX2_heatOver 4 (some .int) ∈ WS := List.mem_filter.mpr ⟨List.mem_of_getElem? (i := 326) rfl, rfl⟩
set_option maxRecDepth 20000 in
theorem mM_X2_heatOver : Cond.instanceMethod yX2_heatOver ∈ WS := List.mem_filter.mpr ⟨List.mem_of_getElem? (i := 325) rfl, rfl⟩
set_option maxRecDepth 20000 in
theorem mS_X2_heatOver : Cond.selects RX2 yX2_heatOver yX2_heatOver ∈ WS := List.mem_filter.mpr ⟨List.mem_of_getElem? (i := 5) rfl, rfl⟩
set_option maxRecDepth 20000 in
theorem mK_X2_wayTo : Cond.code yX2_wayTo cX2_wayTo 2 (some .int) ∈ WS := List.mem_filter.mpr ⟨List.mem_of_getElem? (i := 331) rfl, rfl⟩
set_option maxRecDepth 20000 in
theorem mM_X2_wayTo : Cond.instanceMethod yX2_wayTo ∈ WS := List.mem_filter.mpr ⟨List.mem_of_getElem? (i := 330) rfl, rfl⟩
set_option maxRecDepth 20000 in
theorem mS_X2_wayTo : Cond.selects RX2 yX2_wayTo yX2_wayTo ∈ WS := List.mem_filter.mpr ⟨List.mem_of_getElem? (i := 6) rfl, rfl⟩
set_option maxRecDepth 20000 in
theorem mK_X1_leadColumn : Cond.code yX1_leadColumn cX1_leadColumn 1 (some .int) ∈ WS := List.mem_filter.mpr ⟨List.mem_of_getElem? (i := 335) rfl, rfl⟩
set_option maxRecDepth 20000 in
theorem mM_X1_leadColumn : Cond.instanceMethod yX1_leadColumn ∈ WS := List.mem_filter.mpr ⟨List.mem_of_getElem? (i := 333) rfl, rfl⟩
set_option maxRecDepth 20000 in
theorem mS_X1_leadColumn : Cond.selects RX1 yX1_leadColumn yX1_leadColumn ∈ WS := List.mem_filter.mpr ⟨List.mem_of_getElem? (i := 334) rfl, rfl⟩
set_option maxRecDepth 20000 in
theorem mK_abs : Cond.code Lib.Math.abs.name Lib.Math.abs.code 1 (some .int) ∈ WS := List.mem_filter.mpr ⟨List.mem_of_getElem? (i := 338) rfl, rfl⟩
set_option maxRecDepth 20000 in
theorem mT_abs : Cond.static Lib.Math.abs.name ∈ WS := List.mem_filter.mpr ⟨List.mem_of_getElem? (i := 337) rfl, rfl⟩
set_option maxRecDepth 20000 in
theorem mK_X1_leadRow : Cond.code yX1_leadRow cX1_leadRow 1 (some .int) ∈ WS := List.mem_filter.mpr ⟨List.mem_of_getElem? (i := 342) rfl, rfl⟩
set_option maxRecDepth 20000 in
theorem mM_X1_leadRow : Cond.instanceMethod yX1_leadRow ∈ WS := List.mem_filter.mpr ⟨List.mem_of_getElem? (i := 340) rfl, rfl⟩
set_option maxRecDepth 20000 in
theorem mS_X1_leadRow : Cond.selects RX1 yX1_leadRow yX1_leadRow ∈ WS := List.mem_filter.mpr ⟨List.mem_of_getElem? (i := 341) rfl, rfl⟩
set_option maxRecDepth 20000 in
theorem mK_X2_coolFor : Cond.code yX2_coolFor cX2_coolFor 3 none ∈ WS := List.mem_filter.mpr ⟨List.mem_of_getElem? (i := 346) rfl, rfl⟩
set_option maxRecDepth 20000 in
theorem mM_X2_coolFor : Cond.instanceMethod yX2_coolFor ∈ WS := List.mem_filter.mpr ⟨List.mem_of_getElem? (i := 345) rfl, rfl⟩
set_option maxRecDepth 20000 in
theorem mS_X2_coolFor : Cond.selects RX2 yX2_coolFor yX2_coolFor ∈ WS := List.mem_filter.mpr ⟨List.mem_of_getElem? (i := 7) rfl, rfl⟩
set_option maxRecDepth 20000 in
theorem mK_X2_burnEdge : Cond.code yX2_burnEdge cX2_burnEdge 4 none ∈ WS := List.mem_filter.mpr ⟨List.mem_of_getElem? (i := 350) rfl, rfl⟩
set_option maxRecDepth 20000 in
theorem mM_X2_burnEdge : Cond.instanceMethod yX2_burnEdge ∈ WS := List.mem_filter.mpr ⟨List.mem_of_getElem? (i := 349) rfl, rfl⟩
set_option maxRecDepth 20000 in
theorem mS_X2_burnEdge : Cond.selects RX2 yX2_burnEdge yX2_burnEdge ∈ WS := List.mem_filter.mpr ⟨List.mem_of_getElem? (i := 8) rfl, rfl⟩
set_option maxRecDepth 20000 in
theorem mK_X2_burningOf : Cond.code yX2_burningOf cX2_burningOf 2 (some .int) ∈ WS := List.mem_filter.mpr ⟨List.mem_of_getElem? (i := 354) rfl, rfl⟩
set_option maxRecDepth 20000 in
theorem mM_X2_burningOf : Cond.instanceMethod yX2_burningOf ∈ WS := List.mem_filter.mpr ⟨List.mem_of_getElem? (i := 353) rfl, rfl⟩
set_option maxRecDepth 20000 in
theorem mS_X2_burningOf : Cond.selects RX2 yX2_burningOf yX2_burningOf ∈ WS := List.mem_filter.mpr ⟨List.mem_of_getElem? (i := 9) rfl, rfl⟩
set_option maxRecDepth 20000 in
theorem mK_X1_edge : Cond.code yX1_edge cX1_edge 1 (some .int) ∈ WS := List.mem_filter.mpr ⟨List.mem_of_getElem? (i := 358) rfl, rfl⟩
set_option maxRecDepth 20000 in
theorem mM_X1_edge : Cond.instanceMethod yX1_edge ∈ WS := List.mem_filter.mpr ⟨List.mem_of_getElem? (i := 356) rfl, rfl⟩
set_option maxRecDepth 20000 in
theorem mS_X1_edge : Cond.selects RX1 yX1_edge yX1_edge ∈ WS := List.mem_filter.mpr ⟨List.mem_of_getElem? (i := 357) rfl, rfl⟩
set_option maxRecDepth 20000 in
theorem mK_X1_leadSquare : Cond.code yX1_leadSquare cX1_leadSquare 1 (some .int) ∈ WS := List.mem_filter.mpr ⟨List.mem_of_getElem? (i := 362) rfl, rfl⟩
set_option maxRecDepth 20000 in
theorem mM_X1_leadSquare : Cond.instanceMethod yX1_leadSquare ∈ WS := List.mem_filter.mpr ⟨List.mem_of_getElem? (i := 360) rfl, rfl⟩
set_option maxRecDepth 20000 in
theorem mS_X1_leadSquare : Cond.selects RX1 yX1_leadSquare yX1_leadSquare ∈ WS := List.mem_filter.mpr ⟨List.mem_of_getElem? (i := 361) rfl, rfl⟩
set_option maxRecDepth 20000 in
theorem mK_X2_heatIn : Cond.code yX2_heatIn cX2_heatIn 2 (some .int) ∈ WS := List.mem_filter.mpr ⟨List.mem_of_getElem? (i := 368) rfl, rfl⟩
set_option maxRecDepth 20000 in
theorem mM_X2_heatIn : Cond.instanceMethod yX2_heatIn ∈ WS := List.mem_filter.mpr ⟨List.mem_of_getElem? (i := 366) rfl, rfl⟩
set_option maxRecDepth 20000 in
theorem mS_X2_heatIn : Cond.selects RX2 yX2_heatIn yX2_heatIn ∈ WS := List.mem_filter.mpr ⟨List.mem_of_getElem? (i := 367) rfl, rfl⟩
set_option maxRecDepth 20000 in
theorem mK_X2_greatestHeat : Cond.code yX2_greatestHeat cX2_greatestHeat 1 (some .int) ∈ WS := List.mem_filter.mpr ⟨List.mem_of_getElem? (i := 372) rfl, rfl⟩
set_option maxRecDepth 20000 in
theorem mM_X2_greatestHeat : Cond.instanceMethod yX2_greatestHeat ∈ WS := List.mem_filter.mpr ⟨List.mem_of_getElem? (i := 371) rfl, rfl⟩
set_option maxRecDepth 20000 in
theorem mS_X2_greatestHeat : Cond.selects RX2 yX2_greatestHeat yX2_greatestHeat ∈ WS := List.mem_filter.mpr ⟨List.mem_of_getElem? (i := 10) rfl, rfl⟩
set_option maxRecDepth 20000 in
theorem mK_X2_hottestSquare : Cond.code yX2_hottestSquare cX2_hottestSquare 3 (some .int) ∈ WS := List.mem_filter.mpr ⟨List.mem_of_getElem? (i := 376) rfl, rfl⟩
set_option maxRecDepth 20000 in
theorem mM_X2_hottestSquare : Cond.instanceMethod yX2_hottestSquare ∈ WS := List.mem_filter.mpr ⟨List.mem_of_getElem? (i := 375) rfl, rfl⟩
set_option maxRecDepth 20000 in
theorem mS_X2_hottestSquare : Cond.selects RX2 yX2_hottestSquare yX2_hottestSquare ∈ WS := List.mem_filter.mpr ⟨List.mem_of_getElem? (i := 11) rfl, rfl⟩
set_option maxRecDepth 20000 in
theorem mK_X2_loseShapesInside : Cond.code yX2_loseShapesInside cX2_loseShapesInside 5 (some .int) ∈ WS := List.mem_filter.mpr ⟨List.mem_of_getElem? (i := 380) rfl, rfl⟩
set_option maxRecDepth 20000 in
theorem mM_X2_loseShapesInside : Cond.instanceMethod yX2_loseShapesInside ∈ WS := List.mem_filter.mpr ⟨List.mem_of_getElem? (i := 379) rfl, rfl⟩
set_option maxRecDepth 20000 in
theorem mS_X2_loseShapesInside : Cond.selects RX2 yX2_loseShapesInside yX2_loseShapesInside ∈ WS := List.mem_filter.mpr ⟨List.mem_of_getElem? (i := 12) rfl, rfl⟩
set_option maxRecDepth 20000 in
theorem mK_X3_pause : Cond.code yX3_pause cX3_pause 2 (some .int) ∈ WS := List.mem_filter.mpr ⟨List.mem_of_getElem? (i := 384) rfl, rfl⟩
set_option maxRecDepth 20000 in
theorem mM_X3_pause : Cond.instanceMethod yX3_pause ∈ WS := List.mem_filter.mpr ⟨List.mem_of_getElem? (i := 382) rfl, rfl⟩
set_option maxRecDepth 20000 in
theorem mS_X3_pause : Cond.selects RX3 yX3_pause yX3_pause ∈ WS := List.mem_filter.mpr ⟨List.mem_of_getElem? (i := 383) rfl, rfl⟩
set_option maxRecDepth 20000 in
theorem mK_X2_waitFor : Cond.code yX2_waitFor cX2_waitFor 2 (some .int) ∈ WS := List.mem_filter.mpr ⟨List.mem_of_getElem? (i := 388) rfl, rfl⟩
set_option maxRecDepth 20000 in
theorem mM_X2_waitFor : Cond.instanceMethod yX2_waitFor ∈ WS := List.mem_filter.mpr ⟨List.mem_of_getElem? (i := 386) rfl, rfl⟩
set_option maxRecDepth 20000 in
theorem mS_X2_waitFor : Cond.selects RX2 yX2_waitFor yX2_waitFor ∈ WS := List.mem_filter.mpr ⟨List.mem_of_getElem? (i := 387) rfl, rfl⟩
set_option maxRecDepth 20000 in
theorem mK_X3_clean : Cond.code yX3_clean cX3_clean 1 (some .int) ∈ WS := List.mem_filter.mpr ⟨List.mem_of_getElem? (i := 392) rfl, rfl⟩
set_option maxRecDepth 20000 in
theorem mM_X3_clean : Cond.instanceMethod yX3_clean ∈ WS := List.mem_filter.mpr ⟨List.mem_of_getElem? (i := 390) rfl, rfl⟩
set_option maxRecDepth 20000 in
theorem mS_X3_clean : Cond.selects RX3 yX3_clean yX3_clean ∈ WS := List.mem_filter.mpr ⟨List.mem_of_getElem? (i := 391) rfl, rfl⟩
set_option maxRecDepth 20000 in
theorem mK_X2_cleanLens : Cond.code yX2_cleanLens cX2_cleanLens 2 (some .int) ∈ WS := List.mem_filter.mpr ⟨List.mem_of_getElem? (i := 396) rfl, rfl⟩
set_option maxRecDepth 20000 in
theorem mM_X2_cleanLens : Cond.instanceMethod yX2_cleanLens ∈ WS := List.mem_filter.mpr ⟨List.mem_of_getElem? (i := 394) rfl, rfl⟩
set_option maxRecDepth 20000 in
theorem mS_X2_cleanLens : Cond.selects RX2 yX2_cleanLens yX2_cleanLens ∈ WS := List.mem_filter.mpr ⟨List.mem_of_getElem? (i := 395) rfl, rfl⟩
set_option maxRecDepth 20000 in
theorem mK_X3_type : Cond.code yX3_type cX3_type 2 (some .int) ∈ WS := List.mem_filter.mpr ⟨List.mem_of_getElem? (i := 400) rfl, rfl⟩
set_option maxRecDepth 20000 in
theorem mM_X3_type : Cond.instanceMethod yX3_type ∈ WS := List.mem_filter.mpr ⟨List.mem_of_getElem? (i := 398) rfl, rfl⟩
set_option maxRecDepth 20000 in
theorem mS_X3_type : Cond.selects RX3 yX3_type yX3_type ∈ WS := List.mem_filter.mpr ⟨List.mem_of_getElem? (i := 399) rfl, rfl⟩
set_option maxRecDepth 20000 in
theorem mK_X0_addLetter : Cond.code yX0_addLetter cX0_addLetter 2 (some .int) ∈ WS := List.mem_filter.mpr ⟨List.mem_of_getElem? (i := 404) rfl, rfl⟩
set_option maxRecDepth 20000 in
theorem mM_X0_addLetter : Cond.instanceMethod yX0_addLetter ∈ WS := List.mem_filter.mpr ⟨List.mem_of_getElem? (i := 402) rfl, rfl⟩
set_option maxRecDepth 20000 in
theorem mS_X0_addLetter : Cond.selects RX0 yX0_addLetter yX0_addLetter ∈ WS := List.mem_filter.mpr ⟨List.mem_of_getElem? (i := 403) rfl, rfl⟩
set_option maxRecDepth 20000 in
theorem mK_X3_clearText : Cond.code yX3_clearText cX3_clearText 1 (some .int) ∈ WS := List.mem_filter.mpr ⟨List.mem_of_getElem? (i := 408) rfl, rfl⟩
set_option maxRecDepth 20000 in
theorem mM_X3_clearText : Cond.instanceMethod yX3_clearText ∈ WS := List.mem_filter.mpr ⟨List.mem_of_getElem? (i := 406) rfl, rfl⟩
set_option maxRecDepth 20000 in
theorem mS_X3_clearText : Cond.selects RX3 yX3_clearText yX3_clearText ∈ WS := List.mem_filter.mpr ⟨List.mem_of_getElem? (i := 407) rfl, rfl⟩
set_option maxRecDepth 20000 in
theorem mK_X0_dropLetters : Cond.code yX0_dropLetters cX0_dropLetters 2 (some .int) ∈ WS := List.mem_filter.mpr ⟨List.mem_of_getElem? (i := 412) rfl, rfl⟩
set_option maxRecDepth 20000 in
theorem mM_X0_dropLetters : Cond.instanceMethod yX0_dropLetters ∈ WS := List.mem_filter.mpr ⟨List.mem_of_getElem? (i := 410) rfl, rfl⟩
set_option maxRecDepth 20000 in
theorem mS_X0_dropLetters : Cond.selects RX0 yX0_dropLetters yX0_dropLetters ∈ WS := List.mem_filter.mpr ⟨List.mem_of_getElem? (i := 411) rfl, rfl⟩
set_option maxRecDepth 20000 in
theorem mK_X3_perform : Cond.code yX3_perform cX3_perform 4 (some .int) ∈ WS := List.mem_filter.mpr ⟨List.mem_of_getElem? (i := 416) rfl, rfl⟩
set_option maxRecDepth 20000 in
theorem mM_X3_perform : Cond.instanceMethod yX3_perform ∈ WS := List.mem_filter.mpr ⟨List.mem_of_getElem? (i := 414) rfl, rfl⟩
set_option maxRecDepth 20000 in
theorem mS_X3_perform : Cond.selects RX3 yX3_perform yX3_perform ∈ WS := List.mem_filter.mpr ⟨List.mem_of_getElem? (i := 415) rfl, rfl⟩
set_option maxRecDepth 20000 in
theorem mK_X0_read : Cond.code yX0_read cX0_read 1 (some .int) ∈ WS := List.mem_filter.mpr ⟨List.mem_of_getElem? (i := 420) rfl, rfl⟩
set_option maxRecDepth 20000 in
theorem mM_X0_read : Cond.instanceMethod yX0_read ∈ WS := List.mem_filter.mpr ⟨List.mem_of_getElem? (i := 418) rfl, rfl⟩
set_option maxRecDepth 20000 in
theorem mS_X0_read : Cond.selects RX0 yX0_read yX0_read ∈ WS := List.mem_filter.mpr ⟨List.mem_of_getElem? (i := 419) rfl, rfl⟩
set_option maxRecDepth 20000 in
theorem mK_X0_readThing : Cond.code yX0_readThing cX0_readThing 1 (some .boolean) ∈ WS := List.mem_filter.mpr ⟨List.mem_of_getElem? (i := 424) rfl, rfl⟩
set_option maxRecDepth 20000 in
theorem mM_X0_readThing : Cond.instanceMethod yX0_readThing ∈ WS := List.mem_filter.mpr ⟨List.mem_of_getElem? (i := 423) rfl, rfl⟩
set_option maxRecDepth 20000 in
theorem mS_X0_readThing : Cond.selects RX0 yX0_readThing yX0_readThing ∈ WS := List.mem_filter.mpr ⟨List.mem_of_getElem? (i := 13) rfl, rfl⟩
set_option maxRecDepth 20000 in
theorem mK_X0_readLetter : Cond.code yX0_readLetter cX0_readLetter 2 (some .boolean) ∈ WS := List.mem_filter.mpr ⟨List.mem_of_getElem? (i := 428) rfl, rfl⟩
set_option maxRecDepth 20000 in
theorem mM_X0_readLetter : Cond.instanceMethod yX0_readLetter ∈ WS := List.mem_filter.mpr ⟨List.mem_of_getElem? (i := 427) rfl, rfl⟩
set_option maxRecDepth 20000 in
theorem mS_X0_readLetter : Cond.selects RX0 yX0_readLetter yX0_readLetter ∈ WS := List.mem_filter.mpr ⟨List.mem_of_getElem? (i := 14) rfl, rfl⟩
set_option maxRecDepth 20000 in
theorem mK_X0_readNumber : Cond.code yX0_readNumber cX0_readNumber 5 (some .boolean) ∈ WS := List.mem_filter.mpr ⟨List.mem_of_getElem? (i := 432) rfl, rfl⟩
set_option maxRecDepth 20000 in
theorem mM_X0_readNumber : Cond.instanceMethod yX0_readNumber ∈ WS := List.mem_filter.mpr ⟨List.mem_of_getElem? (i := 431) rfl, rfl⟩
set_option maxRecDepth 20000 in
theorem mS_X0_readNumber : Cond.selects RX0 yX0_readNumber yX0_readNumber ∈ WS := List.mem_filter.mpr ⟨List.mem_of_getElem? (i := 15) rfl, rfl⟩
set_option maxRecDepth 20000 in
theorem mK_X0_digitAt : Cond.code yX0_digitAt cX0_digitAt 2 (some .int) ∈ WS := List.mem_filter.mpr ⟨List.mem_of_getElem? (i := 436) rfl, rfl⟩
set_option maxRecDepth 20000 in
theorem mM_X0_digitAt : Cond.instanceMethod yX0_digitAt ∈ WS := List.mem_filter.mpr ⟨List.mem_of_getElem? (i := 435) rfl, rfl⟩
set_option maxRecDepth 20000 in
theorem mS_X0_digitAt : Cond.selects RX0 yX0_digitAt yX0_digitAt ∈ WS := List.mem_filter.mpr ⟨List.mem_of_getElem? (i := 16) rfl, rfl⟩
set_option maxRecDepth 20000 in
theorem mK_X0_doThing : Cond.code yX0_doThing cX0_doThing 3 (some .int) ∈ WS := List.mem_filter.mpr ⟨List.mem_of_getElem? (i := 442) rfl, rfl⟩
set_option maxRecDepth 20000 in
theorem mM_X0_doThing : Cond.instanceMethod yX0_doThing ∈ WS := List.mem_filter.mpr ⟨List.mem_of_getElem? (i := 440) rfl, rfl⟩
set_option maxRecDepth 20000 in
theorem mS_X0_doThing : Cond.selects RX0 yX0_doThing yX0_doThing ∈ WS := List.mem_filter.mpr ⟨List.mem_of_getElem? (i := 441) rfl, rfl⟩
set_option maxRecDepth 20000 in
theorem mK_X3_stopped : Cond.code yX3_stopped cX3_stopped 2 (some .int) ∈ WS := List.mem_filter.mpr ⟨List.mem_of_getElem? (i := 450) rfl, rfl⟩
set_option maxRecDepth 20000 in
theorem mM_X3_stopped : Cond.instanceMethod yX3_stopped ∈ WS := List.mem_filter.mpr ⟨List.mem_of_getElem? (i := 448) rfl, rfl⟩
set_option maxRecDepth 20000 in
theorem mS_X3_stopped : Cond.selects RX3 yX3_stopped yX3_stopped ∈ WS := List.mem_filter.mpr ⟨List.mem_of_getElem? (i := 449) rfl, rfl⟩
set_option maxRecDepth 20000 in
theorem mK_X3_undo : Cond.code yX3_undo cX3_undo 1 (some .int) ∈ WS := List.mem_filter.mpr ⟨List.mem_of_getElem? (i := 454) rfl, rfl⟩
set_option maxRecDepth 20000 in
theorem mM_X3_undo : Cond.instanceMethod yX3_undo ∈ WS := List.mem_filter.mpr ⟨List.mem_of_getElem? (i := 452) rfl, rfl⟩
set_option maxRecDepth 20000 in
theorem mS_X3_undo : Cond.selects RX3 yX3_undo yX3_undo ∈ WS := List.mem_filter.mpr ⟨List.mem_of_getElem? (i := 453) rfl, rfl⟩
set_option maxRecDepth 20000 in
theorem mK_X3_keep : Cond.code yX3_keep cX3_keep 1 (some .int) ∈ WS := List.mem_filter.mpr ⟨List.mem_of_getElem? (i := 458) rfl, rfl⟩
set_option maxRecDepth 20000 in
theorem mM_X3_keep : Cond.instanceMethod yX3_keep ∈ WS := List.mem_filter.mpr ⟨List.mem_of_getElem? (i := 456) rfl, rfl⟩
set_option maxRecDepth 20000 in
theorem mS_X3_keep : Cond.selects RX3 yX3_keep yX3_keep ∈ WS := List.mem_filter.mpr ⟨List.mem_of_getElem? (i := 457) rfl, rfl⟩
set_option maxRecDepth 20000 in
theorem mK_X3_restore : Cond.code yX3_restore cX3_restore 1 (some .int) ∈ WS := List.mem_filter.mpr ⟨List.mem_of_getElem? (i := 462) rfl, rfl⟩
set_option maxRecDepth 20000 in
theorem mM_X3_restore : Cond.instanceMethod yX3_restore ∈ WS := List.mem_filter.mpr ⟨List.mem_of_getElem? (i := 460) rfl, rfl⟩
set_option maxRecDepth 20000 in
theorem mS_X3_restore : Cond.selects RX3 yX3_restore yX3_restore ∈ WS := List.mem_filter.mpr ⟨List.mem_of_getElem? (i := 461) rfl, rfl⟩
set_option maxRecDepth 20000 in
theorem mK_X3_shape : Cond.code yX3_shape cX3_shape 3 (some .int) ∈ WS := List.mem_filter.mpr ⟨List.mem_of_getElem? (i := 466) rfl, rfl⟩
set_option maxRecDepth 20000 in
theorem mM_X3_shape : Cond.instanceMethod yX3_shape ∈ WS := List.mem_filter.mpr ⟨List.mem_of_getElem? (i := 464) rfl, rfl⟩
set_option maxRecDepth 20000 in
theorem mS_X3_shape : Cond.selects RX3 yX3_shape yX3_shape ∈ WS := List.mem_filter.mpr ⟨List.mem_of_getElem? (i := 465) rfl, rfl⟩
set_option maxRecDepth 20000 in
theorem mK_X2_factOfShape : Cond.code yX2_factOfShape cX2_factOfShape 4 (some .int) ∈ WS := List.mem_filter.mpr ⟨List.mem_of_getElem? (i := 470) rfl, rfl⟩
set_option maxRecDepth 20000 in
theorem mM_X2_factOfShape : Cond.instanceMethod yX2_factOfShape ∈ WS := List.mem_filter.mpr ⟨List.mem_of_getElem? (i := 468) rfl, rfl⟩
set_option maxRecDepth 20000 in
theorem mS_X2_factOfShape : Cond.selects RX2 yX2_factOfShape yX2_factOfShape ∈ WS := List.mem_filter.mpr ⟨List.mem_of_getElem? (i := 469) rfl, rfl⟩
set_option maxRecDepth 20000 in
theorem mK_X2_outerOf : Cond.code yX2_outerOf cX2_outerOf 4 (some .int) ∈ WS := List.mem_filter.mpr ⟨List.mem_of_getElem? (i := 474) rfl, rfl⟩
set_option maxRecDepth 20000 in
theorem mM_X2_outerOf : Cond.instanceMethod yX2_outerOf ∈ WS := List.mem_filter.mpr ⟨List.mem_of_getElem? (i := 473) rfl, rfl⟩
set_option maxRecDepth 20000 in
theorem mS_X2_outerOf : Cond.selects RX2 yX2_outerOf yX2_outerOf ∈ WS := List.mem_filter.mpr ⟨List.mem_of_getElem? (i := 17) rfl, rfl⟩
set_option maxRecDepth 20000 in
theorem mK_X2_setInside : Cond.code yX2_setInside cX2_setInside 4 (some .int) ∈ WS := List.mem_filter.mpr ⟨List.mem_of_getElem? (i := 478) rfl, rfl⟩
set_option maxRecDepth 20000 in
theorem mM_X2_setInside : Cond.instanceMethod yX2_setInside ∈ WS := List.mem_filter.mpr ⟨List.mem_of_getElem? (i := 477) rfl, rfl⟩
set_option maxRecDepth 20000 in
theorem mS_X2_setInside : Cond.selects RX2 yX2_setInside yX2_setInside ∈ WS := List.mem_filter.mpr ⟨List.mem_of_getElem? (i := 18) rfl, rfl⟩
set_option maxRecDepth 20000 in
theorem mK_X3_heat : Cond.code yX3_heat cX3_heat 2 (some .int) ∈ WS := List.mem_filter.mpr ⟨List.mem_of_getElem? (i := 482) rfl, rfl⟩
set_option maxRecDepth 20000 in
theorem mM_X3_heat : Cond.instanceMethod yX3_heat ∈ WS := List.mem_filter.mpr ⟨List.mem_of_getElem? (i := 480) rfl, rfl⟩
set_option maxRecDepth 20000 in
theorem mS_X3_heat : Cond.selects RX3 yX3_heat yX3_heat ∈ WS := List.mem_filter.mpr ⟨List.mem_of_getElem? (i := 481) rfl, rfl⟩
set_option maxRecDepth 20000 in
theorem mK_X3_reason : Cond.code yX3_reason cX3_reason 2 (some .int) ∈ WS := List.mem_filter.mpr ⟨List.mem_of_getElem? (i := 487) rfl, rfl⟩
set_option maxRecDepth 20000 in
theorem mM_X3_reason : Cond.instanceMethod yX3_reason ∈ WS := List.mem_filter.mpr ⟨List.mem_of_getElem? (i := 485) rfl, rfl⟩
set_option maxRecDepth 20000 in
theorem mS_X3_reason : Cond.selects RX3 yX3_reason yX3_reason ∈ WS := List.mem_filter.mpr ⟨List.mem_of_getElem? (i := 486) rfl, rfl⟩
set_option maxRecDepth 20000 in
theorem mK_X3_takes : Cond.code yX3_takes cX3_takes 2 (some .int) ∈ WS := List.mem_filter.mpr ⟨List.mem_of_getElem? (i := 493) rfl, rfl⟩
set_option maxRecDepth 20000 in
theorem mM_X3_takes : Cond.instanceMethod yX3_takes ∈ WS := List.mem_filter.mpr ⟨List.mem_of_getElem? (i := 491) rfl, rfl⟩
set_option maxRecDepth 20000 in
theorem mS_X3_takes : Cond.selects RX3 yX3_takes yX3_takes ∈ WS := List.mem_filter.mpr ⟨List.mem_of_getElem? (i := 492) rfl, rfl⟩
set_option maxRecDepth 20000 in
theorem mK_X2_ticksToCut : Cond.code yX2_ticksToCut cX2_ticksToCut 3 (some .int) ∈ WS := List.mem_filter.mpr ⟨List.mem_of_getElem? (i := 497) rfl, rfl⟩
set_option maxRecDepth 20000 in
theorem mM_X2_ticksToCut : Cond.instanceMethod yX2_ticksToCut ∈ WS := List.mem_filter.mpr ⟨List.mem_of_getElem? (i := 495) rfl, rfl⟩
set_option maxRecDepth 20000 in
theorem mS_X2_ticksToCut : Cond.selects RX2 yX2_ticksToCut yX2_ticksToCut ∈ WS := List.mem_filter.mpr ⟨List.mem_of_getElem? (i := 496) rfl, rfl⟩
set_option maxRecDepth 20000 in
theorem mK_X3_coolsIn : Cond.code yX3_coolsIn cX3_coolsIn 2 (some .int) ∈ WS := List.mem_filter.mpr ⟨List.mem_of_getElem? (i := 501) rfl, rfl⟩
set_option maxRecDepth 20000 in
theorem mM_X3_coolsIn : Cond.instanceMethod yX3_coolsIn ∈ WS := List.mem_filter.mpr ⟨List.mem_of_getElem? (i := 499) rfl, rfl⟩
set_option maxRecDepth 20000 in
theorem mS_X3_coolsIn : Cond.selects RX3 yX3_coolsIn yX3_coolsIn ∈ WS := List.mem_filter.mpr ⟨List.mem_of_getElem? (i := 500) rfl, rfl⟩
set_option maxRecDepth 20000 in
theorem mK_X2_ticksToCool : Cond.code yX2_ticksToCool cX2_ticksToCool 5 (some .int) ∈ WS := List.mem_filter.mpr ⟨List.mem_of_getElem? (i := 505) rfl, rfl⟩
set_option maxRecDepth 20000 in
theorem mM_X2_ticksToCool : Cond.instanceMethod yX2_ticksToCool ∈ WS := List.mem_filter.mpr ⟨List.mem_of_getElem? (i := 503) rfl, rfl⟩
set_option maxRecDepth 20000 in
theorem mS_X2_ticksToCool : Cond.selects RX2 yX2_ticksToCool yX2_ticksToCool ∈ WS := List.mem_filter.mpr ⟨List.mem_of_getElem? (i := 504) rfl, rfl⟩
set_option maxRecDepth 20000 in
theorem mK_X3_best : Cond.code yX3_best cX3_best 1 (some .int) ∈ WS := List.mem_filter.mpr ⟨List.mem_of_getElem? (i := 509) rfl, rfl⟩
set_option maxRecDepth 20000 in
theorem mM_X3_best : Cond.instanceMethod yX3_best ∈ WS := List.mem_filter.mpr ⟨List.mem_of_getElem? (i := 507) rfl, rfl⟩
set_option maxRecDepth 20000 in
theorem mS_X3_best : Cond.selects RX3 yX3_best yX3_best ∈ WS := List.mem_filter.mpr ⟨List.mem_of_getElem? (i := 508) rfl, rfl⟩
set_option maxRecDepth 20000 in
theorem mK_X2_bestShape : Cond.code yX2_bestShape cX2_bestShape 5 (some .int) ∈ WS := List.mem_filter.mpr ⟨List.mem_of_getElem? (i := 513) rfl, rfl⟩
set_option maxRecDepth 20000 in
theorem mM_X2_bestShape : Cond.instanceMethod yX2_bestShape ∈ WS := List.mem_filter.mpr ⟨List.mem_of_getElem? (i := 511) rfl, rfl⟩
set_option maxRecDepth 20000 in
theorem mS_X2_bestShape : Cond.selects RX2 yX2_bestShape yX2_bestShape ∈ WS := List.mem_filter.mpr ⟨List.mem_of_getElem? (i := 512) rfl, rfl⟩
set_option maxRecDepth 20000 in
theorem mK_X3_ordered : Cond.code yX3_ordered cX3_ordered 4 (some .int) ∈ WS := List.mem_filter.mpr ⟨List.mem_of_getElem? (i := 518) rfl, rfl⟩
set_option maxRecDepth 20000 in
theorem mM_X3_ordered : Cond.instanceMethod yX3_ordered ∈ WS := List.mem_filter.mpr ⟨List.mem_of_getElem? (i := 516) rfl, rfl⟩
set_option maxRecDepth 20000 in
theorem mS_X3_ordered : Cond.selects RX3 yX3_ordered yX3_ordered ∈ WS := List.mem_filter.mpr ⟨List.mem_of_getElem? (i := 517) rfl, rfl⟩
set_option maxRecDepth 20000 in
theorem mK_X2_cutNext : Cond.code yX2_cutNext cX2_cutNext 3 (some .int) ∈ WS := List.mem_filter.mpr ⟨List.mem_of_getElem? (i := 522) rfl, rfl⟩
set_option maxRecDepth 20000 in
theorem mM_X2_cutNext : Cond.instanceMethod yX2_cutNext ∈ WS := List.mem_filter.mpr ⟨List.mem_of_getElem? (i := 520) rfl, rfl⟩
set_option maxRecDepth 20000 in
theorem mS_X2_cutNext : Cond.selects RX2 yX2_cutNext yX2_cutNext ∈ WS := List.mem_filter.mpr ⟨List.mem_of_getElem? (i := 521) rfl, rfl⟩
set_option maxRecDepth 20000 in
theorem mK_X2_fewestTicksToCool : Cond.code yX2_fewestTicksToCool cX2_fewestTicksToCool 4 (some .int) ∈ WS := List.mem_filter.mpr ⟨List.mem_of_getElem? (i := 527) rfl, rfl⟩
set_option maxRecDepth 20000 in
theorem mM_X2_fewestTicksToCool : Cond.instanceMethod yX2_fewestTicksToCool ∈ WS := List.mem_filter.mpr ⟨List.mem_of_getElem? (i := 526) rfl, rfl⟩
set_option maxRecDepth 20000 in
theorem mS_X2_fewestTicksToCool : Cond.selects RX2 yX2_fewestTicksToCool yX2_fewestTicksToCool ∈ WS := List.mem_filter.mpr ⟨List.mem_of_getElem? (i := 19) rfl, rfl⟩
set_option maxRecDepth 20000 in
theorem mK_X3_allTakes : Cond.code yX3_allTakes cX3_allTakes 2 (some .int) ∈ WS := List.mem_filter.mpr ⟨List.mem_of_getElem? (i := 533) rfl, rfl⟩
set_option maxRecDepth 20000 in
theorem mM_X3_allTakes : Cond.instanceMethod yX3_allTakes ∈ WS := List.mem_filter.mpr ⟨List.mem_of_getElem? (i := 531) rfl, rfl⟩
set_option maxRecDepth 20000 in
theorem mS_X3_allTakes : Cond.selects RX3 yX3_allTakes yX3_allTakes ∈ WS := List.mem_filter.mpr ⟨List.mem_of_getElem? (i := 532) rfl, rfl⟩
set_option maxRecDepth 20000 in
theorem mK_X2_shapesThatAre : Cond.code yX2_shapesThatAre cX2_shapesThatAre 4 (some .int) ∈ WS := List.mem_filter.mpr ⟨List.mem_of_getElem? (i := 537) rfl, rfl⟩
set_option maxRecDepth 20000 in
theorem mM_X2_shapesThatAre : Cond.instanceMethod yX2_shapesThatAre ∈ WS := List.mem_filter.mpr ⟨List.mem_of_getElem? (i := 535) rfl, rfl⟩
set_option maxRecDepth 20000 in
theorem mS_X2_shapesThatAre : Cond.selects RX2 yX2_shapesThatAre yX2_shapesThatAre ∈ WS := List.mem_filter.mpr ⟨List.mem_of_getElem? (i := 536) rfl, rfl⟩
set_option maxRecDepth 20000 in
theorem mK_X3_count : Cond.code yX3_count cX3_count 2 (some .int) ∈ WS := List.mem_filter.mpr ⟨List.mem_of_getElem? (i := 541) rfl, rfl⟩
set_option maxRecDepth 20000 in
theorem mM_X3_count : Cond.instanceMethod yX3_count ∈ WS := List.mem_filter.mpr ⟨List.mem_of_getElem? (i := 539) rfl, rfl⟩
set_option maxRecDepth 20000 in
theorem mS_X3_count : Cond.selects RX3 yX3_count yX3_count ∈ WS := List.mem_filter.mpr ⟨List.mem_of_getElem? (i := 540) rfl, rfl⟩
set_option maxRecDepth 20000 in
theorem mK_X2_factOfSheet : Cond.code yX2_factOfSheet cX2_factOfSheet 2 (some .int) ∈ WS := List.mem_filter.mpr ⟨List.mem_of_getElem? (i := 545) rfl, rfl⟩
set_option maxRecDepth 20000 in
theorem mM_X2_factOfSheet : Cond.instanceMethod yX2_factOfSheet ∈ WS := List.mem_filter.mpr ⟨List.mem_of_getElem? (i := 543) rfl, rfl⟩
set_option maxRecDepth 20000 in
theorem mS_X2_factOfSheet : Cond.selects RX2 yX2_factOfSheet yX2_factOfSheet ∈ WS := List.mem_filter.mpr ⟨List.mem_of_getElem? (i := 544) rfl, rfl⟩
set_option maxRecDepth 20000 in
theorem mK_X2_shapesThatTilted : Cond.code yX2_shapesThatTilted cX2_shapesThatTilted 3 (some .int) ∈ WS := List.mem_filter.mpr ⟨List.mem_of_getElem? (i := 550) rfl, rfl⟩
set_option maxRecDepth 20000 in
theorem mM_X2_shapesThatTilted : Cond.instanceMethod yX2_shapesThatTilted ∈ WS := List.mem_filter.mpr ⟨List.mem_of_getElem? (i := 549) rfl, rfl⟩
set_option maxRecDepth 20000 in
theorem mS_X2_shapesThatTilted : Cond.selects RX2 yX2_shapesThatTilted yX2_shapesThatTilted ∈ WS := List.mem_filter.mpr ⟨List.mem_of_getElem? (i := 20) rfl, rfl⟩
set_option maxRecDepth 20000 in
theorem mK_X2_allHeat : Cond.code yX2_allHeat cX2_allHeat 3 (some .int) ∈ WS := List.mem_filter.mpr ⟨List.mem_of_getElem? (i := 554) rfl, rfl⟩
set_option maxRecDepth 20000 in
theorem mM_X2_allHeat : Cond.instanceMethod yX2_allHeat ∈ WS := List.mem_filter.mpr ⟨List.mem_of_getElem? (i := 553) rfl, rfl⟩
set_option maxRecDepth 20000 in
theorem mS_X2_allHeat : Cond.selects RX2 yX2_allHeat yX2_allHeat ∈ WS := List.mem_filter.mpr ⟨List.mem_of_getElem? (i := 21) rfl, rfl⟩
set_option maxRecDepth 20000 in
theorem mK_X4_init : Cond.code yX4_init cX4_init 1 none ∈ WS := List.mem_filter.mpr ⟨List.mem_of_getElem? (i := 559) rfl, rfl⟩
set_option maxRecDepth 20000 in
theorem mM_X4_init : Cond.instanceMethod yX4_init ∈ WS := List.mem_filter.mpr ⟨List.mem_of_getElem? (i := 558) rfl, rfl⟩
set_option maxRecDepth 20000 in
theorem mK_X4_tell : Cond.code yX4_tell cX4_tell 7 (some .int) ∈ WS := List.mem_filter.mpr ⟨List.mem_of_getElem? (i := 628) rfl, rfl⟩
set_option maxRecDepth 20000 in
theorem mM_X4_tell : Cond.instanceMethod yX4_tell ∈ WS := List.mem_filter.mpr ⟨List.mem_of_getElem? (i := 626) rfl, rfl⟩
set_option maxRecDepth 20000 in
theorem mS_X4_tell : Cond.selects RX4 yX4_tell yX4_tell ∈ WS := List.mem_filter.mpr ⟨List.mem_of_getElem? (i := 627) rfl, rfl⟩
set_option maxRecDepth 20000 in
theorem mK_X4_in : Cond.code yX4_in cX4_in 3 (some .boolean) ∈ WS := List.mem_filter.mpr ⟨List.mem_of_getElem? (i := 631) rfl, rfl⟩
set_option maxRecDepth 20000 in
theorem mT_X4_in : Cond.static yX4_in ∈ WS := List.mem_filter.mpr ⟨List.mem_of_getElem? (i := 630) rfl, rfl⟩
set_option maxRecDepth 20000 in
theorem mK_X4_couldBe : Cond.code yX4_couldBe cX4_couldBe 10 (some .boolean) ∈ WS := List.mem_filter.mpr ⟨List.mem_of_getElem? (i := 635) rfl, rfl⟩
set_option maxRecDepth 20000 in
theorem mM_X4_couldBe : Cond.instanceMethod yX4_couldBe ∈ WS := List.mem_filter.mpr ⟨List.mem_of_getElem? (i := 634) rfl, rfl⟩
set_option maxRecDepth 20000 in
theorem mS_X4_couldBe : Cond.selects RX4 yX4_couldBe yX4_couldBe ∈ WS := List.mem_filter.mpr ⟨List.mem_of_getElem? (i := 22) rfl, rfl⟩
set_option maxRecDepth 20000 in
theorem mK_X4_lastColumn : Cond.code yX4_lastColumn cX4_lastColumn 2 (some .int) ∈ WS := List.mem_filter.mpr ⟨List.mem_of_getElem? (i := 639) rfl, rfl⟩
set_option maxRecDepth 20000 in
theorem mM_X4_lastColumn : Cond.instanceMethod yX4_lastColumn ∈ WS := List.mem_filter.mpr ⟨List.mem_of_getElem? (i := 638) rfl, rfl⟩
set_option maxRecDepth 20000 in
theorem mS_X4_lastColumn : Cond.selects RX4 yX4_lastColumn yX4_lastColumn ∈ WS := List.mem_filter.mpr ⟨List.mem_of_getElem? (i := 23) rfl, rfl⟩
set_option maxRecDepth 20000 in
theorem mK_X4_of : Cond.code yX4_of cX4_of 3 (some .int) ∈ WS := List.mem_filter.mpr ⟨List.mem_of_getElem? (i := 643) rfl, rfl⟩
set_option maxRecDepth 20000 in
theorem mM_X4_of : Cond.instanceMethod yX4_of ∈ WS := List.mem_filter.mpr ⟨List.mem_of_getElem? (i := 642) rfl, rfl⟩
set_option maxRecDepth 20000 in
theorem mS_X4_of : Cond.selects RX4 yX4_of yX4_of ∈ WS := List.mem_filter.mpr ⟨List.mem_of_getElem? (i := 24) rfl, rfl⟩
set_option maxRecDepth 20000 in
theorem mK_X4_at : Cond.code yX4_at cX4_at 2 (some .int) ∈ WS := List.mem_filter.mpr ⟨List.mem_of_getElem? (i := 646) rfl, rfl⟩
set_option maxRecDepth 20000 in
theorem mT_X4_at : Cond.static yX4_at ∈ WS := List.mem_filter.mpr ⟨List.mem_of_getElem? (i := 645) rfl, rfl⟩
set_option maxRecDepth 20000 in
theorem mK_X4_lastRow : Cond.code yX4_lastRow cX4_lastRow 2 (some .int) ∈ WS := List.mem_filter.mpr ⟨List.mem_of_getElem? (i := 650) rfl, rfl⟩
set_option maxRecDepth 20000 in
theorem mM_X4_lastRow : Cond.instanceMethod yX4_lastRow ∈ WS := List.mem_filter.mpr ⟨List.mem_of_getElem? (i := 649) rfl, rfl⟩
set_option maxRecDepth 20000 in
theorem mS_X4_lastRow : Cond.selects RX4 yX4_lastRow yX4_lastRow ∈ WS := List.mem_filter.mpr ⟨List.mem_of_getElem? (i := 25) rfl, rfl⟩
set_option maxRecDepth 20000 in
theorem mK_X4_isWhole : Cond.code yX4_isWhole cX4_isWhole 2 (some .boolean) ∈ WS := List.mem_filter.mpr ⟨List.mem_of_getElem? (i := 654) rfl, rfl⟩
set_option maxRecDepth 20000 in
theorem mM_X4_isWhole : Cond.instanceMethod yX4_isWhole ∈ WS := List.mem_filter.mpr ⟨List.mem_of_getElem? (i := 653) rfl, rfl⟩
set_option maxRecDepth 20000 in
theorem mS_X4_isWhole : Cond.selects RX4 yX4_isWhole yX4_isWhole ∈ WS := List.mem_filter.mpr ⟨List.mem_of_getElem? (i := 26) rfl, rfl⟩
set_option maxRecDepth 20000 in
theorem mK_X4_looks : Cond.code yX4_looks cX4_looks 2 none ∈ WS := List.mem_filter.mpr ⟨List.mem_of_getElem? (i := 658) rfl, rfl⟩
set_option maxRecDepth 20000 in
theorem mM_X4_looks : Cond.instanceMethod yX4_looks ∈ WS := List.mem_filter.mpr ⟨List.mem_of_getElem? (i := 657) rfl, rfl⟩
set_option maxRecDepth 20000 in
theorem mS_X4_looks : Cond.selects RX4 yX4_looks yX4_looks ∈ WS := List.mem_filter.mpr ⟨List.mem_of_getElem? (i := 27) rfl, rfl⟩
set_option maxRecDepth 20000 in
theorem mK_X4_records : Cond.code yX4_records cX4_records 2 none ∈ WS := List.mem_filter.mpr ⟨List.mem_of_getElem? (i := 662) rfl, rfl⟩
set_option maxRecDepth 20000 in
theorem mM_X4_records : Cond.instanceMethod yX4_records ∈ WS := List.mem_filter.mpr ⟨List.mem_of_getElem? (i := 661) rfl, rfl⟩
set_option maxRecDepth 20000 in
theorem mS_X4_records : Cond.selects RX4 yX4_records yX4_records ∈ WS := List.mem_filter.mpr ⟨List.mem_of_getElem? (i := 28) rfl, rfl⟩
set_option maxRecDepth 20000 in
theorem mK_X4_lays : Cond.code yX4_lays cX4_lays 7 none ∈ WS := List.mem_filter.mpr ⟨List.mem_of_getElem? (i := 666) rfl, rfl⟩
set_option maxRecDepth 20000 in
theorem mM_X4_lays : Cond.instanceMethod yX4_lays ∈ WS := List.mem_filter.mpr ⟨List.mem_of_getElem? (i := 665) rfl, rfl⟩
set_option maxRecDepth 20000 in
theorem mS_X4_lays : Cond.selects RX4 yX4_lays yX4_lays ∈ WS := List.mem_filter.mpr ⟨List.mem_of_getElem? (i := 29) rfl, rfl⟩
set_option maxRecDepth 20000 in
theorem mK_X4_setLead : Cond.code yX4_setLead cX4_setLead 3 (some .int) ∈ WS := List.mem_filter.mpr ⟨List.mem_of_getElem? (i := 670) rfl, rfl⟩
set_option maxRecDepth 20000 in
theorem mM_X4_setLead : Cond.instanceMethod yX4_setLead ∈ WS := List.mem_filter.mpr ⟨List.mem_of_getElem? (i := 668) rfl, rfl⟩
set_option maxRecDepth 20000 in
theorem mS_X4_setLead : Cond.selects RX4 yX4_setLead yX4_setLead ∈ WS := List.mem_filter.mpr ⟨List.mem_of_getElem? (i := 669) rfl, rfl⟩
set_option maxRecDepth 20000 in
theorem mK_X4_leads : Cond.code yX4_leads cX4_leads 4 (some .int) ∈ WS := List.mem_filter.mpr ⟨List.mem_of_getElem? (i := 674) rfl, rfl⟩
set_option maxRecDepth 20000 in
theorem mM_X4_leads : Cond.instanceMethod yX4_leads ∈ WS := List.mem_filter.mpr ⟨List.mem_of_getElem? (i := 673) rfl, rfl⟩
set_option maxRecDepth 20000 in
theorem mS_X4_leads : Cond.selects RX4 yX4_leads yX4_leads ∈ WS := List.mem_filter.mpr ⟨List.mem_of_getElem? (i := 30) rfl, rfl⟩
set_option maxRecDepth 20000 in
theorem mK_X4_isShape : Cond.code yX4_isShape cX4_isShape 2 (some .boolean) ∈ WS := List.mem_filter.mpr ⟨List.mem_of_getElem? (i := 678) rfl, rfl⟩
set_option maxRecDepth 20000 in
theorem mM_X4_isShape : Cond.instanceMethod yX4_isShape ∈ WS := List.mem_filter.mpr ⟨List.mem_of_getElem? (i := 677) rfl, rfl⟩
set_option maxRecDepth 20000 in
theorem mS_X4_isShape : Cond.selects RX4 yX4_isShape yX4_isShape ∈ WS := List.mem_filter.mpr ⟨List.mem_of_getElem? (i := 31) rfl, rfl⟩
set_option maxRecDepth 20000 in
theorem mK_X4_acted : Cond.code yX4_acted cX4_acted 2 (some .int) ∈ WS := List.mem_filter.mpr ⟨List.mem_of_getElem? (i := 682) rfl, rfl⟩
set_option maxRecDepth 20000 in
theorem mM_X4_acted : Cond.instanceMethod yX4_acted ∈ WS := List.mem_filter.mpr ⟨List.mem_of_getElem? (i := 681) rfl, rfl⟩
set_option maxRecDepth 20000 in
theorem mS_X4_acted : Cond.selects RX4 yX4_acted yX4_acted ∈ WS := List.mem_filter.mpr ⟨List.mem_of_getElem? (i := 32) rfl, rfl⟩
set_option maxRecDepth 20000 in
theorem mK_X4_set : Cond.code yX4_set cX4_set 4 (some .int) ∈ WS := List.mem_filter.mpr ⟨List.mem_of_getElem? (i := 686) rfl, rfl⟩
set_option maxRecDepth 20000 in
theorem mM_X4_set : Cond.instanceMethod yX4_set ∈ WS := List.mem_filter.mpr ⟨List.mem_of_getElem? (i := 684) rfl, rfl⟩
set_option maxRecDepth 20000 in
theorem mS_X4_set : Cond.selects RX4 yX4_set yX4_set ∈ WS := List.mem_filter.mpr ⟨List.mem_of_getElem? (i := 685) rfl, rfl⟩
set_option maxRecDepth 20000 in
theorem mK_X4_most : Cond.code yX4_most cX4_most 1 (some .int) ∈ WS := List.mem_filter.mpr ⟨List.mem_of_getElem? (i := 689) rfl, rfl⟩
set_option maxRecDepth 20000 in
theorem mT_X4_most : Cond.static yX4_most ∈ WS := List.mem_filter.mpr ⟨List.mem_of_getElem? (i := 688) rfl, rfl⟩
set_option maxRecDepth 20000 in
theorem mK_X4_cut : Cond.code yX4_cut cX4_cut 2 (some .int) ∈ WS := List.mem_filter.mpr ⟨List.mem_of_getElem? (i := 693) rfl, rfl⟩
set_option maxRecDepth 20000 in
theorem mM_X4_cut : Cond.instanceMethod yX4_cut ∈ WS := List.mem_filter.mpr ⟨List.mem_of_getElem? (i := 691) rfl, rfl⟩
set_option maxRecDepth 20000 in
theorem mS_X4_cut : Cond.selects RX4 yX4_cut yX4_cut ∈ WS := List.mem_filter.mpr ⟨List.mem_of_getElem? (i := 692) rfl, rfl⟩
set_option maxRecDepth 20000 in
theorem mK_X4_cuts : Cond.code yX4_cuts cX4_cuts 4 (some .int) ∈ WS := List.mem_filter.mpr ⟨List.mem_of_getElem? (i := 697) rfl, rfl⟩
set_option maxRecDepth 20000 in
theorem mM_X4_cuts : Cond.instanceMethod yX4_cuts ∈ WS := List.mem_filter.mpr ⟨List.mem_of_getElem? (i := 696) rfl, rfl⟩
set_option maxRecDepth 20000 in
theorem mS_X4_cuts : Cond.selects RX4 yX4_cuts yX4_cuts ∈ WS := List.mem_filter.mpr ⟨List.mem_of_getElem? (i := 33) rfl, rfl⟩
set_option maxRecDepth 20000 in
theorem mK_X4_why : Cond.code yX4_why cX4_why 2 (some .int) ∈ WS := List.mem_filter.mpr ⟨List.mem_of_getElem? (i := 701) rfl, rfl⟩
set_option maxRecDepth 20000 in
theorem mM_X4_why : Cond.instanceMethod yX4_why ∈ WS := List.mem_filter.mpr ⟨List.mem_of_getElem? (i := 700) rfl, rfl⟩
set_option maxRecDepth 20000 in
theorem mS_X4_why : Cond.selects RX4 yX4_why yX4_why ∈ WS := List.mem_filter.mpr ⟨List.mem_of_getElem? (i := 34) rfl, rfl⟩
set_option maxRecDepth 20000 in
theorem mK_X4_hasWholeInside : Cond.code yX4_hasWholeInside cX4_hasWholeInside 4 (some .boolean) ∈ WS := List.mem_filter.mpr ⟨List.mem_of_getElem? (i := 705) rfl, rfl⟩
set_option maxRecDepth 20000 in
theorem mM_X4_hasWholeInside : Cond.instanceMethod yX4_hasWholeInside ∈ WS := List.mem_filter.mpr ⟨List.mem_of_getElem? (i := 704) rfl, rfl⟩
set_option maxRecDepth 20000 in
theorem mS_X4_hasWholeInside : Cond.selects RX4 yX4_hasWholeInside yX4_hasWholeInside ∈ WS := List.mem_filter.mpr ⟨List.mem_of_getElem? (i := 35) rfl, rfl⟩
set_option maxRecDepth 20000 in
theorem mK_X4_isInside : Cond.code yX4_isInside cX4_isInside 4 (some .boolean) ∈ WS := List.mem_filter.mpr ⟨List.mem_of_getElem? (i := 709) rfl, rfl⟩
set_option maxRecDepth 20000 in
theorem mM_X4_isInside : Cond.instanceMethod yX4_isInside ∈ WS := List.mem_filter.mpr ⟨List.mem_of_getElem? (i := 708) rfl, rfl⟩
set_option maxRecDepth 20000 in
theorem mS_X4_isInside : Cond.selects RX4 yX4_isInside yX4_isInside ∈ WS := List.mem_filter.mpr ⟨List.mem_of_getElem? (i := 36) rfl, rfl⟩
set_option maxRecDepth 20000 in
theorem mK_X4_going : Cond.code yX4_going cX4_going 2 (some .int) ∈ WS := List.mem_filter.mpr ⟨List.mem_of_getElem? (i := 713) rfl, rfl⟩
set_option maxRecDepth 20000 in
theorem mM_X4_going : Cond.instanceMethod yX4_going ∈ WS := List.mem_filter.mpr ⟨List.mem_of_getElem? (i := 712) rfl, rfl⟩
set_option maxRecDepth 20000 in
theorem mS_X4_going : Cond.selects RX4 yX4_going yX4_going ∈ WS := List.mem_filter.mpr ⟨List.mem_of_getElem? (i := 37) rfl, rfl⟩
set_option maxRecDepth 20000 in
theorem mK_X4_leadColumn : Cond.code yX4_leadColumn cX4_leadColumn 2 (some .int) ∈ WS := List.mem_filter.mpr ⟨List.mem_of_getElem? (i := 717) rfl, rfl⟩
set_option maxRecDepth 20000 in
theorem mM_X4_leadColumn : Cond.instanceMethod yX4_leadColumn ∈ WS := List.mem_filter.mpr ⟨List.mem_of_getElem? (i := 716) rfl, rfl⟩
set_option maxRecDepth 20000 in
theorem mS_X4_leadColumn : Cond.selects RX4 yX4_leadColumn yX4_leadColumn ∈ WS := List.mem_filter.mpr ⟨List.mem_of_getElem? (i := 38) rfl, rfl⟩
set_option maxRecDepth 20000 in
theorem mK_X4_off : Cond.code yX4_off cX4_off 2 (some .int) ∈ WS := List.mem_filter.mpr ⟨List.mem_of_getElem? (i := 720) rfl, rfl⟩
set_option maxRecDepth 20000 in
theorem mT_X4_off : Cond.static yX4_off ∈ WS := List.mem_filter.mpr ⟨List.mem_of_getElem? (i := 719) rfl, rfl⟩
set_option maxRecDepth 20000 in
theorem mK_X4_leadRow : Cond.code yX4_leadRow cX4_leadRow 2 (some .int) ∈ WS := List.mem_filter.mpr ⟨List.mem_of_getElem? (i := 724) rfl, rfl⟩
set_option maxRecDepth 20000 in
theorem mM_X4_leadRow : Cond.instanceMethod yX4_leadRow ∈ WS := List.mem_filter.mpr ⟨List.mem_of_getElem? (i := 723) rfl, rfl⟩
set_option maxRecDepth 20000 in
theorem mS_X4_leadRow : Cond.selects RX4 yX4_leadRow yX4_leadRow ∈ WS := List.mem_filter.mpr ⟨List.mem_of_getElem? (i := 39) rfl, rfl⟩
set_option maxRecDepth 20000 in
theorem mK_X4_isTooHot : Cond.code yX4_isTooHot cX4_isTooHot 5 (some .boolean) ∈ WS := List.mem_filter.mpr ⟨List.mem_of_getElem? (i := 728) rfl, rfl⟩
set_option maxRecDepth 20000 in
theorem mM_X4_isTooHot : Cond.instanceMethod yX4_isTooHot ∈ WS := List.mem_filter.mpr ⟨List.mem_of_getElem? (i := 727) rfl, rfl⟩
set_option maxRecDepth 20000 in
theorem mS_X4_isTooHot : Cond.selects RX4 yX4_isTooHot yX4_isTooHot ∈ WS := List.mem_filter.mpr ⟨List.mem_of_getElem? (i := 40) rfl, rfl⟩
set_option maxRecDepth 20000 in
theorem mK_X4_edgeIn : Cond.code yX4_edgeIn cX4_edgeIn 5 (some .int) ∈ WS := List.mem_filter.mpr ⟨List.mem_of_getElem? (i := 732) rfl, rfl⟩
set_option maxRecDepth 20000 in
theorem mM_X4_edgeIn : Cond.instanceMethod yX4_edgeIn ∈ WS := List.mem_filter.mpr ⟨List.mem_of_getElem? (i := 731) rfl, rfl⟩
set_option maxRecDepth 20000 in
theorem mS_X4_edgeIn : Cond.selects RX4 yX4_edgeIn yX4_edgeIn ∈ WS := List.mem_filter.mpr ⟨List.mem_of_getElem? (i := 41) rfl, rfl⟩
set_option maxRecDepth 20000 in
theorem mK_X4_isOnEdge : Cond.code yX4_isOnEdge cX4_isOnEdge 5 (some .boolean) ∈ WS := List.mem_filter.mpr ⟨List.mem_of_getElem? (i := 736) rfl, rfl⟩
set_option maxRecDepth 20000 in
theorem mM_X4_isOnEdge : Cond.instanceMethod yX4_isOnEdge ∈ WS := List.mem_filter.mpr ⟨List.mem_of_getElem? (i := 735) rfl, rfl⟩
set_option maxRecDepth 20000 in
theorem mS_X4_isOnEdge : Cond.selects RX4 yX4_isOnEdge yX4_isOnEdge ∈ WS := List.mem_filter.mpr ⟨List.mem_of_getElem? (i := 42) rfl, rfl⟩
set_option maxRecDepth 20000 in
theorem mK_X4_cooled : Cond.code yX4_cooled cX4_cooled 2 (some .int) ∈ WS := List.mem_filter.mpr ⟨List.mem_of_getElem? (i := 739) rfl, rfl⟩
set_option maxRecDepth 20000 in
theorem mT_X4_cooled : Cond.static yX4_cooled ∈ WS := List.mem_filter.mpr ⟨List.mem_of_getElem? (i := 738) rfl, rfl⟩
set_option maxRecDepth 20000 in
theorem mK_X4_cools : Cond.code yX4_cools cX4_cools 3 none ∈ WS := List.mem_filter.mpr ⟨List.mem_of_getElem? (i := 743) rfl, rfl⟩
set_option maxRecDepth 20000 in
theorem mM_X4_cools : Cond.instanceMethod yX4_cools ∈ WS := List.mem_filter.mpr ⟨List.mem_of_getElem? (i := 742) rfl, rfl⟩
set_option maxRecDepth 20000 in
theorem mS_X4_cools : Cond.selects RX4 yX4_cools yX4_cools ∈ WS := List.mem_filter.mpr ⟨List.mem_of_getElem? (i := 43) rfl, rfl⟩
set_option maxRecDepth 20000 in
theorem mK_X4_burning : Cond.code yX4_burning cX4_burning 2 (some .int) ∈ WS := List.mem_filter.mpr ⟨List.mem_of_getElem? (i := 747) rfl, rfl⟩
set_option maxRecDepth 20000 in
theorem mM_X4_burning : Cond.instanceMethod yX4_burning ∈ WS := List.mem_filter.mpr ⟨List.mem_of_getElem? (i := 746) rfl, rfl⟩
set_option maxRecDepth 20000 in
theorem mS_X4_burning : Cond.selects RX4 yX4_burning yX4_burning ∈ WS := List.mem_filter.mpr ⟨List.mem_of_getElem? (i := 44) rfl, rfl⟩
set_option maxRecDepth 20000 in
theorem mK_X4_edge : Cond.code yX4_edge cX4_edge 2 (some .int) ∈ WS := List.mem_filter.mpr ⟨List.mem_of_getElem? (i := 751) rfl, rfl⟩
set_option maxRecDepth 20000 in
theorem mM_X4_edge : Cond.instanceMethod yX4_edge ∈ WS := List.mem_filter.mpr ⟨List.mem_of_getElem? (i := 750) rfl, rfl⟩
set_option maxRecDepth 20000 in
theorem mS_X4_edge : Cond.selects RX4 yX4_edge yX4_edge ∈ WS := List.mem_filter.mpr ⟨List.mem_of_getElem? (i := 45) rfl, rfl⟩
set_option maxRecDepth 20000 in
theorem mK_X4_hottest : Cond.code yX4_hottest cX4_hottest 3 (some .int) ∈ WS := List.mem_filter.mpr ⟨List.mem_of_getElem? (i := 755) rfl, rfl⟩
set_option maxRecDepth 20000 in
theorem mM_X4_hottest : Cond.instanceMethod yX4_hottest ∈ WS := List.mem_filter.mpr ⟨List.mem_of_getElem? (i := 754) rfl, rfl⟩
set_option maxRecDepth 20000 in
theorem mS_X4_hottest : Cond.selects RX4 yX4_hottest yX4_hottest ∈ WS := List.mem_filter.mpr ⟨List.mem_of_getElem? (i := 46) rfl, rfl⟩
set_option maxRecDepth 20000 in
theorem mK_X4_pause : Cond.code yX4_pause cX4_pause 2 (some .int) ∈ WS := List.mem_filter.mpr ⟨List.mem_of_getElem? (i := 759) rfl, rfl⟩
set_option maxRecDepth 20000 in
theorem mM_X4_pause : Cond.instanceMethod yX4_pause ∈ WS := List.mem_filter.mpr ⟨List.mem_of_getElem? (i := 757) rfl, rfl⟩
set_option maxRecDepth 20000 in
theorem mS_X4_pause : Cond.selects RX4 yX4_pause yX4_pause ∈ WS := List.mem_filter.mpr ⟨List.mem_of_getElem? (i := 758) rfl, rfl⟩
set_option maxRecDepth 20000 in
theorem mK_X4_waits : Cond.code yX4_waits cX4_waits 2 (some .int) ∈ WS := List.mem_filter.mpr ⟨List.mem_of_getElem? (i := 763) rfl, rfl⟩
set_option maxRecDepth 20000 in
theorem mM_X4_waits : Cond.instanceMethod yX4_waits ∈ WS := List.mem_filter.mpr ⟨List.mem_of_getElem? (i := 762) rfl, rfl⟩
set_option maxRecDepth 20000 in
theorem mS_X4_waits : Cond.selects RX4 yX4_waits yX4_waits ∈ WS := List.mem_filter.mpr ⟨List.mem_of_getElem? (i := 47) rfl, rfl⟩
set_option maxRecDepth 20000 in
theorem mK_X4_clean : Cond.code yX4_clean cX4_clean 1 (some .int) ∈ WS := List.mem_filter.mpr ⟨List.mem_of_getElem? (i := 767) rfl, rfl⟩
set_option maxRecDepth 20000 in
theorem mM_X4_clean : Cond.instanceMethod yX4_clean ∈ WS := List.mem_filter.mpr ⟨List.mem_of_getElem? (i := 765) rfl, rfl⟩
set_option maxRecDepth 20000 in
theorem mS_X4_clean : Cond.selects RX4 yX4_clean yX4_clean ∈ WS := List.mem_filter.mpr ⟨List.mem_of_getElem? (i := 766) rfl, rfl⟩
set_option maxRecDepth 20000 in
theorem mK_X4_cleans : Cond.code yX4_cleans cX4_cleans 2 (some .int) ∈ WS := List.mem_filter.mpr ⟨List.mem_of_getElem? (i := 771) rfl, rfl⟩
set_option maxRecDepth 20000 in
theorem mM_X4_cleans : Cond.instanceMethod yX4_cleans ∈ WS := List.mem_filter.mpr ⟨List.mem_of_getElem? (i := 770) rfl, rfl⟩
set_option maxRecDepth 20000 in
theorem mS_X4_cleans : Cond.selects RX4 yX4_cleans yX4_cleans ∈ WS := List.mem_filter.mpr ⟨List.mem_of_getElem? (i := 48) rfl, rfl⟩
set_option maxRecDepth 20000 in
theorem mK_X4_type : Cond.code yX4_type cX4_type 2 (some .int) ∈ WS := List.mem_filter.mpr ⟨List.mem_of_getElem? (i := 775) rfl, rfl⟩
set_option maxRecDepth 20000 in
theorem mM_X4_type : Cond.instanceMethod yX4_type ∈ WS := List.mem_filter.mpr ⟨List.mem_of_getElem? (i := 773) rfl, rfl⟩
set_option maxRecDepth 20000 in
theorem mS_X4_type : Cond.selects RX4 yX4_type yX4_type ∈ WS := List.mem_filter.mpr ⟨List.mem_of_getElem? (i := 774) rfl, rfl⟩
set_option maxRecDepth 20000 in
theorem mK_X4_clearText : Cond.code yX4_clearText cX4_clearText 2 (some .int) ∈ WS := List.mem_filter.mpr ⟨List.mem_of_getElem? (i := 779) rfl, rfl⟩
set_option maxRecDepth 20000 in
theorem mM_X4_clearText : Cond.instanceMethod yX4_clearText ∈ WS := List.mem_filter.mpr ⟨List.mem_of_getElem? (i := 777) rfl, rfl⟩
set_option maxRecDepth 20000 in
theorem mS_X4_clearText : Cond.selects RX4 yX4_clearText yX4_clearText ∈ WS := List.mem_filter.mpr ⟨List.mem_of_getElem? (i := 778) rfl, rfl⟩
set_option maxRecDepth 20000 in
theorem mK_X4_perform : Cond.code yX4_perform cX4_perform 4 (some .int) ∈ WS := List.mem_filter.mpr ⟨List.mem_of_getElem? (i := 783) rfl, rfl⟩
set_option maxRecDepth 20000 in
theorem mM_X4_perform : Cond.instanceMethod yX4_perform ∈ WS := List.mem_filter.mpr ⟨List.mem_of_getElem? (i := 781) rfl, rfl⟩
set_option maxRecDepth 20000 in
theorem mS_X4_perform : Cond.selects RX4 yX4_perform yX4_perform ∈ WS := List.mem_filter.mpr ⟨List.mem_of_getElem? (i := 782) rfl, rfl⟩
set_option maxRecDepth 20000 in
theorem mK_X4_runs : Cond.code yX4_runs cX4_runs 6 (some .int) ∈ WS := List.mem_filter.mpr ⟨List.mem_of_getElem? (i := 787) rfl, rfl⟩
set_option maxRecDepth 20000 in
theorem mM_X4_runs : Cond.instanceMethod yX4_runs ∈ WS := List.mem_filter.mpr ⟨List.mem_of_getElem? (i := 786) rfl, rfl⟩
set_option maxRecDepth 20000 in
theorem mS_X4_runs : Cond.selects RX4 yX4_runs yX4_runs ∈ WS := List.mem_filter.mpr ⟨List.mem_of_getElem? (i := 49) rfl, rfl⟩
set_option maxRecDepth 20000 in
theorem mK_X4_readThing : Cond.code yX4_readThing cX4_readThing 2 none ∈ WS := List.mem_filter.mpr ⟨List.mem_of_getElem? (i := 791) rfl, rfl⟩
set_option maxRecDepth 20000 in
theorem mM_X4_readThing : Cond.instanceMethod yX4_readThing ∈ WS := List.mem_filter.mpr ⟨List.mem_of_getElem? (i := 790) rfl, rfl⟩
set_option maxRecDepth 20000 in
theorem mS_X4_readThing : Cond.selects RX4 yX4_readThing yX4_readThing ∈ WS := List.mem_filter.mpr ⟨List.mem_of_getElem? (i := 50) rfl, rfl⟩
set_option maxRecDepth 20000 in
theorem mK_X4_takesNumber : Cond.code yX4_takesNumber cX4_takesNumber 5 (some .int) ∈ WS := List.mem_filter.mpr ⟨List.mem_of_getElem? (i := 795) rfl, rfl⟩
set_option maxRecDepth 20000 in
theorem mM_X4_takesNumber : Cond.instanceMethod yX4_takesNumber ∈ WS := List.mem_filter.mpr ⟨List.mem_of_getElem? (i := 794) rfl, rfl⟩
set_option maxRecDepth 20000 in
theorem mS_X4_takesNumber : Cond.selects RX4 yX4_takesNumber yX4_takesNumber ∈ WS := List.mem_filter.mpr ⟨List.mem_of_getElem? (i := 51) rfl, rfl⟩
set_option maxRecDepth 20000 in
theorem mK_X4_takesOne : Cond.code yX4_takesOne cX4_takesOne 4 (some .int) ∈ WS := List.mem_filter.mpr ⟨List.mem_of_getElem? (i := 799) rfl, rfl⟩
set_option maxRecDepth 20000 in
theorem mM_X4_takesOne : Cond.instanceMethod yX4_takesOne ∈ WS := List.mem_filter.mpr ⟨List.mem_of_getElem? (i := 798) rfl, rfl⟩
set_option maxRecDepth 20000 in
theorem mS_X4_takesOne : Cond.selects RX4 yX4_takesOne yX4_takesOne ∈ WS := List.mem_filter.mpr ⟨List.mem_of_getElem? (i := 52) rfl, rfl⟩
set_option maxRecDepth 20000 in
theorem mK_X4_isNext : Cond.code yX4_isNext cX4_isNext 3 (some .boolean) ∈ WS := List.mem_filter.mpr ⟨List.mem_of_getElem? (i := 803) rfl, rfl⟩
set_option maxRecDepth 20000 in
theorem mM_X4_isNext : Cond.instanceMethod yX4_isNext ∈ WS := List.mem_filter.mpr ⟨List.mem_of_getElem? (i := 802) rfl, rfl⟩
set_option maxRecDepth 20000 in
theorem mS_X4_isNext : Cond.selects RX4 yX4_isNext yX4_isNext ∈ WS := List.mem_filter.mpr ⟨List.mem_of_getElem? (i := 53) rfl, rfl⟩
set_option maxRecDepth 20000 in
theorem mK_X4_does : Cond.code yX4_does cX4_does 1 (some .int) ∈ WS := List.mem_filter.mpr ⟨List.mem_of_getElem? (i := 807) rfl, rfl⟩
set_option maxRecDepth 20000 in
theorem mM_X4_does : Cond.instanceMethod yX4_does ∈ WS := List.mem_filter.mpr ⟨List.mem_of_getElem? (i := 806) rfl, rfl⟩
set_option maxRecDepth 20000 in
theorem mS_X4_does : Cond.selects RX4 yX4_does yX4_does ∈ WS := List.mem_filter.mpr ⟨List.mem_of_getElem? (i := 54) rfl, rfl⟩
set_option maxRecDepth 20000 in
theorem mK_X4_stopped : Cond.code yX4_stopped cX4_stopped 2 (some .int) ∈ WS := List.mem_filter.mpr ⟨List.mem_of_getElem? (i := 811) rfl, rfl⟩
set_option maxRecDepth 20000 in
theorem mM_X4_stopped : Cond.instanceMethod yX4_stopped ∈ WS := List.mem_filter.mpr ⟨List.mem_of_getElem? (i := 809) rfl, rfl⟩
set_option maxRecDepth 20000 in
theorem mS_X4_stopped : Cond.selects RX4 yX4_stopped yX4_stopped ∈ WS := List.mem_filter.mpr ⟨List.mem_of_getElem? (i := 810) rfl, rfl⟩
set_option maxRecDepth 20000 in
theorem mK_X4_undo : Cond.code yX4_undo cX4_undo 2 (some .int) ∈ WS := List.mem_filter.mpr ⟨List.mem_of_getElem? (i := 815) rfl, rfl⟩
set_option maxRecDepth 20000 in
theorem mM_X4_undo : Cond.instanceMethod yX4_undo ∈ WS := List.mem_filter.mpr ⟨List.mem_of_getElem? (i := 813) rfl, rfl⟩
set_option maxRecDepth 20000 in
theorem mS_X4_undo : Cond.selects RX4 yX4_undo yX4_undo ∈ WS := List.mem_filter.mpr ⟨List.mem_of_getElem? (i := 814) rfl, rfl⟩
set_option maxRecDepth 20000 in
theorem mK_X4_keep : Cond.code yX4_keep cX4_keep 2 (some .int) ∈ WS := List.mem_filter.mpr ⟨List.mem_of_getElem? (i := 819) rfl, rfl⟩
set_option maxRecDepth 20000 in
theorem mM_X4_keep : Cond.instanceMethod yX4_keep ∈ WS := List.mem_filter.mpr ⟨List.mem_of_getElem? (i := 817) rfl, rfl⟩
set_option maxRecDepth 20000 in
theorem mS_X4_keep : Cond.selects RX4 yX4_keep yX4_keep ∈ WS := List.mem_filter.mpr ⟨List.mem_of_getElem? (i := 818) rfl, rfl⟩
set_option maxRecDepth 20000 in
theorem mK_X4_restore : Cond.code yX4_restore cX4_restore 2 (some .int) ∈ WS := List.mem_filter.mpr ⟨List.mem_of_getElem? (i := 823) rfl, rfl⟩
set_option maxRecDepth 20000 in
theorem mM_X4_restore : Cond.instanceMethod yX4_restore ∈ WS := List.mem_filter.mpr ⟨List.mem_of_getElem? (i := 821) rfl, rfl⟩
set_option maxRecDepth 20000 in
theorem mS_X4_restore : Cond.selects RX4 yX4_restore yX4_restore ∈ WS := List.mem_filter.mpr ⟨List.mem_of_getElem? (i := 822) rfl, rfl⟩
set_option maxRecDepth 20000 in
theorem mK_X4_shape : Cond.code yX4_shape cX4_shape 3 (some .int) ∈ WS := List.mem_filter.mpr ⟨List.mem_of_getElem? (i := 827) rfl, rfl⟩
set_option maxRecDepth 20000 in
theorem mM_X4_shape : Cond.instanceMethod yX4_shape ∈ WS := List.mem_filter.mpr ⟨List.mem_of_getElem? (i := 825) rfl, rfl⟩
set_option maxRecDepth 20000 in
theorem mS_X4_shape : Cond.selects RX4 yX4_shape yX4_shape ∈ WS := List.mem_filter.mpr ⟨List.mem_of_getElem? (i := 826) rfl, rfl⟩
set_option maxRecDepth 20000 in
theorem mK_X4_outer : Cond.code yX4_outer cX4_outer 4 (some .int) ∈ WS := List.mem_filter.mpr ⟨List.mem_of_getElem? (i := 831) rfl, rfl⟩
set_option maxRecDepth 20000 in
theorem mM_X4_outer : Cond.instanceMethod yX4_outer ∈ WS := List.mem_filter.mpr ⟨List.mem_of_getElem? (i := 830) rfl, rfl⟩
set_option maxRecDepth 20000 in
theorem mS_X4_outer : Cond.selects RX4 yX4_outer yX4_outer ∈ WS := List.mem_filter.mpr ⟨List.mem_of_getElem? (i := 55) rfl, rfl⟩
set_option maxRecDepth 20000 in
theorem mK_X4_inner : Cond.code yX4_inner cX4_inner 4 (some .int) ∈ WS := List.mem_filter.mpr ⟨List.mem_of_getElem? (i := 835) rfl, rfl⟩
set_option maxRecDepth 20000 in
theorem mM_X4_inner : Cond.instanceMethod yX4_inner ∈ WS := List.mem_filter.mpr ⟨List.mem_of_getElem? (i := 834) rfl, rfl⟩
set_option maxRecDepth 20000 in
theorem mS_X4_inner : Cond.selects RX4 yX4_inner yX4_inner ∈ WS := List.mem_filter.mpr ⟨List.mem_of_getElem? (i := 56) rfl, rfl⟩
set_option maxRecDepth 20000 in
theorem mK_X4_heat : Cond.code yX4_heat cX4_heat 2 (some .int) ∈ WS := List.mem_filter.mpr ⟨List.mem_of_getElem? (i := 839) rfl, rfl⟩
set_option maxRecDepth 20000 in
theorem mM_X4_heat : Cond.instanceMethod yX4_heat ∈ WS := List.mem_filter.mpr ⟨List.mem_of_getElem? (i := 837) rfl, rfl⟩
set_option maxRecDepth 20000 in
theorem mS_X4_heat : Cond.selects RX4 yX4_heat yX4_heat ∈ WS := List.mem_filter.mpr ⟨List.mem_of_getElem? (i := 838) rfl, rfl⟩
set_option maxRecDepth 20000 in
theorem mK_X4_reason : Cond.code yX4_reason cX4_reason 2 (some .int) ∈ WS := List.mem_filter.mpr ⟨List.mem_of_getElem? (i := 843) rfl, rfl⟩
set_option maxRecDepth 20000 in
theorem mM_X4_reason : Cond.instanceMethod yX4_reason ∈ WS := List.mem_filter.mpr ⟨List.mem_of_getElem? (i := 841) rfl, rfl⟩
set_option maxRecDepth 20000 in
theorem mS_X4_reason : Cond.selects RX4 yX4_reason yX4_reason ∈ WS := List.mem_filter.mpr ⟨List.mem_of_getElem? (i := 842) rfl, rfl⟩
set_option maxRecDepth 20000 in
theorem mK_X4_takes : Cond.code yX4_takes cX4_takes 2 (some .int) ∈ WS := List.mem_filter.mpr ⟨List.mem_of_getElem? (i := 847) rfl, rfl⟩
set_option maxRecDepth 20000 in
theorem mM_X4_takes : Cond.instanceMethod yX4_takes ∈ WS := List.mem_filter.mpr ⟨List.mem_of_getElem? (i := 845) rfl, rfl⟩
set_option maxRecDepth 20000 in
theorem mS_X4_takes : Cond.selects RX4 yX4_takes yX4_takes ∈ WS := List.mem_filter.mpr ⟨List.mem_of_getElem? (i := 846) rfl, rfl⟩
set_option maxRecDepth 20000 in
theorem mK_X4_ticksOf : Cond.code yX4_ticksOf cX4_ticksOf 2 (some .int) ∈ WS := List.mem_filter.mpr ⟨List.mem_of_getElem? (i := 851) rfl, rfl⟩
set_option maxRecDepth 20000 in
theorem mM_X4_ticksOf : Cond.instanceMethod yX4_ticksOf ∈ WS := List.mem_filter.mpr ⟨List.mem_of_getElem? (i := 850) rfl, rfl⟩
set_option maxRecDepth 20000 in
theorem mS_X4_ticksOf : Cond.selects RX4 yX4_ticksOf yX4_ticksOf ∈ WS := List.mem_filter.mpr ⟨List.mem_of_getElem? (i := 57) rfl, rfl⟩
set_option maxRecDepth 20000 in
theorem mK_X4_coolsIn : Cond.code yX4_coolsIn cX4_coolsIn 2 (some .int) ∈ WS := List.mem_filter.mpr ⟨List.mem_of_getElem? (i := 855) rfl, rfl⟩
set_option maxRecDepth 20000 in
theorem mM_X4_coolsIn : Cond.instanceMethod yX4_coolsIn ∈ WS := List.mem_filter.mpr ⟨List.mem_of_getElem? (i := 853) rfl, rfl⟩
set_option maxRecDepth 20000 in
theorem mS_X4_coolsIn : Cond.selects RX4 yX4_coolsIn yX4_coolsIn ∈ WS := List.mem_filter.mpr ⟨List.mem_of_getElem? (i := 854) rfl, rfl⟩
set_option maxRecDepth 20000 in
theorem mK_X4_waitFor : Cond.code yX4_waitFor cX4_waitFor 6 (some .int) ∈ WS := List.mem_filter.mpr ⟨List.mem_of_getElem? (i := 859) rfl, rfl⟩
set_option maxRecDepth 20000 in
theorem mM_X4_waitFor : Cond.instanceMethod yX4_waitFor ∈ WS := List.mem_filter.mpr ⟨List.mem_of_getElem? (i := 858) rfl, rfl⟩
set_option maxRecDepth 20000 in
theorem mS_X4_waitFor : Cond.selects RX4 yX4_waitFor yX4_waitFor ∈ WS := List.mem_filter.mpr ⟨List.mem_of_getElem? (i := 58) rfl, rfl⟩
set_option maxRecDepth 20000 in
theorem mK_X4_best : Cond.code yX4_best cX4_best 1 (some .int) ∈ WS := List.mem_filter.mpr ⟨List.mem_of_getElem? (i := 863) rfl, rfl⟩
set_option maxRecDepth 20000 in
theorem mM_X4_best : Cond.instanceMethod yX4_best ∈ WS := List.mem_filter.mpr ⟨List.mem_of_getElem? (i := 861) rfl, rfl⟩
set_option maxRecDepth 20000 in
theorem mS_X4_best : Cond.selects RX4 yX4_best yX4_best ∈ WS := List.mem_filter.mpr ⟨List.mem_of_getElem? (i := 862) rfl, rfl⟩
set_option maxRecDepth 20000 in
theorem mK_X4_bestOne : Cond.code yX4_bestOne cX4_bestOne 3 (some .int) ∈ WS := List.mem_filter.mpr ⟨List.mem_of_getElem? (i := 867) rfl, rfl⟩
set_option maxRecDepth 20000 in
theorem mM_X4_bestOne : Cond.instanceMethod yX4_bestOne ∈ WS := List.mem_filter.mpr ⟨List.mem_of_getElem? (i := 866) rfl, rfl⟩
set_option maxRecDepth 20000 in
theorem mS_X4_bestOne : Cond.selects RX4 yX4_bestOne yX4_bestOne ∈ WS := List.mem_filter.mpr ⟨List.mem_of_getElem? (i := 59) rfl, rfl⟩
set_option maxRecDepth 20000 in
theorem mK_X4_ordered : Cond.code yX4_ordered cX4_ordered 2 (some .int) ∈ WS := List.mem_filter.mpr ⟨List.mem_of_getElem? (i := 871) rfl, rfl⟩
set_option maxRecDepth 20000 in
theorem mM_X4_ordered : Cond.instanceMethod yX4_ordered ∈ WS := List.mem_filter.mpr ⟨List.mem_of_getElem? (i := 869) rfl, rfl⟩
set_option maxRecDepth 20000 in
theorem mS_X4_ordered : Cond.selects RX4 yX4_ordered yX4_ordered ∈ WS := List.mem_filter.mpr ⟨List.mem_of_getElem? (i := 870) rfl, rfl⟩
set_option maxRecDepth 20000 in
theorem mK_X4_layOrder : Cond.code yX4_layOrder cX4_layOrder 5 none ∈ WS := List.mem_filter.mpr ⟨List.mem_of_getElem? (i := 875) rfl, rfl⟩
set_option maxRecDepth 20000 in
theorem mM_X4_layOrder : Cond.instanceMethod yX4_layOrder ∈ WS := List.mem_filter.mpr ⟨List.mem_of_getElem? (i := 874) rfl, rfl⟩
set_option maxRecDepth 20000 in
theorem mS_X4_layOrder : Cond.selects RX4 yX4_layOrder yX4_layOrder ∈ WS := List.mem_filter.mpr ⟨List.mem_of_getElem? (i := 60) rfl, rfl⟩
set_option maxRecDepth 20000 in
theorem mK_X4_putAside : Cond.code yX4_putAside cX4_putAside 2 none ∈ WS := List.mem_filter.mpr ⟨List.mem_of_getElem? (i := 879) rfl, rfl⟩
set_option maxRecDepth 20000 in
theorem mM_X4_putAside : Cond.instanceMethod yX4_putAside ∈ WS := List.mem_filter.mpr ⟨List.mem_of_getElem? (i := 878) rfl, rfl⟩
set_option maxRecDepth 20000 in
theorem mS_X4_putAside : Cond.selects RX4 yX4_putAside yX4_putAside ∈ WS := List.mem_filter.mpr ⟨List.mem_of_getElem? (i := 61) rfl, rfl⟩
set_option maxRecDepth 20000 in
theorem mK_X4_soonest : Cond.code yX4_soonest cX4_soonest 4 (some .int) ∈ WS := List.mem_filter.mpr ⟨List.mem_of_getElem? (i := 883) rfl, rfl⟩
set_option maxRecDepth 20000 in
theorem mM_X4_soonest : Cond.instanceMethod yX4_soonest ∈ WS := List.mem_filter.mpr ⟨List.mem_of_getElem? (i := 882) rfl, rfl⟩
set_option maxRecDepth 20000 in
theorem mS_X4_soonest : Cond.selects RX4 yX4_soonest yX4_soonest ∈ WS := List.mem_filter.mpr ⟨List.mem_of_getElem? (i := 62) rfl, rfl⟩
set_option maxRecDepth 20000 in
theorem mK_X4_many : Cond.code yX4_many cX4_many 4 (some .int) ∈ WS := List.mem_filter.mpr ⟨List.mem_of_getElem? (i := 887) rfl, rfl⟩
set_option maxRecDepth 20000 in
theorem mM_X4_many : Cond.instanceMethod yX4_many ∈ WS := List.mem_filter.mpr ⟨List.mem_of_getElem? (i := 886) rfl, rfl⟩
set_option maxRecDepth 20000 in
theorem mS_X4_many : Cond.selects RX4 yX4_many yX4_many ∈ WS := List.mem_filter.mpr ⟨List.mem_of_getElem? (i := 63) rfl, rfl⟩
set_option maxRecDepth 20000 in
theorem mK_X4_putBack : Cond.code yX4_putBack cX4_putBack 2 none ∈ WS := List.mem_filter.mpr ⟨List.mem_of_getElem? (i := 891) rfl, rfl⟩
set_option maxRecDepth 20000 in
theorem mM_X4_putBack : Cond.instanceMethod yX4_putBack ∈ WS := List.mem_filter.mpr ⟨List.mem_of_getElem? (i := 890) rfl, rfl⟩
set_option maxRecDepth 20000 in
theorem mS_X4_putBack : Cond.selects RX4 yX4_putBack yX4_putBack ∈ WS := List.mem_filter.mpr ⟨List.mem_of_getElem? (i := 64) rfl, rfl⟩
set_option maxRecDepth 20000 in
theorem mK_X4_allTakes : Cond.code yX4_allTakes cX4_allTakes 1 (some .int) ∈ WS := List.mem_filter.mpr ⟨List.mem_of_getElem? (i := 895) rfl, rfl⟩
set_option maxRecDepth 20000 in
theorem mM_X4_allTakes : Cond.instanceMethod yX4_allTakes ∈ WS := List.mem_filter.mpr ⟨List.mem_of_getElem? (i := 893) rfl, rfl⟩
set_option maxRecDepth 20000 in
theorem mS_X4_allTakes : Cond.selects RX4 yX4_allTakes yX4_allTakes ∈ WS := List.mem_filter.mpr ⟨List.mem_of_getElem? (i := 894) rfl, rfl⟩
set_option maxRecDepth 20000 in
theorem mK_X4_count : Cond.code yX4_count cX4_count 2 (some .int) ∈ WS := List.mem_filter.mpr ⟨List.mem_of_getElem? (i := 899) rfl, rfl⟩
set_option maxRecDepth 20000 in
theorem mM_X4_count : Cond.instanceMethod yX4_count ∈ WS := List.mem_filter.mpr ⟨List.mem_of_getElem? (i := 897) rfl, rfl⟩
set_option maxRecDepth 20000 in
theorem mS_X4_count : Cond.selects RX4 yX4_count yX4_count ∈ WS := List.mem_filter.mpr ⟨List.mem_of_getElem? (i := 898) rfl, rfl⟩
set_option maxRecDepth 20000 in
theorem mK_X4_tilted : Cond.code yX4_tilted cX4_tilted 3 (some .int) ∈ WS := List.mem_filter.mpr ⟨List.mem_of_getElem? (i := 903) rfl, rfl⟩
set_option maxRecDepth 20000 in
theorem mM_X4_tilted : Cond.instanceMethod yX4_tilted ∈ WS := List.mem_filter.mpr ⟨List.mem_of_getElem? (i := 902) rfl, rfl⟩
set_option maxRecDepth 20000 in
theorem mS_X4_tilted : Cond.selects RX4 yX4_tilted yX4_tilted ∈ WS := List.mem_filter.mpr ⟨List.mem_of_getElem? (i := 65) rfl, rfl⟩
set_option maxRecDepth 20000 in
theorem mK_X4_hottestSquare : Cond.code yX4_hottestSquare cX4_hottestSquare 3 (some .int) ∈ WS := List.mem_filter.mpr ⟨List.mem_of_getElem? (i := 907) rfl, rfl⟩
set_option maxRecDepth 20000 in
theorem mM_X4_hottestSquare : Cond.instanceMethod yX4_hottestSquare ∈ WS := List.mem_filter.mpr ⟨List.mem_of_getElem? (i := 906) rfl, rfl⟩
set_option maxRecDepth 20000 in
theorem mS_X4_hottestSquare : Cond.selects RX4 yX4_hottestSquare yX4_hottestSquare ∈ WS := List.mem_filter.mpr ⟨List.mem_of_getElem? (i := 66) rfl, rfl⟩
set_option maxRecDepth 20000 in
theorem mK_X4_allHeat : Cond.code yX4_allHeat cX4_allHeat 3 (some .int) ∈ WS := List.mem_filter.mpr ⟨List.mem_of_getElem? (i := 911) rfl, rfl⟩
set_option maxRecDepth 20000 in
theorem mM_X4_allHeat : Cond.instanceMethod yX4_allHeat ∈ WS := List.mem_filter.mpr ⟨List.mem_of_getElem? (i := 910) rfl, rfl⟩
set_option maxRecDepth 20000 in
theorem mS_X4_allHeat : Cond.selects RX4 yX4_allHeat yX4_allHeat ∈ WS := List.mem_filter.mpr ⟨List.mem_of_getElem? (i := 67) rfl, rfl⟩
theorem nX0 : ∀ w ∈ wsX00, w ∈ WS := by decide +kernel
theorem nX1 : ∀ w ∈ wsX10, w ∈ WS := by decide +kernel
theorem nX2 : ∀ w ∈ wsX20, w ∈ WS := by decide +kernel
theorem nX3 : ∀ w ∈ wsX30, w ∈ WS := by decide +kernel
theorem nX4 : ∀ w ∈ wsX40, w ∈ WS := by decide +kernel
