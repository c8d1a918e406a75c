/-! each method: bytes, locals, class, room, what it returns, name; what a call of it wants (by program: wip/whole/gen_methods.py) -/
abbrev YX3_init : YX := (cX3_init, 2, RX3, { frames := 3, cells := 246, slots := 2657, locals := 61 }, none, "<init>")
theorem qI_X3_init : MqI yX3_init YX3_init 0 := ⟨mM_X3_init, rfl, mI_X3, mK_X3_init, by decide +kernel, by decide +kernel, by decide +kernel⟩
abbrev YX2_init : YX := (cX2_init, 2, RX2, { frames := 2, cells := 29, slots := 302, locals := 40 }, none, "<init>")
theorem qI_X2_init : MqI yX2_init YX2_init 0 := ⟨mM_X2_init, rfl, mI_X2, mK_X2_init, by decide +kernel, by decide +kernel, by decide +kernel⟩
abbrev YX1_init : YX := (cX1_init, 1, RX1, { frames := 1, cells := 1, slots := 12, locals := 20 }, none, "<init>")
theorem qI_X1_init : MqI yX1_init YX1_init 0 := ⟨mM_X1_init, rfl, mI_X1, mK_X1_init, by decide +kernel, by decide +kernel, by decide +kernel⟩
abbrev YX0_init : YX := (cX0_init, 1, RX0, { frames := 1, cells := 4, slots := 150, locals := 20 }, none, "<init>")
theorem qI_X0_init : MqI yX0_init YX0_init 0 := ⟨mM_X0_init, rfl, mI_X0, mK_X0_init, by decide +kernel, by decide +kernel, by decide +kernel⟩
abbrev YX3_undo : YX := (cX3_undo, 1, RX3, { frames := 2, cells := 0, slots := 0, locals := 44 }, (some .int), "undo")
theorem qV_X3_undo : MqV yX3_undo YX3_undo 0 := ⟨mM_X3_undo, mS_X3_undo, mI_X3, mK_X3_undo, by decide +kernel, by decide +kernel, by decide +kernel⟩
abbrev YX2_copyFrom : YX := (cX2_copyFrom, 3, RX2, { frames := 1, cells := 0, slots := 0, locals := 22 }, none, "copyFrom")
theorem qV_X2_copyFrom : MqV yX2_copyFrom YX2_copyFrom 1 := ⟨mM_X2_copyFrom, mS_X2_copyFrom, mI_X2, mK_X2_copyFrom, by decide +kernel, by decide +kernel, by decide +kernel⟩
abbrev YX1_copyFrom : YX := (cX1_copyFrom, 3, RX1, { frames := 0, cells := 0, slots := 0, locals := 0 }, none, "copyFrom")
theorem qV_X1_copyFrom : MqV yX1_copyFrom YX1_copyFrom 1 := ⟨mM_X1_copyFrom, mS_X1_copyFrom, mI_X1, mK_X1_copyFrom, by decide +kernel, by decide +kernel, by decide +kernel⟩
abbrev YX3_restore : YX := (cX3_restore, 1, RX3, { frames := 3, cells := 0, slots := 0, locals := 65 }, (some .int), "restore")
theorem qV_X3_restore : MqV yX3_restore YX3_restore 0 := ⟨mM_X3_restore, mS_X3_restore, mI_X3, mK_X3_restore, by decide +kernel, by decide +kernel, by decide +kernel⟩
abbrev YX3_recorded : YX := (cX3_recorded, 2, RX3, { frames := 2, cells := 0, slots := 0, locals := 44 }, (some .int), "recorded")
theorem qV_X3_recorded : MqV yX3_recorded YX3_recorded 1 := ⟨mM_X3_recorded, mS_X3_recorded, mI_X3, mK_X3_recorded, by decide +kernel, by decide +kernel, by decide +kernel⟩
abbrev YX3_dropOldestState : YX := (cX3_dropOldestState, 3, RX3, { frames := 0, cells := 0, slots := 0, locals := 0 }, none, "dropOldestState")
theorem qV_X3_dropOldestState : MqV yX3_dropOldestState YX3_dropOldestState 0 := ⟨mM_X3_dropOldestState, mS_X3_dropOldestState, mI_X3, mK_X3_dropOldestState, by decide +kernel, by decide +kernel, by decide +kernel⟩
abbrev YX3_allTakes : YX := (cX3_allTakes, 2, RX3, { frames := 6, cells := 0, slots := 0, locals := 135 }, (some .int), "allTakes")
theorem qV_X3_allTakes : MqV yX3_allTakes YX3_allTakes 0 := ⟨mM_X3_allTakes, mS_X3_allTakes, mI_X3, mK_X3_allTakes, by decide +kernel, by decide +kernel, by decide +kernel⟩
abbrev YX2_cutNext : YX := (cX2_cutNext, 3, RX2, { frames := 5, cells := 0, slots := 0, locals := 113 }, (some .int), "cutNext")
theorem qV_X2_cutNext : MqV yX2_cutNext YX2_cutNext 0 := ⟨mM_X2_cutNext, mS_X2_cutNext, mI_X2, mK_X2_cutNext, by decide +kernel, by decide +kernel, by decide +kernel⟩
abbrev YX2_bestShape : YX := (cX2_bestShape, 5, RX2, { frames := 3, cells := 0, slots := 0, locals := 66 }, (some .int), "bestShape")
theorem qV_X2_bestShape : MqV yX2_bestShape YX2_bestShape 0 := ⟨mM_X2_bestShape, mS_X2_bestShape, mI_X2, mK_X2_bestShape, by decide +kernel, by decide +kernel, by decide +kernel⟩
abbrev YX2_reasonAgainst : YX := (cX2_reasonAgainst, 3, RX2, { frames := 2, cells := 0, slots := 0, locals := 44 }, (some .int), "reasonAgainst")
theorem qV_X2_reasonAgainst : MqV yX2_reasonAgainst YX2_reasonAgainst 1 := ⟨mM_X2_reasonAgainst, mS_X2_reasonAgainst, mI_X2, mK_X2_reasonAgainst, by decide +kernel, by decide +kernel, by decide +kernel⟩
abbrev YX2_holdsWholeShape : YX := (cX2_holdsWholeShape, 3, RX2, { frames := 1, cells := 0, slots := 0, locals := 21 }, (some .boolean), "holdsWholeShape")
theorem qV_X2_holdsWholeShape : MqV yX2_holdsWholeShape YX2_holdsWholeShape 1 := ⟨mM_X2_holdsWholeShape, mS_X2_holdsWholeShape, mI_X2, mK_X2_holdsWholeShape, by decide +kernel, by decide +kernel, by decide +kernel⟩
abbrev YX1_isInside : YX := (cX1_isInside, 2, RX1, { frames := 0, cells := 0, slots := 0, locals := 0 }, (some .boolean), "isInside")
theorem qV_X1_isInside : MqV yX1_isInside YX1_isInside 1 := ⟨mM_X1_isInside, mS_X1_isInside, mI_X1, mK_X1_isInside, by decide +kernel, by decide +kernel, by decide +kernel⟩
abbrev YX2_heatOver : YX := (cX2_heatOver, 4, RX2, { frames := 1, cells := 0, slots := 0, locals := 21 }, (some .int), "heatOver")
theorem qV_X2_heatOver : MqV yX2_heatOver YX2_heatOver 1 := ⟨mM_X2_heatOver, mS_X2_heatOver, mI_X2, mK_X2_heatOver, by decide +kernel, by decide +kernel, by decide +kernel⟩
abbrev YX2_wayTo : YX := (cX2_wayTo, 2, RX2, { frames := 1, cells := 0, slots := 0, locals := 21 }, (some .int), "wayTo")
theorem qV_X2_wayTo : MqV yX2_wayTo YX2_wayTo 1 := ⟨mM_X2_wayTo, mS_X2_wayTo, mI_X2, mK_X2_wayTo, by decide +kernel, by decide +kernel, by decide +kernel⟩
abbrev YX1_leadColumn : YX := (cX1_leadColumn, 1, RX1, { frames := 0, cells := 0, slots := 0, locals := 0 }, (some .int), "leadColumn")
theorem qV_X1_leadColumn : MqV yX1_leadColumn YX1_leadColumn 0 := ⟨mM_X1_leadColumn, mS_X1_leadColumn, mI_X1, mK_X1_leadColumn, by decide +kernel, by decide +kernel, by decide +kernel⟩
abbrev YX1_leadRow : YX := (cX1_leadRow, 1, RX1, { frames := 0, cells := 0, slots := 0, locals := 0 }, (some .int), "leadRow")
theorem qV_X1_leadRow : MqV yX1_leadRow YX1_leadRow 0 := ⟨mM_X1_leadRow, mS_X1_leadRow, mI_X1, mK_X1_leadRow, by decide +kernel, by decide +kernel, by decide +kernel⟩
abbrev YX2_ticksToCut : YX := (cX2_ticksToCut, 3, RX2, { frames := 2, cells := 0, slots := 0, locals := 42 }, (some .int), "ticksToCut")
theorem qV_X2_ticksToCut : MqV yX2_ticksToCut YX2_ticksToCut 1 := ⟨mM_X2_ticksToCut, mS_X2_ticksToCut, mI_X2, mK_X2_ticksToCut, by decide +kernel, by decide +kernel, by decide +kernel⟩
abbrev YX2_knows : YX := (cX2_knows, 2, RX2, { frames := 0, cells := 0, slots := 0, locals := 0 }, (some .boolean), "knows")
theorem qV_X2_knows : MqV yX2_knows YX2_knows 1 := ⟨mM_X2_knows, mS_X2_knows, mI_X2, mK_X2_knows, by decide +kernel, by decide +kernel, by decide +kernel⟩
abbrev YX2_burningOf : YX := (cX2_burningOf, 2, RX2, { frames := 1, cells := 0, slots := 0, locals := 20 }, (some .int), "burningOf")
theorem qV_X2_burningOf : MqV yX2_burningOf YX2_burningOf 1 := ⟨mM_X2_burningOf, mS_X2_burningOf, mI_X2, mK_X2_burningOf, by decide +kernel, by decide +kernel, by decide +kernel⟩
abbrev YX1_edge : YX := (cX1_edge, 1, RX1, { frames := 0, cells := 0, slots := 0, locals := 0 }, (some .int), "edge")
theorem qV_X1_edge : MqV yX1_edge YX1_edge 0 := ⟨mM_X1_edge, mS_X1_edge, mI_X1, mK_X1_edge, by decide +kernel, by decide +kernel, by decide +kernel⟩
abbrev YX2_fewestTicksToCool : YX := (cX2_fewestTicksToCool, 4, RX2, { frames := 4, cells := 0, slots := 0, locals := 90 }, (some .int), "fewestTicksToCool")
theorem qV_X2_fewestTicksToCool : MqV yX2_fewestTicksToCool YX2_fewestTicksToCool 0 := ⟨mM_X2_fewestTicksToCool, mS_X2_fewestTicksToCool, mI_X2, mK_X2_fewestTicksToCool, by decide +kernel, by decide +kernel, by decide +kernel⟩
abbrev YX2_ticksToCool : YX := (cX2_ticksToCool, 5, RX2, { frames := 3, cells := 0, slots := 0, locals := 66 }, (some .int), "ticksToCool")
theorem qV_X2_ticksToCool : MqV yX2_ticksToCool YX2_ticksToCool 1 := ⟨mM_X2_ticksToCool, mS_X2_ticksToCool, mI_X2, mK_X2_ticksToCool, by decide +kernel, by decide +kernel, by decide +kernel⟩
abbrev YX2_coolFor : YX := (cX2_coolFor, 3, RX2, { frames := 1, cells := 0, slots := 0, locals := 21 }, none, "coolFor")
theorem qV_X2_coolFor : MqV yX2_coolFor YX2_coolFor 1 := ⟨mM_X2_coolFor, mS_X2_coolFor, mI_X2, mK_X2_coolFor, by decide +kernel, by decide +kernel, by decide +kernel⟩
abbrev YX2_cutShape : YX := (cX2_cutShape, 4, RX2, { frames := 3, cells := 0, slots := 0, locals := 66 }, (some .int), "cutShape")
theorem qV_X2_cutShape : MqV yX2_cutShape YX2_cutShape 1 := ⟨mM_X2_cutShape, mS_X2_cutShape, mI_X2, mK_X2_cutShape, by decide +kernel, by decide +kernel, by decide +kernel⟩
abbrev YX2_burnEdge : YX := (cX2_burnEdge, 4, RX2, { frames := 2, cells := 0, slots := 0, locals := 41 }, none, "burnEdge")
theorem qV_X2_burnEdge : MqV yX2_burnEdge YX2_burnEdge 1 := ⟨mM_X2_burnEdge, mS_X2_burnEdge, mI_X2, mK_X2_burnEdge, by decide +kernel, by decide +kernel, by decide +kernel⟩
abbrev YX1_leadSquare : YX := (cX1_leadSquare, 1, RX1, { frames := 1, cells := 0, slots := 0, locals := 20 }, (some .int), "leadSquare")
theorem qV_X1_leadSquare : MqV yX1_leadSquare YX1_leadSquare 0 := ⟨mM_X1_leadSquare, mS_X1_leadSquare, mI_X1, mK_X1_leadSquare, by decide +kernel, by decide +kernel, by decide +kernel⟩
abbrev YX2_heatIn : YX := (cX2_heatIn, 2, RX2, { frames := 1, cells := 0, slots := 0, locals := 22 }, (some .int), "heatIn")
theorem qV_X2_heatIn : MqV yX2_heatIn YX2_heatIn 1 := ⟨mM_X2_heatIn, mS_X2_heatIn, mI_X2, mK_X2_heatIn, by decide +kernel, by decide +kernel, by decide +kernel⟩
abbrev YX3_isIn : YX := (cX3_isIn, 3, RX3, { frames := 0, cells := 0, slots := 0, locals := 0 }, (some .boolean), "isIn")
theorem qS_X3_isIn : MqS yX3_isIn YX3_isIn 3 := ⟨mT_X3_isIn, mI_X3, mK_X3_isIn, by decide +kernel, by decide +kernel, by decide +kernel⟩
abbrev YX2_greatestHeat : YX := (cX2_greatestHeat, 1, RX2, { frames := 1, cells := 0, slots := 0, locals := 22 }, (some .int), "greatestHeat")
theorem qV_X2_greatestHeat : MqV yX2_greatestHeat YX2_greatestHeat 0 := ⟨mM_X2_greatestHeat, mS_X2_greatestHeat, mI_X2, mK_X2_greatestHeat, by decide +kernel, by decide +kernel, by decide +kernel⟩
abbrev YX2_hottestSquare : YX := (cX2_hottestSquare, 3, RX2, { frames := 0, cells := 0, slots := 0, locals := 0 }, (some .int), "hottestSquare")
theorem qV_X2_hottestSquare : MqV yX2_hottestSquare YX2_hottestSquare 0 := ⟨mM_X2_hottestSquare, mS_X2_hottestSquare, mI_X2, mK_X2_hottestSquare, by decide +kernel, by decide +kernel, by decide +kernel⟩
abbrev YX2_loseShapesInside : YX := (cX2_loseShapesInside, 5, RX2, { frames := 1, cells := 0, slots := 0, locals := 21 }, (some .int), "loseShapesInside")
theorem qV_X2_loseShapesInside : MqV yX2_loseShapesInside YX2_loseShapesInside 1 := ⟨mM_X2_loseShapesInside, mS_X2_loseShapesInside, mI_X2, mK_X2_loseShapesInside, by decide +kernel, by decide +kernel, by decide +kernel⟩
abbrev YX2_shapesThatAre : YX := (cX2_shapesThatAre, 4, RX2, { frames := 0, cells := 0, slots := 0, locals := 0 }, (some .int), "shapesThatAre")
theorem qV_X2_shapesThatAre : MqV yX2_shapesThatAre YX2_shapesThatAre 1 := ⟨mM_X2_shapesThatAre, mS_X2_shapesThatAre, mI_X2, mK_X2_shapesThatAre, by decide +kernel, by decide +kernel, by decide +kernel⟩
abbrev YX3_count : YX := (cX3_count, 2, RX3, { frames := 3, cells := 0, slots := 0, locals := 63 }, (some .int), "count")
theorem qV_X3_count : MqV yX3_count YX3_count 1 := ⟨mM_X3_count, mS_X3_count, mI_X3, mK_X3_count, by decide +kernel, by decide +kernel, by decide +kernel⟩
abbrev YX2_factOfSheet : YX := (cX2_factOfSheet, 2, RX2, { frames := 2, cells := 0, slots := 0, locals := 42 }, (some .int), "factOfSheet")
theorem qV_X2_factOfSheet : MqV yX2_factOfSheet YX2_factOfSheet 1 := ⟨mM_X2_factOfSheet, mS_X2_factOfSheet, mI_X2, mK_X2_factOfSheet, by decide +kernel, by decide +kernel, by decide +kernel⟩
abbrev YX2_shapesThatTilted : YX := (cX2_shapesThatTilted, 3, RX2, { frames := 0, cells := 0, slots := 0, locals := 0 }, (some .int), "shapesThatTilted")
theorem qV_X2_shapesThatTilted : MqV yX2_shapesThatTilted YX2_shapesThatTilted 0 := ⟨mM_X2_shapesThatTilted, mS_X2_shapesThatTilted, mI_X2, mK_X2_shapesThatTilted, by decide +kernel, by decide +kernel, by decide +kernel⟩
abbrev YX2_allHeat : YX := (cX2_allHeat, 3, RX2, { frames := 0, cells := 0, slots := 0, locals := 0 }, (some .int), "allHeat")
theorem qV_X2_allHeat : MqV yX2_allHeat YX2_allHeat 0 := ⟨mM_X2_allHeat, mS_X2_allHeat, mI_X2, mK_X2_allHeat, by decide +kernel, by decide +kernel, by decide +kernel⟩
abbrev YL_cell : YX := (cL_cell, 2, RL, { frames := 0, cells := 0, slots := 0, locals := 0 }, (some .int), "cell")
theorem qS_L_cell : MqS yL_cell YL_cell 2 := ⟨mT_L_cell, mI_L, mK_L_cell, by decide +kernel, by decide +kernel, by decide +kernel⟩
abbrev YL_low : YX := (cL_low, 2, RL, { frames := 0, cells := 0, slots := 0, locals := 0 }, (some .int), "low")
theorem qS_L_low : MqS yL_low YL_low 2 := ⟨mT_L_low, mI_L, mK_L_low, by decide +kernel, by decide +kernel, by decide +kernel⟩
abbrev YL_act : YX := (cL_act, 6, RL, { frames := 6, cells := 0, slots := 0, locals := 145 }, (some .int), "act")
theorem qS_L_act : MqS yL_act YL_act 4 := ⟨mT_L_act, mI_L, mK_L_act, by decide +kernel, by decide +kernel, by decide +kernel⟩
abbrev YX3_tell : YX := (cX3_tell, 5, RX3, { frames := 4, cells := 0, slots := 0, locals := 97 }, (some .int), "tell")
theorem qV_X3_tell : MqV yX3_tell YX3_tell 4 := ⟨mM_X3_tell, mS_X3_tell, mI_X3, mK_X3_tell, by decide +kernel, by decide +kernel, by decide +kernel⟩
abbrev YX2_addShape : YX := (cX2_addShape, 6, RX2, { frames := 3, cells := 0, slots := 0, locals := 72 }, (some .int), "addShape")
theorem qV_X2_addShape : MqV yX2_addShape YX2_addShape 4 := ⟨mM_X2_addShape, mS_X2_addShape, mI_X2, mK_X2_addShape, by decide +kernel, by decide +kernel, by decide +kernel⟩
abbrev YX1_place : YX := (cX1_place, 6, RX1, { frames := 2, cells := 0, slots := 0, locals := 47 }, none, "place")
theorem qV_X1_place : MqV yX1_place YX1_place 4 := ⟨mM_X1_place, mS_X1_place, mI_X1, mK_X1_place, by decide +kernel, by decide +kernel, by decide +kernel⟩
abbrev YX1_fieldsIn : YX := (cX1_fieldsIn, 7, RX1, { frames := 1, cells := 0, slots := 0, locals := 21 }, (some .int), "fieldsIn")
theorem qV_X1_fieldsIn : MqV yX1_fieldsIn YX1_fieldsIn 2 := ⟨mM_X1_fieldsIn, mS_X1_fieldsIn, mI_X1, mK_X1_fieldsIn, by decide +kernel, by decide +kernel, by decide +kernel⟩
abbrev YX2_fits : YX := (cX2_fits, 5, RX2, { frames := 1, cells := 0, slots := 0, locals := 21 }, (some .boolean), "fits")
theorem qV_X2_fits : MqV yX2_fits YX2_fits 1 := ⟨mM_X2_fits, mS_X2_fits, mI_X2, mK_X2_fits, by decide +kernel, by decide +kernel, by decide +kernel⟩
abbrev YX1_isApartFrom : YX := (cX1_isApartFrom, 2, RX1, { frames := 0, cells := 0, slots := 0, locals := 0 }, (some .boolean), "isApartFrom")
theorem qV_X1_isApartFrom : MqV yX1_isApartFrom YX1_isApartFrom 1 := ⟨mM_X1_isApartFrom, mS_X1_isApartFrom, mI_X1, mK_X1_isApartFrom, by decide +kernel, by decide +kernel, by decide +kernel⟩
abbrev YL_within : YX := (cL_within, 5, RL, { frames := 5, cells := 0, slots := 0, locals := 121 }, (some .int), "within")
theorem qS_L_within : MqS yL_within YL_within 3 := ⟨mT_L_within, mI_L, mK_L_within, by decide +kernel, by decide +kernel, by decide +kernel⟩
abbrev YX3_shape : YX := (cX3_shape, 3, RX3, { frames := 3, cells := 0, slots := 0, locals := 67 }, (some .int), "shape")
theorem qV_X3_shape : MqV yX3_shape YX3_shape 2 := ⟨mM_X3_shape, mS_X3_shape, mI_X3, mK_X3_shape, by decide +kernel, by decide +kernel, by decide +kernel⟩
abbrev YX2_factOfShape : YX := (cX2_factOfShape, 4, RX2, { frames := 2, cells := 0, slots := 0, locals := 44 }, (some .int), "factOfShape")
theorem qV_X2_factOfShape : MqV yX2_factOfShape YX2_factOfShape 2 := ⟨mM_X2_factOfShape, mS_X2_factOfShape, mI_X2, mK_X2_factOfShape, by decide +kernel, by decide +kernel, by decide +kernel⟩
abbrev YX2_outerOf : YX := (cX2_outerOf, 4, RX2, { frames := 1, cells := 0, slots := 0, locals := 21 }, (some .int), "outerOf")
theorem qV_X2_outerOf : MqV yX2_outerOf YX2_outerOf 1 := ⟨mM_X2_outerOf, mS_X2_outerOf, mI_X2, mK_X2_outerOf, by decide +kernel, by decide +kernel, by decide +kernel⟩
abbrev YX2_setInside : YX := (cX2_setInside, 4, RX2, { frames := 1, cells := 0, slots := 0, locals := 21 }, (some .int), "setInside")
theorem qV_X2_setInside : MqV yX2_setInside YX2_setInside 1 := ⟨mM_X2_setInside, mS_X2_setInside, mI_X2, mK_X2_setInside, by decide +kernel, by decide +kernel, by decide +kernel⟩
abbrev YX3_cut : YX := (cX3_cut, 2, RX3, { frames := 4, cells := 0, slots := 0, locals := 89 }, (some .int), "cut")
theorem qV_X3_cut : MqV yX3_cut YX3_cut 1 := ⟨mM_X3_cut, mS_X3_cut, mI_X3, mK_X3_cut, by decide +kernel, by decide +kernel, by decide +kernel⟩
abbrev YX3_setLead : YX := (cX3_setLead, 3, RX3, { frames := 3, cells := 0, slots := 0, locals := 65 }, (some .int), "setLead")
theorem qV_X3_setLead : MqV yX3_setLead YX3_setLead 2 := ⟨mM_X3_setLead, mS_X3_setLead, mI_X3, mK_X3_setLead, by decide +kernel, by decide +kernel, by decide +kernel⟩
abbrev YX2_changeLead : YX := (cX2_changeLead, 5, RX2, { frames := 1, cells := 0, slots := 0, locals := 22 }, (some .int), "changeLead")
theorem qV_X2_changeLead : MqV yX2_changeLead YX2_changeLead 2 := ⟨mM_X2_changeLead, mS_X2_changeLead, mI_X2, mK_X2_changeLead, by decide +kernel, by decide +kernel, by decide +kernel⟩
abbrev YX3_pause : YX := (cX3_pause, 2, RX3, { frames := 3, cells := 0, slots := 0, locals := 65 }, (some .int), "pause")
theorem qV_X3_pause : MqV yX3_pause YX3_pause 1 := ⟨mM_X3_pause, mS_X3_pause, mI_X3, mK_X3_pause, by decide +kernel, by decide +kernel, by decide +kernel⟩
abbrev YX2_waitFor : YX := (cX2_waitFor, 2, RX2, { frames := 2, cells := 0, slots := 0, locals := 43 }, (some .int), "waitFor")
theorem qV_X2_waitFor : MqV yX2_waitFor YX2_waitFor 1 := ⟨mM_X2_waitFor, mS_X2_waitFor, mI_X2, mK_X2_waitFor, by decide +kernel, by decide +kernel, by decide +kernel⟩
abbrev YX3_clean : YX := (cX3_clean, 1, RX3, { frames := 3, cells := 0, slots := 0, locals := 65 }, (some .int), "clean")
theorem qV_X3_clean : MqV yX3_clean YX3_clean 0 := ⟨mM_X3_clean, mS_X3_clean, mI_X3, mK_X3_clean, by decide +kernel, by decide +kernel, by decide +kernel⟩
abbrev YX2_cleanLens : YX := (cX2_cleanLens, 2, RX2, { frames := 2, cells := 0, slots := 0, locals := 43 }, (some .int), "cleanLens")
theorem qV_X2_cleanLens : MqV yX2_cleanLens YX2_cleanLens 0 := ⟨mM_X2_cleanLens, mS_X2_cleanLens, mI_X2, mK_X2_cleanLens, by decide +kernel, by decide +kernel, by decide +kernel⟩
abbrev YX3_set : YX := (cX3_set, 3, RX3, { frames := 3, cells := 0, slots := 0, locals := 65 }, (some .int), "set")
theorem qV_X3_set : MqV yX3_set YX3_set 2 := ⟨mM_X3_set, mS_X3_set, mI_X3, mK_X3_set, by decide +kernel, by decide +kernel, by decide +kernel⟩
abbrev YX2_changeSetting : YX := (cX2_changeSetting, 4, RX2, { frames := 1, cells := 0, slots := 0, locals := 22 }, (some .int), "changeSetting")
theorem qV_X2_changeSetting : MqV yX2_changeSetting YX2_changeSetting 2 := ⟨mM_X2_changeSetting, mS_X2_changeSetting, mI_X2, mK_X2_changeSetting, by decide +kernel, by decide +kernel, by decide +kernel⟩
abbrev YL_holds : YX := (cL_holds, 10, RL, { frames := 7, cells := 0, slots := 0, locals := 172 }, (some .boolean), "holds")
theorem qS_L_holds : MqS yL_holds YL_holds 1 := ⟨mT_L_holds, mI_L, mK_L_holds, by decide +kernel, by decide +kernel, by decide +kernel⟩
abbrev YX3_heat : YX := (cX3_heat, 2, RX3, { frames := 2, cells := 0, slots := 0, locals := 43 }, (some .int), "heat")
theorem qV_X3_heat : MqV yX3_heat YX3_heat 1 := ⟨mM_X3_heat, mS_X3_heat, mI_X3, mK_X3_heat, by decide +kernel, by decide +kernel, by decide +kernel⟩
abbrev YL_isShape : YX := (cL_isShape, 14, RL, { frames := 6, cells := 0, slots := 0, locals := 139 }, (some .boolean), "isShape")
theorem qS_L_isShape : MqS yL_isShape YL_isShape 2 := ⟨mT_L_isShape, mI_L, mK_L_isShape, by decide +kernel, by decide +kernel, by decide +kernel⟩
abbrev YL_isInside : YX := (cL_isInside, 4, RL, { frames := 4, cells := 0, slots := 0, locals := 89 }, (some .boolean), "isInside")
theorem qS_L_isInside : MqS yL_isInside YL_isInside 3 := ⟨mT_L_isInside, mI_L, mK_L_isInside, by decide +kernel, by decide +kernel, by decide +kernel⟩
abbrev YL_goes : YX := (cL_goes, 5, RL, { frames := 4, cells := 0, slots := 0, locals := 89 }, (some .int), "goes")
theorem qS_L_goes : MqS yL_goes YL_goes 2 := ⟨mT_L_goes, mI_L, mK_L_goes, by decide +kernel, by decide +kernel, by decide +kernel⟩
abbrev YL_off : YX := (cL_off, 2, RL, { frames := 0, cells := 0, slots := 0, locals := 0 }, (some .int), "off")
theorem qS_L_off : MqS yL_off YL_off 2 := ⟨mT_L_off, mI_L, mK_L_off, by decide +kernel, by decide +kernel, by decide +kernel⟩
abbrev YL_edgeIn : YX := (cL_edgeIn, 5, RL, { frames := 5, cells := 0, slots := 0, locals := 115 }, (some .int), "edgeIn")
theorem qS_L_edgeIn : MqS yL_edgeIn YL_edgeIn 3 := ⟨mT_L_edgeIn, mI_L, mK_L_edgeIn, by decide +kernel, by decide +kernel, by decide +kernel⟩
abbrev YL_isEdge : YX := (cL_isEdge, 7, RL, { frames := 4, cells := 0, slots := 0, locals := 89 }, (some .boolean), "isEdge")
theorem qS_L_isEdge : MqS yL_isEdge YL_isEdge 4 := ⟨mT_L_isEdge, mI_L, mK_L_isEdge, by decide +kernel, by decide +kernel, by decide +kernel⟩
abbrev YX3_reason : YX := (cX3_reason, 2, RX3, { frames := 3, cells := 0, slots := 0, locals := 66 }, (some .int), "reason")
theorem qV_X3_reason : MqV yX3_reason YX3_reason 1 := ⟨mM_X3_reason, mS_X3_reason, mI_X3, mK_X3_reason, by decide +kernel, by decide +kernel, by decide +kernel⟩
abbrev YX3_takes : YX := (cX3_takes, 2, RX3, { frames := 3, cells := 0, slots := 0, locals := 64 }, (some .int), "takes")
theorem qV_X3_takes : MqV yX3_takes YX3_takes 1 := ⟨mM_X3_takes, mS_X3_takes, mI_X3, mK_X3_takes, by decide +kernel, by decide +kernel, by decide +kernel⟩
abbrev YX3_coolsIn : YX := (cX3_coolsIn, 2, RX3, { frames := 4, cells := 0, slots := 0, locals := 90 }, (some .int), "coolsIn")
theorem qV_X3_coolsIn : MqV yX3_coolsIn YX3_coolsIn 1 := ⟨mM_X3_coolsIn, mS_X3_coolsIn, mI_X3, mK_X3_coolsIn, by decide +kernel, by decide +kernel, by decide +kernel⟩
abbrev YX3_best : YX := (cX3_best, 1, RX3, { frames := 4, cells := 0, slots := 0, locals := 90 }, (some .int), "best")
theorem qV_X3_best : MqV yX3_best YX3_best 0 := ⟨mM_X3_best, mS_X3_best, mI_X3, mK_X3_best, by decide +kernel, by decide +kernel, by decide +kernel⟩
abbrev YL_tries : YX := (cL_tries, 11, RL, { frames := 5, cells := 0, slots := 0, locals := 111 }, (some .boolean), "tries")
theorem qS_L_tries : MqS yL_tries YL_tries 2 := ⟨mT_L_tries, mI_L, mK_L_tries, by decide +kernel, by decide +kernel, by decide +kernel⟩
abbrev YL_goesThrough : YX := (cL_goesThrough, 9, RL, { frames := 7, cells := 1, slots := 12, locals := 158 }, (some .boolean), "goesThrough")
theorem qS_L_goesThrough : MqS yL_goesThrough YL_goesThrough 1 := ⟨mT_L_goesThrough, mI_L, mK_L_goesThrough, by decide +kernel, by decide +kernel, by decide +kernel⟩
abbrev YX3_ordered : YX := (cX3_ordered, 4, RX3, { frames := 6, cells := 0, slots := 0, locals := 135 }, (some .int), "ordered")
theorem qV_X3_ordered : MqV yX3_ordered YX3_ordered 1 := ⟨mM_X3_ordered, mS_X3_ordered, mI_X3, mK_X3_ordered, by decide +kernel, by decide +kernel, by decide +kernel⟩
