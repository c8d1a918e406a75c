/-! each method: bytes, locals, class, room, what it returns, name; what a call of it wants (by program: wip/whole/gen_methods.py) -/
abbrev YX3_init : YX := (cX3_init, 2, RX3, { frames := 3, cells := 246, slots := 2657, locals := 61 }, none, "<init>")
theorem qI_X3_init : MqI yX3_init YX3_init 0 := ⟨mM_X3_init, rfl, mI_X3, mK_X3_init, by decide +kernel, by decide +kernel, by decide +kernel⟩
abbrev YX2_init : YX := (cX2_init, 2, RX2, { frames := 2, cells := 29, slots := 302, locals := 40 }, none, "<init>")
theorem qI_X2_init : MqI yX2_init YX2_init 0 := ⟨mM_X2_init, rfl, mI_X2, mK_X2_init, by decide +kernel, by decide +kernel, by decide +kernel⟩
abbrev YX1_init : YX := (cX1_init, 1, RX1, { frames := 1, cells := 1, slots := 12, locals := 20 }, none, "<init>")
theorem qI_X1_init : MqI yX1_init YX1_init 0 := ⟨mM_X1_init, rfl, mI_X1, mK_X1_init, by decide +kernel, by decide +kernel, by decide +kernel⟩
abbrev YX0_init : YX := (cX0_init, 1, RX0, { frames := 1, cells := 4, slots := 150, locals := 20 }, none, "<init>")
theorem qI_X0_init : MqI yX0_init YX0_init 0 := ⟨mM_X0_init, rfl, mI_X0, mK_X0_init, by decide +kernel, by decide +kernel, by decide +kernel⟩
abbrev YX3_tell : YX := (cX3_tell, 5, RX3, { frames := 4, cells := 0, slots := 0, locals := 97 }, (some .int), "tell")
theorem qV_X3_tell : MqV yX3_tell YX3_tell 4 := ⟨mM_X3_tell, mS_X3_tell, mI_X3, mK_X3_tell, by decide +kernel, by decide +kernel, by decide +kernel⟩
abbrev YX2_copyFrom : YX := (cX2_copyFrom, 3, RX2, { frames := 1, cells := 0, slots := 0, locals := 22 }, none, "copyFrom")
theorem qV_X2_copyFrom : MqV yX2_copyFrom YX2_copyFrom 1 := ⟨mM_X2_copyFrom, mS_X2_copyFrom, mI_X2, mK_X2_copyFrom, by decide +kernel, by decide +kernel, by decide +kernel⟩
abbrev YX1_copyFrom : YX := (cX1_copyFrom, 3, RX1, { frames := 0, cells := 0, slots := 0, locals := 0 }, none, "copyFrom")
theorem qV_X1_copyFrom : MqV yX1_copyFrom YX1_copyFrom 1 := ⟨mM_X1_copyFrom, mS_X1_copyFrom, mI_X1, mK_X1_copyFrom, by decide +kernel, by decide +kernel, by decide +kernel⟩
abbrev YX2_addShape : YX := (cX2_addShape, 6, RX2, { frames := 3, cells := 0, slots := 0, locals := 72 }, (some .int), "addShape")
theorem qV_X2_addShape : MqV yX2_addShape YX2_addShape 4 := ⟨mM_X2_addShape, mS_X2_addShape, mI_X2, mK_X2_addShape, by decide +kernel, by decide +kernel, by decide +kernel⟩
abbrev YX3_isIn : YX := (cX3_isIn, 3, RX3, { frames := 0, cells := 0, slots := 0, locals := 0 }, (some .boolean), "isIn")
theorem qS_X3_isIn : MqS yX3_isIn YX3_isIn 3 := ⟨mT_X3_isIn, mI_X3, mK_X3_isIn, by decide +kernel, by decide +kernel, by decide +kernel⟩
abbrev YX1_place : YX := (cX1_place, 6, RX1, { frames := 2, cells := 0, slots := 0, locals := 47 }, none, "place")
theorem qV_X1_place : MqV yX1_place YX1_place 4 := ⟨mM_X1_place, mS_X1_place, mI_X1, mK_X1_place, by decide +kernel, by decide +kernel, by decide +kernel⟩
abbrev YX1_fieldsIn : YX := (cX1_fieldsIn, 7, RX1, { frames := 1, cells := 0, slots := 0, locals := 21 }, (some .int), "fieldsIn")
theorem qV_X1_fieldsIn : MqV yX1_fieldsIn YX1_fieldsIn 2 := ⟨mM_X1_fieldsIn, mS_X1_fieldsIn, mI_X1, mK_X1_fieldsIn, by decide +kernel, by decide +kernel, by decide +kernel⟩
abbrev YX2_fits : YX := (cX2_fits, 5, RX2, { frames := 1, cells := 0, slots := 0, locals := 21 }, (some .boolean), "fits")
theorem qV_X2_fits : MqV yX2_fits YX2_fits 1 := ⟨mM_X2_fits, mS_X2_fits, mI_X2, mK_X2_fits, by decide +kernel, by decide +kernel, by decide +kernel⟩
abbrev YX1_isInside : YX := (cX1_isInside, 2, RX1, { frames := 0, cells := 0, slots := 0, locals := 0 }, (some .boolean), "isInside")
theorem qV_X1_isInside : MqV yX1_isInside YX1_isInside 1 := ⟨mM_X1_isInside, mS_X1_isInside, mI_X1, mK_X1_isInside, by decide +kernel, by decide +kernel, by decide +kernel⟩
abbrev YX1_isApartFrom : YX := (cX1_isApartFrom, 2, RX1, { frames := 0, cells := 0, slots := 0, locals := 0 }, (some .boolean), "isApartFrom")
theorem qV_X1_isApartFrom : MqV yX1_isApartFrom YX1_isApartFrom 1 := ⟨mM_X1_isApartFrom, mS_X1_isApartFrom, mI_X1, mK_X1_isApartFrom, by decide +kernel, by decide +kernel, by decide +kernel⟩
abbrev YX3_recorded : YX := (cX3_recorded, 2, RX3, { frames := 2, cells := 0, slots := 0, locals := 44 }, (some .int), "recorded")
theorem qV_X3_recorded : MqV yX3_recorded YX3_recorded 1 := ⟨mM_X3_recorded, mS_X3_recorded, mI_X3, mK_X3_recorded, by decide +kernel, by decide +kernel, by decide +kernel⟩
abbrev YX3_dropOldestState : YX := (cX3_dropOldestState, 3, RX3, { frames := 0, cells := 0, slots := 0, locals := 0 }, none, "dropOldestState")
theorem qV_X3_dropOldestState : MqV yX3_dropOldestState YX3_dropOldestState 0 := ⟨mM_X3_dropOldestState, mS_X3_dropOldestState, mI_X3, mK_X3_dropOldestState, by decide +kernel, by decide +kernel, by decide +kernel⟩
abbrev YX3_setLead : YX := (cX3_setLead, 3, RX3, { frames := 3, cells := 0, slots := 0, locals := 65 }, (some .int), "setLead")
theorem qV_X3_setLead : MqV yX3_setLead YX3_setLead 2 := ⟨mM_X3_setLead, mS_X3_setLead, mI_X3, mK_X3_setLead, by decide +kernel, by decide +kernel, by decide +kernel⟩
abbrev YX2_changeLead : YX := (cX2_changeLead, 5, RX2, { frames := 1, cells := 0, slots := 0, locals := 22 }, (some .int), "changeLead")
theorem qV_X2_changeLead : MqV yX2_changeLead YX2_changeLead 2 := ⟨mM_X2_changeLead, mS_X2_changeLead, mI_X2, mK_X2_changeLead, by decide +kernel, by decide +kernel, by decide +kernel⟩
abbrev YX2_knows : YX := (cX2_knows, 2, RX2, { frames := 0, cells := 0, slots := 0, locals := 0 }, (some .boolean), "knows")
theorem qV_X2_knows : MqV yX2_knows YX2_knows 1 := ⟨mM_X2_knows, mS_X2_knows, mI_X2, mK_X2_knows, by decide +kernel, by decide +kernel, by decide +kernel⟩
abbrev YX3_set : YX := (cX3_set, 3, RX3, { frames := 3, cells := 0, slots := 0, locals := 65 }, (some .int), "set")
theorem qV_X3_set : MqV yX3_set YX3_set 2 := ⟨mM_X3_set, mS_X3_set, mI_X3, mK_X3_set, by decide +kernel, by decide +kernel, by decide +kernel⟩
abbrev YX2_changeSetting : YX := (cX2_changeSetting, 4, RX2, { frames := 1, cells := 0, slots := 0, locals := 22 }, (some .int), "changeSetting")
theorem qV_X2_changeSetting : MqV yX2_changeSetting YX2_changeSetting 2 := ⟨mM_X2_changeSetting, mS_X2_changeSetting, mI_X2, mK_X2_changeSetting, by decide +kernel, by decide +kernel, by decide +kernel⟩
abbrev YX3_cut : YX := (cX3_cut, 2, RX3, { frames := 4, cells := 0, slots := 0, locals := 89 }, (some .int), "cut")
theorem qV_X3_cut : MqV yX3_cut YX3_cut 1 := ⟨mM_X3_cut, mS_X3_cut, mI_X3, mK_X3_cut, by decide +kernel, by decide +kernel, by decide +kernel⟩
abbrev YX2_cutShape : YX := (cX2_cutShape, 4, RX2, { frames := 3, cells := 0, slots := 0, locals := 66 }, (some .int), "cutShape")
theorem qV_X2_cutShape : MqV yX2_cutShape YX2_cutShape 1 := ⟨mM_X2_cutShape, mS_X2_cutShape, mI_X2, mK_X2_cutShape, by decide +kernel, by decide +kernel, by decide +kernel⟩
abbrev YX2_reasonAgainst : YX := (cX2_reasonAgainst, 3, RX2, { frames := 2, cells := 0, slots := 0, locals := 44 }, (some .int), "reasonAgainst")
theorem qV_X2_reasonAgainst : MqV yX2_reasonAgainst YX2_reasonAgainst 1 := ⟨mM_X2_reasonAgainst, mS_X2_reasonAgainst, mI_X2, mK_X2_reasonAgainst, by decide +kernel, by decide +kernel, by decide +kernel⟩
abbrev YX2_holdsWholeShape : YX := (cX2_holdsWholeShape, 3, RX2, { frames := 1, cells := 0, slots := 0, locals := 21 }, (some .boolean), "holdsWholeShape")
theorem qV_X2_holdsWholeShape : MqV yX2_holdsWholeShape YX2_holdsWholeShape 1 := ⟨mM_X2_holdsWholeShape, mS_X2_holdsWholeShape, mI_X2, mK_X2_holdsWholeShape, by decide +kernel, by decide +kernel, by decide +kernel⟩
abbrev YX2_heatOver : YX := (cX2_heatOver, 4, RX2, { frames := 1, cells := 0, slots := 0, locals := 21 }, (some .int), "heatOver")
theorem qV_X2_heatOver : MqV yX2_heatOver YX2_heatOver 1 := ⟨mM_X2_heatOver, mS_X2_heatOver, mI_X2, mK_X2_heatOver, by decide +kernel, by decide +kernel, by decide +kernel⟩
abbrev YX2_wayTo : YX := (cX2_wayTo, 2, RX2, { frames := 1, cells := 0, slots := 0, locals := 21 }, (some .int), "wayTo")
theorem qV_X2_wayTo : MqV yX2_wayTo YX2_wayTo 1 := ⟨mM_X2_wayTo, mS_X2_wayTo, mI_X2, mK_X2_wayTo, by decide +kernel, by decide +kernel, by decide +kernel⟩
abbrev YX1_leadColumn : YX := (cX1_leadColumn, 1, RX1, { frames := 0, cells := 0, slots := 0, locals := 0 }, (some .int), "leadColumn")
theorem qV_X1_leadColumn : MqV yX1_leadColumn YX1_leadColumn 0 := ⟨mM_X1_leadColumn, mS_X1_leadColumn, mI_X1, mK_X1_leadColumn, by decide +kernel, by decide +kernel, by decide +kernel⟩
abbrev YX1_leadRow : YX := (cX1_leadRow, 1, RX1, { frames := 0, cells := 0, slots := 0, locals := 0 }, (some .int), "leadRow")
theorem qV_X1_leadRow : MqV yX1_leadRow YX1_leadRow 0 := ⟨mM_X1_leadRow, mS_X1_leadRow, mI_X1, mK_X1_leadRow, by decide +kernel, by decide +kernel, by decide +kernel⟩
abbrev YX2_coolFor : YX := (cX2_coolFor, 3, RX2, { frames := 1, cells := 0, slots := 0, locals := 21 }, none, "coolFor")
theorem qV_X2_coolFor : MqV yX2_coolFor YX2_coolFor 1 := ⟨mM_X2_coolFor, mS_X2_coolFor, mI_X2, mK_X2_coolFor, by decide +kernel, by decide +kernel, by decide +kernel⟩
abbrev YX2_burnEdge : YX := (cX2_burnEdge, 4, RX2, { frames := 2, cells := 0, slots := 0, locals := 41 }, none, "burnEdge")
theorem qV_X2_burnEdge : MqV yX2_burnEdge YX2_burnEdge 1 := ⟨mM_X2_burnEdge, mS_X2_burnEdge, mI_X2, mK_X2_burnEdge, by decide +kernel, by decide +kernel, by decide +kernel⟩
abbrev YX2_burningOf : YX := (cX2_burningOf, 2, RX2, { frames := 1, cells := 0, slots := 0, locals := 20 }, (some .int), "burningOf")
theorem qV_X2_burningOf : MqV yX2_burningOf YX2_burningOf 1 := ⟨mM_X2_burningOf, mS_X2_burningOf, mI_X2, mK_X2_burningOf, by decide +kernel, by decide +kernel, by decide +kernel⟩
abbrev YX1_edge : YX := (cX1_edge, 1, RX1, { frames := 0, cells := 0, slots := 0, locals := 0 }, (some .int), "edge")
theorem qV_X1_edge : MqV yX1_edge YX1_edge 0 := ⟨mM_X1_edge, mS_X1_edge, mI_X1, mK_X1_edge, by decide +kernel, by decide +kernel, by decide +kernel⟩
abbrev YX1_leadSquare : YX := (cX1_leadSquare, 1, RX1, { frames := 1, cells := 0, slots := 0, locals := 20 }, (some .int), "leadSquare")
theorem qV_X1_leadSquare : MqV yX1_leadSquare YX1_leadSquare 0 := ⟨mM_X1_leadSquare, mS_X1_leadSquare, mI_X1, mK_X1_leadSquare, by decide +kernel, by decide +kernel, by decide +kernel⟩
abbrev YX2_heatIn : YX := (cX2_heatIn, 2, RX2, { frames := 1, cells := 0, slots := 0, locals := 22 }, (some .int), "heatIn")
theorem qV_X2_heatIn : MqV yX2_heatIn YX2_heatIn 1 := ⟨mM_X2_heatIn, mS_X2_heatIn, mI_X2, mK_X2_heatIn, by decide +kernel, by decide +kernel, by decide +kernel⟩
abbrev YX2_greatestHeat : YX := (cX2_greatestHeat, 1, RX2, { frames := 1, cells := 0, slots := 0, locals := 22 }, (some .int), "greatestHeat")
theorem qV_X2_greatestHeat : MqV yX2_greatestHeat YX2_greatestHeat 0 := ⟨mM_X2_greatestHeat, mS_X2_greatestHeat, mI_X2, mK_X2_greatestHeat, by decide +kernel, by decide +kernel, by decide +kernel⟩
abbrev YX2_hottestSquare : YX := (cX2_hottestSquare, 3, RX2, { frames := 0, cells := 0, slots := 0, locals := 0 }, (some .int), "hottestSquare")
theorem qV_X2_hottestSquare : MqV yX2_hottestSquare YX2_hottestSquare 0 := ⟨mM_X2_hottestSquare, mS_X2_hottestSquare, mI_X2, mK_X2_hottestSquare, by decide +kernel, by decide +kernel, by decide +kernel⟩
abbrev YX2_loseShapesInside : YX := (cX2_loseShapesInside, 5, RX2, { frames := 1, cells := 0, slots := 0, locals := 21 }, (some .int), "loseShapesInside")
theorem qV_X2_loseShapesInside : MqV yX2_loseShapesInside YX2_loseShapesInside 1 := ⟨mM_X2_loseShapesInside, mS_X2_loseShapesInside, mI_X2, mK_X2_loseShapesInside, by decide +kernel, by decide +kernel, by decide +kernel⟩
abbrev YX3_pause : YX := (cX3_pause, 2, RX3, { frames := 3, cells := 0, slots := 0, locals := 65 }, (some .int), "pause")
theorem qV_X3_pause : MqV yX3_pause YX3_pause 1 := ⟨mM_X3_pause, mS_X3_pause, mI_X3, mK_X3_pause, by decide +kernel, by decide +kernel, by decide +kernel⟩
abbrev YX2_waitFor : YX := (cX2_waitFor, 2, RX2, { frames := 2, cells := 0, slots := 0, locals := 43 }, (some .int), "waitFor")
theorem qV_X2_waitFor : MqV yX2_waitFor YX2_waitFor 1 := ⟨mM_X2_waitFor, mS_X2_waitFor, mI_X2, mK_X2_waitFor, by decide +kernel, by decide +kernel, by decide +kernel⟩
abbrev YX3_clean : YX := (cX3_clean, 1, RX3, { frames := 3, cells := 0, slots := 0, locals := 65 }, (some .int), "clean")
theorem qV_X3_clean : MqV yX3_clean YX3_clean 0 := ⟨mM_X3_clean, mS_X3_clean, mI_X3, mK_X3_clean, by decide +kernel, by decide +kernel, by decide +kernel⟩
abbrev YX2_cleanLens : YX := (cX2_cleanLens, 2, RX2, { frames := 2, cells := 0, slots := 0, locals := 43 }, (some .int), "cleanLens")
theorem qV_X2_cleanLens : MqV yX2_cleanLens YX2_cleanLens 0 := ⟨mM_X2_cleanLens, mS_X2_cleanLens, mI_X2, mK_X2_cleanLens, by decide +kernel, by decide +kernel, by decide +kernel⟩
abbrev YX3_type : YX := (cX3_type, 2, RX3, { frames := 1, cells := 0, slots := 0, locals := 21 }, (some .int), "type")
theorem qV_X3_type : MqV yX3_type YX3_type 1 := ⟨mM_X3_type, mS_X3_type, mI_X3, mK_X3_type, by decide +kernel, by decide +kernel, by decide +kernel⟩
abbrev YX0_addLetter : YX := (cX0_addLetter, 2, RX0, { frames := 0, cells := 0, slots := 0, locals := 0 }, (some .int), "addLetter")
theorem qV_X0_addLetter : MqV yX0_addLetter YX0_addLetter 1 := ⟨mM_X0_addLetter, mS_X0_addLetter, mI_X0, mK_X0_addLetter, by decide +kernel, by decide +kernel, by decide +kernel⟩
abbrev YX3_clearText : YX := (cX3_clearText, 1, RX3, { frames := 1, cells := 0, slots := 0, locals := 21 }, (some .int), "clearText")
theorem qV_X3_clearText : MqV yX3_clearText YX3_clearText 0 := ⟨mM_X3_clearText, mS_X3_clearText, mI_X3, mK_X3_clearText, by decide +kernel, by decide +kernel, by decide +kernel⟩
abbrev YX0_dropLetters : YX := (cX0_dropLetters, 2, RX0, { frames := 0, cells := 0, slots := 0, locals := 0 }, (some .int), "dropLetters")
theorem qV_X0_dropLetters : MqV yX0_dropLetters YX0_dropLetters 0 := ⟨mM_X0_dropLetters, mS_X0_dropLetters, mI_X0, mK_X0_dropLetters, by decide +kernel, by decide +kernel, by decide +kernel⟩
abbrev YX3_perform : YX := (cX3_perform, 4, RX3, { frames := 5, cells := 0, slots := 0, locals := 111 }, (some .int), "perform")
theorem qV_X3_perform : MqV yX3_perform YX3_perform 0 := ⟨mM_X3_perform, mS_X3_perform, mI_X3, mK_X3_perform, by decide +kernel, by decide +kernel, by decide +kernel⟩
abbrev YX0_read : YX := (cX0_read, 1, RX0, { frames := 4, cells := 0, slots := 0, locals := 87 }, (some .int), "read")
theorem qV_X0_read : MqV yX0_read YX0_read 0 := ⟨mM_X0_read, mS_X0_read, mI_X0, mK_X0_read, by decide +kernel, by decide +kernel, by decide +kernel⟩
abbrev YX0_readThing : YX := (cX0_readThing, 1, RX0, { frames := 3, cells := 0, slots := 0, locals := 67 }, (some .boolean), "readThing")
theorem qV_X0_readThing : MqV yX0_readThing YX0_readThing 0 := ⟨mM_X0_readThing, mS_X0_readThing, mI_X0, mK_X0_readThing, by decide +kernel, by decide +kernel, by decide +kernel⟩
abbrev YX0_readLetter : YX := (cX0_readLetter, 2, RX0, { frames := 0, cells := 0, slots := 0, locals := 0 }, (some .boolean), "readLetter")
theorem qV_X0_readLetter : MqV yX0_readLetter YX0_readLetter 1 := ⟨mM_X0_readLetter, mS_X0_readLetter, mI_X0, mK_X0_readLetter, by decide +kernel, by decide +kernel, by decide +kernel⟩
abbrev YX0_readNumber : YX := (cX0_readNumber, 5, RX0, { frames := 2, cells := 0, slots := 0, locals := 43 }, (some .boolean), "readNumber")
theorem qV_X0_readNumber : MqV yX0_readNumber YX0_readNumber 3 := ⟨mM_X0_readNumber, mS_X0_readNumber, mI_X0, mK_X0_readNumber, by decide +kernel, by decide +kernel, by decide +kernel⟩
abbrev YX0_digitAt : YX := (cX0_digitAt, 2, RX0, { frames := 1, cells := 0, slots := 0, locals := 22 }, (some .int), "digitAt")
theorem qV_X0_digitAt : MqV yX0_digitAt YX0_digitAt 1 := ⟨mM_X0_digitAt, mS_X0_digitAt, mI_X0, mK_X0_digitAt, by decide +kernel, by decide +kernel, by decide +kernel⟩
abbrev YX0_doThing : YX := (cX0_doThing, 3, RX0, { frames := 4, cells := 0, slots := 0, locals := 89 }, (some .int), "doThing")
theorem qV_X0_doThing : MqV yX0_doThing YX0_doThing 2 := ⟨mM_X0_doThing, mS_X0_doThing, mI_X0, mK_X0_doThing, by decide +kernel, by decide +kernel, by decide +kernel⟩
abbrev YX3_stopped : YX := (cX3_stopped, 2, RX3, { frames := 0, cells := 0, slots := 0, locals := 0 }, (some .int), "stopped")
theorem qV_X3_stopped : MqV yX3_stopped YX3_stopped 1 := ⟨mM_X3_stopped, mS_X3_stopped, mI_X3, mK_X3_stopped, by decide +kernel, by decide +kernel, by decide +kernel⟩
abbrev YX3_undo : YX := (cX3_undo, 1, RX3, { frames := 2, cells := 0, slots := 0, locals := 44 }, (some .int), "undo")
theorem qV_X3_undo : MqV yX3_undo YX3_undo 0 := ⟨mM_X3_undo, mS_X3_undo, mI_X3, mK_X3_undo, by decide +kernel, by decide +kernel, by decide +kernel⟩
abbrev YX3_keep : YX := (cX3_keep, 1, RX3, { frames := 2, cells := 0, slots := 0, locals := 44 }, (some .int), "keep")
theorem qV_X3_keep : MqV yX3_keep YX3_keep 0 := ⟨mM_X3_keep, mS_X3_keep, mI_X3, mK_X3_keep, by decide +kernel, by decide +kernel, by decide +kernel⟩
abbrev YX3_restore : YX := (cX3_restore, 1, RX3, { frames := 3, cells := 0, slots := 0, locals := 65 }, (some .int), "restore")
theorem qV_X3_restore : MqV yX3_restore YX3_restore 0 := ⟨mM_X3_restore, mS_X3_restore, mI_X3, mK_X3_restore, by decide +kernel, by decide +kernel, by decide +kernel⟩
abbrev YX3_shape : YX := (cX3_shape, 3, RX3, { frames := 3, cells := 0, slots := 0, locals := 67 }, (some .int), "shape")
theorem qV_X3_shape : MqV yX3_shape YX3_shape 2 := ⟨mM_X3_shape, mS_X3_shape, mI_X3, mK_X3_shape, by decide +kernel, by decide +kernel, by decide +kernel⟩
abbrev YX2_factOfShape : YX := (cX2_factOfShape, 4, RX2, { frames := 2, cells := 0, slots := 0, locals := 44 }, (some .int), "factOfShape")
theorem qV_X2_factOfShape : MqV yX2_factOfShape YX2_factOfShape 2 := ⟨mM_X2_factOfShape, mS_X2_factOfShape, mI_X2, mK_X2_factOfShape, by decide +kernel, by decide +kernel, by decide +kernel⟩
abbrev YX2_outerOf : YX := (cX2_outerOf, 4, RX2, { frames := 1, cells := 0, slots := 0, locals := 21 }, (some .int), "outerOf")
theorem qV_X2_outerOf : MqV yX2_outerOf YX2_outerOf 1 := ⟨mM_X2_outerOf, mS_X2_outerOf, mI_X2, mK_X2_outerOf, by decide +kernel, by decide +kernel, by decide +kernel⟩
abbrev YX2_setInside : YX := (cX2_setInside, 4, RX2, { frames := 1, cells := 0, slots := 0, locals := 21 }, (some .int), "setInside")
theorem qV_X2_setInside : MqV yX2_setInside YX2_setInside 1 := ⟨mM_X2_setInside, mS_X2_setInside, mI_X2, mK_X2_setInside, by decide +kernel, by decide +kernel, by decide +kernel⟩
abbrev YX3_heat : YX := (cX3_heat, 2, RX3, { frames := 2, cells := 0, slots := 0, locals := 43 }, (some .int), "heat")
theorem qV_X3_heat : MqV yX3_heat YX3_heat 1 := ⟨mM_X3_heat, mS_X3_heat, mI_X3, mK_X3_heat, by decide +kernel, by decide +kernel, by decide +kernel⟩
abbrev YX3_reason : YX := (cX3_reason, 2, RX3, { frames := 3, cells := 0, slots := 0, locals := 66 }, (some .int), "reason")
theorem qV_X3_reason : MqV yX3_reason YX3_reason 1 := ⟨mM_X3_reason, mS_X3_reason, mI_X3, mK_X3_reason, by decide +kernel, by decide +kernel, by decide +kernel⟩
abbrev YX3_takes : YX := (cX3_takes, 2, RX3, { frames := 3, cells := 0, slots := 0, locals := 64 }, (some .int), "takes")
theorem qV_X3_takes : MqV yX3_takes YX3_takes 1 := ⟨mM_X3_takes, mS_X3_takes, mI_X3, mK_X3_takes, by decide +kernel, by decide +kernel, by decide +kernel⟩
abbrev YX2_ticksToCut : YX := (cX2_ticksToCut, 3, RX2, { frames := 2, cells := 0, slots := 0, locals := 42 }, (some .int), "ticksToCut")
theorem qV_X2_ticksToCut : MqV yX2_ticksToCut YX2_ticksToCut 1 := ⟨mM_X2_ticksToCut, mS_X2_ticksToCut, mI_X2, mK_X2_ticksToCut, by decide +kernel, by decide +kernel, by decide +kernel⟩
abbrev YX3_coolsIn : YX := (cX3_coolsIn, 2, RX3, { frames := 4, cells := 0, slots := 0, locals := 90 }, (some .int), "coolsIn")
theorem qV_X3_coolsIn : MqV yX3_coolsIn YX3_coolsIn 1 := ⟨mM_X3_coolsIn, mS_X3_coolsIn, mI_X3, mK_X3_coolsIn, by decide +kernel, by decide +kernel, by decide +kernel⟩
abbrev YX2_ticksToCool : YX := (cX2_ticksToCool, 5, RX2, { frames := 3, cells := 0, slots := 0, locals := 66 }, (some .int), "ticksToCool")
theorem qV_X2_ticksToCool : MqV yX2_ticksToCool YX2_ticksToCool 1 := ⟨mM_X2_ticksToCool, mS_X2_ticksToCool, mI_X2, mK_X2_ticksToCool, by decide +kernel, by decide +kernel, by decide +kernel⟩
abbrev YX3_best : YX := (cX3_best, 1, RX3, { frames := 4, cells := 0, slots := 0, locals := 90 }, (some .int), "best")
theorem qV_X3_best : MqV yX3_best YX3_best 0 := ⟨mM_X3_best, mS_X3_best, mI_X3, mK_X3_best, by decide +kernel, by decide +kernel, by decide +kernel⟩
abbrev YX2_bestShape : YX := (cX2_bestShape, 5, RX2, { frames := 3, cells := 0, slots := 0, locals := 66 }, (some .int), "bestShape")
theorem qV_X2_bestShape : MqV yX2_bestShape YX2_bestShape 0 := ⟨mM_X2_bestShape, mS_X2_bestShape, mI_X2, mK_X2_bestShape, by decide +kernel, by decide +kernel, by decide +kernel⟩
abbrev YX3_ordered : YX := (cX3_ordered, 4, RX3, { frames := 6, cells := 0, slots := 0, locals := 135 }, (some .int), "ordered")
theorem qV_X3_ordered : MqV yX3_ordered YX3_ordered 1 := ⟨mM_X3_ordered, mS_X3_ordered, mI_X3, mK_X3_ordered, by decide +kernel, by decide +kernel, by decide +kernel⟩
abbrev YX2_cutNext : YX := (cX2_cutNext, 3, RX2, { frames := 5, cells := 0, slots := 0, locals := 113 }, (some .int), "cutNext")
theorem qV_X2_cutNext : MqV yX2_cutNext YX2_cutNext 0 := ⟨mM_X2_cutNext, mS_X2_cutNext, mI_X2, mK_X2_cutNext, by decide +kernel, by decide +kernel, by decide +kernel⟩
abbrev YX2_fewestTicksToCool : YX := (cX2_fewestTicksToCool, 4, RX2, { frames := 4, cells := 0, slots := 0, locals := 90 }, (some .int), "fewestTicksToCool")
theorem qV_X2_fewestTicksToCool : MqV yX2_fewestTicksToCool YX2_fewestTicksToCool 0 := ⟨mM_X2_fewestTicksToCool, mS_X2_fewestTicksToCool, mI_X2, mK_X2_fewestTicksToCool, by decide +kernel, by decide +kernel, by decide +kernel⟩
abbrev YX3_allTakes : YX := (cX3_allTakes, 2, RX3, { frames := 6, cells := 0, slots := 0, locals := 135 }, (some .int), "allTakes")
theorem qV_X3_allTakes : MqV yX3_allTakes YX3_allTakes 0 := ⟨mM_X3_allTakes, mS_X3_allTakes, mI_X3, mK_X3_allTakes, by decide +kernel, by decide +kernel, by decide +kernel⟩
abbrev YX2_shapesThatAre : YX := (cX2_shapesThatAre, 4, RX2, { frames := 0, cells := 0, slots := 0, locals := 0 }, (some .int), "shapesThatAre")
theorem qV_X2_shapesThatAre : MqV yX2_shapesThatAre YX2_shapesThatAre 1 := ⟨mM_X2_shapesThatAre, mS_X2_shapesThatAre, mI_X2, mK_X2_shapesThatAre, by decide +kernel, by decide +kernel, by decide +kernel⟩
abbrev YX3_count : YX := (cX3_count, 2, RX3, { frames := 3, cells := 0, slots := 0, locals := 63 }, (some .int), "count")
theorem qV_X3_count : MqV yX3_count YX3_count 1 := ⟨mM_X3_count, mS_X3_count, mI_X3, mK_X3_count, by decide +kernel, by decide +kernel, by decide +kernel⟩
abbrev YX2_factOfSheet : YX := (cX2_factOfSheet, 2, RX2, { frames := 2, cells := 0, slots := 0, locals := 42 }, (some .int), "factOfSheet")
theorem qV_X2_factOfSheet : MqV yX2_factOfSheet YX2_factOfSheet 1 := ⟨mM_X2_factOfSheet, mS_X2_factOfSheet, mI_X2, mK_X2_factOfSheet, by decide +kernel, by decide +kernel, by decide +kernel⟩
abbrev YX2_shapesThatTilted : YX := (cX2_shapesThatTilted, 3, RX2, { frames := 0, cells := 0, slots := 0, locals := 0 }, (some .int), "shapesThatTilted")
theorem qV_X2_shapesThatTilted : MqV yX2_shapesThatTilted YX2_shapesThatTilted 0 := ⟨mM_X2_shapesThatTilted, mS_X2_shapesThatTilted, mI_X2, mK_X2_shapesThatTilted, by decide +kernel, by decide +kernel, by decide +kernel⟩
abbrev YX2_allHeat : YX := (cX2_allHeat, 3, RX2, { frames := 0, cells := 0, slots := 0, locals := 0 }, (some .int), "allHeat")
theorem qV_X2_allHeat : MqV yX2_allHeat YX2_allHeat 0 := ⟨mM_X2_allHeat, mS_X2_allHeat, mI_X2, mK_X2_allHeat, by decide +kernel, by decide +kernel, by decide +kernel⟩
abbrev YX4_init : YX := (cX4_init, 1, RX4, { frames := 1, cells := 7, slots := 1024, locals := 20 }, none, "<init>")
theorem qI_X4_init : MqI yX4_init YX4_init 0 := ⟨mM_X4_init, rfl, mI_X4, mK_X4_init, by decide +kernel, by decide +kernel, by decide +kernel⟩
abbrev YX4_tell : YX := (cX4_tell, 7, RX4, { frames := 4, cells := 0, slots := 0, locals := 93 }, (some .int), "tell")
theorem qV_X4_tell : MqV yX4_tell YX4_tell 4 := ⟨mM_X4_tell, mS_X4_tell, mI_X4, mK_X4_tell, by decide +kernel, by decide +kernel, by decide +kernel⟩
abbrev YX4_in : YX := (cX4_in, 3, RX4, { frames := 0, cells := 0, slots := 0, locals := 0 }, (some .boolean), "in")
theorem qS_X4_in : MqS yX4_in YX4_in 3 := ⟨mT_X4_in, mI_X4, mK_X4_in, by decide +kernel, by decide +kernel, by decide +kernel⟩
abbrev YX4_couldBe : YX := (cX4_couldBe, 10, RX4, { frames := 3, cells := 0, slots := 0, locals := 64 }, (some .boolean), "couldBe")
theorem qV_X4_couldBe : MqV yX4_couldBe YX4_couldBe 4 := ⟨mM_X4_couldBe, mS_X4_couldBe, mI_X4, mK_X4_couldBe, by decide +kernel, by decide +kernel, by decide +kernel⟩
abbrev YX4_lastColumn : YX := (cX4_lastColumn, 2, RX4, { frames := 2, cells := 0, slots := 0, locals := 43 }, (some .int), "lastColumn")
theorem qV_X4_lastColumn : MqV yX4_lastColumn YX4_lastColumn 1 := ⟨mM_X4_lastColumn, mS_X4_lastColumn, mI_X4, mK_X4_lastColumn, by decide +kernel, by decide +kernel, by decide +kernel⟩
abbrev YX4_of : YX := (cX4_of, 3, RX4, { frames := 1, cells := 0, slots := 0, locals := 21 }, (some .int), "of")
theorem qV_X4_of : MqV yX4_of YX4_of 2 := ⟨mM_X4_of, mS_X4_of, mI_X4, mK_X4_of, by decide +kernel, by decide +kernel, by decide +kernel⟩
abbrev YX4_at : YX := (cX4_at, 2, RX4, { frames := 0, cells := 0, slots := 0, locals := 0 }, (some .int), "at")
theorem qS_X4_at : MqS yX4_at YX4_at 2 := ⟨mT_X4_at, mI_X4, mK_X4_at, by decide +kernel, by decide +kernel, by decide +kernel⟩
abbrev YX4_lastRow : YX := (cX4_lastRow, 2, RX4, { frames := 2, cells := 0, slots := 0, locals := 43 }, (some .int), "lastRow")
theorem qV_X4_lastRow : MqV yX4_lastRow YX4_lastRow 1 := ⟨mM_X4_lastRow, mS_X4_lastRow, mI_X4, mK_X4_lastRow, by decide +kernel, by decide +kernel, by decide +kernel⟩
abbrev YX4_isWhole : YX := (cX4_isWhole, 2, RX4, { frames := 2, cells := 0, slots := 0, locals := 43 }, (some .boolean), "isWhole")
theorem qV_X4_isWhole : MqV yX4_isWhole YX4_isWhole 1 := ⟨mM_X4_isWhole, mS_X4_isWhole, mI_X4, mK_X4_isWhole, by decide +kernel, by decide +kernel, by decide +kernel⟩
abbrev YX4_looks : YX := (cX4_looks, 2, RX4, { frames := 0, cells := 0, slots := 0, locals := 0 }, none, "looks")
theorem qV_X4_looks : MqV yX4_looks YX4_looks 0 := ⟨mM_X4_looks, mS_X4_looks, mI_X4, mK_X4_looks, by decide +kernel, by decide +kernel, by decide +kernel⟩
abbrev YX4_records : YX := (cX4_records, 2, RX4, { frames := 0, cells := 0, slots := 0, locals := 0 }, none, "records")
theorem qV_X4_records : MqV yX4_records YX4_records 0 := ⟨mM_X4_records, mS_X4_records, mI_X4, mK_X4_records, by decide +kernel, by decide +kernel, by decide +kernel⟩
abbrev YX4_lays : YX := (cX4_lays, 7, RX4, { frames := 1, cells := 0, slots := 0, locals := 21 }, none, "lays")
theorem qV_X4_lays : MqV yX4_lays YX4_lays 5 := ⟨mM_X4_lays, mS_X4_lays, mI_X4, mK_X4_lays, by decide +kernel, by decide +kernel, by decide +kernel⟩
abbrev YX4_setLead : YX := (cX4_setLead, 3, RX4, { frames := 4, cells := 0, slots := 0, locals := 87 }, (some .int), "setLead")
theorem qV_X4_setLead : MqV yX4_setLead YX4_setLead 2 := ⟨mM_X4_setLead, mS_X4_setLead, mI_X4, mK_X4_setLead, by decide +kernel, by decide +kernel, by decide +kernel⟩
abbrev YX4_leads : YX := (cX4_leads, 4, RX4, { frames := 3, cells := 0, slots := 0, locals := 64 }, (some .int), "leads")
theorem qV_X4_leads : MqV yX4_leads YX4_leads 2 := ⟨mM_X4_leads, mS_X4_leads, mI_X4, mK_X4_leads, by decide +kernel, by decide +kernel, by decide +kernel⟩
abbrev YX4_isShape : YX := (cX4_isShape, 2, RX4, { frames := 1, cells := 0, slots := 0, locals := 22 }, (some .boolean), "isShape")
theorem qV_X4_isShape : MqV yX4_isShape YX4_isShape 1 := ⟨mM_X4_isShape, mS_X4_isShape, mI_X4, mK_X4_isShape, by decide +kernel, by decide +kernel, by decide +kernel⟩
abbrev YX4_acted : YX := (cX4_acted, 2, RX4, { frames := 1, cells := 0, slots := 0, locals := 21 }, (some .int), "acted")
theorem qV_X4_acted : MqV yX4_acted YX4_acted 1 := ⟨mM_X4_acted, mS_X4_acted, mI_X4, mK_X4_acted, by decide +kernel, by decide +kernel, by decide +kernel⟩
abbrev YX4_set : YX := (cX4_set, 4, RX4, { frames := 1, cells := 0, slots := 0, locals := 22 }, (some .int), "set")
theorem qV_X4_set : MqV yX4_set YX4_set 2 := ⟨mM_X4_set, mS_X4_set, mI_X4, mK_X4_set, by decide +kernel, by decide +kernel, by decide +kernel⟩
abbrev YX4_most : YX := (cX4_most, 1, RX4, { frames := 0, cells := 0, slots := 0, locals := 0 }, (some .int), "most")
theorem qS_X4_most : MqS yX4_most YX4_most 1 := ⟨mT_X4_most, mI_X4, mK_X4_most, by decide +kernel, by decide +kernel, by decide +kernel⟩
abbrev YX4_cut : YX := (cX4_cut, 2, RX4, { frames := 8, cells := 0, slots := 0, locals := 180 }, (some .int), "cut")
theorem qV_X4_cut : MqV yX4_cut YX4_cut 1 := ⟨mM_X4_cut, mS_X4_cut, mI_X4, mK_X4_cut, by decide +kernel, by decide +kernel, by decide +kernel⟩
abbrev YX4_cuts : YX := (cX4_cuts, 4, RX4, { frames := 7, cells := 0, slots := 0, locals := 157 }, (some .int), "cuts")
theorem qV_X4_cuts : MqV yX4_cuts YX4_cuts 1 := ⟨mM_X4_cuts, mS_X4_cuts, mI_X4, mK_X4_cuts, by decide +kernel, by decide +kernel, by decide +kernel⟩
abbrev YX4_why : YX := (cX4_why, 2, RX4, { frames := 6, cells := 0, slots := 0, locals := 136 }, (some .int), "why")
theorem qV_X4_why : MqV yX4_why YX4_why 1 := ⟨mM_X4_why, mS_X4_why, mI_X4, mK_X4_why, by decide +kernel, by decide +kernel, by decide +kernel⟩
abbrev YX4_hasWholeInside : YX := (cX4_hasWholeInside, 4, RX4, { frames := 4, cells := 0, slots := 0, locals := 87 }, (some .boolean), "hasWholeInside")
theorem qV_X4_hasWholeInside : MqV yX4_hasWholeInside YX4_hasWholeInside 1 := ⟨mM_X4_hasWholeInside, mS_X4_hasWholeInside, mI_X4, mK_X4_hasWholeInside, by decide +kernel, by decide +kernel, by decide +kernel⟩
abbrev YX4_isInside : YX := (cX4_isInside, 4, RX4, { frames := 3, cells := 0, slots := 0, locals := 64 }, (some .boolean), "isInside")
theorem qV_X4_isInside : MqV yX4_isInside YX4_isInside 2 := ⟨mM_X4_isInside, mS_X4_isInside, mI_X4, mK_X4_isInside, by decide +kernel, by decide +kernel, by decide +kernel⟩
abbrev YX4_going : YX := (cX4_going, 2, RX4, { frames := 4, cells := 0, slots := 0, locals := 85 }, (some .int), "going")
theorem qV_X4_going : MqV yX4_going YX4_going 1 := ⟨mM_X4_going, mS_X4_going, mI_X4, mK_X4_going, by decide +kernel, by decide +kernel, by decide +kernel⟩
abbrev YX4_leadColumn : YX := (cX4_leadColumn, 2, RX4, { frames := 3, cells := 0, slots := 0, locals := 64 }, (some .int), "leadColumn")
theorem qV_X4_leadColumn : MqV yX4_leadColumn YX4_leadColumn 1 := ⟨mM_X4_leadColumn, mS_X4_leadColumn, mI_X4, mK_X4_leadColumn, by decide +kernel, by decide +kernel, by decide +kernel⟩
abbrev YX4_off : YX := (cX4_off, 2, RX4, { frames := 0, cells := 0, slots := 0, locals := 0 }, (some .int), "off")
theorem qS_X4_off : MqS yX4_off YX4_off 2 := ⟨mT_X4_off, mI_X4, mK_X4_off, by decide +kernel, by decide +kernel, by decide +kernel⟩
abbrev YX4_leadRow : YX := (cX4_leadRow, 2, RX4, { frames := 3, cells := 0, slots := 0, locals := 64 }, (some .int), "leadRow")
theorem qV_X4_leadRow : MqV yX4_leadRow YX4_leadRow 1 := ⟨mM_X4_leadRow, mS_X4_leadRow, mI_X4, mK_X4_leadRow, by decide +kernel, by decide +kernel, by decide +kernel⟩
abbrev YX4_isTooHot : YX := (cX4_isTooHot, 5, RX4, { frames := 5, cells := 0, slots := 0, locals := 112 }, (some .boolean), "isTooHot")
theorem qV_X4_isTooHot : MqV yX4_isTooHot YX4_isTooHot 2 := ⟨mM_X4_isTooHot, mS_X4_isTooHot, mI_X4, mK_X4_isTooHot, by decide +kernel, by decide +kernel, by decide +kernel⟩
abbrev YX4_edgeIn : YX := (cX4_edgeIn, 5, RX4, { frames := 4, cells := 0, slots := 0, locals := 88 }, (some .int), "edgeIn")
theorem qV_X4_edgeIn : MqV yX4_edgeIn YX4_edgeIn 2 := ⟨mM_X4_edgeIn, mS_X4_edgeIn, mI_X4, mK_X4_edgeIn, by decide +kernel, by decide +kernel, by decide +kernel⟩
abbrev YX4_isOnEdge : YX := (cX4_isOnEdge, 5, RX4, { frames := 3, cells := 0, slots := 0, locals := 64 }, (some .boolean), "isOnEdge")
theorem qV_X4_isOnEdge : MqV yX4_isOnEdge YX4_isOnEdge 3 := ⟨mM_X4_isOnEdge, mS_X4_isOnEdge, mI_X4, mK_X4_isOnEdge, by decide +kernel, by decide +kernel, by decide +kernel⟩
abbrev YX4_cooled : YX := (cX4_cooled, 2, RX4, { frames := 0, cells := 0, slots := 0, locals := 0 }, (some .int), "cooled")
theorem qS_X4_cooled : MqS yX4_cooled YX4_cooled 2 := ⟨mT_X4_cooled, mI_X4, mK_X4_cooled, by decide +kernel, by decide +kernel, by decide +kernel⟩
abbrev YX4_cools : YX := (cX4_cools, 3, RX4, { frames := 1, cells := 0, slots := 0, locals := 21 }, none, "cools")
theorem qV_X4_cools : MqV yX4_cools YX4_cools 1 := ⟨mM_X4_cools, mS_X4_cools, mI_X4, mK_X4_cools, by decide +kernel, by decide +kernel, by decide +kernel⟩
abbrev YX4_burning : YX := (cX4_burning, 2, RX4, { frames := 3, cells := 0, slots := 0, locals := 64 }, (some .int), "burning")
theorem qV_X4_burning : MqV yX4_burning YX4_burning 1 := ⟨mM_X4_burning, mS_X4_burning, mI_X4, mK_X4_burning, by decide +kernel, by decide +kernel, by decide +kernel⟩
abbrev YX4_edge : YX := (cX4_edge, 2, RX4, { frames := 2, cells := 0, slots := 0, locals := 43 }, (some .int), "edge")
theorem qV_X4_edge : MqV yX4_edge YX4_edge 1 := ⟨mM_X4_edge, mS_X4_edge, mI_X4, mK_X4_edge, by decide +kernel, by decide +kernel, by decide +kernel⟩
abbrev YX4_hottest : YX := (cX4_hottest, 3, RX4, { frames := 0, cells := 0, slots := 0, locals := 0 }, (some .int), "hottest")
theorem qV_X4_hottest : MqV yX4_hottest YX4_hottest 0 := ⟨mM_X4_hottest, mS_X4_hottest, mI_X4, mK_X4_hottest, by decide +kernel, by decide +kernel, by decide +kernel⟩
abbrev YX4_pause : YX := (cX4_pause, 2, RX4, { frames := 3, cells := 0, slots := 0, locals := 64 }, (some .int), "pause")
theorem qV_X4_pause : MqV yX4_pause YX4_pause 1 := ⟨mM_X4_pause, mS_X4_pause, mI_X4, mK_X4_pause, by decide +kernel, by decide +kernel, by decide +kernel⟩
abbrev YX4_waits : YX := (cX4_waits, 2, RX4, { frames := 2, cells := 0, slots := 0, locals := 43 }, (some .int), "waits")
theorem qV_X4_waits : MqV yX4_waits YX4_waits 1 := ⟨mM_X4_waits, mS_X4_waits, mI_X4, mK_X4_waits, by decide +kernel, by decide +kernel, by decide +kernel⟩
abbrev YX4_clean : YX := (cX4_clean, 1, RX4, { frames := 3, cells := 0, slots := 0, locals := 64 }, (some .int), "clean")
theorem qV_X4_clean : MqV yX4_clean YX4_clean 0 := ⟨mM_X4_clean, mS_X4_clean, mI_X4, mK_X4_clean, by decide +kernel, by decide +kernel, by decide +kernel⟩
abbrev YX4_cleans : YX := (cX4_cleans, 2, RX4, { frames := 2, cells := 0, slots := 0, locals := 43 }, (some .int), "cleans")
theorem qV_X4_cleans : MqV yX4_cleans YX4_cleans 0 := ⟨mM_X4_cleans, mS_X4_cleans, mI_X4, mK_X4_cleans, by decide +kernel, by decide +kernel, by decide +kernel⟩
abbrev YX4_type : YX := (cX4_type, 2, RX4, { frames := 0, cells := 0, slots := 0, locals := 0 }, (some .int), "type")
theorem qV_X4_type : MqV yX4_type YX4_type 1 := ⟨mM_X4_type, mS_X4_type, mI_X4, mK_X4_type, by decide +kernel, by decide +kernel, by decide +kernel⟩
abbrev YX4_clearText : YX := (cX4_clearText, 2, RX4, { frames := 0, cells := 0, slots := 0, locals := 0 }, (some .int), "clearText")
theorem qV_X4_clearText : MqV yX4_clearText YX4_clearText 0 := ⟨mM_X4_clearText, mS_X4_clearText, mI_X4, mK_X4_clearText, by decide +kernel, by decide +kernel, by decide +kernel⟩
abbrev YX4_perform : YX := (cX4_perform, 4, RX4, { frames := 10, cells := 0, slots := 0, locals := 225 }, (some .int), "perform")
theorem qV_X4_perform : MqV yX4_perform YX4_perform 0 := ⟨mM_X4_perform, mS_X4_perform, mI_X4, mK_X4_perform, by decide +kernel, by decide +kernel, by decide +kernel⟩
abbrev YX4_runs : YX := (cX4_runs, 6, RX4, { frames := 9, cells := 0, slots := 0, locals := 200 }, (some .int), "runs")
theorem qV_X4_runs : MqV yX4_runs YX4_runs 1 := ⟨mM_X4_runs, mS_X4_runs, mI_X4, mK_X4_runs, by decide +kernel, by decide +kernel, by decide +kernel⟩
abbrev YX4_readThing : YX := (cX4_readThing, 2, RX4, { frames := 3, cells := 0, slots := 0, locals := 69 }, none, "readThing")
theorem qV_X4_readThing : MqV yX4_readThing YX4_readThing 0 := ⟨mM_X4_readThing, mS_X4_readThing, mI_X4, mK_X4_readThing, by decide +kernel, by decide +kernel, by decide +kernel⟩
abbrev YX4_takesNumber : YX := (cX4_takesNumber, 5, RX4, { frames := 2, cells := 0, slots := 0, locals := 45 }, (some .int), "takesNumber")
theorem qV_X4_takesNumber : MqV yX4_takesNumber YX4_takesNumber 2 := ⟨mM_X4_takesNumber, mS_X4_takesNumber, mI_X4, mK_X4_takesNumber, by decide +kernel, by decide +kernel, by decide +kernel⟩
abbrev YX4_takesOne : YX := (cX4_takesOne, 4, RX4, { frames := 1, cells := 0, slots := 0, locals := 22 }, (some .int), "takesOne")
theorem qV_X4_takesOne : MqV yX4_takesOne YX4_takesOne 2 := ⟨mM_X4_takesOne, mS_X4_takesOne, mI_X4, mK_X4_takesOne, by decide +kernel, by decide +kernel, by decide +kernel⟩
abbrev YX4_isNext : YX := (cX4_isNext, 3, RX4, { frames := 1, cells := 0, slots := 0, locals := 22 }, (some .boolean), "isNext")
theorem qV_X4_isNext : MqV yX4_isNext YX4_isNext 2 := ⟨mM_X4_isNext, mS_X4_isNext, mI_X4, mK_X4_isNext, by decide +kernel, by decide +kernel, by decide +kernel⟩
abbrev YX4_does : YX := (cX4_does, 1, RX4, { frames := 8, cells := 0, slots := 0, locals := 180 }, (some .int), "does")
theorem qV_X4_does : MqV yX4_does YX4_does 0 := ⟨mM_X4_does, mS_X4_does, mI_X4, mK_X4_does, by decide +kernel, by decide +kernel, by decide +kernel⟩
abbrev YX4_stopped : YX := (cX4_stopped, 2, RX4, { frames := 0, cells := 0, slots := 0, locals := 0 }, (some .int), "stopped")
theorem qV_X4_stopped : MqV yX4_stopped YX4_stopped 1 := ⟨mM_X4_stopped, mS_X4_stopped, mI_X4, mK_X4_stopped, by decide +kernel, by decide +kernel, by decide +kernel⟩
abbrev YX4_undo : YX := (cX4_undo, 2, RX4, { frames := 0, cells := 0, slots := 0, locals := 0 }, (some .int), "undo")
theorem qV_X4_undo : MqV yX4_undo YX4_undo 0 := ⟨mM_X4_undo, mS_X4_undo, mI_X4, mK_X4_undo, by decide +kernel, by decide +kernel, by decide +kernel⟩
abbrev YX4_keep : YX := (cX4_keep, 2, RX4, { frames := 0, cells := 0, slots := 0, locals := 0 }, (some .int), "keep")
theorem qV_X4_keep : MqV yX4_keep YX4_keep 0 := ⟨mM_X4_keep, mS_X4_keep, mI_X4, mK_X4_keep, by decide +kernel, by decide +kernel, by decide +kernel⟩
abbrev YX4_restore : YX := (cX4_restore, 2, RX4, { frames := 1, cells := 0, slots := 0, locals := 21 }, (some .int), "restore")
theorem qV_X4_restore : MqV yX4_restore YX4_restore 0 := ⟨mM_X4_restore, mS_X4_restore, mI_X4, mK_X4_restore, by decide +kernel, by decide +kernel, by decide +kernel⟩
abbrev YX4_shape : YX := (cX4_shape, 3, RX4, { frames := 5, cells := 0, slots := 0, locals := 110 }, (some .int), "shape")
theorem qV_X4_shape : MqV yX4_shape YX4_shape 2 := ⟨mM_X4_shape, mS_X4_shape, mI_X4, mK_X4_shape, by decide +kernel, by decide +kernel, by decide +kernel⟩
abbrev YX4_outer : YX := (cX4_outer, 4, RX4, { frames := 4, cells := 0, slots := 0, locals := 87 }, (some .int), "outer")
theorem qV_X4_outer : MqV yX4_outer YX4_outer 1 := ⟨mM_X4_outer, mS_X4_outer, mI_X4, mK_X4_outer, by decide +kernel, by decide +kernel, by decide +kernel⟩
abbrev YX4_inner : YX := (cX4_inner, 4, RX4, { frames := 4, cells := 0, slots := 0, locals := 87 }, (some .int), "inner")
theorem qV_X4_inner : MqV yX4_inner YX4_inner 1 := ⟨mM_X4_inner, mS_X4_inner, mI_X4, mK_X4_inner, by decide +kernel, by decide +kernel, by decide +kernel⟩
abbrev YX4_heat : YX := (cX4_heat, 2, RX4, { frames := 1, cells := 0, slots := 0, locals := 22 }, (some .int), "heat")
theorem qV_X4_heat : MqV yX4_heat YX4_heat 1 := ⟨mM_X4_heat, mS_X4_heat, mI_X4, mK_X4_heat, by decide +kernel, by decide +kernel, by decide +kernel⟩
abbrev YX4_reason : YX := (cX4_reason, 2, RX4, { frames := 7, cells := 0, slots := 0, locals := 157 }, (some .int), "reason")
theorem qV_X4_reason : MqV yX4_reason YX4_reason 1 := ⟨mM_X4_reason, mS_X4_reason, mI_X4, mK_X4_reason, by decide +kernel, by decide +kernel, by decide +kernel⟩
abbrev YX4_takes : YX := (cX4_takes, 2, RX4, { frames := 6, cells := 0, slots := 0, locals := 127 }, (some .int), "takes")
theorem qV_X4_takes : MqV yX4_takes YX4_takes 1 := ⟨mM_X4_takes, mS_X4_takes, mI_X4, mK_X4_takes, by decide +kernel, by decide +kernel, by decide +kernel⟩
abbrev YX4_ticksOf : YX := (cX4_ticksOf, 2, RX4, { frames := 5, cells := 0, slots := 0, locals := 106 }, (some .int), "ticksOf")
theorem qV_X4_ticksOf : MqV yX4_ticksOf YX4_ticksOf 1 := ⟨mM_X4_ticksOf, mS_X4_ticksOf, mI_X4, mK_X4_ticksOf, by decide +kernel, by decide +kernel, by decide +kernel⟩
abbrev YX4_coolsIn : YX := (cX4_coolsIn, 2, RX4, { frames := 7, cells := 0, slots := 0, locals := 157 }, (some .int), "coolsIn")
theorem qV_X4_coolsIn : MqV yX4_coolsIn YX4_coolsIn 1 := ⟨mM_X4_coolsIn, mS_X4_coolsIn, mI_X4, mK_X4_coolsIn, by decide +kernel, by decide +kernel, by decide +kernel⟩
abbrev YX4_waitFor : YX := (cX4_waitFor, 6, RX4, { frames := 5, cells := 0, slots := 0, locals := 112 }, (some .int), "waitFor")
theorem qV_X4_waitFor : MqV yX4_waitFor YX4_waitFor 1 := ⟨mM_X4_waitFor, mS_X4_waitFor, mI_X4, mK_X4_waitFor, by decide +kernel, by decide +kernel, by decide +kernel⟩
abbrev YX4_best : YX := (cX4_best, 1, RX4, { frames := 8, cells := 0, slots := 0, locals := 179 }, (some .int), "best")
theorem qV_X4_best : MqV yX4_best YX4_best 0 := ⟨mM_X4_best, mS_X4_best, mI_X4, mK_X4_best, by decide +kernel, by decide +kernel, by decide +kernel⟩
abbrev YX4_bestOne : YX := (cX4_bestOne, 3, RX4, { frames := 7, cells := 0, slots := 0, locals := 157 }, (some .int), "bestOne")
theorem qV_X4_bestOne : MqV yX4_bestOne YX4_bestOne 0 := ⟨mM_X4_bestOne, mS_X4_bestOne, mI_X4, mK_X4_bestOne, by decide +kernel, by decide +kernel, by decide +kernel⟩
abbrev YX4_ordered : YX := (cX4_ordered, 2, RX4, { frames := 9, cells := 0, slots := 0, locals := 204 }, (some .int), "ordered")
theorem qV_X4_ordered : MqV yX4_ordered YX4_ordered 1 := ⟨mM_X4_ordered, mS_X4_ordered, mI_X4, mK_X4_ordered, by decide +kernel, by decide +kernel, by decide +kernel⟩
abbrev YX4_layOrder : YX := (cX4_layOrder, 5, RX4, { frames := 8, cells := 0, slots := 0, locals := 180 }, none, "layOrder")
theorem qV_X4_layOrder : MqV yX4_layOrder YX4_layOrder 0 := ⟨mM_X4_layOrder, mS_X4_layOrder, mI_X4, mK_X4_layOrder, by decide +kernel, by decide +kernel, by decide +kernel⟩
abbrev YX4_putAside : YX := (cX4_putAside, 2, RX4, { frames := 0, cells := 0, slots := 0, locals := 0 }, none, "putAside")
theorem qV_X4_putAside : MqV yX4_putAside YX4_putAside 0 := ⟨mM_X4_putAside, mS_X4_putAside, mI_X4, mK_X4_putAside, by decide +kernel, by decide +kernel, by decide +kernel⟩
abbrev YX4_soonest : YX := (cX4_soonest, 4, RX4, { frames := 7, cells := 0, slots := 0, locals := 157 }, (some .int), "soonest")
theorem qV_X4_soonest : MqV yX4_soonest YX4_soonest 0 := ⟨mM_X4_soonest, mS_X4_soonest, mI_X4, mK_X4_soonest, by decide +kernel, by decide +kernel, by decide +kernel⟩
abbrev YX4_many : YX := (cX4_many, 4, RX4, { frames := 2, cells := 0, slots := 0, locals := 43 }, (some .int), "many")
theorem qV_X4_many : MqV yX4_many YX4_many 1 := ⟨mM_X4_many, mS_X4_many, mI_X4, mK_X4_many, by decide +kernel, by decide +kernel, by decide +kernel⟩
abbrev YX4_putBack : YX := (cX4_putBack, 2, RX4, { frames := 0, cells := 0, slots := 0, locals := 0 }, none, "putBack")
theorem qV_X4_putBack : MqV yX4_putBack YX4_putBack 0 := ⟨mM_X4_putBack, mS_X4_putBack, mI_X4, mK_X4_putBack, by decide +kernel, by decide +kernel, by decide +kernel⟩
abbrev YX4_allTakes : YX := (cX4_allTakes, 1, RX4, { frames := 9, cells := 0, slots := 0, locals := 204 }, (some .int), "allTakes")
theorem qV_X4_allTakes : MqV yX4_allTakes YX4_allTakes 0 := ⟨mM_X4_allTakes, mS_X4_allTakes, mI_X4, mK_X4_allTakes, by decide +kernel, by decide +kernel, by decide +kernel⟩
abbrev YX4_count : YX := (cX4_count, 2, RX4, { frames := 3, cells := 0, slots := 0, locals := 66 }, (some .int), "count")
theorem qV_X4_count : MqV yX4_count YX4_count 1 := ⟨mM_X4_count, mS_X4_count, mI_X4, mK_X4_count, by decide +kernel, by decide +kernel, by decide +kernel⟩
abbrev YX4_tilted : YX := (cX4_tilted, 3, RX4, { frames := 2, cells := 0, slots := 0, locals := 43 }, (some .int), "tilted")
theorem qV_X4_tilted : MqV yX4_tilted YX4_tilted 0 := ⟨mM_X4_tilted, mS_X4_tilted, mI_X4, mK_X4_tilted, by decide +kernel, by decide +kernel, by decide +kernel⟩
abbrev YX4_hottestSquare : YX := (cX4_hottestSquare, 3, RX4, { frames := 1, cells := 0, slots := 0, locals := 22 }, (some .int), "hottestSquare")
theorem qV_X4_hottestSquare : MqV yX4_hottestSquare YX4_hottestSquare 0 := ⟨mM_X4_hottestSquare, mS_X4_hottestSquare, mI_X4, mK_X4_hottestSquare, by decide +kernel, by decide +kernel, by decide +kernel⟩
abbrev YX4_allHeat : YX := (cX4_allHeat, 3, RX4, { frames := 0, cells := 0, slots := 0, locals := 0 }, (some .int), "allHeat")
theorem qV_X4_allHeat : MqV yX4_allHeat YX4_allHeat 0 := ⟨mM_X4_allHeat, mS_X4_allHeat, mI_X4, mK_X4_allHeat, by decide +kernel, by decide +kernel, by decide +kernel⟩
