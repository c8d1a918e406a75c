section
-- ===== PART A: goes FIRST, ahead of the names: the tables' words, and 'selects' of the private methods out of them =====
/-- a private method of a class that the tables say can be made, by its rows of tables_1 -/
def lw_okq (q : MethodName × Nat) : Prop := (q.1.cls ≠ "java/lang/invoke/MethodHandle" ∧ q.1.cls ≠ "java/lang/invoke/VarHandle") ∧ Cond.instantiable q.1.cls q.2 ∈ tables_1 ∧ Cond.privateMethod q.1 ∈ tables_1 ∧ Cond.instanceMethod q.1 ∈ tables_1
theorem lw_p0 : lw_okq (⟨"BeamCuts$Shape", "fieldsIn", "(II)I"⟩, 9) := ⟨⟨by decide +kernel, by decide +kernel⟩, List.mem_of_getElem? (i := 23) (by decide +kernel), List.mem_of_getElem? (i := 186) (by decide +kernel), List.mem_of_getElem? (i := 187) (by decide +kernel)⟩
theorem lw_p1 : lw_okq (⟨"BeamCuts$Sheet", "fits", "(LBeamCuts$Shape;)Z"⟩, 10) := ⟨⟨by decide +kernel, by decide +kernel⟩, List.mem_of_getElem? (i := 16) (by decide +kernel), List.mem_of_getElem? (i := 196) (by decide +kernel), List.mem_of_getElem? (i := 197) (by decide +kernel)⟩
theorem lw_p2 : lw_okq (⟨"BeamCuts", "recorded", "(I)I"⟩, 10) := ⟨⟨by decide +kernel, by decide +kernel⟩, List.mem_of_getElem? (i := 8) (by decide +kernel), List.mem_of_getElem? (i := 208) (by decide +kernel), List.mem_of_getElem? (i := 209) (by decide +kernel)⟩
theorem lw_p3 : lw_okq (⟨"BeamCuts", "dropOldestState", "()V"⟩, 10) := ⟨⟨by decide +kernel, by decide +kernel⟩, List.mem_of_getElem? (i := 8) (by decide +kernel), List.mem_of_getElem? (i := 212) (by decide +kernel), List.mem_of_getElem? (i := 213) (by decide +kernel)⟩
theorem lw_p4 : lw_okq (⟨"BeamCuts$Sheet", "holdsWholeShape", "(LBeamCuts$Shape;)Z"⟩, 10) := ⟨⟨by decide +kernel, by decide +kernel⟩, List.mem_of_getElem? (i := 16) (by decide +kernel), List.mem_of_getElem? (i := 252) (by decide +kernel), List.mem_of_getElem? (i := 253) (by decide +kernel)⟩
theorem lw_p5 : lw_okq (⟨"BeamCuts$Sheet", "heatOver", "(LBeamCuts$Shape;)I"⟩, 10) := ⟨⟨by decide +kernel, by decide +kernel⟩, List.mem_of_getElem? (i := 16) (by decide +kernel), List.mem_of_getElem? (i := 256) (by decide +kernel), List.mem_of_getElem? (i := 257) (by decide +kernel)⟩
theorem lw_p6 : lw_okq (⟨"BeamCuts$Sheet", "wayTo", "(LBeamCuts$Shape;)I"⟩, 10) := ⟨⟨by decide +kernel, by decide +kernel⟩, List.mem_of_getElem? (i := 16) (by decide +kernel), List.mem_of_getElem? (i := 261) (by decide +kernel), List.mem_of_getElem? (i := 262) (by decide +kernel)⟩
theorem lw_p7 : lw_okq (⟨"BeamCuts$Sheet", "coolFor", "(I)V"⟩, 10) := ⟨⟨by decide +kernel, by decide +kernel⟩, List.mem_of_getElem? (i := 16) (by decide +kernel), List.mem_of_getElem? (i := 276) (by decide +kernel), List.mem_of_getElem? (i := 277) (by decide +kernel)⟩
theorem lw_p8 : lw_okq (⟨"BeamCuts$Sheet", "burnEdge", "(LBeamCuts$Shape;)V"⟩, 10) := ⟨⟨by decide +kernel, by decide +kernel⟩, List.mem_of_getElem? (i := 16) (by decide +kernel), List.mem_of_getElem? (i := 280) (by decide +kernel), List.mem_of_getElem? (i := 281) (by decide +kernel)⟩
theorem lw_p9 : lw_okq (⟨"BeamCuts$Sheet", "burningOf", "(LBeamCuts$Shape;)I"⟩, 10) := ⟨⟨by decide +kernel, by decide +kernel⟩, List.mem_of_getElem? (i := 16) (by decide +kernel), List.mem_of_getElem? (i := 284) (by decide +kernel), List.mem_of_getElem? (i := 285) (by decide +kernel)⟩
theorem lw_p10 : lw_okq (⟨"BeamCuts$Sheet", "greatestHeat", "()I"⟩, 10) := ⟨⟨by decide +kernel, by decide +kernel⟩, List.mem_of_getElem? (i := 16) (by decide +kernel), List.mem_of_getElem? (i := 302) (by decide +kernel), List.mem_of_getElem? (i := 303) (by decide +kernel)⟩
theorem lw_p11 : lw_okq (⟨"BeamCuts$Sheet", "hottestSquare", "()I"⟩, 10) := ⟨⟨by decide +kernel, by decide +kernel⟩, List.mem_of_getElem? (i := 16) (by decide +kernel), List.mem_of_getElem? (i := 306) (by decide +kernel), List.mem_of_getElem? (i := 307) (by decide +kernel)⟩
theorem lw_p12 : lw_okq (⟨"BeamCuts$Sheet", "loseShapesInside", "(LBeamCuts$Shape;)I"⟩, 10) := ⟨⟨by decide +kernel, by decide +kernel⟩, List.mem_of_getElem? (i := 16) (by decide +kernel), List.mem_of_getElem? (i := 310) (by decide +kernel), List.mem_of_getElem? (i := 311) (by decide +kernel)⟩
theorem lw_p13 : lw_okq (⟨"BeamCuts$Plan", "readThing", "()Z"⟩, 7) := ⟨⟨by decide +kernel, by decide +kernel⟩, List.mem_of_getElem? (i := 101) (by decide +kernel), List.mem_of_getElem? (i := 354) (by decide +kernel), List.mem_of_getElem? (i := 355) (by decide +kernel)⟩
theorem lw_p14 : lw_okq (⟨"BeamCuts$Plan", "readLetter", "(C)Z"⟩, 7) := ⟨⟨by decide +kernel, by decide +kernel⟩, List.mem_of_getElem? (i := 101) (by decide +kernel), List.mem_of_getElem? (i := 358) (by decide +kernel), List.mem_of_getElem? (i := 359) (by decide +kernel)⟩
theorem lw_p15 : lw_okq (⟨"BeamCuts$Plan", "readNumber", "([III)Z"⟩, 7) := ⟨⟨by decide +kernel, by decide +kernel⟩, List.mem_of_getElem? (i := 101) (by decide +kernel), List.mem_of_getElem? (i := 362) (by decide +kernel), List.mem_of_getElem? (i := 363) (by decide +kernel)⟩
def lw_privs_1 : List (MethodName × Nat) := [(⟨"BeamCuts$Shape", "fieldsIn", "(II)I"⟩, 9), (⟨"BeamCuts$Sheet", "fits", "(LBeamCuts$Shape;)Z"⟩, 10), (⟨"BeamCuts", "recorded", "(I)I"⟩, 10), (⟨"BeamCuts", "dropOldestState", "()V"⟩, 10), (⟨"BeamCuts$Sheet", "holdsWholeShape", "(LBeamCuts$Shape;)Z"⟩, 10), (⟨"BeamCuts$Sheet", "heatOver", "(LBeamCuts$Shape;)I"⟩, 10), (⟨"BeamCuts$Sheet", "wayTo", "(LBeamCuts$Shape;)I"⟩, 10), (⟨"BeamCuts$Sheet", "coolFor", "(I)V"⟩, 10), (⟨"BeamCuts$Sheet", "burnEdge", "(LBeamCuts$Shape;)V"⟩, 10), (⟨"BeamCuts$Sheet", "burningOf", "(LBeamCuts$Shape;)I"⟩, 10), (⟨"BeamCuts$Sheet", "greatestHeat", "()I"⟩, 10), (⟨"BeamCuts$Sheet", "hottestSquare", "()I"⟩, 10), (⟨"BeamCuts$Sheet", "loseShapesInside", "(LBeamCuts$Shape;)I"⟩, 10), (⟨"BeamCuts$Plan", "readThing", "()Z"⟩, 7), (⟨"BeamCuts$Plan", "readLetter", "(C)Z"⟩, 7), (⟨"BeamCuts$Plan", "readNumber", "([III)Z"⟩, 7)]
theorem lw_r1 : ∀ q ∈ lw_privs_1, lw_okq q := List.forall_mem_cons.mpr ⟨lw_p0, List.forall_mem_cons.mpr ⟨lw_p1, List.forall_mem_cons.mpr ⟨lw_p2, List.forall_mem_cons.mpr ⟨lw_p3, List.forall_mem_cons.mpr ⟨lw_p4, List.forall_mem_cons.mpr ⟨lw_p5, List.forall_mem_cons.mpr ⟨lw_p6, List.forall_mem_cons.mpr ⟨lw_p7, List.forall_mem_cons.mpr ⟨lw_p8, List.forall_mem_cons.mpr ⟨lw_p9, List.forall_mem_cons.mpr ⟨lw_p10, List.forall_mem_cons.mpr ⟨lw_p11, List.forall_mem_cons.mpr ⟨lw_p12, List.forall_mem_cons.mpr ⟨lw_p13, List.forall_mem_cons.mpr ⟨lw_p14, List.forall_mem_cons.mpr ⟨lw_p15, fun _ h => absurd h List.not_mem_nil⟩⟩⟩⟩⟩⟩⟩⟩⟩⟩⟩⟩⟩⟩⟩⟩
theorem lw_p16 : lw_okq (⟨"BeamCuts$Plan", "digitAt", "(I)I"⟩, 7) := ⟨⟨by decide +kernel, by decide +kernel⟩, List.mem_of_getElem? (i := 101) (by decide +kernel), List.mem_of_getElem? (i := 366) (by decide +kernel), List.mem_of_getElem? (i := 367) (by decide +kernel)⟩
theorem lw_p17 : lw_okq (⟨"BeamCuts$Sheet", "outerOf", "(LBeamCuts$Shape;)I"⟩, 10) := ⟨⟨by decide +kernel, by decide +kernel⟩, List.mem_of_getElem? (i := 16) (by decide +kernel), List.mem_of_getElem? (i := 404) (by decide +kernel), List.mem_of_getElem? (i := 405) (by decide +kernel)⟩
theorem lw_p18 : lw_okq (⟨"BeamCuts$Sheet", "setInside", "(LBeamCuts$Shape;)I"⟩, 10) := ⟨⟨by decide +kernel, by decide +kernel⟩, List.mem_of_getElem? (i := 16) (by decide +kernel), List.mem_of_getElem? (i := 408) (by decide +kernel), List.mem_of_getElem? (i := 409) (by decide +kernel)⟩
theorem lw_p19 : lw_okq (⟨"BeamCuts$Sheet", "fewestTicksToCool", "()I"⟩, 10) := ⟨⟨by decide +kernel, by decide +kernel⟩, List.mem_of_getElem? (i := 16) (by decide +kernel), List.mem_of_getElem? (i := 457) (by decide +kernel), List.mem_of_getElem? (i := 458) (by decide +kernel)⟩
theorem lw_p20 : lw_okq (⟨"BeamCuts$Sheet", "shapesThatTilted", "()I"⟩, 10) := ⟨⟨by decide +kernel, by decide +kernel⟩, List.mem_of_getElem? (i := 16) (by decide +kernel), List.mem_of_getElem? (i := 480) (by decide +kernel), List.mem_of_getElem? (i := 481) (by decide +kernel)⟩
theorem lw_p21 : lw_okq (⟨"BeamCuts$Sheet", "allHeat", "()I"⟩, 10) := ⟨⟨by decide +kernel, by decide +kernel⟩, List.mem_of_getElem? (i := 16) (by decide +kernel), List.mem_of_getElem? (i := 484) (by decide +kernel), List.mem_of_getElem? (i := 485) (by decide +kernel)⟩
theorem lw_p22 : lw_okq (⟨"BeamCutsModel", "couldBe", "(IIII)Z"⟩, 21) := ⟨⟨by decide +kernel, by decide +kernel⟩, List.mem_of_getElem? (i := 488) (by decide +kernel), List.mem_of_getElem? (i := 565) (by decide +kernel), List.mem_of_getElem? (i := 566) (by decide +kernel)⟩
theorem lw_p23 : lw_okq (⟨"BeamCutsModel", "lastColumn", "(I)I"⟩, 21) := ⟨⟨by decide +kernel, by decide +kernel⟩, List.mem_of_getElem? (i := 488) (by decide +kernel), List.mem_of_getElem? (i := 569) (by decide +kernel), List.mem_of_getElem? (i := 570) (by decide +kernel)⟩
theorem lw_p24 : lw_okq (⟨"BeamCutsModel", "of", "(II)I"⟩, 21) := ⟨⟨by decide +kernel, by decide +kernel⟩, List.mem_of_getElem? (i := 488) (by decide +kernel), List.mem_of_getElem? (i := 573) (by decide +kernel), List.mem_of_getElem? (i := 574) (by decide +kernel)⟩
theorem lw_p25 : lw_okq (⟨"BeamCutsModel", "lastRow", "(I)I"⟩, 21) := ⟨⟨by decide +kernel, by decide +kernel⟩, List.mem_of_getElem? (i := 488) (by decide +kernel), List.mem_of_getElem? (i := 580) (by decide +kernel), List.mem_of_getElem? (i := 581) (by decide +kernel)⟩
theorem lw_p26 : lw_okq (⟨"BeamCutsModel", "isWhole", "(I)Z"⟩, 21) := ⟨⟨by decide +kernel, by decide +kernel⟩, List.mem_of_getElem? (i := 488) (by decide +kernel), List.mem_of_getElem? (i := 584) (by decide +kernel), List.mem_of_getElem? (i := 585) (by decide +kernel)⟩
theorem lw_p27 : lw_okq (⟨"BeamCutsModel", "looks", "()V"⟩, 21) := ⟨⟨by decide +kernel, by decide +kernel⟩, List.mem_of_getElem? (i := 488) (by decide +kernel), List.mem_of_getElem? (i := 588) (by decide +kernel), List.mem_of_getElem? (i := 589) (by decide +kernel)⟩
theorem lw_p28 : lw_okq (⟨"BeamCutsModel", "records", "()V"⟩, 21) := ⟨⟨by decide +kernel, by decide +kernel⟩, List.mem_of_getElem? (i := 488) (by decide +kernel), List.mem_of_getElem? (i := 592) (by decide +kernel), List.mem_of_getElem? (i := 593) (by decide +kernel)⟩
theorem lw_p29 : lw_okq (⟨"BeamCutsModel", "lays", "(IIIII)V"⟩, 21) := ⟨⟨by decide +kernel, by decide +kernel⟩, List.mem_of_getElem? (i := 488) (by decide +kernel), List.mem_of_getElem? (i := 596) (by decide +kernel), List.mem_of_getElem? (i := 597) (by decide +kernel)⟩
theorem lw_p30 : lw_okq (⟨"BeamCutsModel", "leads", "(II)I"⟩, 21) := ⟨⟨by decide +kernel, by decide +kernel⟩, List.mem_of_getElem? (i := 488) (by decide +kernel), List.mem_of_getElem? (i := 604) (by decide +kernel), List.mem_of_getElem? (i := 605) (by decide +kernel)⟩
theorem lw_p31 : lw_okq (⟨"BeamCutsModel", "isShape", "(I)Z"⟩, 21) := ⟨⟨by decide +kernel, by decide +kernel⟩, List.mem_of_getElem? (i := 488) (by decide +kernel), List.mem_of_getElem? (i := 608) (by decide +kernel), List.mem_of_getElem? (i := 609) (by decide +kernel)⟩
def lw_privs_2 : List (MethodName × Nat) := [(⟨"BeamCuts$Plan", "digitAt", "(I)I"⟩, 7), (⟨"BeamCuts$Sheet", "outerOf", "(LBeamCuts$Shape;)I"⟩, 10), (⟨"BeamCuts$Sheet", "setInside", "(LBeamCuts$Shape;)I"⟩, 10), (⟨"BeamCuts$Sheet", "fewestTicksToCool", "()I"⟩, 10), (⟨"BeamCuts$Sheet", "shapesThatTilted", "()I"⟩, 10), (⟨"BeamCuts$Sheet", "allHeat", "()I"⟩, 10), (⟨"BeamCutsModel", "couldBe", "(IIII)Z"⟩, 21), (⟨"BeamCutsModel", "lastColumn", "(I)I"⟩, 21), (⟨"BeamCutsModel", "of", "(II)I"⟩, 21), (⟨"BeamCutsModel", "lastRow", "(I)I"⟩, 21), (⟨"BeamCutsModel", "isWhole", "(I)Z"⟩, 21), (⟨"BeamCutsModel", "looks", "()V"⟩, 21), (⟨"BeamCutsModel", "records", "()V"⟩, 21), (⟨"BeamCutsModel", "lays", "(IIIII)V"⟩, 21), (⟨"BeamCutsModel", "leads", "(II)I"⟩, 21), (⟨"BeamCutsModel", "isShape", "(I)Z"⟩, 21)]
theorem lw_r2 : ∀ q ∈ lw_privs_2, lw_okq q := List.forall_mem_cons.mpr ⟨lw_p16, List.forall_mem_cons.mpr ⟨lw_p17, List.forall_mem_cons.mpr ⟨lw_p18, List.forall_mem_cons.mpr ⟨lw_p19, List.forall_mem_cons.mpr ⟨lw_p20, List.forall_mem_cons.mpr ⟨lw_p21, List.forall_mem_cons.mpr ⟨lw_p22, List.forall_mem_cons.mpr ⟨lw_p23, List.forall_mem_cons.mpr ⟨lw_p24, List.forall_mem_cons.mpr ⟨lw_p25, List.forall_mem_cons.mpr ⟨lw_p26, List.forall_mem_cons.mpr ⟨lw_p27, List.forall_mem_cons.mpr ⟨lw_p28, List.forall_mem_cons.mpr ⟨lw_p29, List.forall_mem_cons.mpr ⟨lw_p30, List.forall_mem_cons.mpr ⟨lw_p31, fun _ h => absurd h List.not_mem_nil⟩⟩⟩⟩⟩⟩⟩⟩⟩⟩⟩⟩⟩⟩⟩⟩
theorem lw_p32 : lw_okq (⟨"BeamCutsModel", "acted", "(I)I"⟩, 21) := ⟨⟨by decide +kernel, by decide +kernel⟩, List.mem_of_getElem? (i := 488) (by decide +kernel), List.mem_of_getElem? (i := 612) (by decide +kernel), List.mem_of_getElem? (i := 613) (by decide +kernel)⟩
theorem lw_p33 : lw_okq (⟨"BeamCutsModel", "cuts", "(I)I"⟩, 21) := ⟨⟨by decide +kernel, by decide +kernel⟩, List.mem_of_getElem? (i := 488) (by decide +kernel), List.mem_of_getElem? (i := 627) (by decide +kernel), List.mem_of_getElem? (i := 628) (by decide +kernel)⟩
theorem lw_p34 : lw_okq (⟨"BeamCutsModel", "why", "(I)I"⟩, 21) := ⟨⟨by decide +kernel, by decide +kernel⟩, List.mem_of_getElem? (i := 488) (by decide +kernel), List.mem_of_getElem? (i := 631) (by decide +kernel), List.mem_of_getElem? (i := 632) (by decide +kernel)⟩
theorem lw_p35 : lw_okq (⟨"BeamCutsModel", "hasWholeInside", "(I)Z"⟩, 21) := ⟨⟨by decide +kernel, by decide +kernel⟩, List.mem_of_getElem? (i := 488) (by decide +kernel), List.mem_of_getElem? (i := 635) (by decide +kernel), List.mem_of_getElem? (i := 636) (by decide +kernel)⟩
theorem lw_p36 : lw_okq (⟨"BeamCutsModel", "isInside", "(II)Z"⟩, 21) := ⟨⟨by decide +kernel, by decide +kernel⟩, List.mem_of_getElem? (i := 488) (by decide +kernel), List.mem_of_getElem? (i := 639) (by decide +kernel), List.mem_of_getElem? (i := 640) (by decide +kernel)⟩
theorem lw_p37 : lw_okq (⟨"BeamCutsModel", "going", "(I)I"⟩, 21) := ⟨⟨by decide +kernel, by decide +kernel⟩, List.mem_of_getElem? (i := 488) (by decide +kernel), List.mem_of_getElem? (i := 643) (by decide +kernel), List.mem_of_getElem? (i := 644) (by decide +kernel)⟩
theorem lw_p38 : lw_okq (⟨"BeamCutsModel", "leadColumn", "(I)I"⟩, 21) := ⟨⟨by decide +kernel, by decide +kernel⟩, List.mem_of_getElem? (i := 488) (by decide +kernel), List.mem_of_getElem? (i := 647) (by decide +kernel), List.mem_of_getElem? (i := 648) (by decide +kernel)⟩
theorem lw_p39 : lw_okq (⟨"BeamCutsModel", "leadRow", "(I)I"⟩, 21) := ⟨⟨by decide +kernel, by decide +kernel⟩, List.mem_of_getElem? (i := 488) (by decide +kernel), List.mem_of_getElem? (i := 654) (by decide +kernel), List.mem_of_getElem? (i := 655) (by decide +kernel)⟩
theorem lw_p40 : lw_okq (⟨"BeamCutsModel", "isTooHot", "(II)Z"⟩, 21) := ⟨⟨by decide +kernel, by decide +kernel⟩, List.mem_of_getElem? (i := 488) (by decide +kernel), List.mem_of_getElem? (i := 658) (by decide +kernel), List.mem_of_getElem? (i := 659) (by decide +kernel)⟩
theorem lw_p41 : lw_okq (⟨"BeamCutsModel", "edgeIn", "(II)I"⟩, 21) := ⟨⟨by decide +kernel, by decide +kernel⟩, List.mem_of_getElem? (i := 488) (by decide +kernel), List.mem_of_getElem? (i := 662) (by decide +kernel), List.mem_of_getElem? (i := 663) (by decide +kernel)⟩
theorem lw_p42 : lw_okq (⟨"BeamCutsModel", "isOnEdge", "(III)Z"⟩, 21) := ⟨⟨by decide +kernel, by decide +kernel⟩, List.mem_of_getElem? (i := 488) (by decide +kernel), List.mem_of_getElem? (i := 666) (by decide +kernel), List.mem_of_getElem? (i := 667) (by decide +kernel)⟩
theorem lw_p43 : lw_okq (⟨"BeamCutsModel", "cools", "(I)V"⟩, 21) := ⟨⟨by decide +kernel, by decide +kernel⟩, List.mem_of_getElem? (i := 488) (by decide +kernel), List.mem_of_getElem? (i := 673) (by decide +kernel), List.mem_of_getElem? (i := 674) (by decide +kernel)⟩
theorem lw_p44 : lw_okq (⟨"BeamCutsModel", "burning", "(I)I"⟩, 21) := ⟨⟨by decide +kernel, by decide +kernel⟩, List.mem_of_getElem? (i := 488) (by decide +kernel), List.mem_of_getElem? (i := 677) (by decide +kernel), List.mem_of_getElem? (i := 678) (by decide +kernel)⟩
theorem lw_p45 : lw_okq (⟨"BeamCutsModel", "edge", "(I)I"⟩, 21) := ⟨⟨by decide +kernel, by decide +kernel⟩, List.mem_of_getElem? (i := 488) (by decide +kernel), List.mem_of_getElem? (i := 681) (by decide +kernel), List.mem_of_getElem? (i := 682) (by decide +kernel)⟩
theorem lw_p46 : lw_okq (⟨"BeamCutsModel", "hottest", "()I"⟩, 21) := ⟨⟨by decide +kernel, by decide +kernel⟩, List.mem_of_getElem? (i := 488) (by decide +kernel), List.mem_of_getElem? (i := 685) (by decide +kernel), List.mem_of_getElem? (i := 686) (by decide +kernel)⟩
theorem lw_p47 : lw_okq (⟨"BeamCutsModel", "waits", "(I)I"⟩, 21) := ⟨⟨by decide +kernel, by decide +kernel⟩, List.mem_of_getElem? (i := 488) (by decide +kernel), List.mem_of_getElem? (i := 693) (by decide +kernel), List.mem_of_getElem? (i := 694) (by decide +kernel)⟩
def lw_privs_3 : List (MethodName × Nat) := [(⟨"BeamCutsModel", "acted", "(I)I"⟩, 21), (⟨"BeamCutsModel", "cuts", "(I)I"⟩, 21), (⟨"BeamCutsModel", "why", "(I)I"⟩, 21), (⟨"BeamCutsModel", "hasWholeInside", "(I)Z"⟩, 21), (⟨"BeamCutsModel", "isInside", "(II)Z"⟩, 21), (⟨"BeamCutsModel", "going", "(I)I"⟩, 21), (⟨"BeamCutsModel", "leadColumn", "(I)I"⟩, 21), (⟨"BeamCutsModel", "leadRow", "(I)I"⟩, 21), (⟨"BeamCutsModel", "isTooHot", "(II)Z"⟩, 21), (⟨"BeamCutsModel", "edgeIn", "(II)I"⟩, 21), (⟨"BeamCutsModel", "isOnEdge", "(III)Z"⟩, 21), (⟨"BeamCutsModel", "cools", "(I)V"⟩, 21), (⟨"BeamCutsModel", "burning", "(I)I"⟩, 21), (⟨"BeamCutsModel", "edge", "(I)I"⟩, 21), (⟨"BeamCutsModel", "hottest", "()I"⟩, 21), (⟨"BeamCutsModel", "waits", "(I)I"⟩, 21)]
theorem lw_r3 : ∀ q ∈ lw_privs_3, lw_okq q := List.forall_mem_cons.mpr ⟨lw_p32, List.forall_mem_cons.mpr ⟨lw_p33, List.forall_mem_cons.mpr ⟨lw_p34, List.forall_mem_cons.mpr ⟨lw_p35, List.forall_mem_cons.mpr ⟨lw_p36, List.forall_mem_cons.mpr ⟨lw_p37, List.forall_mem_cons.mpr ⟨lw_p38, List.forall_mem_cons.mpr ⟨lw_p39, List.forall_mem_cons.mpr ⟨lw_p40, List.forall_mem_cons.mpr ⟨lw_p41, List.forall_mem_cons.mpr ⟨lw_p42, List.forall_mem_cons.mpr ⟨lw_p43, List.forall_mem_cons.mpr ⟨lw_p44, List.forall_mem_cons.mpr ⟨lw_p45, List.forall_mem_cons.mpr ⟨lw_p46, List.forall_mem_cons.mpr ⟨lw_p47, fun _ h => absurd h List.not_mem_nil⟩⟩⟩⟩⟩⟩⟩⟩⟩⟩⟩⟩⟩⟩⟩⟩
theorem lw_p48 : lw_okq (⟨"BeamCutsModel", "cleans", "()I"⟩, 21) := ⟨⟨by decide +kernel, by decide +kernel⟩, List.mem_of_getElem? (i := 488) (by decide +kernel), List.mem_of_getElem? (i := 701) (by decide +kernel), List.mem_of_getElem? (i := 702) (by decide +kernel)⟩
theorem lw_p49 : lw_okq (⟨"BeamCutsModel", "runs", "(Z)I"⟩, 21) := ⟨⟨by decide +kernel, by decide +kernel⟩, List.mem_of_getElem? (i := 488) (by decide +kernel), List.mem_of_getElem? (i := 717) (by decide +kernel), List.mem_of_getElem? (i := 718) (by decide +kernel)⟩
theorem lw_p50 : lw_okq (⟨"BeamCutsModel", "readThing", "()V"⟩, 21) := ⟨⟨by decide +kernel, by decide +kernel⟩, List.mem_of_getElem? (i := 488) (by decide +kernel), List.mem_of_getElem? (i := 721) (by decide +kernel), List.mem_of_getElem? (i := 722) (by decide +kernel)⟩
theorem lw_p51 : lw_okq (⟨"BeamCutsModel", "takesNumber", "(II)I"⟩, 21) := ⟨⟨by decide +kernel, by decide +kernel⟩, List.mem_of_getElem? (i := 488) (by decide +kernel), List.mem_of_getElem? (i := 725) (by decide +kernel), List.mem_of_getElem? (i := 726) (by decide +kernel)⟩
theorem lw_p52 : lw_okq (⟨"BeamCutsModel", "takesOne", "(II)I"⟩, 21) := ⟨⟨by decide +kernel, by decide +kernel⟩, List.mem_of_getElem? (i := 488) (by decide +kernel), List.mem_of_getElem? (i := 729) (by decide +kernel), List.mem_of_getElem? (i := 730) (by decide +kernel)⟩
theorem lw_p53 : lw_okq (⟨"BeamCutsModel", "isNext", "(II)Z"⟩, 21) := ⟨⟨by decide +kernel, by decide +kernel⟩, List.mem_of_getElem? (i := 488) (by decide +kernel), List.mem_of_getElem? (i := 733) (by decide +kernel), List.mem_of_getElem? (i := 734) (by decide +kernel)⟩
theorem lw_p54 : lw_okq (⟨"BeamCutsModel", "does", "()I"⟩, 21) := ⟨⟨by decide +kernel, by decide +kernel⟩, List.mem_of_getElem? (i := 488) (by decide +kernel), List.mem_of_getElem? (i := 737) (by decide +kernel), List.mem_of_getElem? (i := 738) (by decide +kernel)⟩
theorem lw_p55 : lw_okq (⟨"BeamCutsModel", "outer", "(I)I"⟩, 21) := ⟨⟨by decide +kernel, by decide +kernel⟩, List.mem_of_getElem? (i := 488) (by decide +kernel), List.mem_of_getElem? (i := 761) (by decide +kernel), List.mem_of_getElem? (i := 762) (by decide +kernel)⟩
theorem lw_p56 : lw_okq (⟨"BeamCutsModel", "inner", "(I)I"⟩, 21) := ⟨⟨by decide +kernel, by decide +kernel⟩, List.mem_of_getElem? (i := 488) (by decide +kernel), List.mem_of_getElem? (i := 765) (by decide +kernel), List.mem_of_getElem? (i := 766) (by decide +kernel)⟩
theorem lw_p57 : lw_okq (⟨"BeamCutsModel", "ticksOf", "(I)I"⟩, 21) := ⟨⟨by decide +kernel, by decide +kernel⟩, List.mem_of_getElem? (i := 488) (by decide +kernel), List.mem_of_getElem? (i := 781) (by decide +kernel), List.mem_of_getElem? (i := 782) (by decide +kernel)⟩
theorem lw_p58 : lw_okq (⟨"BeamCutsModel", "waitFor", "(I)I"⟩, 21) := ⟨⟨by decide +kernel, by decide +kernel⟩, List.mem_of_getElem? (i := 488) (by decide +kernel), List.mem_of_getElem? (i := 789) (by decide +kernel), List.mem_of_getElem? (i := 790) (by decide +kernel)⟩
theorem lw_p59 : lw_okq (⟨"BeamCutsModel", "bestOne", "()I"⟩, 21) := ⟨⟨by decide +kernel, by decide +kernel⟩, List.mem_of_getElem? (i := 488) (by decide +kernel), List.mem_of_getElem? (i := 797) (by decide +kernel), List.mem_of_getElem? (i := 798) (by decide +kernel)⟩
theorem lw_p60 : lw_okq (⟨"BeamCutsModel", "layOrder", "()V"⟩, 21) := ⟨⟨by decide +kernel, by decide +kernel⟩, List.mem_of_getElem? (i := 488) (by decide +kernel), List.mem_of_getElem? (i := 805) (by decide +kernel), List.mem_of_getElem? (i := 806) (by decide +kernel)⟩
theorem lw_p61 : lw_okq (⟨"BeamCutsModel", "putAside", "()V"⟩, 21) := ⟨⟨by decide +kernel, by decide +kernel⟩, List.mem_of_getElem? (i := 488) (by decide +kernel), List.mem_of_getElem? (i := 809) (by decide +kernel), List.mem_of_getElem? (i := 810) (by decide +kernel)⟩
theorem lw_p62 : lw_okq (⟨"BeamCutsModel", "soonest", "()I"⟩, 21) := ⟨⟨by decide +kernel, by decide +kernel⟩, List.mem_of_getElem? (i := 488) (by decide +kernel), List.mem_of_getElem? (i := 813) (by decide +kernel), List.mem_of_getElem? (i := 814) (by decide +kernel)⟩
theorem lw_p63 : lw_okq (⟨"BeamCutsModel", "many", "(I)I"⟩, 21) := ⟨⟨by decide +kernel, by decide +kernel⟩, List.mem_of_getElem? (i := 488) (by decide +kernel), List.mem_of_getElem? (i := 817) (by decide +kernel), List.mem_of_getElem? (i := 818) (by decide +kernel)⟩
def lw_privs_4 : List (MethodName × Nat) := [(⟨"BeamCutsModel", "cleans", "()I"⟩, 21), (⟨"BeamCutsModel", "runs", "(Z)I"⟩, 21), (⟨"BeamCutsModel", "readThing", "()V"⟩, 21), (⟨"BeamCutsModel", "takesNumber", "(II)I"⟩, 21), (⟨"BeamCutsModel", "takesOne", "(II)I"⟩, 21), (⟨"BeamCutsModel", "isNext", "(II)Z"⟩, 21), (⟨"BeamCutsModel", "does", "()I"⟩, 21), (⟨"BeamCutsModel", "outer", "(I)I"⟩, 21), (⟨"BeamCutsModel", "inner", "(I)I"⟩, 21), (⟨"BeamCutsModel", "ticksOf", "(I)I"⟩, 21), (⟨"BeamCutsModel", "waitFor", "(I)I"⟩, 21), (⟨"BeamCutsModel", "bestOne", "()I"⟩, 21), (⟨"BeamCutsModel", "layOrder", "()V"⟩, 21), (⟨"BeamCutsModel", "putAside", "()V"⟩, 21), (⟨"BeamCutsModel", "soonest", "()I"⟩, 21), (⟨"BeamCutsModel", "many", "(I)I"⟩, 21)]
theorem lw_r4 : ∀ q ∈ lw_privs_4, lw_okq q := List.forall_mem_cons.mpr ⟨lw_p48, List.forall_mem_cons.mpr ⟨lw_p49, List.forall_mem_cons.mpr ⟨lw_p50, List.forall_mem_cons.mpr ⟨lw_p51, List.forall_mem_cons.mpr ⟨lw_p52, List.forall_mem_cons.mpr ⟨lw_p53, List.forall_mem_cons.mpr ⟨lw_p54, List.forall_mem_cons.mpr ⟨lw_p55, List.forall_mem_cons.mpr ⟨lw_p56, List.forall_mem_cons.mpr ⟨lw_p57, List.forall_mem_cons.mpr ⟨lw_p58, List.forall_mem_cons.mpr ⟨lw_p59, List.forall_mem_cons.mpr ⟨lw_p60, List.forall_mem_cons.mpr ⟨lw_p61, List.forall_mem_cons.mpr ⟨lw_p62, List.forall_mem_cons.mpr ⟨lw_p63, fun _ h => absurd h List.not_mem_nil⟩⟩⟩⟩⟩⟩⟩⟩⟩⟩⟩⟩⟩⟩⟩⟩
theorem lw_p64 : lw_okq (⟨"BeamCutsModel", "putBack", "()V"⟩, 21) := ⟨⟨by decide +kernel, by decide +kernel⟩, List.mem_of_getElem? (i := 488) (by decide +kernel), List.mem_of_getElem? (i := 821) (by decide +kernel), List.mem_of_getElem? (i := 822) (by decide +kernel)⟩
theorem lw_p65 : lw_okq (⟨"BeamCutsModel", "tilted", "()I"⟩, 21) := ⟨⟨by decide +kernel, by decide +kernel⟩, List.mem_of_getElem? (i := 488) (by decide +kernel), List.mem_of_getElem? (i := 833) (by decide +kernel), List.mem_of_getElem? (i := 834) (by decide +kernel)⟩
theorem lw_p66 : lw_okq (⟨"BeamCutsModel", "hottestSquare", "()I"⟩, 21) := ⟨⟨by decide +kernel, by decide +kernel⟩, List.mem_of_getElem? (i := 488) (by decide +kernel), List.mem_of_getElem? (i := 837) (by decide +kernel), List.mem_of_getElem? (i := 838) (by decide +kernel)⟩
theorem lw_p67 : lw_okq (⟨"BeamCutsModel", "allHeat", "()I"⟩, 21) := ⟨⟨by decide +kernel, by decide +kernel⟩, List.mem_of_getElem? (i := 488) (by decide +kernel), List.mem_of_getElem? (i := 841) (by decide +kernel), List.mem_of_getElem? (i := 842) (by decide +kernel)⟩
def lw_privs_5 : List (MethodName × Nat) := [(⟨"BeamCutsModel", "putBack", "()V"⟩, 21), (⟨"BeamCutsModel", "tilted", "()I"⟩, 21), (⟨"BeamCutsModel", "hottestSquare", "()I"⟩, 21), (⟨"BeamCutsModel", "allHeat", "()I"⟩, 21)]
theorem lw_r5 : ∀ q ∈ lw_privs_5, lw_okq q := List.forall_mem_cons.mpr ⟨lw_p64, List.forall_mem_cons.mpr ⟨lw_p65, List.forall_mem_cons.mpr ⟨lw_p66, List.forall_mem_cons.mpr ⟨lw_p67, fun _ h => absurd h List.not_mem_nil⟩⟩⟩⟩
def lw_privs : List (MethodName × Nat) := lw_privs_1 ++ (lw_privs_2 ++ (lw_privs_3 ++ (lw_privs_4 ++ (lw_privs_5))))
def lw_tbl : List Cond := k2_sels lw_privs ++ tables_1
theorem lw_privs_ok : ∀ q ∈ lw_privs, lw_okq q := by
  show ∀ q ∈ lw_privs_1 ++ (lw_privs_2 ++ (lw_privs_3 ++ (lw_privs_4 ++ (lw_privs_5)))), lw_okq q
  exact List.forall_mem_append.mpr ⟨lw_r1, List.forall_mem_append.mpr ⟨lw_r2, List.forall_mem_append.mpr ⟨lw_r3, List.forall_mem_append.mpr ⟨lw_r4, lw_r5⟩⟩⟩⟩
-- ===== end of PART A; then your names; then what follows =====
end
section
/-! ===== BEGIN words of one list among another's, by their places ===== -/
/-! ===== END ===== -/

/-! ===== BEGIN printed: names, fields, word lists, decode rows ===== -/
def RX0 : String := "BeamCuts$Plan"
def TX0 : u_T := fun k => match k with
  | 0 => ("BeamCuts$Plan", "letters", "[C", true)
  | 1 => ("BeamCuts$Plan", "kinds", "[I", true)
  | 2 => ("BeamCuts$Plan", "firsts", "[I", true)
  | 3 => ("BeamCuts$Plan", "seconds", "[I", true)
  | 4 => ("BeamCuts$Plan", "length", "I", false)
  | 5 => ("BeamCuts$Plan", "size", "I", false)
  | _ => ("BeamCuts$Plan", "at", "I", false)
def tyX0 : Nat → FieldType := fun k => match k with
  | 0 => .array .char
  | 1 => .array .int
  | 2 => .array .int
  | 3 => .array .int
  | 4 => .int
  | 5 => .int
  | _ => .int
abbrev wsX00 : List Cond := u_ws RX0 TX0 7
theorem nmX0 : ∀ a, a < 7 → ∀ b, b < 7 → a ≠ b → (TX0 a).2.1 ≠ (TX0 b).2.1 := by decide +kernel
theorem tyX0_ok : ∀ k, k < 7 → parseFieldDescriptor (TX0 k).2.2.1 = some (tyX0 k) := by decide +kernel
abbrev cX0_init : ByteArray := prog_2_method_1_code
def yX0_init : MethodName := ⟨RX0, "<init>", "()V"⟩
abbrev cX0_addLetter : ByteArray := prog_2_method_2_code
def yX0_addLetter : MethodName := ⟨RX0, "addLetter", "(C)I"⟩
abbrev cX0_dropLetters : ByteArray := prog_2_method_3_code
def yX0_dropLetters : MethodName := ⟨RX0, "dropLetters", "()I"⟩
abbrev cX0_read : ByteArray := prog_2_method_4_code
def yX0_read : MethodName := ⟨RX0, "read", "()I"⟩
abbrev cX0_readThing : ByteArray := prog_2_method_5_code
def yX0_readThing : MethodName := ⟨RX0, "readThing", "()Z"⟩
abbrev cX0_readLetter : ByteArray := prog_2_method_6_code
def yX0_readLetter : MethodName := ⟨RX0, "readLetter", "(C)Z"⟩
abbrev cX0_readNumber : ByteArray := prog_2_method_7_code
def yX0_readNumber : MethodName := ⟨RX0, "readNumber", "([III)Z"⟩
abbrev cX0_digitAt : ByteArray := prog_2_method_8_code
def yX0_digitAt : MethodName := ⟨RX0, "digitAt", "(I)I"⟩
abbrev cX0_doThing : ByteArray := prog_2_method_9_code
def yX0_doThing : MethodName := ⟨RX0, "doThing", "(ILBeamCuts$Sheet;)I"⟩
def RX1 : String := "BeamCuts$Shape"
def TX1 : u_T := fun k => match k with
  | 0 => ("BeamCuts$Shape", "left", "I", false)
  | 1 => ("BeamCuts$Shape", "top", "I", false)
  | 2 => ("BeamCuts$Shape", "width", "I", false)
  | 3 => ("BeamCuts$Shape", "height", "I", false)
  | 4 => ("BeamCuts$Shape", "lead", "I", false)
  | 5 => ("BeamCuts$Shape", "condition", "I", false)
  | 6 => ("BeamCuts$Shape", "tilted", "I", false)
  | 7 => ("BeamCuts$Shape", "rank", "I", false)
  | _ => ("BeamCuts$Shape", "edgeIn", "[I", true)
def tyX1 : Nat → FieldType := fun k => match k with
  | 0 => .int
  | 1 => .int
  | 2 => .int
  | 3 => .int
  | 4 => .int
  | 5 => .int
  | 6 => .int
  | 7 => .int
  | _ => .array .int
abbrev wsX10 : List Cond := u_ws RX1 TX1 9
theorem nmX1 : ∀ a, a < 9 → ∀ b, b < 9 → a ≠ b → (TX1 a).2.1 ≠ (TX1 b).2.1 := by decide +kernel
theorem tyX1_ok : ∀ k, k < 9 → parseFieldDescriptor (TX1 k).2.2.1 = some (tyX1 k) := by decide +kernel
abbrev cX1_init : ByteArray := prog_3_method_1_code
def yX1_init : MethodName := ⟨RX1, "<init>", "()V"⟩
abbrev cX1_copyFrom : ByteArray := prog_3_method_2_code
def yX1_copyFrom : MethodName := ⟨RX1, "copyFrom", "(LBeamCuts$Shape;)V"⟩
abbrev cX1_place : ByteArray := prog_3_method_3_code
def yX1_place : MethodName := ⟨RX1, "place", "(IIII)V"⟩
abbrev cX1_fieldsIn : ByteArray := prog_3_method_4_code
def yX1_fieldsIn : MethodName := ⟨RX1, "fieldsIn", "(II)I"⟩
abbrev cX1_isInside : ByteArray := prog_3_method_5_code
def yX1_isInside : MethodName := ⟨RX1, "isInside", "(LBeamCuts$Shape;)Z"⟩
abbrev cX1_isApartFrom : ByteArray := prog_3_method_6_code
def yX1_isApartFrom : MethodName := ⟨RX1, "isApartFrom", "(LBeamCuts$Shape;)Z"⟩
abbrev cX1_edge : ByteArray := prog_3_method_7_code
def yX1_edge : MethodName := ⟨RX1, "edge", "()I"⟩
abbrev cX1_leadColumn : ByteArray := prog_3_method_8_code
def yX1_leadColumn : MethodName := ⟨RX1, "leadColumn", "()I"⟩
abbrev cX1_leadRow : ByteArray := prog_3_method_9_code
def yX1_leadRow : MethodName := ⟨RX1, "leadRow", "()I"⟩
abbrev cX1_leadSquare : ByteArray := prog_3_method_10_code
def yX1_leadSquare : MethodName := ⟨RX1, "leadSquare", "()I"⟩
def RX2 : String := "BeamCuts$Sheet"
def TX2 : u_T := fun k => match k with
  | 0 => ("BeamCuts$Sheet", "shapes", "[LBeamCuts$Shape;", true)
  | 1 => ("BeamCuts$Sheet", "heats", "[I", true)
  | 2 => ("BeamCuts$Sheet", "settings", "[I", true)
  | 3 => ("BeamCuts$Sheet", "told", "I", false)
  | 4 => ("BeamCuts$Sheet", "column", "I", false)
  | 5 => ("BeamCuts$Sheet", "row", "I", false)
  | 6 => ("BeamCuts$Sheet", "dirt", "I", false)
  | 7 => ("BeamCuts$Sheet", "ticks", "I", false)
  | 8 => ("BeamCuts$Sheet", "burningTicks", "I", false)
  | _ => ("BeamCuts$Sheet", "cuts", "I", false)
def tyX2 : Nat → FieldType := fun k => match k with
  | 0 => .array (.object "BeamCuts$Shape")
  | 1 => .array .int
  | 2 => .array .int
  | 3 => .int
  | 4 => .int
  | 5 => .int
  | 6 => .int
  | 7 => .int
  | 8 => .int
  | _ => .int
abbrev wsX20 : List Cond := u_ws RX2 TX2 10
theorem nmX2 : ∀ a, a < 10 → ∀ b, b < 10 → a ≠ b → (TX2 a).2.1 ≠ (TX2 b).2.1 := by decide +kernel
theorem tyX2_ok : ∀ k, k < 10 → parseFieldDescriptor (TX2 k).2.2.1 = some (tyX2 k) := by decide +kernel
abbrev cX2_init : ByteArray := prog_4_method_1_code
def yX2_init : MethodName := ⟨RX2, "<init>", "()V"⟩
abbrev cX2_copyFrom : ByteArray := prog_4_method_2_code
def yX2_copyFrom : MethodName := ⟨RX2, "copyFrom", "(LBeamCuts$Sheet;)V"⟩
abbrev cX2_knows : ByteArray := prog_4_method_3_code
def yX2_knows : MethodName := ⟨RX2, "knows", "(I)Z"⟩
abbrev cX2_addShape : ByteArray := prog_4_method_4_code
def yX2_addShape : MethodName := ⟨RX2, "addShape", "(IIII)I"⟩
abbrev cX2_fits : ByteArray := prog_4_method_5_code
def yX2_fits : MethodName := ⟨RX2, "fits", "(LBeamCuts$Shape;)Z"⟩
abbrev cX2_changeLead : ByteArray := prog_4_method_6_code
def yX2_changeLead : MethodName := ⟨RX2, "changeLead", "(II)I"⟩
abbrev cX2_changeSetting : ByteArray := prog_4_method_7_code
def yX2_changeSetting : MethodName := ⟨RX2, "changeSetting", "(II)I"⟩
abbrev cX2_cutShape : ByteArray := prog_4_method_8_code
def yX2_cutShape : MethodName := ⟨RX2, "cutShape", "(I)I"⟩
abbrev cX2_burnEdge : ByteArray := prog_4_method_9_code
def yX2_burnEdge : MethodName := ⟨RX2, "burnEdge", "(LBeamCuts$Shape;)V"⟩
abbrev cX2_loseShapesInside : ByteArray := prog_4_method_10_code
def yX2_loseShapesInside : MethodName := ⟨RX2, "loseShapesInside", "(LBeamCuts$Shape;)I"⟩
abbrev cX2_waitFor : ByteArray := prog_4_method_11_code
def yX2_waitFor : MethodName := ⟨RX2, "waitFor", "(I)I"⟩
abbrev cX2_cleanLens : ByteArray := prog_4_method_12_code
def yX2_cleanLens : MethodName := ⟨RX2, "cleanLens", "()I"⟩
abbrev cX2_coolFor : ByteArray := prog_4_method_13_code
def yX2_coolFor : MethodName := ⟨RX2, "coolFor", "(I)V"⟩
abbrev cX2_wayTo : ByteArray := prog_4_method_14_code
def yX2_wayTo : MethodName := ⟨RX2, "wayTo", "(LBeamCuts$Shape;)I"⟩
abbrev cX2_burningOf : ByteArray := prog_4_method_15_code
def yX2_burningOf : MethodName := ⟨RX2, "burningOf", "(LBeamCuts$Shape;)I"⟩
abbrev cX2_reasonAgainst : ByteArray := prog_4_method_16_code
def yX2_reasonAgainst : MethodName := ⟨RX2, "reasonAgainst", "(I)I"⟩
abbrev cX2_holdsWholeShape : ByteArray := prog_4_method_17_code
def yX2_holdsWholeShape : MethodName := ⟨RX2, "holdsWholeShape", "(LBeamCuts$Shape;)Z"⟩
abbrev cX2_heatOver : ByteArray := prog_4_method_18_code
def yX2_heatOver : MethodName := ⟨RX2, "heatOver", "(LBeamCuts$Shape;)I"⟩
abbrev cX2_ticksToCut : ByteArray := prog_4_method_19_code
def yX2_ticksToCut : MethodName := ⟨RX2, "ticksToCut", "(I)I"⟩
abbrev cX2_ticksToCool : ByteArray := prog_4_method_20_code
def yX2_ticksToCool : MethodName := ⟨RX2, "ticksToCool", "(I)I"⟩
abbrev cX2_bestShape : ByteArray := prog_4_method_21_code
def yX2_bestShape : MethodName := ⟨RX2, "bestShape", "()I"⟩
abbrev cX2_fewestTicksToCool : ByteArray := prog_4_method_22_code
def yX2_fewestTicksToCool : MethodName := ⟨RX2, "fewestTicksToCool", "()I"⟩
abbrev cX2_cutNext : ByteArray := prog_4_method_23_code
def yX2_cutNext : MethodName := ⟨RX2, "cutNext", "()I"⟩
abbrev cX2_heatIn : ByteArray := prog_4_method_24_code
def yX2_heatIn : MethodName := ⟨RX2, "heatIn", "(I)I"⟩
abbrev cX2_greatestHeat : ByteArray := prog_4_method_25_code
def yX2_greatestHeat : MethodName := ⟨RX2, "greatestHeat", "()I"⟩
abbrev cX2_hottestSquare : ByteArray := prog_4_method_26_code
def yX2_hottestSquare : MethodName := ⟨RX2, "hottestSquare", "()I"⟩
abbrev cX2_allHeat : ByteArray := prog_4_method_27_code
def yX2_allHeat : MethodName := ⟨RX2, "allHeat", "()I"⟩
abbrev cX2_shapesThatAre : ByteArray := prog_4_method_28_code
def yX2_shapesThatAre : MethodName := ⟨RX2, "shapesThatAre", "(I)I"⟩
abbrev cX2_shapesThatTilted : ByteArray := prog_4_method_29_code
def yX2_shapesThatTilted : MethodName := ⟨RX2, "shapesThatTilted", "()I"⟩
abbrev cX2_outerOf : ByteArray := prog_4_method_30_code
def yX2_outerOf : MethodName := ⟨RX2, "outerOf", "(LBeamCuts$Shape;)I"⟩
abbrev cX2_setInside : ByteArray := prog_4_method_31_code
def yX2_setInside : MethodName := ⟨RX2, "setInside", "(LBeamCuts$Shape;)I"⟩
abbrev cX2_factOfShape : ByteArray := prog_4_method_32_code
def yX2_factOfShape : MethodName := ⟨RX2, "factOfShape", "(II)I"⟩
abbrev cX2_factOfSheet : ByteArray := prog_4_method_33_code
def yX2_factOfSheet : MethodName := ⟨RX2, "factOfSheet", "(I)I"⟩
def RX3 : String := "BeamCuts"
def TX3 : u_T := fun k => match k with
  | 0 => ("BeamCuts", "sheet", "LBeamCuts$Sheet;", true)
  | 1 => ("BeamCuts", "before", "LBeamCuts$Sheet;", true)
  | 2 => ("BeamCuts", "trial", "LBeamCuts$Sheet;", true)
  | 3 => ("BeamCuts", "snapshot", "LBeamCuts$Sheet;", true)
  | 4 => ("BeamCuts", "history", "[LBeamCuts$Sheet;", true)
  | 5 => ("BeamCuts", "plan", "LBeamCuts$Plan;", true)
  | 6 => ("BeamCuts", "states", "I", false)
  | 7 => ("BeamCuts", "hasSnapshot", "Z", false)
  | 8 => ("BeamCuts", "stopNumber", "I", false)
  | _ => ("BeamCuts", "stopError", "I", false)
def tyX3 : Nat → FieldType := fun k => match k with
  | 0 => .object "BeamCuts$Sheet"
  | 1 => .object "BeamCuts$Sheet"
  | 2 => .object "BeamCuts$Sheet"
  | 3 => .object "BeamCuts$Sheet"
  | 4 => .array (.object "BeamCuts$Sheet")
  | 5 => .object "BeamCuts$Plan"
  | 6 => .int
  | 7 => .boolean
  | 8 => .int
  | _ => .int
abbrev wsX30 : List Cond := u_ws RX3 TX3 10
theorem nmX3 : ∀ a, a < 10 → ∀ b, b < 10 → a ≠ b → (TX3 a).2.1 ≠ (TX3 b).2.1 := by decide +kernel
theorem tyX3_ok : ∀ k, k < 10 → parseFieldDescriptor (TX3 k).2.2.1 = some (tyX3 k) := by decide +kernel
abbrev cX3_init : ByteArray := prog_1_method_1_code
def yX3_init : MethodName := ⟨RX3, "<init>", "()V"⟩
abbrev cX3_tell : ByteArray := prog_1_method_2_code
def yX3_tell : MethodName := ⟨RX3, "tell", "(IIII)I"⟩
abbrev cX3_setLead : ByteArray := prog_1_method_3_code
def yX3_setLead : MethodName := ⟨RX3, "setLead", "(II)I"⟩
abbrev cX3_set : ByteArray := prog_1_method_4_code
def yX3_set : MethodName := ⟨RX3, "set", "(II)I"⟩
abbrev cX3_cut : ByteArray := prog_1_method_5_code
def yX3_cut : MethodName := ⟨RX3, "cut", "(I)I"⟩
abbrev cX3_pause : ByteArray := prog_1_method_6_code
def yX3_pause : MethodName := ⟨RX3, "pause", "(I)I"⟩
abbrev cX3_clean : ByteArray := prog_1_method_7_code
def yX3_clean : MethodName := ⟨RX3, "clean", "()I"⟩
abbrev cX3_type : ByteArray := prog_1_method_8_code
def yX3_type : MethodName := ⟨RX3, "type", "(C)I"⟩
abbrev cX3_clearText : ByteArray := prog_1_method_9_code
def yX3_clearText : MethodName := ⟨RX3, "clearText", "()I"⟩
abbrev cX3_perform : ByteArray := prog_1_method_10_code
def yX3_perform : MethodName := ⟨RX3, "perform", "()I"⟩
abbrev cX3_stopped : ByteArray := prog_1_method_11_code
def yX3_stopped : MethodName := ⟨RX3, "stopped", "(I)I"⟩
abbrev cX3_undo : ByteArray := prog_1_method_12_code
def yX3_undo : MethodName := ⟨RX3, "undo", "()I"⟩
abbrev cX3_keep : ByteArray := prog_1_method_13_code
def yX3_keep : MethodName := ⟨RX3, "keep", "()I"⟩
abbrev cX3_restore : ByteArray := prog_1_method_14_code
def yX3_restore : MethodName := ⟨RX3, "restore", "()I"⟩
abbrev cX3_shape : ByteArray := prog_1_method_15_code
def yX3_shape : MethodName := ⟨RX3, "shape", "(II)I"⟩
abbrev cX3_heat : ByteArray := prog_1_method_16_code
def yX3_heat : MethodName := ⟨RX3, "heat", "(I)I"⟩
abbrev cX3_reason : ByteArray := prog_1_method_17_code
def yX3_reason : MethodName := ⟨RX3, "reason", "(I)I"⟩
abbrev cX3_takes : ByteArray := prog_1_method_18_code
def yX3_takes : MethodName := ⟨RX3, "takes", "(I)I"⟩
abbrev cX3_coolsIn : ByteArray := prog_1_method_19_code
def yX3_coolsIn : MethodName := ⟨RX3, "coolsIn", "(I)I"⟩
abbrev cX3_best : ByteArray := prog_1_method_20_code
def yX3_best : MethodName := ⟨RX3, "best", "()I"⟩
abbrev cX3_ordered : ByteArray := prog_1_method_21_code
def yX3_ordered : MethodName := ⟨RX3, "ordered", "(I)I"⟩
abbrev cX3_allTakes : ByteArray := prog_1_method_22_code
def yX3_allTakes : MethodName := ⟨RX3, "allTakes", "()I"⟩
abbrev cX3_count : ByteArray := prog_1_method_23_code
def yX3_count : MethodName := ⟨RX3, "count", "(I)I"⟩
abbrev cX3_recorded : ByteArray := prog_1_method_24_code
def yX3_recorded : MethodName := ⟨RX3, "recorded", "(I)I"⟩
abbrev cX3_dropOldestState : ByteArray := prog_1_method_25_code
def yX3_dropOldestState : MethodName := ⟨RX3, "dropOldestState", "()V"⟩
abbrev cX3_isIn : ByteArray := prog_1_method_26_code
def yX3_isIn : MethodName := ⟨RX3, "isIn", "(III)Z"⟩
def RX4 : String := "BeamCutsModel"
def TX4 : u_T := fun k => match k with
  | 0 => ("BeamCutsModel", "s", "[I", true)
  | 1 => ("BeamCutsModel", "aside", "[I", true)
  | 2 => ("BeamCutsModel", "ahead", "[I", true)
  | 3 => ("BeamCutsModel", "snapshot", "[I", true)
  | 4 => ("BeamCutsModel", "isKept", "Z", false)
  | 5 => ("BeamCutsModel", "before", "[I", true)
  | 6 => ("BeamCutsModel", "known", "I", false)
  | 7 => ("BeamCutsModel", "text", "[I", true)
  | 8 => ("BeamCutsModel", "length", "I", false)
  | 9 => ("BeamCutsModel", "stopAt", "I", false)
  | 10 => ("BeamCutsModel", "stopBy", "I", false)
  | 11 => ("BeamCutsModel", "position", "I", false)
  | 12 => ("BeamCutsModel", "isWrong", "Z", false)
  | 13 => ("BeamCutsModel", "letter", "I", false)
  | 14 => ("BeamCutsModel", "number", "I", false)
  | 15 => ("BeamCutsModel", "corner", "I", false)
  | 16 => ("BeamCutsModel", "stop", "I", false)
  | 17 => ("BeamCutsModel", "order", "[I", true)
  | 18 => ("BeamCutsModel", "orderedMany", "I", false)
  | 19 => ("BeamCutsModel", "orderTicks", "I", false)
  | _ => ("BeamCutsModel", "isAll", "Z", false)
def tyX4 : Nat → FieldType := fun k => match k with
  | 0 => .array .int
  | 1 => .array .int
  | 2 => .array .int
  | 3 => .array .int
  | 4 => .boolean
  | 5 => .array .int
  | 6 => .int
  | 7 => .array .int
  | 8 => .int
  | 9 => .int
  | 10 => .int
  | 11 => .int
  | 12 => .boolean
  | 13 => .int
  | 14 => .int
  | 15 => .int
  | 16 => .int
  | 17 => .array .int
  | 18 => .int
  | 19 => .int
  | _ => .boolean
abbrev wsX40 : List Cond := u_ws RX4 TX4 21
theorem nmX4 : ∀ a, a < 21 → ∀ b, b < 21 → a ≠ b → (TX4 a).2.1 ≠ (TX4 b).2.1 := by decide +kernel
theorem tyX4_ok : ∀ k, k < 21 → parseFieldDescriptor (TX4 k).2.2.1 = some (tyX4 k) := by decide +kernel
abbrev cX4_init : ByteArray := prog_6_method_1_code
def yX4_init : MethodName := ⟨RX4, "<init>", "()V"⟩
abbrev cX4_in : ByteArray := prog_6_method_3_code
def yX4_in : MethodName := ⟨RX4, "in", "(III)Z"⟩
abbrev cX4_isShape : ByteArray := prog_6_method_4_code
def yX4_isShape : MethodName := ⟨RX4, "isShape", "(I)Z"⟩
abbrev cX4_at : ByteArray := prog_6_method_5_code
def yX4_at : MethodName := ⟨RX4, "at", "(II)I"⟩
abbrev cX4_of : ByteArray := prog_6_method_6_code
def yX4_of : MethodName := ⟨RX4, "of", "(II)I"⟩
abbrev cX4_isWhole : ByteArray := prog_6_method_7_code
def yX4_isWhole : MethodName := ⟨RX4, "isWhole", "(I)Z"⟩
abbrev cX4_looks : ByteArray := prog_6_method_8_code
def yX4_looks : MethodName := ⟨RX4, "looks", "()V"⟩
abbrev cX4_records : ByteArray := prog_6_method_9_code
def yX4_records : MethodName := ⟨RX4, "records", "()V"⟩
abbrev cX4_putAside : ByteArray := prog_6_method_10_code
def yX4_putAside : MethodName := ⟨RX4, "putAside", "()V"⟩
abbrev cX4_putBack : ByteArray := prog_6_method_11_code
def yX4_putBack : MethodName := ⟨RX4, "putBack", "()V"⟩
abbrev cX4_lastColumn : ByteArray := prog_6_method_12_code
def yX4_lastColumn : MethodName := ⟨RX4, "lastColumn", "(I)I"⟩
abbrev cX4_lastRow : ByteArray := prog_6_method_13_code
def yX4_lastRow : MethodName := ⟨RX4, "lastRow", "(I)I"⟩
abbrev cX4_isInside : ByteArray := prog_6_method_14_code
def yX4_isInside : MethodName := ⟨RX4, "isInside", "(II)Z"⟩
abbrev cX4_edge : ByteArray := prog_6_method_15_code
def yX4_edge : MethodName := ⟨RX4, "edge", "(I)I"⟩
abbrev cX4_isOnEdge : ByteArray := prog_6_method_16_code
def yX4_isOnEdge : MethodName := ⟨RX4, "isOnEdge", "(III)Z"⟩
abbrev cX4_edgeIn : ByteArray := prog_6_method_17_code
def yX4_edgeIn : MethodName := ⟨RX4, "edgeIn", "(II)I"⟩
abbrev cX4_leadColumn : ByteArray := prog_6_method_18_code
def yX4_leadColumn : MethodName := ⟨RX4, "leadColumn", "(I)I"⟩
abbrev cX4_leadRow : ByteArray := prog_6_method_19_code
def yX4_leadRow : MethodName := ⟨RX4, "leadRow", "(I)I"⟩
abbrev cX4_outer : ByteArray := prog_6_method_20_code
def yX4_outer : MethodName := ⟨RX4, "outer", "(I)I"⟩
abbrev cX4_inner : ByteArray := prog_6_method_21_code
def yX4_inner : MethodName := ⟨RX4, "inner", "(I)I"⟩
abbrev cX4_hasWholeInside : ByteArray := prog_6_method_22_code
def yX4_hasWholeInside : MethodName := ⟨RX4, "hasWholeInside", "(I)Z"⟩
abbrev cX4_off : ByteArray := prog_6_method_23_code
def yX4_off : MethodName := ⟨RX4, "off", "(II)I"⟩
abbrev cX4_going : ByteArray := prog_6_method_24_code
def yX4_going : MethodName := ⟨RX4, "going", "(I)I"⟩
abbrev cX4_burning : ByteArray := prog_6_method_25_code
def yX4_burning : MethodName := ⟨RX4, "burning", "(I)I"⟩
abbrev cX4_cooled : ByteArray := prog_6_method_26_code
def yX4_cooled : MethodName := ⟨RX4, "cooled", "(II)I"⟩
abbrev cX4_cools : ByteArray := prog_6_method_27_code
def yX4_cools : MethodName := ⟨RX4, "cools", "(I)V"⟩
abbrev cX4_hottest : ByteArray := prog_6_method_28_code
def yX4_hottest : MethodName := ⟨RX4, "hottest", "()I"⟩
abbrev cX4_isTooHot : ByteArray := prog_6_method_29_code
def yX4_isTooHot : MethodName := ⟨RX4, "isTooHot", "(II)Z"⟩
abbrev cX4_why : ByteArray := prog_6_method_30_code
def yX4_why : MethodName := ⟨RX4, "why", "(I)I"⟩
abbrev cX4_cuts : ByteArray := prog_6_method_31_code
def yX4_cuts : MethodName := ⟨RX4, "cuts", "(I)I"⟩
abbrev cX4_waitFor : ByteArray := prog_6_method_32_code
def yX4_waitFor : MethodName := ⟨RX4, "waitFor", "(I)I"⟩
abbrev cX4_waits : ByteArray := prog_6_method_33_code
def yX4_waits : MethodName := ⟨RX4, "waits", "(I)I"⟩
abbrev cX4_cleans : ByteArray := prog_6_method_34_code
def yX4_cleans : MethodName := ⟨RX4, "cleans", "()I"⟩
abbrev cX4_leads : ByteArray := prog_6_method_35_code
def yX4_leads : MethodName := ⟨RX4, "leads", "(II)I"⟩
abbrev cX4_acted : ByteArray := prog_6_method_36_code
def yX4_acted : MethodName := ⟨RX4, "acted", "(I)I"⟩
abbrev cX4_lays : ByteArray := prog_6_method_37_code
def yX4_lays : MethodName := ⟨RX4, "lays", "(IIIII)V"⟩
abbrev cX4_couldBe : ByteArray := prog_6_method_38_code
def yX4_couldBe : MethodName := ⟨RX4, "couldBe", "(IIII)Z"⟩
abbrev cX4_tell : ByteArray := prog_6_method_39_code
def yX4_tell : MethodName := ⟨RX4, "tell", "(IIII)I"⟩
abbrev cX4_setLead : ByteArray := prog_6_method_40_code
def yX4_setLead : MethodName := ⟨RX4, "setLead", "(II)I"⟩
abbrev cX4_most : ByteArray := prog_6_method_41_code
def yX4_most : MethodName := ⟨RX4, "most", "(I)I"⟩
abbrev cX4_set : ByteArray := prog_6_method_42_code
def yX4_set : MethodName := ⟨RX4, "set", "(II)I"⟩
abbrev cX4_cut : ByteArray := prog_6_method_43_code
def yX4_cut : MethodName := ⟨RX4, "cut", "(I)I"⟩
abbrev cX4_pause : ByteArray := prog_6_method_44_code
def yX4_pause : MethodName := ⟨RX4, "pause", "(I)I"⟩
abbrev cX4_clean : ByteArray := prog_6_method_45_code
def yX4_clean : MethodName := ⟨RX4, "clean", "()I"⟩
abbrev cX4_type : ByteArray := prog_6_method_46_code
def yX4_type : MethodName := ⟨RX4, "type", "(C)I"⟩
abbrev cX4_clearText : ByteArray := prog_6_method_47_code
def yX4_clearText : MethodName := ⟨RX4, "clearText", "()I"⟩
abbrev cX4_isNext : ByteArray := prog_6_method_48_code
def yX4_isNext : MethodName := ⟨RX4, "isNext", "(II)Z"⟩
abbrev cX4_takesOne : ByteArray := prog_6_method_49_code
def yX4_takesOne : MethodName := ⟨RX4, "takesOne", "(II)I"⟩
abbrev cX4_takesNumber : ByteArray := prog_6_method_50_code
def yX4_takesNumber : MethodName := ⟨RX4, "takesNumber", "(II)I"⟩
abbrev cX4_readThing : ByteArray := prog_6_method_51_code
def yX4_readThing : MethodName := ⟨RX4, "readThing", "()V"⟩
abbrev cX4_does : ByteArray := prog_6_method_52_code
def yX4_does : MethodName := ⟨RX4, "does", "()I"⟩
abbrev cX4_runs : ByteArray := prog_6_method_53_code
def yX4_runs : MethodName := ⟨RX4, "runs", "(Z)I"⟩
abbrev cX4_perform : ByteArray := prog_6_method_54_code
def yX4_perform : MethodName := ⟨RX4, "perform", "()I"⟩
abbrev cX4_stopped : ByteArray := prog_6_method_55_code
def yX4_stopped : MethodName := ⟨RX4, "stopped", "(I)I"⟩
abbrev cX4_undo : ByteArray := prog_6_method_56_code
def yX4_undo : MethodName := ⟨RX4, "undo", "()I"⟩
abbrev cX4_keep : ByteArray := prog_6_method_57_code
def yX4_keep : MethodName := ⟨RX4, "keep", "()I"⟩
abbrev cX4_restore : ByteArray := prog_6_method_58_code
def yX4_restore : MethodName := ⟨RX4, "restore", "()I"⟩
abbrev cX4_shape : ByteArray := prog_6_method_59_code
def yX4_shape : MethodName := ⟨RX4, "shape", "(II)I"⟩
abbrev cX4_heat : ByteArray := prog_6_method_60_code
def yX4_heat : MethodName := ⟨RX4, "heat", "(I)I"⟩
abbrev cX4_reason : ByteArray := prog_6_method_61_code
def yX4_reason : MethodName := ⟨RX4, "reason", "(I)I"⟩
abbrev cX4_ticksOf : ByteArray := prog_6_method_62_code
def yX4_ticksOf : MethodName := ⟨RX4, "ticksOf", "(I)I"⟩
abbrev cX4_takes : ByteArray := prog_6_method_63_code
def yX4_takes : MethodName := ⟨RX4, "takes", "(I)I"⟩
abbrev cX4_coolsIn : ByteArray := prog_6_method_64_code
def yX4_coolsIn : MethodName := ⟨RX4, "coolsIn", "(I)I"⟩
abbrev cX4_bestOne : ByteArray := prog_6_method_65_code
def yX4_bestOne : MethodName := ⟨RX4, "bestOne", "()I"⟩
abbrev cX4_best : ByteArray := prog_6_method_66_code
def yX4_best : MethodName := ⟨RX4, "best", "()I"⟩
abbrev cX4_soonest : ByteArray := prog_6_method_67_code
def yX4_soonest : MethodName := ⟨RX4, "soonest", "()I"⟩
abbrev cX4_layOrder : ByteArray := prog_6_method_68_code
def yX4_layOrder : MethodName := ⟨RX4, "layOrder", "()V"⟩
abbrev cX4_ordered : ByteArray := prog_6_method_69_code
def yX4_ordered : MethodName := ⟨RX4, "ordered", "(I)I"⟩
abbrev cX4_allTakes : ByteArray := prog_6_method_70_code
def yX4_allTakes : MethodName := ⟨RX4, "allTakes", "()I"⟩
abbrev cX4_many : ByteArray := prog_6_method_71_code
def yX4_many : MethodName := ⟨RX4, "many", "(I)I"⟩
abbrev cX4_tilted : ByteArray := prog_6_method_72_code
def yX4_tilted : MethodName := ⟨RX4, "tilted", "()I"⟩
abbrev cX4_hottestSquare : ByteArray := prog_6_method_73_code
def yX4_hottestSquare : MethodName := ⟨RX4, "hottestSquare", "()I"⟩
abbrev cX4_allHeat : ByteArray := prog_6_method_74_code
def yX4_allHeat : MethodName := ⟨RX4, "allHeat", "()I"⟩
abbrev cX4_count : ByteArray := prog_6_method_75_code
def yX4_count : MethodName := ⟨RX4, "count", "(I)I"⟩
def RL : String := "BeamCutsLaw"
abbrev cL_law : ByteArray := code
def yL_law : MethodName := ⟨RL, "law", "([I)Z"⟩
theorem dX0_init_0 : decode cX0_init 0 = .ok (.aload_n 0, 1) := by decide +kernel
theorem dX0_init_1 : decode cX0_init 1 = .ok (.invokespecial 3, 3) := by decide +kernel
theorem dX0_init_4 : decode cX0_init 4 = .ok (.aload_n 0, 1) := by decide +kernel
theorem dX0_init_5 : decode cX0_init 5 = .ok (.bipush 60, 2) := by decide +kernel
theorem dX0_init_7 : decode cX0_init 7 = .ok (.newarray .char, 2) := by decide +kernel
theorem dX0_init_9 : decode cX0_init 9 = .ok (.putfield 11, 3) := by decide +kernel
theorem dX0_init_12 : decode cX0_init 12 = .ok (.aload_n 0, 1) := by decide +kernel
theorem dX0_init_13 : decode cX0_init 13 = .ok (.bipush 30, 2) := by decide +kernel
theorem dX0_init_15 : decode cX0_init 15 = .ok (.newarray .int, 2) := by decide +kernel
theorem dX0_init_17 : decode cX0_init 17 = .ok (.putfield 15, 3) := by decide +kernel
theorem dX0_init_20 : decode cX0_init 20 = .ok (.aload_n 0, 1) := by decide +kernel
theorem dX0_init_21 : decode cX0_init 21 = .ok (.bipush 30, 2) := by decide +kernel
theorem dX0_init_23 : decode cX0_init 23 = .ok (.newarray .int, 2) := by decide +kernel
theorem dX0_init_25 : decode cX0_init 25 = .ok (.putfield 19, 3) := by decide +kernel
theorem dX0_init_28 : decode cX0_init 28 = .ok (.aload_n 0, 1) := by decide +kernel
theorem dX0_init_29 : decode cX0_init 29 = .ok (.bipush 30, 2) := by decide +kernel
theorem dX0_init_31 : decode cX0_init 31 = .ok (.newarray .int, 2) := by decide +kernel
theorem dX0_init_33 : decode cX0_init 33 = .ok (.putfield 22, 3) := by decide +kernel
theorem dX0_init_36 : decode cX0_init 36 = .ok (.aload_n 0, 1) := by decide +kernel
theorem dX0_init_37 : decode cX0_init 37 = .ok (.iconst 0, 1) := by decide +kernel
theorem dX0_init_38 : decode cX0_init 38 = .ok (.putfield 25, 3) := by decide +kernel
theorem dX0_init_41 : decode cX0_init 41 = .ok (.aload_n 0, 1) := by decide +kernel
theorem dX0_init_42 : decode cX0_init 42 = .ok (.iconst 0, 1) := by decide +kernel
theorem dX0_init_43 : decode cX0_init 43 = .ok (.putfield 29, 3) := by decide +kernel
theorem dX0_init_46 : decode cX0_init 46 = .ok (.aload_n 0, 1) := by decide +kernel
theorem dX0_init_47 : decode cX0_init 47 = .ok (.iconst 0, 1) := by decide +kernel
theorem dX0_init_48 : decode cX0_init 48 = .ok (.putfield 32, 3) := by decide +kernel
theorem dX0_init_51 : decode cX0_init 51 = .ok (.return_, 1) := by decide +kernel
theorem dX0_addLetter_0 : decode cX0_addLetter 0 = .ok (.aload_n 0, 1) := by decide +kernel
theorem dX0_addLetter_1 : decode cX0_addLetter 1 = .ok (.getfield 25, 3) := by decide +kernel
theorem dX0_addLetter_4 : decode cX0_addLetter 4 = .ok (.bipush 60, 2) := by decide +kernel
theorem dX0_addLetter_6 : decode cX0_addLetter 6 = .ok (.if_icmp .lt 6, 3) := by decide +kernel
theorem dX0_addLetter_9 : decode cX0_addLetter 9 = .ok (.bipush (-3), 2) := by decide +kernel
theorem dX0_addLetter_11 : decode cX0_addLetter 11 = .ok (.ireturn, 1) := by decide +kernel
theorem dX0_addLetter_12 : decode cX0_addLetter 12 = .ok (.aload_n 0, 1) := by decide +kernel
theorem dX0_addLetter_13 : decode cX0_addLetter 13 = .ok (.getfield 11, 3) := by decide +kernel
theorem dX0_addLetter_16 : decode cX0_addLetter 16 = .ok (.aload_n 0, 1) := by decide +kernel
theorem dX0_addLetter_17 : decode cX0_addLetter 17 = .ok (.getfield 25, 3) := by decide +kernel
theorem dX0_addLetter_20 : decode cX0_addLetter 20 = .ok (.iload_n 1, 1) := by decide +kernel
theorem dX0_addLetter_21 : decode cX0_addLetter 21 = .ok (.castore, 1) := by decide +kernel
theorem dX0_addLetter_22 : decode cX0_addLetter 22 = .ok (.aload_n 0, 1) := by decide +kernel
theorem dX0_addLetter_23 : decode cX0_addLetter 23 = .ok (.dup, 1) := by decide +kernel
theorem dX0_addLetter_24 : decode cX0_addLetter 24 = .ok (.getfield 25, 3) := by decide +kernel
theorem dX0_addLetter_27 : decode cX0_addLetter 27 = .ok (.iconst 1, 1) := by decide +kernel
theorem dX0_addLetter_28 : decode cX0_addLetter 28 = .ok (.iadd, 1) := by decide +kernel
theorem dX0_addLetter_29 : decode cX0_addLetter 29 = .ok (.putfield 25, 3) := by decide +kernel
theorem dX0_addLetter_32 : decode cX0_addLetter 32 = .ok (.aload_n 0, 1) := by decide +kernel
theorem dX0_addLetter_33 : decode cX0_addLetter 33 = .ok (.getfield 25, 3) := by decide +kernel
theorem dX0_addLetter_36 : decode cX0_addLetter 36 = .ok (.ireturn, 1) := by decide +kernel
theorem dX0_dropLetters_0 : decode cX0_dropLetters 0 = .ok (.aload_n 0, 1) := by decide +kernel
theorem dX0_dropLetters_1 : decode cX0_dropLetters 1 = .ok (.getfield 25, 3) := by decide +kernel
theorem dX0_dropLetters_4 : decode cX0_dropLetters 4 = .ok (.istore_n 1, 1) := by decide +kernel
theorem dX0_dropLetters_5 : decode cX0_dropLetters 5 = .ok (.aload_n 0, 1) := by decide +kernel
theorem dX0_dropLetters_6 : decode cX0_dropLetters 6 = .ok (.iconst 0, 1) := by decide +kernel
theorem dX0_dropLetters_7 : decode cX0_dropLetters 7 = .ok (.putfield 25, 3) := by decide +kernel
theorem dX0_dropLetters_10 : decode cX0_dropLetters 10 = .ok (.iload_n 1, 1) := by decide +kernel
theorem dX0_dropLetters_11 : decode cX0_dropLetters 11 = .ok (.ireturn, 1) := by decide +kernel
theorem dX0_read_0 : decode cX0_read 0 = .ok (.aload_n 0, 1) := by decide +kernel
theorem dX0_read_1 : decode cX0_read 1 = .ok (.iconst 0, 1) := by decide +kernel
theorem dX0_read_2 : decode cX0_read 2 = .ok (.putfield 32, 3) := by decide +kernel
theorem dX0_read_5 : decode cX0_read 5 = .ok (.aload_n 0, 1) := by decide +kernel
theorem dX0_read_6 : decode cX0_read 6 = .ok (.iconst 0, 1) := by decide +kernel
theorem dX0_read_7 : decode cX0_read 7 = .ok (.putfield 29, 3) := by decide +kernel
theorem dX0_read_10 : decode cX0_read 10 = .ok (.aload_n 0, 1) := by decide +kernel
theorem dX0_read_11 : decode cX0_read 11 = .ok (.getfield 29, 3) := by decide +kernel
theorem dX0_read_14 : decode cX0_read 14 = .ok (.bipush 30, 2) := by decide +kernel
theorem dX0_read_16 : decode cX0_read 16 = .ok (.if_icmp .ge 52, 3) := by decide +kernel
theorem dX0_read_19 : decode cX0_read 19 = .ok (.aload_n 0, 1) := by decide +kernel
theorem dX0_read_20 : decode cX0_read 20 = .ok (.invokevirtual 35, 3) := by decide +kernel
theorem dX0_read_23 : decode cX0_read 23 = .ok (.ifCond .ne 8, 3) := by decide +kernel
theorem dX0_read_26 : decode cX0_read 26 = .ok (.aload_n 0, 1) := by decide +kernel
theorem dX0_read_27 : decode cX0_read 27 = .ok (.getfield 32, 3) := by decide +kernel
theorem dX0_read_30 : decode cX0_read 30 = .ok (.ireturn, 1) := by decide +kernel
theorem dX0_read_31 : decode cX0_read 31 = .ok (.aload_n 0, 1) := by decide +kernel
theorem dX0_read_32 : decode cX0_read 32 = .ok (.dup, 1) := by decide +kernel
theorem dX0_read_33 : decode cX0_read 33 = .ok (.getfield 29, 3) := by decide +kernel
theorem dX0_read_36 : decode cX0_read 36 = .ok (.iconst 1, 1) := by decide +kernel
theorem dX0_read_37 : decode cX0_read 37 = .ok (.iadd, 1) := by decide +kernel
theorem dX0_read_38 : decode cX0_read 38 = .ok (.putfield 29, 3) := by decide +kernel
theorem dX0_read_41 : decode cX0_read 41 = .ok (.aload_n 0, 1) := by decide +kernel
theorem dX0_read_42 : decode cX0_read 42 = .ok (.getfield 32, 3) := by decide +kernel
theorem dX0_read_45 : decode cX0_read 45 = .ok (.aload_n 0, 1) := by decide +kernel
theorem dX0_read_46 : decode cX0_read 46 = .ok (.getfield 25, 3) := by decide +kernel
theorem dX0_read_49 : decode cX0_read 49 = .ok (.if_icmp .lt 5, 3) := by decide +kernel
theorem dX0_read_52 : decode cX0_read 52 = .ok (.iconst (-1), 1) := by decide +kernel
theorem dX0_read_53 : decode cX0_read 53 = .ok (.ireturn, 1) := by decide +kernel
theorem dX0_read_54 : decode cX0_read 54 = .ok (.aload_n 0, 1) := by decide +kernel
theorem dX0_read_55 : decode cX0_read 55 = .ok (.bipush 59, 2) := by decide +kernel
theorem dX0_read_57 : decode cX0_read 57 = .ok (.invokevirtual 39, 3) := by decide +kernel
theorem dX0_read_60 : decode cX0_read 60 = .ok (.ifCond .ne (-50), 3) := by decide +kernel
theorem dX0_read_63 : decode cX0_read 63 = .ok (.aload_n 0, 1) := by decide +kernel
theorem dX0_read_64 : decode cX0_read 64 = .ok (.getfield 32, 3) := by decide +kernel
theorem dX0_read_67 : decode cX0_read 67 = .ok (.ireturn, 1) := by decide +kernel
theorem dX0_read_68 : decode cX0_read 68 = .ok (.aload_n 0, 1) := by decide +kernel
theorem dX0_read_69 : decode cX0_read 69 = .ok (.getfield 32, 3) := by decide +kernel
theorem dX0_read_72 : decode cX0_read 72 = .ok (.ireturn, 1) := by decide +kernel
theorem dX0_readThing_0 : decode cX0_readThing 0 = .ok (.aload_n 0, 1) := by decide +kernel
theorem dX0_readThing_1 : decode cX0_readThing 1 = .ok (.bipush 99, 2) := by decide +kernel
theorem dX0_readThing_3 : decode cX0_readThing 3 = .ok (.invokevirtual 39, 3) := by decide +kernel
theorem dX0_readThing_6 : decode cX0_readThing 6 = .ok (.ifCond .eq 25, 3) := by decide +kernel
theorem dX0_readThing_9 : decode cX0_readThing 9 = .ok (.aload_n 0, 1) := by decide +kernel
theorem dX0_readThing_10 : decode cX0_readThing 10 = .ok (.getfield 15, 3) := by decide +kernel
theorem dX0_readThing_13 : decode cX0_readThing 13 = .ok (.aload_n 0, 1) := by decide +kernel
theorem dX0_readThing_14 : decode cX0_readThing 14 = .ok (.getfield 29, 3) := by decide +kernel
theorem dX0_readThing_17 : decode cX0_readThing 17 = .ok (.iconst 0, 1) := by decide +kernel
theorem dX0_readThing_18 : decode cX0_readThing 18 = .ok (.iastore, 1) := by decide +kernel
theorem dX0_readThing_19 : decode cX0_readThing 19 = .ok (.aload_n 0, 1) := by decide +kernel
theorem dX0_readThing_20 : decode cX0_readThing 20 = .ok (.aload_n 0, 1) := by decide +kernel
theorem dX0_readThing_21 : decode cX0_readThing 21 = .ok (.getfield 19, 3) := by decide +kernel
theorem dX0_readThing_24 : decode cX0_readThing 24 = .ok (.iconst 0, 1) := by decide +kernel
theorem dX0_readThing_25 : decode cX0_readThing 25 = .ok (.bipush 11, 2) := by decide +kernel
theorem dX0_readThing_27 : decode cX0_readThing 27 = .ok (.invokevirtual 43, 3) := by decide +kernel
theorem dX0_readThing_30 : decode cX0_readThing 30 = .ok (.ireturn, 1) := by decide +kernel
theorem dX0_readThing_31 : decode cX0_readThing 31 = .ok (.aload_n 0, 1) := by decide +kernel
theorem dX0_readThing_32 : decode cX0_readThing 32 = .ok (.bipush 108, 2) := by decide +kernel
theorem dX0_readThing_34 : decode cX0_readThing 34 = .ok (.invokevirtual 39, 3) := by decide +kernel
theorem dX0_readThing_37 : decode cX0_readThing 37 = .ok (.ifCond .eq 55, 3) := by decide +kernel
theorem dX0_readThing_40 : decode cX0_readThing 40 = .ok (.aload_n 0, 1) := by decide +kernel
theorem dX0_readThing_41 : decode cX0_readThing 41 = .ok (.getfield 15, 3) := by decide +kernel
theorem dX0_readThing_44 : decode cX0_readThing 44 = .ok (.aload_n 0, 1) := by decide +kernel
theorem dX0_readThing_45 : decode cX0_readThing 45 = .ok (.getfield 29, 3) := by decide +kernel
theorem dX0_readThing_48 : decode cX0_readThing 48 = .ok (.iconst 1, 1) := by decide +kernel
theorem dX0_readThing_49 : decode cX0_readThing 49 = .ok (.iastore, 1) := by decide +kernel
theorem dX0_readThing_50 : decode cX0_readThing 50 = .ok (.aload_n 0, 1) := by decide +kernel
theorem dX0_readThing_51 : decode cX0_readThing 51 = .ok (.aload_n 0, 1) := by decide +kernel
theorem dX0_readThing_52 : decode cX0_readThing 52 = .ok (.getfield 19, 3) := by decide +kernel
theorem dX0_readThing_55 : decode cX0_readThing 55 = .ok (.iconst 0, 1) := by decide +kernel
theorem dX0_readThing_56 : decode cX0_readThing 56 = .ok (.bipush 11, 2) := by decide +kernel
theorem dX0_readThing_58 : decode cX0_readThing 58 = .ok (.invokevirtual 43, 3) := by decide +kernel
theorem dX0_readThing_61 : decode cX0_readThing 61 = .ok (.ifCond .eq 29, 3) := by decide +kernel
theorem dX0_readThing_64 : decode cX0_readThing 64 = .ok (.aload_n 0, 1) := by decide +kernel
theorem dX0_readThing_65 : decode cX0_readThing 65 = .ok (.bipush 64, 2) := by decide +kernel
theorem dX0_readThing_67 : decode cX0_readThing 67 = .ok (.invokevirtual 39, 3) := by decide +kernel
theorem dX0_readThing_70 : decode cX0_readThing 70 = .ok (.ifCond .eq 20, 3) := by decide +kernel
theorem dX0_readThing_73 : decode cX0_readThing 73 = .ok (.aload_n 0, 1) := by decide +kernel
theorem dX0_readThing_74 : decode cX0_readThing 74 = .ok (.aload_n 0, 1) := by decide +kernel
theorem dX0_readThing_75 : decode cX0_readThing 75 = .ok (.getfield 22, 3) := by decide +kernel
theorem dX0_readThing_78 : decode cX0_readThing 78 = .ok (.iconst 0, 1) := by decide +kernel
theorem dX0_readThing_79 : decode cX0_readThing 79 = .ok (.iconst 3, 1) := by decide +kernel
theorem dX0_readThing_80 : decode cX0_readThing 80 = .ok (.invokevirtual 43, 3) := by decide +kernel
theorem dX0_readThing_83 : decode cX0_readThing 83 = .ok (.ifCond .eq 7, 3) := by decide +kernel
theorem dX0_readThing_86 : decode cX0_readThing 86 = .ok (.iconst 1, 1) := by decide +kernel
theorem dX0_readThing_87 : decode cX0_readThing 87 = .ok (.goto 4, 3) := by decide +kernel
theorem dX0_readThing_90 : decode cX0_readThing 90 = .ok (.iconst 0, 1) := by decide +kernel
theorem dX0_readThing_91 : decode cX0_readThing 91 = .ok (.ireturn, 1) := by decide +kernel
theorem dX0_readThing_92 : decode cX0_readThing 92 = .ok (.aload_n 0, 1) := by decide +kernel
theorem dX0_readThing_93 : decode cX0_readThing 93 = .ok (.bipush 119, 2) := by decide +kernel
theorem dX0_readThing_95 : decode cX0_readThing 95 = .ok (.invokevirtual 39, 3) := by decide +kernel
theorem dX0_readThing_98 : decode cX0_readThing 98 = .ok (.ifCond .eq 26, 3) := by decide +kernel
theorem dX0_readThing_101 : decode cX0_readThing 101 = .ok (.aload_n 0, 1) := by decide +kernel
theorem dX0_readThing_102 : decode cX0_readThing 102 = .ok (.getfield 15, 3) := by decide +kernel
theorem dX0_readThing_105 : decode cX0_readThing 105 = .ok (.aload_n 0, 1) := by decide +kernel
theorem dX0_readThing_106 : decode cX0_readThing 106 = .ok (.getfield 29, 3) := by decide +kernel
theorem dX0_readThing_109 : decode cX0_readThing 109 = .ok (.iconst 2, 1) := by decide +kernel
theorem dX0_readThing_110 : decode cX0_readThing 110 = .ok (.iastore, 1) := by decide +kernel
theorem dX0_readThing_111 : decode cX0_readThing 111 = .ok (.aload_n 0, 1) := by decide +kernel
theorem dX0_readThing_112 : decode cX0_readThing 112 = .ok (.aload_n 0, 1) := by decide +kernel
theorem dX0_readThing_113 : decode cX0_readThing 113 = .ok (.getfield 19, 3) := by decide +kernel
theorem dX0_readThing_116 : decode cX0_readThing 116 = .ok (.iconst 1, 1) := by decide +kernel
theorem dX0_readThing_117 : decode cX0_readThing 117 = .ok (.sipush 999, 3) := by decide +kernel
theorem dX0_readThing_120 : decode cX0_readThing 120 = .ok (.invokevirtual 43, 3) := by decide +kernel
theorem dX0_readThing_123 : decode cX0_readThing 123 = .ok (.ireturn, 1) := by decide +kernel
theorem dX0_readThing_124 : decode cX0_readThing 124 = .ok (.aload_n 0, 1) := by decide +kernel
theorem dX0_readThing_125 : decode cX0_readThing 125 = .ok (.getfield 15, 3) := by decide +kernel
theorem dX0_readThing_128 : decode cX0_readThing 128 = .ok (.aload_n 0, 1) := by decide +kernel
theorem dX0_readThing_129 : decode cX0_readThing 129 = .ok (.getfield 29, 3) := by decide +kernel
theorem dX0_readThing_132 : decode cX0_readThing 132 = .ok (.iconst 3, 1) := by decide +kernel
theorem dX0_readThing_133 : decode cX0_readThing 133 = .ok (.iastore, 1) := by decide +kernel
theorem dX0_readThing_134 : decode cX0_readThing 134 = .ok (.aload_n 0, 1) := by decide +kernel
theorem dX0_readThing_135 : decode cX0_readThing 135 = .ok (.bipush 107, 2) := by decide +kernel
theorem dX0_readThing_137 : decode cX0_readThing 137 = .ok (.invokevirtual 39, 3) := by decide +kernel
theorem dX0_readThing_140 : decode cX0_readThing 140 = .ok (.ireturn, 1) := by decide +kernel
theorem dX0_readLetter_0 : decode cX0_readLetter 0 = .ok (.aload_n 0, 1) := by decide +kernel
theorem dX0_readLetter_1 : decode cX0_readLetter 1 = .ok (.getfield 32, 3) := by decide +kernel
theorem dX0_readLetter_4 : decode cX0_readLetter 4 = .ok (.aload_n 0, 1) := by decide +kernel
theorem dX0_readLetter_5 : decode cX0_readLetter 5 = .ok (.getfield 25, 3) := by decide +kernel
theorem dX0_readLetter_8 : decode cX0_readLetter 8 = .ok (.if_icmp .ge 16, 3) := by decide +kernel
theorem dX0_readLetter_11 : decode cX0_readLetter 11 = .ok (.aload_n 0, 1) := by decide +kernel
theorem dX0_readLetter_12 : decode cX0_readLetter 12 = .ok (.getfield 11, 3) := by decide +kernel
theorem dX0_readLetter_15 : decode cX0_readLetter 15 = .ok (.aload_n 0, 1) := by decide +kernel
theorem dX0_readLetter_16 : decode cX0_readLetter 16 = .ok (.getfield 32, 3) := by decide +kernel
theorem dX0_readLetter_19 : decode cX0_readLetter 19 = .ok (.caload, 1) := by decide +kernel
theorem dX0_readLetter_20 : decode cX0_readLetter 20 = .ok (.iload_n 1, 1) := by decide +kernel
theorem dX0_readLetter_21 : decode cX0_readLetter 21 = .ok (.if_icmp .eq 5, 3) := by decide +kernel
theorem dX0_readLetter_24 : decode cX0_readLetter 24 = .ok (.iconst 0, 1) := by decide +kernel
theorem dX0_readLetter_25 : decode cX0_readLetter 25 = .ok (.ireturn, 1) := by decide +kernel
theorem dX0_readLetter_26 : decode cX0_readLetter 26 = .ok (.aload_n 0, 1) := by decide +kernel
theorem dX0_readLetter_27 : decode cX0_readLetter 27 = .ok (.dup, 1) := by decide +kernel
theorem dX0_readLetter_28 : decode cX0_readLetter 28 = .ok (.getfield 32, 3) := by decide +kernel
theorem dX0_readLetter_31 : decode cX0_readLetter 31 = .ok (.iconst 1, 1) := by decide +kernel
theorem dX0_readLetter_32 : decode cX0_readLetter 32 = .ok (.iadd, 1) := by decide +kernel
theorem dX0_readLetter_33 : decode cX0_readLetter 33 = .ok (.putfield 32, 3) := by decide +kernel
theorem dX0_readLetter_36 : decode cX0_readLetter 36 = .ok (.iconst 1, 1) := by decide +kernel
theorem dX0_readLetter_37 : decode cX0_readLetter 37 = .ok (.ireturn, 1) := by decide +kernel
theorem dX0_readNumber_0 : decode cX0_readNumber 0 = .ok (.aload_n 0, 1) := by decide +kernel
theorem dX0_readNumber_1 : decode cX0_readNumber 1 = .ok (.aload_n 0, 1) := by decide +kernel
theorem dX0_readNumber_2 : decode cX0_readNumber 2 = .ok (.getfield 32, 3) := by decide +kernel
theorem dX0_readNumber_5 : decode cX0_readNumber 5 = .ok (.invokevirtual 49, 3) := by decide +kernel
theorem dX0_readNumber_8 : decode cX0_readNumber 8 = .ok (.istore 4, 2) := by decide +kernel
theorem dX0_readNumber_10 : decode cX0_readNumber 10 = .ok (.iload 4, 2) := by decide +kernel
theorem dX0_readNumber_12 : decode cX0_readNumber 12 = .ok (.iload_n 2, 1) := by decide +kernel
theorem dX0_readNumber_13 : decode cX0_readNumber 13 = .ok (.iconst 0, 1) := by decide +kernel
theorem dX0_readNumber_14 : decode cX0_readNumber 14 = .ok (.invokestatic 53, 3) := by decide +kernel
theorem dX0_readNumber_17 : decode cX0_readNumber 17 = .ok (.iload_n 3, 1) := by decide +kernel
theorem dX0_readNumber_18 : decode cX0_readNumber 18 = .ok (.invokestatic 59, 3) := by decide +kernel
theorem dX0_readNumber_21 : decode cX0_readNumber 21 = .ok (.ifCond .ne 5, 3) := by decide +kernel
theorem dX0_readNumber_24 : decode cX0_readNumber 24 = .ok (.iconst 0, 1) := by decide +kernel
theorem dX0_readNumber_25 : decode cX0_readNumber 25 = .ok (.ireturn, 1) := by decide +kernel
theorem dX0_readNumber_26 : decode cX0_readNumber 26 = .ok (.aload_n 0, 1) := by decide +kernel
theorem dX0_readNumber_27 : decode cX0_readNumber 27 = .ok (.dup, 1) := by decide +kernel
theorem dX0_readNumber_28 : decode cX0_readNumber 28 = .ok (.getfield 32, 3) := by decide +kernel
theorem dX0_readNumber_31 : decode cX0_readNumber 31 = .ok (.iconst 1, 1) := by decide +kernel
theorem dX0_readNumber_32 : decode cX0_readNumber 32 = .ok (.iadd, 1) := by decide +kernel
theorem dX0_readNumber_33 : decode cX0_readNumber 33 = .ok (.putfield 32, 3) := by decide +kernel
theorem dX0_readNumber_36 : decode cX0_readNumber 36 = .ok (.aload_n 0, 1) := by decide +kernel
theorem dX0_readNumber_37 : decode cX0_readNumber 37 = .ok (.getfield 32, 3) := by decide +kernel
theorem dX0_readNumber_40 : decode cX0_readNumber 40 = .ok (.aload_n 0, 1) := by decide +kernel
theorem dX0_readNumber_41 : decode cX0_readNumber 41 = .ok (.getfield 25, 3) := by decide +kernel
theorem dX0_readNumber_44 : decode cX0_readNumber 44 = .ok (.if_icmp .ge 66, 3) := by decide +kernel
theorem dX0_readNumber_47 : decode cX0_readNumber 47 = .ok (.iload 4, 2) := by decide +kernel
theorem dX0_readNumber_49 : decode cX0_readNumber 49 = .ok (.ifCond .le 61, 3) := by decide +kernel
theorem dX0_readNumber_52 : decode cX0_readNumber 52 = .ok (.aload_n 0, 1) := by decide +kernel
theorem dX0_readNumber_53 : decode cX0_readNumber 53 = .ok (.aload_n 0, 1) := by decide +kernel
theorem dX0_readNumber_54 : decode cX0_readNumber 54 = .ok (.getfield 32, 3) := by decide +kernel
theorem dX0_readNumber_57 : decode cX0_readNumber 57 = .ok (.invokevirtual 49, 3) := by decide +kernel
theorem dX0_readNumber_60 : decode cX0_readNumber 60 = .ok (.ifCond .lt 50, 3) := by decide +kernel
theorem dX0_readNumber_63 : decode cX0_readNumber 63 = .ok (.bipush 10, 2) := by decide +kernel
theorem dX0_readNumber_65 : decode cX0_readNumber 65 = .ok (.iload 4, 2) := by decide +kernel
theorem dX0_readNumber_67 : decode cX0_readNumber 67 = .ok (.imul, 1) := by decide +kernel
theorem dX0_readNumber_68 : decode cX0_readNumber 68 = .ok (.aload_n 0, 1) := by decide +kernel
theorem dX0_readNumber_69 : decode cX0_readNumber 69 = .ok (.aload_n 0, 1) := by decide +kernel
theorem dX0_readNumber_70 : decode cX0_readNumber 70 = .ok (.getfield 32, 3) := by decide +kernel
theorem dX0_readNumber_73 : decode cX0_readNumber 73 = .ok (.invokevirtual 49, 3) := by decide +kernel
theorem dX0_readNumber_76 : decode cX0_readNumber 76 = .ok (.iadd, 1) := by decide +kernel
theorem dX0_readNumber_77 : decode cX0_readNumber 77 = .ok (.iload_n 3, 1) := by decide +kernel
theorem dX0_readNumber_78 : decode cX0_readNumber 78 = .ok (.if_icmp .gt 32, 3) := by decide +kernel
theorem dX0_readNumber_81 : decode cX0_readNumber 81 = .ok (.bipush 10, 2) := by decide +kernel
theorem dX0_readNumber_83 : decode cX0_readNumber 83 = .ok (.iload 4, 2) := by decide +kernel
theorem dX0_readNumber_85 : decode cX0_readNumber 85 = .ok (.imul, 1) := by decide +kernel
theorem dX0_readNumber_86 : decode cX0_readNumber 86 = .ok (.aload_n 0, 1) := by decide +kernel
theorem dX0_readNumber_87 : decode cX0_readNumber 87 = .ok (.aload_n 0, 1) := by decide +kernel
theorem dX0_readNumber_88 : decode cX0_readNumber 88 = .ok (.getfield 32, 3) := by decide +kernel
theorem dX0_readNumber_91 : decode cX0_readNumber 91 = .ok (.invokevirtual 49, 3) := by decide +kernel
theorem dX0_readNumber_94 : decode cX0_readNumber 94 = .ok (.iadd, 1) := by decide +kernel
theorem dX0_readNumber_95 : decode cX0_readNumber 95 = .ok (.istore 4, 2) := by decide +kernel
theorem dX0_readNumber_97 : decode cX0_readNumber 97 = .ok (.aload_n 0, 1) := by decide +kernel
theorem dX0_readNumber_98 : decode cX0_readNumber 98 = .ok (.dup, 1) := by decide +kernel
theorem dX0_readNumber_99 : decode cX0_readNumber 99 = .ok (.getfield 32, 3) := by decide +kernel
theorem dX0_readNumber_102 : decode cX0_readNumber 102 = .ok (.iconst 1, 1) := by decide +kernel
theorem dX0_readNumber_103 : decode cX0_readNumber 103 = .ok (.iadd, 1) := by decide +kernel
theorem dX0_readNumber_104 : decode cX0_readNumber 104 = .ok (.putfield 32, 3) := by decide +kernel
theorem dX0_readNumber_107 : decode cX0_readNumber 107 = .ok (.goto (-71), 3) := by decide +kernel
theorem dX0_readNumber_110 : decode cX0_readNumber 110 = .ok (.aload_n 1, 1) := by decide +kernel
theorem dX0_readNumber_111 : decode cX0_readNumber 111 = .ok (.aload_n 0, 1) := by decide +kernel
theorem dX0_readNumber_112 : decode cX0_readNumber 112 = .ok (.getfield 29, 3) := by decide +kernel
theorem dX0_readNumber_115 : decode cX0_readNumber 115 = .ok (.iload 4, 2) := by decide +kernel
theorem dX0_readNumber_117 : decode cX0_readNumber 117 = .ok (.iastore, 1) := by decide +kernel
theorem dX0_readNumber_118 : decode cX0_readNumber 118 = .ok (.iconst 1, 1) := by decide +kernel
theorem dX0_readNumber_119 : decode cX0_readNumber 119 = .ok (.ireturn, 1) := by decide +kernel
theorem dX0_digitAt_0 : decode cX0_digitAt 0 = .ok (.iload_n 1, 1) := by decide +kernel
theorem dX0_digitAt_1 : decode cX0_digitAt 1 = .ok (.ifCond .lt 27, 3) := by decide +kernel
theorem dX0_digitAt_4 : decode cX0_digitAt 4 = .ok (.iload_n 1, 1) := by decide +kernel
theorem dX0_digitAt_5 : decode cX0_digitAt 5 = .ok (.aload_n 0, 1) := by decide +kernel
theorem dX0_digitAt_6 : decode cX0_digitAt 6 = .ok (.getfield 25, 3) := by decide +kernel
theorem dX0_digitAt_9 : decode cX0_digitAt 9 = .ok (.if_icmp .ge 19, 3) := by decide +kernel
theorem dX0_digitAt_12 : decode cX0_digitAt 12 = .ok (.aload_n 0, 1) := by decide +kernel
theorem dX0_digitAt_13 : decode cX0_digitAt 13 = .ok (.getfield 11, 3) := by decide +kernel
theorem dX0_digitAt_16 : decode cX0_digitAt 16 = .ok (.iload_n 1, 1) := by decide +kernel
theorem dX0_digitAt_17 : decode cX0_digitAt 17 = .ok (.caload, 1) := by decide +kernel
theorem dX0_digitAt_18 : decode cX0_digitAt 18 = .ok (.bipush 48, 2) := by decide +kernel
theorem dX0_digitAt_20 : decode cX0_digitAt 20 = .ok (.bipush 57, 2) := by decide +kernel
theorem dX0_digitAt_22 : decode cX0_digitAt 22 = .ok (.invokestatic 59, 3) := by decide +kernel
theorem dX0_digitAt_25 : decode cX0_digitAt 25 = .ok (.ifCond .ne 5, 3) := by decide +kernel
theorem dX0_digitAt_28 : decode cX0_digitAt 28 = .ok (.iconst (-1), 1) := by decide +kernel
theorem dX0_digitAt_29 : decode cX0_digitAt 29 = .ok (.ireturn, 1) := by decide +kernel
theorem dX0_digitAt_30 : decode cX0_digitAt 30 = .ok (.aload_n 0, 1) := by decide +kernel
theorem dX0_digitAt_31 : decode cX0_digitAt 31 = .ok (.getfield 11, 3) := by decide +kernel
theorem dX0_digitAt_34 : decode cX0_digitAt 34 = .ok (.iload_n 1, 1) := by decide +kernel
theorem dX0_digitAt_35 : decode cX0_digitAt 35 = .ok (.caload, 1) := by decide +kernel
theorem dX0_digitAt_36 : decode cX0_digitAt 36 = .ok (.bipush 48, 2) := by decide +kernel
theorem dX0_digitAt_38 : decode cX0_digitAt 38 = .ok (.isub, 1) := by decide +kernel
theorem dX0_digitAt_39 : decode cX0_digitAt 39 = .ok (.ireturn, 1) := by decide +kernel
theorem dX0_doThing_0 : decode cX0_doThing 0 = .ok (.aload_n 0, 1) := by decide +kernel
theorem dX0_doThing_1 : decode cX0_doThing 1 = .ok (.getfield 15, 3) := by decide +kernel
theorem dX0_doThing_4 : decode cX0_doThing 4 = .ok (.iload_n 1, 1) := by decide +kernel
theorem dX0_doThing_5 : decode cX0_doThing 5 = .ok (.iaload, 1) := by decide +kernel
theorem dX0_doThing_6 : decode cX0_doThing 6 = .ok (.tableswitch 74 0 3 #[30, 41, 58, 69], 30) := by decide +kernel
theorem dX0_doThing_36 : decode cX0_doThing 36 = .ok (.aload_n 2, 1) := by decide +kernel
theorem dX0_doThing_37 : decode cX0_doThing 37 = .ok (.aload_n 0, 1) := by decide +kernel
theorem dX0_doThing_38 : decode cX0_doThing 38 = .ok (.getfield 19, 3) := by decide +kernel
theorem dX0_doThing_41 : decode cX0_doThing 41 = .ok (.iload_n 1, 1) := by decide +kernel
theorem dX0_doThing_42 : decode cX0_doThing 42 = .ok (.iaload, 1) := by decide +kernel
theorem dX0_doThing_43 : decode cX0_doThing 43 = .ok (.invokevirtual 63, 3) := by decide +kernel
theorem dX0_doThing_46 : decode cX0_doThing 46 = .ok (.ireturn, 1) := by decide +kernel
theorem dX0_doThing_47 : decode cX0_doThing 47 = .ok (.aload_n 2, 1) := by decide +kernel
theorem dX0_doThing_48 : decode cX0_doThing 48 = .ok (.aload_n 0, 1) := by decide +kernel
theorem dX0_doThing_49 : decode cX0_doThing 49 = .ok (.getfield 19, 3) := by decide +kernel
theorem dX0_doThing_52 : decode cX0_doThing 52 = .ok (.iload_n 1, 1) := by decide +kernel
theorem dX0_doThing_53 : decode cX0_doThing 53 = .ok (.iaload, 1) := by decide +kernel
theorem dX0_doThing_54 : decode cX0_doThing 54 = .ok (.aload_n 0, 1) := by decide +kernel
theorem dX0_doThing_55 : decode cX0_doThing 55 = .ok (.getfield 22, 3) := by decide +kernel
theorem dX0_doThing_58 : decode cX0_doThing 58 = .ok (.iload_n 1, 1) := by decide +kernel
theorem dX0_doThing_59 : decode cX0_doThing 59 = .ok (.iaload, 1) := by decide +kernel
theorem dX0_doThing_60 : decode cX0_doThing 60 = .ok (.invokevirtual 66, 3) := by decide +kernel
theorem dX0_doThing_63 : decode cX0_doThing 63 = .ok (.ireturn, 1) := by decide +kernel
theorem dX0_doThing_64 : decode cX0_doThing 64 = .ok (.aload_n 2, 1) := by decide +kernel
theorem dX0_doThing_65 : decode cX0_doThing 65 = .ok (.aload_n 0, 1) := by decide +kernel
theorem dX0_doThing_66 : decode cX0_doThing 66 = .ok (.getfield 19, 3) := by decide +kernel
theorem dX0_doThing_69 : decode cX0_doThing 69 = .ok (.iload_n 1, 1) := by decide +kernel
theorem dX0_doThing_70 : decode cX0_doThing 70 = .ok (.iaload, 1) := by decide +kernel
theorem dX0_doThing_71 : decode cX0_doThing 71 = .ok (.invokevirtual 69, 3) := by decide +kernel
theorem dX0_doThing_74 : decode cX0_doThing 74 = .ok (.ireturn, 1) := by decide +kernel
theorem dX0_doThing_75 : decode cX0_doThing 75 = .ok (.aload_n 2, 1) := by decide +kernel
theorem dX0_doThing_76 : decode cX0_doThing 76 = .ok (.invokevirtual 72, 3) := by decide +kernel
theorem dX0_doThing_79 : decode cX0_doThing 79 = .ok (.ireturn, 1) := by decide +kernel
theorem dX0_doThing_80 : decode cX0_doThing 80 = .ok (.bipush (-5), 2) := by decide +kernel
theorem dX0_doThing_82 : decode cX0_doThing 82 = .ok (.ireturn, 1) := by decide +kernel
theorem dX1_init_0 : decode cX1_init 0 = .ok (.aload_n 0, 1) := by decide +kernel
theorem dX1_init_1 : decode cX1_init 1 = .ok (.invokespecial 3, 3) := by decide +kernel
theorem dX1_init_4 : decode cX1_init 4 = .ok (.aload_n 0, 1) := by decide +kernel
theorem dX1_init_5 : decode cX1_init 5 = .ok (.iconst 0, 1) := by decide +kernel
theorem dX1_init_6 : decode cX1_init 6 = .ok (.putfield 9, 3) := by decide +kernel
theorem dX1_init_9 : decode cX1_init 9 = .ok (.aload_n 0, 1) := by decide +kernel
theorem dX1_init_10 : decode cX1_init 10 = .ok (.iconst 0, 1) := by decide +kernel
theorem dX1_init_11 : decode cX1_init 11 = .ok (.putfield 15, 3) := by decide +kernel
theorem dX1_init_14 : decode cX1_init 14 = .ok (.aload_n 0, 1) := by decide +kernel
theorem dX1_init_15 : decode cX1_init 15 = .ok (.iconst 2, 1) := by decide +kernel
theorem dX1_init_16 : decode cX1_init 16 = .ok (.putfield 18, 3) := by decide +kernel
theorem dX1_init_19 : decode cX1_init 19 = .ok (.aload_n 0, 1) := by decide +kernel
theorem dX1_init_20 : decode cX1_init 20 = .ok (.iconst 2, 1) := by decide +kernel
theorem dX1_init_21 : decode cX1_init 21 = .ok (.putfield 21, 3) := by decide +kernel
theorem dX1_init_24 : decode cX1_init 24 = .ok (.aload_n 0, 1) := by decide +kernel
theorem dX1_init_25 : decode cX1_init 25 = .ok (.iconst 0, 1) := by decide +kernel
theorem dX1_init_26 : decode cX1_init 26 = .ok (.putfield 24, 3) := by decide +kernel
theorem dX1_init_29 : decode cX1_init 29 = .ok (.aload_n 0, 1) := by decide +kernel
theorem dX1_init_30 : decode cX1_init 30 = .ok (.iconst 0, 1) := by decide +kernel
theorem dX1_init_31 : decode cX1_init 31 = .ok (.putfield 27, 3) := by decide +kernel
theorem dX1_init_34 : decode cX1_init 34 = .ok (.aload_n 0, 1) := by decide +kernel
theorem dX1_init_35 : decode cX1_init 35 = .ok (.iconst 0, 1) := by decide +kernel
theorem dX1_init_36 : decode cX1_init 36 = .ok (.putfield 30, 3) := by decide +kernel
theorem dX1_init_39 : decode cX1_init 39 = .ok (.aload_n 0, 1) := by decide +kernel
theorem dX1_init_40 : decode cX1_init 40 = .ok (.bipush (-5), 2) := by decide +kernel
theorem dX1_init_42 : decode cX1_init 42 = .ok (.putfield 33, 3) := by decide +kernel
theorem dX1_init_45 : decode cX1_init 45 = .ok (.aload_n 0, 1) := by decide +kernel
theorem dX1_init_46 : decode cX1_init 46 = .ok (.bipush 12, 2) := by decide +kernel
theorem dX1_init_48 : decode cX1_init 48 = .ok (.newarray .int, 2) := by decide +kernel
theorem dX1_init_50 : decode cX1_init 50 = .ok (.putfield 38, 3) := by decide +kernel
theorem dX1_init_53 : decode cX1_init 53 = .ok (.return_, 1) := by decide +kernel
theorem dX1_copyFrom_0 : decode cX1_copyFrom 0 = .ok (.aload_n 0, 1) := by decide +kernel
theorem dX1_copyFrom_1 : decode cX1_copyFrom 1 = .ok (.aload_n 1, 1) := by decide +kernel
theorem dX1_copyFrom_2 : decode cX1_copyFrom 2 = .ok (.getfield 9, 3) := by decide +kernel
theorem dX1_copyFrom_5 : decode cX1_copyFrom 5 = .ok (.putfield 9, 3) := by decide +kernel
theorem dX1_copyFrom_8 : decode cX1_copyFrom 8 = .ok (.aload_n 0, 1) := by decide +kernel
theorem dX1_copyFrom_9 : decode cX1_copyFrom 9 = .ok (.aload_n 1, 1) := by decide +kernel
theorem dX1_copyFrom_10 : decode cX1_copyFrom 10 = .ok (.getfield 15, 3) := by decide +kernel
theorem dX1_copyFrom_13 : decode cX1_copyFrom 13 = .ok (.putfield 15, 3) := by decide +kernel
theorem dX1_copyFrom_16 : decode cX1_copyFrom 16 = .ok (.aload_n 0, 1) := by decide +kernel
theorem dX1_copyFrom_17 : decode cX1_copyFrom 17 = .ok (.aload_n 1, 1) := by decide +kernel
theorem dX1_copyFrom_18 : decode cX1_copyFrom 18 = .ok (.getfield 18, 3) := by decide +kernel
theorem dX1_copyFrom_21 : decode cX1_copyFrom 21 = .ok (.putfield 18, 3) := by decide +kernel
theorem dX1_copyFrom_24 : decode cX1_copyFrom 24 = .ok (.aload_n 0, 1) := by decide +kernel
theorem dX1_copyFrom_25 : decode cX1_copyFrom 25 = .ok (.aload_n 1, 1) := by decide +kernel
theorem dX1_copyFrom_26 : decode cX1_copyFrom 26 = .ok (.getfield 21, 3) := by decide +kernel
theorem dX1_copyFrom_29 : decode cX1_copyFrom 29 = .ok (.putfield 21, 3) := by decide +kernel
theorem dX1_copyFrom_32 : decode cX1_copyFrom 32 = .ok (.aload_n 0, 1) := by decide +kernel
theorem dX1_copyFrom_33 : decode cX1_copyFrom 33 = .ok (.aload_n 1, 1) := by decide +kernel
theorem dX1_copyFrom_34 : decode cX1_copyFrom 34 = .ok (.getfield 24, 3) := by decide +kernel
theorem dX1_copyFrom_37 : decode cX1_copyFrom 37 = .ok (.putfield 24, 3) := by decide +kernel
theorem dX1_copyFrom_40 : decode cX1_copyFrom 40 = .ok (.aload_n 0, 1) := by decide +kernel
theorem dX1_copyFrom_41 : decode cX1_copyFrom 41 = .ok (.aload_n 1, 1) := by decide +kernel
theorem dX1_copyFrom_42 : decode cX1_copyFrom 42 = .ok (.getfield 27, 3) := by decide +kernel
theorem dX1_copyFrom_45 : decode cX1_copyFrom 45 = .ok (.putfield 27, 3) := by decide +kernel
theorem dX1_copyFrom_48 : decode cX1_copyFrom 48 = .ok (.aload_n 0, 1) := by decide +kernel
theorem dX1_copyFrom_49 : decode cX1_copyFrom 49 = .ok (.aload_n 1, 1) := by decide +kernel
theorem dX1_copyFrom_50 : decode cX1_copyFrom 50 = .ok (.getfield 30, 3) := by decide +kernel
theorem dX1_copyFrom_53 : decode cX1_copyFrom 53 = .ok (.putfield 30, 3) := by decide +kernel
theorem dX1_copyFrom_56 : decode cX1_copyFrom 56 = .ok (.aload_n 0, 1) := by decide +kernel
theorem dX1_copyFrom_57 : decode cX1_copyFrom 57 = .ok (.aload_n 1, 1) := by decide +kernel
theorem dX1_copyFrom_58 : decode cX1_copyFrom 58 = .ok (.getfield 33, 3) := by decide +kernel
theorem dX1_copyFrom_61 : decode cX1_copyFrom 61 = .ok (.putfield 33, 3) := by decide +kernel
theorem dX1_copyFrom_64 : decode cX1_copyFrom 64 = .ok (.iconst 0, 1) := by decide +kernel
theorem dX1_copyFrom_65 : decode cX1_copyFrom 65 = .ok (.istore_n 2, 1) := by decide +kernel
theorem dX1_copyFrom_66 : decode cX1_copyFrom 66 = .ok (.iload_n 2, 1) := by decide +kernel
theorem dX1_copyFrom_67 : decode cX1_copyFrom 67 = .ok (.bipush 12, 2) := by decide +kernel
theorem dX1_copyFrom_69 : decode cX1_copyFrom 69 = .ok (.if_icmp .ge 21, 3) := by decide +kernel
theorem dX1_copyFrom_72 : decode cX1_copyFrom 72 = .ok (.aload_n 0, 1) := by decide +kernel
theorem dX1_copyFrom_73 : decode cX1_copyFrom 73 = .ok (.getfield 38, 3) := by decide +kernel
theorem dX1_copyFrom_76 : decode cX1_copyFrom 76 = .ok (.iload_n 2, 1) := by decide +kernel
theorem dX1_copyFrom_77 : decode cX1_copyFrom 77 = .ok (.aload_n 1, 1) := by decide +kernel
theorem dX1_copyFrom_78 : decode cX1_copyFrom 78 = .ok (.getfield 38, 3) := by decide +kernel
theorem dX1_copyFrom_81 : decode cX1_copyFrom 81 = .ok (.iload_n 2, 1) := by decide +kernel
theorem dX1_copyFrom_82 : decode cX1_copyFrom 82 = .ok (.iaload, 1) := by decide +kernel
theorem dX1_copyFrom_83 : decode cX1_copyFrom 83 = .ok (.iastore, 1) := by decide +kernel
theorem dX1_copyFrom_84 : decode cX1_copyFrom 84 = .ok (.iinc 2 1, 3) := by decide +kernel
theorem dX1_copyFrom_87 : decode cX1_copyFrom 87 = .ok (.goto (-21), 3) := by decide +kernel
theorem dX1_copyFrom_90 : decode cX1_copyFrom 90 = .ok (.return_, 1) := by decide +kernel
theorem dX1_place_0 : decode cX1_place 0 = .ok (.aload_n 0, 1) := by decide +kernel
theorem dX1_place_1 : decode cX1_place 1 = .ok (.iload_n 1, 1) := by decide +kernel
theorem dX1_place_2 : decode cX1_place 2 = .ok (.putfield 9, 3) := by decide +kernel
theorem dX1_place_5 : decode cX1_place 5 = .ok (.aload_n 0, 1) := by decide +kernel
theorem dX1_place_6 : decode cX1_place 6 = .ok (.iload_n 2, 1) := by decide +kernel
theorem dX1_place_7 : decode cX1_place 7 = .ok (.putfield 15, 3) := by decide +kernel
theorem dX1_place_10 : decode cX1_place 10 = .ok (.aload_n 0, 1) := by decide +kernel
theorem dX1_place_11 : decode cX1_place 11 = .ok (.iload_n 3, 1) := by decide +kernel
theorem dX1_place_12 : decode cX1_place 12 = .ok (.putfield 18, 3) := by decide +kernel
theorem dX1_place_15 : decode cX1_place 15 = .ok (.aload_n 0, 1) := by decide +kernel
theorem dX1_place_16 : decode cX1_place 16 = .ok (.iload 4, 2) := by decide +kernel
theorem dX1_place_18 : decode cX1_place 18 = .ok (.putfield 21, 3) := by decide +kernel
theorem dX1_place_21 : decode cX1_place 21 = .ok (.aload_n 0, 1) := by decide +kernel
theorem dX1_place_22 : decode cX1_place 22 = .ok (.iconst 0, 1) := by decide +kernel
theorem dX1_place_23 : decode cX1_place 23 = .ok (.putfield 24, 3) := by decide +kernel
theorem dX1_place_26 : decode cX1_place 26 = .ok (.aload_n 0, 1) := by decide +kernel
theorem dX1_place_27 : decode cX1_place 27 = .ok (.iconst 0, 1) := by decide +kernel
theorem dX1_place_28 : decode cX1_place 28 = .ok (.putfield 27, 3) := by decide +kernel
theorem dX1_place_31 : decode cX1_place 31 = .ok (.aload_n 0, 1) := by decide +kernel
theorem dX1_place_32 : decode cX1_place 32 = .ok (.iconst 0, 1) := by decide +kernel
theorem dX1_place_33 : decode cX1_place 33 = .ok (.putfield 30, 3) := by decide +kernel
theorem dX1_place_36 : decode cX1_place 36 = .ok (.aload_n 0, 1) := by decide +kernel
theorem dX1_place_37 : decode cX1_place 37 = .ok (.bipush (-5), 2) := by decide +kernel
theorem dX1_place_39 : decode cX1_place 39 = .ok (.putfield 33, 3) := by decide +kernel
theorem dX1_place_42 : decode cX1_place 42 = .ok (.iconst 0, 1) := by decide +kernel
theorem dX1_place_43 : decode cX1_place 43 = .ok (.istore 5, 2) := by decide +kernel
theorem dX1_place_45 : decode cX1_place 45 = .ok (.iload 5, 2) := by decide +kernel
theorem dX1_place_47 : decode cX1_place 47 = .ok (.bipush 12, 2) := by decide +kernel
theorem dX1_place_49 : decode cX1_place 49 = .ok (.if_icmp .ge 31, 3) := by decide +kernel
theorem dX1_place_52 : decode cX1_place 52 = .ok (.aload_n 0, 1) := by decide +kernel
theorem dX1_place_53 : decode cX1_place 53 = .ok (.getfield 38, 3) := by decide +kernel
theorem dX1_place_56 : decode cX1_place 56 = .ok (.iload 5, 2) := by decide +kernel
theorem dX1_place_58 : decode cX1_place 58 = .ok (.aload_n 0, 1) := by decide +kernel
theorem dX1_place_59 : decode cX1_place 59 = .ok (.iload 5, 2) := by decide +kernel
theorem dX1_place_61 : decode cX1_place 61 = .ok (.iconst 0, 1) := by decide +kernel
theorem dX1_place_62 : decode cX1_place 62 = .ok (.invokevirtual 42, 3) := by decide +kernel
theorem dX1_place_65 : decode cX1_place 65 = .ok (.aload_n 0, 1) := by decide +kernel
theorem dX1_place_66 : decode cX1_place 66 = .ok (.iload 5, 2) := by decide +kernel
theorem dX1_place_68 : decode cX1_place 68 = .ok (.iconst 1, 1) := by decide +kernel
theorem dX1_place_69 : decode cX1_place 69 = .ok (.invokevirtual 42, 3) := by decide +kernel
theorem dX1_place_72 : decode cX1_place 72 = .ok (.isub, 1) := by decide +kernel
theorem dX1_place_73 : decode cX1_place 73 = .ok (.iastore, 1) := by decide +kernel
theorem dX1_place_74 : decode cX1_place 74 = .ok (.iinc 5 1, 3) := by decide +kernel
theorem dX1_place_77 : decode cX1_place 77 = .ok (.goto (-32), 3) := by decide +kernel
theorem dX1_place_80 : decode cX1_place 80 = .ok (.return_, 1) := by decide +kernel
theorem dX1_fieldsIn_0 : decode cX1_fieldsIn 0 = .ok (.iload_n 1, 1) := by decide +kernel
theorem dX1_fieldsIn_1 : decode cX1_fieldsIn 1 = .ok (.iconst 4, 1) := by decide +kernel
theorem dX1_fieldsIn_2 : decode cX1_fieldsIn 2 = .ok (.irem, 1) := by decide +kernel
theorem dX1_fieldsIn_3 : decode cX1_fieldsIn 3 = .ok (.bipush 8, 2) := by decide +kernel
theorem dX1_fieldsIn_5 : decode cX1_fieldsIn 5 = .ok (.imul, 1) := by decide +kernel
theorem dX1_fieldsIn_6 : decode cX1_fieldsIn 6 = .ok (.istore_n 3, 1) := by decide +kernel
theorem dX1_fieldsIn_7 : decode cX1_fieldsIn 7 = .ok (.iload_n 1, 1) := by decide +kernel
theorem dX1_fieldsIn_8 : decode cX1_fieldsIn 8 = .ok (.iconst 4, 1) := by decide +kernel
theorem dX1_fieldsIn_9 : decode cX1_fieldsIn 9 = .ok (.idiv, 1) := by decide +kernel
theorem dX1_fieldsIn_10 : decode cX1_fieldsIn 10 = .ok (.bipush 8, 2) := by decide +kernel
theorem dX1_fieldsIn_12 : decode cX1_fieldsIn 12 = .ok (.imul, 1) := by decide +kernel
theorem dX1_fieldsIn_13 : decode cX1_fieldsIn 13 = .ok (.istore 4, 2) := by decide +kernel
theorem dX1_fieldsIn_15 : decode cX1_fieldsIn 15 = .ok (.aload_n 0, 1) := by decide +kernel
theorem dX1_fieldsIn_16 : decode cX1_fieldsIn 16 = .ok (.getfield 9, 3) := by decide +kernel
theorem dX1_fieldsIn_19 : decode cX1_fieldsIn 19 = .ok (.aload_n 0, 1) := by decide +kernel
theorem dX1_fieldsIn_20 : decode cX1_fieldsIn 20 = .ok (.getfield 18, 3) := by decide +kernel
theorem dX1_fieldsIn_23 : decode cX1_fieldsIn 23 = .ok (.iadd, 1) := by decide +kernel
theorem dX1_fieldsIn_24 : decode cX1_fieldsIn 24 = .ok (.iload_n 2, 1) := by decide +kernel
theorem dX1_fieldsIn_25 : decode cX1_fieldsIn 25 = .ok (.isub, 1) := by decide +kernel
theorem dX1_fieldsIn_26 : decode cX1_fieldsIn 26 = .ok (.iload_n 3, 1) := by decide +kernel
theorem dX1_fieldsIn_27 : decode cX1_fieldsIn 27 = .ok (.bipush 8, 2) := by decide +kernel
theorem dX1_fieldsIn_29 : decode cX1_fieldsIn 29 = .ok (.iadd, 1) := by decide +kernel
theorem dX1_fieldsIn_30 : decode cX1_fieldsIn 30 = .ok (.invokestatic 46, 3) := by decide +kernel
theorem dX1_fieldsIn_33 : decode cX1_fieldsIn 33 = .ok (.aload_n 0, 1) := by decide +kernel
theorem dX1_fieldsIn_34 : decode cX1_fieldsIn 34 = .ok (.getfield 9, 3) := by decide +kernel
theorem dX1_fieldsIn_37 : decode cX1_fieldsIn 37 = .ok (.iload_n 2, 1) := by decide +kernel
theorem dX1_fieldsIn_38 : decode cX1_fieldsIn 38 = .ok (.iadd, 1) := by decide +kernel
theorem dX1_fieldsIn_39 : decode cX1_fieldsIn 39 = .ok (.iload_n 3, 1) := by decide +kernel
theorem dX1_fieldsIn_40 : decode cX1_fieldsIn 40 = .ok (.invokestatic 51, 3) := by decide +kernel
theorem dX1_fieldsIn_43 : decode cX1_fieldsIn 43 = .ok (.isub, 1) := by decide +kernel
theorem dX1_fieldsIn_44 : decode cX1_fieldsIn 44 = .ok (.istore 5, 2) := by decide +kernel
theorem dX1_fieldsIn_46 : decode cX1_fieldsIn 46 = .ok (.aload_n 0, 1) := by decide +kernel
theorem dX1_fieldsIn_47 : decode cX1_fieldsIn 47 = .ok (.getfield 15, 3) := by decide +kernel
theorem dX1_fieldsIn_50 : decode cX1_fieldsIn 50 = .ok (.aload_n 0, 1) := by decide +kernel
theorem dX1_fieldsIn_51 : decode cX1_fieldsIn 51 = .ok (.getfield 21, 3) := by decide +kernel
theorem dX1_fieldsIn_54 : decode cX1_fieldsIn 54 = .ok (.iadd, 1) := by decide +kernel
theorem dX1_fieldsIn_55 : decode cX1_fieldsIn 55 = .ok (.iload_n 2, 1) := by decide +kernel
theorem dX1_fieldsIn_56 : decode cX1_fieldsIn 56 = .ok (.isub, 1) := by decide +kernel
theorem dX1_fieldsIn_57 : decode cX1_fieldsIn 57 = .ok (.iload 4, 2) := by decide +kernel
theorem dX1_fieldsIn_59 : decode cX1_fieldsIn 59 = .ok (.bipush 8, 2) := by decide +kernel
theorem dX1_fieldsIn_61 : decode cX1_fieldsIn 61 = .ok (.iadd, 1) := by decide +kernel
theorem dX1_fieldsIn_62 : decode cX1_fieldsIn 62 = .ok (.invokestatic 46, 3) := by decide +kernel
theorem dX1_fieldsIn_65 : decode cX1_fieldsIn 65 = .ok (.aload_n 0, 1) := by decide +kernel
theorem dX1_fieldsIn_66 : decode cX1_fieldsIn 66 = .ok (.getfield 15, 3) := by decide +kernel
theorem dX1_fieldsIn_69 : decode cX1_fieldsIn 69 = .ok (.iload_n 2, 1) := by decide +kernel
theorem dX1_fieldsIn_70 : decode cX1_fieldsIn 70 = .ok (.iadd, 1) := by decide +kernel
theorem dX1_fieldsIn_71 : decode cX1_fieldsIn 71 = .ok (.iload 4, 2) := by decide +kernel
theorem dX1_fieldsIn_73 : decode cX1_fieldsIn 73 = .ok (.invokestatic 51, 3) := by decide +kernel
theorem dX1_fieldsIn_76 : decode cX1_fieldsIn 76 = .ok (.isub, 1) := by decide +kernel
theorem dX1_fieldsIn_77 : decode cX1_fieldsIn 77 = .ok (.istore 6, 2) := by decide +kernel
theorem dX1_fieldsIn_79 : decode cX1_fieldsIn 79 = .ok (.iload 5, 2) := by decide +kernel
theorem dX1_fieldsIn_81 : decode cX1_fieldsIn 81 = .ok (.iconst 0, 1) := by decide +kernel
theorem dX1_fieldsIn_82 : decode cX1_fieldsIn 82 = .ok (.invokestatic 51, 3) := by decide +kernel
theorem dX1_fieldsIn_85 : decode cX1_fieldsIn 85 = .ok (.iload 6, 2) := by decide +kernel
theorem dX1_fieldsIn_87 : decode cX1_fieldsIn 87 = .ok (.iconst 0, 1) := by decide +kernel
theorem dX1_fieldsIn_88 : decode cX1_fieldsIn 88 = .ok (.invokestatic 51, 3) := by decide +kernel
theorem dX1_fieldsIn_91 : decode cX1_fieldsIn 91 = .ok (.imul, 1) := by decide +kernel
theorem dX1_fieldsIn_92 : decode cX1_fieldsIn 92 = .ok (.ireturn, 1) := by decide +kernel
theorem dX1_isInside_0 : decode cX1_isInside 0 = .ok (.aload_n 0, 1) := by decide +kernel
theorem dX1_isInside_1 : decode cX1_isInside 1 = .ok (.getfield 9, 3) := by decide +kernel
theorem dX1_isInside_4 : decode cX1_isInside 4 = .ok (.aload_n 1, 1) := by decide +kernel
theorem dX1_isInside_5 : decode cX1_isInside 5 = .ok (.getfield 9, 3) := by decide +kernel
theorem dX1_isInside_8 : decode cX1_isInside 8 = .ok (.if_icmp .le 60, 3) := by decide +kernel
theorem dX1_isInside_11 : decode cX1_isInside 11 = .ok (.aload_n 0, 1) := by decide +kernel
theorem dX1_isInside_12 : decode cX1_isInside 12 = .ok (.getfield 9, 3) := by decide +kernel
theorem dX1_isInside_15 : decode cX1_isInside 15 = .ok (.aload_n 0, 1) := by decide +kernel
theorem dX1_isInside_16 : decode cX1_isInside 16 = .ok (.getfield 18, 3) := by decide +kernel
theorem dX1_isInside_19 : decode cX1_isInside 19 = .ok (.iadd, 1) := by decide +kernel
theorem dX1_isInside_20 : decode cX1_isInside 20 = .ok (.aload_n 1, 1) := by decide +kernel
theorem dX1_isInside_21 : decode cX1_isInside 21 = .ok (.getfield 9, 3) := by decide +kernel
theorem dX1_isInside_24 : decode cX1_isInside 24 = .ok (.aload_n 1, 1) := by decide +kernel
theorem dX1_isInside_25 : decode cX1_isInside 25 = .ok (.getfield 18, 3) := by decide +kernel
theorem dX1_isInside_28 : decode cX1_isInside 28 = .ok (.iadd, 1) := by decide +kernel
theorem dX1_isInside_29 : decode cX1_isInside 29 = .ok (.if_icmp .ge 39, 3) := by decide +kernel
theorem dX1_isInside_32 : decode cX1_isInside 32 = .ok (.aload_n 0, 1) := by decide +kernel
theorem dX1_isInside_33 : decode cX1_isInside 33 = .ok (.getfield 15, 3) := by decide +kernel
theorem dX1_isInside_36 : decode cX1_isInside 36 = .ok (.aload_n 1, 1) := by decide +kernel
theorem dX1_isInside_37 : decode cX1_isInside 37 = .ok (.getfield 15, 3) := by decide +kernel
theorem dX1_isInside_40 : decode cX1_isInside 40 = .ok (.if_icmp .le 28, 3) := by decide +kernel
theorem dX1_isInside_43 : decode cX1_isInside 43 = .ok (.aload_n 0, 1) := by decide +kernel
theorem dX1_isInside_44 : decode cX1_isInside 44 = .ok (.getfield 15, 3) := by decide +kernel
theorem dX1_isInside_47 : decode cX1_isInside 47 = .ok (.aload_n 0, 1) := by decide +kernel
theorem dX1_isInside_48 : decode cX1_isInside 48 = .ok (.getfield 21, 3) := by decide +kernel
theorem dX1_isInside_51 : decode cX1_isInside 51 = .ok (.iadd, 1) := by decide +kernel
theorem dX1_isInside_52 : decode cX1_isInside 52 = .ok (.aload_n 1, 1) := by decide +kernel
theorem dX1_isInside_53 : decode cX1_isInside 53 = .ok (.getfield 15, 3) := by decide +kernel
theorem dX1_isInside_56 : decode cX1_isInside 56 = .ok (.aload_n 1, 1) := by decide +kernel
theorem dX1_isInside_57 : decode cX1_isInside 57 = .ok (.getfield 21, 3) := by decide +kernel
theorem dX1_isInside_60 : decode cX1_isInside 60 = .ok (.iadd, 1) := by decide +kernel
theorem dX1_isInside_61 : decode cX1_isInside 61 = .ok (.if_icmp .ge 7, 3) := by decide +kernel
theorem dX1_isInside_64 : decode cX1_isInside 64 = .ok (.iconst 1, 1) := by decide +kernel
theorem dX1_isInside_65 : decode cX1_isInside 65 = .ok (.goto 4, 3) := by decide +kernel
theorem dX1_isInside_68 : decode cX1_isInside 68 = .ok (.iconst 0, 1) := by decide +kernel
theorem dX1_isInside_69 : decode cX1_isInside 69 = .ok (.ireturn, 1) := by decide +kernel
theorem dX1_isApartFrom_0 : decode cX1_isApartFrom 0 = .ok (.aload_n 0, 1) := by decide +kernel
theorem dX1_isApartFrom_1 : decode cX1_isApartFrom 1 = .ok (.getfield 9, 3) := by decide +kernel
theorem dX1_isApartFrom_4 : decode cX1_isApartFrom 4 = .ok (.aload_n 0, 1) := by decide +kernel
theorem dX1_isApartFrom_5 : decode cX1_isApartFrom 5 = .ok (.getfield 18, 3) := by decide +kernel
theorem dX1_isApartFrom_8 : decode cX1_isApartFrom 8 = .ok (.iadd, 1) := by decide +kernel
theorem dX1_isApartFrom_9 : decode cX1_isApartFrom 9 = .ok (.aload_n 1, 1) := by decide +kernel
theorem dX1_isApartFrom_10 : decode cX1_isApartFrom 10 = .ok (.getfield 9, 3) := by decide +kernel
theorem dX1_isApartFrom_13 : decode cX1_isApartFrom 13 = .ok (.if_icmp .le 51, 3) := by decide +kernel
theorem dX1_isApartFrom_16 : decode cX1_isApartFrom 16 = .ok (.aload_n 1, 1) := by decide +kernel
theorem dX1_isApartFrom_17 : decode cX1_isApartFrom 17 = .ok (.getfield 9, 3) := by decide +kernel
theorem dX1_isApartFrom_20 : decode cX1_isApartFrom 20 = .ok (.aload_n 1, 1) := by decide +kernel
theorem dX1_isApartFrom_21 : decode cX1_isApartFrom 21 = .ok (.getfield 18, 3) := by decide +kernel
theorem dX1_isApartFrom_24 : decode cX1_isApartFrom 24 = .ok (.iadd, 1) := by decide +kernel
theorem dX1_isApartFrom_25 : decode cX1_isApartFrom 25 = .ok (.aload_n 0, 1) := by decide +kernel
theorem dX1_isApartFrom_26 : decode cX1_isApartFrom 26 = .ok (.getfield 9, 3) := by decide +kernel
theorem dX1_isApartFrom_29 : decode cX1_isApartFrom 29 = .ok (.if_icmp .le 35, 3) := by decide +kernel
theorem dX1_isApartFrom_32 : decode cX1_isApartFrom 32 = .ok (.aload_n 0, 1) := by decide +kernel
theorem dX1_isApartFrom_33 : decode cX1_isApartFrom 33 = .ok (.getfield 15, 3) := by decide +kernel
theorem dX1_isApartFrom_36 : decode cX1_isApartFrom 36 = .ok (.aload_n 0, 1) := by decide +kernel
theorem dX1_isApartFrom_37 : decode cX1_isApartFrom 37 = .ok (.getfield 21, 3) := by decide +kernel
theorem dX1_isApartFrom_40 : decode cX1_isApartFrom 40 = .ok (.iadd, 1) := by decide +kernel
theorem dX1_isApartFrom_41 : decode cX1_isApartFrom 41 = .ok (.aload_n 1, 1) := by decide +kernel
theorem dX1_isApartFrom_42 : decode cX1_isApartFrom 42 = .ok (.getfield 15, 3) := by decide +kernel
theorem dX1_isApartFrom_45 : decode cX1_isApartFrom 45 = .ok (.if_icmp .le 19, 3) := by decide +kernel
theorem dX1_isApartFrom_48 : decode cX1_isApartFrom 48 = .ok (.aload_n 1, 1) := by decide +kernel
theorem dX1_isApartFrom_49 : decode cX1_isApartFrom 49 = .ok (.getfield 15, 3) := by decide +kernel
theorem dX1_isApartFrom_52 : decode cX1_isApartFrom 52 = .ok (.aload_n 1, 1) := by decide +kernel
theorem dX1_isApartFrom_53 : decode cX1_isApartFrom 53 = .ok (.getfield 21, 3) := by decide +kernel
theorem dX1_isApartFrom_56 : decode cX1_isApartFrom 56 = .ok (.iadd, 1) := by decide +kernel
theorem dX1_isApartFrom_57 : decode cX1_isApartFrom 57 = .ok (.aload_n 0, 1) := by decide +kernel
theorem dX1_isApartFrom_58 : decode cX1_isApartFrom 58 = .ok (.getfield 15, 3) := by decide +kernel
theorem dX1_isApartFrom_61 : decode cX1_isApartFrom 61 = .ok (.if_icmp .gt 7, 3) := by decide +kernel
theorem dX1_isApartFrom_64 : decode cX1_isApartFrom 64 = .ok (.iconst 1, 1) := by decide +kernel
theorem dX1_isApartFrom_65 : decode cX1_isApartFrom 65 = .ok (.goto 4, 3) := by decide +kernel
theorem dX1_isApartFrom_68 : decode cX1_isApartFrom 68 = .ok (.iconst 0, 1) := by decide +kernel
theorem dX1_isApartFrom_69 : decode cX1_isApartFrom 69 = .ok (.ireturn, 1) := by decide +kernel
theorem dX1_edge_0 : decode cX1_edge 0 = .ok (.iconst 2, 1) := by decide +kernel
theorem dX1_edge_1 : decode cX1_edge 1 = .ok (.aload_n 0, 1) := by decide +kernel
theorem dX1_edge_2 : decode cX1_edge 2 = .ok (.getfield 18, 3) := by decide +kernel
theorem dX1_edge_5 : decode cX1_edge 5 = .ok (.aload_n 0, 1) := by decide +kernel
theorem dX1_edge_6 : decode cX1_edge 6 = .ok (.getfield 21, 3) := by decide +kernel
theorem dX1_edge_9 : decode cX1_edge 9 = .ok (.iadd, 1) := by decide +kernel
theorem dX1_edge_10 : decode cX1_edge 10 = .ok (.imul, 1) := by decide +kernel
theorem dX1_edge_11 : decode cX1_edge 11 = .ok (.iconst 4, 1) := by decide +kernel
theorem dX1_edge_12 : decode cX1_edge 12 = .ok (.isub, 1) := by decide +kernel
theorem dX1_edge_13 : decode cX1_edge 13 = .ok (.ireturn, 1) := by decide +kernel
theorem dX1_leadColumn_0 : decode cX1_leadColumn 0 = .ok (.aload_n 0, 1) := by decide +kernel
theorem dX1_leadColumn_1 : decode cX1_leadColumn 1 = .ok (.getfield 24, 3) := by decide +kernel
theorem dX1_leadColumn_4 : decode cX1_leadColumn 4 = .ok (.iconst 1, 1) := by decide +kernel
theorem dX1_leadColumn_5 : decode cX1_leadColumn 5 = .ok (.if_icmp .eq 11, 3) := by decide +kernel
theorem dX1_leadColumn_8 : decode cX1_leadColumn 8 = .ok (.aload_n 0, 1) := by decide +kernel
theorem dX1_leadColumn_9 : decode cX1_leadColumn 9 = .ok (.getfield 24, 3) := by decide +kernel
theorem dX1_leadColumn_12 : decode cX1_leadColumn 12 = .ok (.iconst 2, 1) := by decide +kernel
theorem dX1_leadColumn_13 : decode cX1_leadColumn 13 = .ok (.if_icmp .ne 17, 3) := by decide +kernel
theorem dX1_leadColumn_16 : decode cX1_leadColumn 16 = .ok (.aload_n 0, 1) := by decide +kernel
theorem dX1_leadColumn_17 : decode cX1_leadColumn 17 = .ok (.getfield 9, 3) := by decide +kernel
theorem dX1_leadColumn_20 : decode cX1_leadColumn 20 = .ok (.aload_n 0, 1) := by decide +kernel
theorem dX1_leadColumn_21 : decode cX1_leadColumn 21 = .ok (.getfield 18, 3) := by decide +kernel
theorem dX1_leadColumn_24 : decode cX1_leadColumn 24 = .ok (.iadd, 1) := by decide +kernel
theorem dX1_leadColumn_25 : decode cX1_leadColumn 25 = .ok (.iconst 1, 1) := by decide +kernel
theorem dX1_leadColumn_26 : decode cX1_leadColumn 26 = .ok (.isub, 1) := by decide +kernel
theorem dX1_leadColumn_27 : decode cX1_leadColumn 27 = .ok (.goto 7, 3) := by decide +kernel
theorem dX1_leadColumn_30 : decode cX1_leadColumn 30 = .ok (.aload_n 0, 1) := by decide +kernel
theorem dX1_leadColumn_31 : decode cX1_leadColumn 31 = .ok (.getfield 9, 3) := by decide +kernel
theorem dX1_leadColumn_34 : decode cX1_leadColumn 34 = .ok (.ireturn, 1) := by decide +kernel
theorem dX1_leadRow_0 : decode cX1_leadRow 0 = .ok (.aload_n 0, 1) := by decide +kernel
theorem dX1_leadRow_1 : decode cX1_leadRow 1 = .ok (.getfield 24, 3) := by decide +kernel
theorem dX1_leadRow_4 : decode cX1_leadRow 4 = .ok (.iconst 2, 1) := by decide +kernel
theorem dX1_leadRow_5 : decode cX1_leadRow 5 = .ok (.if_icmp .eq 11, 3) := by decide +kernel
theorem dX1_leadRow_8 : decode cX1_leadRow 8 = .ok (.aload_n 0, 1) := by decide +kernel
theorem dX1_leadRow_9 : decode cX1_leadRow 9 = .ok (.getfield 24, 3) := by decide +kernel
theorem dX1_leadRow_12 : decode cX1_leadRow 12 = .ok (.iconst 3, 1) := by decide +kernel
theorem dX1_leadRow_13 : decode cX1_leadRow 13 = .ok (.if_icmp .ne 17, 3) := by decide +kernel
theorem dX1_leadRow_16 : decode cX1_leadRow 16 = .ok (.aload_n 0, 1) := by decide +kernel
theorem dX1_leadRow_17 : decode cX1_leadRow 17 = .ok (.getfield 15, 3) := by decide +kernel
theorem dX1_leadRow_20 : decode cX1_leadRow 20 = .ok (.aload_n 0, 1) := by decide +kernel
theorem dX1_leadRow_21 : decode cX1_leadRow 21 = .ok (.getfield 21, 3) := by decide +kernel
theorem dX1_leadRow_24 : decode cX1_leadRow 24 = .ok (.iadd, 1) := by decide +kernel
theorem dX1_leadRow_25 : decode cX1_leadRow 25 = .ok (.iconst 1, 1) := by decide +kernel
theorem dX1_leadRow_26 : decode cX1_leadRow 26 = .ok (.isub, 1) := by decide +kernel
theorem dX1_leadRow_27 : decode cX1_leadRow 27 = .ok (.goto 7, 3) := by decide +kernel
theorem dX1_leadRow_30 : decode cX1_leadRow 30 = .ok (.aload_n 0, 1) := by decide +kernel
theorem dX1_leadRow_31 : decode cX1_leadRow 31 = .ok (.getfield 15, 3) := by decide +kernel
theorem dX1_leadRow_34 : decode cX1_leadRow 34 = .ok (.ireturn, 1) := by decide +kernel
theorem dX1_leadSquare_0 : decode cX1_leadSquare 0 = .ok (.aload_n 0, 1) := by decide +kernel
theorem dX1_leadSquare_1 : decode cX1_leadSquare 1 = .ok (.invokevirtual 54, 3) := by decide +kernel
theorem dX1_leadSquare_4 : decode cX1_leadSquare 4 = .ok (.bipush 8, 2) := by decide +kernel
theorem dX1_leadSquare_6 : decode cX1_leadSquare 6 = .ok (.idiv, 1) := by decide +kernel
theorem dX1_leadSquare_7 : decode cX1_leadSquare 7 = .ok (.iconst 4, 1) := by decide +kernel
theorem dX1_leadSquare_8 : decode cX1_leadSquare 8 = .ok (.aload_n 0, 1) := by decide +kernel
theorem dX1_leadSquare_9 : decode cX1_leadSquare 9 = .ok (.invokevirtual 58, 3) := by decide +kernel
theorem dX1_leadSquare_12 : decode cX1_leadSquare 12 = .ok (.bipush 8, 2) := by decide +kernel
theorem dX1_leadSquare_14 : decode cX1_leadSquare 14 = .ok (.idiv, 1) := by decide +kernel
theorem dX1_leadSquare_15 : decode cX1_leadSquare 15 = .ok (.imul, 1) := by decide +kernel
theorem dX1_leadSquare_16 : decode cX1_leadSquare 16 = .ok (.iadd, 1) := by decide +kernel
theorem dX1_leadSquare_17 : decode cX1_leadSquare 17 = .ok (.ireturn, 1) := by decide +kernel
theorem dX2_init_0 : decode cX2_init 0 = .ok (.aload_n 0, 1) := by decide +kernel
theorem dX2_init_1 : decode cX2_init 1 = .ok (.invokespecial 3, 3) := by decide +kernel
theorem dX2_init_4 : decode cX2_init 4 = .ok (.aload_n 0, 1) := by decide +kernel
theorem dX2_init_5 : decode cX2_init 5 = .ok (.bipush 13, 2) := by decide +kernel
theorem dX2_init_7 : decode cX2_init 7 = .ok (.anewarray 11, 3) := by decide +kernel
theorem dX2_init_10 : decode cX2_init 10 = .ok (.putfield 13, 3) := by decide +kernel
theorem dX2_init_13 : decode cX2_init 13 = .ok (.iconst 0, 1) := by decide +kernel
theorem dX2_init_14 : decode cX2_init 14 = .ok (.istore_n 1, 1) := by decide +kernel
theorem dX2_init_15 : decode cX2_init 15 = .ok (.iload_n 1, 1) := by decide +kernel
theorem dX2_init_16 : decode cX2_init 16 = .ok (.bipush 12, 2) := by decide +kernel
theorem dX2_init_18 : decode cX2_init 18 = .ok (.if_icmp .gt 22, 3) := by decide +kernel
theorem dX2_init_21 : decode cX2_init 21 = .ok (.aload_n 0, 1) := by decide +kernel
theorem dX2_init_22 : decode cX2_init 22 = .ok (.getfield 13, 3) := by decide +kernel
theorem dX2_init_25 : decode cX2_init 25 = .ok (.iload_n 1, 1) := by decide +kernel
theorem dX2_init_26 : decode cX2_init 26 = .ok (.new 11, 3) := by decide +kernel
theorem dX2_init_29 : decode cX2_init 29 = .ok (.dup, 1) := by decide +kernel
theorem dX2_init_30 : decode cX2_init 30 = .ok (.invokespecial 17, 3) := by decide +kernel
theorem dX2_init_33 : decode cX2_init 33 = .ok (.aastore, 1) := by decide +kernel
theorem dX2_init_34 : decode cX2_init 34 = .ok (.iinc 1 1, 3) := by decide +kernel
theorem dX2_init_37 : decode cX2_init 37 = .ok (.goto (-22), 3) := by decide +kernel
theorem dX2_init_40 : decode cX2_init 40 = .ok (.aload_n 0, 1) := by decide +kernel
theorem dX2_init_41 : decode cX2_init 41 = .ok (.bipush 12, 2) := by decide +kernel
theorem dX2_init_43 : decode cX2_init 43 = .ok (.newarray .int, 2) := by decide +kernel
theorem dX2_init_45 : decode cX2_init 45 = .ok (.putfield 18, 3) := by decide +kernel
theorem dX2_init_48 : decode cX2_init 48 = .ok (.aload_n 0, 1) := by decide +kernel
theorem dX2_init_49 : decode cX2_init 49 = .ok (.iconst 4, 1) := by decide +kernel
theorem dX2_init_50 : decode cX2_init 50 = .ok (.newarray .int, 2) := by decide +kernel
theorem dX2_init_52 : decode cX2_init 52 = .ok (.putfield 22, 3) := by decide +kernel
theorem dX2_init_55 : decode cX2_init 55 = .ok (.aload_n 0, 1) := by decide +kernel
theorem dX2_init_56 : decode cX2_init 56 = .ok (.getfield 22, 3) := by decide +kernel
theorem dX2_init_59 : decode cX2_init 59 = .ok (.iconst 0, 1) := by decide +kernel
theorem dX2_init_60 : decode cX2_init 60 = .ok (.bipush 20, 2) := by decide +kernel
theorem dX2_init_62 : decode cX2_init 62 = .ok (.iastore, 1) := by decide +kernel
theorem dX2_init_63 : decode cX2_init 63 = .ok (.aload_n 0, 1) := by decide +kernel
theorem dX2_init_64 : decode cX2_init 64 = .ok (.getfield 22, 3) := by decide +kernel
theorem dX2_init_67 : decode cX2_init 67 = .ok (.iconst 1, 1) := by decide +kernel
theorem dX2_init_68 : decode cX2_init 68 = .ok (.iconst 1, 1) := by decide +kernel
theorem dX2_init_69 : decode cX2_init 69 = .ok (.iastore, 1) := by decide +kernel
theorem dX2_init_70 : decode cX2_init 70 = .ok (.aload_n 0, 1) := by decide +kernel
theorem dX2_init_71 : decode cX2_init 71 = .ok (.getfield 22, 3) := by decide +kernel
theorem dX2_init_74 : decode cX2_init 74 = .ok (.iconst 2, 1) := by decide +kernel
theorem dX2_init_75 : decode cX2_init 75 = .ok (.sipush 150, 3) := by decide +kernel
theorem dX2_init_78 : decode cX2_init 78 = .ok (.iastore, 1) := by decide +kernel
theorem dX2_init_79 : decode cX2_init 79 = .ok (.aload_n 0, 1) := by decide +kernel
theorem dX2_init_80 : decode cX2_init 80 = .ok (.getfield 22, 3) := by decide +kernel
theorem dX2_init_83 : decode cX2_init 83 = .ok (.iconst 3, 1) := by decide +kernel
theorem dX2_init_84 : decode cX2_init 84 = .ok (.iconst 1, 1) := by decide +kernel
theorem dX2_init_85 : decode cX2_init 85 = .ok (.iastore, 1) := by decide +kernel
theorem dX2_init_86 : decode cX2_init 86 = .ok (.aload_n 0, 1) := by decide +kernel
theorem dX2_init_87 : decode cX2_init 87 = .ok (.iconst 0, 1) := by decide +kernel
theorem dX2_init_88 : decode cX2_init 88 = .ok (.putfield 25, 3) := by decide +kernel
theorem dX2_init_91 : decode cX2_init 91 = .ok (.aload_n 0, 1) := by decide +kernel
theorem dX2_init_92 : decode cX2_init 92 = .ok (.iconst 0, 1) := by decide +kernel
theorem dX2_init_93 : decode cX2_init 93 = .ok (.putfield 29, 3) := by decide +kernel
theorem dX2_init_96 : decode cX2_init 96 = .ok (.aload_n 0, 1) := by decide +kernel
theorem dX2_init_97 : decode cX2_init 97 = .ok (.iconst 0, 1) := by decide +kernel
theorem dX2_init_98 : decode cX2_init 98 = .ok (.putfield 32, 3) := by decide +kernel
theorem dX2_init_101 : decode cX2_init 101 = .ok (.aload_n 0, 1) := by decide +kernel
theorem dX2_init_102 : decode cX2_init 102 = .ok (.iconst 0, 1) := by decide +kernel
theorem dX2_init_103 : decode cX2_init 103 = .ok (.putfield 35, 3) := by decide +kernel
theorem dX2_init_106 : decode cX2_init 106 = .ok (.aload_n 0, 1) := by decide +kernel
theorem dX2_init_107 : decode cX2_init 107 = .ok (.iconst 0, 1) := by decide +kernel
theorem dX2_init_108 : decode cX2_init 108 = .ok (.putfield 38, 3) := by decide +kernel
theorem dX2_init_111 : decode cX2_init 111 = .ok (.aload_n 0, 1) := by decide +kernel
theorem dX2_init_112 : decode cX2_init 112 = .ok (.iconst 0, 1) := by decide +kernel
theorem dX2_init_113 : decode cX2_init 113 = .ok (.putfield 41, 3) := by decide +kernel
theorem dX2_init_116 : decode cX2_init 116 = .ok (.aload_n 0, 1) := by decide +kernel
theorem dX2_init_117 : decode cX2_init 117 = .ok (.iconst 0, 1) := by decide +kernel
theorem dX2_init_118 : decode cX2_init 118 = .ok (.putfield 44, 3) := by decide +kernel
theorem dX2_init_121 : decode cX2_init 121 = .ok (.return_, 1) := by decide +kernel
theorem dX2_copyFrom_0 : decode cX2_copyFrom 0 = .ok (.iconst 0, 1) := by decide +kernel
theorem dX2_copyFrom_1 : decode cX2_copyFrom 1 = .ok (.istore_n 2, 1) := by decide +kernel
theorem dX2_copyFrom_2 : decode cX2_copyFrom 2 = .ok (.iload_n 2, 1) := by decide +kernel
theorem dX2_copyFrom_3 : decode cX2_copyFrom 3 = .ok (.aload_n 1, 1) := by decide +kernel
theorem dX2_copyFrom_4 : decode cX2_copyFrom 4 = .ok (.getfield 25, 3) := by decide +kernel
theorem dX2_copyFrom_7 : decode cX2_copyFrom 7 = .ok (.if_icmp .ge 24, 3) := by decide +kernel
theorem dX2_copyFrom_10 : decode cX2_copyFrom 10 = .ok (.aload_n 0, 1) := by decide +kernel
theorem dX2_copyFrom_11 : decode cX2_copyFrom 11 = .ok (.getfield 13, 3) := by decide +kernel
theorem dX2_copyFrom_14 : decode cX2_copyFrom 14 = .ok (.iload_n 2, 1) := by decide +kernel
theorem dX2_copyFrom_15 : decode cX2_copyFrom 15 = .ok (.aaload, 1) := by decide +kernel
theorem dX2_copyFrom_16 : decode cX2_copyFrom 16 = .ok (.aload_n 1, 1) := by decide +kernel
theorem dX2_copyFrom_17 : decode cX2_copyFrom 17 = .ok (.getfield 13, 3) := by decide +kernel
theorem dX2_copyFrom_20 : decode cX2_copyFrom 20 = .ok (.iload_n 2, 1) := by decide +kernel
theorem dX2_copyFrom_21 : decode cX2_copyFrom 21 = .ok (.aaload, 1) := by decide +kernel
theorem dX2_copyFrom_22 : decode cX2_copyFrom 22 = .ok (.invokevirtual 47, 3) := by decide +kernel
theorem dX2_copyFrom_25 : decode cX2_copyFrom 25 = .ok (.iinc 2 1, 3) := by decide +kernel
theorem dX2_copyFrom_28 : decode cX2_copyFrom 28 = .ok (.goto (-26), 3) := by decide +kernel
theorem dX2_copyFrom_31 : decode cX2_copyFrom 31 = .ok (.iconst 0, 1) := by decide +kernel
theorem dX2_copyFrom_32 : decode cX2_copyFrom 32 = .ok (.istore_n 2, 1) := by decide +kernel
theorem dX2_copyFrom_33 : decode cX2_copyFrom 33 = .ok (.iload_n 2, 1) := by decide +kernel
theorem dX2_copyFrom_34 : decode cX2_copyFrom 34 = .ok (.bipush 12, 2) := by decide +kernel
theorem dX2_copyFrom_36 : decode cX2_copyFrom 36 = .ok (.if_icmp .ge 21, 3) := by decide +kernel
theorem dX2_copyFrom_39 : decode cX2_copyFrom 39 = .ok (.aload_n 0, 1) := by decide +kernel
theorem dX2_copyFrom_40 : decode cX2_copyFrom 40 = .ok (.getfield 18, 3) := by decide +kernel
theorem dX2_copyFrom_43 : decode cX2_copyFrom 43 = .ok (.iload_n 2, 1) := by decide +kernel
theorem dX2_copyFrom_44 : decode cX2_copyFrom 44 = .ok (.aload_n 1, 1) := by decide +kernel
theorem dX2_copyFrom_45 : decode cX2_copyFrom 45 = .ok (.getfield 18, 3) := by decide +kernel
theorem dX2_copyFrom_48 : decode cX2_copyFrom 48 = .ok (.iload_n 2, 1) := by decide +kernel
theorem dX2_copyFrom_49 : decode cX2_copyFrom 49 = .ok (.iaload, 1) := by decide +kernel
theorem dX2_copyFrom_50 : decode cX2_copyFrom 50 = .ok (.iastore, 1) := by decide +kernel
theorem dX2_copyFrom_51 : decode cX2_copyFrom 51 = .ok (.iinc 2 1, 3) := by decide +kernel
theorem dX2_copyFrom_54 : decode cX2_copyFrom 54 = .ok (.goto (-21), 3) := by decide +kernel
theorem dX2_copyFrom_57 : decode cX2_copyFrom 57 = .ok (.iconst 0, 1) := by decide +kernel
theorem dX2_copyFrom_58 : decode cX2_copyFrom 58 = .ok (.istore_n 2, 1) := by decide +kernel
theorem dX2_copyFrom_59 : decode cX2_copyFrom 59 = .ok (.iload_n 2, 1) := by decide +kernel
theorem dX2_copyFrom_60 : decode cX2_copyFrom 60 = .ok (.iconst 4, 1) := by decide +kernel
theorem dX2_copyFrom_61 : decode cX2_copyFrom 61 = .ok (.if_icmp .ge 21, 3) := by decide +kernel
theorem dX2_copyFrom_64 : decode cX2_copyFrom 64 = .ok (.aload_n 0, 1) := by decide +kernel
theorem dX2_copyFrom_65 : decode cX2_copyFrom 65 = .ok (.getfield 22, 3) := by decide +kernel
theorem dX2_copyFrom_68 : decode cX2_copyFrom 68 = .ok (.iload_n 2, 1) := by decide +kernel
theorem dX2_copyFrom_69 : decode cX2_copyFrom 69 = .ok (.aload_n 1, 1) := by decide +kernel
theorem dX2_copyFrom_70 : decode cX2_copyFrom 70 = .ok (.getfield 22, 3) := by decide +kernel
theorem dX2_copyFrom_73 : decode cX2_copyFrom 73 = .ok (.iload_n 2, 1) := by decide +kernel
theorem dX2_copyFrom_74 : decode cX2_copyFrom 74 = .ok (.iaload, 1) := by decide +kernel
theorem dX2_copyFrom_75 : decode cX2_copyFrom 75 = .ok (.iastore, 1) := by decide +kernel
theorem dX2_copyFrom_76 : decode cX2_copyFrom 76 = .ok (.iinc 2 1, 3) := by decide +kernel
theorem dX2_copyFrom_79 : decode cX2_copyFrom 79 = .ok (.goto (-20), 3) := by decide +kernel
theorem dX2_copyFrom_82 : decode cX2_copyFrom 82 = .ok (.aload_n 0, 1) := by decide +kernel
theorem dX2_copyFrom_83 : decode cX2_copyFrom 83 = .ok (.aload_n 1, 1) := by decide +kernel
theorem dX2_copyFrom_84 : decode cX2_copyFrom 84 = .ok (.getfield 25, 3) := by decide +kernel
theorem dX2_copyFrom_87 : decode cX2_copyFrom 87 = .ok (.putfield 25, 3) := by decide +kernel
theorem dX2_copyFrom_90 : decode cX2_copyFrom 90 = .ok (.aload_n 0, 1) := by decide +kernel
theorem dX2_copyFrom_91 : decode cX2_copyFrom 91 = .ok (.aload_n 1, 1) := by decide +kernel
theorem dX2_copyFrom_92 : decode cX2_copyFrom 92 = .ok (.getfield 29, 3) := by decide +kernel
theorem dX2_copyFrom_95 : decode cX2_copyFrom 95 = .ok (.putfield 29, 3) := by decide +kernel
theorem dX2_copyFrom_98 : decode cX2_copyFrom 98 = .ok (.aload_n 0, 1) := by decide +kernel
theorem dX2_copyFrom_99 : decode cX2_copyFrom 99 = .ok (.aload_n 1, 1) := by decide +kernel
theorem dX2_copyFrom_100 : decode cX2_copyFrom 100 = .ok (.getfield 32, 3) := by decide +kernel
theorem dX2_copyFrom_103 : decode cX2_copyFrom 103 = .ok (.putfield 32, 3) := by decide +kernel
theorem dX2_copyFrom_106 : decode cX2_copyFrom 106 = .ok (.aload_n 0, 1) := by decide +kernel
theorem dX2_copyFrom_107 : decode cX2_copyFrom 107 = .ok (.aload_n 1, 1) := by decide +kernel
theorem dX2_copyFrom_108 : decode cX2_copyFrom 108 = .ok (.getfield 35, 3) := by decide +kernel
theorem dX2_copyFrom_111 : decode cX2_copyFrom 111 = .ok (.putfield 35, 3) := by decide +kernel
theorem dX2_copyFrom_114 : decode cX2_copyFrom 114 = .ok (.aload_n 0, 1) := by decide +kernel
theorem dX2_copyFrom_115 : decode cX2_copyFrom 115 = .ok (.aload_n 1, 1) := by decide +kernel
theorem dX2_copyFrom_116 : decode cX2_copyFrom 116 = .ok (.getfield 38, 3) := by decide +kernel
theorem dX2_copyFrom_119 : decode cX2_copyFrom 119 = .ok (.putfield 38, 3) := by decide +kernel
theorem dX2_copyFrom_122 : decode cX2_copyFrom 122 = .ok (.aload_n 0, 1) := by decide +kernel
theorem dX2_copyFrom_123 : decode cX2_copyFrom 123 = .ok (.aload_n 1, 1) := by decide +kernel
theorem dX2_copyFrom_124 : decode cX2_copyFrom 124 = .ok (.getfield 41, 3) := by decide +kernel
theorem dX2_copyFrom_127 : decode cX2_copyFrom 127 = .ok (.putfield 41, 3) := by decide +kernel
theorem dX2_copyFrom_130 : decode cX2_copyFrom 130 = .ok (.aload_n 0, 1) := by decide +kernel
theorem dX2_copyFrom_131 : decode cX2_copyFrom 131 = .ok (.aload_n 1, 1) := by decide +kernel
theorem dX2_copyFrom_132 : decode cX2_copyFrom 132 = .ok (.getfield 44, 3) := by decide +kernel
theorem dX2_copyFrom_135 : decode cX2_copyFrom 135 = .ok (.putfield 44, 3) := by decide +kernel
theorem dX2_copyFrom_138 : decode cX2_copyFrom 138 = .ok (.return_, 1) := by decide +kernel
theorem dX2_knows_0 : decode cX2_knows 0 = .ok (.iload_n 1, 1) := by decide +kernel
theorem dX2_knows_1 : decode cX2_knows 1 = .ok (.ifCond .lt 21, 3) := by decide +kernel
theorem dX2_knows_4 : decode cX2_knows 4 = .ok (.iload_n 1, 1) := by decide +kernel
theorem dX2_knows_5 : decode cX2_knows 5 = .ok (.aload_n 0, 1) := by decide +kernel
theorem dX2_knows_6 : decode cX2_knows 6 = .ok (.getfield 25, 3) := by decide +kernel
theorem dX2_knows_9 : decode cX2_knows 9 = .ok (.if_icmp .ge 13, 3) := by decide +kernel
theorem dX2_knows_12 : decode cX2_knows 12 = .ok (.iload_n 1, 1) := by decide +kernel
theorem dX2_knows_13 : decode cX2_knows 13 = .ok (.bipush 12, 2) := by decide +kernel
theorem dX2_knows_15 : decode cX2_knows 15 = .ok (.if_icmp .ge 7, 3) := by decide +kernel
theorem dX2_knows_18 : decode cX2_knows 18 = .ok (.iconst 1, 1) := by decide +kernel
theorem dX2_knows_19 : decode cX2_knows 19 = .ok (.goto 4, 3) := by decide +kernel
theorem dX2_knows_22 : decode cX2_knows 22 = .ok (.iconst 0, 1) := by decide +kernel
theorem dX2_knows_23 : decode cX2_knows 23 = .ok (.ireturn, 1) := by decide +kernel
theorem dX2_addShape_0 : decode cX2_addShape 0 = .ok (.iload_n 1, 1) := by decide +kernel
theorem dX2_addShape_1 : decode cX2_addShape 1 = .ok (.iconst 0, 1) := by decide +kernel
theorem dX2_addShape_2 : decode cX2_addShape 2 = .ok (.bipush 31, 2) := by decide +kernel
theorem dX2_addShape_4 : decode cX2_addShape 4 = .ok (.invokestatic 51, 3) := by decide +kernel
theorem dX2_addShape_7 : decode cX2_addShape 7 = .ok (.ifCond .eq 51, 3) := by decide +kernel
theorem dX2_addShape_10 : decode cX2_addShape 10 = .ok (.iload_n 2, 1) := by decide +kernel
theorem dX2_addShape_11 : decode cX2_addShape 11 = .ok (.iconst 0, 1) := by decide +kernel
theorem dX2_addShape_12 : decode cX2_addShape 12 = .ok (.bipush 23, 2) := by decide +kernel
theorem dX2_addShape_14 : decode cX2_addShape 14 = .ok (.invokestatic 51, 3) := by decide +kernel
theorem dX2_addShape_17 : decode cX2_addShape 17 = .ok (.ifCond .eq 41, 3) := by decide +kernel
theorem dX2_addShape_20 : decode cX2_addShape 20 = .ok (.iload_n 3, 1) := by decide +kernel
theorem dX2_addShape_21 : decode cX2_addShape 21 = .ok (.iconst 2, 1) := by decide +kernel
theorem dX2_addShape_22 : decode cX2_addShape 22 = .ok (.bipush 32, 2) := by decide +kernel
theorem dX2_addShape_24 : decode cX2_addShape 24 = .ok (.invokestatic 51, 3) := by decide +kernel
theorem dX2_addShape_27 : decode cX2_addShape 27 = .ok (.ifCond .eq 31, 3) := by decide +kernel
theorem dX2_addShape_30 : decode cX2_addShape 30 = .ok (.iload 4, 2) := by decide +kernel
theorem dX2_addShape_32 : decode cX2_addShape 32 = .ok (.iconst 2, 1) := by decide +kernel
theorem dX2_addShape_33 : decode cX2_addShape 33 = .ok (.bipush 24, 2) := by decide +kernel
theorem dX2_addShape_35 : decode cX2_addShape 35 = .ok (.invokestatic 51, 3) := by decide +kernel
theorem dX2_addShape_38 : decode cX2_addShape 38 = .ok (.ifCond .eq 20, 3) := by decide +kernel
theorem dX2_addShape_41 : decode cX2_addShape 41 = .ok (.iload_n 1, 1) := by decide +kernel
theorem dX2_addShape_42 : decode cX2_addShape 42 = .ok (.iload_n 3, 1) := by decide +kernel
theorem dX2_addShape_43 : decode cX2_addShape 43 = .ok (.iadd, 1) := by decide +kernel
theorem dX2_addShape_44 : decode cX2_addShape 44 = .ok (.bipush 32, 2) := by decide +kernel
theorem dX2_addShape_46 : decode cX2_addShape 46 = .ok (.if_icmp .gt 12, 3) := by decide +kernel
theorem dX2_addShape_49 : decode cX2_addShape 49 = .ok (.iload_n 2, 1) := by decide +kernel
theorem dX2_addShape_50 : decode cX2_addShape 50 = .ok (.iload 4, 2) := by decide +kernel
theorem dX2_addShape_52 : decode cX2_addShape 52 = .ok (.iadd, 1) := by decide +kernel
theorem dX2_addShape_53 : decode cX2_addShape 53 = .ok (.bipush 24, 2) := by decide +kernel
theorem dX2_addShape_55 : decode cX2_addShape 55 = .ok (.if_icmp .le 6, 3) := by decide +kernel
theorem dX2_addShape_58 : decode cX2_addShape 58 = .ok (.bipush (-2), 2) := by decide +kernel
theorem dX2_addShape_60 : decode cX2_addShape 60 = .ok (.ireturn, 1) := by decide +kernel
theorem dX2_addShape_61 : decode cX2_addShape 61 = .ok (.aload_n 0, 1) := by decide +kernel
theorem dX2_addShape_62 : decode cX2_addShape 62 = .ok (.getfield 13, 3) := by decide +kernel
theorem dX2_addShape_65 : decode cX2_addShape 65 = .ok (.aload_n 0, 1) := by decide +kernel
theorem dX2_addShape_66 : decode cX2_addShape 66 = .ok (.getfield 25, 3) := by decide +kernel
theorem dX2_addShape_69 : decode cX2_addShape 69 = .ok (.aaload, 1) := by decide +kernel
theorem dX2_addShape_70 : decode cX2_addShape 70 = .ok (.astore 5, 2) := by decide +kernel
theorem dX2_addShape_72 : decode cX2_addShape 72 = .ok (.aload 5, 2) := by decide +kernel
theorem dX2_addShape_74 : decode cX2_addShape 74 = .ok (.iload_n 1, 1) := by decide +kernel
theorem dX2_addShape_75 : decode cX2_addShape 75 = .ok (.iload_n 2, 1) := by decide +kernel
theorem dX2_addShape_76 : decode cX2_addShape 76 = .ok (.iload_n 3, 1) := by decide +kernel
theorem dX2_addShape_77 : decode cX2_addShape 77 = .ok (.iload 4, 2) := by decide +kernel
theorem dX2_addShape_79 : decode cX2_addShape 79 = .ok (.invokevirtual 55, 3) := by decide +kernel
theorem dX2_addShape_82 : decode cX2_addShape 82 = .ok (.aload_n 0, 1) := by decide +kernel
theorem dX2_addShape_83 : decode cX2_addShape 83 = .ok (.aload 5, 2) := by decide +kernel
theorem dX2_addShape_85 : decode cX2_addShape 85 = .ok (.invokevirtual 59, 3) := by decide +kernel
theorem dX2_addShape_88 : decode cX2_addShape 88 = .ok (.ifCond .ne 6, 3) := by decide +kernel
theorem dX2_addShape_91 : decode cX2_addShape 91 = .ok (.bipush (-4), 2) := by decide +kernel
theorem dX2_addShape_93 : decode cX2_addShape 93 = .ok (.ireturn, 1) := by decide +kernel
theorem dX2_addShape_94 : decode cX2_addShape 94 = .ok (.aload_n 0, 1) := by decide +kernel
theorem dX2_addShape_95 : decode cX2_addShape 95 = .ok (.getfield 25, 3) := by decide +kernel
theorem dX2_addShape_98 : decode cX2_addShape 98 = .ok (.bipush 12, 2) := by decide +kernel
theorem dX2_addShape_100 : decode cX2_addShape 100 = .ok (.if_icmp .lt 6, 3) := by decide +kernel
theorem dX2_addShape_103 : decode cX2_addShape 103 = .ok (.bipush (-3), 2) := by decide +kernel
theorem dX2_addShape_105 : decode cX2_addShape 105 = .ok (.ireturn, 1) := by decide +kernel
theorem dX2_addShape_106 : decode cX2_addShape 106 = .ok (.aload_n 0, 1) := by decide +kernel
theorem dX2_addShape_107 : decode cX2_addShape 107 = .ok (.dup, 1) := by decide +kernel
theorem dX2_addShape_108 : decode cX2_addShape 108 = .ok (.getfield 25, 3) := by decide +kernel
theorem dX2_addShape_111 : decode cX2_addShape 111 = .ok (.iconst 1, 1) := by decide +kernel
theorem dX2_addShape_112 : decode cX2_addShape 112 = .ok (.iadd, 1) := by decide +kernel
theorem dX2_addShape_113 : decode cX2_addShape 113 = .ok (.putfield 25, 3) := by decide +kernel
theorem dX2_addShape_116 : decode cX2_addShape 116 = .ok (.aload_n 0, 1) := by decide +kernel
theorem dX2_addShape_117 : decode cX2_addShape 117 = .ok (.getfield 25, 3) := by decide +kernel
theorem dX2_addShape_120 : decode cX2_addShape 120 = .ok (.iconst 1, 1) := by decide +kernel
theorem dX2_addShape_121 : decode cX2_addShape 121 = .ok (.isub, 1) := by decide +kernel
theorem dX2_addShape_122 : decode cX2_addShape 122 = .ok (.ireturn, 1) := by decide +kernel
theorem dX2_fits_0 : decode cX2_fits 0 = .ok (.iconst 0, 1) := by decide +kernel
theorem dX2_fits_1 : decode cX2_fits 1 = .ok (.istore_n 2, 1) := by decide +kernel
theorem dX2_fits_2 : decode cX2_fits 2 = .ok (.iload_n 2, 1) := by decide +kernel
theorem dX2_fits_3 : decode cX2_fits 3 = .ok (.aload_n 0, 1) := by decide +kernel
theorem dX2_fits_4 : decode cX2_fits 4 = .ok (.getfield 25, 3) := by decide +kernel
theorem dX2_fits_7 : decode cX2_fits 7 = .ok (.if_icmp .ge 64, 3) := by decide +kernel
theorem dX2_fits_10 : decode cX2_fits 10 = .ok (.aload_n 0, 1) := by decide +kernel
theorem dX2_fits_11 : decode cX2_fits 11 = .ok (.getfield 13, 3) := by decide +kernel
theorem dX2_fits_14 : decode cX2_fits 14 = .ok (.iload_n 2, 1) := by decide +kernel
theorem dX2_fits_15 : decode cX2_fits 15 = .ok (.aaload, 1) := by decide +kernel
theorem dX2_fits_16 : decode cX2_fits 16 = .ok (.astore_n 3, 1) := by decide +kernel
theorem dX2_fits_17 : decode cX2_fits 17 = .ok (.aload_n 1, 1) := by decide +kernel
theorem dX2_fits_18 : decode cX2_fits 18 = .ok (.aload_n 3, 1) := by decide +kernel
theorem dX2_fits_19 : decode cX2_fits 19 = .ok (.invokevirtual 63, 3) := by decide +kernel
theorem dX2_fits_22 : decode cX2_fits 22 = .ok (.ifCond .ne 11, 3) := by decide +kernel
theorem dX2_fits_25 : decode cX2_fits 25 = .ok (.aload_n 3, 1) := by decide +kernel
theorem dX2_fits_26 : decode cX2_fits 26 = .ok (.aload_n 1, 1) := by decide +kernel
theorem dX2_fits_27 : decode cX2_fits 27 = .ok (.invokevirtual 63, 3) := by decide +kernel
theorem dX2_fits_30 : decode cX2_fits 30 = .ok (.ifCond .eq 7, 3) := by decide +kernel
theorem dX2_fits_33 : decode cX2_fits 33 = .ok (.iconst 1, 1) := by decide +kernel
theorem dX2_fits_34 : decode cX2_fits 34 = .ok (.goto 4, 3) := by decide +kernel
theorem dX2_fits_37 : decode cX2_fits 37 = .ok (.iconst 0, 1) := by decide +kernel
theorem dX2_fits_38 : decode cX2_fits 38 = .ok (.istore 4, 2) := by decide +kernel
theorem dX2_fits_40 : decode cX2_fits 40 = .ok (.iload 4, 2) := by decide +kernel
theorem dX2_fits_42 : decode cX2_fits 42 = .ok (.ifCond .eq 13, 3) := by decide +kernel
theorem dX2_fits_45 : decode cX2_fits 45 = .ok (.aload_n 3, 1) := by decide +kernel
theorem dX2_fits_46 : decode cX2_fits 46 = .ok (.getfield 66, 3) := by decide +kernel
theorem dX2_fits_49 : decode cX2_fits 49 = .ok (.ifCond .eq 16, 3) := by decide +kernel
theorem dX2_fits_52 : decode cX2_fits 52 = .ok (.goto 11, 3) := by decide +kernel
theorem dX2_fits_55 : decode cX2_fits 55 = .ok (.aload_n 1, 1) := by decide +kernel
theorem dX2_fits_56 : decode cX2_fits 56 = .ok (.aload_n 3, 1) := by decide +kernel
theorem dX2_fits_57 : decode cX2_fits 57 = .ok (.invokevirtual 69, 3) := by decide +kernel
theorem dX2_fits_60 : decode cX2_fits 60 = .ok (.ifCond .ne 5, 3) := by decide +kernel
theorem dX2_fits_63 : decode cX2_fits 63 = .ok (.iconst 0, 1) := by decide +kernel
theorem dX2_fits_64 : decode cX2_fits 64 = .ok (.ireturn, 1) := by decide +kernel
theorem dX2_fits_65 : decode cX2_fits 65 = .ok (.iinc 2 1, 3) := by decide +kernel
theorem dX2_fits_68 : decode cX2_fits 68 = .ok (.goto (-66), 3) := by decide +kernel
theorem dX2_fits_71 : decode cX2_fits 71 = .ok (.iconst 1, 1) := by decide +kernel
theorem dX2_fits_72 : decode cX2_fits 72 = .ok (.ireturn, 1) := by decide +kernel
theorem dX2_changeLead_0 : decode cX2_changeLead 0 = .ok (.aload_n 0, 1) := by decide +kernel
theorem dX2_changeLead_1 : decode cX2_changeLead 1 = .ok (.iload_n 1, 1) := by decide +kernel
theorem dX2_changeLead_2 : decode cX2_changeLead 2 = .ok (.invokevirtual 72, 3) := by decide +kernel
theorem dX2_changeLead_5 : decode cX2_changeLead 5 = .ok (.ifCond .eq 12, 3) := by decide +kernel
theorem dX2_changeLead_8 : decode cX2_changeLead 8 = .ok (.iload_n 2, 1) := by decide +kernel
theorem dX2_changeLead_9 : decode cX2_changeLead 9 = .ok (.iconst 0, 1) := by decide +kernel
theorem dX2_changeLead_10 : decode cX2_changeLead 10 = .ok (.iconst 3, 1) := by decide +kernel
theorem dX2_changeLead_11 : decode cX2_changeLead 11 = .ok (.invokestatic 51, 3) := by decide +kernel
theorem dX2_changeLead_14 : decode cX2_changeLead 14 = .ok (.ifCond .ne 5, 3) := by decide +kernel
theorem dX2_changeLead_17 : decode cX2_changeLead 17 = .ok (.iconst (-1), 1) := by decide +kernel
theorem dX2_changeLead_18 : decode cX2_changeLead 18 = .ok (.ireturn, 1) := by decide +kernel
theorem dX2_changeLead_19 : decode cX2_changeLead 19 = .ok (.aload_n 0, 1) := by decide +kernel
theorem dX2_changeLead_20 : decode cX2_changeLead 20 = .ok (.getfield 13, 3) := by decide +kernel
theorem dX2_changeLead_23 : decode cX2_changeLead 23 = .ok (.iload_n 1, 1) := by decide +kernel
theorem dX2_changeLead_24 : decode cX2_changeLead 24 = .ok (.aaload, 1) := by decide +kernel
theorem dX2_changeLead_25 : decode cX2_changeLead 25 = .ok (.astore_n 3, 1) := by decide +kernel
theorem dX2_changeLead_26 : decode cX2_changeLead 26 = .ok (.aload_n 3, 1) := by decide +kernel
theorem dX2_changeLead_27 : decode cX2_changeLead 27 = .ok (.getfield 66, 3) := by decide +kernel
theorem dX2_changeLead_30 : decode cX2_changeLead 30 = .ok (.ifCond .eq 6, 3) := by decide +kernel
theorem dX2_changeLead_33 : decode cX2_changeLead 33 = .ok (.bipush (-4), 2) := by decide +kernel
theorem dX2_changeLead_35 : decode cX2_changeLead 35 = .ok (.ireturn, 1) := by decide +kernel
theorem dX2_changeLead_36 : decode cX2_changeLead 36 = .ok (.aload_n 3, 1) := by decide +kernel
theorem dX2_changeLead_37 : decode cX2_changeLead 37 = .ok (.getfield 76, 3) := by decide +kernel
theorem dX2_changeLead_40 : decode cX2_changeLead 40 = .ok (.iload_n 2, 1) := by decide +kernel
theorem dX2_changeLead_41 : decode cX2_changeLead 41 = .ok (.if_icmp .ne 6, 3) := by decide +kernel
theorem dX2_changeLead_44 : decode cX2_changeLead 44 = .ok (.bipush (-5), 2) := by decide +kernel
theorem dX2_changeLead_46 : decode cX2_changeLead 46 = .ok (.ireturn, 1) := by decide +kernel
theorem dX2_changeLead_47 : decode cX2_changeLead 47 = .ok (.aload_n 3, 1) := by decide +kernel
theorem dX2_changeLead_48 : decode cX2_changeLead 48 = .ok (.getfield 76, 3) := by decide +kernel
theorem dX2_changeLead_51 : decode cX2_changeLead 51 = .ok (.istore 4, 2) := by decide +kernel
theorem dX2_changeLead_53 : decode cX2_changeLead 53 = .ok (.aload_n 3, 1) := by decide +kernel
theorem dX2_changeLead_54 : decode cX2_changeLead 54 = .ok (.iload_n 2, 1) := by decide +kernel
theorem dX2_changeLead_55 : decode cX2_changeLead 55 = .ok (.putfield 76, 3) := by decide +kernel
theorem dX2_changeLead_58 : decode cX2_changeLead 58 = .ok (.iload 4, 2) := by decide +kernel
theorem dX2_changeLead_60 : decode cX2_changeLead 60 = .ok (.ireturn, 1) := by decide +kernel
theorem dX2_changeSetting_0 : decode cX2_changeSetting 0 = .ok (.iload_n 1, 1) := by decide +kernel
theorem dX2_changeSetting_1 : decode cX2_changeSetting 1 = .ok (.iconst 0, 1) := by decide +kernel
theorem dX2_changeSetting_2 : decode cX2_changeSetting 2 = .ok (.iconst 3, 1) := by decide +kernel
theorem dX2_changeSetting_3 : decode cX2_changeSetting 3 = .ok (.invokestatic 51, 3) := by decide +kernel
theorem dX2_changeSetting_6 : decode cX2_changeSetting 6 = .ok (.ifCond .ne 5, 3) := by decide +kernel
theorem dX2_changeSetting_9 : decode cX2_changeSetting 9 = .ok (.iconst (-1), 1) := by decide +kernel
theorem dX2_changeSetting_10 : decode cX2_changeSetting 10 = .ok (.ireturn, 1) := by decide +kernel
theorem dX2_changeSetting_11 : decode cX2_changeSetting 11 = .ok (.iload_n 2, 1) := by decide +kernel
theorem dX2_changeSetting_12 : decode cX2_changeSetting 12 = .ok (.getstatic 79, 3) := by decide +kernel
theorem dX2_changeSetting_15 : decode cX2_changeSetting 15 = .ok (.iload_n 1, 1) := by decide +kernel
theorem dX2_changeSetting_16 : decode cX2_changeSetting 16 = .ok (.iaload, 1) := by decide +kernel
theorem dX2_changeSetting_17 : decode cX2_changeSetting 17 = .ok (.getstatic 82, 3) := by decide +kernel
theorem dX2_changeSetting_20 : decode cX2_changeSetting 20 = .ok (.iload_n 1, 1) := by decide +kernel
theorem dX2_changeSetting_21 : decode cX2_changeSetting 21 = .ok (.iaload, 1) := by decide +kernel
theorem dX2_changeSetting_22 : decode cX2_changeSetting 22 = .ok (.invokestatic 51, 3) := by decide +kernel
theorem dX2_changeSetting_25 : decode cX2_changeSetting 25 = .ok (.ifCond .ne 6, 3) := by decide +kernel
theorem dX2_changeSetting_28 : decode cX2_changeSetting 28 = .ok (.bipush (-2), 2) := by decide +kernel
theorem dX2_changeSetting_30 : decode cX2_changeSetting 30 = .ok (.ireturn, 1) := by decide +kernel
theorem dX2_changeSetting_31 : decode cX2_changeSetting 31 = .ok (.aload_n 0, 1) := by decide +kernel
theorem dX2_changeSetting_32 : decode cX2_changeSetting 32 = .ok (.getfield 22, 3) := by decide +kernel
theorem dX2_changeSetting_35 : decode cX2_changeSetting 35 = .ok (.iload_n 1, 1) := by decide +kernel
theorem dX2_changeSetting_36 : decode cX2_changeSetting 36 = .ok (.iaload, 1) := by decide +kernel
theorem dX2_changeSetting_37 : decode cX2_changeSetting 37 = .ok (.iload_n 2, 1) := by decide +kernel
theorem dX2_changeSetting_38 : decode cX2_changeSetting 38 = .ok (.if_icmp .ne 6, 3) := by decide +kernel
theorem dX2_changeSetting_41 : decode cX2_changeSetting 41 = .ok (.bipush (-5), 2) := by decide +kernel
theorem dX2_changeSetting_43 : decode cX2_changeSetting 43 = .ok (.ireturn, 1) := by decide +kernel
theorem dX2_changeSetting_44 : decode cX2_changeSetting 44 = .ok (.aload_n 0, 1) := by decide +kernel
theorem dX2_changeSetting_45 : decode cX2_changeSetting 45 = .ok (.getfield 22, 3) := by decide +kernel
theorem dX2_changeSetting_48 : decode cX2_changeSetting 48 = .ok (.iload_n 1, 1) := by decide +kernel
theorem dX2_changeSetting_49 : decode cX2_changeSetting 49 = .ok (.iaload, 1) := by decide +kernel
theorem dX2_changeSetting_50 : decode cX2_changeSetting 50 = .ok (.istore_n 3, 1) := by decide +kernel
theorem dX2_changeSetting_51 : decode cX2_changeSetting 51 = .ok (.aload_n 0, 1) := by decide +kernel
theorem dX2_changeSetting_52 : decode cX2_changeSetting 52 = .ok (.getfield 22, 3) := by decide +kernel
theorem dX2_changeSetting_55 : decode cX2_changeSetting 55 = .ok (.iload_n 1, 1) := by decide +kernel
theorem dX2_changeSetting_56 : decode cX2_changeSetting 56 = .ok (.iload_n 2, 1) := by decide +kernel
theorem dX2_changeSetting_57 : decode cX2_changeSetting 57 = .ok (.iastore, 1) := by decide +kernel
theorem dX2_changeSetting_58 : decode cX2_changeSetting 58 = .ok (.iload_n 3, 1) := by decide +kernel
theorem dX2_changeSetting_59 : decode cX2_changeSetting 59 = .ok (.ireturn, 1) := by decide +kernel
theorem dX2_cutShape_0 : decode cX2_cutShape 0 = .ok (.aload_n 0, 1) := by decide +kernel
theorem dX2_cutShape_1 : decode cX2_cutShape 1 = .ok (.iload_n 1, 1) := by decide +kernel
theorem dX2_cutShape_2 : decode cX2_cutShape 2 = .ok (.invokevirtual 72, 3) := by decide +kernel
theorem dX2_cutShape_5 : decode cX2_cutShape 5 = .ok (.ifCond .ne 5, 3) := by decide +kernel
theorem dX2_cutShape_8 : decode cX2_cutShape 8 = .ok (.iconst (-1), 1) := by decide +kernel
theorem dX2_cutShape_9 : decode cX2_cutShape 9 = .ok (.ireturn, 1) := by decide +kernel
theorem dX2_cutShape_10 : decode cX2_cutShape 10 = .ok (.aload_n 0, 1) := by decide +kernel
theorem dX2_cutShape_11 : decode cX2_cutShape 11 = .ok (.iload_n 1, 1) := by decide +kernel
theorem dX2_cutShape_12 : decode cX2_cutShape 12 = .ok (.invokevirtual 85, 3) := by decide +kernel
theorem dX2_cutShape_15 : decode cX2_cutShape 15 = .ok (.istore_n 2, 1) := by decide +kernel
theorem dX2_cutShape_16 : decode cX2_cutShape 16 = .ok (.iload_n 2, 1) := by decide +kernel
theorem dX2_cutShape_17 : decode cX2_cutShape 17 = .ok (.ifCond .eq 8, 3) := by decide +kernel
theorem dX2_cutShape_20 : decode cX2_cutShape 20 = .ok (.bipush (-10), 2) := by decide +kernel
theorem dX2_cutShape_22 : decode cX2_cutShape 22 = .ok (.iload_n 2, 1) := by decide +kernel
theorem dX2_cutShape_23 : decode cX2_cutShape 23 = .ok (.isub, 1) := by decide +kernel
theorem dX2_cutShape_24 : decode cX2_cutShape 24 = .ok (.ireturn, 1) := by decide +kernel
theorem dX2_cutShape_25 : decode cX2_cutShape 25 = .ok (.aload_n 0, 1) := by decide +kernel
theorem dX2_cutShape_26 : decode cX2_cutShape 26 = .ok (.getfield 13, 3) := by decide +kernel
theorem dX2_cutShape_29 : decode cX2_cutShape 29 = .ok (.iload_n 1, 1) := by decide +kernel
theorem dX2_cutShape_30 : decode cX2_cutShape 30 = .ok (.aaload, 1) := by decide +kernel
theorem dX2_cutShape_31 : decode cX2_cutShape 31 = .ok (.astore_n 3, 1) := by decide +kernel
theorem dX2_cutShape_32 : decode cX2_cutShape 32 = .ok (.aload_n 0, 1) := by decide +kernel
theorem dX2_cutShape_33 : decode cX2_cutShape 33 = .ok (.aload_n 0, 1) := by decide +kernel
theorem dX2_cutShape_34 : decode cX2_cutShape 34 = .ok (.aload_n 3, 1) := by decide +kernel
theorem dX2_cutShape_35 : decode cX2_cutShape 35 = .ok (.invokevirtual 89, 3) := by decide +kernel
theorem dX2_cutShape_38 : decode cX2_cutShape 38 = .ok (.invokevirtual 93, 3) := by decide +kernel
theorem dX2_cutShape_41 : decode cX2_cutShape 41 = .ok (.aload_n 0, 1) := by decide +kernel
theorem dX2_cutShape_42 : decode cX2_cutShape 42 = .ok (.aload_n 3, 1) := by decide +kernel
theorem dX2_cutShape_43 : decode cX2_cutShape 43 = .ok (.invokevirtual 97, 3) := by decide +kernel
theorem dX2_cutShape_46 : decode cX2_cutShape 46 = .ok (.putfield 29, 3) := by decide +kernel
theorem dX2_cutShape_49 : decode cX2_cutShape 49 = .ok (.aload_n 0, 1) := by decide +kernel
theorem dX2_cutShape_50 : decode cX2_cutShape 50 = .ok (.aload_n 3, 1) := by decide +kernel
theorem dX2_cutShape_51 : decode cX2_cutShape 51 = .ok (.invokevirtual 101, 3) := by decide +kernel
theorem dX2_cutShape_54 : decode cX2_cutShape 54 = .ok (.putfield 32, 3) := by decide +kernel
theorem dX2_cutShape_57 : decode cX2_cutShape 57 = .ok (.aload_n 0, 1) := by decide +kernel
theorem dX2_cutShape_58 : decode cX2_cutShape 58 = .ok (.aload_n 3, 1) := by decide +kernel
theorem dX2_cutShape_59 : decode cX2_cutShape 59 = .ok (.invokevirtual 104, 3) := by decide +kernel
theorem dX2_cutShape_62 : decode cX2_cutShape 62 = .ok (.aload_n 3, 1) := by decide +kernel
theorem dX2_cutShape_63 : decode cX2_cutShape 63 = .ok (.iconst 1, 1) := by decide +kernel
theorem dX2_cutShape_64 : decode cX2_cutShape 64 = .ok (.putfield 66, 3) := by decide +kernel
theorem dX2_cutShape_67 : decode cX2_cutShape 67 = .ok (.aload_n 3, 1) := by decide +kernel
theorem dX2_cutShape_68 : decode cX2_cutShape 68 = .ok (.aload_n 0, 1) := by decide +kernel
theorem dX2_cutShape_69 : decode cX2_cutShape 69 = .ok (.getfield 44, 3) := by decide +kernel
theorem dX2_cutShape_72 : decode cX2_cutShape 72 = .ok (.putfield 107, 3) := by decide +kernel
theorem dX2_cutShape_75 : decode cX2_cutShape 75 = .ok (.aload_n 0, 1) := by decide +kernel
theorem dX2_cutShape_76 : decode cX2_cutShape 76 = .ok (.dup, 1) := by decide +kernel
theorem dX2_cutShape_77 : decode cX2_cutShape 77 = .ok (.getfield 44, 3) := by decide +kernel
theorem dX2_cutShape_80 : decode cX2_cutShape 80 = .ok (.iconst 1, 1) := by decide +kernel
theorem dX2_cutShape_81 : decode cX2_cutShape 81 = .ok (.iadd, 1) := by decide +kernel
theorem dX2_cutShape_82 : decode cX2_cutShape 82 = .ok (.putfield 44, 3) := by decide +kernel
theorem dX2_cutShape_85 : decode cX2_cutShape 85 = .ok (.aload_n 3, 1) := by decide +kernel
theorem dX2_cutShape_86 : decode cX2_cutShape 86 = .ok (.aload_n 0, 1) := by decide +kernel
theorem dX2_cutShape_87 : decode cX2_cutShape 87 = .ok (.aload_n 3, 1) := by decide +kernel
theorem dX2_cutShape_88 : decode cX2_cutShape 88 = .ok (.invokevirtual 110, 3) := by decide +kernel
theorem dX2_cutShape_91 : decode cX2_cutShape 91 = .ok (.invokevirtual 113, 3) := by decide +kernel
theorem dX2_cutShape_94 : decode cX2_cutShape 94 = .ok (.aload_n 0, 1) := by decide +kernel
theorem dX2_cutShape_95 : decode cX2_cutShape 95 = .ok (.invokevirtual 116, 3) := by decide +kernel
theorem dX2_cutShape_98 : decode cX2_cutShape 98 = .ok (.if_icmp .ne 7, 3) := by decide +kernel
theorem dX2_cutShape_101 : decode cX2_cutShape 101 = .ok (.iconst 1, 1) := by decide +kernel
theorem dX2_cutShape_102 : decode cX2_cutShape 102 = .ok (.goto 4, 3) := by decide +kernel
theorem dX2_cutShape_105 : decode cX2_cutShape 105 = .ok (.iconst 0, 1) := by decide +kernel
theorem dX2_cutShape_106 : decode cX2_cutShape 106 = .ok (.putfield 119, 3) := by decide +kernel
theorem dX2_cutShape_109 : decode cX2_cutShape 109 = .ok (.aload_n 0, 1) := by decide +kernel
theorem dX2_cutShape_110 : decode cX2_cutShape 110 = .ok (.aload_n 3, 1) := by decide +kernel
theorem dX2_cutShape_111 : decode cX2_cutShape 111 = .ok (.invokevirtual 122, 3) := by decide +kernel
theorem dX2_cutShape_114 : decode cX2_cutShape 114 = .ok (.ireturn, 1) := by decide +kernel
theorem dX2_burnEdge_0 : decode cX2_burnEdge 0 = .ok (.aload_n 0, 1) := by decide +kernel
theorem dX2_burnEdge_1 : decode cX2_burnEdge 1 = .ok (.aload_n 1, 1) := by decide +kernel
theorem dX2_burnEdge_2 : decode cX2_burnEdge 2 = .ok (.invokevirtual 125, 3) := by decide +kernel
theorem dX2_burnEdge_5 : decode cX2_burnEdge 5 = .ok (.istore_n 2, 1) := by decide +kernel
theorem dX2_burnEdge_6 : decode cX2_burnEdge 6 = .ok (.aload_n 0, 1) := by decide +kernel
theorem dX2_burnEdge_7 : decode cX2_burnEdge 7 = .ok (.dup, 1) := by decide +kernel
theorem dX2_burnEdge_8 : decode cX2_burnEdge 8 = .ok (.getfield 38, 3) := by decide +kernel
theorem dX2_burnEdge_11 : decode cX2_burnEdge 11 = .ok (.iload_n 2, 1) := by decide +kernel
theorem dX2_burnEdge_12 : decode cX2_burnEdge 12 = .ok (.iadd, 1) := by decide +kernel
theorem dX2_burnEdge_13 : decode cX2_burnEdge 13 = .ok (.putfield 38, 3) := by decide +kernel
theorem dX2_burnEdge_16 : decode cX2_burnEdge 16 = .ok (.aload_n 0, 1) := by decide +kernel
theorem dX2_burnEdge_17 : decode cX2_burnEdge 17 = .ok (.dup, 1) := by decide +kernel
theorem dX2_burnEdge_18 : decode cX2_burnEdge 18 = .ok (.getfield 41, 3) := by decide +kernel
theorem dX2_burnEdge_21 : decode cX2_burnEdge 21 = .ok (.iload_n 2, 1) := by decide +kernel
theorem dX2_burnEdge_22 : decode cX2_burnEdge 22 = .ok (.iadd, 1) := by decide +kernel
theorem dX2_burnEdge_23 : decode cX2_burnEdge 23 = .ok (.putfield 41, 3) := by decide +kernel
theorem dX2_burnEdge_26 : decode cX2_burnEdge 26 = .ok (.iconst 0, 1) := by decide +kernel
theorem dX2_burnEdge_27 : decode cX2_burnEdge 27 = .ok (.istore_n 3, 1) := by decide +kernel
theorem dX2_burnEdge_28 : decode cX2_burnEdge 28 = .ok (.iload_n 3, 1) := by decide +kernel
theorem dX2_burnEdge_29 : decode cX2_burnEdge 29 = .ok (.bipush 12, 2) := by decide +kernel
theorem dX2_burnEdge_31 : decode cX2_burnEdge 31 = .ok (.if_icmp .ge 24, 3) := by decide +kernel
theorem dX2_burnEdge_34 : decode cX2_burnEdge 34 = .ok (.aload_n 0, 1) := by decide +kernel
theorem dX2_burnEdge_35 : decode cX2_burnEdge 35 = .ok (.getfield 18, 3) := by decide +kernel
theorem dX2_burnEdge_38 : decode cX2_burnEdge 38 = .ok (.iload_n 3, 1) := by decide +kernel
theorem dX2_burnEdge_39 : decode cX2_burnEdge 39 = .ok (.dup2, 1) := by decide +kernel
theorem dX2_burnEdge_40 : decode cX2_burnEdge 40 = .ok (.iaload, 1) := by decide +kernel
theorem dX2_burnEdge_41 : decode cX2_burnEdge 41 = .ok (.aload_n 1, 1) := by decide +kernel
theorem dX2_burnEdge_42 : decode cX2_burnEdge 42 = .ok (.getfield 128, 3) := by decide +kernel
theorem dX2_burnEdge_45 : decode cX2_burnEdge 45 = .ok (.iload_n 3, 1) := by decide +kernel
theorem dX2_burnEdge_46 : decode cX2_burnEdge 46 = .ok (.iaload, 1) := by decide +kernel
theorem dX2_burnEdge_47 : decode cX2_burnEdge 47 = .ok (.iadd, 1) := by decide +kernel
theorem dX2_burnEdge_48 : decode cX2_burnEdge 48 = .ok (.iastore, 1) := by decide +kernel
theorem dX2_burnEdge_49 : decode cX2_burnEdge 49 = .ok (.iinc 3 1, 3) := by decide +kernel
theorem dX2_burnEdge_52 : decode cX2_burnEdge 52 = .ok (.goto (-24), 3) := by decide +kernel
theorem dX2_burnEdge_55 : decode cX2_burnEdge 55 = .ok (.aload_n 0, 1) := by decide +kernel
theorem dX2_burnEdge_56 : decode cX2_burnEdge 56 = .ok (.dup, 1) := by decide +kernel
theorem dX2_burnEdge_57 : decode cX2_burnEdge 57 = .ok (.getfield 35, 3) := by decide +kernel
theorem dX2_burnEdge_60 : decode cX2_burnEdge 60 = .ok (.iconst 1, 1) := by decide +kernel
theorem dX2_burnEdge_61 : decode cX2_burnEdge 61 = .ok (.iadd, 1) := by decide +kernel
theorem dX2_burnEdge_62 : decode cX2_burnEdge 62 = .ok (.putfield 35, 3) := by decide +kernel
theorem dX2_burnEdge_65 : decode cX2_burnEdge 65 = .ok (.return_, 1) := by decide +kernel
theorem dX2_loseShapesInside_0 : decode cX2_loseShapesInside 0 = .ok (.iconst 0, 1) := by decide +kernel
theorem dX2_loseShapesInside_1 : decode cX2_loseShapesInside 1 = .ok (.istore_n 2, 1) := by decide +kernel
theorem dX2_loseShapesInside_2 : decode cX2_loseShapesInside 2 = .ok (.iconst 0, 1) := by decide +kernel
theorem dX2_loseShapesInside_3 : decode cX2_loseShapesInside 3 = .ok (.istore_n 3, 1) := by decide +kernel
theorem dX2_loseShapesInside_4 : decode cX2_loseShapesInside 4 = .ok (.iload_n 3, 1) := by decide +kernel
theorem dX2_loseShapesInside_5 : decode cX2_loseShapesInside 5 = .ok (.aload_n 0, 1) := by decide +kernel
theorem dX2_loseShapesInside_6 : decode cX2_loseShapesInside 6 = .ok (.getfield 25, 3) := by decide +kernel
theorem dX2_loseShapesInside_9 : decode cX2_loseShapesInside 9 = .ok (.if_icmp .ge 43, 3) := by decide +kernel
theorem dX2_loseShapesInside_12 : decode cX2_loseShapesInside 12 = .ok (.aload_n 0, 1) := by decide +kernel
theorem dX2_loseShapesInside_13 : decode cX2_loseShapesInside 13 = .ok (.getfield 13, 3) := by decide +kernel
theorem dX2_loseShapesInside_16 : decode cX2_loseShapesInside 16 = .ok (.iload_n 3, 1) := by decide +kernel
theorem dX2_loseShapesInside_17 : decode cX2_loseShapesInside 17 = .ok (.aaload, 1) := by decide +kernel
theorem dX2_loseShapesInside_18 : decode cX2_loseShapesInside 18 = .ok (.astore 4, 2) := by decide +kernel
theorem dX2_loseShapesInside_20 : decode cX2_loseShapesInside 20 = .ok (.aload 4, 2) := by decide +kernel
theorem dX2_loseShapesInside_22 : decode cX2_loseShapesInside 22 = .ok (.getfield 66, 3) := by decide +kernel
theorem dX2_loseShapesInside_25 : decode cX2_loseShapesInside 25 = .ok (.ifCond .ne 21, 3) := by decide +kernel
theorem dX2_loseShapesInside_28 : decode cX2_loseShapesInside 28 = .ok (.aload 4, 2) := by decide +kernel
theorem dX2_loseShapesInside_30 : decode cX2_loseShapesInside 30 = .ok (.aload_n 1, 1) := by decide +kernel
theorem dX2_loseShapesInside_31 : decode cX2_loseShapesInside 31 = .ok (.invokevirtual 63, 3) := by decide +kernel
theorem dX2_loseShapesInside_34 : decode cX2_loseShapesInside 34 = .ok (.ifCond .eq 12, 3) := by decide +kernel
theorem dX2_loseShapesInside_37 : decode cX2_loseShapesInside 37 = .ok (.aload 4, 2) := by decide +kernel
theorem dX2_loseShapesInside_39 : decode cX2_loseShapesInside 39 = .ok (.iconst 2, 1) := by decide +kernel
theorem dX2_loseShapesInside_40 : decode cX2_loseShapesInside 40 = .ok (.putfield 66, 3) := by decide +kernel
theorem dX2_loseShapesInside_43 : decode cX2_loseShapesInside 43 = .ok (.iinc 2 1, 3) := by decide +kernel
theorem dX2_loseShapesInside_46 : decode cX2_loseShapesInside 46 = .ok (.iinc 3 1, 3) := by decide +kernel
theorem dX2_loseShapesInside_49 : decode cX2_loseShapesInside 49 = .ok (.goto (-45), 3) := by decide +kernel
theorem dX2_loseShapesInside_52 : decode cX2_loseShapesInside 52 = .ok (.iload_n 2, 1) := by decide +kernel
theorem dX2_loseShapesInside_53 : decode cX2_loseShapesInside 53 = .ok (.ireturn, 1) := by decide +kernel
theorem dX2_waitFor_0 : decode cX2_waitFor 0 = .ok (.iload_n 1, 1) := by decide +kernel
theorem dX2_waitFor_1 : decode cX2_waitFor 1 = .ok (.iconst 1, 1) := by decide +kernel
theorem dX2_waitFor_2 : decode cX2_waitFor 2 = .ok (.sipush 999, 3) := by decide +kernel
theorem dX2_waitFor_5 : decode cX2_waitFor 5 = .ok (.invokestatic 51, 3) := by decide +kernel
theorem dX2_waitFor_8 : decode cX2_waitFor 8 = .ok (.ifCond .ne 6, 3) := by decide +kernel
theorem dX2_waitFor_11 : decode cX2_waitFor 11 = .ok (.bipush (-2), 2) := by decide +kernel
theorem dX2_waitFor_13 : decode cX2_waitFor 13 = .ok (.ireturn, 1) := by decide +kernel
theorem dX2_waitFor_14 : decode cX2_waitFor 14 = .ok (.aload_n 0, 1) := by decide +kernel
theorem dX2_waitFor_15 : decode cX2_waitFor 15 = .ok (.iload_n 1, 1) := by decide +kernel
theorem dX2_waitFor_16 : decode cX2_waitFor 16 = .ok (.invokevirtual 93, 3) := by decide +kernel
theorem dX2_waitFor_19 : decode cX2_waitFor 19 = .ok (.aload_n 0, 1) := by decide +kernel
theorem dX2_waitFor_20 : decode cX2_waitFor 20 = .ok (.invokevirtual 116, 3) := by decide +kernel
theorem dX2_waitFor_23 : decode cX2_waitFor 23 = .ok (.ireturn, 1) := by decide +kernel
theorem dX2_cleanLens_0 : decode cX2_cleanLens 0 = .ok (.aload_n 0, 1) := by decide +kernel
theorem dX2_cleanLens_1 : decode cX2_cleanLens 1 = .ok (.getfield 35, 3) := by decide +kernel
theorem dX2_cleanLens_4 : decode cX2_cleanLens 4 = .ok (.ifCond .ne 6, 3) := by decide +kernel
theorem dX2_cleanLens_7 : decode cX2_cleanLens 7 = .ok (.bipush (-5), 2) := by decide +kernel
theorem dX2_cleanLens_9 : decode cX2_cleanLens 9 = .ok (.ireturn, 1) := by decide +kernel
theorem dX2_cleanLens_10 : decode cX2_cleanLens 10 = .ok (.aload_n 0, 1) := by decide +kernel
theorem dX2_cleanLens_11 : decode cX2_cleanLens 11 = .ok (.getfield 35, 3) := by decide +kernel
theorem dX2_cleanLens_14 : decode cX2_cleanLens 14 = .ok (.istore_n 1, 1) := by decide +kernel
theorem dX2_cleanLens_15 : decode cX2_cleanLens 15 = .ok (.aload_n 0, 1) := by decide +kernel
theorem dX2_cleanLens_16 : decode cX2_cleanLens 16 = .ok (.aload_n 0, 1) := by decide +kernel
theorem dX2_cleanLens_17 : decode cX2_cleanLens 17 = .ok (.getfield 22, 3) := by decide +kernel
theorem dX2_cleanLens_20 : decode cX2_cleanLens 20 = .ok (.iconst 0, 1) := by decide +kernel
theorem dX2_cleanLens_21 : decode cX2_cleanLens 21 = .ok (.iaload, 1) := by decide +kernel
theorem dX2_cleanLens_22 : decode cX2_cleanLens 22 = .ok (.invokevirtual 93, 3) := by decide +kernel
theorem dX2_cleanLens_25 : decode cX2_cleanLens 25 = .ok (.aload_n 0, 1) := by decide +kernel
theorem dX2_cleanLens_26 : decode cX2_cleanLens 26 = .ok (.iconst 0, 1) := by decide +kernel
theorem dX2_cleanLens_27 : decode cX2_cleanLens 27 = .ok (.putfield 35, 3) := by decide +kernel
theorem dX2_cleanLens_30 : decode cX2_cleanLens 30 = .ok (.iload_n 1, 1) := by decide +kernel
theorem dX2_cleanLens_31 : decode cX2_cleanLens 31 = .ok (.ireturn, 1) := by decide +kernel
theorem dX2_coolFor_0 : decode cX2_coolFor 0 = .ok (.aload_n 0, 1) := by decide +kernel
theorem dX2_coolFor_1 : decode cX2_coolFor 1 = .ok (.dup, 1) := by decide +kernel
theorem dX2_coolFor_2 : decode cX2_coolFor 2 = .ok (.getfield 38, 3) := by decide +kernel
theorem dX2_coolFor_5 : decode cX2_coolFor 5 = .ok (.iload_n 1, 1) := by decide +kernel
theorem dX2_coolFor_6 : decode cX2_coolFor 6 = .ok (.iadd, 1) := by decide +kernel
theorem dX2_coolFor_7 : decode cX2_coolFor 7 = .ok (.putfield 38, 3) := by decide +kernel
theorem dX2_coolFor_10 : decode cX2_coolFor 10 = .ok (.iconst 0, 1) := by decide +kernel
theorem dX2_coolFor_11 : decode cX2_coolFor 11 = .ok (.istore_n 2, 1) := by decide +kernel
theorem dX2_coolFor_12 : decode cX2_coolFor 12 = .ok (.iload_n 2, 1) := by decide +kernel
theorem dX2_coolFor_13 : decode cX2_coolFor 13 = .ok (.bipush 12, 2) := by decide +kernel
theorem dX2_coolFor_15 : decode cX2_coolFor 15 = .ok (.if_icmp .ge 34, 3) := by decide +kernel
theorem dX2_coolFor_18 : decode cX2_coolFor 18 = .ok (.aload_n 0, 1) := by decide +kernel
theorem dX2_coolFor_19 : decode cX2_coolFor 19 = .ok (.getfield 18, 3) := by decide +kernel
theorem dX2_coolFor_22 : decode cX2_coolFor 22 = .ok (.iload_n 2, 1) := by decide +kernel
theorem dX2_coolFor_23 : decode cX2_coolFor 23 = .ok (.aload_n 0, 1) := by decide +kernel
theorem dX2_coolFor_24 : decode cX2_coolFor 24 = .ok (.getfield 18, 3) := by decide +kernel
theorem dX2_coolFor_27 : decode cX2_coolFor 27 = .ok (.iload_n 2, 1) := by decide +kernel
theorem dX2_coolFor_28 : decode cX2_coolFor 28 = .ok (.iaload, 1) := by decide +kernel
theorem dX2_coolFor_29 : decode cX2_coolFor 29 = .ok (.iload_n 1, 1) := by decide +kernel
theorem dX2_coolFor_30 : decode cX2_coolFor 30 = .ok (.aload_n 0, 1) := by decide +kernel
theorem dX2_coolFor_31 : decode cX2_coolFor 31 = .ok (.getfield 22, 3) := by decide +kernel
theorem dX2_coolFor_34 : decode cX2_coolFor 34 = .ok (.iconst 1, 1) := by decide +kernel
theorem dX2_coolFor_35 : decode cX2_coolFor 35 = .ok (.iaload, 1) := by decide +kernel
theorem dX2_coolFor_36 : decode cX2_coolFor 36 = .ok (.imul, 1) := by decide +kernel
theorem dX2_coolFor_37 : decode cX2_coolFor 37 = .ok (.isub, 1) := by decide +kernel
theorem dX2_coolFor_38 : decode cX2_coolFor 38 = .ok (.iconst 0, 1) := by decide +kernel
theorem dX2_coolFor_39 : decode cX2_coolFor 39 = .ok (.invokestatic 131, 3) := by decide +kernel
theorem dX2_coolFor_42 : decode cX2_coolFor 42 = .ok (.iastore, 1) := by decide +kernel
theorem dX2_coolFor_43 : decode cX2_coolFor 43 = .ok (.iinc 2 1, 3) := by decide +kernel
theorem dX2_coolFor_46 : decode cX2_coolFor 46 = .ok (.goto (-34), 3) := by decide +kernel
theorem dX2_coolFor_49 : decode cX2_coolFor 49 = .ok (.return_, 1) := by decide +kernel
theorem dX2_wayTo_0 : decode cX2_wayTo 0 = .ok (.aload_n 1, 1) := by decide +kernel
theorem dX2_wayTo_1 : decode cX2_wayTo 1 = .ok (.invokevirtual 97, 3) := by decide +kernel
theorem dX2_wayTo_4 : decode cX2_wayTo 4 = .ok (.aload_n 0, 1) := by decide +kernel
theorem dX2_wayTo_5 : decode cX2_wayTo 5 = .ok (.getfield 29, 3) := by decide +kernel
theorem dX2_wayTo_8 : decode cX2_wayTo 8 = .ok (.isub, 1) := by decide +kernel
theorem dX2_wayTo_9 : decode cX2_wayTo 9 = .ok (.invokestatic 137, 3) := by decide +kernel
theorem dX2_wayTo_12 : decode cX2_wayTo 12 = .ok (.aload_n 1, 1) := by decide +kernel
theorem dX2_wayTo_13 : decode cX2_wayTo 13 = .ok (.invokevirtual 101, 3) := by decide +kernel
theorem dX2_wayTo_16 : decode cX2_wayTo 16 = .ok (.aload_n 0, 1) := by decide +kernel
theorem dX2_wayTo_17 : decode cX2_wayTo 17 = .ok (.getfield 32, 3) := by decide +kernel
theorem dX2_wayTo_20 : decode cX2_wayTo 20 = .ok (.isub, 1) := by decide +kernel
theorem dX2_wayTo_21 : decode cX2_wayTo 21 = .ok (.invokestatic 137, 3) := by decide +kernel
theorem dX2_wayTo_24 : decode cX2_wayTo 24 = .ok (.iadd, 1) := by decide +kernel
theorem dX2_wayTo_25 : decode cX2_wayTo 25 = .ok (.ireturn, 1) := by decide +kernel
theorem dX2_burningOf_0 : decode cX2_burningOf 0 = .ok (.aload_n 1, 1) := by decide +kernel
theorem dX2_burningOf_1 : decode cX2_burningOf 1 = .ok (.invokevirtual 140, 3) := by decide +kernel
theorem dX2_burningOf_4 : decode cX2_burningOf 4 = .ok (.iconst 2, 1) := by decide +kernel
theorem dX2_burningOf_5 : decode cX2_burningOf 5 = .ok (.aload_n 0, 1) := by decide +kernel
theorem dX2_burningOf_6 : decode cX2_burningOf 6 = .ok (.getfield 35, 3) := by decide +kernel
theorem dX2_burningOf_9 : decode cX2_burningOf 9 = .ok (.iconst 4, 1) := by decide +kernel
theorem dX2_burningOf_10 : decode cX2_burningOf 10 = .ok (.idiv, 1) := by decide +kernel
theorem dX2_burningOf_11 : decode cX2_burningOf 11 = .ok (.iadd, 1) := by decide +kernel
theorem dX2_burningOf_12 : decode cX2_burningOf 12 = .ok (.imul, 1) := by decide +kernel
theorem dX2_burningOf_13 : decode cX2_burningOf 13 = .ok (.ireturn, 1) := by decide +kernel
theorem dX2_reasonAgainst_0 : decode cX2_reasonAgainst 0 = .ok (.aload_n 0, 1) := by decide +kernel
theorem dX2_reasonAgainst_1 : decode cX2_reasonAgainst 1 = .ok (.getfield 13, 3) := by decide +kernel
theorem dX2_reasonAgainst_4 : decode cX2_reasonAgainst 4 = .ok (.iload_n 1, 1) := by decide +kernel
theorem dX2_reasonAgainst_5 : decode cX2_reasonAgainst 5 = .ok (.aaload, 1) := by decide +kernel
theorem dX2_reasonAgainst_6 : decode cX2_reasonAgainst 6 = .ok (.astore_n 2, 1) := by decide +kernel
theorem dX2_reasonAgainst_7 : decode cX2_reasonAgainst 7 = .ok (.aload_n 2, 1) := by decide +kernel
theorem dX2_reasonAgainst_8 : decode cX2_reasonAgainst 8 = .ok (.getfield 66, 3) := by decide +kernel
theorem dX2_reasonAgainst_11 : decode cX2_reasonAgainst 11 = .ok (.iconst 1, 1) := by decide +kernel
theorem dX2_reasonAgainst_12 : decode cX2_reasonAgainst 12 = .ok (.if_icmp .ne 5, 3) := by decide +kernel
theorem dX2_reasonAgainst_15 : decode cX2_reasonAgainst 15 = .ok (.iconst 1, 1) := by decide +kernel
theorem dX2_reasonAgainst_16 : decode cX2_reasonAgainst 16 = .ok (.ireturn, 1) := by decide +kernel
theorem dX2_reasonAgainst_17 : decode cX2_reasonAgainst 17 = .ok (.aload_n 2, 1) := by decide +kernel
theorem dX2_reasonAgainst_18 : decode cX2_reasonAgainst 18 = .ok (.getfield 66, 3) := by decide +kernel
theorem dX2_reasonAgainst_21 : decode cX2_reasonAgainst 21 = .ok (.iconst 2, 1) := by decide +kernel
theorem dX2_reasonAgainst_22 : decode cX2_reasonAgainst 22 = .ok (.if_icmp .ne 5, 3) := by decide +kernel
theorem dX2_reasonAgainst_25 : decode cX2_reasonAgainst 25 = .ok (.iconst 2, 1) := by decide +kernel
theorem dX2_reasonAgainst_26 : decode cX2_reasonAgainst 26 = .ok (.ireturn, 1) := by decide +kernel
theorem dX2_reasonAgainst_27 : decode cX2_reasonAgainst 27 = .ok (.aload_n 0, 1) := by decide +kernel
theorem dX2_reasonAgainst_28 : decode cX2_reasonAgainst 28 = .ok (.getfield 22, 3) := by decide +kernel
theorem dX2_reasonAgainst_31 : decode cX2_reasonAgainst 31 = .ok (.iconst 3, 1) := by decide +kernel
theorem dX2_reasonAgainst_32 : decode cX2_reasonAgainst 32 = .ok (.iaload, 1) := by decide +kernel
theorem dX2_reasonAgainst_33 : decode cX2_reasonAgainst 33 = .ok (.iconst 1, 1) := by decide +kernel
theorem dX2_reasonAgainst_34 : decode cX2_reasonAgainst 34 = .ok (.if_icmp .ne 13, 3) := by decide +kernel
theorem dX2_reasonAgainst_37 : decode cX2_reasonAgainst 37 = .ok (.aload_n 0, 1) := by decide +kernel
theorem dX2_reasonAgainst_38 : decode cX2_reasonAgainst 38 = .ok (.aload_n 2, 1) := by decide +kernel
theorem dX2_reasonAgainst_39 : decode cX2_reasonAgainst 39 = .ok (.invokevirtual 143, 3) := by decide +kernel
theorem dX2_reasonAgainst_42 : decode cX2_reasonAgainst 42 = .ok (.ifCond .eq 5, 3) := by decide +kernel
theorem dX2_reasonAgainst_45 : decode cX2_reasonAgainst 45 = .ok (.iconst 3, 1) := by decide +kernel
theorem dX2_reasonAgainst_46 : decode cX2_reasonAgainst 46 = .ok (.ireturn, 1) := by decide +kernel
theorem dX2_reasonAgainst_47 : decode cX2_reasonAgainst 47 = .ok (.aload_n 0, 1) := by decide +kernel
theorem dX2_reasonAgainst_48 : decode cX2_reasonAgainst 48 = .ok (.aload_n 2, 1) := by decide +kernel
theorem dX2_reasonAgainst_49 : decode cX2_reasonAgainst 49 = .ok (.invokevirtual 146, 3) := by decide +kernel
theorem dX2_reasonAgainst_52 : decode cX2_reasonAgainst 52 = .ok (.aload_n 0, 1) := by decide +kernel
theorem dX2_reasonAgainst_53 : decode cX2_reasonAgainst 53 = .ok (.aload_n 2, 1) := by decide +kernel
theorem dX2_reasonAgainst_54 : decode cX2_reasonAgainst 54 = .ok (.invokevirtual 89, 3) := by decide +kernel
theorem dX2_reasonAgainst_57 : decode cX2_reasonAgainst 57 = .ok (.aload_n 0, 1) := by decide +kernel
theorem dX2_reasonAgainst_58 : decode cX2_reasonAgainst 58 = .ok (.getfield 22, 3) := by decide +kernel
theorem dX2_reasonAgainst_61 : decode cX2_reasonAgainst 61 = .ok (.iconst 1, 1) := by decide +kernel
theorem dX2_reasonAgainst_62 : decode cX2_reasonAgainst 62 = .ok (.iaload, 1) := by decide +kernel
theorem dX2_reasonAgainst_63 : decode cX2_reasonAgainst 63 = .ok (.imul, 1) := by decide +kernel
theorem dX2_reasonAgainst_64 : decode cX2_reasonAgainst 64 = .ok (.if_icmp .le 7, 3) := by decide +kernel
theorem dX2_reasonAgainst_67 : decode cX2_reasonAgainst 67 = .ok (.iconst 4, 1) := by decide +kernel
theorem dX2_reasonAgainst_68 : decode cX2_reasonAgainst 68 = .ok (.goto 4, 3) := by decide +kernel
theorem dX2_reasonAgainst_71 : decode cX2_reasonAgainst 71 = .ok (.iconst 0, 1) := by decide +kernel
theorem dX2_reasonAgainst_72 : decode cX2_reasonAgainst 72 = .ok (.ireturn, 1) := by decide +kernel
theorem dX2_holdsWholeShape_0 : decode cX2_holdsWholeShape 0 = .ok (.iconst 0, 1) := by decide +kernel
theorem dX2_holdsWholeShape_1 : decode cX2_holdsWholeShape 1 = .ok (.istore_n 2, 1) := by decide +kernel
theorem dX2_holdsWholeShape_2 : decode cX2_holdsWholeShape 2 = .ok (.iload_n 2, 1) := by decide +kernel
theorem dX2_holdsWholeShape_3 : decode cX2_holdsWholeShape 3 = .ok (.aload_n 0, 1) := by decide +kernel
theorem dX2_holdsWholeShape_4 : decode cX2_holdsWholeShape 4 = .ok (.getfield 25, 3) := by decide +kernel
theorem dX2_holdsWholeShape_7 : decode cX2_holdsWholeShape 7 = .ok (.if_icmp .ge 36, 3) := by decide +kernel
theorem dX2_holdsWholeShape_10 : decode cX2_holdsWholeShape 10 = .ok (.aload_n 0, 1) := by decide +kernel
theorem dX2_holdsWholeShape_11 : decode cX2_holdsWholeShape 11 = .ok (.getfield 13, 3) := by decide +kernel
theorem dX2_holdsWholeShape_14 : decode cX2_holdsWholeShape 14 = .ok (.iload_n 2, 1) := by decide +kernel
theorem dX2_holdsWholeShape_15 : decode cX2_holdsWholeShape 15 = .ok (.aaload, 1) := by decide +kernel
theorem dX2_holdsWholeShape_16 : decode cX2_holdsWholeShape 16 = .ok (.getfield 66, 3) := by decide +kernel
theorem dX2_holdsWholeShape_19 : decode cX2_holdsWholeShape 19 = .ok (.ifCond .ne 18, 3) := by decide +kernel
theorem dX2_holdsWholeShape_22 : decode cX2_holdsWholeShape 22 = .ok (.aload_n 0, 1) := by decide +kernel
theorem dX2_holdsWholeShape_23 : decode cX2_holdsWholeShape 23 = .ok (.getfield 13, 3) := by decide +kernel
theorem dX2_holdsWholeShape_26 : decode cX2_holdsWholeShape 26 = .ok (.iload_n 2, 1) := by decide +kernel
theorem dX2_holdsWholeShape_27 : decode cX2_holdsWholeShape 27 = .ok (.aaload, 1) := by decide +kernel
theorem dX2_holdsWholeShape_28 : decode cX2_holdsWholeShape 28 = .ok (.aload_n 1, 1) := by decide +kernel
theorem dX2_holdsWholeShape_29 : decode cX2_holdsWholeShape 29 = .ok (.invokevirtual 63, 3) := by decide +kernel
theorem dX2_holdsWholeShape_32 : decode cX2_holdsWholeShape 32 = .ok (.ifCond .eq 5, 3) := by decide +kernel
theorem dX2_holdsWholeShape_35 : decode cX2_holdsWholeShape 35 = .ok (.iconst 1, 1) := by decide +kernel
theorem dX2_holdsWholeShape_36 : decode cX2_holdsWholeShape 36 = .ok (.ireturn, 1) := by decide +kernel
theorem dX2_holdsWholeShape_37 : decode cX2_holdsWholeShape 37 = .ok (.iinc 2 1, 3) := by decide +kernel
theorem dX2_holdsWholeShape_40 : decode cX2_holdsWholeShape 40 = .ok (.goto (-38), 3) := by decide +kernel
theorem dX2_holdsWholeShape_43 : decode cX2_holdsWholeShape 43 = .ok (.iconst 0, 1) := by decide +kernel
theorem dX2_holdsWholeShape_44 : decode cX2_holdsWholeShape 44 = .ok (.ireturn, 1) := by decide +kernel
theorem dX2_heatOver_0 : decode cX2_heatOver 0 = .ok (.iconst 0, 1) := by decide +kernel
theorem dX2_heatOver_1 : decode cX2_heatOver 1 = .ok (.istore_n 2, 1) := by decide +kernel
theorem dX2_heatOver_2 : decode cX2_heatOver 2 = .ok (.iconst 0, 1) := by decide +kernel
theorem dX2_heatOver_3 : decode cX2_heatOver 3 = .ok (.istore_n 3, 1) := by decide +kernel
theorem dX2_heatOver_4 : decode cX2_heatOver 4 = .ok (.iload_n 3, 1) := by decide +kernel
theorem dX2_heatOver_5 : decode cX2_heatOver 5 = .ok (.bipush 12, 2) := by decide +kernel
theorem dX2_heatOver_7 : decode cX2_heatOver 7 = .ok (.if_icmp .ge 29, 3) := by decide +kernel
theorem dX2_heatOver_10 : decode cX2_heatOver 10 = .ok (.aload_n 1, 1) := by decide +kernel
theorem dX2_heatOver_11 : decode cX2_heatOver 11 = .ok (.getfield 128, 3) := by decide +kernel
theorem dX2_heatOver_14 : decode cX2_heatOver 14 = .ok (.iload_n 3, 1) := by decide +kernel
theorem dX2_heatOver_15 : decode cX2_heatOver 15 = .ok (.iaload, 1) := by decide +kernel
theorem dX2_heatOver_16 : decode cX2_heatOver 16 = .ok (.ifCond .le 14, 3) := by decide +kernel
theorem dX2_heatOver_19 : decode cX2_heatOver 19 = .ok (.iload_n 2, 1) := by decide +kernel
theorem dX2_heatOver_20 : decode cX2_heatOver 20 = .ok (.aload_n 0, 1) := by decide +kernel
theorem dX2_heatOver_21 : decode cX2_heatOver 21 = .ok (.getfield 18, 3) := by decide +kernel
theorem dX2_heatOver_24 : decode cX2_heatOver 24 = .ok (.iload_n 3, 1) := by decide +kernel
theorem dX2_heatOver_25 : decode cX2_heatOver 25 = .ok (.iaload, 1) := by decide +kernel
theorem dX2_heatOver_26 : decode cX2_heatOver 26 = .ok (.invokestatic 131, 3) := by decide +kernel
theorem dX2_heatOver_29 : decode cX2_heatOver 29 = .ok (.istore_n 2, 1) := by decide +kernel
theorem dX2_heatOver_30 : decode cX2_heatOver 30 = .ok (.iinc 3 1, 3) := by decide +kernel
theorem dX2_heatOver_33 : decode cX2_heatOver 33 = .ok (.goto (-29), 3) := by decide +kernel
theorem dX2_heatOver_36 : decode cX2_heatOver 36 = .ok (.iload_n 2, 1) := by decide +kernel
theorem dX2_heatOver_37 : decode cX2_heatOver 37 = .ok (.aload_n 0, 1) := by decide +kernel
theorem dX2_heatOver_38 : decode cX2_heatOver 38 = .ok (.getfield 22, 3) := by decide +kernel
theorem dX2_heatOver_41 : decode cX2_heatOver 41 = .ok (.iconst 2, 1) := by decide +kernel
theorem dX2_heatOver_42 : decode cX2_heatOver 42 = .ok (.iaload, 1) := by decide +kernel
theorem dX2_heatOver_43 : decode cX2_heatOver 43 = .ok (.isub, 1) := by decide +kernel
theorem dX2_heatOver_44 : decode cX2_heatOver 44 = .ok (.ireturn, 1) := by decide +kernel
theorem dX2_ticksToCut_0 : decode cX2_ticksToCut 0 = .ok (.aload_n 0, 1) := by decide +kernel
theorem dX2_ticksToCut_1 : decode cX2_ticksToCut 1 = .ok (.iload_n 1, 1) := by decide +kernel
theorem dX2_ticksToCut_2 : decode cX2_ticksToCut 2 = .ok (.invokevirtual 72, 3) := by decide +kernel
theorem dX2_ticksToCut_5 : decode cX2_ticksToCut 5 = .ok (.ifCond .ne 5, 3) := by decide +kernel
theorem dX2_ticksToCut_8 : decode cX2_ticksToCut 8 = .ok (.iconst (-1), 1) := by decide +kernel
theorem dX2_ticksToCut_9 : decode cX2_ticksToCut 9 = .ok (.ireturn, 1) := by decide +kernel
theorem dX2_ticksToCut_10 : decode cX2_ticksToCut 10 = .ok (.aload_n 0, 1) := by decide +kernel
theorem dX2_ticksToCut_11 : decode cX2_ticksToCut 11 = .ok (.getfield 13, 3) := by decide +kernel
theorem dX2_ticksToCut_14 : decode cX2_ticksToCut 14 = .ok (.iload_n 1, 1) := by decide +kernel
theorem dX2_ticksToCut_15 : decode cX2_ticksToCut 15 = .ok (.aaload, 1) := by decide +kernel
theorem dX2_ticksToCut_16 : decode cX2_ticksToCut 16 = .ok (.astore_n 2, 1) := by decide +kernel
theorem dX2_ticksToCut_17 : decode cX2_ticksToCut 17 = .ok (.aload_n 2, 1) := by decide +kernel
theorem dX2_ticksToCut_18 : decode cX2_ticksToCut 18 = .ok (.getfield 66, 3) := by decide +kernel
theorem dX2_ticksToCut_21 : decode cX2_ticksToCut 21 = .ok (.ifCond .ne 17, 3) := by decide +kernel
theorem dX2_ticksToCut_24 : decode cX2_ticksToCut 24 = .ok (.aload_n 0, 1) := by decide +kernel
theorem dX2_ticksToCut_25 : decode cX2_ticksToCut 25 = .ok (.aload_n 2, 1) := by decide +kernel
theorem dX2_ticksToCut_26 : decode cX2_ticksToCut 26 = .ok (.invokevirtual 89, 3) := by decide +kernel
theorem dX2_ticksToCut_29 : decode cX2_ticksToCut 29 = .ok (.aload_n 0, 1) := by decide +kernel
theorem dX2_ticksToCut_30 : decode cX2_ticksToCut 30 = .ok (.aload_n 2, 1) := by decide +kernel
theorem dX2_ticksToCut_31 : decode cX2_ticksToCut 31 = .ok (.invokevirtual 125, 3) := by decide +kernel
theorem dX2_ticksToCut_34 : decode cX2_ticksToCut 34 = .ok (.iadd, 1) := by decide +kernel
theorem dX2_ticksToCut_35 : decode cX2_ticksToCut 35 = .ok (.goto 5, 3) := by decide +kernel
theorem dX2_ticksToCut_38 : decode cX2_ticksToCut 38 = .ok (.bipush (-4), 2) := by decide +kernel
theorem dX2_ticksToCut_40 : decode cX2_ticksToCut 40 = .ok (.ireturn, 1) := by decide +kernel
theorem dX2_ticksToCool_0 : decode cX2_ticksToCool 0 = .ok (.aload_n 0, 1) := by decide +kernel
theorem dX2_ticksToCool_1 : decode cX2_ticksToCool 1 = .ok (.iload_n 1, 1) := by decide +kernel
theorem dX2_ticksToCool_2 : decode cX2_ticksToCool 2 = .ok (.invokevirtual 72, 3) := by decide +kernel
theorem dX2_ticksToCool_5 : decode cX2_ticksToCool 5 = .ok (.ifCond .ne 5, 3) := by decide +kernel
theorem dX2_ticksToCool_8 : decode cX2_ticksToCool 8 = .ok (.iconst (-1), 1) := by decide +kernel
theorem dX2_ticksToCool_9 : decode cX2_ticksToCool 9 = .ok (.ireturn, 1) := by decide +kernel
theorem dX2_ticksToCool_10 : decode cX2_ticksToCool 10 = .ok (.aload_n 0, 1) := by decide +kernel
theorem dX2_ticksToCool_11 : decode cX2_ticksToCool 11 = .ok (.iload_n 1, 1) := by decide +kernel
theorem dX2_ticksToCool_12 : decode cX2_ticksToCool 12 = .ok (.invokevirtual 85, 3) := by decide +kernel
theorem dX2_ticksToCool_15 : decode cX2_ticksToCool 15 = .ok (.istore_n 2, 1) := by decide +kernel
theorem dX2_ticksToCool_16 : decode cX2_ticksToCool 16 = .ok (.iload_n 2, 1) := by decide +kernel
theorem dX2_ticksToCool_17 : decode cX2_ticksToCool 17 = .ok (.ifCond .ne 5, 3) := by decide +kernel
theorem dX2_ticksToCool_20 : decode cX2_ticksToCool 20 = .ok (.iconst 0, 1) := by decide +kernel
theorem dX2_ticksToCool_21 : decode cX2_ticksToCool 21 = .ok (.ireturn, 1) := by decide +kernel
theorem dX2_ticksToCool_22 : decode cX2_ticksToCool 22 = .ok (.iload_n 2, 1) := by decide +kernel
theorem dX2_ticksToCool_23 : decode cX2_ticksToCool 23 = .ok (.iconst 4, 1) := by decide +kernel
theorem dX2_ticksToCool_24 : decode cX2_ticksToCool 24 = .ok (.if_icmp .eq 6, 3) := by decide +kernel
theorem dX2_ticksToCool_27 : decode cX2_ticksToCool 27 = .ok (.bipush (-4), 2) := by decide +kernel
theorem dX2_ticksToCool_29 : decode cX2_ticksToCool 29 = .ok (.ireturn, 1) := by decide +kernel
theorem dX2_ticksToCool_30 : decode cX2_ticksToCool 30 = .ok (.aload_n 0, 1) := by decide +kernel
theorem dX2_ticksToCool_31 : decode cX2_ticksToCool 31 = .ok (.getfield 22, 3) := by decide +kernel
theorem dX2_ticksToCool_34 : decode cX2_ticksToCool 34 = .ok (.iconst 1, 1) := by decide +kernel
theorem dX2_ticksToCool_35 : decode cX2_ticksToCool 35 = .ok (.iaload, 1) := by decide +kernel
theorem dX2_ticksToCool_36 : decode cX2_ticksToCool 36 = .ok (.istore_n 3, 1) := by decide +kernel
theorem dX2_ticksToCool_37 : decode cX2_ticksToCool 37 = .ok (.iload_n 3, 1) := by decide +kernel
theorem dX2_ticksToCool_38 : decode cX2_ticksToCool 38 = .ok (.ifCond .gt 6, 3) := by decide +kernel
theorem dX2_ticksToCool_41 : decode cX2_ticksToCool 41 = .ok (.bipush (-5), 2) := by decide +kernel
theorem dX2_ticksToCool_43 : decode cX2_ticksToCool 43 = .ok (.ireturn, 1) := by decide +kernel
theorem dX2_ticksToCool_44 : decode cX2_ticksToCool 44 = .ok (.aload_n 0, 1) := by decide +kernel
theorem dX2_ticksToCool_45 : decode cX2_ticksToCool 45 = .ok (.getfield 13, 3) := by decide +kernel
theorem dX2_ticksToCool_48 : decode cX2_ticksToCool 48 = .ok (.iload_n 1, 1) := by decide +kernel
theorem dX2_ticksToCool_49 : decode cX2_ticksToCool 49 = .ok (.aaload, 1) := by decide +kernel
theorem dX2_ticksToCool_50 : decode cX2_ticksToCool 50 = .ok (.astore 4, 2) := by decide +kernel
theorem dX2_ticksToCool_52 : decode cX2_ticksToCool 52 = .ok (.aload_n 0, 1) := by decide +kernel
theorem dX2_ticksToCool_53 : decode cX2_ticksToCool 53 = .ok (.aload 4, 2) := by decide +kernel
theorem dX2_ticksToCool_55 : decode cX2_ticksToCool 55 = .ok (.invokevirtual 146, 3) := by decide +kernel
theorem dX2_ticksToCool_58 : decode cX2_ticksToCool 58 = .ok (.iload_n 3, 1) := by decide +kernel
theorem dX2_ticksToCool_59 : decode cX2_ticksToCool 59 = .ok (.iadd, 1) := by decide +kernel
theorem dX2_ticksToCool_60 : decode cX2_ticksToCool 60 = .ok (.iconst 1, 1) := by decide +kernel
theorem dX2_ticksToCool_61 : decode cX2_ticksToCool 61 = .ok (.isub, 1) := by decide +kernel
theorem dX2_ticksToCool_62 : decode cX2_ticksToCool 62 = .ok (.iload_n 3, 1) := by decide +kernel
theorem dX2_ticksToCool_63 : decode cX2_ticksToCool 63 = .ok (.idiv, 1) := by decide +kernel
theorem dX2_ticksToCool_64 : decode cX2_ticksToCool 64 = .ok (.aload_n 0, 1) := by decide +kernel
theorem dX2_ticksToCool_65 : decode cX2_ticksToCool 65 = .ok (.aload 4, 2) := by decide +kernel
theorem dX2_ticksToCool_67 : decode cX2_ticksToCool 67 = .ok (.invokevirtual 89, 3) := by decide +kernel
theorem dX2_ticksToCool_70 : decode cX2_ticksToCool 70 = .ok (.isub, 1) := by decide +kernel
theorem dX2_ticksToCool_71 : decode cX2_ticksToCool 71 = .ok (.ireturn, 1) := by decide +kernel
theorem dX2_bestShape_0 : decode cX2_bestShape 0 = .ok (.bipush (-5), 2) := by decide +kernel
theorem dX2_bestShape_2 : decode cX2_bestShape 2 = .ok (.istore_n 1, 1) := by decide +kernel
theorem dX2_bestShape_3 : decode cX2_bestShape 3 = .ok (.iconst 0, 1) := by decide +kernel
theorem dX2_bestShape_4 : decode cX2_bestShape 4 = .ok (.istore_n 2, 1) := by decide +kernel
theorem dX2_bestShape_5 : decode cX2_bestShape 5 = .ok (.iconst 0, 1) := by decide +kernel
theorem dX2_bestShape_6 : decode cX2_bestShape 6 = .ok (.istore_n 3, 1) := by decide +kernel
theorem dX2_bestShape_7 : decode cX2_bestShape 7 = .ok (.iload_n 3, 1) := by decide +kernel
theorem dX2_bestShape_8 : decode cX2_bestShape 8 = .ok (.aload_n 0, 1) := by decide +kernel
theorem dX2_bestShape_9 : decode cX2_bestShape 9 = .ok (.getfield 25, 3) := by decide +kernel
theorem dX2_bestShape_12 : decode cX2_bestShape 12 = .ok (.if_icmp .ge 41, 3) := by decide +kernel
theorem dX2_bestShape_15 : decode cX2_bestShape 15 = .ok (.aload_n 0, 1) := by decide +kernel
theorem dX2_bestShape_16 : decode cX2_bestShape 16 = .ok (.iload_n 3, 1) := by decide +kernel
theorem dX2_bestShape_17 : decode cX2_bestShape 17 = .ok (.invokevirtual 85, 3) := by decide +kernel
theorem dX2_bestShape_20 : decode cX2_bestShape 20 = .ok (.ifCond .ne 27, 3) := by decide +kernel
theorem dX2_bestShape_23 : decode cX2_bestShape 23 = .ok (.aload_n 0, 1) := by decide +kernel
theorem dX2_bestShape_24 : decode cX2_bestShape 24 = .ok (.iload_n 3, 1) := by decide +kernel
theorem dX2_bestShape_25 : decode cX2_bestShape 25 = .ok (.invokevirtual 149, 3) := by decide +kernel
theorem dX2_bestShape_28 : decode cX2_bestShape 28 = .ok (.istore 4, 2) := by decide +kernel
theorem dX2_bestShape_30 : decode cX2_bestShape 30 = .ok (.iload_n 1, 1) := by decide +kernel
theorem dX2_bestShape_31 : decode cX2_bestShape 31 = .ok (.bipush (-5), 2) := by decide +kernel
theorem dX2_bestShape_33 : decode cX2_bestShape 33 = .ok (.if_icmp .eq 9, 3) := by decide +kernel
theorem dX2_bestShape_36 : decode cX2_bestShape 36 = .ok (.iload 4, 2) := by decide +kernel
theorem dX2_bestShape_38 : decode cX2_bestShape 38 = .ok (.iload_n 2, 1) := by decide +kernel
theorem dX2_bestShape_39 : decode cX2_bestShape 39 = .ok (.if_icmp .ge 8, 3) := by decide +kernel
theorem dX2_bestShape_42 : decode cX2_bestShape 42 = .ok (.iload_n 3, 1) := by decide +kernel
theorem dX2_bestShape_43 : decode cX2_bestShape 43 = .ok (.istore_n 1, 1) := by decide +kernel
theorem dX2_bestShape_44 : decode cX2_bestShape 44 = .ok (.iload 4, 2) := by decide +kernel
theorem dX2_bestShape_46 : decode cX2_bestShape 46 = .ok (.istore_n 2, 1) := by decide +kernel
theorem dX2_bestShape_47 : decode cX2_bestShape 47 = .ok (.iinc 3 1, 3) := by decide +kernel
theorem dX2_bestShape_50 : decode cX2_bestShape 50 = .ok (.goto (-43), 3) := by decide +kernel
theorem dX2_bestShape_53 : decode cX2_bestShape 53 = .ok (.iload_n 1, 1) := by decide +kernel
theorem dX2_bestShape_54 : decode cX2_bestShape 54 = .ok (.ireturn, 1) := by decide +kernel
theorem dX2_fewestTicksToCool_0 : decode cX2_fewestTicksToCool 0 = .ok (.bipush (-5), 2) := by decide +kernel
theorem dX2_fewestTicksToCool_2 : decode cX2_fewestTicksToCool 2 = .ok (.istore_n 1, 1) := by decide +kernel
theorem dX2_fewestTicksToCool_3 : decode cX2_fewestTicksToCool 3 = .ok (.iconst 0, 1) := by decide +kernel
theorem dX2_fewestTicksToCool_4 : decode cX2_fewestTicksToCool 4 = .ok (.istore_n 2, 1) := by decide +kernel
theorem dX2_fewestTicksToCool_5 : decode cX2_fewestTicksToCool 5 = .ok (.iload_n 2, 1) := by decide +kernel
theorem dX2_fewestTicksToCool_6 : decode cX2_fewestTicksToCool 6 = .ok (.aload_n 0, 1) := by decide +kernel
theorem dX2_fewestTicksToCool_7 : decode cX2_fewestTicksToCool 7 = .ok (.getfield 25, 3) := by decide +kernel
theorem dX2_fewestTicksToCool_10 : decode cX2_fewestTicksToCool 10 = .ok (.if_icmp .ge 32, 3) := by decide +kernel
theorem dX2_fewestTicksToCool_13 : decode cX2_fewestTicksToCool 13 = .ok (.aload_n 0, 1) := by decide +kernel
theorem dX2_fewestTicksToCool_14 : decode cX2_fewestTicksToCool 14 = .ok (.iload_n 2, 1) := by decide +kernel
theorem dX2_fewestTicksToCool_15 : decode cX2_fewestTicksToCool 15 = .ok (.invokevirtual 152, 3) := by decide +kernel
theorem dX2_fewestTicksToCool_18 : decode cX2_fewestTicksToCool 18 = .ok (.istore_n 3, 1) := by decide +kernel
theorem dX2_fewestTicksToCool_19 : decode cX2_fewestTicksToCool 19 = .ok (.iload_n 3, 1) := by decide +kernel
theorem dX2_fewestTicksToCool_20 : decode cX2_fewestTicksToCool 20 = .ok (.ifCond .lt 16, 3) := by decide +kernel
theorem dX2_fewestTicksToCool_23 : decode cX2_fewestTicksToCool 23 = .ok (.iload_n 1, 1) := by decide +kernel
theorem dX2_fewestTicksToCool_24 : decode cX2_fewestTicksToCool 24 = .ok (.bipush (-5), 2) := by decide +kernel
theorem dX2_fewestTicksToCool_26 : decode cX2_fewestTicksToCool 26 = .ok (.if_icmp .eq 8, 3) := by decide +kernel
theorem dX2_fewestTicksToCool_29 : decode cX2_fewestTicksToCool 29 = .ok (.iload_n 3, 1) := by decide +kernel
theorem dX2_fewestTicksToCool_30 : decode cX2_fewestTicksToCool 30 = .ok (.iload_n 1, 1) := by decide +kernel
theorem dX2_fewestTicksToCool_31 : decode cX2_fewestTicksToCool 31 = .ok (.if_icmp .ge 5, 3) := by decide +kernel
theorem dX2_fewestTicksToCool_34 : decode cX2_fewestTicksToCool 34 = .ok (.iload_n 3, 1) := by decide +kernel
theorem dX2_fewestTicksToCool_35 : decode cX2_fewestTicksToCool 35 = .ok (.istore_n 1, 1) := by decide +kernel
theorem dX2_fewestTicksToCool_36 : decode cX2_fewestTicksToCool 36 = .ok (.iinc 2 1, 3) := by decide +kernel
theorem dX2_fewestTicksToCool_39 : decode cX2_fewestTicksToCool 39 = .ok (.goto (-34), 3) := by decide +kernel
theorem dX2_fewestTicksToCool_42 : decode cX2_fewestTicksToCool 42 = .ok (.iload_n 1, 1) := by decide +kernel
theorem dX2_fewestTicksToCool_43 : decode cX2_fewestTicksToCool 43 = .ok (.ireturn, 1) := by decide +kernel
theorem dX2_cutNext_0 : decode cX2_cutNext 0 = .ok (.aload_n 0, 1) := by decide +kernel
theorem dX2_cutNext_1 : decode cX2_cutNext 1 = .ok (.invokevirtual 155, 3) := by decide +kernel
theorem dX2_cutNext_4 : decode cX2_cutNext 4 = .ok (.istore_n 1, 1) := by decide +kernel
theorem dX2_cutNext_5 : decode cX2_cutNext 5 = .ok (.iload_n 1, 1) := by decide +kernel
theorem dX2_cutNext_6 : decode cX2_cutNext 6 = .ok (.bipush (-5), 2) := by decide +kernel
theorem dX2_cutNext_8 : decode cX2_cutNext 8 = .ok (.if_icmp .ne 27, 3) := by decide +kernel
theorem dX2_cutNext_11 : decode cX2_cutNext 11 = .ok (.aload_n 0, 1) := by decide +kernel
theorem dX2_cutNext_12 : decode cX2_cutNext 12 = .ok (.invokevirtual 158, 3) := by decide +kernel
theorem dX2_cutNext_15 : decode cX2_cutNext 15 = .ok (.istore_n 2, 1) := by decide +kernel
theorem dX2_cutNext_16 : decode cX2_cutNext 16 = .ok (.iload_n 2, 1) := by decide +kernel
theorem dX2_cutNext_17 : decode cX2_cutNext 17 = .ok (.bipush (-5), 2) := by decide +kernel
theorem dX2_cutNext_19 : decode cX2_cutNext 19 = .ok (.if_icmp .ne 6, 3) := by decide +kernel
theorem dX2_cutNext_22 : decode cX2_cutNext 22 = .ok (.bipush (-5), 2) := by decide +kernel
theorem dX2_cutNext_24 : decode cX2_cutNext 24 = .ok (.ireturn, 1) := by decide +kernel
theorem dX2_cutNext_25 : decode cX2_cutNext 25 = .ok (.aload_n 0, 1) := by decide +kernel
theorem dX2_cutNext_26 : decode cX2_cutNext 26 = .ok (.iload_n 2, 1) := by decide +kernel
theorem dX2_cutNext_27 : decode cX2_cutNext 27 = .ok (.invokevirtual 93, 3) := by decide +kernel
theorem dX2_cutNext_30 : decode cX2_cutNext 30 = .ok (.aload_n 0, 1) := by decide +kernel
theorem dX2_cutNext_31 : decode cX2_cutNext 31 = .ok (.invokevirtual 155, 3) := by decide +kernel
theorem dX2_cutNext_34 : decode cX2_cutNext 34 = .ok (.istore_n 1, 1) := by decide +kernel
theorem dX2_cutNext_35 : decode cX2_cutNext 35 = .ok (.iload_n 1, 1) := by decide +kernel
theorem dX2_cutNext_36 : decode cX2_cutNext 36 = .ok (.bipush (-5), 2) := by decide +kernel
theorem dX2_cutNext_38 : decode cX2_cutNext 38 = .ok (.if_icmp .eq 9, 3) := by decide +kernel
theorem dX2_cutNext_41 : decode cX2_cutNext 41 = .ok (.aload_n 0, 1) := by decide +kernel
theorem dX2_cutNext_42 : decode cX2_cutNext 42 = .ok (.iload_n 1, 1) := by decide +kernel
theorem dX2_cutNext_43 : decode cX2_cutNext 43 = .ok (.invokevirtual 161, 3) := by decide +kernel
theorem dX2_cutNext_46 : decode cX2_cutNext 46 = .ok (.pop, 1) := by decide +kernel
theorem dX2_cutNext_47 : decode cX2_cutNext 47 = .ok (.iload_n 1, 1) := by decide +kernel
theorem dX2_cutNext_48 : decode cX2_cutNext 48 = .ok (.ireturn, 1) := by decide +kernel
theorem dX2_heatIn_0 : decode cX2_heatIn 0 = .ok (.iload_n 1, 1) := by decide +kernel
theorem dX2_heatIn_1 : decode cX2_heatIn 1 = .ok (.iconst 0, 1) := by decide +kernel
theorem dX2_heatIn_2 : decode cX2_heatIn 2 = .ok (.bipush 11, 2) := by decide +kernel
theorem dX2_heatIn_4 : decode cX2_heatIn 4 = .ok (.invokestatic 51, 3) := by decide +kernel
theorem dX2_heatIn_7 : decode cX2_heatIn 7 = .ok (.ifCond .eq 12, 3) := by decide +kernel
theorem dX2_heatIn_10 : decode cX2_heatIn 10 = .ok (.aload_n 0, 1) := by decide +kernel
theorem dX2_heatIn_11 : decode cX2_heatIn 11 = .ok (.getfield 18, 3) := by decide +kernel
theorem dX2_heatIn_14 : decode cX2_heatIn 14 = .ok (.iload_n 1, 1) := by decide +kernel
theorem dX2_heatIn_15 : decode cX2_heatIn 15 = .ok (.iaload, 1) := by decide +kernel
theorem dX2_heatIn_16 : decode cX2_heatIn 16 = .ok (.goto 4, 3) := by decide +kernel
theorem dX2_heatIn_19 : decode cX2_heatIn 19 = .ok (.iconst (-1), 1) := by decide +kernel
theorem dX2_heatIn_20 : decode cX2_heatIn 20 = .ok (.ireturn, 1) := by decide +kernel
theorem dX2_greatestHeat_0 : decode cX2_greatestHeat 0 = .ok (.aload_n 0, 1) := by decide +kernel
theorem dX2_greatestHeat_1 : decode cX2_greatestHeat 1 = .ok (.getfield 18, 3) := by decide +kernel
theorem dX2_greatestHeat_4 : decode cX2_greatestHeat 4 = .ok (.aload_n 0, 1) := by decide +kernel
theorem dX2_greatestHeat_5 : decode cX2_greatestHeat 5 = .ok (.invokevirtual 164, 3) := by decide +kernel
theorem dX2_greatestHeat_8 : decode cX2_greatestHeat 8 = .ok (.iaload, 1) := by decide +kernel
theorem dX2_greatestHeat_9 : decode cX2_greatestHeat 9 = .ok (.ireturn, 1) := by decide +kernel
theorem dX2_hottestSquare_0 : decode cX2_hottestSquare 0 = .ok (.iconst 0, 1) := by decide +kernel
theorem dX2_hottestSquare_1 : decode cX2_hottestSquare 1 = .ok (.istore_n 1, 1) := by decide +kernel
theorem dX2_hottestSquare_2 : decode cX2_hottestSquare 2 = .ok (.iconst 1, 1) := by decide +kernel
theorem dX2_hottestSquare_3 : decode cX2_hottestSquare 3 = .ok (.istore_n 2, 1) := by decide +kernel
theorem dX2_hottestSquare_4 : decode cX2_hottestSquare 4 = .ok (.iload_n 2, 1) := by decide +kernel
theorem dX2_hottestSquare_5 : decode cX2_hottestSquare 5 = .ok (.bipush 12, 2) := by decide +kernel
theorem dX2_hottestSquare_7 : decode cX2_hottestSquare 7 = .ok (.if_icmp .ge 26, 3) := by decide +kernel
theorem dX2_hottestSquare_10 : decode cX2_hottestSquare 10 = .ok (.aload_n 0, 1) := by decide +kernel
theorem dX2_hottestSquare_11 : decode cX2_hottestSquare 11 = .ok (.getfield 18, 3) := by decide +kernel
theorem dX2_hottestSquare_14 : decode cX2_hottestSquare 14 = .ok (.iload_n 2, 1) := by decide +kernel
theorem dX2_hottestSquare_15 : decode cX2_hottestSquare 15 = .ok (.iaload, 1) := by decide +kernel
theorem dX2_hottestSquare_16 : decode cX2_hottestSquare 16 = .ok (.aload_n 0, 1) := by decide +kernel
theorem dX2_hottestSquare_17 : decode cX2_hottestSquare 17 = .ok (.getfield 18, 3) := by decide +kernel
theorem dX2_hottestSquare_20 : decode cX2_hottestSquare 20 = .ok (.iload_n 1, 1) := by decide +kernel
theorem dX2_hottestSquare_21 : decode cX2_hottestSquare 21 = .ok (.iaload, 1) := by decide +kernel
theorem dX2_hottestSquare_22 : decode cX2_hottestSquare 22 = .ok (.if_icmp .le 5, 3) := by decide +kernel
theorem dX2_hottestSquare_25 : decode cX2_hottestSquare 25 = .ok (.iload_n 2, 1) := by decide +kernel
theorem dX2_hottestSquare_26 : decode cX2_hottestSquare 26 = .ok (.istore_n 1, 1) := by decide +kernel
theorem dX2_hottestSquare_27 : decode cX2_hottestSquare 27 = .ok (.iinc 2 1, 3) := by decide +kernel
theorem dX2_hottestSquare_30 : decode cX2_hottestSquare 30 = .ok (.goto (-26), 3) := by decide +kernel
theorem dX2_hottestSquare_33 : decode cX2_hottestSquare 33 = .ok (.iload_n 1, 1) := by decide +kernel
theorem dX2_hottestSquare_34 : decode cX2_hottestSquare 34 = .ok (.ireturn, 1) := by decide +kernel
theorem dX2_allHeat_0 : decode cX2_allHeat 0 = .ok (.iconst 0, 1) := by decide +kernel
theorem dX2_allHeat_1 : decode cX2_allHeat 1 = .ok (.istore_n 1, 1) := by decide +kernel
theorem dX2_allHeat_2 : decode cX2_allHeat 2 = .ok (.iconst 0, 1) := by decide +kernel
theorem dX2_allHeat_3 : decode cX2_allHeat 3 = .ok (.istore_n 2, 1) := by decide +kernel
theorem dX2_allHeat_4 : decode cX2_allHeat 4 = .ok (.iload_n 2, 1) := by decide +kernel
theorem dX2_allHeat_5 : decode cX2_allHeat 5 = .ok (.bipush 12, 2) := by decide +kernel
theorem dX2_allHeat_7 : decode cX2_allHeat 7 = .ok (.if_icmp .ge 18, 3) := by decide +kernel
theorem dX2_allHeat_10 : decode cX2_allHeat 10 = .ok (.iload_n 1, 1) := by decide +kernel
theorem dX2_allHeat_11 : decode cX2_allHeat 11 = .ok (.aload_n 0, 1) := by decide +kernel
theorem dX2_allHeat_12 : decode cX2_allHeat 12 = .ok (.getfield 18, 3) := by decide +kernel
theorem dX2_allHeat_15 : decode cX2_allHeat 15 = .ok (.iload_n 2, 1) := by decide +kernel
theorem dX2_allHeat_16 : decode cX2_allHeat 16 = .ok (.iaload, 1) := by decide +kernel
theorem dX2_allHeat_17 : decode cX2_allHeat 17 = .ok (.iadd, 1) := by decide +kernel
theorem dX2_allHeat_18 : decode cX2_allHeat 18 = .ok (.istore_n 1, 1) := by decide +kernel
theorem dX2_allHeat_19 : decode cX2_allHeat 19 = .ok (.iinc 2 1, 3) := by decide +kernel
theorem dX2_allHeat_22 : decode cX2_allHeat 22 = .ok (.goto (-18), 3) := by decide +kernel
theorem dX2_allHeat_25 : decode cX2_allHeat 25 = .ok (.iload_n 1, 1) := by decide +kernel
theorem dX2_allHeat_26 : decode cX2_allHeat 26 = .ok (.ireturn, 1) := by decide +kernel
theorem dX2_shapesThatAre_0 : decode cX2_shapesThatAre 0 = .ok (.iconst 0, 1) := by decide +kernel
theorem dX2_shapesThatAre_1 : decode cX2_shapesThatAre 1 = .ok (.istore_n 2, 1) := by decide +kernel
theorem dX2_shapesThatAre_2 : decode cX2_shapesThatAre 2 = .ok (.iconst 0, 1) := by decide +kernel
theorem dX2_shapesThatAre_3 : decode cX2_shapesThatAre 3 = .ok (.istore_n 3, 1) := by decide +kernel
theorem dX2_shapesThatAre_4 : decode cX2_shapesThatAre 4 = .ok (.iload_n 3, 1) := by decide +kernel
theorem dX2_shapesThatAre_5 : decode cX2_shapesThatAre 5 = .ok (.aload_n 0, 1) := by decide +kernel
theorem dX2_shapesThatAre_6 : decode cX2_shapesThatAre 6 = .ok (.getfield 25, 3) := by decide +kernel
theorem dX2_shapesThatAre_9 : decode cX2_shapesThatAre 9 = .ok (.if_icmp .ge 25, 3) := by decide +kernel
theorem dX2_shapesThatAre_12 : decode cX2_shapesThatAre 12 = .ok (.aload_n 0, 1) := by decide +kernel
theorem dX2_shapesThatAre_13 : decode cX2_shapesThatAre 13 = .ok (.getfield 13, 3) := by decide +kernel
theorem dX2_shapesThatAre_16 : decode cX2_shapesThatAre 16 = .ok (.iload_n 3, 1) := by decide +kernel
theorem dX2_shapesThatAre_17 : decode cX2_shapesThatAre 17 = .ok (.aaload, 1) := by decide +kernel
theorem dX2_shapesThatAre_18 : decode cX2_shapesThatAre 18 = .ok (.getfield 66, 3) := by decide +kernel
theorem dX2_shapesThatAre_21 : decode cX2_shapesThatAre 21 = .ok (.iload_n 1, 1) := by decide +kernel
theorem dX2_shapesThatAre_22 : decode cX2_shapesThatAre 22 = .ok (.if_icmp .ne 6, 3) := by decide +kernel
theorem dX2_shapesThatAre_25 : decode cX2_shapesThatAre 25 = .ok (.iinc 2 1, 3) := by decide +kernel
theorem dX2_shapesThatAre_28 : decode cX2_shapesThatAre 28 = .ok (.iinc 3 1, 3) := by decide +kernel
theorem dX2_shapesThatAre_31 : decode cX2_shapesThatAre 31 = .ok (.goto (-27), 3) := by decide +kernel
theorem dX2_shapesThatAre_34 : decode cX2_shapesThatAre 34 = .ok (.iload_n 2, 1) := by decide +kernel
theorem dX2_shapesThatAre_35 : decode cX2_shapesThatAre 35 = .ok (.ireturn, 1) := by decide +kernel
theorem dX2_shapesThatTilted_0 : decode cX2_shapesThatTilted 0 = .ok (.iconst 0, 1) := by decide +kernel
theorem dX2_shapesThatTilted_1 : decode cX2_shapesThatTilted 1 = .ok (.istore_n 1, 1) := by decide +kernel
theorem dX2_shapesThatTilted_2 : decode cX2_shapesThatTilted 2 = .ok (.iconst 0, 1) := by decide +kernel
theorem dX2_shapesThatTilted_3 : decode cX2_shapesThatTilted 3 = .ok (.istore_n 2, 1) := by decide +kernel
theorem dX2_shapesThatTilted_4 : decode cX2_shapesThatTilted 4 = .ok (.iload_n 2, 1) := by decide +kernel
theorem dX2_shapesThatTilted_5 : decode cX2_shapesThatTilted 5 = .ok (.aload_n 0, 1) := by decide +kernel
theorem dX2_shapesThatTilted_6 : decode cX2_shapesThatTilted 6 = .ok (.getfield 25, 3) := by decide +kernel
theorem dX2_shapesThatTilted_9 : decode cX2_shapesThatTilted 9 = .ok (.if_icmp .ge 21, 3) := by decide +kernel
theorem dX2_shapesThatTilted_12 : decode cX2_shapesThatTilted 12 = .ok (.iload_n 1, 1) := by decide +kernel
theorem dX2_shapesThatTilted_13 : decode cX2_shapesThatTilted 13 = .ok (.aload_n 0, 1) := by decide +kernel
theorem dX2_shapesThatTilted_14 : decode cX2_shapesThatTilted 14 = .ok (.getfield 13, 3) := by decide +kernel
theorem dX2_shapesThatTilted_17 : decode cX2_shapesThatTilted 17 = .ok (.iload_n 2, 1) := by decide +kernel
theorem dX2_shapesThatTilted_18 : decode cX2_shapesThatTilted 18 = .ok (.aaload, 1) := by decide +kernel
theorem dX2_shapesThatTilted_19 : decode cX2_shapesThatTilted 19 = .ok (.getfield 119, 3) := by decide +kernel
theorem dX2_shapesThatTilted_22 : decode cX2_shapesThatTilted 22 = .ok (.iadd, 1) := by decide +kernel
theorem dX2_shapesThatTilted_23 : decode cX2_shapesThatTilted 23 = .ok (.istore_n 1, 1) := by decide +kernel
theorem dX2_shapesThatTilted_24 : decode cX2_shapesThatTilted 24 = .ok (.iinc 2 1, 3) := by decide +kernel
theorem dX2_shapesThatTilted_27 : decode cX2_shapesThatTilted 27 = .ok (.goto (-23), 3) := by decide +kernel
theorem dX2_shapesThatTilted_30 : decode cX2_shapesThatTilted 30 = .ok (.iload_n 1, 1) := by decide +kernel
theorem dX2_shapesThatTilted_31 : decode cX2_shapesThatTilted 31 = .ok (.ireturn, 1) := by decide +kernel
theorem dX2_outerOf_0 : decode cX2_outerOf 0 = .ok (.bipush (-5), 2) := by decide +kernel
theorem dX2_outerOf_2 : decode cX2_outerOf 2 = .ok (.istore_n 2, 1) := by decide +kernel
theorem dX2_outerOf_3 : decode cX2_outerOf 3 = .ok (.iconst 0, 1) := by decide +kernel
theorem dX2_outerOf_4 : decode cX2_outerOf 4 = .ok (.istore_n 3, 1) := by decide +kernel
theorem dX2_outerOf_5 : decode cX2_outerOf 5 = .ok (.iload_n 3, 1) := by decide +kernel
theorem dX2_outerOf_6 : decode cX2_outerOf 6 = .ok (.aload_n 0, 1) := by decide +kernel
theorem dX2_outerOf_7 : decode cX2_outerOf 7 = .ok (.getfield 25, 3) := by decide +kernel
theorem dX2_outerOf_10 : decode cX2_outerOf 10 = .ok (.if_icmp .ge 48, 3) := by decide +kernel
theorem dX2_outerOf_13 : decode cX2_outerOf 13 = .ok (.aload_n 1, 1) := by decide +kernel
theorem dX2_outerOf_14 : decode cX2_outerOf 14 = .ok (.aload_n 0, 1) := by decide +kernel
theorem dX2_outerOf_15 : decode cX2_outerOf 15 = .ok (.getfield 13, 3) := by decide +kernel
theorem dX2_outerOf_18 : decode cX2_outerOf 18 = .ok (.iload_n 3, 1) := by decide +kernel
theorem dX2_outerOf_19 : decode cX2_outerOf 19 = .ok (.aaload, 1) := by decide +kernel
theorem dX2_outerOf_20 : decode cX2_outerOf 20 = .ok (.invokevirtual 63, 3) := by decide +kernel
theorem dX2_outerOf_23 : decode cX2_outerOf 23 = .ok (.ifCond .eq 29, 3) := by decide +kernel
theorem dX2_outerOf_26 : decode cX2_outerOf 26 = .ok (.iload_n 2, 1) := by decide +kernel
theorem dX2_outerOf_27 : decode cX2_outerOf 27 = .ok (.bipush (-5), 2) := by decide +kernel
theorem dX2_outerOf_29 : decode cX2_outerOf 29 = .ok (.if_icmp .eq 21, 3) := by decide +kernel
theorem dX2_outerOf_32 : decode cX2_outerOf 32 = .ok (.aload_n 0, 1) := by decide +kernel
theorem dX2_outerOf_33 : decode cX2_outerOf 33 = .ok (.getfield 13, 3) := by decide +kernel
theorem dX2_outerOf_36 : decode cX2_outerOf 36 = .ok (.iload_n 3, 1) := by decide +kernel
theorem dX2_outerOf_37 : decode cX2_outerOf 37 = .ok (.aaload, 1) := by decide +kernel
theorem dX2_outerOf_38 : decode cX2_outerOf 38 = .ok (.aload_n 0, 1) := by decide +kernel
theorem dX2_outerOf_39 : decode cX2_outerOf 39 = .ok (.getfield 13, 3) := by decide +kernel
theorem dX2_outerOf_42 : decode cX2_outerOf 42 = .ok (.iload_n 2, 1) := by decide +kernel
theorem dX2_outerOf_43 : decode cX2_outerOf 43 = .ok (.aaload, 1) := by decide +kernel
theorem dX2_outerOf_44 : decode cX2_outerOf 44 = .ok (.invokevirtual 63, 3) := by decide +kernel
theorem dX2_outerOf_47 : decode cX2_outerOf 47 = .ok (.ifCond .eq 5, 3) := by decide +kernel
theorem dX2_outerOf_50 : decode cX2_outerOf 50 = .ok (.iload_n 3, 1) := by decide +kernel
theorem dX2_outerOf_51 : decode cX2_outerOf 51 = .ok (.istore_n 2, 1) := by decide +kernel
theorem dX2_outerOf_52 : decode cX2_outerOf 52 = .ok (.iinc 3 1, 3) := by decide +kernel
theorem dX2_outerOf_55 : decode cX2_outerOf 55 = .ok (.goto (-50), 3) := by decide +kernel
theorem dX2_outerOf_58 : decode cX2_outerOf 58 = .ok (.iload_n 2, 1) := by decide +kernel
theorem dX2_outerOf_59 : decode cX2_outerOf 59 = .ok (.ireturn, 1) := by decide +kernel
theorem dX2_setInside_0 : decode cX2_setInside 0 = .ok (.iconst 0, 1) := by decide +kernel
theorem dX2_setInside_1 : decode cX2_setInside 1 = .ok (.istore_n 2, 1) := by decide +kernel
theorem dX2_setInside_2 : decode cX2_setInside 2 = .ok (.iconst 0, 1) := by decide +kernel
theorem dX2_setInside_3 : decode cX2_setInside 3 = .ok (.istore_n 3, 1) := by decide +kernel
theorem dX2_setInside_4 : decode cX2_setInside 4 = .ok (.iload_n 3, 1) := by decide +kernel
theorem dX2_setInside_5 : decode cX2_setInside 5 = .ok (.aload_n 0, 1) := by decide +kernel
theorem dX2_setInside_6 : decode cX2_setInside 6 = .ok (.getfield 25, 3) := by decide +kernel
theorem dX2_setInside_9 : decode cX2_setInside 9 = .ok (.if_icmp .ge 28, 3) := by decide +kernel
theorem dX2_setInside_12 : decode cX2_setInside 12 = .ok (.aload_n 0, 1) := by decide +kernel
theorem dX2_setInside_13 : decode cX2_setInside 13 = .ok (.getfield 13, 3) := by decide +kernel
theorem dX2_setInside_16 : decode cX2_setInside 16 = .ok (.iload_n 3, 1) := by decide +kernel
theorem dX2_setInside_17 : decode cX2_setInside 17 = .ok (.aaload, 1) := by decide +kernel
theorem dX2_setInside_18 : decode cX2_setInside 18 = .ok (.aload_n 1, 1) := by decide +kernel
theorem dX2_setInside_19 : decode cX2_setInside 19 = .ok (.invokevirtual 63, 3) := by decide +kernel
theorem dX2_setInside_22 : decode cX2_setInside 22 = .ok (.ifCond .eq 9, 3) := by decide +kernel
theorem dX2_setInside_25 : decode cX2_setInside 25 = .ok (.iload_n 2, 1) := by decide +kernel
theorem dX2_setInside_26 : decode cX2_setInside 26 = .ok (.iconst 1, 1) := by decide +kernel
theorem dX2_setInside_27 : decode cX2_setInside 27 = .ok (.iload_n 3, 1) := by decide +kernel
theorem dX2_setInside_28 : decode cX2_setInside 28 = .ok (.ishl, 1) := by decide +kernel
theorem dX2_setInside_29 : decode cX2_setInside 29 = .ok (.ior, 1) := by decide +kernel
theorem dX2_setInside_30 : decode cX2_setInside 30 = .ok (.istore_n 2, 1) := by decide +kernel
theorem dX2_setInside_31 : decode cX2_setInside 31 = .ok (.iinc 3 1, 3) := by decide +kernel
theorem dX2_setInside_34 : decode cX2_setInside 34 = .ok (.goto (-30), 3) := by decide +kernel
theorem dX2_setInside_37 : decode cX2_setInside 37 = .ok (.iload_n 2, 1) := by decide +kernel
theorem dX2_setInside_38 : decode cX2_setInside 38 = .ok (.ireturn, 1) := by decide +kernel
theorem dX2_factOfShape_0 : decode cX2_factOfShape 0 = .ok (.aload_n 0, 1) := by decide +kernel
theorem dX2_factOfShape_1 : decode cX2_factOfShape 1 = .ok (.iload_n 1, 1) := by decide +kernel
theorem dX2_factOfShape_2 : decode cX2_factOfShape 2 = .ok (.invokevirtual 72, 3) := by decide +kernel
theorem dX2_factOfShape_5 : decode cX2_factOfShape 5 = .ok (.ifCond .ne 5, 3) := by decide +kernel
theorem dX2_factOfShape_8 : decode cX2_factOfShape 8 = .ok (.iconst (-1), 1) := by decide +kernel
theorem dX2_factOfShape_9 : decode cX2_factOfShape 9 = .ok (.ireturn, 1) := by decide +kernel
theorem dX2_factOfShape_10 : decode cX2_factOfShape 10 = .ok (.aload_n 0, 1) := by decide +kernel
theorem dX2_factOfShape_11 : decode cX2_factOfShape 11 = .ok (.getfield 13, 3) := by decide +kernel
theorem dX2_factOfShape_14 : decode cX2_factOfShape 14 = .ok (.iload_n 1, 1) := by decide +kernel
theorem dX2_factOfShape_15 : decode cX2_factOfShape 15 = .ok (.aaload, 1) := by decide +kernel
theorem dX2_factOfShape_16 : decode cX2_factOfShape 16 = .ok (.astore_n 3, 1) := by decide +kernel
theorem dX2_factOfShape_17 : decode cX2_factOfShape 17 = .ok (.iload_n 2, 1) := by decide +kernel
theorem dX2_factOfShape_18 : decode cX2_factOfShape 18 = .ok (.tableswitch 115 0 10 #[58, 63, 68, 73, 78, 83, 88, 94, 100, 105, 110], 58) := by decide +kernel
theorem dX2_factOfShape_76 : decode cX2_factOfShape 76 = .ok (.aload_n 3, 1) := by decide +kernel
theorem dX2_factOfShape_77 : decode cX2_factOfShape 77 = .ok (.getfield 167, 3) := by decide +kernel
theorem dX2_factOfShape_80 : decode cX2_factOfShape 80 = .ok (.ireturn, 1) := by decide +kernel
theorem dX2_factOfShape_81 : decode cX2_factOfShape 81 = .ok (.aload_n 3, 1) := by decide +kernel
theorem dX2_factOfShape_82 : decode cX2_factOfShape 82 = .ok (.getfield 170, 3) := by decide +kernel
theorem dX2_factOfShape_85 : decode cX2_factOfShape 85 = .ok (.ireturn, 1) := by decide +kernel
theorem dX2_factOfShape_86 : decode cX2_factOfShape 86 = .ok (.aload_n 3, 1) := by decide +kernel
theorem dX2_factOfShape_87 : decode cX2_factOfShape 87 = .ok (.getfield 173, 3) := by decide +kernel
theorem dX2_factOfShape_90 : decode cX2_factOfShape 90 = .ok (.ireturn, 1) := by decide +kernel
theorem dX2_factOfShape_91 : decode cX2_factOfShape 91 = .ok (.aload_n 3, 1) := by decide +kernel
theorem dX2_factOfShape_92 : decode cX2_factOfShape 92 = .ok (.getfield 176, 3) := by decide +kernel
theorem dX2_factOfShape_95 : decode cX2_factOfShape 95 = .ok (.ireturn, 1) := by decide +kernel
theorem dX2_factOfShape_96 : decode cX2_factOfShape 96 = .ok (.aload_n 3, 1) := by decide +kernel
theorem dX2_factOfShape_97 : decode cX2_factOfShape 97 = .ok (.getfield 76, 3) := by decide +kernel
theorem dX2_factOfShape_100 : decode cX2_factOfShape 100 = .ok (.ireturn, 1) := by decide +kernel
theorem dX2_factOfShape_101 : decode cX2_factOfShape 101 = .ok (.aload_n 3, 1) := by decide +kernel
theorem dX2_factOfShape_102 : decode cX2_factOfShape 102 = .ok (.getfield 66, 3) := by decide +kernel
theorem dX2_factOfShape_105 : decode cX2_factOfShape 105 = .ok (.ireturn, 1) := by decide +kernel
theorem dX2_factOfShape_106 : decode cX2_factOfShape 106 = .ok (.aload_n 0, 1) := by decide +kernel
theorem dX2_factOfShape_107 : decode cX2_factOfShape 107 = .ok (.aload_n 3, 1) := by decide +kernel
theorem dX2_factOfShape_108 : decode cX2_factOfShape 108 = .ok (.invokevirtual 179, 3) := by decide +kernel
theorem dX2_factOfShape_111 : decode cX2_factOfShape 111 = .ok (.ireturn, 1) := by decide +kernel
theorem dX2_factOfShape_112 : decode cX2_factOfShape 112 = .ok (.aload_n 0, 1) := by decide +kernel
theorem dX2_factOfShape_113 : decode cX2_factOfShape 113 = .ok (.aload_n 3, 1) := by decide +kernel
theorem dX2_factOfShape_114 : decode cX2_factOfShape 114 = .ok (.invokevirtual 182, 3) := by decide +kernel
theorem dX2_factOfShape_117 : decode cX2_factOfShape 117 = .ok (.ireturn, 1) := by decide +kernel
theorem dX2_factOfShape_118 : decode cX2_factOfShape 118 = .ok (.aload_n 3, 1) := by decide +kernel
theorem dX2_factOfShape_119 : decode cX2_factOfShape 119 = .ok (.invokevirtual 140, 3) := by decide +kernel
theorem dX2_factOfShape_122 : decode cX2_factOfShape 122 = .ok (.ireturn, 1) := by decide +kernel
theorem dX2_factOfShape_123 : decode cX2_factOfShape 123 = .ok (.aload_n 3, 1) := by decide +kernel
theorem dX2_factOfShape_124 : decode cX2_factOfShape 124 = .ok (.getfield 119, 3) := by decide +kernel
theorem dX2_factOfShape_127 : decode cX2_factOfShape 127 = .ok (.ireturn, 1) := by decide +kernel
theorem dX2_factOfShape_128 : decode cX2_factOfShape 128 = .ok (.aload_n 3, 1) := by decide +kernel
theorem dX2_factOfShape_129 : decode cX2_factOfShape 129 = .ok (.getfield 107, 3) := by decide +kernel
theorem dX2_factOfShape_132 : decode cX2_factOfShape 132 = .ok (.ireturn, 1) := by decide +kernel
theorem dX2_factOfShape_133 : decode cX2_factOfShape 133 = .ok (.bipush (-2), 2) := by decide +kernel
theorem dX2_factOfShape_135 : decode cX2_factOfShape 135 = .ok (.ireturn, 1) := by decide +kernel
theorem dX2_factOfSheet_0 : decode cX2_factOfSheet 0 = .ok (.iload_n 1, 1) := by decide +kernel
theorem dX2_factOfSheet_1 : decode cX2_factOfSheet 1 = .ok (.tableswitch 179 0 16 #[83, 88, 94, 100, 106, 111, 116, 121, 126, 131, 136, 141, 146, 151, 158, 165, 172], 83) := by decide +kernel
theorem dX2_factOfSheet_84 : decode cX2_factOfSheet 84 = .ok (.aload_n 0, 1) := by decide +kernel
theorem dX2_factOfSheet_85 : decode cX2_factOfSheet 85 = .ok (.getfield 25, 3) := by decide +kernel
theorem dX2_factOfSheet_88 : decode cX2_factOfSheet 88 = .ok (.ireturn, 1) := by decide +kernel
theorem dX2_factOfSheet_89 : decode cX2_factOfSheet 89 = .ok (.aload_n 0, 1) := by decide +kernel
theorem dX2_factOfSheet_90 : decode cX2_factOfSheet 90 = .ok (.iconst 0, 1) := by decide +kernel
theorem dX2_factOfSheet_91 : decode cX2_factOfSheet 91 = .ok (.invokevirtual 185, 3) := by decide +kernel
theorem dX2_factOfSheet_94 : decode cX2_factOfSheet 94 = .ok (.ireturn, 1) := by decide +kernel
theorem dX2_factOfSheet_95 : decode cX2_factOfSheet 95 = .ok (.aload_n 0, 1) := by decide +kernel
theorem dX2_factOfSheet_96 : decode cX2_factOfSheet 96 = .ok (.iconst 1, 1) := by decide +kernel
theorem dX2_factOfSheet_97 : decode cX2_factOfSheet 97 = .ok (.invokevirtual 185, 3) := by decide +kernel
theorem dX2_factOfSheet_100 : decode cX2_factOfSheet 100 = .ok (.ireturn, 1) := by decide +kernel
theorem dX2_factOfSheet_101 : decode cX2_factOfSheet 101 = .ok (.aload_n 0, 1) := by decide +kernel
theorem dX2_factOfSheet_102 : decode cX2_factOfSheet 102 = .ok (.iconst 2, 1) := by decide +kernel
theorem dX2_factOfSheet_103 : decode cX2_factOfSheet 103 = .ok (.invokevirtual 185, 3) := by decide +kernel
theorem dX2_factOfSheet_106 : decode cX2_factOfSheet 106 = .ok (.ireturn, 1) := by decide +kernel
theorem dX2_factOfSheet_107 : decode cX2_factOfSheet 107 = .ok (.aload_n 0, 1) := by decide +kernel
theorem dX2_factOfSheet_108 : decode cX2_factOfSheet 108 = .ok (.invokevirtual 188, 3) := by decide +kernel
theorem dX2_factOfSheet_111 : decode cX2_factOfSheet 111 = .ok (.ireturn, 1) := by decide +kernel
theorem dX2_factOfSheet_112 : decode cX2_factOfSheet 112 = .ok (.aload_n 0, 1) := by decide +kernel
theorem dX2_factOfSheet_113 : decode cX2_factOfSheet 113 = .ok (.getfield 35, 3) := by decide +kernel
theorem dX2_factOfSheet_116 : decode cX2_factOfSheet 116 = .ok (.ireturn, 1) := by decide +kernel
theorem dX2_factOfSheet_117 : decode cX2_factOfSheet 117 = .ok (.aload_n 0, 1) := by decide +kernel
theorem dX2_factOfSheet_118 : decode cX2_factOfSheet 118 = .ok (.getfield 29, 3) := by decide +kernel
theorem dX2_factOfSheet_121 : decode cX2_factOfSheet 121 = .ok (.ireturn, 1) := by decide +kernel
theorem dX2_factOfSheet_122 : decode cX2_factOfSheet 122 = .ok (.aload_n 0, 1) := by decide +kernel
theorem dX2_factOfSheet_123 : decode cX2_factOfSheet 123 = .ok (.getfield 32, 3) := by decide +kernel
theorem dX2_factOfSheet_126 : decode cX2_factOfSheet 126 = .ok (.ireturn, 1) := by decide +kernel
theorem dX2_factOfSheet_127 : decode cX2_factOfSheet 127 = .ok (.aload_n 0, 1) := by decide +kernel
theorem dX2_factOfSheet_128 : decode cX2_factOfSheet 128 = .ok (.getfield 38, 3) := by decide +kernel
theorem dX2_factOfSheet_131 : decode cX2_factOfSheet 131 = .ok (.ireturn, 1) := by decide +kernel
theorem dX2_factOfSheet_132 : decode cX2_factOfSheet 132 = .ok (.aload_n 0, 1) := by decide +kernel
theorem dX2_factOfSheet_133 : decode cX2_factOfSheet 133 = .ok (.getfield 41, 3) := by decide +kernel
theorem dX2_factOfSheet_136 : decode cX2_factOfSheet 136 = .ok (.ireturn, 1) := by decide +kernel
theorem dX2_factOfSheet_137 : decode cX2_factOfSheet 137 = .ok (.aload_n 0, 1) := by decide +kernel
theorem dX2_factOfSheet_138 : decode cX2_factOfSheet 138 = .ok (.invokevirtual 116, 3) := by decide +kernel
theorem dX2_factOfSheet_141 : decode cX2_factOfSheet 141 = .ok (.ireturn, 1) := by decide +kernel
theorem dX2_factOfSheet_142 : decode cX2_factOfSheet 142 = .ok (.aload_n 0, 1) := by decide +kernel
theorem dX2_factOfSheet_143 : decode cX2_factOfSheet 143 = .ok (.invokevirtual 164, 3) := by decide +kernel
theorem dX2_factOfSheet_146 : decode cX2_factOfSheet 146 = .ok (.ireturn, 1) := by decide +kernel
theorem dX2_factOfSheet_147 : decode cX2_factOfSheet 147 = .ok (.aload_n 0, 1) := by decide +kernel
theorem dX2_factOfSheet_148 : decode cX2_factOfSheet 148 = .ok (.invokevirtual 191, 3) := by decide +kernel
theorem dX2_factOfSheet_151 : decode cX2_factOfSheet 151 = .ok (.ireturn, 1) := by decide +kernel
theorem dX2_factOfSheet_152 : decode cX2_factOfSheet 152 = .ok (.aload_n 0, 1) := by decide +kernel
theorem dX2_factOfSheet_153 : decode cX2_factOfSheet 153 = .ok (.getfield 22, 3) := by decide +kernel
theorem dX2_factOfSheet_156 : decode cX2_factOfSheet 156 = .ok (.iconst 0, 1) := by decide +kernel
theorem dX2_factOfSheet_157 : decode cX2_factOfSheet 157 = .ok (.iaload, 1) := by decide +kernel
theorem dX2_factOfSheet_158 : decode cX2_factOfSheet 158 = .ok (.ireturn, 1) := by decide +kernel
theorem dX2_factOfSheet_159 : decode cX2_factOfSheet 159 = .ok (.aload_n 0, 1) := by decide +kernel
theorem dX2_factOfSheet_160 : decode cX2_factOfSheet 160 = .ok (.getfield 22, 3) := by decide +kernel
theorem dX2_factOfSheet_163 : decode cX2_factOfSheet 163 = .ok (.iconst 1, 1) := by decide +kernel
theorem dX2_factOfSheet_164 : decode cX2_factOfSheet 164 = .ok (.iaload, 1) := by decide +kernel
theorem dX2_factOfSheet_165 : decode cX2_factOfSheet 165 = .ok (.ireturn, 1) := by decide +kernel
theorem dX2_factOfSheet_166 : decode cX2_factOfSheet 166 = .ok (.aload_n 0, 1) := by decide +kernel
theorem dX2_factOfSheet_167 : decode cX2_factOfSheet 167 = .ok (.getfield 22, 3) := by decide +kernel
theorem dX2_factOfSheet_170 : decode cX2_factOfSheet 170 = .ok (.iconst 2, 1) := by decide +kernel
theorem dX2_factOfSheet_171 : decode cX2_factOfSheet 171 = .ok (.iaload, 1) := by decide +kernel
theorem dX2_factOfSheet_172 : decode cX2_factOfSheet 172 = .ok (.ireturn, 1) := by decide +kernel
theorem dX2_factOfSheet_173 : decode cX2_factOfSheet 173 = .ok (.aload_n 0, 1) := by decide +kernel
theorem dX2_factOfSheet_174 : decode cX2_factOfSheet 174 = .ok (.getfield 22, 3) := by decide +kernel
theorem dX2_factOfSheet_177 : decode cX2_factOfSheet 177 = .ok (.iconst 3, 1) := by decide +kernel
theorem dX2_factOfSheet_178 : decode cX2_factOfSheet 178 = .ok (.iaload, 1) := by decide +kernel
theorem dX2_factOfSheet_179 : decode cX2_factOfSheet 179 = .ok (.ireturn, 1) := by decide +kernel
theorem dX2_factOfSheet_180 : decode cX2_factOfSheet 180 = .ok (.bipush (-2), 2) := by decide +kernel
theorem dX2_factOfSheet_182 : decode cX2_factOfSheet 182 = .ok (.ireturn, 1) := by decide +kernel
theorem dX3_init_0 : decode cX3_init 0 = .ok (.aload_n 0, 1) := by decide +kernel
theorem dX3_init_1 : decode cX3_init 1 = .ok (.invokespecial 1, 3) := by decide +kernel
theorem dX3_init_4 : decode cX3_init 4 = .ok (.aload_n 0, 1) := by decide +kernel
theorem dX3_init_5 : decode cX3_init 5 = .ok (.new 7, 3) := by decide +kernel
theorem dX3_init_8 : decode cX3_init 8 = .ok (.dup, 1) := by decide +kernel
theorem dX3_init_9 : decode cX3_init 9 = .ok (.invokespecial 9, 3) := by decide +kernel
theorem dX3_init_12 : decode cX3_init 12 = .ok (.putfield 10, 3) := by decide +kernel
theorem dX3_init_15 : decode cX3_init 15 = .ok (.aload_n 0, 1) := by decide +kernel
theorem dX3_init_16 : decode cX3_init 16 = .ok (.new 7, 3) := by decide +kernel
theorem dX3_init_19 : decode cX3_init 19 = .ok (.dup, 1) := by decide +kernel
theorem dX3_init_20 : decode cX3_init 20 = .ok (.invokespecial 9, 3) := by decide +kernel
theorem dX3_init_23 : decode cX3_init 23 = .ok (.putfield 16, 3) := by decide +kernel
theorem dX3_init_26 : decode cX3_init 26 = .ok (.aload_n 0, 1) := by decide +kernel
theorem dX3_init_27 : decode cX3_init 27 = .ok (.new 7, 3) := by decide +kernel
theorem dX3_init_30 : decode cX3_init 30 = .ok (.dup, 1) := by decide +kernel
theorem dX3_init_31 : decode cX3_init 31 = .ok (.invokespecial 9, 3) := by decide +kernel
theorem dX3_init_34 : decode cX3_init 34 = .ok (.putfield 19, 3) := by decide +kernel
theorem dX3_init_37 : decode cX3_init 37 = .ok (.aload_n 0, 1) := by decide +kernel
theorem dX3_init_38 : decode cX3_init 38 = .ok (.new 7, 3) := by decide +kernel
theorem dX3_init_41 : decode cX3_init 41 = .ok (.dup, 1) := by decide +kernel
theorem dX3_init_42 : decode cX3_init 42 = .ok (.invokespecial 9, 3) := by decide +kernel
theorem dX3_init_45 : decode cX3_init 45 = .ok (.putfield 22, 3) := by decide +kernel
theorem dX3_init_48 : decode cX3_init 48 = .ok (.aload_n 0, 1) := by decide +kernel
theorem dX3_init_49 : decode cX3_init 49 = .ok (.iconst 4, 1) := by decide +kernel
theorem dX3_init_50 : decode cX3_init 50 = .ok (.anewarray 7, 3) := by decide +kernel
theorem dX3_init_53 : decode cX3_init 53 = .ok (.putfield 25, 3) := by decide +kernel
theorem dX3_init_56 : decode cX3_init 56 = .ok (.iconst 0, 1) := by decide +kernel
theorem dX3_init_57 : decode cX3_init 57 = .ok (.istore_n 1, 1) := by decide +kernel
theorem dX3_init_58 : decode cX3_init 58 = .ok (.iload_n 1, 1) := by decide +kernel
theorem dX3_init_59 : decode cX3_init 59 = .ok (.iconst 4, 1) := by decide +kernel
theorem dX3_init_60 : decode cX3_init 60 = .ok (.if_icmp .ge 22, 3) := by decide +kernel
theorem dX3_init_63 : decode cX3_init 63 = .ok (.aload_n 0, 1) := by decide +kernel
theorem dX3_init_64 : decode cX3_init 64 = .ok (.getfield 25, 3) := by decide +kernel
theorem dX3_init_67 : decode cX3_init 67 = .ok (.iload_n 1, 1) := by decide +kernel
theorem dX3_init_68 : decode cX3_init 68 = .ok (.new 7, 3) := by decide +kernel
theorem dX3_init_71 : decode cX3_init 71 = .ok (.dup, 1) := by decide +kernel
theorem dX3_init_72 : decode cX3_init 72 = .ok (.invokespecial 9, 3) := by decide +kernel
theorem dX3_init_75 : decode cX3_init 75 = .ok (.aastore, 1) := by decide +kernel
theorem dX3_init_76 : decode cX3_init 76 = .ok (.iinc 1 1, 3) := by decide +kernel
theorem dX3_init_79 : decode cX3_init 79 = .ok (.goto (-21), 3) := by decide +kernel
theorem dX3_init_82 : decode cX3_init 82 = .ok (.aload_n 0, 1) := by decide +kernel
theorem dX3_init_83 : decode cX3_init 83 = .ok (.new 29, 3) := by decide +kernel
theorem dX3_init_86 : decode cX3_init 86 = .ok (.dup, 1) := by decide +kernel
theorem dX3_init_87 : decode cX3_init 87 = .ok (.invokespecial 31, 3) := by decide +kernel
theorem dX3_init_90 : decode cX3_init 90 = .ok (.putfield 32, 3) := by decide +kernel
theorem dX3_init_93 : decode cX3_init 93 = .ok (.aload_n 0, 1) := by decide +kernel
theorem dX3_init_94 : decode cX3_init 94 = .ok (.iconst 0, 1) := by decide +kernel
theorem dX3_init_95 : decode cX3_init 95 = .ok (.putfield 36, 3) := by decide +kernel
theorem dX3_init_98 : decode cX3_init 98 = .ok (.aload_n 0, 1) := by decide +kernel
theorem dX3_init_99 : decode cX3_init 99 = .ok (.iconst 0, 1) := by decide +kernel
theorem dX3_init_100 : decode cX3_init 100 = .ok (.putfield 40, 3) := by decide +kernel
theorem dX3_init_103 : decode cX3_init 103 = .ok (.aload_n 0, 1) := by decide +kernel
theorem dX3_init_104 : decode cX3_init 104 = .ok (.iconst 0, 1) := by decide +kernel
theorem dX3_init_105 : decode cX3_init 105 = .ok (.putfield 44, 3) := by decide +kernel
theorem dX3_init_108 : decode cX3_init 108 = .ok (.aload_n 0, 1) := by decide +kernel
theorem dX3_init_109 : decode cX3_init 109 = .ok (.iconst 0, 1) := by decide +kernel
theorem dX3_init_110 : decode cX3_init 110 = .ok (.putfield 47, 3) := by decide +kernel
theorem dX3_init_113 : decode cX3_init 113 = .ok (.return_, 1) := by decide +kernel
theorem dX3_tell_0 : decode cX3_tell 0 = .ok (.aload_n 0, 1) := by decide +kernel
theorem dX3_tell_1 : decode cX3_tell 1 = .ok (.getfield 16, 3) := by decide +kernel
theorem dX3_tell_4 : decode cX3_tell 4 = .ok (.aload_n 0, 1) := by decide +kernel
theorem dX3_tell_5 : decode cX3_tell 5 = .ok (.getfield 10, 3) := by decide +kernel
theorem dX3_tell_8 : decode cX3_tell 8 = .ok (.invokevirtual 50, 3) := by decide +kernel
theorem dX3_tell_11 : decode cX3_tell 11 = .ok (.aload_n 0, 1) := by decide +kernel
theorem dX3_tell_12 : decode cX3_tell 12 = .ok (.aload_n 0, 1) := by decide +kernel
theorem dX3_tell_13 : decode cX3_tell 13 = .ok (.getfield 10, 3) := by decide +kernel
theorem dX3_tell_16 : decode cX3_tell 16 = .ok (.iload_n 1, 1) := by decide +kernel
theorem dX3_tell_17 : decode cX3_tell 17 = .ok (.iload_n 2, 1) := by decide +kernel
theorem dX3_tell_18 : decode cX3_tell 18 = .ok (.iload_n 3, 1) := by decide +kernel
theorem dX3_tell_19 : decode cX3_tell 19 = .ok (.iload 4, 2) := by decide +kernel
theorem dX3_tell_21 : decode cX3_tell 21 = .ok (.invokevirtual 54, 3) := by decide +kernel
theorem dX3_tell_24 : decode cX3_tell 24 = .ok (.invokevirtual 58, 3) := by decide +kernel
theorem dX3_tell_27 : decode cX3_tell 27 = .ok (.ireturn, 1) := by decide +kernel
theorem dX3_setLead_0 : decode cX3_setLead 0 = .ok (.aload_n 0, 1) := by decide +kernel
theorem dX3_setLead_1 : decode cX3_setLead 1 = .ok (.getfield 16, 3) := by decide +kernel
theorem dX3_setLead_4 : decode cX3_setLead 4 = .ok (.aload_n 0, 1) := by decide +kernel
theorem dX3_setLead_5 : decode cX3_setLead 5 = .ok (.getfield 10, 3) := by decide +kernel
theorem dX3_setLead_8 : decode cX3_setLead 8 = .ok (.invokevirtual 50, 3) := by decide +kernel
theorem dX3_setLead_11 : decode cX3_setLead 11 = .ok (.aload_n 0, 1) := by decide +kernel
theorem dX3_setLead_12 : decode cX3_setLead 12 = .ok (.aload_n 0, 1) := by decide +kernel
theorem dX3_setLead_13 : decode cX3_setLead 13 = .ok (.getfield 10, 3) := by decide +kernel
theorem dX3_setLead_16 : decode cX3_setLead 16 = .ok (.iload_n 1, 1) := by decide +kernel
theorem dX3_setLead_17 : decode cX3_setLead 17 = .ok (.iload_n 2, 1) := by decide +kernel
theorem dX3_setLead_18 : decode cX3_setLead 18 = .ok (.invokevirtual 62, 3) := by decide +kernel
theorem dX3_setLead_21 : decode cX3_setLead 21 = .ok (.invokevirtual 58, 3) := by decide +kernel
theorem dX3_setLead_24 : decode cX3_setLead 24 = .ok (.ireturn, 1) := by decide +kernel
theorem dX3_set_0 : decode cX3_set 0 = .ok (.aload_n 0, 1) := by decide +kernel
theorem dX3_set_1 : decode cX3_set 1 = .ok (.getfield 16, 3) := by decide +kernel
theorem dX3_set_4 : decode cX3_set 4 = .ok (.aload_n 0, 1) := by decide +kernel
theorem dX3_set_5 : decode cX3_set 5 = .ok (.getfield 10, 3) := by decide +kernel
theorem dX3_set_8 : decode cX3_set 8 = .ok (.invokevirtual 50, 3) := by decide +kernel
theorem dX3_set_11 : decode cX3_set 11 = .ok (.aload_n 0, 1) := by decide +kernel
theorem dX3_set_12 : decode cX3_set 12 = .ok (.aload_n 0, 1) := by decide +kernel
theorem dX3_set_13 : decode cX3_set 13 = .ok (.getfield 10, 3) := by decide +kernel
theorem dX3_set_16 : decode cX3_set 16 = .ok (.iload_n 1, 1) := by decide +kernel
theorem dX3_set_17 : decode cX3_set 17 = .ok (.iload_n 2, 1) := by decide +kernel
theorem dX3_set_18 : decode cX3_set 18 = .ok (.invokevirtual 66, 3) := by decide +kernel
theorem dX3_set_21 : decode cX3_set 21 = .ok (.invokevirtual 58, 3) := by decide +kernel
theorem dX3_set_24 : decode cX3_set 24 = .ok (.ireturn, 1) := by decide +kernel
theorem dX3_cut_0 : decode cX3_cut 0 = .ok (.aload_n 0, 1) := by decide +kernel
theorem dX3_cut_1 : decode cX3_cut 1 = .ok (.getfield 16, 3) := by decide +kernel
theorem dX3_cut_4 : decode cX3_cut 4 = .ok (.aload_n 0, 1) := by decide +kernel
theorem dX3_cut_5 : decode cX3_cut 5 = .ok (.getfield 10, 3) := by decide +kernel
theorem dX3_cut_8 : decode cX3_cut 8 = .ok (.invokevirtual 50, 3) := by decide +kernel
theorem dX3_cut_11 : decode cX3_cut 11 = .ok (.aload_n 0, 1) := by decide +kernel
theorem dX3_cut_12 : decode cX3_cut 12 = .ok (.aload_n 0, 1) := by decide +kernel
theorem dX3_cut_13 : decode cX3_cut 13 = .ok (.getfield 10, 3) := by decide +kernel
theorem dX3_cut_16 : decode cX3_cut 16 = .ok (.iload_n 1, 1) := by decide +kernel
theorem dX3_cut_17 : decode cX3_cut 17 = .ok (.invokevirtual 69, 3) := by decide +kernel
theorem dX3_cut_20 : decode cX3_cut 20 = .ok (.invokevirtual 58, 3) := by decide +kernel
theorem dX3_cut_23 : decode cX3_cut 23 = .ok (.ireturn, 1) := by decide +kernel
theorem dX3_pause_0 : decode cX3_pause 0 = .ok (.aload_n 0, 1) := by decide +kernel
theorem dX3_pause_1 : decode cX3_pause 1 = .ok (.getfield 16, 3) := by decide +kernel
theorem dX3_pause_4 : decode cX3_pause 4 = .ok (.aload_n 0, 1) := by decide +kernel
theorem dX3_pause_5 : decode cX3_pause 5 = .ok (.getfield 10, 3) := by decide +kernel
theorem dX3_pause_8 : decode cX3_pause 8 = .ok (.invokevirtual 50, 3) := by decide +kernel
theorem dX3_pause_11 : decode cX3_pause 11 = .ok (.aload_n 0, 1) := by decide +kernel
theorem dX3_pause_12 : decode cX3_pause 12 = .ok (.aload_n 0, 1) := by decide +kernel
theorem dX3_pause_13 : decode cX3_pause 13 = .ok (.getfield 10, 3) := by decide +kernel
theorem dX3_pause_16 : decode cX3_pause 16 = .ok (.iload_n 1, 1) := by decide +kernel
theorem dX3_pause_17 : decode cX3_pause 17 = .ok (.invokevirtual 72, 3) := by decide +kernel
theorem dX3_pause_20 : decode cX3_pause 20 = .ok (.invokevirtual 58, 3) := by decide +kernel
theorem dX3_pause_23 : decode cX3_pause 23 = .ok (.ireturn, 1) := by decide +kernel
theorem dX3_clean_0 : decode cX3_clean 0 = .ok (.aload_n 0, 1) := by decide +kernel
theorem dX3_clean_1 : decode cX3_clean 1 = .ok (.getfield 16, 3) := by decide +kernel
theorem dX3_clean_4 : decode cX3_clean 4 = .ok (.aload_n 0, 1) := by decide +kernel
theorem dX3_clean_5 : decode cX3_clean 5 = .ok (.getfield 10, 3) := by decide +kernel
theorem dX3_clean_8 : decode cX3_clean 8 = .ok (.invokevirtual 50, 3) := by decide +kernel
theorem dX3_clean_11 : decode cX3_clean 11 = .ok (.aload_n 0, 1) := by decide +kernel
theorem dX3_clean_12 : decode cX3_clean 12 = .ok (.aload_n 0, 1) := by decide +kernel
theorem dX3_clean_13 : decode cX3_clean 13 = .ok (.getfield 10, 3) := by decide +kernel
theorem dX3_clean_16 : decode cX3_clean 16 = .ok (.invokevirtual 75, 3) := by decide +kernel
theorem dX3_clean_19 : decode cX3_clean 19 = .ok (.invokevirtual 58, 3) := by decide +kernel
theorem dX3_clean_22 : decode cX3_clean 22 = .ok (.ireturn, 1) := by decide +kernel
theorem dX3_type_0 : decode cX3_type 0 = .ok (.aload_n 0, 1) := by decide +kernel
theorem dX3_type_1 : decode cX3_type 1 = .ok (.getfield 32, 3) := by decide +kernel
theorem dX3_type_4 : decode cX3_type 4 = .ok (.iload_n 1, 1) := by decide +kernel
theorem dX3_type_5 : decode cX3_type 5 = .ok (.invokevirtual 79, 3) := by decide +kernel
theorem dX3_type_8 : decode cX3_type 8 = .ok (.ireturn, 1) := by decide +kernel
theorem dX3_clearText_0 : decode cX3_clearText 0 = .ok (.aload_n 0, 1) := by decide +kernel
theorem dX3_clearText_1 : decode cX3_clearText 1 = .ok (.getfield 32, 3) := by decide +kernel
theorem dX3_clearText_4 : decode cX3_clearText 4 = .ok (.invokevirtual 83, 3) := by decide +kernel
theorem dX3_clearText_7 : decode cX3_clearText 7 = .ok (.ireturn, 1) := by decide +kernel
theorem dX3_perform_0 : decode cX3_perform 0 = .ok (.aload_n 0, 1) := by decide +kernel
theorem dX3_perform_1 : decode cX3_perform 1 = .ok (.getfield 32, 3) := by decide +kernel
theorem dX3_perform_4 : decode cX3_perform 4 = .ok (.invokevirtual 86, 3) := by decide +kernel
theorem dX3_perform_7 : decode cX3_perform 7 = .ok (.istore_n 1, 1) := by decide +kernel
theorem dX3_perform_8 : decode cX3_perform 8 = .ok (.iload_n 1, 1) := by decide +kernel
theorem dX3_perform_9 : decode cX3_perform 9 = .ok (.iconst (-1), 1) := by decide +kernel
theorem dX3_perform_10 : decode cX3_perform 10 = .ok (.if_icmp .eq 8, 3) := by decide +kernel
theorem dX3_perform_13 : decode cX3_perform 13 = .ok (.bipush (-100), 2) := by decide +kernel
theorem dX3_perform_15 : decode cX3_perform 15 = .ok (.iload_n 1, 1) := by decide +kernel
theorem dX3_perform_16 : decode cX3_perform 16 = .ok (.isub, 1) := by decide +kernel
theorem dX3_perform_17 : decode cX3_perform 17 = .ok (.ireturn, 1) := by decide +kernel
theorem dX3_perform_18 : decode cX3_perform 18 = .ok (.aload_n 0, 1) := by decide +kernel
theorem dX3_perform_19 : decode cX3_perform 19 = .ok (.getfield 16, 3) := by decide +kernel
theorem dX3_perform_22 : decode cX3_perform 22 = .ok (.aload_n 0, 1) := by decide +kernel
theorem dX3_perform_23 : decode cX3_perform 23 = .ok (.getfield 10, 3) := by decide +kernel
theorem dX3_perform_26 : decode cX3_perform 26 = .ok (.invokevirtual 50, 3) := by decide +kernel
theorem dX3_perform_29 : decode cX3_perform 29 = .ok (.iconst 0, 1) := by decide +kernel
theorem dX3_perform_30 : decode cX3_perform 30 = .ok (.istore_n 2, 1) := by decide +kernel
theorem dX3_perform_31 : decode cX3_perform 31 = .ok (.iload_n 2, 1) := by decide +kernel
theorem dX3_perform_32 : decode cX3_perform 32 = .ok (.aload_n 0, 1) := by decide +kernel
theorem dX3_perform_33 : decode cX3_perform 33 = .ok (.getfield 32, 3) := by decide +kernel
theorem dX3_perform_36 : decode cX3_perform 36 = .ok (.getfield 89, 3) := by decide +kernel
theorem dX3_perform_39 : decode cX3_perform 39 = .ok (.if_icmp .ge 56, 3) := by decide +kernel
theorem dX3_perform_42 : decode cX3_perform 42 = .ok (.aload_n 0, 1) := by decide +kernel
theorem dX3_perform_43 : decode cX3_perform 43 = .ok (.getfield 32, 3) := by decide +kernel
theorem dX3_perform_46 : decode cX3_perform 46 = .ok (.iload_n 2, 1) := by decide +kernel
theorem dX3_perform_47 : decode cX3_perform 47 = .ok (.aload_n 0, 1) := by decide +kernel
theorem dX3_perform_48 : decode cX3_perform 48 = .ok (.getfield 10, 3) := by decide +kernel
theorem dX3_perform_51 : decode cX3_perform 51 = .ok (.invokevirtual 92, 3) := by decide +kernel
theorem dX3_perform_54 : decode cX3_perform 54 = .ok (.istore_n 3, 1) := by decide +kernel
theorem dX3_perform_55 : decode cX3_perform 55 = .ok (.iload_n 3, 1) := by decide +kernel
theorem dX3_perform_56 : decode cX3_perform 56 = .ok (.ifCond .ge 33, 3) := by decide +kernel
theorem dX3_perform_59 : decode cX3_perform 59 = .ok (.iload_n 3, 1) := by decide +kernel
theorem dX3_perform_60 : decode cX3_perform 60 = .ok (.bipush (-5), 2) := by decide +kernel
theorem dX3_perform_62 : decode cX3_perform 62 = .ok (.if_icmp .eq 27, 3) := by decide +kernel
theorem dX3_perform_65 : decode cX3_perform 65 = .ok (.aload_n 0, 1) := by decide +kernel
theorem dX3_perform_66 : decode cX3_perform 66 = .ok (.iload_n 2, 1) := by decide +kernel
theorem dX3_perform_67 : decode cX3_perform 67 = .ok (.putfield 44, 3) := by decide +kernel
theorem dX3_perform_70 : decode cX3_perform 70 = .ok (.aload_n 0, 1) := by decide +kernel
theorem dX3_perform_71 : decode cX3_perform 71 = .ok (.iload_n 3, 1) := by decide +kernel
theorem dX3_perform_72 : decode cX3_perform 72 = .ok (.putfield 47, 3) := by decide +kernel
theorem dX3_perform_75 : decode cX3_perform 75 = .ok (.aload_n 0, 1) := by decide +kernel
theorem dX3_perform_76 : decode cX3_perform 76 = .ok (.getfield 10, 3) := by decide +kernel
theorem dX3_perform_79 : decode cX3_perform 79 = .ok (.aload_n 0, 1) := by decide +kernel
theorem dX3_perform_80 : decode cX3_perform 80 = .ok (.getfield 16, 3) := by decide +kernel
theorem dX3_perform_83 : decode cX3_perform 83 = .ok (.invokevirtual 50, 3) := by decide +kernel
theorem dX3_perform_86 : decode cX3_perform 86 = .ok (.bipush (-4), 2) := by decide +kernel
theorem dX3_perform_88 : decode cX3_perform 88 = .ok (.ireturn, 1) := by decide +kernel
theorem dX3_perform_89 : decode cX3_perform 89 = .ok (.iinc 2 1, 3) := by decide +kernel
theorem dX3_perform_92 : decode cX3_perform 92 = .ok (.goto (-61), 3) := by decide +kernel
theorem dX3_perform_95 : decode cX3_perform 95 = .ok (.aload_n 0, 1) := by decide +kernel
theorem dX3_perform_96 : decode cX3_perform 96 = .ok (.aload_n 0, 1) := by decide +kernel
theorem dX3_perform_97 : decode cX3_perform 97 = .ok (.getfield 32, 3) := by decide +kernel
theorem dX3_perform_100 : decode cX3_perform 100 = .ok (.getfield 89, 3) := by decide +kernel
theorem dX3_perform_103 : decode cX3_perform 103 = .ok (.invokevirtual 58, 3) := by decide +kernel
theorem dX3_perform_106 : decode cX3_perform 106 = .ok (.ireturn, 1) := by decide +kernel
theorem dX3_stopped_0 : decode cX3_stopped 0 = .ok (.iload_n 1, 1) := by decide +kernel
theorem dX3_stopped_1 : decode cX3_stopped 1 = .ok (.ifCond .lt 8, 3) := by decide +kernel
theorem dX3_stopped_4 : decode cX3_stopped 4 = .ok (.iload_n 1, 1) := by decide +kernel
theorem dX3_stopped_5 : decode cX3_stopped 5 = .ok (.iconst 1, 1) := by decide +kernel
theorem dX3_stopped_6 : decode cX3_stopped 6 = .ok (.if_icmp .le 6, 3) := by decide +kernel
theorem dX3_stopped_9 : decode cX3_stopped 9 = .ok (.bipush (-2), 2) := by decide +kernel
theorem dX3_stopped_11 : decode cX3_stopped 11 = .ok (.ireturn, 1) := by decide +kernel
theorem dX3_stopped_12 : decode cX3_stopped 12 = .ok (.aload_n 0, 1) := by decide +kernel
theorem dX3_stopped_13 : decode cX3_stopped 13 = .ok (.getfield 47, 3) := by decide +kernel
theorem dX3_stopped_16 : decode cX3_stopped 16 = .ok (.ifCond .ne 6, 3) := by decide +kernel
theorem dX3_stopped_19 : decode cX3_stopped 19 = .ok (.bipush (-5), 2) := by decide +kernel
theorem dX3_stopped_21 : decode cX3_stopped 21 = .ok (.ireturn, 1) := by decide +kernel
theorem dX3_stopped_22 : decode cX3_stopped 22 = .ok (.iload_n 1, 1) := by decide +kernel
theorem dX3_stopped_23 : decode cX3_stopped 23 = .ok (.ifCond .ne 10, 3) := by decide +kernel
theorem dX3_stopped_26 : decode cX3_stopped 26 = .ok (.aload_n 0, 1) := by decide +kernel
theorem dX3_stopped_27 : decode cX3_stopped 27 = .ok (.getfield 44, 3) := by decide +kernel
theorem dX3_stopped_30 : decode cX3_stopped 30 = .ok (.goto 7, 3) := by decide +kernel
theorem dX3_stopped_33 : decode cX3_stopped 33 = .ok (.aload_n 0, 1) := by decide +kernel
theorem dX3_stopped_34 : decode cX3_stopped 34 = .ok (.getfield 47, 3) := by decide +kernel
theorem dX3_stopped_37 : decode cX3_stopped 37 = .ok (.ireturn, 1) := by decide +kernel
theorem dX3_undo_0 : decode cX3_undo 0 = .ok (.aload_n 0, 1) := by decide +kernel
theorem dX3_undo_1 : decode cX3_undo 1 = .ok (.getfield 36, 3) := by decide +kernel
theorem dX3_undo_4 : decode cX3_undo 4 = .ok (.ifCond .le 11, 3) := by decide +kernel
theorem dX3_undo_7 : decode cX3_undo 7 = .ok (.aload_n 0, 1) := by decide +kernel
theorem dX3_undo_8 : decode cX3_undo 8 = .ok (.getfield 36, 3) := by decide +kernel
theorem dX3_undo_11 : decode cX3_undo 11 = .ok (.iconst 4, 1) := by decide +kernel
theorem dX3_undo_12 : decode cX3_undo 12 = .ok (.if_icmp .le 6, 3) := by decide +kernel
theorem dX3_undo_15 : decode cX3_undo 15 = .ok (.bipush (-5), 2) := by decide +kernel
theorem dX3_undo_17 : decode cX3_undo 17 = .ok (.ireturn, 1) := by decide +kernel
theorem dX3_undo_18 : decode cX3_undo 18 = .ok (.aload_n 0, 1) := by decide +kernel
theorem dX3_undo_19 : decode cX3_undo 19 = .ok (.dup, 1) := by decide +kernel
theorem dX3_undo_20 : decode cX3_undo 20 = .ok (.getfield 36, 3) := by decide +kernel
theorem dX3_undo_23 : decode cX3_undo 23 = .ok (.iconst 1, 1) := by decide +kernel
theorem dX3_undo_24 : decode cX3_undo 24 = .ok (.isub, 1) := by decide +kernel
theorem dX3_undo_25 : decode cX3_undo 25 = .ok (.putfield 36, 3) := by decide +kernel
theorem dX3_undo_28 : decode cX3_undo 28 = .ok (.aload_n 0, 1) := by decide +kernel
theorem dX3_undo_29 : decode cX3_undo 29 = .ok (.getfield 10, 3) := by decide +kernel
theorem dX3_undo_32 : decode cX3_undo 32 = .ok (.aload_n 0, 1) := by decide +kernel
theorem dX3_undo_33 : decode cX3_undo 33 = .ok (.getfield 25, 3) := by decide +kernel
theorem dX3_undo_36 : decode cX3_undo 36 = .ok (.aload_n 0, 1) := by decide +kernel
theorem dX3_undo_37 : decode cX3_undo 37 = .ok (.getfield 36, 3) := by decide +kernel
theorem dX3_undo_40 : decode cX3_undo 40 = .ok (.aaload, 1) := by decide +kernel
theorem dX3_undo_41 : decode cX3_undo 41 = .ok (.invokevirtual 50, 3) := by decide +kernel
theorem dX3_undo_44 : decode cX3_undo 44 = .ok (.aload_n 0, 1) := by decide +kernel
theorem dX3_undo_45 : decode cX3_undo 45 = .ok (.getfield 36, 3) := by decide +kernel
theorem dX3_undo_48 : decode cX3_undo 48 = .ok (.ireturn, 1) := by decide +kernel
theorem dX3_keep_0 : decode cX3_keep 0 = .ok (.aload_n 0, 1) := by decide +kernel
theorem dX3_keep_1 : decode cX3_keep 1 = .ok (.getfield 22, 3) := by decide +kernel
theorem dX3_keep_4 : decode cX3_keep 4 = .ok (.aload_n 0, 1) := by decide +kernel
theorem dX3_keep_5 : decode cX3_keep 5 = .ok (.getfield 10, 3) := by decide +kernel
theorem dX3_keep_8 : decode cX3_keep 8 = .ok (.invokevirtual 50, 3) := by decide +kernel
theorem dX3_keep_11 : decode cX3_keep 11 = .ok (.aload_n 0, 1) := by decide +kernel
theorem dX3_keep_12 : decode cX3_keep 12 = .ok (.iconst 1, 1) := by decide +kernel
theorem dX3_keep_13 : decode cX3_keep 13 = .ok (.putfield 40, 3) := by decide +kernel
theorem dX3_keep_16 : decode cX3_keep 16 = .ok (.aload_n 0, 1) := by decide +kernel
theorem dX3_keep_17 : decode cX3_keep 17 = .ok (.getfield 10, 3) := by decide +kernel
theorem dX3_keep_20 : decode cX3_keep 20 = .ok (.getfield 96, 3) := by decide +kernel
theorem dX3_keep_23 : decode cX3_keep 23 = .ok (.ireturn, 1) := by decide +kernel
theorem dX3_restore_0 : decode cX3_restore 0 = .ok (.aload_n 0, 1) := by decide +kernel
theorem dX3_restore_1 : decode cX3_restore 1 = .ok (.getfield 40, 3) := by decide +kernel
theorem dX3_restore_4 : decode cX3_restore 4 = .ok (.ifCond .ne 6, 3) := by decide +kernel
theorem dX3_restore_7 : decode cX3_restore 7 = .ok (.bipush (-5), 2) := by decide +kernel
theorem dX3_restore_9 : decode cX3_restore 9 = .ok (.ireturn, 1) := by decide +kernel
theorem dX3_restore_10 : decode cX3_restore 10 = .ok (.aload_n 0, 1) := by decide +kernel
theorem dX3_restore_11 : decode cX3_restore 11 = .ok (.getfield 16, 3) := by decide +kernel
theorem dX3_restore_14 : decode cX3_restore 14 = .ok (.aload_n 0, 1) := by decide +kernel
theorem dX3_restore_15 : decode cX3_restore 15 = .ok (.getfield 10, 3) := by decide +kernel
theorem dX3_restore_18 : decode cX3_restore 18 = .ok (.invokevirtual 50, 3) := by decide +kernel
theorem dX3_restore_21 : decode cX3_restore 21 = .ok (.aload_n 0, 1) := by decide +kernel
theorem dX3_restore_22 : decode cX3_restore 22 = .ok (.getfield 10, 3) := by decide +kernel
theorem dX3_restore_25 : decode cX3_restore 25 = .ok (.aload_n 0, 1) := by decide +kernel
theorem dX3_restore_26 : decode cX3_restore 26 = .ok (.getfield 22, 3) := by decide +kernel
theorem dX3_restore_29 : decode cX3_restore 29 = .ok (.invokevirtual 50, 3) := by decide +kernel
theorem dX3_restore_32 : decode cX3_restore 32 = .ok (.aload_n 0, 1) := by decide +kernel
theorem dX3_restore_33 : decode cX3_restore 33 = .ok (.aload_n 0, 1) := by decide +kernel
theorem dX3_restore_34 : decode cX3_restore 34 = .ok (.getfield 10, 3) := by decide +kernel
theorem dX3_restore_37 : decode cX3_restore 37 = .ok (.getfield 96, 3) := by decide +kernel
theorem dX3_restore_40 : decode cX3_restore 40 = .ok (.invokevirtual 58, 3) := by decide +kernel
theorem dX3_restore_43 : decode cX3_restore 43 = .ok (.ireturn, 1) := by decide +kernel
theorem dX3_shape_0 : decode cX3_shape 0 = .ok (.aload_n 0, 1) := by decide +kernel
theorem dX3_shape_1 : decode cX3_shape 1 = .ok (.getfield 10, 3) := by decide +kernel
theorem dX3_shape_4 : decode cX3_shape 4 = .ok (.iload_n 1, 1) := by decide +kernel
theorem dX3_shape_5 : decode cX3_shape 5 = .ok (.iload_n 2, 1) := by decide +kernel
theorem dX3_shape_6 : decode cX3_shape 6 = .ok (.invokevirtual 99, 3) := by decide +kernel
theorem dX3_shape_9 : decode cX3_shape 9 = .ok (.ireturn, 1) := by decide +kernel
theorem dX3_heat_0 : decode cX3_heat 0 = .ok (.aload_n 0, 1) := by decide +kernel
theorem dX3_heat_1 : decode cX3_heat 1 = .ok (.getfield 10, 3) := by decide +kernel
theorem dX3_heat_4 : decode cX3_heat 4 = .ok (.iload_n 1, 1) := by decide +kernel
theorem dX3_heat_5 : decode cX3_heat 5 = .ok (.invokevirtual 102, 3) := by decide +kernel
theorem dX3_heat_8 : decode cX3_heat 8 = .ok (.ireturn, 1) := by decide +kernel
theorem dX3_reason_0 : decode cX3_reason 0 = .ok (.aload_n 0, 1) := by decide +kernel
theorem dX3_reason_1 : decode cX3_reason 1 = .ok (.getfield 10, 3) := by decide +kernel
theorem dX3_reason_4 : decode cX3_reason 4 = .ok (.iload_n 1, 1) := by decide +kernel
theorem dX3_reason_5 : decode cX3_reason 5 = .ok (.invokevirtual 105, 3) := by decide +kernel
theorem dX3_reason_8 : decode cX3_reason 8 = .ok (.ifCond .eq 14, 3) := by decide +kernel
theorem dX3_reason_11 : decode cX3_reason 11 = .ok (.aload_n 0, 1) := by decide +kernel
theorem dX3_reason_12 : decode cX3_reason 12 = .ok (.getfield 10, 3) := by decide +kernel
theorem dX3_reason_15 : decode cX3_reason 15 = .ok (.iload_n 1, 1) := by decide +kernel
theorem dX3_reason_16 : decode cX3_reason 16 = .ok (.invokevirtual 109, 3) := by decide +kernel
theorem dX3_reason_19 : decode cX3_reason 19 = .ok (.goto 4, 3) := by decide +kernel
theorem dX3_reason_22 : decode cX3_reason 22 = .ok (.iconst (-1), 1) := by decide +kernel
theorem dX3_reason_23 : decode cX3_reason 23 = .ok (.ireturn, 1) := by decide +kernel
theorem dX3_takes_0 : decode cX3_takes 0 = .ok (.aload_n 0, 1) := by decide +kernel
theorem dX3_takes_1 : decode cX3_takes 1 = .ok (.getfield 10, 3) := by decide +kernel
theorem dX3_takes_4 : decode cX3_takes 4 = .ok (.iload_n 1, 1) := by decide +kernel
theorem dX3_takes_5 : decode cX3_takes 5 = .ok (.invokevirtual 112, 3) := by decide +kernel
theorem dX3_takes_8 : decode cX3_takes 8 = .ok (.ireturn, 1) := by decide +kernel
theorem dX3_coolsIn_0 : decode cX3_coolsIn 0 = .ok (.aload_n 0, 1) := by decide +kernel
theorem dX3_coolsIn_1 : decode cX3_coolsIn 1 = .ok (.getfield 10, 3) := by decide +kernel
theorem dX3_coolsIn_4 : decode cX3_coolsIn 4 = .ok (.iload_n 1, 1) := by decide +kernel
theorem dX3_coolsIn_5 : decode cX3_coolsIn 5 = .ok (.invokevirtual 115, 3) := by decide +kernel
theorem dX3_coolsIn_8 : decode cX3_coolsIn 8 = .ok (.ireturn, 1) := by decide +kernel
theorem dX3_best_0 : decode cX3_best 0 = .ok (.aload_n 0, 1) := by decide +kernel
theorem dX3_best_1 : decode cX3_best 1 = .ok (.getfield 10, 3) := by decide +kernel
theorem dX3_best_4 : decode cX3_best 4 = .ok (.invokevirtual 118, 3) := by decide +kernel
theorem dX3_best_7 : decode cX3_best 7 = .ok (.ireturn, 1) := by decide +kernel
theorem dX3_ordered_0 : decode cX3_ordered 0 = .ok (.iload_n 1, 1) := by decide +kernel
theorem dX3_ordered_1 : decode cX3_ordered 1 = .ok (.ifCond .ge 6, 3) := by decide +kernel
theorem dX3_ordered_4 : decode cX3_ordered 4 = .ok (.bipush (-2), 2) := by decide +kernel
theorem dX3_ordered_6 : decode cX3_ordered 6 = .ok (.ireturn, 1) := by decide +kernel
theorem dX3_ordered_7 : decode cX3_ordered 7 = .ok (.iload_n 1, 1) := by decide +kernel
theorem dX3_ordered_8 : decode cX3_ordered 8 = .ok (.bipush 12, 2) := by decide +kernel
theorem dX3_ordered_10 : decode cX3_ordered 10 = .ok (.if_icmp .lt 6, 3) := by decide +kernel
theorem dX3_ordered_13 : decode cX3_ordered 13 = .ok (.bipush (-5), 2) := by decide +kernel
theorem dX3_ordered_15 : decode cX3_ordered 15 = .ok (.ireturn, 1) := by decide +kernel
theorem dX3_ordered_16 : decode cX3_ordered 16 = .ok (.aload_n 0, 1) := by decide +kernel
theorem dX3_ordered_17 : decode cX3_ordered 17 = .ok (.getfield 19, 3) := by decide +kernel
theorem dX3_ordered_20 : decode cX3_ordered 20 = .ok (.aload_n 0, 1) := by decide +kernel
theorem dX3_ordered_21 : decode cX3_ordered 21 = .ok (.getfield 10, 3) := by decide +kernel
theorem dX3_ordered_24 : decode cX3_ordered 24 = .ok (.invokevirtual 50, 3) := by decide +kernel
theorem dX3_ordered_27 : decode cX3_ordered 27 = .ok (.bipush (-5), 2) := by decide +kernel
theorem dX3_ordered_29 : decode cX3_ordered 29 = .ok (.istore_n 2, 1) := by decide +kernel
theorem dX3_ordered_30 : decode cX3_ordered 30 = .ok (.iconst 0, 1) := by decide +kernel
theorem dX3_ordered_31 : decode cX3_ordered 31 = .ok (.istore_n 3, 1) := by decide +kernel
theorem dX3_ordered_32 : decode cX3_ordered 32 = .ok (.iload_n 3, 1) := by decide +kernel
theorem dX3_ordered_33 : decode cX3_ordered 33 = .ok (.iload_n 1, 1) := by decide +kernel
theorem dX3_ordered_34 : decode cX3_ordered 34 = .ok (.if_icmp .gt 26, 3) := by decide +kernel
theorem dX3_ordered_37 : decode cX3_ordered 37 = .ok (.aload_n 0, 1) := by decide +kernel
theorem dX3_ordered_38 : decode cX3_ordered 38 = .ok (.getfield 19, 3) := by decide +kernel
theorem dX3_ordered_41 : decode cX3_ordered 41 = .ok (.invokevirtual 121, 3) := by decide +kernel
theorem dX3_ordered_44 : decode cX3_ordered 44 = .ok (.istore_n 2, 1) := by decide +kernel
theorem dX3_ordered_45 : decode cX3_ordered 45 = .ok (.iload_n 2, 1) := by decide +kernel
theorem dX3_ordered_46 : decode cX3_ordered 46 = .ok (.bipush (-5), 2) := by decide +kernel
theorem dX3_ordered_48 : decode cX3_ordered 48 = .ok (.if_icmp .ne 6, 3) := by decide +kernel
theorem dX3_ordered_51 : decode cX3_ordered 51 = .ok (.bipush (-5), 2) := by decide +kernel
theorem dX3_ordered_53 : decode cX3_ordered 53 = .ok (.ireturn, 1) := by decide +kernel
theorem dX3_ordered_54 : decode cX3_ordered 54 = .ok (.iinc 3 1, 3) := by decide +kernel
theorem dX3_ordered_57 : decode cX3_ordered 57 = .ok (.goto (-25), 3) := by decide +kernel
theorem dX3_ordered_60 : decode cX3_ordered 60 = .ok (.iload_n 2, 1) := by decide +kernel
theorem dX3_ordered_61 : decode cX3_ordered 61 = .ok (.ireturn, 1) := by decide +kernel
theorem dX3_allTakes_0 : decode cX3_allTakes 0 = .ok (.aload_n 0, 1) := by decide +kernel
theorem dX3_allTakes_1 : decode cX3_allTakes 1 = .ok (.getfield 19, 3) := by decide +kernel
theorem dX3_allTakes_4 : decode cX3_allTakes 4 = .ok (.aload_n 0, 1) := by decide +kernel
theorem dX3_allTakes_5 : decode cX3_allTakes 5 = .ok (.getfield 10, 3) := by decide +kernel
theorem dX3_allTakes_8 : decode cX3_allTakes 8 = .ok (.invokevirtual 50, 3) := by decide +kernel
theorem dX3_allTakes_11 : decode cX3_allTakes 11 = .ok (.iconst 0, 1) := by decide +kernel
theorem dX3_allTakes_12 : decode cX3_allTakes 12 = .ok (.istore_n 1, 1) := by decide +kernel
theorem dX3_allTakes_13 : decode cX3_allTakes 13 = .ok (.iload_n 1, 1) := by decide +kernel
theorem dX3_allTakes_14 : decode cX3_allTakes 14 = .ok (.bipush 12, 2) := by decide +kernel
theorem dX3_allTakes_16 : decode cX3_allTakes 16 = .ok (.if_icmp .ge 24, 3) := by decide +kernel
theorem dX3_allTakes_19 : decode cX3_allTakes 19 = .ok (.aload_n 0, 1) := by decide +kernel
theorem dX3_allTakes_20 : decode cX3_allTakes 20 = .ok (.getfield 19, 3) := by decide +kernel
theorem dX3_allTakes_23 : decode cX3_allTakes 23 = .ok (.invokevirtual 121, 3) := by decide +kernel
theorem dX3_allTakes_26 : decode cX3_allTakes 26 = .ok (.bipush (-5), 2) := by decide +kernel
theorem dX3_allTakes_28 : decode cX3_allTakes 28 = .ok (.if_icmp .ne 6, 3) := by decide +kernel
theorem dX3_allTakes_31 : decode cX3_allTakes 31 = .ok (.goto 9, 3) := by decide +kernel
theorem dX3_allTakes_34 : decode cX3_allTakes 34 = .ok (.iinc 1 1, 3) := by decide +kernel
theorem dX3_allTakes_37 : decode cX3_allTakes 37 = .ok (.goto (-24), 3) := by decide +kernel
theorem dX3_allTakes_40 : decode cX3_allTakes 40 = .ok (.aload_n 0, 1) := by decide +kernel
theorem dX3_allTakes_41 : decode cX3_allTakes 41 = .ok (.getfield 19, 3) := by decide +kernel
theorem dX3_allTakes_44 : decode cX3_allTakes 44 = .ok (.iconst 0, 1) := by decide +kernel
theorem dX3_allTakes_45 : decode cX3_allTakes 45 = .ok (.invokevirtual 126, 3) := by decide +kernel
theorem dX3_allTakes_48 : decode cX3_allTakes 48 = .ok (.ifCond .ne 21, 3) := by decide +kernel
theorem dX3_allTakes_51 : decode cX3_allTakes 51 = .ok (.aload_n 0, 1) := by decide +kernel
theorem dX3_allTakes_52 : decode cX3_allTakes 52 = .ok (.getfield 19, 3) := by decide +kernel
theorem dX3_allTakes_55 : decode cX3_allTakes 55 = .ok (.getfield 129, 3) := by decide +kernel
theorem dX3_allTakes_58 : decode cX3_allTakes 58 = .ok (.aload_n 0, 1) := by decide +kernel
theorem dX3_allTakes_59 : decode cX3_allTakes 59 = .ok (.getfield 10, 3) := by decide +kernel
theorem dX3_allTakes_62 : decode cX3_allTakes 62 = .ok (.getfield 129, 3) := by decide +kernel
theorem dX3_allTakes_65 : decode cX3_allTakes 65 = .ok (.isub, 1) := by decide +kernel
theorem dX3_allTakes_66 : decode cX3_allTakes 66 = .ok (.goto 5, 3) := by decide +kernel
theorem dX3_allTakes_69 : decode cX3_allTakes 69 = .ok (.bipush (-5), 2) := by decide +kernel
theorem dX3_allTakes_71 : decode cX3_allTakes 71 = .ok (.ireturn, 1) := by decide +kernel
theorem dX3_count_0 : decode cX3_count 0 = .ok (.iload_n 1, 1) := by decide +kernel
theorem dX3_count_1 : decode cX3_count 1 = .ok (.bipush 17, 2) := by decide +kernel
theorem dX3_count_3 : decode cX3_count 3 = .ok (.if_icmp .ne 8, 3) := by decide +kernel
theorem dX3_count_6 : decode cX3_count 6 = .ok (.aload_n 0, 1) := by decide +kernel
theorem dX3_count_7 : decode cX3_count 7 = .ok (.getfield 36, 3) := by decide +kernel
theorem dX3_count_10 : decode cX3_count 10 = .ok (.ireturn, 1) := by decide +kernel
theorem dX3_count_11 : decode cX3_count 11 = .ok (.iload_n 1, 1) := by decide +kernel
theorem dX3_count_12 : decode cX3_count 12 = .ok (.bipush 18, 2) := by decide +kernel
theorem dX3_count_14 : decode cX3_count 14 = .ok (.if_icmp .ne 11, 3) := by decide +kernel
theorem dX3_count_17 : decode cX3_count 17 = .ok (.aload_n 0, 1) := by decide +kernel
theorem dX3_count_18 : decode cX3_count 18 = .ok (.getfield 32, 3) := by decide +kernel
theorem dX3_count_21 : decode cX3_count 21 = .ok (.getfield 132, 3) := by decide +kernel
theorem dX3_count_24 : decode cX3_count 24 = .ok (.ireturn, 1) := by decide +kernel
theorem dX3_count_25 : decode cX3_count 25 = .ok (.aload_n 0, 1) := by decide +kernel
theorem dX3_count_26 : decode cX3_count 26 = .ok (.getfield 10, 3) := by decide +kernel
theorem dX3_count_29 : decode cX3_count 29 = .ok (.iload_n 1, 1) := by decide +kernel
theorem dX3_count_30 : decode cX3_count 30 = .ok (.invokevirtual 135, 3) := by decide +kernel
theorem dX3_count_33 : decode cX3_count 33 = .ok (.ireturn, 1) := by decide +kernel
theorem dX3_recorded_0 : decode cX3_recorded 0 = .ok (.iload_n 1, 1) := by decide +kernel
theorem dX3_recorded_1 : decode cX3_recorded 1 = .ok (.ifCond .lt 41, 3) := by decide +kernel
theorem dX3_recorded_4 : decode cX3_recorded 4 = .ok (.aload_n 0, 1) := by decide +kernel
theorem dX3_recorded_5 : decode cX3_recorded 5 = .ok (.getfield 36, 3) := by decide +kernel
theorem dX3_recorded_8 : decode cX3_recorded 8 = .ok (.iconst 4, 1) := by decide +kernel
theorem dX3_recorded_9 : decode cX3_recorded 9 = .ok (.if_icmp .lt 7, 3) := by decide +kernel
theorem dX3_recorded_12 : decode cX3_recorded 12 = .ok (.aload_n 0, 1) := by decide +kernel
theorem dX3_recorded_13 : decode cX3_recorded 13 = .ok (.invokevirtual 138, 3) := by decide +kernel
theorem dX3_recorded_16 : decode cX3_recorded 16 = .ok (.aload_n 0, 1) := by decide +kernel
theorem dX3_recorded_17 : decode cX3_recorded 17 = .ok (.getfield 25, 3) := by decide +kernel
theorem dX3_recorded_20 : decode cX3_recorded 20 = .ok (.aload_n 0, 1) := by decide +kernel
theorem dX3_recorded_21 : decode cX3_recorded 21 = .ok (.getfield 36, 3) := by decide +kernel
theorem dX3_recorded_24 : decode cX3_recorded 24 = .ok (.aaload, 1) := by decide +kernel
theorem dX3_recorded_25 : decode cX3_recorded 25 = .ok (.aload_n 0, 1) := by decide +kernel
theorem dX3_recorded_26 : decode cX3_recorded 26 = .ok (.getfield 16, 3) := by decide +kernel
theorem dX3_recorded_29 : decode cX3_recorded 29 = .ok (.invokevirtual 50, 3) := by decide +kernel
theorem dX3_recorded_32 : decode cX3_recorded 32 = .ok (.aload_n 0, 1) := by decide +kernel
theorem dX3_recorded_33 : decode cX3_recorded 33 = .ok (.dup, 1) := by decide +kernel
theorem dX3_recorded_34 : decode cX3_recorded 34 = .ok (.getfield 36, 3) := by decide +kernel
theorem dX3_recorded_37 : decode cX3_recorded 37 = .ok (.iconst 1, 1) := by decide +kernel
theorem dX3_recorded_38 : decode cX3_recorded 38 = .ok (.iadd, 1) := by decide +kernel
theorem dX3_recorded_39 : decode cX3_recorded 39 = .ok (.putfield 36, 3) := by decide +kernel
theorem dX3_recorded_42 : decode cX3_recorded 42 = .ok (.iload_n 1, 1) := by decide +kernel
theorem dX3_recorded_43 : decode cX3_recorded 43 = .ok (.ireturn, 1) := by decide +kernel
theorem dX3_dropOldestState_0 : decode cX3_dropOldestState 0 = .ok (.aload_n 0, 1) := by decide +kernel
theorem dX3_dropOldestState_1 : decode cX3_dropOldestState 1 = .ok (.getfield 25, 3) := by decide +kernel
theorem dX3_dropOldestState_4 : decode cX3_dropOldestState 4 = .ok (.iconst 0, 1) := by decide +kernel
theorem dX3_dropOldestState_5 : decode cX3_dropOldestState 5 = .ok (.aaload, 1) := by decide +kernel
theorem dX3_dropOldestState_6 : decode cX3_dropOldestState 6 = .ok (.astore_n 1, 1) := by decide +kernel
theorem dX3_dropOldestState_7 : decode cX3_dropOldestState 7 = .ok (.iconst 1, 1) := by decide +kernel
theorem dX3_dropOldestState_8 : decode cX3_dropOldestState 8 = .ok (.istore_n 2, 1) := by decide +kernel
theorem dX3_dropOldestState_9 : decode cX3_dropOldestState 9 = .ok (.iload_n 2, 1) := by decide +kernel
theorem dX3_dropOldestState_10 : decode cX3_dropOldestState 10 = .ok (.iconst 4, 1) := by decide +kernel
theorem dX3_dropOldestState_11 : decode cX3_dropOldestState 11 = .ok (.if_icmp .ge 23, 3) := by decide +kernel
theorem dX3_dropOldestState_14 : decode cX3_dropOldestState 14 = .ok (.aload_n 0, 1) := by decide +kernel
theorem dX3_dropOldestState_15 : decode cX3_dropOldestState 15 = .ok (.getfield 25, 3) := by decide +kernel
theorem dX3_dropOldestState_18 : decode cX3_dropOldestState 18 = .ok (.iload_n 2, 1) := by decide +kernel
theorem dX3_dropOldestState_19 : decode cX3_dropOldestState 19 = .ok (.iconst 1, 1) := by decide +kernel
theorem dX3_dropOldestState_20 : decode cX3_dropOldestState 20 = .ok (.isub, 1) := by decide +kernel
theorem dX3_dropOldestState_21 : decode cX3_dropOldestState 21 = .ok (.aload_n 0, 1) := by decide +kernel
theorem dX3_dropOldestState_22 : decode cX3_dropOldestState 22 = .ok (.getfield 25, 3) := by decide +kernel
theorem dX3_dropOldestState_25 : decode cX3_dropOldestState 25 = .ok (.iload_n 2, 1) := by decide +kernel
theorem dX3_dropOldestState_26 : decode cX3_dropOldestState 26 = .ok (.aaload, 1) := by decide +kernel
theorem dX3_dropOldestState_27 : decode cX3_dropOldestState 27 = .ok (.aastore, 1) := by decide +kernel
theorem dX3_dropOldestState_28 : decode cX3_dropOldestState 28 = .ok (.iinc 2 1, 3) := by decide +kernel
theorem dX3_dropOldestState_31 : decode cX3_dropOldestState 31 = .ok (.goto (-22), 3) := by decide +kernel
theorem dX3_dropOldestState_34 : decode cX3_dropOldestState 34 = .ok (.aload_n 0, 1) := by decide +kernel
theorem dX3_dropOldestState_35 : decode cX3_dropOldestState 35 = .ok (.getfield 25, 3) := by decide +kernel
theorem dX3_dropOldestState_38 : decode cX3_dropOldestState 38 = .ok (.iconst 3, 1) := by decide +kernel
theorem dX3_dropOldestState_39 : decode cX3_dropOldestState 39 = .ok (.aload_n 1, 1) := by decide +kernel
theorem dX3_dropOldestState_40 : decode cX3_dropOldestState 40 = .ok (.aastore, 1) := by decide +kernel
theorem dX3_dropOldestState_41 : decode cX3_dropOldestState 41 = .ok (.aload_n 0, 1) := by decide +kernel
theorem dX3_dropOldestState_42 : decode cX3_dropOldestState 42 = .ok (.iconst 3, 1) := by decide +kernel
theorem dX3_dropOldestState_43 : decode cX3_dropOldestState 43 = .ok (.putfield 36, 3) := by decide +kernel
theorem dX3_dropOldestState_46 : decode cX3_dropOldestState 46 = .ok (.return_, 1) := by decide +kernel
theorem dX3_isIn_0 : decode cX3_isIn 0 = .ok (.iload_n 0, 1) := by decide +kernel
theorem dX3_isIn_1 : decode cX3_isIn 1 = .ok (.iload_n 1, 1) := by decide +kernel
theorem dX3_isIn_2 : decode cX3_isIn 2 = .ok (.if_icmp .lt 12, 3) := by decide +kernel
theorem dX3_isIn_5 : decode cX3_isIn 5 = .ok (.iload_n 0, 1) := by decide +kernel
theorem dX3_isIn_6 : decode cX3_isIn 6 = .ok (.iload_n 2, 1) := by decide +kernel
theorem dX3_isIn_7 : decode cX3_isIn 7 = .ok (.if_icmp .gt 7, 3) := by decide +kernel
theorem dX3_isIn_10 : decode cX3_isIn 10 = .ok (.iconst 1, 1) := by decide +kernel
theorem dX3_isIn_11 : decode cX3_isIn 11 = .ok (.goto 4, 3) := by decide +kernel
theorem dX3_isIn_14 : decode cX3_isIn 14 = .ok (.iconst 0, 1) := by decide +kernel
theorem dX3_isIn_15 : decode cX3_isIn 15 = .ok (.ireturn, 1) := by decide +kernel
theorem dX4_init_0 : decode cX4_init 0 = .ok (.aload_n 0, 1) := by decide +kernel
theorem dX4_init_1 : decode cX4_init 1 = .ok (.invokespecial 1, 3) := by decide +kernel
theorem dX4_init_4 : decode cX4_init 4 = .ok (.aload_n 0, 1) := by decide +kernel
theorem dX4_init_5 : decode cX4_init 5 = .ok (.bipush 119, 2) := by decide +kernel
theorem dX4_init_7 : decode cX4_init 7 = .ok (.newarray .int, 2) := by decide +kernel
theorem dX4_init_9 : decode cX4_init 9 = .ok (.putfield 7, 3) := by decide +kernel
theorem dX4_init_12 : decode cX4_init 12 = .ok (.aload_n 0, 1) := by decide +kernel
theorem dX4_init_13 : decode cX4_init 13 = .ok (.bipush 119, 2) := by decide +kernel
theorem dX4_init_15 : decode cX4_init 15 = .ok (.newarray .int, 2) := by decide +kernel
theorem dX4_init_17 : decode cX4_init 17 = .ok (.putfield 13, 3) := by decide +kernel
theorem dX4_init_20 : decode cX4_init 20 = .ok (.aload_n 0, 1) := by decide +kernel
theorem dX4_init_21 : decode cX4_init 21 = .ok (.bipush 119, 2) := by decide +kernel
theorem dX4_init_23 : decode cX4_init 23 = .ok (.newarray .int, 2) := by decide +kernel
theorem dX4_init_25 : decode cX4_init 25 = .ok (.putfield 16, 3) := by decide +kernel
theorem dX4_init_28 : decode cX4_init 28 = .ok (.aload_n 0, 1) := by decide +kernel
theorem dX4_init_29 : decode cX4_init 29 = .ok (.bipush 119, 2) := by decide +kernel
theorem dX4_init_31 : decode cX4_init 31 = .ok (.newarray .int, 2) := by decide +kernel
theorem dX4_init_33 : decode cX4_init 33 = .ok (.putfield 19, 3) := by decide +kernel
theorem dX4_init_36 : decode cX4_init 36 = .ok (.aload_n 0, 1) := by decide +kernel
theorem dX4_init_37 : decode cX4_init 37 = .ok (.sipush 476, 3) := by decide +kernel
theorem dX4_init_40 : decode cX4_init 40 = .ok (.newarray .int, 2) := by decide +kernel
theorem dX4_init_42 : decode cX4_init 42 = .ok (.putfield 22, 3) := by decide +kernel
theorem dX4_init_45 : decode cX4_init 45 = .ok (.aload_n 0, 1) := by decide +kernel
theorem dX4_init_46 : decode cX4_init 46 = .ok (.bipush 60, 2) := by decide +kernel
theorem dX4_init_48 : decode cX4_init 48 = .ok (.newarray .int, 2) := by decide +kernel
theorem dX4_init_50 : decode cX4_init 50 = .ok (.putfield 25, 3) := by decide +kernel
theorem dX4_init_53 : decode cX4_init 53 = .ok (.aload_n 0, 1) := by decide +kernel
theorem dX4_init_54 : decode cX4_init 54 = .ok (.bipush (-5), 2) := by decide +kernel
theorem dX4_init_56 : decode cX4_init 56 = .ok (.putfield 28, 3) := by decide +kernel
theorem dX4_init_59 : decode cX4_init 59 = .ok (.aload_n 0, 1) := by decide +kernel
theorem dX4_init_60 : decode cX4_init 60 = .ok (.bipush (-5), 2) := by decide +kernel
theorem dX4_init_62 : decode cX4_init 62 = .ok (.putfield 32, 3) := by decide +kernel
theorem dX4_init_65 : decode cX4_init 65 = .ok (.aload_n 0, 1) := by decide +kernel
theorem dX4_init_66 : decode cX4_init 66 = .ok (.bipush 12, 2) := by decide +kernel
theorem dX4_init_68 : decode cX4_init 68 = .ok (.newarray .int, 2) := by decide +kernel
theorem dX4_init_70 : decode cX4_init 70 = .ok (.putfield 35, 3) := by decide +kernel
theorem dX4_init_73 : decode cX4_init 73 = .ok (.aload_n 0, 1) := by decide +kernel
theorem dX4_init_74 : decode cX4_init 74 = .ok (.getfield 7, 3) := by decide +kernel
theorem dX4_init_77 : decode cX4_init 77 = .ok (.bipush 7, 2) := by decide +kernel
theorem dX4_init_79 : decode cX4_init 79 = .ok (.bipush 20, 2) := by decide +kernel
theorem dX4_init_81 : decode cX4_init 81 = .ok (.iastore, 1) := by decide +kernel
theorem dX4_init_82 : decode cX4_init 82 = .ok (.aload_n 0, 1) := by decide +kernel
theorem dX4_init_83 : decode cX4_init 83 = .ok (.getfield 7, 3) := by decide +kernel
theorem dX4_init_86 : decode cX4_init 86 = .ok (.bipush 8, 2) := by decide +kernel
theorem dX4_init_88 : decode cX4_init 88 = .ok (.iconst 1, 1) := by decide +kernel
theorem dX4_init_89 : decode cX4_init 89 = .ok (.iastore, 1) := by decide +kernel
theorem dX4_init_90 : decode cX4_init 90 = .ok (.aload_n 0, 1) := by decide +kernel
theorem dX4_init_91 : decode cX4_init 91 = .ok (.getfield 7, 3) := by decide +kernel
theorem dX4_init_94 : decode cX4_init 94 = .ok (.bipush 9, 2) := by decide +kernel
theorem dX4_init_96 : decode cX4_init 96 = .ok (.sipush 150, 3) := by decide +kernel
theorem dX4_init_99 : decode cX4_init 99 = .ok (.iastore, 1) := by decide +kernel
theorem dX4_init_100 : decode cX4_init 100 = .ok (.aload_n 0, 1) := by decide +kernel
theorem dX4_init_101 : decode cX4_init 101 = .ok (.getfield 7, 3) := by decide +kernel
theorem dX4_init_104 : decode cX4_init 104 = .ok (.bipush 10, 2) := by decide +kernel
theorem dX4_init_106 : decode cX4_init 106 = .ok (.iconst 1, 1) := by decide +kernel
theorem dX4_init_107 : decode cX4_init 107 = .ok (.iastore, 1) := by decide +kernel
theorem dX4_init_108 : decode cX4_init 108 = .ok (.return_, 1) := by decide +kernel
theorem dX4_in_0 : decode cX4_in 0 = .ok (.iload_n 0, 1) := by decide +kernel
theorem dX4_in_1 : decode cX4_in 1 = .ok (.iload_n 1, 1) := by decide +kernel
theorem dX4_in_2 : decode cX4_in 2 = .ok (.if_icmp .lt 12, 3) := by decide +kernel
theorem dX4_in_5 : decode cX4_in 5 = .ok (.iload_n 0, 1) := by decide +kernel
theorem dX4_in_6 : decode cX4_in 6 = .ok (.iload_n 2, 1) := by decide +kernel
theorem dX4_in_7 : decode cX4_in 7 = .ok (.if_icmp .gt 7, 3) := by decide +kernel
theorem dX4_in_10 : decode cX4_in 10 = .ok (.iconst 1, 1) := by decide +kernel
theorem dX4_in_11 : decode cX4_in 11 = .ok (.goto 4, 3) := by decide +kernel
theorem dX4_in_14 : decode cX4_in 14 = .ok (.iconst 0, 1) := by decide +kernel
theorem dX4_in_15 : decode cX4_in 15 = .ok (.ireturn, 1) := by decide +kernel
theorem dX4_isShape_0 : decode cX4_isShape 0 = .ok (.iload_n 1, 1) := by decide +kernel
theorem dX4_isShape_1 : decode cX4_isShape 1 = .ok (.iconst 0, 1) := by decide +kernel
theorem dX4_isShape_2 : decode cX4_isShape 2 = .ok (.aload_n 0, 1) := by decide +kernel
theorem dX4_isShape_3 : decode cX4_isShape 3 = .ok (.getfield 7, 3) := by decide +kernel
theorem dX4_isShape_6 : decode cX4_isShape 6 = .ok (.iconst 0, 1) := by decide +kernel
theorem dX4_isShape_7 : decode cX4_isShape 7 = .ok (.iaload, 1) := by decide +kernel
theorem dX4_isShape_8 : decode cX4_isShape 8 = .ok (.iconst 1, 1) := by decide +kernel
theorem dX4_isShape_9 : decode cX4_isShape 9 = .ok (.isub, 1) := by decide +kernel
theorem dX4_isShape_10 : decode cX4_isShape 10 = .ok (.invokestatic 38, 3) := by decide +kernel
theorem dX4_isShape_13 : decode cX4_isShape 13 = .ok (.ireturn, 1) := by decide +kernel
theorem dX4_at_0 : decode cX4_at 0 = .ok (.bipush 23, 2) := by decide +kernel
theorem dX4_at_2 : decode cX4_at 2 = .ok (.bipush 8, 2) := by decide +kernel
theorem dX4_at_4 : decode cX4_at 4 = .ok (.iload_n 0, 1) := by decide +kernel
theorem dX4_at_5 : decode cX4_at 5 = .ok (.imul, 1) := by decide +kernel
theorem dX4_at_6 : decode cX4_at 6 = .ok (.iadd, 1) := by decide +kernel
theorem dX4_at_7 : decode cX4_at 7 = .ok (.iload_n 1, 1) := by decide +kernel
theorem dX4_at_8 : decode cX4_at 8 = .ok (.iadd, 1) := by decide +kernel
theorem dX4_at_9 : decode cX4_at 9 = .ok (.ireturn, 1) := by decide +kernel
theorem dX4_of_0 : decode cX4_of 0 = .ok (.aload_n 0, 1) := by decide +kernel
theorem dX4_of_1 : decode cX4_of 1 = .ok (.getfield 7, 3) := by decide +kernel
theorem dX4_of_4 : decode cX4_of 4 = .ok (.iload_n 1, 1) := by decide +kernel
theorem dX4_of_5 : decode cX4_of 5 = .ok (.iload_n 2, 1) := by decide +kernel
theorem dX4_of_6 : decode cX4_of 6 = .ok (.invokestatic 42, 3) := by decide +kernel
theorem dX4_of_9 : decode cX4_of 9 = .ok (.iaload, 1) := by decide +kernel
theorem dX4_of_10 : decode cX4_of 10 = .ok (.ireturn, 1) := by decide +kernel
theorem dX4_isWhole_0 : decode cX4_isWhole 0 = .ok (.aload_n 0, 1) := by decide +kernel
theorem dX4_isWhole_1 : decode cX4_isWhole 1 = .ok (.iload_n 1, 1) := by decide +kernel
theorem dX4_isWhole_2 : decode cX4_isWhole 2 = .ok (.iconst 5, 1) := by decide +kernel
theorem dX4_isWhole_3 : decode cX4_isWhole 3 = .ok (.invokevirtual 46, 3) := by decide +kernel
theorem dX4_isWhole_6 : decode cX4_isWhole 6 = .ok (.ifCond .ne 7, 3) := by decide +kernel
theorem dX4_isWhole_9 : decode cX4_isWhole 9 = .ok (.iconst 1, 1) := by decide +kernel
theorem dX4_isWhole_10 : decode cX4_isWhole 10 = .ok (.goto 4, 3) := by decide +kernel
theorem dX4_isWhole_13 : decode cX4_isWhole 13 = .ok (.iconst 0, 1) := by decide +kernel
theorem dX4_isWhole_14 : decode cX4_isWhole 14 = .ok (.ireturn, 1) := by decide +kernel
theorem dX4_looks_0 : decode cX4_looks 0 = .ok (.iconst 0, 1) := by decide +kernel
theorem dX4_looks_1 : decode cX4_looks 1 = .ok (.istore_n 1, 1) := by decide +kernel
theorem dX4_looks_2 : decode cX4_looks 2 = .ok (.iload_n 1, 1) := by decide +kernel
theorem dX4_looks_3 : decode cX4_looks 3 = .ok (.bipush 119, 2) := by decide +kernel
theorem dX4_looks_5 : decode cX4_looks 5 = .ok (.if_icmp .ge 21, 3) := by decide +kernel
theorem dX4_looks_8 : decode cX4_looks 8 = .ok (.aload_n 0, 1) := by decide +kernel
theorem dX4_looks_9 : decode cX4_looks 9 = .ok (.getfield 16, 3) := by decide +kernel
theorem dX4_looks_12 : decode cX4_looks 12 = .ok (.iload_n 1, 1) := by decide +kernel
theorem dX4_looks_13 : decode cX4_looks 13 = .ok (.aload_n 0, 1) := by decide +kernel
theorem dX4_looks_14 : decode cX4_looks 14 = .ok (.getfield 7, 3) := by decide +kernel
theorem dX4_looks_17 : decode cX4_looks 17 = .ok (.iload_n 1, 1) := by decide +kernel
theorem dX4_looks_18 : decode cX4_looks 18 = .ok (.iaload, 1) := by decide +kernel
theorem dX4_looks_19 : decode cX4_looks 19 = .ok (.iastore, 1) := by decide +kernel
theorem dX4_looks_20 : decode cX4_looks 20 = .ok (.iinc 1 1, 3) := by decide +kernel
theorem dX4_looks_23 : decode cX4_looks 23 = .ok (.goto (-21), 3) := by decide +kernel
theorem dX4_looks_26 : decode cX4_looks 26 = .ok (.return_, 1) := by decide +kernel
theorem dX4_records_0 : decode cX4_records 0 = .ok (.aload_n 0, 1) := by decide +kernel
theorem dX4_records_1 : decode cX4_records 1 = .ok (.getfield 49, 3) := by decide +kernel
theorem dX4_records_4 : decode cX4_records 4 = .ok (.iconst 4, 1) := by decide +kernel
theorem dX4_records_5 : decode cX4_records 5 = .ok (.if_icmp .ne 43, 3) := by decide +kernel
theorem dX4_records_8 : decode cX4_records 8 = .ok (.iconst 0, 1) := by decide +kernel
theorem dX4_records_9 : decode cX4_records 9 = .ok (.istore_n 1, 1) := by decide +kernel
theorem dX4_records_10 : decode cX4_records 10 = .ok (.iload_n 1, 1) := by decide +kernel
theorem dX4_records_11 : decode cX4_records 11 = .ok (.sipush 357, 3) := by decide +kernel
theorem dX4_records_14 : decode cX4_records 14 = .ok (.if_icmp .ge 24, 3) := by decide +kernel
theorem dX4_records_17 : decode cX4_records 17 = .ok (.aload_n 0, 1) := by decide +kernel
theorem dX4_records_18 : decode cX4_records 18 = .ok (.getfield 22, 3) := by decide +kernel
theorem dX4_records_21 : decode cX4_records 21 = .ok (.iload_n 1, 1) := by decide +kernel
theorem dX4_records_22 : decode cX4_records 22 = .ok (.aload_n 0, 1) := by decide +kernel
theorem dX4_records_23 : decode cX4_records 23 = .ok (.getfield 22, 3) := by decide +kernel
theorem dX4_records_26 : decode cX4_records 26 = .ok (.bipush 119, 2) := by decide +kernel
theorem dX4_records_28 : decode cX4_records 28 = .ok (.iload_n 1, 1) := by decide +kernel
theorem dX4_records_29 : decode cX4_records 29 = .ok (.iadd, 1) := by decide +kernel
theorem dX4_records_30 : decode cX4_records 30 = .ok (.iaload, 1) := by decide +kernel
theorem dX4_records_31 : decode cX4_records 31 = .ok (.iastore, 1) := by decide +kernel
theorem dX4_records_32 : decode cX4_records 32 = .ok (.iinc 1 1, 3) := by decide +kernel
theorem dX4_records_35 : decode cX4_records 35 = .ok (.goto (-25), 3) := by decide +kernel
theorem dX4_records_38 : decode cX4_records 38 = .ok (.aload_n 0, 1) := by decide +kernel
theorem dX4_records_39 : decode cX4_records 39 = .ok (.dup, 1) := by decide +kernel
theorem dX4_records_40 : decode cX4_records 40 = .ok (.getfield 49, 3) := by decide +kernel
theorem dX4_records_43 : decode cX4_records 43 = .ok (.iconst 1, 1) := by decide +kernel
theorem dX4_records_44 : decode cX4_records 44 = .ok (.isub, 1) := by decide +kernel
theorem dX4_records_45 : decode cX4_records 45 = .ok (.putfield 49, 3) := by decide +kernel
theorem dX4_records_48 : decode cX4_records 48 = .ok (.iconst 0, 1) := by decide +kernel
theorem dX4_records_49 : decode cX4_records 49 = .ok (.istore_n 1, 1) := by decide +kernel
theorem dX4_records_50 : decode cX4_records 50 = .ok (.iload_n 1, 1) := by decide +kernel
theorem dX4_records_51 : decode cX4_records 51 = .ok (.bipush 119, 2) := by decide +kernel
theorem dX4_records_53 : decode cX4_records 53 = .ok (.if_icmp .ge 29, 3) := by decide +kernel
theorem dX4_records_56 : decode cX4_records 56 = .ok (.aload_n 0, 1) := by decide +kernel
theorem dX4_records_57 : decode cX4_records 57 = .ok (.getfield 22, 3) := by decide +kernel
theorem dX4_records_60 : decode cX4_records 60 = .ok (.bipush 119, 2) := by decide +kernel
theorem dX4_records_62 : decode cX4_records 62 = .ok (.aload_n 0, 1) := by decide +kernel
theorem dX4_records_63 : decode cX4_records 63 = .ok (.getfield 49, 3) := by decide +kernel
theorem dX4_records_66 : decode cX4_records 66 = .ok (.imul, 1) := by decide +kernel
theorem dX4_records_67 : decode cX4_records 67 = .ok (.iload_n 1, 1) := by decide +kernel
theorem dX4_records_68 : decode cX4_records 68 = .ok (.iadd, 1) := by decide +kernel
theorem dX4_records_69 : decode cX4_records 69 = .ok (.aload_n 0, 1) := by decide +kernel
theorem dX4_records_70 : decode cX4_records 70 = .ok (.getfield 16, 3) := by decide +kernel
theorem dX4_records_73 : decode cX4_records 73 = .ok (.iload_n 1, 1) := by decide +kernel
theorem dX4_records_74 : decode cX4_records 74 = .ok (.iaload, 1) := by decide +kernel
theorem dX4_records_75 : decode cX4_records 75 = .ok (.iastore, 1) := by decide +kernel
theorem dX4_records_76 : decode cX4_records 76 = .ok (.iinc 1 1, 3) := by decide +kernel
theorem dX4_records_79 : decode cX4_records 79 = .ok (.goto (-29), 3) := by decide +kernel
theorem dX4_records_82 : decode cX4_records 82 = .ok (.aload_n 0, 1) := by decide +kernel
theorem dX4_records_83 : decode cX4_records 83 = .ok (.dup, 1) := by decide +kernel
theorem dX4_records_84 : decode cX4_records 84 = .ok (.getfield 49, 3) := by decide +kernel
theorem dX4_records_87 : decode cX4_records 87 = .ok (.iconst 1, 1) := by decide +kernel
theorem dX4_records_88 : decode cX4_records 88 = .ok (.iadd, 1) := by decide +kernel
theorem dX4_records_89 : decode cX4_records 89 = .ok (.putfield 49, 3) := by decide +kernel
theorem dX4_records_92 : decode cX4_records 92 = .ok (.return_, 1) := by decide +kernel
theorem dX4_putAside_0 : decode cX4_putAside 0 = .ok (.iconst 0, 1) := by decide +kernel
theorem dX4_putAside_1 : decode cX4_putAside 1 = .ok (.istore_n 1, 1) := by decide +kernel
theorem dX4_putAside_2 : decode cX4_putAside 2 = .ok (.iload_n 1, 1) := by decide +kernel
theorem dX4_putAside_3 : decode cX4_putAside 3 = .ok (.bipush 119, 2) := by decide +kernel
theorem dX4_putAside_5 : decode cX4_putAside 5 = .ok (.if_icmp .ge 21, 3) := by decide +kernel
theorem dX4_putAside_8 : decode cX4_putAside 8 = .ok (.aload_n 0, 1) := by decide +kernel
theorem dX4_putAside_9 : decode cX4_putAside 9 = .ok (.getfield 13, 3) := by decide +kernel
theorem dX4_putAside_12 : decode cX4_putAside 12 = .ok (.iload_n 1, 1) := by decide +kernel
theorem dX4_putAside_13 : decode cX4_putAside 13 = .ok (.aload_n 0, 1) := by decide +kernel
theorem dX4_putAside_14 : decode cX4_putAside 14 = .ok (.getfield 7, 3) := by decide +kernel
theorem dX4_putAside_17 : decode cX4_putAside 17 = .ok (.iload_n 1, 1) := by decide +kernel
theorem dX4_putAside_18 : decode cX4_putAside 18 = .ok (.iaload, 1) := by decide +kernel
theorem dX4_putAside_19 : decode cX4_putAside 19 = .ok (.iastore, 1) := by decide +kernel
theorem dX4_putAside_20 : decode cX4_putAside 20 = .ok (.iinc 1 1, 3) := by decide +kernel
theorem dX4_putAside_23 : decode cX4_putAside 23 = .ok (.goto (-21), 3) := by decide +kernel
theorem dX4_putAside_26 : decode cX4_putAside 26 = .ok (.return_, 1) := by decide +kernel
theorem dX4_putBack_0 : decode cX4_putBack 0 = .ok (.iconst 0, 1) := by decide +kernel
theorem dX4_putBack_1 : decode cX4_putBack 1 = .ok (.istore_n 1, 1) := by decide +kernel
theorem dX4_putBack_2 : decode cX4_putBack 2 = .ok (.iload_n 1, 1) := by decide +kernel
theorem dX4_putBack_3 : decode cX4_putBack 3 = .ok (.bipush 119, 2) := by decide +kernel
theorem dX4_putBack_5 : decode cX4_putBack 5 = .ok (.if_icmp .ge 21, 3) := by decide +kernel
theorem dX4_putBack_8 : decode cX4_putBack 8 = .ok (.aload_n 0, 1) := by decide +kernel
theorem dX4_putBack_9 : decode cX4_putBack 9 = .ok (.getfield 7, 3) := by decide +kernel
theorem dX4_putBack_12 : decode cX4_putBack 12 = .ok (.iload_n 1, 1) := by decide +kernel
theorem dX4_putBack_13 : decode cX4_putBack 13 = .ok (.aload_n 0, 1) := by decide +kernel
theorem dX4_putBack_14 : decode cX4_putBack 14 = .ok (.getfield 13, 3) := by decide +kernel
theorem dX4_putBack_17 : decode cX4_putBack 17 = .ok (.iload_n 1, 1) := by decide +kernel
theorem dX4_putBack_18 : decode cX4_putBack 18 = .ok (.iaload, 1) := by decide +kernel
theorem dX4_putBack_19 : decode cX4_putBack 19 = .ok (.iastore, 1) := by decide +kernel
theorem dX4_putBack_20 : decode cX4_putBack 20 = .ok (.iinc 1 1, 3) := by decide +kernel
theorem dX4_putBack_23 : decode cX4_putBack 23 = .ok (.goto (-21), 3) := by decide +kernel
theorem dX4_putBack_26 : decode cX4_putBack 26 = .ok (.return_, 1) := by decide +kernel
theorem dX4_lastColumn_0 : decode cX4_lastColumn 0 = .ok (.aload_n 0, 1) := by decide +kernel
theorem dX4_lastColumn_1 : decode cX4_lastColumn 1 = .ok (.iload_n 1, 1) := by decide +kernel
theorem dX4_lastColumn_2 : decode cX4_lastColumn 2 = .ok (.iconst 0, 1) := by decide +kernel
theorem dX4_lastColumn_3 : decode cX4_lastColumn 3 = .ok (.invokevirtual 46, 3) := by decide +kernel
theorem dX4_lastColumn_6 : decode cX4_lastColumn 6 = .ok (.aload_n 0, 1) := by decide +kernel
theorem dX4_lastColumn_7 : decode cX4_lastColumn 7 = .ok (.iload_n 1, 1) := by decide +kernel
theorem dX4_lastColumn_8 : decode cX4_lastColumn 8 = .ok (.iconst 2, 1) := by decide +kernel
theorem dX4_lastColumn_9 : decode cX4_lastColumn 9 = .ok (.invokevirtual 46, 3) := by decide +kernel
theorem dX4_lastColumn_12 : decode cX4_lastColumn 12 = .ok (.iadd, 1) := by decide +kernel
theorem dX4_lastColumn_13 : decode cX4_lastColumn 13 = .ok (.iconst 1, 1) := by decide +kernel
theorem dX4_lastColumn_14 : decode cX4_lastColumn 14 = .ok (.isub, 1) := by decide +kernel
theorem dX4_lastColumn_15 : decode cX4_lastColumn 15 = .ok (.ireturn, 1) := by decide +kernel
theorem dX4_lastRow_0 : decode cX4_lastRow 0 = .ok (.aload_n 0, 1) := by decide +kernel
theorem dX4_lastRow_1 : decode cX4_lastRow 1 = .ok (.iload_n 1, 1) := by decide +kernel
theorem dX4_lastRow_2 : decode cX4_lastRow 2 = .ok (.iconst 1, 1) := by decide +kernel
theorem dX4_lastRow_3 : decode cX4_lastRow 3 = .ok (.invokevirtual 46, 3) := by decide +kernel
theorem dX4_lastRow_6 : decode cX4_lastRow 6 = .ok (.aload_n 0, 1) := by decide +kernel
theorem dX4_lastRow_7 : decode cX4_lastRow 7 = .ok (.iload_n 1, 1) := by decide +kernel
theorem dX4_lastRow_8 : decode cX4_lastRow 8 = .ok (.iconst 3, 1) := by decide +kernel
theorem dX4_lastRow_9 : decode cX4_lastRow 9 = .ok (.invokevirtual 46, 3) := by decide +kernel
theorem dX4_lastRow_12 : decode cX4_lastRow 12 = .ok (.iadd, 1) := by decide +kernel
theorem dX4_lastRow_13 : decode cX4_lastRow 13 = .ok (.iconst 1, 1) := by decide +kernel
theorem dX4_lastRow_14 : decode cX4_lastRow 14 = .ok (.isub, 1) := by decide +kernel
theorem dX4_lastRow_15 : decode cX4_lastRow 15 = .ok (.ireturn, 1) := by decide +kernel
theorem dX4_isInside_0 : decode cX4_isInside 0 = .ok (.aload_n 0, 1) := by decide +kernel
theorem dX4_isInside_1 : decode cX4_isInside 1 = .ok (.iload_n 1, 1) := by decide +kernel
theorem dX4_isInside_2 : decode cX4_isInside 2 = .ok (.iconst 0, 1) := by decide +kernel
theorem dX4_isInside_3 : decode cX4_isInside 3 = .ok (.invokevirtual 46, 3) := by decide +kernel
theorem dX4_isInside_6 : decode cX4_isInside 6 = .ok (.aload_n 0, 1) := by decide +kernel
theorem dX4_isInside_7 : decode cX4_isInside 7 = .ok (.iload_n 2, 1) := by decide +kernel
theorem dX4_isInside_8 : decode cX4_isInside 8 = .ok (.iconst 0, 1) := by decide +kernel
theorem dX4_isInside_9 : decode cX4_isInside 9 = .ok (.invokevirtual 46, 3) := by decide +kernel
theorem dX4_isInside_12 : decode cX4_isInside 12 = .ok (.if_icmp .le 20, 3) := by decide +kernel
theorem dX4_isInside_15 : decode cX4_isInside 15 = .ok (.aload_n 0, 1) := by decide +kernel
theorem dX4_isInside_16 : decode cX4_isInside 16 = .ok (.iload_n 1, 1) := by decide +kernel
theorem dX4_isInside_17 : decode cX4_isInside 17 = .ok (.invokevirtual 52, 3) := by decide +kernel
theorem dX4_isInside_20 : decode cX4_isInside 20 = .ok (.aload_n 0, 1) := by decide +kernel
theorem dX4_isInside_21 : decode cX4_isInside 21 = .ok (.iload_n 2, 1) := by decide +kernel
theorem dX4_isInside_22 : decode cX4_isInside 22 = .ok (.invokevirtual 52, 3) := by decide +kernel
theorem dX4_isInside_25 : decode cX4_isInside 25 = .ok (.if_icmp .ge 7, 3) := by decide +kernel
theorem dX4_isInside_28 : decode cX4_isInside 28 = .ok (.iconst 1, 1) := by decide +kernel
theorem dX4_isInside_29 : decode cX4_isInside 29 = .ok (.goto 4, 3) := by decide +kernel
theorem dX4_isInside_32 : decode cX4_isInside 32 = .ok (.iconst 0, 1) := by decide +kernel
theorem dX4_isInside_33 : decode cX4_isInside 33 = .ok (.istore_n 3, 1) := by decide +kernel
theorem dX4_isInside_34 : decode cX4_isInside 34 = .ok (.iload_n 3, 1) := by decide +kernel
theorem dX4_isInside_35 : decode cX4_isInside 35 = .ok (.ifCond .eq 35, 3) := by decide +kernel
theorem dX4_isInside_38 : decode cX4_isInside 38 = .ok (.aload_n 0, 1) := by decide +kernel
theorem dX4_isInside_39 : decode cX4_isInside 39 = .ok (.iload_n 1, 1) := by decide +kernel
theorem dX4_isInside_40 : decode cX4_isInside 40 = .ok (.iconst 1, 1) := by decide +kernel
theorem dX4_isInside_41 : decode cX4_isInside 41 = .ok (.invokevirtual 46, 3) := by decide +kernel
theorem dX4_isInside_44 : decode cX4_isInside 44 = .ok (.aload_n 0, 1) := by decide +kernel
theorem dX4_isInside_45 : decode cX4_isInside 45 = .ok (.iload_n 2, 1) := by decide +kernel
theorem dX4_isInside_46 : decode cX4_isInside 46 = .ok (.iconst 1, 1) := by decide +kernel
theorem dX4_isInside_47 : decode cX4_isInside 47 = .ok (.invokevirtual 46, 3) := by decide +kernel
theorem dX4_isInside_50 : decode cX4_isInside 50 = .ok (.if_icmp .le 20, 3) := by decide +kernel
theorem dX4_isInside_53 : decode cX4_isInside 53 = .ok (.aload_n 0, 1) := by decide +kernel
theorem dX4_isInside_54 : decode cX4_isInside 54 = .ok (.iload_n 1, 1) := by decide +kernel
theorem dX4_isInside_55 : decode cX4_isInside 55 = .ok (.invokevirtual 56, 3) := by decide +kernel
theorem dX4_isInside_58 : decode cX4_isInside 58 = .ok (.aload_n 0, 1) := by decide +kernel
theorem dX4_isInside_59 : decode cX4_isInside 59 = .ok (.iload_n 2, 1) := by decide +kernel
theorem dX4_isInside_60 : decode cX4_isInside 60 = .ok (.invokevirtual 56, 3) := by decide +kernel
theorem dX4_isInside_63 : decode cX4_isInside 63 = .ok (.if_icmp .ge 7, 3) := by decide +kernel
theorem dX4_isInside_66 : decode cX4_isInside 66 = .ok (.iconst 1, 1) := by decide +kernel
theorem dX4_isInside_67 : decode cX4_isInside 67 = .ok (.goto 4, 3) := by decide +kernel
theorem dX4_isInside_70 : decode cX4_isInside 70 = .ok (.iconst 0, 1) := by decide +kernel
theorem dX4_isInside_71 : decode cX4_isInside 71 = .ok (.ireturn, 1) := by decide +kernel
theorem dX4_edge_0 : decode cX4_edge 0 = .ok (.iconst 2, 1) := by decide +kernel
theorem dX4_edge_1 : decode cX4_edge 1 = .ok (.aload_n 0, 1) := by decide +kernel
theorem dX4_edge_2 : decode cX4_edge 2 = .ok (.iload_n 1, 1) := by decide +kernel
theorem dX4_edge_3 : decode cX4_edge 3 = .ok (.iconst 2, 1) := by decide +kernel
theorem dX4_edge_4 : decode cX4_edge 4 = .ok (.invokevirtual 46, 3) := by decide +kernel
theorem dX4_edge_7 : decode cX4_edge 7 = .ok (.aload_n 0, 1) := by decide +kernel
theorem dX4_edge_8 : decode cX4_edge 8 = .ok (.iload_n 1, 1) := by decide +kernel
theorem dX4_edge_9 : decode cX4_edge 9 = .ok (.iconst 3, 1) := by decide +kernel
theorem dX4_edge_10 : decode cX4_edge 10 = .ok (.invokevirtual 46, 3) := by decide +kernel
theorem dX4_edge_13 : decode cX4_edge 13 = .ok (.iadd, 1) := by decide +kernel
theorem dX4_edge_14 : decode cX4_edge 14 = .ok (.imul, 1) := by decide +kernel
theorem dX4_edge_15 : decode cX4_edge 15 = .ok (.iconst 4, 1) := by decide +kernel
theorem dX4_edge_16 : decode cX4_edge 16 = .ok (.isub, 1) := by decide +kernel
theorem dX4_edge_17 : decode cX4_edge 17 = .ok (.ireturn, 1) := by decide +kernel
theorem dX4_isOnEdge_0 : decode cX4_isOnEdge 0 = .ok (.iload_n 2, 1) := by decide +kernel
theorem dX4_isOnEdge_1 : decode cX4_isOnEdge 1 = .ok (.aload_n 0, 1) := by decide +kernel
theorem dX4_isOnEdge_2 : decode cX4_isOnEdge 2 = .ok (.iload_n 1, 1) := by decide +kernel
theorem dX4_isOnEdge_3 : decode cX4_isOnEdge 3 = .ok (.iconst 0, 1) := by decide +kernel
theorem dX4_isOnEdge_4 : decode cX4_isOnEdge 4 = .ok (.invokevirtual 46, 3) := by decide +kernel
theorem dX4_isOnEdge_7 : decode cX4_isOnEdge 7 = .ok (.aload_n 0, 1) := by decide +kernel
theorem dX4_isOnEdge_8 : decode cX4_isOnEdge 8 = .ok (.iload_n 1, 1) := by decide +kernel
theorem dX4_isOnEdge_9 : decode cX4_isOnEdge 9 = .ok (.invokevirtual 52, 3) := by decide +kernel
theorem dX4_isOnEdge_12 : decode cX4_isOnEdge 12 = .ok (.invokestatic 38, 3) := by decide +kernel
theorem dX4_isOnEdge_15 : decode cX4_isOnEdge 15 = .ok (.ifCond .eq 25, 3) := by decide +kernel
theorem dX4_isOnEdge_18 : decode cX4_isOnEdge 18 = .ok (.iload_n 3, 1) := by decide +kernel
theorem dX4_isOnEdge_19 : decode cX4_isOnEdge 19 = .ok (.aload_n 0, 1) := by decide +kernel
theorem dX4_isOnEdge_20 : decode cX4_isOnEdge 20 = .ok (.iload_n 1, 1) := by decide +kernel
theorem dX4_isOnEdge_21 : decode cX4_isOnEdge 21 = .ok (.iconst 1, 1) := by decide +kernel
theorem dX4_isOnEdge_22 : decode cX4_isOnEdge 22 = .ok (.invokevirtual 46, 3) := by decide +kernel
theorem dX4_isOnEdge_25 : decode cX4_isOnEdge 25 = .ok (.aload_n 0, 1) := by decide +kernel
theorem dX4_isOnEdge_26 : decode cX4_isOnEdge 26 = .ok (.iload_n 1, 1) := by decide +kernel
theorem dX4_isOnEdge_27 : decode cX4_isOnEdge 27 = .ok (.invokevirtual 56, 3) := by decide +kernel
theorem dX4_isOnEdge_30 : decode cX4_isOnEdge 30 = .ok (.invokestatic 38, 3) := by decide +kernel
theorem dX4_isOnEdge_33 : decode cX4_isOnEdge 33 = .ok (.ifCond .eq 7, 3) := by decide +kernel
theorem dX4_isOnEdge_36 : decode cX4_isOnEdge 36 = .ok (.iconst 1, 1) := by decide +kernel
theorem dX4_isOnEdge_37 : decode cX4_isOnEdge 37 = .ok (.goto 4, 3) := by decide +kernel
theorem dX4_isOnEdge_40 : decode cX4_isOnEdge 40 = .ok (.iconst 0, 1) := by decide +kernel
theorem dX4_isOnEdge_41 : decode cX4_isOnEdge 41 = .ok (.istore 4, 2) := by decide +kernel
theorem dX4_isOnEdge_43 : decode cX4_isOnEdge 43 = .ok (.iload 4, 2) := by decide +kernel
theorem dX4_isOnEdge_45 : decode cX4_isOnEdge 45 = .ok (.ifCond .eq 45, 3) := by decide +kernel
theorem dX4_isOnEdge_48 : decode cX4_isOnEdge 48 = .ok (.iload_n 2, 1) := by decide +kernel
theorem dX4_isOnEdge_49 : decode cX4_isOnEdge 49 = .ok (.aload_n 0, 1) := by decide +kernel
theorem dX4_isOnEdge_50 : decode cX4_isOnEdge 50 = .ok (.iload_n 1, 1) := by decide +kernel
theorem dX4_isOnEdge_51 : decode cX4_isOnEdge 51 = .ok (.iconst 0, 1) := by decide +kernel
theorem dX4_isOnEdge_52 : decode cX4_isOnEdge 52 = .ok (.invokevirtual 46, 3) := by decide +kernel
theorem dX4_isOnEdge_55 : decode cX4_isOnEdge 55 = .ok (.if_icmp .eq 31, 3) := by decide +kernel
theorem dX4_isOnEdge_58 : decode cX4_isOnEdge 58 = .ok (.iload_n 2, 1) := by decide +kernel
theorem dX4_isOnEdge_59 : decode cX4_isOnEdge 59 = .ok (.aload_n 0, 1) := by decide +kernel
theorem dX4_isOnEdge_60 : decode cX4_isOnEdge 60 = .ok (.iload_n 1, 1) := by decide +kernel
theorem dX4_isOnEdge_61 : decode cX4_isOnEdge 61 = .ok (.invokevirtual 52, 3) := by decide +kernel
theorem dX4_isOnEdge_64 : decode cX4_isOnEdge 64 = .ok (.if_icmp .eq 22, 3) := by decide +kernel
theorem dX4_isOnEdge_67 : decode cX4_isOnEdge 67 = .ok (.iload_n 3, 1) := by decide +kernel
theorem dX4_isOnEdge_68 : decode cX4_isOnEdge 68 = .ok (.aload_n 0, 1) := by decide +kernel
theorem dX4_isOnEdge_69 : decode cX4_isOnEdge 69 = .ok (.iload_n 1, 1) := by decide +kernel
theorem dX4_isOnEdge_70 : decode cX4_isOnEdge 70 = .ok (.iconst 1, 1) := by decide +kernel
theorem dX4_isOnEdge_71 : decode cX4_isOnEdge 71 = .ok (.invokevirtual 46, 3) := by decide +kernel
theorem dX4_isOnEdge_74 : decode cX4_isOnEdge 74 = .ok (.if_icmp .eq 12, 3) := by decide +kernel
theorem dX4_isOnEdge_77 : decode cX4_isOnEdge 77 = .ok (.iload_n 3, 1) := by decide +kernel
theorem dX4_isOnEdge_78 : decode cX4_isOnEdge 78 = .ok (.aload_n 0, 1) := by decide +kernel
theorem dX4_isOnEdge_79 : decode cX4_isOnEdge 79 = .ok (.iload_n 1, 1) := by decide +kernel
theorem dX4_isOnEdge_80 : decode cX4_isOnEdge 80 = .ok (.invokevirtual 56, 3) := by decide +kernel
theorem dX4_isOnEdge_83 : decode cX4_isOnEdge 83 = .ok (.if_icmp .ne 7, 3) := by decide +kernel
theorem dX4_isOnEdge_86 : decode cX4_isOnEdge 86 = .ok (.iconst 1, 1) := by decide +kernel
theorem dX4_isOnEdge_87 : decode cX4_isOnEdge 87 = .ok (.goto 4, 3) := by decide +kernel
theorem dX4_isOnEdge_90 : decode cX4_isOnEdge 90 = .ok (.iconst 0, 1) := by decide +kernel
theorem dX4_isOnEdge_91 : decode cX4_isOnEdge 91 = .ok (.ireturn, 1) := by decide +kernel
theorem dX4_edgeIn_0 : decode cX4_edgeIn 0 = .ok (.iconst 0, 1) := by decide +kernel
theorem dX4_edgeIn_1 : decode cX4_edgeIn 1 = .ok (.istore_n 3, 1) := by decide +kernel
theorem dX4_edgeIn_2 : decode cX4_edgeIn 2 = .ok (.iconst 0, 1) := by decide +kernel
theorem dX4_edgeIn_3 : decode cX4_edgeIn 3 = .ok (.istore 4, 2) := by decide +kernel
theorem dX4_edgeIn_5 : decode cX4_edgeIn 5 = .ok (.iload 4, 2) := by decide +kernel
theorem dX4_edgeIn_7 : decode cX4_edgeIn 7 = .ok (.bipush 64, 2) := by decide +kernel
theorem dX4_edgeIn_9 : decode cX4_edgeIn 9 = .ok (.if_icmp .ge 49, 3) := by decide +kernel
theorem dX4_edgeIn_12 : decode cX4_edgeIn 12 = .ok (.iload_n 3, 1) := by decide +kernel
theorem dX4_edgeIn_13 : decode cX4_edgeIn 13 = .ok (.aload_n 0, 1) := by decide +kernel
theorem dX4_edgeIn_14 : decode cX4_edgeIn 14 = .ok (.iload_n 1, 1) := by decide +kernel
theorem dX4_edgeIn_15 : decode cX4_edgeIn 15 = .ok (.bipush 8, 2) := by decide +kernel
theorem dX4_edgeIn_17 : decode cX4_edgeIn 17 = .ok (.iload_n 2, 1) := by decide +kernel
theorem dX4_edgeIn_18 : decode cX4_edgeIn 18 = .ok (.iconst 4, 1) := by decide +kernel
theorem dX4_edgeIn_19 : decode cX4_edgeIn 19 = .ok (.irem, 1) := by decide +kernel
theorem dX4_edgeIn_20 : decode cX4_edgeIn 20 = .ok (.imul, 1) := by decide +kernel
theorem dX4_edgeIn_21 : decode cX4_edgeIn 21 = .ok (.iload 4, 2) := by decide +kernel
theorem dX4_edgeIn_23 : decode cX4_edgeIn 23 = .ok (.bipush 8, 2) := by decide +kernel
theorem dX4_edgeIn_25 : decode cX4_edgeIn 25 = .ok (.irem, 1) := by decide +kernel
theorem dX4_edgeIn_26 : decode cX4_edgeIn 26 = .ok (.iadd, 1) := by decide +kernel
theorem dX4_edgeIn_27 : decode cX4_edgeIn 27 = .ok (.bipush 8, 2) := by decide +kernel
theorem dX4_edgeIn_29 : decode cX4_edgeIn 29 = .ok (.iload_n 2, 1) := by decide +kernel
theorem dX4_edgeIn_30 : decode cX4_edgeIn 30 = .ok (.iconst 4, 1) := by decide +kernel
theorem dX4_edgeIn_31 : decode cX4_edgeIn 31 = .ok (.idiv, 1) := by decide +kernel
theorem dX4_edgeIn_32 : decode cX4_edgeIn 32 = .ok (.imul, 1) := by decide +kernel
theorem dX4_edgeIn_33 : decode cX4_edgeIn 33 = .ok (.iload 4, 2) := by decide +kernel
theorem dX4_edgeIn_35 : decode cX4_edgeIn 35 = .ok (.bipush 8, 2) := by decide +kernel
theorem dX4_edgeIn_37 : decode cX4_edgeIn 37 = .ok (.idiv, 1) := by decide +kernel
theorem dX4_edgeIn_38 : decode cX4_edgeIn 38 = .ok (.iadd, 1) := by decide +kernel
theorem dX4_edgeIn_39 : decode cX4_edgeIn 39 = .ok (.invokevirtual 59, 3) := by decide +kernel
theorem dX4_edgeIn_42 : decode cX4_edgeIn 42 = .ok (.ifCond .eq 7, 3) := by decide +kernel
theorem dX4_edgeIn_45 : decode cX4_edgeIn 45 = .ok (.iconst 1, 1) := by decide +kernel
theorem dX4_edgeIn_46 : decode cX4_edgeIn 46 = .ok (.goto 4, 3) := by decide +kernel
theorem dX4_edgeIn_49 : decode cX4_edgeIn 49 = .ok (.iconst 0, 1) := by decide +kernel
theorem dX4_edgeIn_50 : decode cX4_edgeIn 50 = .ok (.iadd, 1) := by decide +kernel
theorem dX4_edgeIn_51 : decode cX4_edgeIn 51 = .ok (.istore_n 3, 1) := by decide +kernel
theorem dX4_edgeIn_52 : decode cX4_edgeIn 52 = .ok (.iinc 4 1, 3) := by decide +kernel
theorem dX4_edgeIn_55 : decode cX4_edgeIn 55 = .ok (.goto (-50), 3) := by decide +kernel
theorem dX4_edgeIn_58 : decode cX4_edgeIn 58 = .ok (.iload_n 3, 1) := by decide +kernel
theorem dX4_edgeIn_59 : decode cX4_edgeIn 59 = .ok (.ireturn, 1) := by decide +kernel
theorem dX4_leadColumn_0 : decode cX4_leadColumn 0 = .ok (.aload_n 0, 1) := by decide +kernel
theorem dX4_leadColumn_1 : decode cX4_leadColumn 1 = .ok (.iload_n 1, 1) := by decide +kernel
theorem dX4_leadColumn_2 : decode cX4_leadColumn 2 = .ok (.iconst 4, 1) := by decide +kernel
theorem dX4_leadColumn_3 : decode cX4_leadColumn 3 = .ok (.invokevirtual 46, 3) := by decide +kernel
theorem dX4_leadColumn_6 : decode cX4_leadColumn 6 = .ok (.ifCond .eq 13, 3) := by decide +kernel
theorem dX4_leadColumn_9 : decode cX4_leadColumn 9 = .ok (.aload_n 0, 1) := by decide +kernel
theorem dX4_leadColumn_10 : decode cX4_leadColumn 10 = .ok (.iload_n 1, 1) := by decide +kernel
theorem dX4_leadColumn_11 : decode cX4_leadColumn 11 = .ok (.iconst 4, 1) := by decide +kernel
theorem dX4_leadColumn_12 : decode cX4_leadColumn 12 = .ok (.invokevirtual 46, 3) := by decide +kernel
theorem dX4_leadColumn_15 : decode cX4_leadColumn 15 = .ok (.iconst 3, 1) := by decide +kernel
theorem dX4_leadColumn_16 : decode cX4_leadColumn 16 = .ok (.if_icmp .ne 12, 3) := by decide +kernel
theorem dX4_leadColumn_19 : decode cX4_leadColumn 19 = .ok (.aload_n 0, 1) := by decide +kernel
theorem dX4_leadColumn_20 : decode cX4_leadColumn 20 = .ok (.iload_n 1, 1) := by decide +kernel
theorem dX4_leadColumn_21 : decode cX4_leadColumn 21 = .ok (.iconst 0, 1) := by decide +kernel
theorem dX4_leadColumn_22 : decode cX4_leadColumn 22 = .ok (.invokevirtual 46, 3) := by decide +kernel
theorem dX4_leadColumn_25 : decode cX4_leadColumn 25 = .ok (.goto 8, 3) := by decide +kernel
theorem dX4_leadColumn_28 : decode cX4_leadColumn 28 = .ok (.aload_n 0, 1) := by decide +kernel
theorem dX4_leadColumn_29 : decode cX4_leadColumn 29 = .ok (.iload_n 1, 1) := by decide +kernel
theorem dX4_leadColumn_30 : decode cX4_leadColumn 30 = .ok (.invokevirtual 52, 3) := by decide +kernel
theorem dX4_leadColumn_33 : decode cX4_leadColumn 33 = .ok (.ireturn, 1) := by decide +kernel
theorem dX4_leadRow_0 : decode cX4_leadRow 0 = .ok (.aload_n 0, 1) := by decide +kernel
theorem dX4_leadRow_1 : decode cX4_leadRow 1 = .ok (.iload_n 1, 1) := by decide +kernel
theorem dX4_leadRow_2 : decode cX4_leadRow 2 = .ok (.iconst 4, 1) := by decide +kernel
theorem dX4_leadRow_3 : decode cX4_leadRow 3 = .ok (.invokevirtual 46, 3) := by decide +kernel
theorem dX4_leadRow_6 : decode cX4_leadRow 6 = .ok (.iconst 2, 1) := by decide +kernel
theorem dX4_leadRow_7 : decode cX4_leadRow 7 = .ok (.if_icmp .ge 12, 3) := by decide +kernel
theorem dX4_leadRow_10 : decode cX4_leadRow 10 = .ok (.aload_n 0, 1) := by decide +kernel
theorem dX4_leadRow_11 : decode cX4_leadRow 11 = .ok (.iload_n 1, 1) := by decide +kernel
theorem dX4_leadRow_12 : decode cX4_leadRow 12 = .ok (.iconst 1, 1) := by decide +kernel
theorem dX4_leadRow_13 : decode cX4_leadRow 13 = .ok (.invokevirtual 46, 3) := by decide +kernel
theorem dX4_leadRow_16 : decode cX4_leadRow 16 = .ok (.goto 8, 3) := by decide +kernel
theorem dX4_leadRow_19 : decode cX4_leadRow 19 = .ok (.aload_n 0, 1) := by decide +kernel
theorem dX4_leadRow_20 : decode cX4_leadRow 20 = .ok (.iload_n 1, 1) := by decide +kernel
theorem dX4_leadRow_21 : decode cX4_leadRow 21 = .ok (.invokevirtual 56, 3) := by decide +kernel
theorem dX4_leadRow_24 : decode cX4_leadRow 24 = .ok (.ireturn, 1) := by decide +kernel
theorem dX4_outer_0 : decode cX4_outer 0 = .ok (.bipush (-5), 2) := by decide +kernel
theorem dX4_outer_2 : decode cX4_outer 2 = .ok (.istore_n 2, 1) := by decide +kernel
theorem dX4_outer_3 : decode cX4_outer 3 = .ok (.iconst 0, 1) := by decide +kernel
theorem dX4_outer_4 : decode cX4_outer 4 = .ok (.istore_n 3, 1) := by decide +kernel
theorem dX4_outer_5 : decode cX4_outer 5 = .ok (.iload_n 3, 1) := by decide +kernel
theorem dX4_outer_6 : decode cX4_outer 6 = .ok (.aload_n 0, 1) := by decide +kernel
theorem dX4_outer_7 : decode cX4_outer 7 = .ok (.getfield 7, 3) := by decide +kernel
theorem dX4_outer_10 : decode cX4_outer 10 = .ok (.iconst 0, 1) := by decide +kernel
theorem dX4_outer_11 : decode cX4_outer 11 = .ok (.iaload, 1) := by decide +kernel
theorem dX4_outer_12 : decode cX4_outer 12 = .ok (.if_icmp .ge 39, 3) := by decide +kernel
theorem dX4_outer_15 : decode cX4_outer 15 = .ok (.aload_n 0, 1) := by decide +kernel
theorem dX4_outer_16 : decode cX4_outer 16 = .ok (.iload_n 1, 1) := by decide +kernel
theorem dX4_outer_17 : decode cX4_outer 17 = .ok (.iload_n 3, 1) := by decide +kernel
theorem dX4_outer_18 : decode cX4_outer 18 = .ok (.invokevirtual 62, 3) := by decide +kernel
theorem dX4_outer_21 : decode cX4_outer 21 = .ok (.ifCond .eq 22, 3) := by decide +kernel
theorem dX4_outer_24 : decode cX4_outer 24 = .ok (.iload_n 2, 1) := by decide +kernel
theorem dX4_outer_25 : decode cX4_outer 25 = .ok (.bipush (-5), 2) := by decide +kernel
theorem dX4_outer_27 : decode cX4_outer 27 = .ok (.if_icmp .eq 12, 3) := by decide +kernel
theorem dX4_outer_30 : decode cX4_outer 30 = .ok (.aload_n 0, 1) := by decide +kernel
theorem dX4_outer_31 : decode cX4_outer 31 = .ok (.iload_n 3, 1) := by decide +kernel
theorem dX4_outer_32 : decode cX4_outer 32 = .ok (.iload_n 2, 1) := by decide +kernel
theorem dX4_outer_33 : decode cX4_outer 33 = .ok (.invokevirtual 62, 3) := by decide +kernel
theorem dX4_outer_36 : decode cX4_outer 36 = .ok (.ifCond .eq 7, 3) := by decide +kernel
theorem dX4_outer_39 : decode cX4_outer 39 = .ok (.iload_n 3, 1) := by decide +kernel
theorem dX4_outer_40 : decode cX4_outer 40 = .ok (.goto 4, 3) := by decide +kernel
theorem dX4_outer_43 : decode cX4_outer 43 = .ok (.iload_n 2, 1) := by decide +kernel
theorem dX4_outer_44 : decode cX4_outer 44 = .ok (.istore_n 2, 1) := by decide +kernel
theorem dX4_outer_45 : decode cX4_outer 45 = .ok (.iinc 3 1, 3) := by decide +kernel
theorem dX4_outer_48 : decode cX4_outer 48 = .ok (.goto (-43), 3) := by decide +kernel
theorem dX4_outer_51 : decode cX4_outer 51 = .ok (.iload_n 2, 1) := by decide +kernel
theorem dX4_outer_52 : decode cX4_outer 52 = .ok (.ireturn, 1) := by decide +kernel
theorem dX4_inner_0 : decode cX4_inner 0 = .ok (.iconst 0, 1) := by decide +kernel
theorem dX4_inner_1 : decode cX4_inner 1 = .ok (.istore_n 2, 1) := by decide +kernel
theorem dX4_inner_2 : decode cX4_inner 2 = .ok (.iconst 0, 1) := by decide +kernel
theorem dX4_inner_3 : decode cX4_inner 3 = .ok (.istore_n 3, 1) := by decide +kernel
theorem dX4_inner_4 : decode cX4_inner 4 = .ok (.iload_n 3, 1) := by decide +kernel
theorem dX4_inner_5 : decode cX4_inner 5 = .ok (.aload_n 0, 1) := by decide +kernel
theorem dX4_inner_6 : decode cX4_inner 6 = .ok (.getfield 7, 3) := by decide +kernel
theorem dX4_inner_9 : decode cX4_inner 9 = .ok (.iconst 0, 1) := by decide +kernel
theorem dX4_inner_10 : decode cX4_inner 10 = .ok (.iaload, 1) := by decide +kernel
theorem dX4_inner_11 : decode cX4_inner 11 = .ok (.if_icmp .ge 28, 3) := by decide +kernel
theorem dX4_inner_14 : decode cX4_inner 14 = .ok (.iload_n 2, 1) := by decide +kernel
theorem dX4_inner_15 : decode cX4_inner 15 = .ok (.aload_n 0, 1) := by decide +kernel
theorem dX4_inner_16 : decode cX4_inner 16 = .ok (.iload_n 3, 1) := by decide +kernel
theorem dX4_inner_17 : decode cX4_inner 17 = .ok (.iload_n 1, 1) := by decide +kernel
theorem dX4_inner_18 : decode cX4_inner 18 = .ok (.invokevirtual 62, 3) := by decide +kernel
theorem dX4_inner_21 : decode cX4_inner 21 = .ok (.ifCond .eq 9, 3) := by decide +kernel
theorem dX4_inner_24 : decode cX4_inner 24 = .ok (.iconst 1, 1) := by decide +kernel
theorem dX4_inner_25 : decode cX4_inner 25 = .ok (.iload_n 3, 1) := by decide +kernel
theorem dX4_inner_26 : decode cX4_inner 26 = .ok (.ishl, 1) := by decide +kernel
theorem dX4_inner_27 : decode cX4_inner 27 = .ok (.goto 4, 3) := by decide +kernel
theorem dX4_inner_30 : decode cX4_inner 30 = .ok (.iconst 0, 1) := by decide +kernel
theorem dX4_inner_31 : decode cX4_inner 31 = .ok (.ior, 1) := by decide +kernel
theorem dX4_inner_32 : decode cX4_inner 32 = .ok (.istore_n 2, 1) := by decide +kernel
theorem dX4_inner_33 : decode cX4_inner 33 = .ok (.iinc 3 1, 3) := by decide +kernel
theorem dX4_inner_36 : decode cX4_inner 36 = .ok (.goto (-32), 3) := by decide +kernel
theorem dX4_inner_39 : decode cX4_inner 39 = .ok (.iload_n 2, 1) := by decide +kernel
theorem dX4_inner_40 : decode cX4_inner 40 = .ok (.ireturn, 1) := by decide +kernel
theorem dX4_hasWholeInside_0 : decode cX4_hasWholeInside 0 = .ok (.iconst 0, 1) := by decide +kernel
theorem dX4_hasWholeInside_1 : decode cX4_hasWholeInside 1 = .ok (.istore_n 2, 1) := by decide +kernel
theorem dX4_hasWholeInside_2 : decode cX4_hasWholeInside 2 = .ok (.iconst 0, 1) := by decide +kernel
theorem dX4_hasWholeInside_3 : decode cX4_hasWholeInside 3 = .ok (.istore_n 3, 1) := by decide +kernel
theorem dX4_hasWholeInside_4 : decode cX4_hasWholeInside 4 = .ok (.iload_n 3, 1) := by decide +kernel
theorem dX4_hasWholeInside_5 : decode cX4_hasWholeInside 5 = .ok (.aload_n 0, 1) := by decide +kernel
theorem dX4_hasWholeInside_6 : decode cX4_hasWholeInside 6 = .ok (.getfield 7, 3) := by decide +kernel
theorem dX4_hasWholeInside_9 : decode cX4_hasWholeInside 9 = .ok (.iconst 0, 1) := by decide +kernel
theorem dX4_hasWholeInside_10 : decode cX4_hasWholeInside 10 = .ok (.iaload, 1) := by decide +kernel
theorem dX4_hasWholeInside_11 : decode cX4_hasWholeInside 11 = .ok (.if_icmp .ge 36, 3) := by decide +kernel
theorem dX4_hasWholeInside_14 : decode cX4_hasWholeInside 14 = .ok (.iload_n 2, 1) := by decide +kernel
theorem dX4_hasWholeInside_15 : decode cX4_hasWholeInside 15 = .ok (.ifCond .ne 20, 3) := by decide +kernel
theorem dX4_hasWholeInside_18 : decode cX4_hasWholeInside 18 = .ok (.aload_n 0, 1) := by decide +kernel
theorem dX4_hasWholeInside_19 : decode cX4_hasWholeInside 19 = .ok (.iload_n 3, 1) := by decide +kernel
theorem dX4_hasWholeInside_20 : decode cX4_hasWholeInside 20 = .ok (.iload_n 1, 1) := by decide +kernel
theorem dX4_hasWholeInside_21 : decode cX4_hasWholeInside 21 = .ok (.invokevirtual 62, 3) := by decide +kernel
theorem dX4_hasWholeInside_24 : decode cX4_hasWholeInside 24 = .ok (.ifCond .eq 15, 3) := by decide +kernel
theorem dX4_hasWholeInside_27 : decode cX4_hasWholeInside 27 = .ok (.aload_n 0, 1) := by decide +kernel
theorem dX4_hasWholeInside_28 : decode cX4_hasWholeInside 28 = .ok (.iload_n 3, 1) := by decide +kernel
theorem dX4_hasWholeInside_29 : decode cX4_hasWholeInside 29 = .ok (.invokevirtual 66, 3) := by decide +kernel
theorem dX4_hasWholeInside_32 : decode cX4_hasWholeInside 32 = .ok (.ifCond .eq 7, 3) := by decide +kernel
theorem dX4_hasWholeInside_35 : decode cX4_hasWholeInside 35 = .ok (.iconst 1, 1) := by decide +kernel
theorem dX4_hasWholeInside_36 : decode cX4_hasWholeInside 36 = .ok (.goto 4, 3) := by decide +kernel
theorem dX4_hasWholeInside_39 : decode cX4_hasWholeInside 39 = .ok (.iconst 0, 1) := by decide +kernel
theorem dX4_hasWholeInside_40 : decode cX4_hasWholeInside 40 = .ok (.istore_n 2, 1) := by decide +kernel
theorem dX4_hasWholeInside_41 : decode cX4_hasWholeInside 41 = .ok (.iinc 3 1, 3) := by decide +kernel
theorem dX4_hasWholeInside_44 : decode cX4_hasWholeInside 44 = .ok (.goto (-40), 3) := by decide +kernel
theorem dX4_hasWholeInside_47 : decode cX4_hasWholeInside 47 = .ok (.iload_n 2, 1) := by decide +kernel
theorem dX4_hasWholeInside_48 : decode cX4_hasWholeInside 48 = .ok (.ireturn, 1) := by decide +kernel
theorem dX4_off_0 : decode cX4_off 0 = .ok (.iload_n 0, 1) := by decide +kernel
theorem dX4_off_1 : decode cX4_off 1 = .ok (.iload_n 1, 1) := by decide +kernel
theorem dX4_off_2 : decode cX4_off 2 = .ok (.if_icmp .le 9, 3) := by decide +kernel
theorem dX4_off_5 : decode cX4_off 5 = .ok (.iload_n 0, 1) := by decide +kernel
theorem dX4_off_6 : decode cX4_off 6 = .ok (.iload_n 1, 1) := by decide +kernel
theorem dX4_off_7 : decode cX4_off 7 = .ok (.isub, 1) := by decide +kernel
theorem dX4_off_8 : decode cX4_off 8 = .ok (.goto 6, 3) := by decide +kernel
theorem dX4_off_11 : decode cX4_off 11 = .ok (.iload_n 1, 1) := by decide +kernel
theorem dX4_off_12 : decode cX4_off 12 = .ok (.iload_n 0, 1) := by decide +kernel
theorem dX4_off_13 : decode cX4_off 13 = .ok (.isub, 1) := by decide +kernel
theorem dX4_off_14 : decode cX4_off 14 = .ok (.ireturn, 1) := by decide +kernel
theorem dX4_going_0 : decode cX4_going 0 = .ok (.aload_n 0, 1) := by decide +kernel
theorem dX4_going_1 : decode cX4_going 1 = .ok (.iload_n 1, 1) := by decide +kernel
theorem dX4_going_2 : decode cX4_going 2 = .ok (.invokevirtual 70, 3) := by decide +kernel
theorem dX4_going_5 : decode cX4_going 5 = .ok (.aload_n 0, 1) := by decide +kernel
theorem dX4_going_6 : decode cX4_going 6 = .ok (.getfield 7, 3) := by decide +kernel
theorem dX4_going_9 : decode cX4_going 9 = .ok (.iconst 1, 1) := by decide +kernel
theorem dX4_going_10 : decode cX4_going 10 = .ok (.iaload, 1) := by decide +kernel
theorem dX4_going_11 : decode cX4_going 11 = .ok (.invokestatic 73, 3) := by decide +kernel
theorem dX4_going_14 : decode cX4_going 14 = .ok (.aload_n 0, 1) := by decide +kernel
theorem dX4_going_15 : decode cX4_going 15 = .ok (.iload_n 1, 1) := by decide +kernel
theorem dX4_going_16 : decode cX4_going 16 = .ok (.invokevirtual 76, 3) := by decide +kernel
theorem dX4_going_19 : decode cX4_going 19 = .ok (.aload_n 0, 1) := by decide +kernel
theorem dX4_going_20 : decode cX4_going 20 = .ok (.getfield 7, 3) := by decide +kernel
theorem dX4_going_23 : decode cX4_going 23 = .ok (.iconst 2, 1) := by decide +kernel
theorem dX4_going_24 : decode cX4_going 24 = .ok (.iaload, 1) := by decide +kernel
theorem dX4_going_25 : decode cX4_going 25 = .ok (.invokestatic 73, 3) := by decide +kernel
theorem dX4_going_28 : decode cX4_going 28 = .ok (.iadd, 1) := by decide +kernel
theorem dX4_going_29 : decode cX4_going 29 = .ok (.ireturn, 1) := by decide +kernel
theorem dX4_burning_0 : decode cX4_burning 0 = .ok (.iconst 2, 1) := by decide +kernel
theorem dX4_burning_1 : decode cX4_burning 1 = .ok (.aload_n 0, 1) := by decide +kernel
theorem dX4_burning_2 : decode cX4_burning 2 = .ok (.getfield 7, 3) := by decide +kernel
theorem dX4_burning_5 : decode cX4_burning 5 = .ok (.iconst 3, 1) := by decide +kernel
theorem dX4_burning_6 : decode cX4_burning 6 = .ok (.iaload, 1) := by decide +kernel
theorem dX4_burning_7 : decode cX4_burning 7 = .ok (.iconst 4, 1) := by decide +kernel
theorem dX4_burning_8 : decode cX4_burning 8 = .ok (.idiv, 1) := by decide +kernel
theorem dX4_burning_9 : decode cX4_burning 9 = .ok (.iadd, 1) := by decide +kernel
theorem dX4_burning_10 : decode cX4_burning 10 = .ok (.aload_n 0, 1) := by decide +kernel
theorem dX4_burning_11 : decode cX4_burning 11 = .ok (.iload_n 1, 1) := by decide +kernel
theorem dX4_burning_12 : decode cX4_burning 12 = .ok (.invokevirtual 79, 3) := by decide +kernel
theorem dX4_burning_15 : decode cX4_burning 15 = .ok (.imul, 1) := by decide +kernel
theorem dX4_burning_16 : decode cX4_burning 16 = .ok (.ireturn, 1) := by decide +kernel
theorem dX4_cooled_0 : decode cX4_cooled 0 = .ok (.iload_n 0, 1) := by decide +kernel
theorem dX4_cooled_1 : decode cX4_cooled 1 = .ok (.iload_n 1, 1) := by decide +kernel
theorem dX4_cooled_2 : decode cX4_cooled 2 = .ok (.if_icmp .le 9, 3) := by decide +kernel
theorem dX4_cooled_5 : decode cX4_cooled 5 = .ok (.iload_n 0, 1) := by decide +kernel
theorem dX4_cooled_6 : decode cX4_cooled 6 = .ok (.iload_n 1, 1) := by decide +kernel
theorem dX4_cooled_7 : decode cX4_cooled 7 = .ok (.isub, 1) := by decide +kernel
theorem dX4_cooled_8 : decode cX4_cooled 8 = .ok (.goto 4, 3) := by decide +kernel
theorem dX4_cooled_11 : decode cX4_cooled 11 = .ok (.iconst 0, 1) := by decide +kernel
theorem dX4_cooled_12 : decode cX4_cooled 12 = .ok (.ireturn, 1) := by decide +kernel
theorem dX4_cools_0 : decode cX4_cools 0 = .ok (.aload_n 0, 1) := by decide +kernel
theorem dX4_cools_1 : decode cX4_cools 1 = .ok (.getfield 7, 3) := by decide +kernel
theorem dX4_cools_4 : decode cX4_cools 4 = .ok (.iconst 4, 1) := by decide +kernel
theorem dX4_cools_5 : decode cX4_cools 5 = .ok (.dup2, 1) := by decide +kernel
theorem dX4_cools_6 : decode cX4_cools 6 = .ok (.iaload, 1) := by decide +kernel
theorem dX4_cools_7 : decode cX4_cools 7 = .ok (.iload_n 1, 1) := by decide +kernel
theorem dX4_cools_8 : decode cX4_cools 8 = .ok (.iadd, 1) := by decide +kernel
theorem dX4_cools_9 : decode cX4_cools 9 = .ok (.iastore, 1) := by decide +kernel
theorem dX4_cools_10 : decode cX4_cools 10 = .ok (.iconst 0, 1) := by decide +kernel
theorem dX4_cools_11 : decode cX4_cools 11 = .ok (.istore_n 2, 1) := by decide +kernel
theorem dX4_cools_12 : decode cX4_cools 12 = .ok (.iload_n 2, 1) := by decide +kernel
theorem dX4_cools_13 : decode cX4_cools 13 = .ok (.bipush 12, 2) := by decide +kernel
theorem dX4_cools_15 : decode cX4_cools 15 = .ok (.if_icmp .ge 39, 3) := by decide +kernel
theorem dX4_cools_18 : decode cX4_cools 18 = .ok (.aload_n 0, 1) := by decide +kernel
theorem dX4_cools_19 : decode cX4_cools 19 = .ok (.getfield 7, 3) := by decide +kernel
theorem dX4_cools_22 : decode cX4_cools 22 = .ok (.bipush 11, 2) := by decide +kernel
theorem dX4_cools_24 : decode cX4_cools 24 = .ok (.iload_n 2, 1) := by decide +kernel
theorem dX4_cools_25 : decode cX4_cools 25 = .ok (.iadd, 1) := by decide +kernel
theorem dX4_cools_26 : decode cX4_cools 26 = .ok (.aload_n 0, 1) := by decide +kernel
theorem dX4_cools_27 : decode cX4_cools 27 = .ok (.getfield 7, 3) := by decide +kernel
theorem dX4_cools_30 : decode cX4_cools 30 = .ok (.bipush 11, 2) := by decide +kernel
theorem dX4_cools_32 : decode cX4_cools 32 = .ok (.iload_n 2, 1) := by decide +kernel
theorem dX4_cools_33 : decode cX4_cools 33 = .ok (.iadd, 1) := by decide +kernel
theorem dX4_cools_34 : decode cX4_cools 34 = .ok (.iaload, 1) := by decide +kernel
theorem dX4_cools_35 : decode cX4_cools 35 = .ok (.iload_n 1, 1) := by decide +kernel
theorem dX4_cools_36 : decode cX4_cools 36 = .ok (.aload_n 0, 1) := by decide +kernel
theorem dX4_cools_37 : decode cX4_cools 37 = .ok (.getfield 7, 3) := by decide +kernel
theorem dX4_cools_40 : decode cX4_cools 40 = .ok (.bipush 8, 2) := by decide +kernel
theorem dX4_cools_42 : decode cX4_cools 42 = .ok (.iaload, 1) := by decide +kernel
theorem dX4_cools_43 : decode cX4_cools 43 = .ok (.imul, 1) := by decide +kernel
theorem dX4_cools_44 : decode cX4_cools 44 = .ok (.invokestatic 82, 3) := by decide +kernel
theorem dX4_cools_47 : decode cX4_cools 47 = .ok (.iastore, 1) := by decide +kernel
theorem dX4_cools_48 : decode cX4_cools 48 = .ok (.iinc 2 1, 3) := by decide +kernel
theorem dX4_cools_51 : decode cX4_cools 51 = .ok (.goto (-39), 3) := by decide +kernel
theorem dX4_cools_54 : decode cX4_cools 54 = .ok (.return_, 1) := by decide +kernel
theorem dX4_hottest_0 : decode cX4_hottest 0 = .ok (.iconst 0, 1) := by decide +kernel
theorem dX4_hottest_1 : decode cX4_hottest 1 = .ok (.istore_n 1, 1) := by decide +kernel
theorem dX4_hottest_2 : decode cX4_hottest 2 = .ok (.iconst 0, 1) := by decide +kernel
theorem dX4_hottest_3 : decode cX4_hottest 3 = .ok (.istore_n 2, 1) := by decide +kernel
theorem dX4_hottest_4 : decode cX4_hottest 4 = .ok (.iload_n 2, 1) := by decide +kernel
theorem dX4_hottest_5 : decode cX4_hottest 5 = .ok (.bipush 12, 2) := by decide +kernel
theorem dX4_hottest_7 : decode cX4_hottest 7 = .ok (.if_icmp .ge 36, 3) := by decide +kernel
theorem dX4_hottest_10 : decode cX4_hottest 10 = .ok (.aload_n 0, 1) := by decide +kernel
theorem dX4_hottest_11 : decode cX4_hottest 11 = .ok (.getfield 7, 3) := by decide +kernel
theorem dX4_hottest_14 : decode cX4_hottest 14 = .ok (.bipush 11, 2) := by decide +kernel
theorem dX4_hottest_16 : decode cX4_hottest 16 = .ok (.iload_n 2, 1) := by decide +kernel
theorem dX4_hottest_17 : decode cX4_hottest 17 = .ok (.iadd, 1) := by decide +kernel
theorem dX4_hottest_18 : decode cX4_hottest 18 = .ok (.iaload, 1) := by decide +kernel
theorem dX4_hottest_19 : decode cX4_hottest 19 = .ok (.iload_n 1, 1) := by decide +kernel
theorem dX4_hottest_20 : decode cX4_hottest 20 = .ok (.if_icmp .le 15, 3) := by decide +kernel
theorem dX4_hottest_23 : decode cX4_hottest 23 = .ok (.aload_n 0, 1) := by decide +kernel
theorem dX4_hottest_24 : decode cX4_hottest 24 = .ok (.getfield 7, 3) := by decide +kernel
theorem dX4_hottest_27 : decode cX4_hottest 27 = .ok (.bipush 11, 2) := by decide +kernel
theorem dX4_hottest_29 : decode cX4_hottest 29 = .ok (.iload_n 2, 1) := by decide +kernel
theorem dX4_hottest_30 : decode cX4_hottest 30 = .ok (.iadd, 1) := by decide +kernel
theorem dX4_hottest_31 : decode cX4_hottest 31 = .ok (.iaload, 1) := by decide +kernel
theorem dX4_hottest_32 : decode cX4_hottest 32 = .ok (.goto 4, 3) := by decide +kernel
theorem dX4_hottest_35 : decode cX4_hottest 35 = .ok (.iload_n 1, 1) := by decide +kernel
theorem dX4_hottest_36 : decode cX4_hottest 36 = .ok (.istore_n 1, 1) := by decide +kernel
theorem dX4_hottest_37 : decode cX4_hottest 37 = .ok (.iinc 2 1, 3) := by decide +kernel
theorem dX4_hottest_40 : decode cX4_hottest 40 = .ok (.goto (-36), 3) := by decide +kernel
theorem dX4_hottest_43 : decode cX4_hottest 43 = .ok (.iload_n 1, 1) := by decide +kernel
theorem dX4_hottest_44 : decode cX4_hottest 44 = .ok (.ireturn, 1) := by decide +kernel
theorem dX4_isTooHot_0 : decode cX4_isTooHot 0 = .ok (.iconst 0, 1) := by decide +kernel
theorem dX4_isTooHot_1 : decode cX4_isTooHot 1 = .ok (.istore_n 3, 1) := by decide +kernel
theorem dX4_isTooHot_2 : decode cX4_isTooHot 2 = .ok (.iconst 0, 1) := by decide +kernel
theorem dX4_isTooHot_3 : decode cX4_isTooHot 3 = .ok (.istore 4, 2) := by decide +kernel
theorem dX4_isTooHot_5 : decode cX4_isTooHot 5 = .ok (.iload 4, 2) := by decide +kernel
theorem dX4_isTooHot_7 : decode cX4_isTooHot 7 = .ok (.bipush 12, 2) := by decide +kernel
theorem dX4_isTooHot_9 : decode cX4_isTooHot 9 = .ok (.if_icmp .ge 61, 3) := by decide +kernel
theorem dX4_isTooHot_12 : decode cX4_isTooHot 12 = .ok (.iload_n 3, 1) := by decide +kernel
theorem dX4_isTooHot_13 : decode cX4_isTooHot 13 = .ok (.ifCond .ne 45, 3) := by decide +kernel
theorem dX4_isTooHot_16 : decode cX4_isTooHot 16 = .ok (.aload_n 0, 1) := by decide +kernel
theorem dX4_isTooHot_17 : decode cX4_isTooHot 17 = .ok (.iload_n 1, 1) := by decide +kernel
theorem dX4_isTooHot_18 : decode cX4_isTooHot 18 = .ok (.iload 4, 2) := by decide +kernel
theorem dX4_isTooHot_20 : decode cX4_isTooHot 20 = .ok (.invokevirtual 85, 3) := by decide +kernel
theorem dX4_isTooHot_23 : decode cX4_isTooHot 23 = .ok (.ifCond .le 39, 3) := by decide +kernel
theorem dX4_isTooHot_26 : decode cX4_isTooHot 26 = .ok (.aload_n 0, 1) := by decide +kernel
theorem dX4_isTooHot_27 : decode cX4_isTooHot 27 = .ok (.getfield 7, 3) := by decide +kernel
theorem dX4_isTooHot_30 : decode cX4_isTooHot 30 = .ok (.bipush 11, 2) := by decide +kernel
theorem dX4_isTooHot_32 : decode cX4_isTooHot 32 = .ok (.iload 4, 2) := by decide +kernel
theorem dX4_isTooHot_34 : decode cX4_isTooHot 34 = .ok (.iadd, 1) := by decide +kernel
theorem dX4_isTooHot_35 : decode cX4_isTooHot 35 = .ok (.iaload, 1) := by decide +kernel
theorem dX4_isTooHot_36 : decode cX4_isTooHot 36 = .ok (.iload_n 2, 1) := by decide +kernel
theorem dX4_isTooHot_37 : decode cX4_isTooHot 37 = .ok (.aload_n 0, 1) := by decide +kernel
theorem dX4_isTooHot_38 : decode cX4_isTooHot 38 = .ok (.getfield 7, 3) := by decide +kernel
theorem dX4_isTooHot_41 : decode cX4_isTooHot 41 = .ok (.bipush 8, 2) := by decide +kernel
theorem dX4_isTooHot_43 : decode cX4_isTooHot 43 = .ok (.iaload, 1) := by decide +kernel
theorem dX4_isTooHot_44 : decode cX4_isTooHot 44 = .ok (.imul, 1) := by decide +kernel
theorem dX4_isTooHot_45 : decode cX4_isTooHot 45 = .ok (.invokestatic 82, 3) := by decide +kernel
theorem dX4_isTooHot_48 : decode cX4_isTooHot 48 = .ok (.aload_n 0, 1) := by decide +kernel
theorem dX4_isTooHot_49 : decode cX4_isTooHot 49 = .ok (.getfield 7, 3) := by decide +kernel
theorem dX4_isTooHot_52 : decode cX4_isTooHot 52 = .ok (.bipush 9, 2) := by decide +kernel
theorem dX4_isTooHot_54 : decode cX4_isTooHot 54 = .ok (.iaload, 1) := by decide +kernel
theorem dX4_isTooHot_55 : decode cX4_isTooHot 55 = .ok (.if_icmp .le 7, 3) := by decide +kernel
theorem dX4_isTooHot_58 : decode cX4_isTooHot 58 = .ok (.iconst 1, 1) := by decide +kernel
theorem dX4_isTooHot_59 : decode cX4_isTooHot 59 = .ok (.goto 4, 3) := by decide +kernel
theorem dX4_isTooHot_62 : decode cX4_isTooHot 62 = .ok (.iconst 0, 1) := by decide +kernel
theorem dX4_isTooHot_63 : decode cX4_isTooHot 63 = .ok (.istore_n 3, 1) := by decide +kernel
theorem dX4_isTooHot_64 : decode cX4_isTooHot 64 = .ok (.iinc 4 1, 3) := by decide +kernel
theorem dX4_isTooHot_67 : decode cX4_isTooHot 67 = .ok (.goto (-62), 3) := by decide +kernel
theorem dX4_isTooHot_70 : decode cX4_isTooHot 70 = .ok (.iload_n 3, 1) := by decide +kernel
theorem dX4_isTooHot_71 : decode cX4_isTooHot 71 = .ok (.ireturn, 1) := by decide +kernel
theorem dX4_why_0 : decode cX4_why 0 = .ok (.aload_n 0, 1) := by decide +kernel
theorem dX4_why_1 : decode cX4_why 1 = .ok (.iload_n 1, 1) := by decide +kernel
theorem dX4_why_2 : decode cX4_why 2 = .ok (.invokevirtual 66, 3) := by decide +kernel
theorem dX4_why_5 : decode cX4_why 5 = .ok (.ifCond .ne 10, 3) := by decide +kernel
theorem dX4_why_8 : decode cX4_why 8 = .ok (.aload_n 0, 1) := by decide +kernel
theorem dX4_why_9 : decode cX4_why 9 = .ok (.iload_n 1, 1) := by decide +kernel
theorem dX4_why_10 : decode cX4_why 10 = .ok (.iconst 5, 1) := by decide +kernel
theorem dX4_why_11 : decode cX4_why 11 = .ok (.invokevirtual 46, 3) := by decide +kernel
theorem dX4_why_14 : decode cX4_why 14 = .ok (.ireturn, 1) := by decide +kernel
theorem dX4_why_15 : decode cX4_why 15 = .ok (.aload_n 0, 1) := by decide +kernel
theorem dX4_why_16 : decode cX4_why 16 = .ok (.getfield 7, 3) := by decide +kernel
theorem dX4_why_19 : decode cX4_why 19 = .ok (.bipush 10, 2) := by decide +kernel
theorem dX4_why_21 : decode cX4_why 21 = .ok (.iaload, 1) := by decide +kernel
theorem dX4_why_22 : decode cX4_why 22 = .ok (.iconst 1, 1) := by decide +kernel
theorem dX4_why_23 : decode cX4_why 23 = .ok (.if_icmp .ne 15, 3) := by decide +kernel
theorem dX4_why_26 : decode cX4_why 26 = .ok (.aload_n 0, 1) := by decide +kernel
theorem dX4_why_27 : decode cX4_why 27 = .ok (.iload_n 1, 1) := by decide +kernel
theorem dX4_why_28 : decode cX4_why 28 = .ok (.invokevirtual 88, 3) := by decide +kernel
theorem dX4_why_31 : decode cX4_why 31 = .ok (.ifCond .eq 7, 3) := by decide +kernel
theorem dX4_why_34 : decode cX4_why 34 = .ok (.iconst 3, 1) := by decide +kernel
theorem dX4_why_35 : decode cX4_why 35 = .ok (.goto 21, 3) := by decide +kernel
theorem dX4_why_38 : decode cX4_why 38 = .ok (.aload_n 0, 1) := by decide +kernel
theorem dX4_why_39 : decode cX4_why 39 = .ok (.iload_n 1, 1) := by decide +kernel
theorem dX4_why_40 : decode cX4_why 40 = .ok (.aload_n 0, 1) := by decide +kernel
theorem dX4_why_41 : decode cX4_why 41 = .ok (.iload_n 1, 1) := by decide +kernel
theorem dX4_why_42 : decode cX4_why 42 = .ok (.invokevirtual 91, 3) := by decide +kernel
theorem dX4_why_45 : decode cX4_why 45 = .ok (.invokevirtual 94, 3) := by decide +kernel
theorem dX4_why_48 : decode cX4_why 48 = .ok (.ifCond .eq 7, 3) := by decide +kernel
theorem dX4_why_51 : decode cX4_why 51 = .ok (.iconst 4, 1) := by decide +kernel
theorem dX4_why_52 : decode cX4_why 52 = .ok (.goto 4, 3) := by decide +kernel
theorem dX4_why_55 : decode cX4_why 55 = .ok (.iconst 0, 1) := by decide +kernel
theorem dX4_why_56 : decode cX4_why 56 = .ok (.ireturn, 1) := by decide +kernel
theorem dX4_cuts_0 : decode cX4_cuts 0 = .ok (.aload_n 0, 1) := by decide +kernel
theorem dX4_cuts_1 : decode cX4_cuts 1 = .ok (.iload_n 1, 1) := by decide +kernel
theorem dX4_cuts_2 : decode cX4_cuts 2 = .ok (.invokevirtual 97, 3) := by decide +kernel
theorem dX4_cuts_5 : decode cX4_cuts 5 = .ok (.ifCond .ne 5, 3) := by decide +kernel
theorem dX4_cuts_8 : decode cX4_cuts 8 = .ok (.iconst (-1), 1) := by decide +kernel
theorem dX4_cuts_9 : decode cX4_cuts 9 = .ok (.ireturn, 1) := by decide +kernel
theorem dX4_cuts_10 : decode cX4_cuts 10 = .ok (.aload_n 0, 1) := by decide +kernel
theorem dX4_cuts_11 : decode cX4_cuts 11 = .ok (.iload_n 1, 1) := by decide +kernel
theorem dX4_cuts_12 : decode cX4_cuts 12 = .ok (.invokevirtual 100, 3) := by decide +kernel
theorem dX4_cuts_15 : decode cX4_cuts 15 = .ok (.ifCond .le 12, 3) := by decide +kernel
theorem dX4_cuts_18 : decode cX4_cuts 18 = .ok (.bipush (-10), 2) := by decide +kernel
theorem dX4_cuts_20 : decode cX4_cuts 20 = .ok (.aload_n 0, 1) := by decide +kernel
theorem dX4_cuts_21 : decode cX4_cuts 21 = .ok (.iload_n 1, 1) := by decide +kernel
theorem dX4_cuts_22 : decode cX4_cuts 22 = .ok (.invokevirtual 100, 3) := by decide +kernel
theorem dX4_cuts_25 : decode cX4_cuts 25 = .ok (.isub, 1) := by decide +kernel
theorem dX4_cuts_26 : decode cX4_cuts 26 = .ok (.ireturn, 1) := by decide +kernel
theorem dX4_cuts_27 : decode cX4_cuts 27 = .ok (.aload_n 0, 1) := by decide +kernel
theorem dX4_cuts_28 : decode cX4_cuts 28 = .ok (.aload_n 0, 1) := by decide +kernel
theorem dX4_cuts_29 : decode cX4_cuts 29 = .ok (.iload_n 1, 1) := by decide +kernel
theorem dX4_cuts_30 : decode cX4_cuts 30 = .ok (.invokevirtual 91, 3) := by decide +kernel
theorem dX4_cuts_33 : decode cX4_cuts 33 = .ok (.invokevirtual 103, 3) := by decide +kernel
theorem dX4_cuts_36 : decode cX4_cuts 36 = .ok (.aload_n 0, 1) := by decide +kernel
theorem dX4_cuts_37 : decode cX4_cuts 37 = .ok (.getfield 7, 3) := by decide +kernel
theorem dX4_cuts_40 : decode cX4_cuts 40 = .ok (.iconst 1, 1) := by decide +kernel
theorem dX4_cuts_41 : decode cX4_cuts 41 = .ok (.aload_n 0, 1) := by decide +kernel
theorem dX4_cuts_42 : decode cX4_cuts 42 = .ok (.iload_n 1, 1) := by decide +kernel
theorem dX4_cuts_43 : decode cX4_cuts 43 = .ok (.invokevirtual 70, 3) := by decide +kernel
theorem dX4_cuts_46 : decode cX4_cuts 46 = .ok (.iastore, 1) := by decide +kernel
theorem dX4_cuts_47 : decode cX4_cuts 47 = .ok (.aload_n 0, 1) := by decide +kernel
theorem dX4_cuts_48 : decode cX4_cuts 48 = .ok (.getfield 7, 3) := by decide +kernel
theorem dX4_cuts_51 : decode cX4_cuts 51 = .ok (.iconst 2, 1) := by decide +kernel
theorem dX4_cuts_52 : decode cX4_cuts 52 = .ok (.aload_n 0, 1) := by decide +kernel
theorem dX4_cuts_53 : decode cX4_cuts 53 = .ok (.iload_n 1, 1) := by decide +kernel
theorem dX4_cuts_54 : decode cX4_cuts 54 = .ok (.invokevirtual 76, 3) := by decide +kernel
theorem dX4_cuts_57 : decode cX4_cuts 57 = .ok (.iastore, 1) := by decide +kernel
theorem dX4_cuts_58 : decode cX4_cuts 58 = .ok (.aload_n 0, 1) := by decide +kernel
theorem dX4_cuts_59 : decode cX4_cuts 59 = .ok (.getfield 7, 3) := by decide +kernel
theorem dX4_cuts_62 : decode cX4_cuts 62 = .ok (.iconst 4, 1) := by decide +kernel
theorem dX4_cuts_63 : decode cX4_cuts 63 = .ok (.dup2, 1) := by decide +kernel
theorem dX4_cuts_64 : decode cX4_cuts 64 = .ok (.iaload, 1) := by decide +kernel
theorem dX4_cuts_65 : decode cX4_cuts 65 = .ok (.aload_n 0, 1) := by decide +kernel
theorem dX4_cuts_66 : decode cX4_cuts 66 = .ok (.iload_n 1, 1) := by decide +kernel
theorem dX4_cuts_67 : decode cX4_cuts 67 = .ok (.invokevirtual 107, 3) := by decide +kernel
theorem dX4_cuts_70 : decode cX4_cuts 70 = .ok (.iadd, 1) := by decide +kernel
theorem dX4_cuts_71 : decode cX4_cuts 71 = .ok (.iastore, 1) := by decide +kernel
theorem dX4_cuts_72 : decode cX4_cuts 72 = .ok (.aload_n 0, 1) := by decide +kernel
theorem dX4_cuts_73 : decode cX4_cuts 73 = .ok (.getfield 7, 3) := by decide +kernel
theorem dX4_cuts_76 : decode cX4_cuts 76 = .ok (.iconst 5, 1) := by decide +kernel
theorem dX4_cuts_77 : decode cX4_cuts 77 = .ok (.dup2, 1) := by decide +kernel
theorem dX4_cuts_78 : decode cX4_cuts 78 = .ok (.iaload, 1) := by decide +kernel
theorem dX4_cuts_79 : decode cX4_cuts 79 = .ok (.aload_n 0, 1) := by decide +kernel
theorem dX4_cuts_80 : decode cX4_cuts 80 = .ok (.iload_n 1, 1) := by decide +kernel
theorem dX4_cuts_81 : decode cX4_cuts 81 = .ok (.invokevirtual 107, 3) := by decide +kernel
theorem dX4_cuts_84 : decode cX4_cuts 84 = .ok (.iadd, 1) := by decide +kernel
theorem dX4_cuts_85 : decode cX4_cuts 85 = .ok (.iastore, 1) := by decide +kernel
theorem dX4_cuts_86 : decode cX4_cuts 86 = .ok (.aload_n 0, 1) := by decide +kernel
theorem dX4_cuts_87 : decode cX4_cuts 87 = .ok (.getfield 7, 3) := by decide +kernel
theorem dX4_cuts_90 : decode cX4_cuts 90 = .ok (.iconst 3, 1) := by decide +kernel
theorem dX4_cuts_91 : decode cX4_cuts 91 = .ok (.dup2, 1) := by decide +kernel
theorem dX4_cuts_92 : decode cX4_cuts 92 = .ok (.iaload, 1) := by decide +kernel
theorem dX4_cuts_93 : decode cX4_cuts 93 = .ok (.iconst 1, 1) := by decide +kernel
theorem dX4_cuts_94 : decode cX4_cuts 94 = .ok (.iadd, 1) := by decide +kernel
theorem dX4_cuts_95 : decode cX4_cuts 95 = .ok (.iastore, 1) := by decide +kernel
theorem dX4_cuts_96 : decode cX4_cuts 96 = .ok (.iconst 0, 1) := by decide +kernel
theorem dX4_cuts_97 : decode cX4_cuts 97 = .ok (.istore_n 2, 1) := by decide +kernel
theorem dX4_cuts_98 : decode cX4_cuts 98 = .ok (.iload_n 2, 1) := by decide +kernel
theorem dX4_cuts_99 : decode cX4_cuts 99 = .ok (.bipush 12, 2) := by decide +kernel
theorem dX4_cuts_101 : decode cX4_cuts 101 = .ok (.if_icmp .ge 27, 3) := by decide +kernel
theorem dX4_cuts_104 : decode cX4_cuts 104 = .ok (.aload_n 0, 1) := by decide +kernel
theorem dX4_cuts_105 : decode cX4_cuts 105 = .ok (.getfield 7, 3) := by decide +kernel
theorem dX4_cuts_108 : decode cX4_cuts 108 = .ok (.bipush 11, 2) := by decide +kernel
theorem dX4_cuts_110 : decode cX4_cuts 110 = .ok (.iload_n 2, 1) := by decide +kernel
theorem dX4_cuts_111 : decode cX4_cuts 111 = .ok (.iadd, 1) := by decide +kernel
theorem dX4_cuts_112 : decode cX4_cuts 112 = .ok (.dup2, 1) := by decide +kernel
theorem dX4_cuts_113 : decode cX4_cuts 113 = .ok (.iaload, 1) := by decide +kernel
theorem dX4_cuts_114 : decode cX4_cuts 114 = .ok (.aload_n 0, 1) := by decide +kernel
theorem dX4_cuts_115 : decode cX4_cuts 115 = .ok (.iload_n 1, 1) := by decide +kernel
theorem dX4_cuts_116 : decode cX4_cuts 116 = .ok (.iload_n 2, 1) := by decide +kernel
theorem dX4_cuts_117 : decode cX4_cuts 117 = .ok (.invokevirtual 85, 3) := by decide +kernel
theorem dX4_cuts_120 : decode cX4_cuts 120 = .ok (.iadd, 1) := by decide +kernel
theorem dX4_cuts_121 : decode cX4_cuts 121 = .ok (.iastore, 1) := by decide +kernel
theorem dX4_cuts_122 : decode cX4_cuts 122 = .ok (.iinc 2 1, 3) := by decide +kernel
theorem dX4_cuts_125 : decode cX4_cuts 125 = .ok (.goto (-27), 3) := by decide +kernel
theorem dX4_cuts_128 : decode cX4_cuts 128 = .ok (.aload_n 0, 1) := by decide +kernel
theorem dX4_cuts_129 : decode cX4_cuts 129 = .ok (.getfield 7, 3) := by decide +kernel
theorem dX4_cuts_132 : decode cX4_cuts 132 = .ok (.iload_n 1, 1) := by decide +kernel
theorem dX4_cuts_133 : decode cX4_cuts 133 = .ok (.iconst 5, 1) := by decide +kernel
theorem dX4_cuts_134 : decode cX4_cuts 134 = .ok (.invokestatic 42, 3) := by decide +kernel
theorem dX4_cuts_137 : decode cX4_cuts 137 = .ok (.iconst 1, 1) := by decide +kernel
theorem dX4_cuts_138 : decode cX4_cuts 138 = .ok (.iastore, 1) := by decide +kernel
theorem dX4_cuts_139 : decode cX4_cuts 139 = .ok (.aload_n 0, 1) := by decide +kernel
theorem dX4_cuts_140 : decode cX4_cuts 140 = .ok (.getfield 7, 3) := by decide +kernel
theorem dX4_cuts_143 : decode cX4_cuts 143 = .ok (.iload_n 1, 1) := by decide +kernel
theorem dX4_cuts_144 : decode cX4_cuts 144 = .ok (.bipush 7, 2) := by decide +kernel
theorem dX4_cuts_146 : decode cX4_cuts 146 = .ok (.invokestatic 42, 3) := by decide +kernel
theorem dX4_cuts_149 : decode cX4_cuts 149 = .ok (.aload_n 0, 1) := by decide +kernel
theorem dX4_cuts_150 : decode cX4_cuts 150 = .ok (.getfield 7, 3) := by decide +kernel
theorem dX4_cuts_153 : decode cX4_cuts 153 = .ok (.bipush 6, 2) := by decide +kernel
theorem dX4_cuts_155 : decode cX4_cuts 155 = .ok (.iaload, 1) := by decide +kernel
theorem dX4_cuts_156 : decode cX4_cuts 156 = .ok (.iastore, 1) := by decide +kernel
theorem dX4_cuts_157 : decode cX4_cuts 157 = .ok (.aload_n 0, 1) := by decide +kernel
theorem dX4_cuts_158 : decode cX4_cuts 158 = .ok (.getfield 7, 3) := by decide +kernel
theorem dX4_cuts_161 : decode cX4_cuts 161 = .ok (.bipush 6, 2) := by decide +kernel
theorem dX4_cuts_163 : decode cX4_cuts 163 = .ok (.dup2, 1) := by decide +kernel
theorem dX4_cuts_164 : decode cX4_cuts 164 = .ok (.iaload, 1) := by decide +kernel
theorem dX4_cuts_165 : decode cX4_cuts 165 = .ok (.iconst 1, 1) := by decide +kernel
theorem dX4_cuts_166 : decode cX4_cuts 166 = .ok (.iadd, 1) := by decide +kernel
theorem dX4_cuts_167 : decode cX4_cuts 167 = .ok (.iastore, 1) := by decide +kernel
theorem dX4_cuts_168 : decode cX4_cuts 168 = .ok (.aload_n 0, 1) := by decide +kernel
theorem dX4_cuts_169 : decode cX4_cuts 169 = .ok (.getfield 7, 3) := by decide +kernel
theorem dX4_cuts_172 : decode cX4_cuts 172 = .ok (.iload_n 1, 1) := by decide +kernel
theorem dX4_cuts_173 : decode cX4_cuts 173 = .ok (.bipush 6, 2) := by decide +kernel
theorem dX4_cuts_175 : decode cX4_cuts 175 = .ok (.invokestatic 42, 3) := by decide +kernel
theorem dX4_cuts_178 : decode cX4_cuts 178 = .ok (.aload_n 0, 1) := by decide +kernel
theorem dX4_cuts_179 : decode cX4_cuts 179 = .ok (.getfield 7, 3) := by decide +kernel
theorem dX4_cuts_182 : decode cX4_cuts 182 = .ok (.bipush 11, 2) := by decide +kernel
theorem dX4_cuts_184 : decode cX4_cuts 184 = .ok (.aload_n 0, 1) := by decide +kernel
theorem dX4_cuts_185 : decode cX4_cuts 185 = .ok (.getfield 7, 3) := by decide +kernel
theorem dX4_cuts_188 : decode cX4_cuts 188 = .ok (.iconst 1, 1) := by decide +kernel
theorem dX4_cuts_189 : decode cX4_cuts 189 = .ok (.iaload, 1) := by decide +kernel
theorem dX4_cuts_190 : decode cX4_cuts 190 = .ok (.bipush 8, 2) := by decide +kernel
theorem dX4_cuts_192 : decode cX4_cuts 192 = .ok (.idiv, 1) := by decide +kernel
theorem dX4_cuts_193 : decode cX4_cuts 193 = .ok (.iadd, 1) := by decide +kernel
theorem dX4_cuts_194 : decode cX4_cuts 194 = .ok (.iconst 4, 1) := by decide +kernel
theorem dX4_cuts_195 : decode cX4_cuts 195 = .ok (.aload_n 0, 1) := by decide +kernel
theorem dX4_cuts_196 : decode cX4_cuts 196 = .ok (.getfield 7, 3) := by decide +kernel
theorem dX4_cuts_199 : decode cX4_cuts 199 = .ok (.iconst 2, 1) := by decide +kernel
theorem dX4_cuts_200 : decode cX4_cuts 200 = .ok (.iaload, 1) := by decide +kernel
theorem dX4_cuts_201 : decode cX4_cuts 201 = .ok (.bipush 8, 2) := by decide +kernel
theorem dX4_cuts_203 : decode cX4_cuts 203 = .ok (.idiv, 1) := by decide +kernel
theorem dX4_cuts_204 : decode cX4_cuts 204 = .ok (.imul, 1) := by decide +kernel
theorem dX4_cuts_205 : decode cX4_cuts 205 = .ok (.iadd, 1) := by decide +kernel
theorem dX4_cuts_206 : decode cX4_cuts 206 = .ok (.iaload, 1) := by decide +kernel
theorem dX4_cuts_207 : decode cX4_cuts 207 = .ok (.aload_n 0, 1) := by decide +kernel
theorem dX4_cuts_208 : decode cX4_cuts 208 = .ok (.invokevirtual 110, 3) := by decide +kernel
theorem dX4_cuts_211 : decode cX4_cuts 211 = .ok (.if_icmp .ne 7, 3) := by decide +kernel
theorem dX4_cuts_214 : decode cX4_cuts 214 = .ok (.iconst 1, 1) := by decide +kernel
theorem dX4_cuts_215 : decode cX4_cuts 215 = .ok (.goto 4, 3) := by decide +kernel
theorem dX4_cuts_218 : decode cX4_cuts 218 = .ok (.iconst 0, 1) := by decide +kernel
theorem dX4_cuts_219 : decode cX4_cuts 219 = .ok (.iastore, 1) := by decide +kernel
theorem dX4_cuts_220 : decode cX4_cuts 220 = .ok (.iconst 0, 1) := by decide +kernel
theorem dX4_cuts_221 : decode cX4_cuts 221 = .ok (.istore_n 2, 1) := by decide +kernel
theorem dX4_cuts_222 : decode cX4_cuts 222 = .ok (.iconst 0, 1) := by decide +kernel
theorem dX4_cuts_223 : decode cX4_cuts 223 = .ok (.istore_n 3, 1) := by decide +kernel
theorem dX4_cuts_224 : decode cX4_cuts 224 = .ok (.iload_n 3, 1) := by decide +kernel
theorem dX4_cuts_225 : decode cX4_cuts 225 = .ok (.aload_n 0, 1) := by decide +kernel
theorem dX4_cuts_226 : decode cX4_cuts 226 = .ok (.getfield 7, 3) := by decide +kernel
theorem dX4_cuts_229 : decode cX4_cuts 229 = .ok (.iconst 0, 1) := by decide +kernel
theorem dX4_cuts_230 : decode cX4_cuts 230 = .ok (.iaload, 1) := by decide +kernel
theorem dX4_cuts_231 : decode cX4_cuts 231 = .ok (.if_icmp .ge 40, 3) := by decide +kernel
theorem dX4_cuts_234 : decode cX4_cuts 234 = .ok (.aload_n 0, 1) := by decide +kernel
theorem dX4_cuts_235 : decode cX4_cuts 235 = .ok (.iload_n 3, 1) := by decide +kernel
theorem dX4_cuts_236 : decode cX4_cuts 236 = .ok (.iload_n 1, 1) := by decide +kernel
theorem dX4_cuts_237 : decode cX4_cuts 237 = .ok (.invokevirtual 62, 3) := by decide +kernel
theorem dX4_cuts_240 : decode cX4_cuts 240 = .ok (.ifCond .eq 25, 3) := by decide +kernel
theorem dX4_cuts_243 : decode cX4_cuts 243 = .ok (.aload_n 0, 1) := by decide +kernel
theorem dX4_cuts_244 : decode cX4_cuts 244 = .ok (.iload_n 3, 1) := by decide +kernel
theorem dX4_cuts_245 : decode cX4_cuts 245 = .ok (.invokevirtual 66, 3) := by decide +kernel
theorem dX4_cuts_248 : decode cX4_cuts 248 = .ok (.ifCond .eq 17, 3) := by decide +kernel
theorem dX4_cuts_251 : decode cX4_cuts 251 = .ok (.aload_n 0, 1) := by decide +kernel
theorem dX4_cuts_252 : decode cX4_cuts 252 = .ok (.getfield 7, 3) := by decide +kernel
theorem dX4_cuts_255 : decode cX4_cuts 255 = .ok (.iload_n 3, 1) := by decide +kernel
theorem dX4_cuts_256 : decode cX4_cuts 256 = .ok (.iconst 5, 1) := by decide +kernel
theorem dX4_cuts_257 : decode cX4_cuts 257 = .ok (.invokestatic 42, 3) := by decide +kernel
theorem dX4_cuts_260 : decode cX4_cuts 260 = .ok (.iconst 2, 1) := by decide +kernel
theorem dX4_cuts_261 : decode cX4_cuts 261 = .ok (.iastore, 1) := by decide +kernel
theorem dX4_cuts_262 : decode cX4_cuts 262 = .ok (.iinc 2 1, 3) := by decide +kernel
theorem dX4_cuts_265 : decode cX4_cuts 265 = .ok (.iinc 3 1, 3) := by decide +kernel
theorem dX4_cuts_268 : decode cX4_cuts 268 = .ok (.goto (-44), 3) := by decide +kernel
theorem dX4_cuts_271 : decode cX4_cuts 271 = .ok (.iload_n 2, 1) := by decide +kernel
theorem dX4_cuts_272 : decode cX4_cuts 272 = .ok (.ireturn, 1) := by decide +kernel
theorem dX4_waitFor_0 : decode cX4_waitFor 0 = .ok (.iconst 0, 1) := by decide +kernel
theorem dX4_waitFor_1 : decode cX4_waitFor 1 = .ok (.istore_n 2, 1) := by decide +kernel
theorem dX4_waitFor_2 : decode cX4_waitFor 2 = .ok (.iconst 0, 1) := by decide +kernel
theorem dX4_waitFor_3 : decode cX4_waitFor 3 = .ok (.istore_n 3, 1) := by decide +kernel
theorem dX4_waitFor_4 : decode cX4_waitFor 4 = .ok (.iload_n 3, 1) := by decide +kernel
theorem dX4_waitFor_5 : decode cX4_waitFor 5 = .ok (.bipush 12, 2) := by decide +kernel
theorem dX4_waitFor_7 : decode cX4_waitFor 7 = .ok (.if_icmp .ge 90, 3) := by decide +kernel
theorem dX4_waitFor_10 : decode cX4_waitFor 10 = .ok (.aload_n 0, 1) := by decide +kernel
theorem dX4_waitFor_11 : decode cX4_waitFor 11 = .ok (.getfield 7, 3) := by decide +kernel
theorem dX4_waitFor_14 : decode cX4_waitFor 14 = .ok (.bipush 11, 2) := by decide +kernel
theorem dX4_waitFor_16 : decode cX4_waitFor 16 = .ok (.iload_n 3, 1) := by decide +kernel
theorem dX4_waitFor_17 : decode cX4_waitFor 17 = .ok (.iadd, 1) := by decide +kernel
theorem dX4_waitFor_18 : decode cX4_waitFor 18 = .ok (.iaload, 1) := by decide +kernel
theorem dX4_waitFor_19 : decode cX4_waitFor 19 = .ok (.aload_n 0, 1) := by decide +kernel
theorem dX4_waitFor_20 : decode cX4_waitFor 20 = .ok (.getfield 7, 3) := by decide +kernel
theorem dX4_waitFor_23 : decode cX4_waitFor 23 = .ok (.bipush 9, 2) := by decide +kernel
theorem dX4_waitFor_25 : decode cX4_waitFor 25 = .ok (.iaload, 1) := by decide +kernel
theorem dX4_waitFor_26 : decode cX4_waitFor 26 = .ok (.isub, 1) := by decide +kernel
theorem dX4_waitFor_27 : decode cX4_waitFor 27 = .ok (.istore 4, 2) := by decide +kernel
theorem dX4_waitFor_29 : decode cX4_waitFor 29 = .ok (.iload 4, 2) := by decide +kernel
theorem dX4_waitFor_31 : decode cX4_waitFor 31 = .ok (.ifCond .le 60, 3) := by decide +kernel
theorem dX4_waitFor_34 : decode cX4_waitFor 34 = .ok (.aload_n 0, 1) := by decide +kernel
theorem dX4_waitFor_35 : decode cX4_waitFor 35 = .ok (.iload_n 1, 1) := by decide +kernel
theorem dX4_waitFor_36 : decode cX4_waitFor 36 = .ok (.iload_n 3, 1) := by decide +kernel
theorem dX4_waitFor_37 : decode cX4_waitFor 37 = .ok (.invokevirtual 85, 3) := by decide +kernel
theorem dX4_waitFor_40 : decode cX4_waitFor 40 = .ok (.ifCond .le 51, 3) := by decide +kernel
theorem dX4_waitFor_43 : decode cX4_waitFor 43 = .ok (.aload_n 0, 1) := by decide +kernel
theorem dX4_waitFor_44 : decode cX4_waitFor 44 = .ok (.getfield 7, 3) := by decide +kernel
theorem dX4_waitFor_47 : decode cX4_waitFor 47 = .ok (.bipush 8, 2) := by decide +kernel
theorem dX4_waitFor_49 : decode cX4_waitFor 49 = .ok (.iaload, 1) := by decide +kernel
theorem dX4_waitFor_50 : decode cX4_waitFor 50 = .ok (.ifCond .ne 6, 3) := by decide +kernel
theorem dX4_waitFor_53 : decode cX4_waitFor 53 = .ok (.bipush (-5), 2) := by decide +kernel
theorem dX4_waitFor_55 : decode cX4_waitFor 55 = .ok (.ireturn, 1) := by decide +kernel
theorem dX4_waitFor_56 : decode cX4_waitFor 56 = .ok (.iload 4, 2) := by decide +kernel
theorem dX4_waitFor_58 : decode cX4_waitFor 58 = .ok (.aload_n 0, 1) := by decide +kernel
theorem dX4_waitFor_59 : decode cX4_waitFor 59 = .ok (.getfield 7, 3) := by decide +kernel
theorem dX4_waitFor_62 : decode cX4_waitFor 62 = .ok (.bipush 8, 2) := by decide +kernel
theorem dX4_waitFor_64 : decode cX4_waitFor 64 = .ok (.iaload, 1) := by decide +kernel
theorem dX4_waitFor_65 : decode cX4_waitFor 65 = .ok (.iadd, 1) := by decide +kernel
theorem dX4_waitFor_66 : decode cX4_waitFor 66 = .ok (.iconst 1, 1) := by decide +kernel
theorem dX4_waitFor_67 : decode cX4_waitFor 67 = .ok (.isub, 1) := by decide +kernel
theorem dX4_waitFor_68 : decode cX4_waitFor 68 = .ok (.aload_n 0, 1) := by decide +kernel
theorem dX4_waitFor_69 : decode cX4_waitFor 69 = .ok (.getfield 7, 3) := by decide +kernel
theorem dX4_waitFor_72 : decode cX4_waitFor 72 = .ok (.bipush 8, 2) := by decide +kernel
theorem dX4_waitFor_74 : decode cX4_waitFor 74 = .ok (.iaload, 1) := by decide +kernel
theorem dX4_waitFor_75 : decode cX4_waitFor 75 = .ok (.idiv, 1) := by decide +kernel
theorem dX4_waitFor_76 : decode cX4_waitFor 76 = .ok (.istore 5, 2) := by decide +kernel
theorem dX4_waitFor_78 : decode cX4_waitFor 78 = .ok (.iload 5, 2) := by decide +kernel
theorem dX4_waitFor_80 : decode cX4_waitFor 80 = .ok (.iload_n 2, 1) := by decide +kernel
theorem dX4_waitFor_81 : decode cX4_waitFor 81 = .ok (.if_icmp .le 8, 3) := by decide +kernel
theorem dX4_waitFor_84 : decode cX4_waitFor 84 = .ok (.iload 5, 2) := by decide +kernel
theorem dX4_waitFor_86 : decode cX4_waitFor 86 = .ok (.goto 4, 3) := by decide +kernel
theorem dX4_waitFor_89 : decode cX4_waitFor 89 = .ok (.iload_n 2, 1) := by decide +kernel
theorem dX4_waitFor_90 : decode cX4_waitFor 90 = .ok (.istore_n 2, 1) := by decide +kernel
theorem dX4_waitFor_91 : decode cX4_waitFor 91 = .ok (.iinc 3 1, 3) := by decide +kernel
theorem dX4_waitFor_94 : decode cX4_waitFor 94 = .ok (.goto (-90), 3) := by decide +kernel
theorem dX4_waitFor_97 : decode cX4_waitFor 97 = .ok (.iload_n 2, 1) := by decide +kernel
theorem dX4_waitFor_98 : decode cX4_waitFor 98 = .ok (.aload_n 0, 1) := by decide +kernel
theorem dX4_waitFor_99 : decode cX4_waitFor 99 = .ok (.iload_n 1, 1) := by decide +kernel
theorem dX4_waitFor_100 : decode cX4_waitFor 100 = .ok (.invokevirtual 91, 3) := by decide +kernel
theorem dX4_waitFor_103 : decode cX4_waitFor 103 = .ok (.if_icmp .le 13, 3) := by decide +kernel
theorem dX4_waitFor_106 : decode cX4_waitFor 106 = .ok (.iload_n 2, 1) := by decide +kernel
theorem dX4_waitFor_107 : decode cX4_waitFor 107 = .ok (.aload_n 0, 1) := by decide +kernel
theorem dX4_waitFor_108 : decode cX4_waitFor 108 = .ok (.iload_n 1, 1) := by decide +kernel
theorem dX4_waitFor_109 : decode cX4_waitFor 109 = .ok (.invokevirtual 91, 3) := by decide +kernel
theorem dX4_waitFor_112 : decode cX4_waitFor 112 = .ok (.isub, 1) := by decide +kernel
theorem dX4_waitFor_113 : decode cX4_waitFor 113 = .ok (.goto 4, 3) := by decide +kernel
theorem dX4_waitFor_116 : decode cX4_waitFor 116 = .ok (.iconst 0, 1) := by decide +kernel
theorem dX4_waitFor_117 : decode cX4_waitFor 117 = .ok (.ireturn, 1) := by decide +kernel
theorem dX4_waits_0 : decode cX4_waits 0 = .ok (.aload_n 0, 1) := by decide +kernel
theorem dX4_waits_1 : decode cX4_waits 1 = .ok (.iload_n 1, 1) := by decide +kernel
theorem dX4_waits_2 : decode cX4_waits 2 = .ok (.invokevirtual 103, 3) := by decide +kernel
theorem dX4_waits_5 : decode cX4_waits 5 = .ok (.aload_n 0, 1) := by decide +kernel
theorem dX4_waits_6 : decode cX4_waits 6 = .ok (.invokevirtual 110, 3) := by decide +kernel
theorem dX4_waits_9 : decode cX4_waits 9 = .ok (.ireturn, 1) := by decide +kernel
theorem dX4_cleans_0 : decode cX4_cleans 0 = .ok (.aload_n 0, 1) := by decide +kernel
theorem dX4_cleans_1 : decode cX4_cleans 1 = .ok (.getfield 7, 3) := by decide +kernel
theorem dX4_cleans_4 : decode cX4_cleans 4 = .ok (.iconst 3, 1) := by decide +kernel
theorem dX4_cleans_5 : decode cX4_cleans 5 = .ok (.iaload, 1) := by decide +kernel
theorem dX4_cleans_6 : decode cX4_cleans 6 = .ok (.istore_n 1, 1) := by decide +kernel
theorem dX4_cleans_7 : decode cX4_cleans 7 = .ok (.iload_n 1, 1) := by decide +kernel
theorem dX4_cleans_8 : decode cX4_cleans 8 = .ok (.ifCond .ne 6, 3) := by decide +kernel
theorem dX4_cleans_11 : decode cX4_cleans 11 = .ok (.bipush (-5), 2) := by decide +kernel
theorem dX4_cleans_13 : decode cX4_cleans 13 = .ok (.ireturn, 1) := by decide +kernel
theorem dX4_cleans_14 : decode cX4_cleans 14 = .ok (.aload_n 0, 1) := by decide +kernel
theorem dX4_cleans_15 : decode cX4_cleans 15 = .ok (.aload_n 0, 1) := by decide +kernel
theorem dX4_cleans_16 : decode cX4_cleans 16 = .ok (.getfield 7, 3) := by decide +kernel
theorem dX4_cleans_19 : decode cX4_cleans 19 = .ok (.bipush 7, 2) := by decide +kernel
theorem dX4_cleans_21 : decode cX4_cleans 21 = .ok (.iaload, 1) := by decide +kernel
theorem dX4_cleans_22 : decode cX4_cleans 22 = .ok (.invokevirtual 103, 3) := by decide +kernel
theorem dX4_cleans_25 : decode cX4_cleans 25 = .ok (.aload_n 0, 1) := by decide +kernel
theorem dX4_cleans_26 : decode cX4_cleans 26 = .ok (.getfield 7, 3) := by decide +kernel
theorem dX4_cleans_29 : decode cX4_cleans 29 = .ok (.iconst 3, 1) := by decide +kernel
theorem dX4_cleans_30 : decode cX4_cleans 30 = .ok (.iconst 0, 1) := by decide +kernel
theorem dX4_cleans_31 : decode cX4_cleans 31 = .ok (.iastore, 1) := by decide +kernel
theorem dX4_cleans_32 : decode cX4_cleans 32 = .ok (.iload_n 1, 1) := by decide +kernel
theorem dX4_cleans_33 : decode cX4_cleans 33 = .ok (.ireturn, 1) := by decide +kernel
theorem dX4_leads_0 : decode cX4_leads 0 = .ok (.aload_n 0, 1) := by decide +kernel
theorem dX4_leads_1 : decode cX4_leads 1 = .ok (.iload_n 1, 1) := by decide +kernel
theorem dX4_leads_2 : decode cX4_leads 2 = .ok (.invokevirtual 97, 3) := by decide +kernel
theorem dX4_leads_5 : decode cX4_leads 5 = .ok (.ifCond .eq 12, 3) := by decide +kernel
theorem dX4_leads_8 : decode cX4_leads 8 = .ok (.iload_n 2, 1) := by decide +kernel
theorem dX4_leads_9 : decode cX4_leads 9 = .ok (.iconst 0, 1) := by decide +kernel
theorem dX4_leads_10 : decode cX4_leads 10 = .ok (.iconst 3, 1) := by decide +kernel
theorem dX4_leads_11 : decode cX4_leads 11 = .ok (.invokestatic 38, 3) := by decide +kernel
theorem dX4_leads_14 : decode cX4_leads 14 = .ok (.ifCond .ne 5, 3) := by decide +kernel
theorem dX4_leads_17 : decode cX4_leads 17 = .ok (.iconst (-1), 1) := by decide +kernel
theorem dX4_leads_18 : decode cX4_leads 18 = .ok (.ireturn, 1) := by decide +kernel
theorem dX4_leads_19 : decode cX4_leads 19 = .ok (.aload_n 0, 1) := by decide +kernel
theorem dX4_leads_20 : decode cX4_leads 20 = .ok (.iload_n 1, 1) := by decide +kernel
theorem dX4_leads_21 : decode cX4_leads 21 = .ok (.invokevirtual 66, 3) := by decide +kernel
theorem dX4_leads_24 : decode cX4_leads 24 = .ok (.ifCond .ne 6, 3) := by decide +kernel
theorem dX4_leads_27 : decode cX4_leads 27 = .ok (.bipush (-4), 2) := by decide +kernel
theorem dX4_leads_29 : decode cX4_leads 29 = .ok (.ireturn, 1) := by decide +kernel
theorem dX4_leads_30 : decode cX4_leads 30 = .ok (.aload_n 0, 1) := by decide +kernel
theorem dX4_leads_31 : decode cX4_leads 31 = .ok (.iload_n 1, 1) := by decide +kernel
theorem dX4_leads_32 : decode cX4_leads 32 = .ok (.iconst 4, 1) := by decide +kernel
theorem dX4_leads_33 : decode cX4_leads 33 = .ok (.invokevirtual 46, 3) := by decide +kernel
theorem dX4_leads_36 : decode cX4_leads 36 = .ok (.istore_n 3, 1) := by decide +kernel
theorem dX4_leads_37 : decode cX4_leads 37 = .ok (.aload_n 0, 1) := by decide +kernel
theorem dX4_leads_38 : decode cX4_leads 38 = .ok (.getfield 7, 3) := by decide +kernel
theorem dX4_leads_41 : decode cX4_leads 41 = .ok (.iload_n 1, 1) := by decide +kernel
theorem dX4_leads_42 : decode cX4_leads 42 = .ok (.iconst 4, 1) := by decide +kernel
theorem dX4_leads_43 : decode cX4_leads 43 = .ok (.invokestatic 42, 3) := by decide +kernel
theorem dX4_leads_46 : decode cX4_leads 46 = .ok (.iload_n 2, 1) := by decide +kernel
theorem dX4_leads_47 : decode cX4_leads 47 = .ok (.iastore, 1) := by decide +kernel
theorem dX4_leads_48 : decode cX4_leads 48 = .ok (.iload_n 3, 1) := by decide +kernel
theorem dX4_leads_49 : decode cX4_leads 49 = .ok (.iload_n 2, 1) := by decide +kernel
theorem dX4_leads_50 : decode cX4_leads 50 = .ok (.if_icmp .ne 8, 3) := by decide +kernel
theorem dX4_leads_53 : decode cX4_leads 53 = .ok (.bipush (-5), 2) := by decide +kernel
theorem dX4_leads_55 : decode cX4_leads 55 = .ok (.goto 4, 3) := by decide +kernel
theorem dX4_leads_58 : decode cX4_leads 58 = .ok (.iload_n 3, 1) := by decide +kernel
theorem dX4_leads_59 : decode cX4_leads 59 = .ok (.ireturn, 1) := by decide +kernel
theorem dX4_acted_0 : decode cX4_acted 0 = .ok (.iload_n 1, 1) := by decide +kernel
theorem dX4_acted_1 : decode cX4_acted 1 = .ok (.ifCond .lt 7, 3) := by decide +kernel
theorem dX4_acted_4 : decode cX4_acted 4 = .ok (.aload_n 0, 1) := by decide +kernel
theorem dX4_acted_5 : decode cX4_acted 5 = .ok (.invokevirtual 114, 3) := by decide +kernel
theorem dX4_acted_8 : decode cX4_acted 8 = .ok (.iload_n 1, 1) := by decide +kernel
theorem dX4_acted_9 : decode cX4_acted 9 = .ok (.ireturn, 1) := by decide +kernel
theorem dX4_lays_0 : decode cX4_lays 0 = .ok (.iconst 0, 1) := by decide +kernel
theorem dX4_lays_1 : decode cX4_lays 1 = .ok (.istore 6, 2) := by decide +kernel
theorem dX4_lays_3 : decode cX4_lays 3 = .ok (.iload 6, 2) := by decide +kernel
theorem dX4_lays_5 : decode cX4_lays 5 = .ok (.bipush 8, 2) := by decide +kernel
theorem dX4_lays_7 : decode cX4_lays 7 = .ok (.if_icmp .ge 21, 3) := by decide +kernel
theorem dX4_lays_10 : decode cX4_lays 10 = .ok (.aload_n 0, 1) := by decide +kernel
theorem dX4_lays_11 : decode cX4_lays 11 = .ok (.getfield 7, 3) := by decide +kernel
theorem dX4_lays_14 : decode cX4_lays 14 = .ok (.iload_n 1, 1) := by decide +kernel
theorem dX4_lays_15 : decode cX4_lays 15 = .ok (.iload 6, 2) := by decide +kernel
theorem dX4_lays_17 : decode cX4_lays 17 = .ok (.invokestatic 42, 3) := by decide +kernel
theorem dX4_lays_20 : decode cX4_lays 20 = .ok (.iconst 0, 1) := by decide +kernel
theorem dX4_lays_21 : decode cX4_lays 21 = .ok (.iastore, 1) := by decide +kernel
theorem dX4_lays_22 : decode cX4_lays 22 = .ok (.iinc 6 1, 3) := by decide +kernel
theorem dX4_lays_25 : decode cX4_lays 25 = .ok (.goto (-22), 3) := by decide +kernel
theorem dX4_lays_28 : decode cX4_lays 28 = .ok (.aload_n 0, 1) := by decide +kernel
theorem dX4_lays_29 : decode cX4_lays 29 = .ok (.getfield 7, 3) := by decide +kernel
theorem dX4_lays_32 : decode cX4_lays 32 = .ok (.iload_n 1, 1) := by decide +kernel
theorem dX4_lays_33 : decode cX4_lays 33 = .ok (.iconst 0, 1) := by decide +kernel
theorem dX4_lays_34 : decode cX4_lays 34 = .ok (.invokestatic 42, 3) := by decide +kernel
theorem dX4_lays_37 : decode cX4_lays 37 = .ok (.iload_n 2, 1) := by decide +kernel
theorem dX4_lays_38 : decode cX4_lays 38 = .ok (.iastore, 1) := by decide +kernel
theorem dX4_lays_39 : decode cX4_lays 39 = .ok (.aload_n 0, 1) := by decide +kernel
theorem dX4_lays_40 : decode cX4_lays 40 = .ok (.getfield 7, 3) := by decide +kernel
theorem dX4_lays_43 : decode cX4_lays 43 = .ok (.iload_n 1, 1) := by decide +kernel
theorem dX4_lays_44 : decode cX4_lays 44 = .ok (.iconst 1, 1) := by decide +kernel
theorem dX4_lays_45 : decode cX4_lays 45 = .ok (.invokestatic 42, 3) := by decide +kernel
theorem dX4_lays_48 : decode cX4_lays 48 = .ok (.iload_n 3, 1) := by decide +kernel
theorem dX4_lays_49 : decode cX4_lays 49 = .ok (.iastore, 1) := by decide +kernel
theorem dX4_lays_50 : decode cX4_lays 50 = .ok (.aload_n 0, 1) := by decide +kernel
theorem dX4_lays_51 : decode cX4_lays 51 = .ok (.getfield 7, 3) := by decide +kernel
theorem dX4_lays_54 : decode cX4_lays 54 = .ok (.iload_n 1, 1) := by decide +kernel
theorem dX4_lays_55 : decode cX4_lays 55 = .ok (.iconst 2, 1) := by decide +kernel
theorem dX4_lays_56 : decode cX4_lays 56 = .ok (.invokestatic 42, 3) := by decide +kernel
theorem dX4_lays_59 : decode cX4_lays 59 = .ok (.iload 4, 2) := by decide +kernel
theorem dX4_lays_61 : decode cX4_lays 61 = .ok (.iastore, 1) := by decide +kernel
theorem dX4_lays_62 : decode cX4_lays 62 = .ok (.aload_n 0, 1) := by decide +kernel
theorem dX4_lays_63 : decode cX4_lays 63 = .ok (.getfield 7, 3) := by decide +kernel
theorem dX4_lays_66 : decode cX4_lays 66 = .ok (.iload_n 1, 1) := by decide +kernel
theorem dX4_lays_67 : decode cX4_lays 67 = .ok (.iconst 3, 1) := by decide +kernel
theorem dX4_lays_68 : decode cX4_lays 68 = .ok (.invokestatic 42, 3) := by decide +kernel
theorem dX4_lays_71 : decode cX4_lays 71 = .ok (.iload 5, 2) := by decide +kernel
theorem dX4_lays_73 : decode cX4_lays 73 = .ok (.iastore, 1) := by decide +kernel
theorem dX4_lays_74 : decode cX4_lays 74 = .ok (.aload_n 0, 1) := by decide +kernel
theorem dX4_lays_75 : decode cX4_lays 75 = .ok (.getfield 7, 3) := by decide +kernel
theorem dX4_lays_78 : decode cX4_lays 78 = .ok (.iload_n 1, 1) := by decide +kernel
theorem dX4_lays_79 : decode cX4_lays 79 = .ok (.bipush 7, 2) := by decide +kernel
theorem dX4_lays_81 : decode cX4_lays 81 = .ok (.invokestatic 42, 3) := by decide +kernel
theorem dX4_lays_84 : decode cX4_lays 84 = .ok (.bipush (-5), 2) := by decide +kernel
theorem dX4_lays_86 : decode cX4_lays 86 = .ok (.iastore, 1) := by decide +kernel
theorem dX4_lays_87 : decode cX4_lays 87 = .ok (.return_, 1) := by decide +kernel
theorem dX4_couldBe_0 : decode cX4_couldBe 0 = .ok (.iconst 1, 1) := by decide +kernel
theorem dX4_couldBe_1 : decode cX4_couldBe 1 = .ok (.istore 5, 2) := by decide +kernel
theorem dX4_couldBe_3 : decode cX4_couldBe 3 = .ok (.iconst 0, 1) := by decide +kernel
theorem dX4_couldBe_4 : decode cX4_couldBe 4 = .ok (.istore 6, 2) := by decide +kernel
theorem dX4_couldBe_6 : decode cX4_couldBe 6 = .ok (.iload 6, 2) := by decide +kernel
theorem dX4_couldBe_8 : decode cX4_couldBe 8 = .ok (.aload_n 0, 1) := by decide +kernel
theorem dX4_couldBe_9 : decode cX4_couldBe 9 = .ok (.getfield 7, 3) := by decide +kernel
theorem dX4_couldBe_12 : decode cX4_couldBe 12 = .ok (.iconst 0, 1) := by decide +kernel
theorem dX4_couldBe_13 : decode cX4_couldBe 13 = .ok (.iaload, 1) := by decide +kernel
theorem dX4_couldBe_14 : decode cX4_couldBe 14 = .ok (.if_icmp .ge 215, 3) := by decide +kernel
theorem dX4_couldBe_17 : decode cX4_couldBe 17 = .ok (.iload_n 1, 1) := by decide +kernel
theorem dX4_couldBe_18 : decode cX4_couldBe 18 = .ok (.aload_n 0, 1) := by decide +kernel
theorem dX4_couldBe_19 : decode cX4_couldBe 19 = .ok (.iload 6, 2) := by decide +kernel
theorem dX4_couldBe_21 : decode cX4_couldBe 21 = .ok (.invokevirtual 52, 3) := by decide +kernel
theorem dX4_couldBe_24 : decode cX4_couldBe 24 = .ok (.if_icmp .gt 40, 3) := by decide +kernel
theorem dX4_couldBe_27 : decode cX4_couldBe 27 = .ok (.iload_n 1, 1) := by decide +kernel
theorem dX4_couldBe_28 : decode cX4_couldBe 28 = .ok (.iload_n 3, 1) := by decide +kernel
theorem dX4_couldBe_29 : decode cX4_couldBe 29 = .ok (.iadd, 1) := by decide +kernel
theorem dX4_couldBe_30 : decode cX4_couldBe 30 = .ok (.aload_n 0, 1) := by decide +kernel
theorem dX4_couldBe_31 : decode cX4_couldBe 31 = .ok (.iload 6, 2) := by decide +kernel
theorem dX4_couldBe_33 : decode cX4_couldBe 33 = .ok (.iconst 0, 1) := by decide +kernel
theorem dX4_couldBe_34 : decode cX4_couldBe 34 = .ok (.invokevirtual 46, 3) := by decide +kernel
theorem dX4_couldBe_37 : decode cX4_couldBe 37 = .ok (.if_icmp .le 27, 3) := by decide +kernel
theorem dX4_couldBe_40 : decode cX4_couldBe 40 = .ok (.iload_n 2, 1) := by decide +kernel
theorem dX4_couldBe_41 : decode cX4_couldBe 41 = .ok (.aload_n 0, 1) := by decide +kernel
theorem dX4_couldBe_42 : decode cX4_couldBe 42 = .ok (.iload 6, 2) := by decide +kernel
theorem dX4_couldBe_44 : decode cX4_couldBe 44 = .ok (.invokevirtual 56, 3) := by decide +kernel
theorem dX4_couldBe_47 : decode cX4_couldBe 47 = .ok (.if_icmp .gt 17, 3) := by decide +kernel
theorem dX4_couldBe_50 : decode cX4_couldBe 50 = .ok (.iload_n 2, 1) := by decide +kernel
theorem dX4_couldBe_51 : decode cX4_couldBe 51 = .ok (.iload 4, 2) := by decide +kernel
theorem dX4_couldBe_53 : decode cX4_couldBe 53 = .ok (.iadd, 1) := by decide +kernel
theorem dX4_couldBe_54 : decode cX4_couldBe 54 = .ok (.aload_n 0, 1) := by decide +kernel
theorem dX4_couldBe_55 : decode cX4_couldBe 55 = .ok (.iload 6, 2) := by decide +kernel
theorem dX4_couldBe_57 : decode cX4_couldBe 57 = .ok (.iconst 1, 1) := by decide +kernel
theorem dX4_couldBe_58 : decode cX4_couldBe 58 = .ok (.invokevirtual 46, 3) := by decide +kernel
theorem dX4_couldBe_61 : decode cX4_couldBe 61 = .ok (.if_icmp .gt 7, 3) := by decide +kernel
theorem dX4_couldBe_64 : decode cX4_couldBe 64 = .ok (.iconst 1, 1) := by decide +kernel
theorem dX4_couldBe_65 : decode cX4_couldBe 65 = .ok (.goto 4, 3) := by decide +kernel
theorem dX4_couldBe_68 : decode cX4_couldBe 68 = .ok (.iconst 0, 1) := by decide +kernel
theorem dX4_couldBe_69 : decode cX4_couldBe 69 = .ok (.istore 7, 2) := by decide +kernel
theorem dX4_couldBe_71 : decode cX4_couldBe 71 = .ok (.iload_n 1, 1) := by decide +kernel
theorem dX4_couldBe_72 : decode cX4_couldBe 72 = .ok (.aload_n 0, 1) := by decide +kernel
theorem dX4_couldBe_73 : decode cX4_couldBe 73 = .ok (.iload 6, 2) := by decide +kernel
theorem dX4_couldBe_75 : decode cX4_couldBe 75 = .ok (.iconst 0, 1) := by decide +kernel
theorem dX4_couldBe_76 : decode cX4_couldBe 76 = .ok (.invokevirtual 46, 3) := by decide +kernel
theorem dX4_couldBe_79 : decode cX4_couldBe 79 = .ok (.if_icmp .le 47, 3) := by decide +kernel
theorem dX4_couldBe_82 : decode cX4_couldBe 82 = .ok (.iload_n 1, 1) := by decide +kernel
theorem dX4_couldBe_83 : decode cX4_couldBe 83 = .ok (.iload_n 3, 1) := by decide +kernel
theorem dX4_couldBe_84 : decode cX4_couldBe 84 = .ok (.iadd, 1) := by decide +kernel
theorem dX4_couldBe_85 : decode cX4_couldBe 85 = .ok (.iconst 1, 1) := by decide +kernel
theorem dX4_couldBe_86 : decode cX4_couldBe 86 = .ok (.isub, 1) := by decide +kernel
theorem dX4_couldBe_87 : decode cX4_couldBe 87 = .ok (.aload_n 0, 1) := by decide +kernel
theorem dX4_couldBe_88 : decode cX4_couldBe 88 = .ok (.iload 6, 2) := by decide +kernel
theorem dX4_couldBe_90 : decode cX4_couldBe 90 = .ok (.invokevirtual 52, 3) := by decide +kernel
theorem dX4_couldBe_93 : decode cX4_couldBe 93 = .ok (.if_icmp .ge 33, 3) := by decide +kernel
theorem dX4_couldBe_96 : decode cX4_couldBe 96 = .ok (.iload_n 2, 1) := by decide +kernel
theorem dX4_couldBe_97 : decode cX4_couldBe 97 = .ok (.aload_n 0, 1) := by decide +kernel
theorem dX4_couldBe_98 : decode cX4_couldBe 98 = .ok (.iload 6, 2) := by decide +kernel
theorem dX4_couldBe_100 : decode cX4_couldBe 100 = .ok (.iconst 1, 1) := by decide +kernel
theorem dX4_couldBe_101 : decode cX4_couldBe 101 = .ok (.invokevirtual 46, 3) := by decide +kernel
theorem dX4_couldBe_104 : decode cX4_couldBe 104 = .ok (.if_icmp .le 22, 3) := by decide +kernel
theorem dX4_couldBe_107 : decode cX4_couldBe 107 = .ok (.iload_n 2, 1) := by decide +kernel
theorem dX4_couldBe_108 : decode cX4_couldBe 108 = .ok (.iload 4, 2) := by decide +kernel
theorem dX4_couldBe_110 : decode cX4_couldBe 110 = .ok (.iadd, 1) := by decide +kernel
theorem dX4_couldBe_111 : decode cX4_couldBe 111 = .ok (.iconst 1, 1) := by decide +kernel
theorem dX4_couldBe_112 : decode cX4_couldBe 112 = .ok (.isub, 1) := by decide +kernel
theorem dX4_couldBe_113 : decode cX4_couldBe 113 = .ok (.aload_n 0, 1) := by decide +kernel
theorem dX4_couldBe_114 : decode cX4_couldBe 114 = .ok (.iload 6, 2) := by decide +kernel
theorem dX4_couldBe_116 : decode cX4_couldBe 116 = .ok (.invokevirtual 56, 3) := by decide +kernel
theorem dX4_couldBe_119 : decode cX4_couldBe 119 = .ok (.if_icmp .ge 7, 3) := by decide +kernel
theorem dX4_couldBe_122 : decode cX4_couldBe 122 = .ok (.iconst 1, 1) := by decide +kernel
theorem dX4_couldBe_123 : decode cX4_couldBe 123 = .ok (.goto 4, 3) := by decide +kernel
theorem dX4_couldBe_126 : decode cX4_couldBe 126 = .ok (.iconst 0, 1) := by decide +kernel
theorem dX4_couldBe_127 : decode cX4_couldBe 127 = .ok (.istore 8, 2) := by decide +kernel
theorem dX4_couldBe_129 : decode cX4_couldBe 129 = .ok (.iload_n 1, 1) := by decide +kernel
theorem dX4_couldBe_130 : decode cX4_couldBe 130 = .ok (.aload_n 0, 1) := by decide +kernel
theorem dX4_couldBe_131 : decode cX4_couldBe 131 = .ok (.iload 6, 2) := by decide +kernel
theorem dX4_couldBe_133 : decode cX4_couldBe 133 = .ok (.iconst 0, 1) := by decide +kernel
theorem dX4_couldBe_134 : decode cX4_couldBe 134 = .ok (.invokevirtual 46, 3) := by decide +kernel
theorem dX4_couldBe_137 : decode cX4_couldBe 137 = .ok (.if_icmp .ge 47, 3) := by decide +kernel
theorem dX4_couldBe_140 : decode cX4_couldBe 140 = .ok (.iload_n 1, 1) := by decide +kernel
theorem dX4_couldBe_141 : decode cX4_couldBe 141 = .ok (.iload_n 3, 1) := by decide +kernel
theorem dX4_couldBe_142 : decode cX4_couldBe 142 = .ok (.iadd, 1) := by decide +kernel
theorem dX4_couldBe_143 : decode cX4_couldBe 143 = .ok (.iconst 1, 1) := by decide +kernel
theorem dX4_couldBe_144 : decode cX4_couldBe 144 = .ok (.isub, 1) := by decide +kernel
theorem dX4_couldBe_145 : decode cX4_couldBe 145 = .ok (.aload_n 0, 1) := by decide +kernel
theorem dX4_couldBe_146 : decode cX4_couldBe 146 = .ok (.iload 6, 2) := by decide +kernel
theorem dX4_couldBe_148 : decode cX4_couldBe 148 = .ok (.invokevirtual 52, 3) := by decide +kernel
theorem dX4_couldBe_151 : decode cX4_couldBe 151 = .ok (.if_icmp .le 33, 3) := by decide +kernel
theorem dX4_couldBe_154 : decode cX4_couldBe 154 = .ok (.iload_n 2, 1) := by decide +kernel
theorem dX4_couldBe_155 : decode cX4_couldBe 155 = .ok (.aload_n 0, 1) := by decide +kernel
theorem dX4_couldBe_156 : decode cX4_couldBe 156 = .ok (.iload 6, 2) := by decide +kernel
theorem dX4_couldBe_158 : decode cX4_couldBe 158 = .ok (.iconst 1, 1) := by decide +kernel
theorem dX4_couldBe_159 : decode cX4_couldBe 159 = .ok (.invokevirtual 46, 3) := by decide +kernel
theorem dX4_couldBe_162 : decode cX4_couldBe 162 = .ok (.if_icmp .ge 22, 3) := by decide +kernel
theorem dX4_couldBe_165 : decode cX4_couldBe 165 = .ok (.iload_n 2, 1) := by decide +kernel
theorem dX4_couldBe_166 : decode cX4_couldBe 166 = .ok (.iload 4, 2) := by decide +kernel
theorem dX4_couldBe_168 : decode cX4_couldBe 168 = .ok (.iadd, 1) := by decide +kernel
theorem dX4_couldBe_169 : decode cX4_couldBe 169 = .ok (.iconst 1, 1) := by decide +kernel
theorem dX4_couldBe_170 : decode cX4_couldBe 170 = .ok (.isub, 1) := by decide +kernel
theorem dX4_couldBe_171 : decode cX4_couldBe 171 = .ok (.aload_n 0, 1) := by decide +kernel
theorem dX4_couldBe_172 : decode cX4_couldBe 172 = .ok (.iload 6, 2) := by decide +kernel
theorem dX4_couldBe_174 : decode cX4_couldBe 174 = .ok (.invokevirtual 56, 3) := by decide +kernel
theorem dX4_couldBe_177 : decode cX4_couldBe 177 = .ok (.if_icmp .le 7, 3) := by decide +kernel
theorem dX4_couldBe_180 : decode cX4_couldBe 180 = .ok (.iconst 1, 1) := by decide +kernel
theorem dX4_couldBe_181 : decode cX4_couldBe 181 = .ok (.goto 4, 3) := by decide +kernel
theorem dX4_couldBe_184 : decode cX4_couldBe 184 = .ok (.iconst 0, 1) := by decide +kernel
theorem dX4_couldBe_185 : decode cX4_couldBe 185 = .ok (.istore 9, 2) := by decide +kernel
theorem dX4_couldBe_187 : decode cX4_couldBe 187 = .ok (.iload 5, 2) := by decide +kernel
theorem dX4_couldBe_189 : decode cX4_couldBe 189 = .ok (.ifCond .eq 31, 3) := by decide +kernel
theorem dX4_couldBe_192 : decode cX4_couldBe 192 = .ok (.iload 7, 2) := by decide +kernel
theorem dX4_couldBe_194 : decode cX4_couldBe 194 = .ok (.ifCond .ne 22, 3) := by decide +kernel
theorem dX4_couldBe_197 : decode cX4_couldBe 197 = .ok (.iload 8, 2) := by decide +kernel
theorem dX4_couldBe_199 : decode cX4_couldBe 199 = .ok (.ifCond .ne 8, 3) := by decide +kernel
theorem dX4_couldBe_202 : decode cX4_couldBe 202 = .ok (.iload 9, 2) := by decide +kernel
theorem dX4_couldBe_204 : decode cX4_couldBe 204 = .ok (.ifCond .eq 16, 3) := by decide +kernel
theorem dX4_couldBe_207 : decode cX4_couldBe 207 = .ok (.aload_n 0, 1) := by decide +kernel
theorem dX4_couldBe_208 : decode cX4_couldBe 208 = .ok (.iload 6, 2) := by decide +kernel
theorem dX4_couldBe_210 : decode cX4_couldBe 210 = .ok (.invokevirtual 66, 3) := by decide +kernel
theorem dX4_couldBe_213 : decode cX4_couldBe 213 = .ok (.ifCond .eq 7, 3) := by decide +kernel
theorem dX4_couldBe_216 : decode cX4_couldBe 216 = .ok (.iconst 1, 1) := by decide +kernel
theorem dX4_couldBe_217 : decode cX4_couldBe 217 = .ok (.goto 4, 3) := by decide +kernel
theorem dX4_couldBe_220 : decode cX4_couldBe 220 = .ok (.iconst 0, 1) := by decide +kernel
theorem dX4_couldBe_221 : decode cX4_couldBe 221 = .ok (.istore 5, 2) := by decide +kernel
theorem dX4_couldBe_223 : decode cX4_couldBe 223 = .ok (.iinc 6 1, 3) := by decide +kernel
theorem dX4_couldBe_226 : decode cX4_couldBe 226 = .ok (.goto (-220), 3) := by decide +kernel
theorem dX4_couldBe_229 : decode cX4_couldBe 229 = .ok (.iload 5, 2) := by decide +kernel
theorem dX4_couldBe_231 : decode cX4_couldBe 231 = .ok (.ireturn, 1) := by decide +kernel
theorem dX4_tell_0 : decode cX4_tell 0 = .ok (.iload_n 1, 1) := by decide +kernel
theorem dX4_tell_1 : decode cX4_tell 1 = .ok (.iconst 0, 1) := by decide +kernel
theorem dX4_tell_2 : decode cX4_tell 2 = .ok (.bipush 31, 2) := by decide +kernel
theorem dX4_tell_4 : decode cX4_tell 4 = .ok (.invokestatic 38, 3) := by decide +kernel
theorem dX4_tell_7 : decode cX4_tell 7 = .ok (.ifCond .eq 38, 3) := by decide +kernel
theorem dX4_tell_10 : decode cX4_tell 10 = .ok (.iload_n 2, 1) := by decide +kernel
theorem dX4_tell_11 : decode cX4_tell 11 = .ok (.iconst 0, 1) := by decide +kernel
theorem dX4_tell_12 : decode cX4_tell 12 = .ok (.bipush 23, 2) := by decide +kernel
theorem dX4_tell_14 : decode cX4_tell 14 = .ok (.invokestatic 38, 3) := by decide +kernel
theorem dX4_tell_17 : decode cX4_tell 17 = .ok (.ifCond .eq 28, 3) := by decide +kernel
theorem dX4_tell_20 : decode cX4_tell 20 = .ok (.iload_n 3, 1) := by decide +kernel
theorem dX4_tell_21 : decode cX4_tell 21 = .ok (.iconst 2, 1) := by decide +kernel
theorem dX4_tell_22 : decode cX4_tell 22 = .ok (.bipush 32, 2) := by decide +kernel
theorem dX4_tell_24 : decode cX4_tell 24 = .ok (.invokestatic 38, 3) := by decide +kernel
theorem dX4_tell_27 : decode cX4_tell 27 = .ok (.ifCond .eq 18, 3) := by decide +kernel
theorem dX4_tell_30 : decode cX4_tell 30 = .ok (.iload 4, 2) := by decide +kernel
theorem dX4_tell_32 : decode cX4_tell 32 = .ok (.iconst 2, 1) := by decide +kernel
theorem dX4_tell_33 : decode cX4_tell 33 = .ok (.bipush 24, 2) := by decide +kernel
theorem dX4_tell_35 : decode cX4_tell 35 = .ok (.invokestatic 38, 3) := by decide +kernel
theorem dX4_tell_38 : decode cX4_tell 38 = .ok (.ifCond .eq 7, 3) := by decide +kernel
theorem dX4_tell_41 : decode cX4_tell 41 = .ok (.iconst 1, 1) := by decide +kernel
theorem dX4_tell_42 : decode cX4_tell 42 = .ok (.goto 4, 3) := by decide +kernel
theorem dX4_tell_45 : decode cX4_tell 45 = .ok (.iconst 0, 1) := by decide +kernel
theorem dX4_tell_46 : decode cX4_tell 46 = .ok (.istore 5, 2) := by decide +kernel
theorem dX4_tell_48 : decode cX4_tell 48 = .ok (.iload 5, 2) := by decide +kernel
theorem dX4_tell_50 : decode cX4_tell 50 = .ok (.ifCond .eq 20, 3) := by decide +kernel
theorem dX4_tell_53 : decode cX4_tell 53 = .ok (.iload_n 1, 1) := by decide +kernel
theorem dX4_tell_54 : decode cX4_tell 54 = .ok (.iload_n 3, 1) := by decide +kernel
theorem dX4_tell_55 : decode cX4_tell 55 = .ok (.iadd, 1) := by decide +kernel
theorem dX4_tell_56 : decode cX4_tell 56 = .ok (.bipush 32, 2) := by decide +kernel
theorem dX4_tell_58 : decode cX4_tell 58 = .ok (.if_icmp .gt 12, 3) := by decide +kernel
theorem dX4_tell_61 : decode cX4_tell 61 = .ok (.iload_n 2, 1) := by decide +kernel
theorem dX4_tell_62 : decode cX4_tell 62 = .ok (.iload 4, 2) := by decide +kernel
theorem dX4_tell_64 : decode cX4_tell 64 = .ok (.iadd, 1) := by decide +kernel
theorem dX4_tell_65 : decode cX4_tell 65 = .ok (.bipush 24, 2) := by decide +kernel
theorem dX4_tell_67 : decode cX4_tell 67 = .ok (.if_icmp .le 6, 3) := by decide +kernel
theorem dX4_tell_70 : decode cX4_tell 70 = .ok (.bipush (-2), 2) := by decide +kernel
theorem dX4_tell_72 : decode cX4_tell 72 = .ok (.ireturn, 1) := by decide +kernel
theorem dX4_tell_73 : decode cX4_tell 73 = .ok (.aload_n 0, 1) := by decide +kernel
theorem dX4_tell_74 : decode cX4_tell 74 = .ok (.iload_n 1, 1) := by decide +kernel
theorem dX4_tell_75 : decode cX4_tell 75 = .ok (.iload_n 2, 1) := by decide +kernel
theorem dX4_tell_76 : decode cX4_tell 76 = .ok (.iload_n 3, 1) := by decide +kernel
theorem dX4_tell_77 : decode cX4_tell 77 = .ok (.iload 4, 2) := by decide +kernel
theorem dX4_tell_79 : decode cX4_tell 79 = .ok (.invokevirtual 117, 3) := by decide +kernel
theorem dX4_tell_82 : decode cX4_tell 82 = .ok (.ifCond .ne 6, 3) := by decide +kernel
theorem dX4_tell_85 : decode cX4_tell 85 = .ok (.bipush (-4), 2) := by decide +kernel
theorem dX4_tell_87 : decode cX4_tell 87 = .ok (.ireturn, 1) := by decide +kernel
theorem dX4_tell_88 : decode cX4_tell 88 = .ok (.aload_n 0, 1) := by decide +kernel
theorem dX4_tell_89 : decode cX4_tell 89 = .ok (.getfield 7, 3) := by decide +kernel
theorem dX4_tell_92 : decode cX4_tell 92 = .ok (.iconst 0, 1) := by decide +kernel
theorem dX4_tell_93 : decode cX4_tell 93 = .ok (.iaload, 1) := by decide +kernel
theorem dX4_tell_94 : decode cX4_tell 94 = .ok (.bipush 12, 2) := by decide +kernel
theorem dX4_tell_96 : decode cX4_tell 96 = .ok (.if_icmp .ne 6, 3) := by decide +kernel
theorem dX4_tell_99 : decode cX4_tell 99 = .ok (.bipush (-3), 2) := by decide +kernel
theorem dX4_tell_101 : decode cX4_tell 101 = .ok (.ireturn, 1) := by decide +kernel
theorem dX4_tell_102 : decode cX4_tell 102 = .ok (.aload_n 0, 1) := by decide +kernel
theorem dX4_tell_103 : decode cX4_tell 103 = .ok (.invokevirtual 121, 3) := by decide +kernel
theorem dX4_tell_106 : decode cX4_tell 106 = .ok (.aload_n 0, 1) := by decide +kernel
theorem dX4_tell_107 : decode cX4_tell 107 = .ok (.invokevirtual 114, 3) := by decide +kernel
theorem dX4_tell_110 : decode cX4_tell 110 = .ok (.aload_n 0, 1) := by decide +kernel
theorem dX4_tell_111 : decode cX4_tell 111 = .ok (.getfield 7, 3) := by decide +kernel
theorem dX4_tell_114 : decode cX4_tell 114 = .ok (.iconst 0, 1) := by decide +kernel
theorem dX4_tell_115 : decode cX4_tell 115 = .ok (.iaload, 1) := by decide +kernel
theorem dX4_tell_116 : decode cX4_tell 116 = .ok (.istore 6, 2) := by decide +kernel
theorem dX4_tell_118 : decode cX4_tell 118 = .ok (.aload_n 0, 1) := by decide +kernel
theorem dX4_tell_119 : decode cX4_tell 119 = .ok (.getfield 7, 3) := by decide +kernel
theorem dX4_tell_122 : decode cX4_tell 122 = .ok (.iconst 0, 1) := by decide +kernel
theorem dX4_tell_123 : decode cX4_tell 123 = .ok (.dup2, 1) := by decide +kernel
theorem dX4_tell_124 : decode cX4_tell 124 = .ok (.iaload, 1) := by decide +kernel
theorem dX4_tell_125 : decode cX4_tell 125 = .ok (.iconst 1, 1) := by decide +kernel
theorem dX4_tell_126 : decode cX4_tell 126 = .ok (.iadd, 1) := by decide +kernel
theorem dX4_tell_127 : decode cX4_tell 127 = .ok (.iastore, 1) := by decide +kernel
theorem dX4_tell_128 : decode cX4_tell 128 = .ok (.aload_n 0, 1) := by decide +kernel
theorem dX4_tell_129 : decode cX4_tell 129 = .ok (.iload 6, 2) := by decide +kernel
theorem dX4_tell_131 : decode cX4_tell 131 = .ok (.iload_n 1, 1) := by decide +kernel
theorem dX4_tell_132 : decode cX4_tell 132 = .ok (.iload_n 2, 1) := by decide +kernel
theorem dX4_tell_133 : decode cX4_tell 133 = .ok (.iload_n 3, 1) := by decide +kernel
theorem dX4_tell_134 : decode cX4_tell 134 = .ok (.iload 4, 2) := by decide +kernel
theorem dX4_tell_136 : decode cX4_tell 136 = .ok (.invokevirtual 124, 3) := by decide +kernel
theorem dX4_tell_139 : decode cX4_tell 139 = .ok (.iload 6, 2) := by decide +kernel
theorem dX4_tell_141 : decode cX4_tell 141 = .ok (.ireturn, 1) := by decide +kernel
theorem dX4_setLead_0 : decode cX4_setLead 0 = .ok (.aload_n 0, 1) := by decide +kernel
theorem dX4_setLead_1 : decode cX4_setLead 1 = .ok (.invokevirtual 121, 3) := by decide +kernel
theorem dX4_setLead_4 : decode cX4_setLead 4 = .ok (.aload_n 0, 1) := by decide +kernel
theorem dX4_setLead_5 : decode cX4_setLead 5 = .ok (.aload_n 0, 1) := by decide +kernel
theorem dX4_setLead_6 : decode cX4_setLead 6 = .ok (.iload_n 1, 1) := by decide +kernel
theorem dX4_setLead_7 : decode cX4_setLead 7 = .ok (.iload_n 2, 1) := by decide +kernel
theorem dX4_setLead_8 : decode cX4_setLead 8 = .ok (.invokevirtual 128, 3) := by decide +kernel
theorem dX4_setLead_11 : decode cX4_setLead 11 = .ok (.invokevirtual 131, 3) := by decide +kernel
theorem dX4_setLead_14 : decode cX4_setLead 14 = .ok (.ireturn, 1) := by decide +kernel
theorem dX4_most_0 : decode cX4_most 0 = .ok (.iload_n 0, 1) := by decide +kernel
theorem dX4_most_1 : decode cX4_most 1 = .ok (.ifCond .ne 8, 3) := by decide +kernel
theorem dX4_most_4 : decode cX4_most 4 = .ok (.bipush 99, 2) := by decide +kernel
theorem dX4_most_6 : decode cX4_most 6 = .ok (.goto 25, 3) := by decide +kernel
theorem dX4_most_9 : decode cX4_most 9 = .ok (.iload_n 0, 1) := by decide +kernel
theorem dX4_most_10 : decode cX4_most 10 = .ok (.iconst 1, 1) := by decide +kernel
theorem dX4_most_11 : decode cX4_most 11 = .ok (.if_icmp .ne 8, 3) := by decide +kernel
theorem dX4_most_14 : decode cX4_most 14 = .ok (.bipush 20, 2) := by decide +kernel
theorem dX4_most_16 : decode cX4_most 16 = .ok (.goto 15, 3) := by decide +kernel
theorem dX4_most_19 : decode cX4_most 19 = .ok (.iload_n 0, 1) := by decide +kernel
theorem dX4_most_20 : decode cX4_most 20 = .ok (.iconst 2, 1) := by decide +kernel
theorem dX4_most_21 : decode cX4_most 21 = .ok (.if_icmp .ne 9, 3) := by decide +kernel
theorem dX4_most_24 : decode cX4_most 24 = .ok (.sipush 999, 3) := by decide +kernel
theorem dX4_most_27 : decode cX4_most 27 = .ok (.goto 4, 3) := by decide +kernel
theorem dX4_most_30 : decode cX4_most 30 = .ok (.iconst 1, 1) := by decide +kernel
theorem dX4_most_31 : decode cX4_most 31 = .ok (.ireturn, 1) := by decide +kernel
theorem dX4_set_0 : decode cX4_set 0 = .ok (.iload_n 1, 1) := by decide +kernel
theorem dX4_set_1 : decode cX4_set 1 = .ok (.iconst 0, 1) := by decide +kernel
theorem dX4_set_2 : decode cX4_set 2 = .ok (.iconst 3, 1) := by decide +kernel
theorem dX4_set_3 : decode cX4_set 3 = .ok (.invokestatic 38, 3) := by decide +kernel
theorem dX4_set_6 : decode cX4_set 6 = .ok (.ifCond .ne 5, 3) := by decide +kernel
theorem dX4_set_9 : decode cX4_set 9 = .ok (.iconst (-1), 1) := by decide +kernel
theorem dX4_set_10 : decode cX4_set 10 = .ok (.ireturn, 1) := by decide +kernel
theorem dX4_set_11 : decode cX4_set 11 = .ok (.iload_n 2, 1) := by decide +kernel
theorem dX4_set_12 : decode cX4_set 12 = .ok (.iload_n 1, 1) := by decide +kernel
theorem dX4_set_13 : decode cX4_set 13 = .ok (.ifCond .ne 7, 3) := by decide +kernel
theorem dX4_set_16 : decode cX4_set 16 = .ok (.iconst 1, 1) := by decide +kernel
theorem dX4_set_17 : decode cX4_set 17 = .ok (.goto 4, 3) := by decide +kernel
theorem dX4_set_20 : decode cX4_set 20 = .ok (.iconst 0, 1) := by decide +kernel
theorem dX4_set_21 : decode cX4_set 21 = .ok (.iload_n 1, 1) := by decide +kernel
theorem dX4_set_22 : decode cX4_set 22 = .ok (.invokestatic 134, 3) := by decide +kernel
theorem dX4_set_25 : decode cX4_set 25 = .ok (.invokestatic 38, 3) := by decide +kernel
theorem dX4_set_28 : decode cX4_set 28 = .ok (.ifCond .ne 6, 3) := by decide +kernel
theorem dX4_set_31 : decode cX4_set 31 = .ok (.bipush (-2), 2) := by decide +kernel
theorem dX4_set_33 : decode cX4_set 33 = .ok (.ireturn, 1) := by decide +kernel
theorem dX4_set_34 : decode cX4_set 34 = .ok (.aload_n 0, 1) := by decide +kernel
theorem dX4_set_35 : decode cX4_set 35 = .ok (.getfield 7, 3) := by decide +kernel
theorem dX4_set_38 : decode cX4_set 38 = .ok (.bipush 7, 2) := by decide +kernel
theorem dX4_set_40 : decode cX4_set 40 = .ok (.iload_n 1, 1) := by decide +kernel
theorem dX4_set_41 : decode cX4_set 41 = .ok (.iadd, 1) := by decide +kernel
theorem dX4_set_42 : decode cX4_set 42 = .ok (.iaload, 1) := by decide +kernel
theorem dX4_set_43 : decode cX4_set 43 = .ok (.istore_n 3, 1) := by decide +kernel
theorem dX4_set_44 : decode cX4_set 44 = .ok (.iload_n 3, 1) := by decide +kernel
theorem dX4_set_45 : decode cX4_set 45 = .ok (.iload_n 2, 1) := by decide +kernel
theorem dX4_set_46 : decode cX4_set 46 = .ok (.if_icmp .ne 6, 3) := by decide +kernel
theorem dX4_set_49 : decode cX4_set 49 = .ok (.bipush (-5), 2) := by decide +kernel
theorem dX4_set_51 : decode cX4_set 51 = .ok (.ireturn, 1) := by decide +kernel
theorem dX4_set_52 : decode cX4_set 52 = .ok (.aload_n 0, 1) := by decide +kernel
theorem dX4_set_53 : decode cX4_set 53 = .ok (.invokevirtual 121, 3) := by decide +kernel
theorem dX4_set_56 : decode cX4_set 56 = .ok (.aload_n 0, 1) := by decide +kernel
theorem dX4_set_57 : decode cX4_set 57 = .ok (.invokevirtual 114, 3) := by decide +kernel
theorem dX4_set_60 : decode cX4_set 60 = .ok (.aload_n 0, 1) := by decide +kernel
theorem dX4_set_61 : decode cX4_set 61 = .ok (.getfield 7, 3) := by decide +kernel
theorem dX4_set_64 : decode cX4_set 64 = .ok (.bipush 7, 2) := by decide +kernel
theorem dX4_set_66 : decode cX4_set 66 = .ok (.iload_n 1, 1) := by decide +kernel
theorem dX4_set_67 : decode cX4_set 67 = .ok (.iadd, 1) := by decide +kernel
theorem dX4_set_68 : decode cX4_set 68 = .ok (.iload_n 2, 1) := by decide +kernel
theorem dX4_set_69 : decode cX4_set 69 = .ok (.iastore, 1) := by decide +kernel
theorem dX4_set_70 : decode cX4_set 70 = .ok (.iload_n 3, 1) := by decide +kernel
theorem dX4_set_71 : decode cX4_set 71 = .ok (.ireturn, 1) := by decide +kernel
theorem dX4_cut_0 : decode cX4_cut 0 = .ok (.aload_n 0, 1) := by decide +kernel
theorem dX4_cut_1 : decode cX4_cut 1 = .ok (.invokevirtual 121, 3) := by decide +kernel
theorem dX4_cut_4 : decode cX4_cut 4 = .ok (.aload_n 0, 1) := by decide +kernel
theorem dX4_cut_5 : decode cX4_cut 5 = .ok (.aload_n 0, 1) := by decide +kernel
theorem dX4_cut_6 : decode cX4_cut 6 = .ok (.iload_n 1, 1) := by decide +kernel
theorem dX4_cut_7 : decode cX4_cut 7 = .ok (.invokevirtual 137, 3) := by decide +kernel
theorem dX4_cut_10 : decode cX4_cut 10 = .ok (.invokevirtual 131, 3) := by decide +kernel
theorem dX4_cut_13 : decode cX4_cut 13 = .ok (.ireturn, 1) := by decide +kernel
theorem dX4_pause_0 : decode cX4_pause 0 = .ok (.aload_n 0, 1) := by decide +kernel
theorem dX4_pause_1 : decode cX4_pause 1 = .ok (.invokevirtual 121, 3) := by decide +kernel
theorem dX4_pause_4 : decode cX4_pause 4 = .ok (.iload_n 1, 1) := by decide +kernel
theorem dX4_pause_5 : decode cX4_pause 5 = .ok (.iconst 1, 1) := by decide +kernel
theorem dX4_pause_6 : decode cX4_pause 6 = .ok (.sipush 999, 3) := by decide +kernel
theorem dX4_pause_9 : decode cX4_pause 9 = .ok (.invokestatic 38, 3) := by decide +kernel
theorem dX4_pause_12 : decode cX4_pause 12 = .ok (.ifCond .eq 15, 3) := by decide +kernel
theorem dX4_pause_15 : decode cX4_pause 15 = .ok (.aload_n 0, 1) := by decide +kernel
theorem dX4_pause_16 : decode cX4_pause 16 = .ok (.aload_n 0, 1) := by decide +kernel
theorem dX4_pause_17 : decode cX4_pause 17 = .ok (.iload_n 1, 1) := by decide +kernel
theorem dX4_pause_18 : decode cX4_pause 18 = .ok (.invokevirtual 140, 3) := by decide +kernel
theorem dX4_pause_21 : decode cX4_pause 21 = .ok (.invokevirtual 131, 3) := by decide +kernel
theorem dX4_pause_24 : decode cX4_pause 24 = .ok (.goto 5, 3) := by decide +kernel
theorem dX4_pause_27 : decode cX4_pause 27 = .ok (.bipush (-2), 2) := by decide +kernel
theorem dX4_pause_29 : decode cX4_pause 29 = .ok (.ireturn, 1) := by decide +kernel
theorem dX4_clean_0 : decode cX4_clean 0 = .ok (.aload_n 0, 1) := by decide +kernel
theorem dX4_clean_1 : decode cX4_clean 1 = .ok (.invokevirtual 121, 3) := by decide +kernel
theorem dX4_clean_4 : decode cX4_clean 4 = .ok (.aload_n 0, 1) := by decide +kernel
theorem dX4_clean_5 : decode cX4_clean 5 = .ok (.aload_n 0, 1) := by decide +kernel
theorem dX4_clean_6 : decode cX4_clean 6 = .ok (.invokevirtual 143, 3) := by decide +kernel
theorem dX4_clean_9 : decode cX4_clean 9 = .ok (.invokevirtual 131, 3) := by decide +kernel
theorem dX4_clean_12 : decode cX4_clean 12 = .ok (.ireturn, 1) := by decide +kernel
theorem dX4_type_0 : decode cX4_type 0 = .ok (.aload_n 0, 1) := by decide +kernel
theorem dX4_type_1 : decode cX4_type 1 = .ok (.getfield 146, 3) := by decide +kernel
theorem dX4_type_4 : decode cX4_type 4 = .ok (.bipush 60, 2) := by decide +kernel
theorem dX4_type_6 : decode cX4_type 6 = .ok (.if_icmp .ne 6, 3) := by decide +kernel
theorem dX4_type_9 : decode cX4_type 9 = .ok (.bipush (-3), 2) := by decide +kernel
theorem dX4_type_11 : decode cX4_type 11 = .ok (.ireturn, 1) := by decide +kernel
theorem dX4_type_12 : decode cX4_type 12 = .ok (.aload_n 0, 1) := by decide +kernel
theorem dX4_type_13 : decode cX4_type 13 = .ok (.getfield 25, 3) := by decide +kernel
theorem dX4_type_16 : decode cX4_type 16 = .ok (.aload_n 0, 1) := by decide +kernel
theorem dX4_type_17 : decode cX4_type 17 = .ok (.getfield 146, 3) := by decide +kernel
theorem dX4_type_20 : decode cX4_type 20 = .ok (.iload_n 1, 1) := by decide +kernel
theorem dX4_type_21 : decode cX4_type 21 = .ok (.iastore, 1) := by decide +kernel
theorem dX4_type_22 : decode cX4_type 22 = .ok (.aload_n 0, 1) := by decide +kernel
theorem dX4_type_23 : decode cX4_type 23 = .ok (.dup, 1) := by decide +kernel
theorem dX4_type_24 : decode cX4_type 24 = .ok (.getfield 146, 3) := by decide +kernel
theorem dX4_type_27 : decode cX4_type 27 = .ok (.iconst 1, 1) := by decide +kernel
theorem dX4_type_28 : decode cX4_type 28 = .ok (.iadd, 1) := by decide +kernel
theorem dX4_type_29 : decode cX4_type 29 = .ok (.putfield 146, 3) := by decide +kernel
theorem dX4_type_32 : decode cX4_type 32 = .ok (.aload_n 0, 1) := by decide +kernel
theorem dX4_type_33 : decode cX4_type 33 = .ok (.getfield 146, 3) := by decide +kernel
theorem dX4_type_36 : decode cX4_type 36 = .ok (.ireturn, 1) := by decide +kernel
theorem dX4_clearText_0 : decode cX4_clearText 0 = .ok (.aload_n 0, 1) := by decide +kernel
theorem dX4_clearText_1 : decode cX4_clearText 1 = .ok (.getfield 146, 3) := by decide +kernel
theorem dX4_clearText_4 : decode cX4_clearText 4 = .ok (.istore_n 1, 1) := by decide +kernel
theorem dX4_clearText_5 : decode cX4_clearText 5 = .ok (.aload_n 0, 1) := by decide +kernel
theorem dX4_clearText_6 : decode cX4_clearText 6 = .ok (.iconst 0, 1) := by decide +kernel
theorem dX4_clearText_7 : decode cX4_clearText 7 = .ok (.putfield 146, 3) := by decide +kernel
theorem dX4_clearText_10 : decode cX4_clearText 10 = .ok (.iload_n 1, 1) := by decide +kernel
theorem dX4_clearText_11 : decode cX4_clearText 11 = .ok (.ireturn, 1) := by decide +kernel
theorem dX4_isNext_0 : decode cX4_isNext 0 = .ok (.aload_n 0, 1) := by decide +kernel
theorem dX4_isNext_1 : decode cX4_isNext 1 = .ok (.getfield 149, 3) := by decide +kernel
theorem dX4_isNext_4 : decode cX4_isNext 4 = .ok (.ifCond .ne 35, 3) := by decide +kernel
theorem dX4_isNext_7 : decode cX4_isNext 7 = .ok (.aload_n 0, 1) := by decide +kernel
theorem dX4_isNext_8 : decode cX4_isNext 8 = .ok (.getfield 153, 3) := by decide +kernel
theorem dX4_isNext_11 : decode cX4_isNext 11 = .ok (.aload_n 0, 1) := by decide +kernel
theorem dX4_isNext_12 : decode cX4_isNext 12 = .ok (.getfield 146, 3) := by decide +kernel
theorem dX4_isNext_15 : decode cX4_isNext 15 = .ok (.if_icmp .ge 24, 3) := by decide +kernel
theorem dX4_isNext_18 : decode cX4_isNext 18 = .ok (.aload_n 0, 1) := by decide +kernel
theorem dX4_isNext_19 : decode cX4_isNext 19 = .ok (.getfield 25, 3) := by decide +kernel
theorem dX4_isNext_22 : decode cX4_isNext 22 = .ok (.aload_n 0, 1) := by decide +kernel
theorem dX4_isNext_23 : decode cX4_isNext 23 = .ok (.getfield 153, 3) := by decide +kernel
theorem dX4_isNext_26 : decode cX4_isNext 26 = .ok (.iaload, 1) := by decide +kernel
theorem dX4_isNext_27 : decode cX4_isNext 27 = .ok (.iload_n 1, 1) := by decide +kernel
theorem dX4_isNext_28 : decode cX4_isNext 28 = .ok (.iload_n 2, 1) := by decide +kernel
theorem dX4_isNext_29 : decode cX4_isNext 29 = .ok (.invokestatic 38, 3) := by decide +kernel
theorem dX4_isNext_32 : decode cX4_isNext 32 = .ok (.ifCond .eq 7, 3) := by decide +kernel
theorem dX4_isNext_35 : decode cX4_isNext 35 = .ok (.iconst 1, 1) := by decide +kernel
theorem dX4_isNext_36 : decode cX4_isNext 36 = .ok (.goto 4, 3) := by decide +kernel
theorem dX4_isNext_39 : decode cX4_isNext 39 = .ok (.iconst 0, 1) := by decide +kernel
theorem dX4_isNext_40 : decode cX4_isNext 40 = .ok (.ireturn, 1) := by decide +kernel
theorem dX4_takesOne_0 : decode cX4_takesOne 0 = .ok (.aload_n 0, 1) := by decide +kernel
theorem dX4_takesOne_1 : decode cX4_takesOne 1 = .ok (.getfield 153, 3) := by decide +kernel
theorem dX4_takesOne_4 : decode cX4_takesOne 4 = .ok (.aload_n 0, 1) := by decide +kernel
theorem dX4_takesOne_5 : decode cX4_takesOne 5 = .ok (.getfield 146, 3) := by decide +kernel
theorem dX4_takesOne_8 : decode cX4_takesOne 8 = .ok (.if_icmp .ge 15, 3) := by decide +kernel
theorem dX4_takesOne_11 : decode cX4_takesOne 11 = .ok (.aload_n 0, 1) := by decide +kernel
theorem dX4_takesOne_12 : decode cX4_takesOne 12 = .ok (.getfield 25, 3) := by decide +kernel
theorem dX4_takesOne_15 : decode cX4_takesOne 15 = .ok (.aload_n 0, 1) := by decide +kernel
theorem dX4_takesOne_16 : decode cX4_takesOne 16 = .ok (.getfield 153, 3) := by decide +kernel
theorem dX4_takesOne_19 : decode cX4_takesOne 19 = .ok (.iaload, 1) := by decide +kernel
theorem dX4_takesOne_20 : decode cX4_takesOne 20 = .ok (.goto 4, 3) := by decide +kernel
theorem dX4_takesOne_23 : decode cX4_takesOne 23 = .ok (.iconst 0, 1) := by decide +kernel
theorem dX4_takesOne_24 : decode cX4_takesOne 24 = .ok (.istore_n 3, 1) := by decide +kernel
theorem dX4_takesOne_25 : decode cX4_takesOne 25 = .ok (.aload_n 0, 1) := by decide +kernel
theorem dX4_takesOne_26 : decode cX4_takesOne 26 = .ok (.aload_n 0, 1) := by decide +kernel
theorem dX4_takesOne_27 : decode cX4_takesOne 27 = .ok (.getfield 149, 3) := by decide +kernel
theorem dX4_takesOne_30 : decode cX4_takesOne 30 = .ok (.ifCond .ne 12, 3) := by decide +kernel
theorem dX4_takesOne_33 : decode cX4_takesOne 33 = .ok (.iload_n 3, 1) := by decide +kernel
theorem dX4_takesOne_34 : decode cX4_takesOne 34 = .ok (.iload_n 1, 1) := by decide +kernel
theorem dX4_takesOne_35 : decode cX4_takesOne 35 = .ok (.iload_n 2, 1) := by decide +kernel
theorem dX4_takesOne_36 : decode cX4_takesOne 36 = .ok (.invokestatic 38, 3) := by decide +kernel
theorem dX4_takesOne_39 : decode cX4_takesOne 39 = .ok (.ifCond .ne 7, 3) := by decide +kernel
theorem dX4_takesOne_42 : decode cX4_takesOne 42 = .ok (.iconst 1, 1) := by decide +kernel
theorem dX4_takesOne_43 : decode cX4_takesOne 43 = .ok (.goto 4, 3) := by decide +kernel
theorem dX4_takesOne_46 : decode cX4_takesOne 46 = .ok (.iconst 0, 1) := by decide +kernel
theorem dX4_takesOne_47 : decode cX4_takesOne 47 = .ok (.putfield 149, 3) := by decide +kernel
theorem dX4_takesOne_50 : decode cX4_takesOne 50 = .ok (.aload_n 0, 1) := by decide +kernel
theorem dX4_takesOne_51 : decode cX4_takesOne 51 = .ok (.dup, 1) := by decide +kernel
theorem dX4_takesOne_52 : decode cX4_takesOne 52 = .ok (.getfield 153, 3) := by decide +kernel
theorem dX4_takesOne_55 : decode cX4_takesOne 55 = .ok (.aload_n 0, 1) := by decide +kernel
theorem dX4_takesOne_56 : decode cX4_takesOne 56 = .ok (.getfield 149, 3) := by decide +kernel
theorem dX4_takesOne_59 : decode cX4_takesOne 59 = .ok (.ifCond .eq 7, 3) := by decide +kernel
theorem dX4_takesOne_62 : decode cX4_takesOne 62 = .ok (.iconst 0, 1) := by decide +kernel
theorem dX4_takesOne_63 : decode cX4_takesOne 63 = .ok (.goto 4, 3) := by decide +kernel
theorem dX4_takesOne_66 : decode cX4_takesOne 66 = .ok (.iconst 1, 1) := by decide +kernel
theorem dX4_takesOne_67 : decode cX4_takesOne 67 = .ok (.iadd, 1) := by decide +kernel
theorem dX4_takesOne_68 : decode cX4_takesOne 68 = .ok (.putfield 153, 3) := by decide +kernel
theorem dX4_takesOne_71 : decode cX4_takesOne 71 = .ok (.iload_n 3, 1) := by decide +kernel
theorem dX4_takesOne_72 : decode cX4_takesOne 72 = .ok (.iload_n 1, 1) := by decide +kernel
theorem dX4_takesOne_73 : decode cX4_takesOne 73 = .ok (.isub, 1) := by decide +kernel
theorem dX4_takesOne_74 : decode cX4_takesOne 74 = .ok (.ireturn, 1) := by decide +kernel
theorem dX4_takesNumber_0 : decode cX4_takesNumber 0 = .ok (.iload_n 1, 1) := by decide +kernel
theorem dX4_takesNumber_1 : decode cX4_takesNumber 1 = .ok (.aload_n 0, 1) := by decide +kernel
theorem dX4_takesNumber_2 : decode cX4_takesNumber 2 = .ok (.bipush 48, 2) := by decide +kernel
theorem dX4_takesNumber_4 : decode cX4_takesNumber 4 = .ok (.iload_n 1, 1) := by decide +kernel
theorem dX4_takesNumber_5 : decode cX4_takesNumber 5 = .ok (.iadd, 1) := by decide +kernel
theorem dX4_takesNumber_6 : decode cX4_takesNumber 6 = .ok (.bipush 57, 2) := by decide +kernel
theorem dX4_takesNumber_8 : decode cX4_takesNumber 8 = .ok (.invokevirtual 156, 3) := by decide +kernel
theorem dX4_takesNumber_11 : decode cX4_takesNumber 11 = .ok (.iadd, 1) := by decide +kernel
theorem dX4_takesNumber_12 : decode cX4_takesNumber 12 = .ok (.istore_n 3, 1) := by decide +kernel
theorem dX4_takesNumber_13 : decode cX4_takesNumber 13 = .ok (.iload_n 3, 1) := by decide +kernel
theorem dX4_takesNumber_14 : decode cX4_takesNumber 14 = .ok (.ifCond .le 7, 3) := by decide +kernel
theorem dX4_takesNumber_17 : decode cX4_takesNumber 17 = .ok (.iconst 1, 1) := by decide +kernel
theorem dX4_takesNumber_18 : decode cX4_takesNumber 18 = .ok (.goto 4, 3) := by decide +kernel
theorem dX4_takesNumber_21 : decode cX4_takesNumber 21 = .ok (.iconst 0, 1) := by decide +kernel
theorem dX4_takesNumber_22 : decode cX4_takesNumber 22 = .ok (.istore 4, 2) := by decide +kernel
theorem dX4_takesNumber_24 : decode cX4_takesNumber 24 = .ok (.iload 4, 2) := by decide +kernel
theorem dX4_takesNumber_26 : decode cX4_takesNumber 26 = .ok (.ifCond .eq 68, 3) := by decide +kernel
theorem dX4_takesNumber_29 : decode cX4_takesNumber 29 = .ok (.aload_n 0, 1) := by decide +kernel
theorem dX4_takesNumber_30 : decode cX4_takesNumber 30 = .ok (.bipush 48, 2) := by decide +kernel
theorem dX4_takesNumber_32 : decode cX4_takesNumber 32 = .ok (.bipush 57, 2) := by decide +kernel
theorem dX4_takesNumber_34 : decode cX4_takesNumber 34 = .ok (.invokevirtual 159, 3) := by decide +kernel
theorem dX4_takesNumber_37 : decode cX4_takesNumber 37 = .ok (.ifCond .eq 28, 3) := by decide +kernel
theorem dX4_takesNumber_40 : decode cX4_takesNumber 40 = .ok (.bipush 10, 2) := by decide +kernel
theorem dX4_takesNumber_42 : decode cX4_takesNumber 42 = .ok (.iload_n 3, 1) := by decide +kernel
theorem dX4_takesNumber_43 : decode cX4_takesNumber 43 = .ok (.imul, 1) := by decide +kernel
theorem dX4_takesNumber_44 : decode cX4_takesNumber 44 = .ok (.aload_n 0, 1) := by decide +kernel
theorem dX4_takesNumber_45 : decode cX4_takesNumber 45 = .ok (.getfield 25, 3) := by decide +kernel
theorem dX4_takesNumber_48 : decode cX4_takesNumber 48 = .ok (.aload_n 0, 1) := by decide +kernel
theorem dX4_takesNumber_49 : decode cX4_takesNumber 49 = .ok (.getfield 153, 3) := by decide +kernel
theorem dX4_takesNumber_52 : decode cX4_takesNumber 52 = .ok (.iaload, 1) := by decide +kernel
theorem dX4_takesNumber_53 : decode cX4_takesNumber 53 = .ok (.iadd, 1) := by decide +kernel
theorem dX4_takesNumber_54 : decode cX4_takesNumber 54 = .ok (.bipush 48, 2) := by decide +kernel
theorem dX4_takesNumber_56 : decode cX4_takesNumber 56 = .ok (.isub, 1) := by decide +kernel
theorem dX4_takesNumber_57 : decode cX4_takesNumber 57 = .ok (.iload_n 2, 1) := by decide +kernel
theorem dX4_takesNumber_58 : decode cX4_takesNumber 58 = .ok (.if_icmp .gt 7, 3) := by decide +kernel
theorem dX4_takesNumber_61 : decode cX4_takesNumber 61 = .ok (.iconst 1, 1) := by decide +kernel
theorem dX4_takesNumber_62 : decode cX4_takesNumber 62 = .ok (.goto 4, 3) := by decide +kernel
theorem dX4_takesNumber_65 : decode cX4_takesNumber 65 = .ok (.iconst 0, 1) := by decide +kernel
theorem dX4_takesNumber_66 : decode cX4_takesNumber 66 = .ok (.istore 4, 2) := by decide +kernel
theorem dX4_takesNumber_68 : decode cX4_takesNumber 68 = .ok (.iload 4, 2) := by decide +kernel
theorem dX4_takesNumber_70 : decode cX4_takesNumber 70 = .ok (.ifCond .eq 19, 3) := by decide +kernel
theorem dX4_takesNumber_73 : decode cX4_takesNumber 73 = .ok (.bipush 10, 2) := by decide +kernel
theorem dX4_takesNumber_75 : decode cX4_takesNumber 75 = .ok (.iload_n 3, 1) := by decide +kernel
theorem dX4_takesNumber_76 : decode cX4_takesNumber 76 = .ok (.imul, 1) := by decide +kernel
theorem dX4_takesNumber_77 : decode cX4_takesNumber 77 = .ok (.aload_n 0, 1) := by decide +kernel
theorem dX4_takesNumber_78 : decode cX4_takesNumber 78 = .ok (.bipush 48, 2) := by decide +kernel
theorem dX4_takesNumber_80 : decode cX4_takesNumber 80 = .ok (.bipush 57, 2) := by decide +kernel
theorem dX4_takesNumber_82 : decode cX4_takesNumber 82 = .ok (.invokevirtual 156, 3) := by decide +kernel
theorem dX4_takesNumber_85 : decode cX4_takesNumber 85 = .ok (.iadd, 1) := by decide +kernel
theorem dX4_takesNumber_86 : decode cX4_takesNumber 86 = .ok (.goto 4, 3) := by decide +kernel
theorem dX4_takesNumber_89 : decode cX4_takesNumber 89 = .ok (.iload_n 3, 1) := by decide +kernel
theorem dX4_takesNumber_90 : decode cX4_takesNumber 90 = .ok (.istore_n 3, 1) := by decide +kernel
theorem dX4_takesNumber_91 : decode cX4_takesNumber 91 = .ok (.goto (-67), 3) := by decide +kernel
theorem dX4_takesNumber_94 : decode cX4_takesNumber 94 = .ok (.iload_n 3, 1) := by decide +kernel
theorem dX4_takesNumber_95 : decode cX4_takesNumber 95 = .ok (.ireturn, 1) := by decide +kernel
theorem dX4_readThing_0 : decode cX4_readThing 0 = .ok (.aload_n 0, 1) := by decide +kernel
theorem dX4_readThing_1 : decode cX4_readThing 1 = .ok (.aload_n 0, 1) := by decide +kernel
theorem dX4_readThing_2 : decode cX4_readThing 2 = .ok (.getfield 153, 3) := by decide +kernel
theorem dX4_readThing_5 : decode cX4_readThing 5 = .ok (.aload_n 0, 1) := by decide +kernel
theorem dX4_readThing_6 : decode cX4_readThing 6 = .ok (.getfield 146, 3) := by decide +kernel
theorem dX4_readThing_9 : decode cX4_readThing 9 = .ok (.if_icmp .ge 15, 3) := by decide +kernel
theorem dX4_readThing_12 : decode cX4_readThing 12 = .ok (.aload_n 0, 1) := by decide +kernel
theorem dX4_readThing_13 : decode cX4_readThing 13 = .ok (.getfield 25, 3) := by decide +kernel
theorem dX4_readThing_16 : decode cX4_readThing 16 = .ok (.aload_n 0, 1) := by decide +kernel
theorem dX4_readThing_17 : decode cX4_readThing 17 = .ok (.getfield 153, 3) := by decide +kernel
theorem dX4_readThing_20 : decode cX4_readThing 20 = .ok (.iaload, 1) := by decide +kernel
theorem dX4_readThing_21 : decode cX4_readThing 21 = .ok (.goto 4, 3) := by decide +kernel
theorem dX4_readThing_24 : decode cX4_readThing 24 = .ok (.iconst 0, 1) := by decide +kernel
theorem dX4_readThing_25 : decode cX4_readThing 25 = .ok (.putfield 162, 3) := by decide +kernel
theorem dX4_readThing_28 : decode cX4_readThing 28 = .ok (.aload_n 0, 1) := by decide +kernel
theorem dX4_readThing_29 : decode cX4_readThing 29 = .ok (.aload_n 0, 1) := by decide +kernel
theorem dX4_readThing_30 : decode cX4_readThing 30 = .ok (.getfield 149, 3) := by decide +kernel
theorem dX4_readThing_33 : decode cX4_readThing 33 = .ok (.ifCond .ne 39, 3) := by decide +kernel
theorem dX4_readThing_36 : decode cX4_readThing 36 = .ok (.aload_n 0, 1) := by decide +kernel
theorem dX4_readThing_37 : decode cX4_readThing 37 = .ok (.getfield 162, 3) := by decide +kernel
theorem dX4_readThing_40 : decode cX4_readThing 40 = .ok (.bipush 99, 2) := by decide +kernel
theorem dX4_readThing_42 : decode cX4_readThing 42 = .ok (.if_icmp .eq 34, 3) := by decide +kernel
theorem dX4_readThing_45 : decode cX4_readThing 45 = .ok (.aload_n 0, 1) := by decide +kernel
theorem dX4_readThing_46 : decode cX4_readThing 46 = .ok (.getfield 162, 3) := by decide +kernel
theorem dX4_readThing_49 : decode cX4_readThing 49 = .ok (.bipush 108, 2) := by decide +kernel
theorem dX4_readThing_51 : decode cX4_readThing 51 = .ok (.if_icmp .eq 25, 3) := by decide +kernel
theorem dX4_readThing_54 : decode cX4_readThing 54 = .ok (.aload_n 0, 1) := by decide +kernel
theorem dX4_readThing_55 : decode cX4_readThing 55 = .ok (.getfield 162, 3) := by decide +kernel
theorem dX4_readThing_58 : decode cX4_readThing 58 = .ok (.bipush 119, 2) := by decide +kernel
theorem dX4_readThing_60 : decode cX4_readThing 60 = .ok (.if_icmp .eq 16, 3) := by decide +kernel
theorem dX4_readThing_63 : decode cX4_readThing 63 = .ok (.aload_n 0, 1) := by decide +kernel
theorem dX4_readThing_64 : decode cX4_readThing 64 = .ok (.getfield 162, 3) := by decide +kernel
theorem dX4_readThing_67 : decode cX4_readThing 67 = .ok (.bipush 107, 2) := by decide +kernel
theorem dX4_readThing_69 : decode cX4_readThing 69 = .ok (.if_icmp .eq 7, 3) := by decide +kernel
theorem dX4_readThing_72 : decode cX4_readThing 72 = .ok (.iconst 1, 1) := by decide +kernel
theorem dX4_readThing_73 : decode cX4_readThing 73 = .ok (.goto 4, 3) := by decide +kernel
theorem dX4_readThing_76 : decode cX4_readThing 76 = .ok (.iconst 0, 1) := by decide +kernel
theorem dX4_readThing_77 : decode cX4_readThing 77 = .ok (.putfield 149, 3) := by decide +kernel
theorem dX4_readThing_80 : decode cX4_readThing 80 = .ok (.aload_n 0, 1) := by decide +kernel
theorem dX4_readThing_81 : decode cX4_readThing 81 = .ok (.dup, 1) := by decide +kernel
theorem dX4_readThing_82 : decode cX4_readThing 82 = .ok (.getfield 153, 3) := by decide +kernel
theorem dX4_readThing_85 : decode cX4_readThing 85 = .ok (.aload_n 0, 1) := by decide +kernel
theorem dX4_readThing_86 : decode cX4_readThing 86 = .ok (.getfield 149, 3) := by decide +kernel
theorem dX4_readThing_89 : decode cX4_readThing 89 = .ok (.ifCond .eq 7, 3) := by decide +kernel
theorem dX4_readThing_92 : decode cX4_readThing 92 = .ok (.iconst 0, 1) := by decide +kernel
theorem dX4_readThing_93 : decode cX4_readThing 93 = .ok (.goto 4, 3) := by decide +kernel
theorem dX4_readThing_96 : decode cX4_readThing 96 = .ok (.iconst 1, 1) := by decide +kernel
theorem dX4_readThing_97 : decode cX4_readThing 97 = .ok (.iadd, 1) := by decide +kernel
theorem dX4_readThing_98 : decode cX4_readThing 98 = .ok (.putfield 153, 3) := by decide +kernel
theorem dX4_readThing_101 : decode cX4_readThing 101 = .ok (.aload_n 0, 1) := by decide +kernel
theorem dX4_readThing_102 : decode cX4_readThing 102 = .ok (.aload_n 0, 1) := by decide +kernel
theorem dX4_readThing_103 : decode cX4_readThing 103 = .ok (.getfield 162, 3) := by decide +kernel
theorem dX4_readThing_106 : decode cX4_readThing 106 = .ok (.bipush 107, 2) := by decide +kernel
theorem dX4_readThing_108 : decode cX4_readThing 108 = .ok (.if_icmp .ne 7, 3) := by decide +kernel
theorem dX4_readThing_111 : decode cX4_readThing 111 = .ok (.iconst 0, 1) := by decide +kernel
theorem dX4_readThing_112 : decode cX4_readThing 112 = .ok (.goto 30, 3) := by decide +kernel
theorem dX4_readThing_115 : decode cX4_readThing 115 = .ok (.aload_n 0, 1) := by decide +kernel
theorem dX4_readThing_116 : decode cX4_readThing 116 = .ok (.getfield 162, 3) := by decide +kernel
theorem dX4_readThing_119 : decode cX4_readThing 119 = .ok (.bipush 119, 2) := by decide +kernel
theorem dX4_readThing_121 : decode cX4_readThing 121 = .ok (.if_icmp .ne 14, 3) := by decide +kernel
theorem dX4_readThing_124 : decode cX4_readThing 124 = .ok (.aload_n 0, 1) := by decide +kernel
theorem dX4_readThing_125 : decode cX4_readThing 125 = .ok (.iconst 1, 1) := by decide +kernel
theorem dX4_readThing_126 : decode cX4_readThing 126 = .ok (.sipush 999, 3) := by decide +kernel
theorem dX4_readThing_129 : decode cX4_readThing 129 = .ok (.invokevirtual 165, 3) := by decide +kernel
theorem dX4_readThing_132 : decode cX4_readThing 132 = .ok (.goto 10, 3) := by decide +kernel
theorem dX4_readThing_135 : decode cX4_readThing 135 = .ok (.aload_n 0, 1) := by decide +kernel
theorem dX4_readThing_136 : decode cX4_readThing 136 = .ok (.iconst 0, 1) := by decide +kernel
theorem dX4_readThing_137 : decode cX4_readThing 137 = .ok (.bipush 11, 2) := by decide +kernel
theorem dX4_readThing_139 : decode cX4_readThing 139 = .ok (.invokevirtual 165, 3) := by decide +kernel
theorem dX4_readThing_142 : decode cX4_readThing 142 = .ok (.putfield 168, 3) := by decide +kernel
theorem dX4_readThing_145 : decode cX4_readThing 145 = .ok (.aload_n 0, 1) := by decide +kernel
theorem dX4_readThing_146 : decode cX4_readThing 146 = .ok (.iconst 0, 1) := by decide +kernel
theorem dX4_readThing_147 : decode cX4_readThing 147 = .ok (.putfield 171, 3) := by decide +kernel
theorem dX4_readThing_150 : decode cX4_readThing 150 = .ok (.aload_n 0, 1) := by decide +kernel
theorem dX4_readThing_151 : decode cX4_readThing 151 = .ok (.getfield 162, 3) := by decide +kernel
theorem dX4_readThing_154 : decode cX4_readThing 154 = .ok (.bipush 108, 2) := by decide +kernel
theorem dX4_readThing_156 : decode cX4_readThing 156 = .ok (.if_icmp .ne 24, 3) := by decide +kernel
theorem dX4_readThing_159 : decode cX4_readThing 159 = .ok (.aload_n 0, 1) := by decide +kernel
theorem dX4_readThing_160 : decode cX4_readThing 160 = .ok (.bipush 64, 2) := by decide +kernel
theorem dX4_readThing_162 : decode cX4_readThing 162 = .ok (.bipush 64, 2) := by decide +kernel
theorem dX4_readThing_164 : decode cX4_readThing 164 = .ok (.invokevirtual 156, 3) := by decide +kernel
theorem dX4_readThing_167 : decode cX4_readThing 167 = .ok (.istore_n 1, 1) := by decide +kernel
theorem dX4_readThing_168 : decode cX4_readThing 168 = .ok (.aload_n 0, 1) := by decide +kernel
theorem dX4_readThing_169 : decode cX4_readThing 169 = .ok (.aload_n 0, 1) := by decide +kernel
theorem dX4_readThing_170 : decode cX4_readThing 170 = .ok (.bipush 48, 2) := by decide +kernel
theorem dX4_readThing_172 : decode cX4_readThing 172 = .ok (.bipush 51, 2) := by decide +kernel
theorem dX4_readThing_174 : decode cX4_readThing 174 = .ok (.invokevirtual 156, 3) := by decide +kernel
theorem dX4_readThing_177 : decode cX4_readThing 177 = .ok (.putfield 171, 3) := by decide +kernel
theorem dX4_readThing_180 : decode cX4_readThing 180 = .ok (.return_, 1) := by decide +kernel
theorem dX4_does_0 : decode cX4_does 0 = .ok (.aload_n 0, 1) := by decide +kernel
theorem dX4_does_1 : decode cX4_does 1 = .ok (.getfield 162, 3) := by decide +kernel
theorem dX4_does_4 : decode cX4_does 4 = .ok (.lookupswitch 67 #[(99, 36), (108, 45), (119, 58)], 36) := by decide +kernel
theorem dX4_does_40 : decode cX4_does 40 = .ok (.aload_n 0, 1) := by decide +kernel
theorem dX4_does_41 : decode cX4_does 41 = .ok (.aload_n 0, 1) := by decide +kernel
theorem dX4_does_42 : decode cX4_does 42 = .ok (.getfield 168, 3) := by decide +kernel
theorem dX4_does_45 : decode cX4_does 45 = .ok (.invokevirtual 137, 3) := by decide +kernel
theorem dX4_does_48 : decode cX4_does 48 = .ok (.ireturn, 1) := by decide +kernel
theorem dX4_does_49 : decode cX4_does 49 = .ok (.aload_n 0, 1) := by decide +kernel
theorem dX4_does_50 : decode cX4_does 50 = .ok (.aload_n 0, 1) := by decide +kernel
theorem dX4_does_51 : decode cX4_does 51 = .ok (.getfield 168, 3) := by decide +kernel
theorem dX4_does_54 : decode cX4_does 54 = .ok (.aload_n 0, 1) := by decide +kernel
theorem dX4_does_55 : decode cX4_does 55 = .ok (.getfield 171, 3) := by decide +kernel
theorem dX4_does_58 : decode cX4_does 58 = .ok (.invokevirtual 128, 3) := by decide +kernel
theorem dX4_does_61 : decode cX4_does 61 = .ok (.ireturn, 1) := by decide +kernel
theorem dX4_does_62 : decode cX4_does 62 = .ok (.aload_n 0, 1) := by decide +kernel
theorem dX4_does_63 : decode cX4_does 63 = .ok (.aload_n 0, 1) := by decide +kernel
theorem dX4_does_64 : decode cX4_does 64 = .ok (.getfield 168, 3) := by decide +kernel
theorem dX4_does_67 : decode cX4_does 67 = .ok (.invokevirtual 140, 3) := by decide +kernel
theorem dX4_does_70 : decode cX4_does 70 = .ok (.ireturn, 1) := by decide +kernel
theorem dX4_does_71 : decode cX4_does 71 = .ok (.aload_n 0, 1) := by decide +kernel
theorem dX4_does_72 : decode cX4_does 72 = .ok (.invokevirtual 143, 3) := by decide +kernel
theorem dX4_does_75 : decode cX4_does 75 = .ok (.ireturn, 1) := by decide +kernel
theorem dX4_runs_0 : decode cX4_runs 0 = .ok (.aload_n 0, 1) := by decide +kernel
theorem dX4_runs_1 : decode cX4_runs 1 = .ok (.iconst 0, 1) := by decide +kernel
theorem dX4_runs_2 : decode cX4_runs 2 = .ok (.putfield 153, 3) := by decide +kernel
theorem dX4_runs_5 : decode cX4_runs 5 = .ok (.aload_n 0, 1) := by decide +kernel
theorem dX4_runs_6 : decode cX4_runs 6 = .ok (.iconst 0, 1) := by decide +kernel
theorem dX4_runs_7 : decode cX4_runs 7 = .ok (.putfield 149, 3) := by decide +kernel
theorem dX4_runs_10 : decode cX4_runs 10 = .ok (.aload_n 0, 1) := by decide +kernel
theorem dX4_runs_11 : decode cX4_runs 11 = .ok (.iconst 0, 1) := by decide +kernel
theorem dX4_runs_12 : decode cX4_runs 12 = .ok (.putfield 174, 3) := by decide +kernel
theorem dX4_runs_15 : decode cX4_runs 15 = .ok (.iconst 0, 1) := by decide +kernel
theorem dX4_runs_16 : decode cX4_runs 16 = .ok (.istore_n 2, 1) := by decide +kernel
theorem dX4_runs_17 : decode cX4_runs 17 = .ok (.iconst 1, 1) := by decide +kernel
theorem dX4_runs_18 : decode cX4_runs 18 = .ok (.istore_n 3, 1) := by decide +kernel
theorem dX4_runs_19 : decode cX4_runs 19 = .ok (.iload_n 3, 1) := by decide +kernel
theorem dX4_runs_20 : decode cX4_runs 20 = .ok (.ifCond .eq 119, 3) := by decide +kernel
theorem dX4_runs_23 : decode cX4_runs 23 = .ok (.aload_n 0, 1) := by decide +kernel
theorem dX4_runs_24 : decode cX4_runs 24 = .ok (.invokevirtual 177, 3) := by decide +kernel
theorem dX4_runs_27 : decode cX4_runs 27 = .ok (.iload_n 1, 1) := by decide +kernel
theorem dX4_runs_28 : decode cX4_runs 28 = .ok (.ifCond .eq 10, 3) := by decide +kernel
theorem dX4_runs_31 : decode cX4_runs 31 = .ok (.aload_n 0, 1) := by decide +kernel
theorem dX4_runs_32 : decode cX4_runs 32 = .ok (.invokevirtual 180, 3) := by decide +kernel
theorem dX4_runs_35 : decode cX4_runs 35 = .ok (.goto 4, 3) := by decide +kernel
theorem dX4_runs_38 : decode cX4_runs 38 = .ok (.iconst 0, 1) := by decide +kernel
theorem dX4_runs_39 : decode cX4_runs 39 = .ok (.istore 4, 2) := by decide +kernel
theorem dX4_runs_41 : decode cX4_runs 41 = .ok (.aload_n 0, 1) := by decide +kernel
theorem dX4_runs_42 : decode cX4_runs 42 = .ok (.iload 4, 2) := by decide +kernel
theorem dX4_runs_44 : decode cX4_runs 44 = .ok (.ifCond .ge 15, 3) := by decide +kernel
theorem dX4_runs_47 : decode cX4_runs 47 = .ok (.iload 4, 2) := by decide +kernel
theorem dX4_runs_49 : decode cX4_runs 49 = .ok (.bipush (-5), 2) := by decide +kernel
theorem dX4_runs_51 : decode cX4_runs 51 = .ok (.if_icmp .eq 8, 3) := by decide +kernel
theorem dX4_runs_54 : decode cX4_runs 54 = .ok (.iload 4, 2) := by decide +kernel
theorem dX4_runs_56 : decode cX4_runs 56 = .ok (.goto 4, 3) := by decide +kernel
theorem dX4_runs_59 : decode cX4_runs 59 = .ok (.iconst 0, 1) := by decide +kernel
theorem dX4_runs_60 : decode cX4_runs 60 = .ok (.putfield 174, 3) := by decide +kernel
theorem dX4_runs_63 : decode cX4_runs 63 = .ok (.iload_n 2, 1) := by decide +kernel
theorem dX4_runs_64 : decode cX4_runs 64 = .ok (.aload_n 0, 1) := by decide +kernel
theorem dX4_runs_65 : decode cX4_runs 65 = .ok (.getfield 174, 3) := by decide +kernel
theorem dX4_runs_68 : decode cX4_runs 68 = .ok (.ifCond .ge 7, 3) := by decide +kernel
theorem dX4_runs_71 : decode cX4_runs 71 = .ok (.iconst 0, 1) := by decide +kernel
theorem dX4_runs_72 : decode cX4_runs 72 = .ok (.goto 4, 3) := by decide +kernel
theorem dX4_runs_75 : decode cX4_runs 75 = .ok (.iconst 1, 1) := by decide +kernel
theorem dX4_runs_76 : decode cX4_runs 76 = .ok (.iadd, 1) := by decide +kernel
theorem dX4_runs_77 : decode cX4_runs 77 = .ok (.istore_n 2, 1) := by decide +kernel
theorem dX4_runs_78 : decode cX4_runs 78 = .ok (.aload_n 0, 1) := by decide +kernel
theorem dX4_runs_79 : decode cX4_runs 79 = .ok (.getfield 174, 3) := by decide +kernel
theorem dX4_runs_82 : decode cX4_runs 82 = .ok (.ifCond .ne 25, 3) := by decide +kernel
theorem dX4_runs_85 : decode cX4_runs 85 = .ok (.aload_n 0, 1) := by decide +kernel
theorem dX4_runs_86 : decode cX4_runs 86 = .ok (.getfield 149, 3) := by decide +kernel
theorem dX4_runs_89 : decode cX4_runs 89 = .ok (.ifCond .ne 18, 3) := by decide +kernel
theorem dX4_runs_92 : decode cX4_runs 92 = .ok (.aload_n 0, 1) := by decide +kernel
theorem dX4_runs_93 : decode cX4_runs 93 = .ok (.getfield 153, 3) := by decide +kernel
theorem dX4_runs_96 : decode cX4_runs 96 = .ok (.aload_n 0, 1) := by decide +kernel
theorem dX4_runs_97 : decode cX4_runs 97 = .ok (.getfield 146, 3) := by decide +kernel
theorem dX4_runs_100 : decode cX4_runs 100 = .ok (.if_icmp .ge 7, 3) := by decide +kernel
theorem dX4_runs_103 : decode cX4_runs 103 = .ok (.iconst 1, 1) := by decide +kernel
theorem dX4_runs_104 : decode cX4_runs 104 = .ok (.goto 4, 3) := by decide +kernel
theorem dX4_runs_107 : decode cX4_runs 107 = .ok (.iconst 0, 1) := by decide +kernel
theorem dX4_runs_108 : decode cX4_runs 108 = .ok (.istore_n 3, 1) := by decide +kernel
theorem dX4_runs_109 : decode cX4_runs 109 = .ok (.iload_n 3, 1) := by decide +kernel
theorem dX4_runs_110 : decode cX4_runs 110 = .ok (.ifCond .eq 26, 3) := by decide +kernel
theorem dX4_runs_113 : decode cX4_runs 113 = .ok (.aload_n 0, 1) := by decide +kernel
theorem dX4_runs_114 : decode cX4_runs 114 = .ok (.bipush 59, 2) := by decide +kernel
theorem dX4_runs_116 : decode cX4_runs 116 = .ok (.bipush 59, 2) := by decide +kernel
theorem dX4_runs_118 : decode cX4_runs 118 = .ok (.invokevirtual 156, 3) := by decide +kernel
theorem dX4_runs_121 : decode cX4_runs 121 = .ok (.istore 5, 2) := by decide +kernel
theorem dX4_runs_123 : decode cX4_runs 123 = .ok (.aload_n 0, 1) := by decide +kernel
theorem dX4_runs_124 : decode cX4_runs 124 = .ok (.getfield 149, 3) := by decide +kernel
theorem dX4_runs_127 : decode cX4_runs 127 = .ok (.ifCond .ne 7, 3) := by decide +kernel
theorem dX4_runs_130 : decode cX4_runs 130 = .ok (.iconst 1, 1) := by decide +kernel
theorem dX4_runs_131 : decode cX4_runs 131 = .ok (.goto 4, 3) := by decide +kernel
theorem dX4_runs_134 : decode cX4_runs 134 = .ok (.iconst 0, 1) := by decide +kernel
theorem dX4_runs_135 : decode cX4_runs 135 = .ok (.istore_n 3, 1) := by decide +kernel
theorem dX4_runs_136 : decode cX4_runs 136 = .ok (.goto (-117), 3) := by decide +kernel
theorem dX4_runs_139 : decode cX4_runs 139 = .ok (.iload_n 2, 1) := by decide +kernel
theorem dX4_runs_140 : decode cX4_runs 140 = .ok (.ireturn, 1) := by decide +kernel
theorem dX4_perform_0 : decode cX4_perform 0 = .ok (.aload_n 0, 1) := by decide +kernel
theorem dX4_perform_1 : decode cX4_perform 1 = .ok (.iconst 0, 1) := by decide +kernel
theorem dX4_perform_2 : decode cX4_perform 2 = .ok (.invokevirtual 183, 3) := by decide +kernel
theorem dX4_perform_5 : decode cX4_perform 5 = .ok (.istore_n 1, 1) := by decide +kernel
theorem dX4_perform_6 : decode cX4_perform 6 = .ok (.aload_n 0, 1) := by decide +kernel
theorem dX4_perform_7 : decode cX4_perform 7 = .ok (.getfield 149, 3) := by decide +kernel
theorem dX4_perform_10 : decode cX4_perform 10 = .ok (.ifCond .eq 11, 3) := by decide +kernel
theorem dX4_perform_13 : decode cX4_perform 13 = .ok (.bipush (-100), 2) := by decide +kernel
theorem dX4_perform_15 : decode cX4_perform 15 = .ok (.aload_n 0, 1) := by decide +kernel
theorem dX4_perform_16 : decode cX4_perform 16 = .ok (.getfield 153, 3) := by decide +kernel
theorem dX4_perform_19 : decode cX4_perform 19 = .ok (.isub, 1) := by decide +kernel
theorem dX4_perform_20 : decode cX4_perform 20 = .ok (.ireturn, 1) := by decide +kernel
theorem dX4_perform_21 : decode cX4_perform 21 = .ok (.aload_n 0, 1) := by decide +kernel
theorem dX4_perform_22 : decode cX4_perform 22 = .ok (.invokevirtual 121, 3) := by decide +kernel
theorem dX4_perform_25 : decode cX4_perform 25 = .ok (.aload_n 0, 1) := by decide +kernel
theorem dX4_perform_26 : decode cX4_perform 26 = .ok (.iconst 1, 1) := by decide +kernel
theorem dX4_perform_27 : decode cX4_perform 27 = .ok (.invokevirtual 183, 3) := by decide +kernel
theorem dX4_perform_30 : decode cX4_perform 30 = .ok (.istore_n 2, 1) := by decide +kernel
theorem dX4_perform_31 : decode cX4_perform 31 = .ok (.aload_n 0, 1) := by decide +kernel
theorem dX4_perform_32 : decode cX4_perform 32 = .ok (.getfield 174, 3) := by decide +kernel
theorem dX4_perform_35 : decode cX4_perform 35 = .ok (.ifCond .ge 45, 3) := by decide +kernel
theorem dX4_perform_38 : decode cX4_perform 38 = .ok (.aload_n 0, 1) := by decide +kernel
theorem dX4_perform_39 : decode cX4_perform 39 = .ok (.iload_n 2, 1) := by decide +kernel
theorem dX4_perform_40 : decode cX4_perform 40 = .ok (.putfield 28, 3) := by decide +kernel
theorem dX4_perform_43 : decode cX4_perform 43 = .ok (.aload_n 0, 1) := by decide +kernel
theorem dX4_perform_44 : decode cX4_perform 44 = .ok (.aload_n 0, 1) := by decide +kernel
theorem dX4_perform_45 : decode cX4_perform 45 = .ok (.getfield 174, 3) := by decide +kernel
theorem dX4_perform_48 : decode cX4_perform 48 = .ok (.putfield 32, 3) := by decide +kernel
theorem dX4_perform_51 : decode cX4_perform 51 = .ok (.iconst 0, 1) := by decide +kernel
theorem dX4_perform_52 : decode cX4_perform 52 = .ok (.istore_n 3, 1) := by decide +kernel
theorem dX4_perform_53 : decode cX4_perform 53 = .ok (.iload_n 3, 1) := by decide +kernel
theorem dX4_perform_54 : decode cX4_perform 54 = .ok (.bipush 119, 2) := by decide +kernel
theorem dX4_perform_56 : decode cX4_perform 56 = .ok (.if_icmp .ge 21, 3) := by decide +kernel
theorem dX4_perform_59 : decode cX4_perform 59 = .ok (.aload_n 0, 1) := by decide +kernel
theorem dX4_perform_60 : decode cX4_perform 60 = .ok (.getfield 7, 3) := by decide +kernel
theorem dX4_perform_63 : decode cX4_perform 63 = .ok (.iload_n 3, 1) := by decide +kernel
theorem dX4_perform_64 : decode cX4_perform 64 = .ok (.aload_n 0, 1) := by decide +kernel
theorem dX4_perform_65 : decode cX4_perform 65 = .ok (.getfield 16, 3) := by decide +kernel
theorem dX4_perform_68 : decode cX4_perform 68 = .ok (.iload_n 3, 1) := by decide +kernel
theorem dX4_perform_69 : decode cX4_perform 69 = .ok (.iaload, 1) := by decide +kernel
theorem dX4_perform_70 : decode cX4_perform 70 = .ok (.iastore, 1) := by decide +kernel
theorem dX4_perform_71 : decode cX4_perform 71 = .ok (.iinc 3 1, 3) := by decide +kernel
theorem dX4_perform_74 : decode cX4_perform 74 = .ok (.goto (-21), 3) := by decide +kernel
theorem dX4_perform_77 : decode cX4_perform 77 = .ok (.bipush (-4), 2) := by decide +kernel
theorem dX4_perform_79 : decode cX4_perform 79 = .ok (.ireturn, 1) := by decide +kernel
theorem dX4_perform_80 : decode cX4_perform 80 = .ok (.aload_n 0, 1) := by decide +kernel
theorem dX4_perform_81 : decode cX4_perform 81 = .ok (.invokevirtual 114, 3) := by decide +kernel
theorem dX4_perform_84 : decode cX4_perform 84 = .ok (.iload_n 2, 1) := by decide +kernel
theorem dX4_perform_85 : decode cX4_perform 85 = .ok (.ireturn, 1) := by decide +kernel
theorem dX4_stopped_0 : decode cX4_stopped 0 = .ok (.iload_n 1, 1) := by decide +kernel
theorem dX4_stopped_1 : decode cX4_stopped 1 = .ok (.ifCond .ne 10, 3) := by decide +kernel
theorem dX4_stopped_4 : decode cX4_stopped 4 = .ok (.aload_n 0, 1) := by decide +kernel
theorem dX4_stopped_5 : decode cX4_stopped 5 = .ok (.getfield 28, 3) := by decide +kernel
theorem dX4_stopped_8 : decode cX4_stopped 8 = .ok (.goto 17, 3) := by decide +kernel
theorem dX4_stopped_11 : decode cX4_stopped 11 = .ok (.iload_n 1, 1) := by decide +kernel
theorem dX4_stopped_12 : decode cX4_stopped 12 = .ok (.iconst 1, 1) := by decide +kernel
theorem dX4_stopped_13 : decode cX4_stopped 13 = .ok (.if_icmp .ne 10, 3) := by decide +kernel
theorem dX4_stopped_16 : decode cX4_stopped 16 = .ok (.aload_n 0, 1) := by decide +kernel
theorem dX4_stopped_17 : decode cX4_stopped 17 = .ok (.getfield 32, 3) := by decide +kernel
theorem dX4_stopped_20 : decode cX4_stopped 20 = .ok (.goto 5, 3) := by decide +kernel
theorem dX4_stopped_23 : decode cX4_stopped 23 = .ok (.bipush (-2), 2) := by decide +kernel
theorem dX4_stopped_25 : decode cX4_stopped 25 = .ok (.ireturn, 1) := by decide +kernel
theorem dX4_undo_0 : decode cX4_undo 0 = .ok (.aload_n 0, 1) := by decide +kernel
theorem dX4_undo_1 : decode cX4_undo 1 = .ok (.getfield 49, 3) := by decide +kernel
theorem dX4_undo_4 : decode cX4_undo 4 = .ok (.ifCond .ne 6, 3) := by decide +kernel
theorem dX4_undo_7 : decode cX4_undo 7 = .ok (.bipush (-5), 2) := by decide +kernel
theorem dX4_undo_9 : decode cX4_undo 9 = .ok (.ireturn, 1) := by decide +kernel
theorem dX4_undo_10 : decode cX4_undo 10 = .ok (.aload_n 0, 1) := by decide +kernel
theorem dX4_undo_11 : decode cX4_undo 11 = .ok (.dup, 1) := by decide +kernel
theorem dX4_undo_12 : decode cX4_undo 12 = .ok (.getfield 49, 3) := by decide +kernel
theorem dX4_undo_15 : decode cX4_undo 15 = .ok (.iconst 1, 1) := by decide +kernel
theorem dX4_undo_16 : decode cX4_undo 16 = .ok (.isub, 1) := by decide +kernel
theorem dX4_undo_17 : decode cX4_undo 17 = .ok (.putfield 49, 3) := by decide +kernel
theorem dX4_undo_20 : decode cX4_undo 20 = .ok (.iconst 0, 1) := by decide +kernel
theorem dX4_undo_21 : decode cX4_undo 21 = .ok (.istore_n 1, 1) := by decide +kernel
theorem dX4_undo_22 : decode cX4_undo 22 = .ok (.iload_n 1, 1) := by decide +kernel
theorem dX4_undo_23 : decode cX4_undo 23 = .ok (.bipush 119, 2) := by decide +kernel
theorem dX4_undo_25 : decode cX4_undo 25 = .ok (.if_icmp .ge 29, 3) := by decide +kernel
theorem dX4_undo_28 : decode cX4_undo 28 = .ok (.aload_n 0, 1) := by decide +kernel
theorem dX4_undo_29 : decode cX4_undo 29 = .ok (.getfield 7, 3) := by decide +kernel
theorem dX4_undo_32 : decode cX4_undo 32 = .ok (.iload_n 1, 1) := by decide +kernel
theorem dX4_undo_33 : decode cX4_undo 33 = .ok (.aload_n 0, 1) := by decide +kernel
theorem dX4_undo_34 : decode cX4_undo 34 = .ok (.getfield 22, 3) := by decide +kernel
theorem dX4_undo_37 : decode cX4_undo 37 = .ok (.bipush 119, 2) := by decide +kernel
theorem dX4_undo_39 : decode cX4_undo 39 = .ok (.aload_n 0, 1) := by decide +kernel
theorem dX4_undo_40 : decode cX4_undo 40 = .ok (.getfield 49, 3) := by decide +kernel
theorem dX4_undo_43 : decode cX4_undo 43 = .ok (.imul, 1) := by decide +kernel
theorem dX4_undo_44 : decode cX4_undo 44 = .ok (.iload_n 1, 1) := by decide +kernel
theorem dX4_undo_45 : decode cX4_undo 45 = .ok (.iadd, 1) := by decide +kernel
theorem dX4_undo_46 : decode cX4_undo 46 = .ok (.iaload, 1) := by decide +kernel
theorem dX4_undo_47 : decode cX4_undo 47 = .ok (.iastore, 1) := by decide +kernel
theorem dX4_undo_48 : decode cX4_undo 48 = .ok (.iinc 1 1, 3) := by decide +kernel
theorem dX4_undo_51 : decode cX4_undo 51 = .ok (.goto (-29), 3) := by decide +kernel
theorem dX4_undo_54 : decode cX4_undo 54 = .ok (.aload_n 0, 1) := by decide +kernel
theorem dX4_undo_55 : decode cX4_undo 55 = .ok (.getfield 49, 3) := by decide +kernel
theorem dX4_undo_58 : decode cX4_undo 58 = .ok (.ireturn, 1) := by decide +kernel
theorem dX4_keep_0 : decode cX4_keep 0 = .ok (.iconst 0, 1) := by decide +kernel
theorem dX4_keep_1 : decode cX4_keep 1 = .ok (.istore_n 1, 1) := by decide +kernel
theorem dX4_keep_2 : decode cX4_keep 2 = .ok (.iload_n 1, 1) := by decide +kernel
theorem dX4_keep_3 : decode cX4_keep 3 = .ok (.bipush 119, 2) := by decide +kernel
theorem dX4_keep_5 : decode cX4_keep 5 = .ok (.if_icmp .ge 21, 3) := by decide +kernel
theorem dX4_keep_8 : decode cX4_keep 8 = .ok (.aload_n 0, 1) := by decide +kernel
theorem dX4_keep_9 : decode cX4_keep 9 = .ok (.getfield 19, 3) := by decide +kernel
theorem dX4_keep_12 : decode cX4_keep 12 = .ok (.iload_n 1, 1) := by decide +kernel
theorem dX4_keep_13 : decode cX4_keep 13 = .ok (.aload_n 0, 1) := by decide +kernel
theorem dX4_keep_14 : decode cX4_keep 14 = .ok (.getfield 7, 3) := by decide +kernel
theorem dX4_keep_17 : decode cX4_keep 17 = .ok (.iload_n 1, 1) := by decide +kernel
theorem dX4_keep_18 : decode cX4_keep 18 = .ok (.iaload, 1) := by decide +kernel
theorem dX4_keep_19 : decode cX4_keep 19 = .ok (.iastore, 1) := by decide +kernel
theorem dX4_keep_20 : decode cX4_keep 20 = .ok (.iinc 1 1, 3) := by decide +kernel
theorem dX4_keep_23 : decode cX4_keep 23 = .ok (.goto (-21), 3) := by decide +kernel
theorem dX4_keep_26 : decode cX4_keep 26 = .ok (.aload_n 0, 1) := by decide +kernel
theorem dX4_keep_27 : decode cX4_keep 27 = .ok (.iconst 1, 1) := by decide +kernel
theorem dX4_keep_28 : decode cX4_keep 28 = .ok (.putfield 187, 3) := by decide +kernel
theorem dX4_keep_31 : decode cX4_keep 31 = .ok (.aload_n 0, 1) := by decide +kernel
theorem dX4_keep_32 : decode cX4_keep 32 = .ok (.getfield 7, 3) := by decide +kernel
theorem dX4_keep_35 : decode cX4_keep 35 = .ok (.iconst 0, 1) := by decide +kernel
theorem dX4_keep_36 : decode cX4_keep 36 = .ok (.iaload, 1) := by decide +kernel
theorem dX4_keep_37 : decode cX4_keep 37 = .ok (.ireturn, 1) := by decide +kernel
theorem dX4_restore_0 : decode cX4_restore 0 = .ok (.aload_n 0, 1) := by decide +kernel
theorem dX4_restore_1 : decode cX4_restore 1 = .ok (.getfield 187, 3) := by decide +kernel
theorem dX4_restore_4 : decode cX4_restore 4 = .ok (.ifCond .ne 6, 3) := by decide +kernel
theorem dX4_restore_7 : decode cX4_restore 7 = .ok (.bipush (-5), 2) := by decide +kernel
theorem dX4_restore_9 : decode cX4_restore 9 = .ok (.ireturn, 1) := by decide +kernel
theorem dX4_restore_10 : decode cX4_restore 10 = .ok (.aload_n 0, 1) := by decide +kernel
theorem dX4_restore_11 : decode cX4_restore 11 = .ok (.invokevirtual 121, 3) := by decide +kernel
theorem dX4_restore_14 : decode cX4_restore 14 = .ok (.aload_n 0, 1) := by decide +kernel
theorem dX4_restore_15 : decode cX4_restore 15 = .ok (.invokevirtual 114, 3) := by decide +kernel
theorem dX4_restore_18 : decode cX4_restore 18 = .ok (.iconst 0, 1) := by decide +kernel
theorem dX4_restore_19 : decode cX4_restore 19 = .ok (.istore_n 1, 1) := by decide +kernel
theorem dX4_restore_20 : decode cX4_restore 20 = .ok (.iload_n 1, 1) := by decide +kernel
theorem dX4_restore_21 : decode cX4_restore 21 = .ok (.bipush 119, 2) := by decide +kernel
theorem dX4_restore_23 : decode cX4_restore 23 = .ok (.if_icmp .ge 21, 3) := by decide +kernel
theorem dX4_restore_26 : decode cX4_restore 26 = .ok (.aload_n 0, 1) := by decide +kernel
theorem dX4_restore_27 : decode cX4_restore 27 = .ok (.getfield 7, 3) := by decide +kernel
theorem dX4_restore_30 : decode cX4_restore 30 = .ok (.iload_n 1, 1) := by decide +kernel
theorem dX4_restore_31 : decode cX4_restore 31 = .ok (.aload_n 0, 1) := by decide +kernel
theorem dX4_restore_32 : decode cX4_restore 32 = .ok (.getfield 19, 3) := by decide +kernel
theorem dX4_restore_35 : decode cX4_restore 35 = .ok (.iload_n 1, 1) := by decide +kernel
theorem dX4_restore_36 : decode cX4_restore 36 = .ok (.iaload, 1) := by decide +kernel
theorem dX4_restore_37 : decode cX4_restore 37 = .ok (.iastore, 1) := by decide +kernel
theorem dX4_restore_38 : decode cX4_restore 38 = .ok (.iinc 1 1, 3) := by decide +kernel
theorem dX4_restore_41 : decode cX4_restore 41 = .ok (.goto (-21), 3) := by decide +kernel
theorem dX4_restore_44 : decode cX4_restore 44 = .ok (.aload_n 0, 1) := by decide +kernel
theorem dX4_restore_45 : decode cX4_restore 45 = .ok (.getfield 7, 3) := by decide +kernel
theorem dX4_restore_48 : decode cX4_restore 48 = .ok (.iconst 0, 1) := by decide +kernel
theorem dX4_restore_49 : decode cX4_restore 49 = .ok (.iaload, 1) := by decide +kernel
theorem dX4_restore_50 : decode cX4_restore 50 = .ok (.ireturn, 1) := by decide +kernel
theorem dX4_shape_0 : decode cX4_shape 0 = .ok (.aload_n 0, 1) := by decide +kernel
theorem dX4_shape_1 : decode cX4_shape 1 = .ok (.iload_n 1, 1) := by decide +kernel
theorem dX4_shape_2 : decode cX4_shape 2 = .ok (.invokevirtual 97, 3) := by decide +kernel
theorem dX4_shape_5 : decode cX4_shape 5 = .ok (.ifCond .ne 5, 3) := by decide +kernel
theorem dX4_shape_8 : decode cX4_shape 8 = .ok (.iconst (-1), 1) := by decide +kernel
theorem dX4_shape_9 : decode cX4_shape 9 = .ok (.ireturn, 1) := by decide +kernel
theorem dX4_shape_10 : decode cX4_shape 10 = .ok (.iload_n 2, 1) := by decide +kernel
theorem dX4_shape_11 : decode cX4_shape 11 = .ok (.tableswitch 67 6 10 #[33, 39, 45, 51, 59], 33) := by decide +kernel
theorem dX4_shape_44 : decode cX4_shape 44 = .ok (.aload_n 0, 1) := by decide +kernel
theorem dX4_shape_45 : decode cX4_shape 45 = .ok (.iload_n 1, 1) := by decide +kernel
theorem dX4_shape_46 : decode cX4_shape 46 = .ok (.invokevirtual 190, 3) := by decide +kernel
theorem dX4_shape_49 : decode cX4_shape 49 = .ok (.ireturn, 1) := by decide +kernel
theorem dX4_shape_50 : decode cX4_shape 50 = .ok (.aload_n 0, 1) := by decide +kernel
theorem dX4_shape_51 : decode cX4_shape 51 = .ok (.iload_n 1, 1) := by decide +kernel
theorem dX4_shape_52 : decode cX4_shape 52 = .ok (.invokevirtual 193, 3) := by decide +kernel
theorem dX4_shape_55 : decode cX4_shape 55 = .ok (.ireturn, 1) := by decide +kernel
theorem dX4_shape_56 : decode cX4_shape 56 = .ok (.aload_n 0, 1) := by decide +kernel
theorem dX4_shape_57 : decode cX4_shape 57 = .ok (.iload_n 1, 1) := by decide +kernel
theorem dX4_shape_58 : decode cX4_shape 58 = .ok (.invokevirtual 79, 3) := by decide +kernel
theorem dX4_shape_61 : decode cX4_shape 61 = .ok (.ireturn, 1) := by decide +kernel
theorem dX4_shape_62 : decode cX4_shape 62 = .ok (.aload_n 0, 1) := by decide +kernel
theorem dX4_shape_63 : decode cX4_shape 63 = .ok (.iload_n 1, 1) := by decide +kernel
theorem dX4_shape_64 : decode cX4_shape 64 = .ok (.bipush 6, 2) := by decide +kernel
theorem dX4_shape_66 : decode cX4_shape 66 = .ok (.invokevirtual 46, 3) := by decide +kernel
theorem dX4_shape_69 : decode cX4_shape 69 = .ok (.ireturn, 1) := by decide +kernel
theorem dX4_shape_70 : decode cX4_shape 70 = .ok (.aload_n 0, 1) := by decide +kernel
theorem dX4_shape_71 : decode cX4_shape 71 = .ok (.iload_n 1, 1) := by decide +kernel
theorem dX4_shape_72 : decode cX4_shape 72 = .ok (.bipush 7, 2) := by decide +kernel
theorem dX4_shape_74 : decode cX4_shape 74 = .ok (.invokevirtual 46, 3) := by decide +kernel
theorem dX4_shape_77 : decode cX4_shape 77 = .ok (.ireturn, 1) := by decide +kernel
theorem dX4_shape_78 : decode cX4_shape 78 = .ok (.iload_n 2, 1) := by decide +kernel
theorem dX4_shape_79 : decode cX4_shape 79 = .ok (.iconst 0, 1) := by decide +kernel
theorem dX4_shape_80 : decode cX4_shape 80 = .ok (.iconst 5, 1) := by decide +kernel
theorem dX4_shape_81 : decode cX4_shape 81 = .ok (.invokestatic 38, 3) := by decide +kernel
theorem dX4_shape_84 : decode cX4_shape 84 = .ok (.ifCond .eq 12, 3) := by decide +kernel
theorem dX4_shape_87 : decode cX4_shape 87 = .ok (.aload_n 0, 1) := by decide +kernel
theorem dX4_shape_88 : decode cX4_shape 88 = .ok (.iload_n 1, 1) := by decide +kernel
theorem dX4_shape_89 : decode cX4_shape 89 = .ok (.iload_n 2, 1) := by decide +kernel
theorem dX4_shape_90 : decode cX4_shape 90 = .ok (.invokevirtual 46, 3) := by decide +kernel
theorem dX4_shape_93 : decode cX4_shape 93 = .ok (.goto 5, 3) := by decide +kernel
theorem dX4_shape_96 : decode cX4_shape 96 = .ok (.bipush (-2), 2) := by decide +kernel
theorem dX4_shape_98 : decode cX4_shape 98 = .ok (.ireturn, 1) := by decide +kernel
theorem dX4_heat_0 : decode cX4_heat 0 = .ok (.iload_n 1, 1) := by decide +kernel
theorem dX4_heat_1 : decode cX4_heat 1 = .ok (.iconst 0, 1) := by decide +kernel
theorem dX4_heat_2 : decode cX4_heat 2 = .ok (.bipush 11, 2) := by decide +kernel
theorem dX4_heat_4 : decode cX4_heat 4 = .ok (.invokestatic 38, 3) := by decide +kernel
theorem dX4_heat_7 : decode cX4_heat 7 = .ok (.ifCond .eq 15, 3) := by decide +kernel
theorem dX4_heat_10 : decode cX4_heat 10 = .ok (.aload_n 0, 1) := by decide +kernel
theorem dX4_heat_11 : decode cX4_heat 11 = .ok (.getfield 7, 3) := by decide +kernel
theorem dX4_heat_14 : decode cX4_heat 14 = .ok (.bipush 11, 2) := by decide +kernel
theorem dX4_heat_16 : decode cX4_heat 16 = .ok (.iload_n 1, 1) := by decide +kernel
theorem dX4_heat_17 : decode cX4_heat 17 = .ok (.iadd, 1) := by decide +kernel
theorem dX4_heat_18 : decode cX4_heat 18 = .ok (.iaload, 1) := by decide +kernel
theorem dX4_heat_19 : decode cX4_heat 19 = .ok (.goto 4, 3) := by decide +kernel
theorem dX4_heat_22 : decode cX4_heat 22 = .ok (.iconst (-1), 1) := by decide +kernel
theorem dX4_heat_23 : decode cX4_heat 23 = .ok (.ireturn, 1) := by decide +kernel
theorem dX4_reason_0 : decode cX4_reason 0 = .ok (.aload_n 0, 1) := by decide +kernel
theorem dX4_reason_1 : decode cX4_reason 1 = .ok (.iload_n 1, 1) := by decide +kernel
theorem dX4_reason_2 : decode cX4_reason 2 = .ok (.invokevirtual 97, 3) := by decide +kernel
theorem dX4_reason_5 : decode cX4_reason 5 = .ok (.ifCond .eq 11, 3) := by decide +kernel
theorem dX4_reason_8 : decode cX4_reason 8 = .ok (.aload_n 0, 1) := by decide +kernel
theorem dX4_reason_9 : decode cX4_reason 9 = .ok (.iload_n 1, 1) := by decide +kernel
theorem dX4_reason_10 : decode cX4_reason 10 = .ok (.invokevirtual 100, 3) := by decide +kernel
theorem dX4_reason_13 : decode cX4_reason 13 = .ok (.goto 4, 3) := by decide +kernel
theorem dX4_reason_16 : decode cX4_reason 16 = .ok (.iconst (-1), 1) := by decide +kernel
theorem dX4_reason_17 : decode cX4_reason 17 = .ok (.ireturn, 1) := by decide +kernel
theorem dX4_ticksOf_0 : decode cX4_ticksOf 0 = .ok (.aload_n 0, 1) := by decide +kernel
theorem dX4_ticksOf_1 : decode cX4_ticksOf 1 = .ok (.iload_n 1, 1) := by decide +kernel
theorem dX4_ticksOf_2 : decode cX4_ticksOf 2 = .ok (.invokevirtual 91, 3) := by decide +kernel
theorem dX4_ticksOf_5 : decode cX4_ticksOf 5 = .ok (.aload_n 0, 1) := by decide +kernel
theorem dX4_ticksOf_6 : decode cX4_ticksOf 6 = .ok (.iload_n 1, 1) := by decide +kernel
theorem dX4_ticksOf_7 : decode cX4_ticksOf 7 = .ok (.invokevirtual 107, 3) := by decide +kernel
theorem dX4_ticksOf_10 : decode cX4_ticksOf 10 = .ok (.iadd, 1) := by decide +kernel
theorem dX4_ticksOf_11 : decode cX4_ticksOf 11 = .ok (.ireturn, 1) := by decide +kernel
theorem dX4_takes_0 : decode cX4_takes 0 = .ok (.aload_n 0, 1) := by decide +kernel
theorem dX4_takes_1 : decode cX4_takes 1 = .ok (.iload_n 1, 1) := by decide +kernel
theorem dX4_takes_2 : decode cX4_takes 2 = .ok (.invokevirtual 97, 3) := by decide +kernel
theorem dX4_takes_5 : decode cX4_takes 5 = .ok (.ifCond .ne 7, 3) := by decide +kernel
theorem dX4_takes_8 : decode cX4_takes 8 = .ok (.iconst (-1), 1) := by decide +kernel
theorem dX4_takes_9 : decode cX4_takes 9 = .ok (.goto 21, 3) := by decide +kernel
theorem dX4_takes_12 : decode cX4_takes 12 = .ok (.aload_n 0, 1) := by decide +kernel
theorem dX4_takes_13 : decode cX4_takes 13 = .ok (.iload_n 1, 1) := by decide +kernel
theorem dX4_takes_14 : decode cX4_takes 14 = .ok (.invokevirtual 66, 3) := by decide +kernel
theorem dX4_takes_17 : decode cX4_takes 17 = .ok (.ifCond .eq 11, 3) := by decide +kernel
theorem dX4_takes_20 : decode cX4_takes 20 = .ok (.aload_n 0, 1) := by decide +kernel
theorem dX4_takes_21 : decode cX4_takes 21 = .ok (.iload_n 1, 1) := by decide +kernel
theorem dX4_takes_22 : decode cX4_takes 22 = .ok (.invokevirtual 196, 3) := by decide +kernel
theorem dX4_takes_25 : decode cX4_takes 25 = .ok (.goto 5, 3) := by decide +kernel
theorem dX4_takes_28 : decode cX4_takes 28 = .ok (.bipush (-4), 2) := by decide +kernel
theorem dX4_takes_30 : decode cX4_takes 30 = .ok (.ireturn, 1) := by decide +kernel
theorem dX4_coolsIn_0 : decode cX4_coolsIn 0 = .ok (.aload_n 0, 1) := by decide +kernel
theorem dX4_coolsIn_1 : decode cX4_coolsIn 1 = .ok (.iload_n 1, 1) := by decide +kernel
theorem dX4_coolsIn_2 : decode cX4_coolsIn 2 = .ok (.invokevirtual 97, 3) := by decide +kernel
theorem dX4_coolsIn_5 : decode cX4_coolsIn 5 = .ok (.ifCond .ne 5, 3) := by decide +kernel
theorem dX4_coolsIn_8 : decode cX4_coolsIn 8 = .ok (.iconst (-1), 1) := by decide +kernel
theorem dX4_coolsIn_9 : decode cX4_coolsIn 9 = .ok (.ireturn, 1) := by decide +kernel
theorem dX4_coolsIn_10 : decode cX4_coolsIn 10 = .ok (.aload_n 0, 1) := by decide +kernel
theorem dX4_coolsIn_11 : decode cX4_coolsIn 11 = .ok (.iload_n 1, 1) := by decide +kernel
theorem dX4_coolsIn_12 : decode cX4_coolsIn 12 = .ok (.invokevirtual 100, 3) := by decide +kernel
theorem dX4_coolsIn_15 : decode cX4_coolsIn 15 = .ok (.iconst 1, 1) := by decide +kernel
theorem dX4_coolsIn_16 : decode cX4_coolsIn 16 = .ok (.iconst 3, 1) := by decide +kernel
theorem dX4_coolsIn_17 : decode cX4_coolsIn 17 = .ok (.invokestatic 38, 3) := by decide +kernel
theorem dX4_coolsIn_20 : decode cX4_coolsIn 20 = .ok (.ifCond .eq 8, 3) := by decide +kernel
theorem dX4_coolsIn_23 : decode cX4_coolsIn 23 = .ok (.bipush (-4), 2) := by decide +kernel
theorem dX4_coolsIn_25 : decode cX4_coolsIn 25 = .ok (.goto 8, 3) := by decide +kernel
theorem dX4_coolsIn_28 : decode cX4_coolsIn 28 = .ok (.aload_n 0, 1) := by decide +kernel
theorem dX4_coolsIn_29 : decode cX4_coolsIn 29 = .ok (.iload_n 1, 1) := by decide +kernel
theorem dX4_coolsIn_30 : decode cX4_coolsIn 30 = .ok (.invokevirtual 199, 3) := by decide +kernel
theorem dX4_coolsIn_33 : decode cX4_coolsIn 33 = .ok (.ireturn, 1) := by decide +kernel
theorem dX4_bestOne_0 : decode cX4_bestOne 0 = .ok (.bipush (-5), 2) := by decide +kernel
theorem dX4_bestOne_2 : decode cX4_bestOne 2 = .ok (.istore_n 1, 1) := by decide +kernel
theorem dX4_bestOne_3 : decode cX4_bestOne 3 = .ok (.aload_n 0, 1) := by decide +kernel
theorem dX4_bestOne_4 : decode cX4_bestOne 4 = .ok (.getfield 7, 3) := by decide +kernel
theorem dX4_bestOne_7 : decode cX4_bestOne 7 = .ok (.iconst 0, 1) := by decide +kernel
theorem dX4_bestOne_8 : decode cX4_bestOne 8 = .ok (.iaload, 1) := by decide +kernel
theorem dX4_bestOne_9 : decode cX4_bestOne 9 = .ok (.iconst 1, 1) := by decide +kernel
theorem dX4_bestOne_10 : decode cX4_bestOne 10 = .ok (.isub, 1) := by decide +kernel
theorem dX4_bestOne_11 : decode cX4_bestOne 11 = .ok (.istore_n 2, 1) := by decide +kernel
theorem dX4_bestOne_12 : decode cX4_bestOne 12 = .ok (.iload_n 2, 1) := by decide +kernel
theorem dX4_bestOne_13 : decode cX4_bestOne 13 = .ok (.ifCond .lt 42, 3) := by decide +kernel
theorem dX4_bestOne_16 : decode cX4_bestOne 16 = .ok (.aload_n 0, 1) := by decide +kernel
theorem dX4_bestOne_17 : decode cX4_bestOne 17 = .ok (.iload_n 2, 1) := by decide +kernel
theorem dX4_bestOne_18 : decode cX4_bestOne 18 = .ok (.invokevirtual 100, 3) := by decide +kernel
theorem dX4_bestOne_21 : decode cX4_bestOne 21 = .ok (.ifCond .ne 26, 3) := by decide +kernel
theorem dX4_bestOne_24 : decode cX4_bestOne 24 = .ok (.iload_n 1, 1) := by decide +kernel
theorem dX4_bestOne_25 : decode cX4_bestOne 25 = .ok (.bipush (-5), 2) := by decide +kernel
theorem dX4_bestOne_27 : decode cX4_bestOne 27 = .ok (.if_icmp .eq 16, 3) := by decide +kernel
theorem dX4_bestOne_30 : decode cX4_bestOne 30 = .ok (.aload_n 0, 1) := by decide +kernel
theorem dX4_bestOne_31 : decode cX4_bestOne 31 = .ok (.iload_n 2, 1) := by decide +kernel
theorem dX4_bestOne_32 : decode cX4_bestOne 32 = .ok (.invokevirtual 196, 3) := by decide +kernel
theorem dX4_bestOne_35 : decode cX4_bestOne 35 = .ok (.aload_n 0, 1) := by decide +kernel
theorem dX4_bestOne_36 : decode cX4_bestOne 36 = .ok (.iload_n 1, 1) := by decide +kernel
theorem dX4_bestOne_37 : decode cX4_bestOne 37 = .ok (.invokevirtual 196, 3) := by decide +kernel
theorem dX4_bestOne_40 : decode cX4_bestOne 40 = .ok (.if_icmp .gt 7, 3) := by decide +kernel
theorem dX4_bestOne_43 : decode cX4_bestOne 43 = .ok (.iload_n 2, 1) := by decide +kernel
theorem dX4_bestOne_44 : decode cX4_bestOne 44 = .ok (.goto 4, 3) := by decide +kernel
theorem dX4_bestOne_47 : decode cX4_bestOne 47 = .ok (.iload_n 1, 1) := by decide +kernel
theorem dX4_bestOne_48 : decode cX4_bestOne 48 = .ok (.istore_n 1, 1) := by decide +kernel
theorem dX4_bestOne_49 : decode cX4_bestOne 49 = .ok (.iinc 2 (-1), 3) := by decide +kernel
theorem dX4_bestOne_52 : decode cX4_bestOne 52 = .ok (.goto (-40), 3) := by decide +kernel
theorem dX4_bestOne_55 : decode cX4_bestOne 55 = .ok (.iload_n 1, 1) := by decide +kernel
theorem dX4_bestOne_56 : decode cX4_bestOne 56 = .ok (.ireturn, 1) := by decide +kernel
theorem dX4_best_0 : decode cX4_best 0 = .ok (.aload_n 0, 1) := by decide +kernel
theorem dX4_best_1 : decode cX4_best 1 = .ok (.invokevirtual 202, 3) := by decide +kernel
theorem dX4_best_4 : decode cX4_best 4 = .ok (.ireturn, 1) := by decide +kernel
theorem dX4_soonest_0 : decode cX4_soonest 0 = .ok (.bipush (-5), 2) := by decide +kernel
theorem dX4_soonest_2 : decode cX4_soonest 2 = .ok (.istore_n 1, 1) := by decide +kernel
theorem dX4_soonest_3 : decode cX4_soonest 3 = .ok (.aload_n 0, 1) := by decide +kernel
theorem dX4_soonest_4 : decode cX4_soonest 4 = .ok (.getfield 7, 3) := by decide +kernel
theorem dX4_soonest_7 : decode cX4_soonest 7 = .ok (.iconst 0, 1) := by decide +kernel
theorem dX4_soonest_8 : decode cX4_soonest 8 = .ok (.iaload, 1) := by decide +kernel
theorem dX4_soonest_9 : decode cX4_soonest 9 = .ok (.iconst 1, 1) := by decide +kernel
theorem dX4_soonest_10 : decode cX4_soonest 10 = .ok (.isub, 1) := by decide +kernel
theorem dX4_soonest_11 : decode cX4_soonest 11 = .ok (.istore_n 2, 1) := by decide +kernel
theorem dX4_soonest_12 : decode cX4_soonest 12 = .ok (.iload_n 2, 1) := by decide +kernel
theorem dX4_soonest_13 : decode cX4_soonest 13 = .ok (.ifCond .lt 63, 3) := by decide +kernel
theorem dX4_soonest_16 : decode cX4_soonest 16 = .ok (.aload_n 0, 1) := by decide +kernel
theorem dX4_soonest_17 : decode cX4_soonest 17 = .ok (.iload_n 2, 1) := by decide +kernel
theorem dX4_soonest_18 : decode cX4_soonest 18 = .ok (.invokevirtual 100, 3) := by decide +kernel
theorem dX4_soonest_21 : decode cX4_soonest 21 = .ok (.iconst 4, 1) := by decide +kernel
theorem dX4_soonest_22 : decode cX4_soonest 22 = .ok (.if_icmp .ne 17, 3) := by decide +kernel
theorem dX4_soonest_25 : decode cX4_soonest 25 = .ok (.aload_n 0, 1) := by decide +kernel
theorem dX4_soonest_26 : decode cX4_soonest 26 = .ok (.iload_n 2, 1) := by decide +kernel
theorem dX4_soonest_27 : decode cX4_soonest 27 = .ok (.invokevirtual 199, 3) := by decide +kernel
theorem dX4_soonest_30 : decode cX4_soonest 30 = .ok (.bipush (-5), 2) := by decide +kernel
theorem dX4_soonest_32 : decode cX4_soonest 32 = .ok (.if_icmp .eq 7, 3) := by decide +kernel
theorem dX4_soonest_35 : decode cX4_soonest 35 = .ok (.iconst 1, 1) := by decide +kernel
theorem dX4_soonest_36 : decode cX4_soonest 36 = .ok (.goto 4, 3) := by decide +kernel
theorem dX4_soonest_39 : decode cX4_soonest 39 = .ok (.iconst 0, 1) := by decide +kernel
theorem dX4_soonest_40 : decode cX4_soonest 40 = .ok (.istore_n 3, 1) := by decide +kernel
theorem dX4_soonest_41 : decode cX4_soonest 41 = .ok (.iload_n 3, 1) := by decide +kernel
theorem dX4_soonest_42 : decode cX4_soonest 42 = .ok (.ifCond .eq 26, 3) := by decide +kernel
theorem dX4_soonest_45 : decode cX4_soonest 45 = .ok (.iload_n 1, 1) := by decide +kernel
theorem dX4_soonest_46 : decode cX4_soonest 46 = .ok (.bipush (-5), 2) := by decide +kernel
theorem dX4_soonest_48 : decode cX4_soonest 48 = .ok (.if_icmp .eq 16, 3) := by decide +kernel
theorem dX4_soonest_51 : decode cX4_soonest 51 = .ok (.aload_n 0, 1) := by decide +kernel
theorem dX4_soonest_52 : decode cX4_soonest 52 = .ok (.iload_n 2, 1) := by decide +kernel
theorem dX4_soonest_53 : decode cX4_soonest 53 = .ok (.invokevirtual 199, 3) := by decide +kernel
theorem dX4_soonest_56 : decode cX4_soonest 56 = .ok (.aload_n 0, 1) := by decide +kernel
theorem dX4_soonest_57 : decode cX4_soonest 57 = .ok (.iload_n 1, 1) := by decide +kernel
theorem dX4_soonest_58 : decode cX4_soonest 58 = .ok (.invokevirtual 199, 3) := by decide +kernel
theorem dX4_soonest_61 : decode cX4_soonest 61 = .ok (.if_icmp .gt 7, 3) := by decide +kernel
theorem dX4_soonest_64 : decode cX4_soonest 64 = .ok (.iload_n 2, 1) := by decide +kernel
theorem dX4_soonest_65 : decode cX4_soonest 65 = .ok (.goto 4, 3) := by decide +kernel
theorem dX4_soonest_68 : decode cX4_soonest 68 = .ok (.iload_n 1, 1) := by decide +kernel
theorem dX4_soonest_69 : decode cX4_soonest 69 = .ok (.istore_n 1, 1) := by decide +kernel
theorem dX4_soonest_70 : decode cX4_soonest 70 = .ok (.iinc 2 (-1), 3) := by decide +kernel
theorem dX4_soonest_73 : decode cX4_soonest 73 = .ok (.goto (-61), 3) := by decide +kernel
theorem dX4_soonest_76 : decode cX4_soonest 76 = .ok (.iload_n 1, 1) := by decide +kernel
theorem dX4_soonest_77 : decode cX4_soonest 77 = .ok (.ireturn, 1) := by decide +kernel
theorem dX4_layOrder_0 : decode cX4_layOrder 0 = .ok (.aload_n 0, 1) := by decide +kernel
theorem dX4_layOrder_1 : decode cX4_layOrder 1 = .ok (.invokevirtual 205, 3) := by decide +kernel
theorem dX4_layOrder_4 : decode cX4_layOrder 4 = .ok (.aload_n 0, 1) := by decide +kernel
theorem dX4_layOrder_5 : decode cX4_layOrder 5 = .ok (.getfield 7, 3) := by decide +kernel
theorem dX4_layOrder_8 : decode cX4_layOrder 8 = .ok (.iconst 4, 1) := by decide +kernel
theorem dX4_layOrder_9 : decode cX4_layOrder 9 = .ok (.iaload, 1) := by decide +kernel
theorem dX4_layOrder_10 : decode cX4_layOrder 10 = .ok (.istore_n 1, 1) := by decide +kernel
theorem dX4_layOrder_11 : decode cX4_layOrder 11 = .ok (.aload_n 0, 1) := by decide +kernel
theorem dX4_layOrder_12 : decode cX4_layOrder 12 = .ok (.iconst 0, 1) := by decide +kernel
theorem dX4_layOrder_13 : decode cX4_layOrder 13 = .ok (.putfield 208, 3) := by decide +kernel
theorem dX4_layOrder_16 : decode cX4_layOrder 16 = .ok (.iconst 1, 1) := by decide +kernel
theorem dX4_layOrder_17 : decode cX4_layOrder 17 = .ok (.istore_n 2, 1) := by decide +kernel
theorem dX4_layOrder_18 : decode cX4_layOrder 18 = .ok (.iload_n 2, 1) := by decide +kernel
theorem dX4_layOrder_19 : decode cX4_layOrder 19 = .ok (.ifCond .eq 92, 3) := by decide +kernel
theorem dX4_layOrder_22 : decode cX4_layOrder 22 = .ok (.aload_n 0, 1) := by decide +kernel
theorem dX4_layOrder_23 : decode cX4_layOrder 23 = .ok (.invokevirtual 202, 3) := by decide +kernel
theorem dX4_layOrder_26 : decode cX4_layOrder 26 = .ok (.istore_n 3, 1) := by decide +kernel
theorem dX4_layOrder_27 : decode cX4_layOrder 27 = .ok (.iload_n 3, 1) := by decide +kernel
theorem dX4_layOrder_28 : decode cX4_layOrder 28 = .ok (.bipush (-5), 2) := by decide +kernel
theorem dX4_layOrder_30 : decode cX4_layOrder 30 = .ok (.if_icmp .ne 35, 3) := by decide +kernel
theorem dX4_layOrder_33 : decode cX4_layOrder 33 = .ok (.aload_n 0, 1) := by decide +kernel
theorem dX4_layOrder_34 : decode cX4_layOrder 34 = .ok (.invokevirtual 211, 3) := by decide +kernel
theorem dX4_layOrder_37 : decode cX4_layOrder 37 = .ok (.istore 4, 2) := by decide +kernel
theorem dX4_layOrder_39 : decode cX4_layOrder 39 = .ok (.aload_n 0, 1) := by decide +kernel
theorem dX4_layOrder_40 : decode cX4_layOrder 40 = .ok (.iload 4, 2) := by decide +kernel
theorem dX4_layOrder_42 : decode cX4_layOrder 42 = .ok (.bipush (-5), 2) := by decide +kernel
theorem dX4_layOrder_44 : decode cX4_layOrder 44 = .ok (.if_icmp .ne 7, 3) := by decide +kernel
theorem dX4_layOrder_47 : decode cX4_layOrder 47 = .ok (.iconst 0, 1) := by decide +kernel
theorem dX4_layOrder_48 : decode cX4_layOrder 48 = .ok (.goto 9, 3) := by decide +kernel
theorem dX4_layOrder_51 : decode cX4_layOrder 51 = .ok (.aload_n 0, 1) := by decide +kernel
theorem dX4_layOrder_52 : decode cX4_layOrder 52 = .ok (.iload 4, 2) := by decide +kernel
theorem dX4_layOrder_54 : decode cX4_layOrder 54 = .ok (.invokevirtual 199, 3) := by decide +kernel
theorem dX4_layOrder_57 : decode cX4_layOrder 57 = .ok (.invokevirtual 103, 3) := by decide +kernel
theorem dX4_layOrder_60 : decode cX4_layOrder 60 = .ok (.aload_n 0, 1) := by decide +kernel
theorem dX4_layOrder_61 : decode cX4_layOrder 61 = .ok (.invokevirtual 202, 3) := by decide +kernel
theorem dX4_layOrder_64 : decode cX4_layOrder 64 = .ok (.istore_n 3, 1) := by decide +kernel
theorem dX4_layOrder_65 : decode cX4_layOrder 65 = .ok (.iload_n 3, 1) := by decide +kernel
theorem dX4_layOrder_66 : decode cX4_layOrder 66 = .ok (.bipush (-5), 2) := by decide +kernel
theorem dX4_layOrder_68 : decode cX4_layOrder 68 = .ok (.if_icmp .eq 7, 3) := by decide +kernel
theorem dX4_layOrder_71 : decode cX4_layOrder 71 = .ok (.iconst 1, 1) := by decide +kernel
theorem dX4_layOrder_72 : decode cX4_layOrder 72 = .ok (.goto 4, 3) := by decide +kernel
theorem dX4_layOrder_75 : decode cX4_layOrder 75 = .ok (.iconst 0, 1) := by decide +kernel
theorem dX4_layOrder_76 : decode cX4_layOrder 76 = .ok (.istore_n 2, 1) := by decide +kernel
theorem dX4_layOrder_77 : decode cX4_layOrder 77 = .ok (.iload_n 2, 1) := by decide +kernel
theorem dX4_layOrder_78 : decode cX4_layOrder 78 = .ok (.ifCond .eq 30, 3) := by decide +kernel
theorem dX4_layOrder_81 : decode cX4_layOrder 81 = .ok (.aload_n 0, 1) := by decide +kernel
theorem dX4_layOrder_82 : decode cX4_layOrder 82 = .ok (.iload_n 3, 1) := by decide +kernel
theorem dX4_layOrder_83 : decode cX4_layOrder 83 = .ok (.invokevirtual 137, 3) := by decide +kernel
theorem dX4_layOrder_86 : decode cX4_layOrder 86 = .ok (.istore 4, 2) := by decide +kernel
theorem dX4_layOrder_88 : decode cX4_layOrder 88 = .ok (.aload_n 0, 1) := by decide +kernel
theorem dX4_layOrder_89 : decode cX4_layOrder 89 = .ok (.getfield 35, 3) := by decide +kernel
theorem dX4_layOrder_92 : decode cX4_layOrder 92 = .ok (.aload_n 0, 1) := by decide +kernel
theorem dX4_layOrder_93 : decode cX4_layOrder 93 = .ok (.getfield 208, 3) := by decide +kernel
theorem dX4_layOrder_96 : decode cX4_layOrder 96 = .ok (.iload_n 3, 1) := by decide +kernel
theorem dX4_layOrder_97 : decode cX4_layOrder 97 = .ok (.iastore, 1) := by decide +kernel
theorem dX4_layOrder_98 : decode cX4_layOrder 98 = .ok (.aload_n 0, 1) := by decide +kernel
theorem dX4_layOrder_99 : decode cX4_layOrder 99 = .ok (.dup, 1) := by decide +kernel
theorem dX4_layOrder_100 : decode cX4_layOrder 100 = .ok (.getfield 208, 3) := by decide +kernel
theorem dX4_layOrder_103 : decode cX4_layOrder 103 = .ok (.iconst 1, 1) := by decide +kernel
theorem dX4_layOrder_104 : decode cX4_layOrder 104 = .ok (.iadd, 1) := by decide +kernel
theorem dX4_layOrder_105 : decode cX4_layOrder 105 = .ok (.putfield 208, 3) := by decide +kernel
theorem dX4_layOrder_108 : decode cX4_layOrder 108 = .ok (.goto (-90), 3) := by decide +kernel
theorem dX4_layOrder_111 : decode cX4_layOrder 111 = .ok (.aload_n 0, 1) := by decide +kernel
theorem dX4_layOrder_112 : decode cX4_layOrder 112 = .ok (.aload_n 0, 1) := by decide +kernel
theorem dX4_layOrder_113 : decode cX4_layOrder 113 = .ok (.getfield 7, 3) := by decide +kernel
theorem dX4_layOrder_116 : decode cX4_layOrder 116 = .ok (.iconst 4, 1) := by decide +kernel
theorem dX4_layOrder_117 : decode cX4_layOrder 117 = .ok (.iaload, 1) := by decide +kernel
theorem dX4_layOrder_118 : decode cX4_layOrder 118 = .ok (.iload_n 1, 1) := by decide +kernel
theorem dX4_layOrder_119 : decode cX4_layOrder 119 = .ok (.isub, 1) := by decide +kernel
theorem dX4_layOrder_120 : decode cX4_layOrder 120 = .ok (.putfield 214, 3) := by decide +kernel
theorem dX4_layOrder_123 : decode cX4_layOrder 123 = .ok (.aload_n 0, 1) := by decide +kernel
theorem dX4_layOrder_124 : decode cX4_layOrder 124 = .ok (.aload_n 0, 1) := by decide +kernel
theorem dX4_layOrder_125 : decode cX4_layOrder 125 = .ok (.iconst 0, 1) := by decide +kernel
theorem dX4_layOrder_126 : decode cX4_layOrder 126 = .ok (.invokevirtual 217, 3) := by decide +kernel
theorem dX4_layOrder_129 : decode cX4_layOrder 129 = .ok (.ifCond .ne 7, 3) := by decide +kernel
theorem dX4_layOrder_132 : decode cX4_layOrder 132 = .ok (.iconst 1, 1) := by decide +kernel
theorem dX4_layOrder_133 : decode cX4_layOrder 133 = .ok (.goto 4, 3) := by decide +kernel
theorem dX4_layOrder_136 : decode cX4_layOrder 136 = .ok (.iconst 0, 1) := by decide +kernel
theorem dX4_layOrder_137 : decode cX4_layOrder 137 = .ok (.putfield 220, 3) := by decide +kernel
theorem dX4_layOrder_140 : decode cX4_layOrder 140 = .ok (.aload_n 0, 1) := by decide +kernel
theorem dX4_layOrder_141 : decode cX4_layOrder 141 = .ok (.invokevirtual 223, 3) := by decide +kernel
theorem dX4_layOrder_144 : decode cX4_layOrder 144 = .ok (.return_, 1) := by decide +kernel
theorem dX4_ordered_0 : decode cX4_ordered 0 = .ok (.iload_n 1, 1) := by decide +kernel
theorem dX4_ordered_1 : decode cX4_ordered 1 = .ok (.ifCond .ge 6, 3) := by decide +kernel
theorem dX4_ordered_4 : decode cX4_ordered 4 = .ok (.bipush (-2), 2) := by decide +kernel
theorem dX4_ordered_6 : decode cX4_ordered 6 = .ok (.ireturn, 1) := by decide +kernel
theorem dX4_ordered_7 : decode cX4_ordered 7 = .ok (.aload_n 0, 1) := by decide +kernel
theorem dX4_ordered_8 : decode cX4_ordered 8 = .ok (.invokevirtual 226, 3) := by decide +kernel
theorem dX4_ordered_11 : decode cX4_ordered 11 = .ok (.iload_n 1, 1) := by decide +kernel
theorem dX4_ordered_12 : decode cX4_ordered 12 = .ok (.aload_n 0, 1) := by decide +kernel
theorem dX4_ordered_13 : decode cX4_ordered 13 = .ok (.getfield 208, 3) := by decide +kernel
theorem dX4_ordered_16 : decode cX4_ordered 16 = .ok (.if_icmp .ge 12, 3) := by decide +kernel
theorem dX4_ordered_19 : decode cX4_ordered 19 = .ok (.aload_n 0, 1) := by decide +kernel
theorem dX4_ordered_20 : decode cX4_ordered 20 = .ok (.getfield 35, 3) := by decide +kernel
theorem dX4_ordered_23 : decode cX4_ordered 23 = .ok (.iload_n 1, 1) := by decide +kernel
theorem dX4_ordered_24 : decode cX4_ordered 24 = .ok (.iaload, 1) := by decide +kernel
theorem dX4_ordered_25 : decode cX4_ordered 25 = .ok (.goto 5, 3) := by decide +kernel
theorem dX4_ordered_28 : decode cX4_ordered 28 = .ok (.bipush (-5), 2) := by decide +kernel
theorem dX4_ordered_30 : decode cX4_ordered 30 = .ok (.ireturn, 1) := by decide +kernel
theorem dX4_allTakes_0 : decode cX4_allTakes 0 = .ok (.aload_n 0, 1) := by decide +kernel
theorem dX4_allTakes_1 : decode cX4_allTakes 1 = .ok (.invokevirtual 226, 3) := by decide +kernel
theorem dX4_allTakes_4 : decode cX4_allTakes 4 = .ok (.aload_n 0, 1) := by decide +kernel
theorem dX4_allTakes_5 : decode cX4_allTakes 5 = .ok (.getfield 220, 3) := by decide +kernel
theorem dX4_allTakes_8 : decode cX4_allTakes 8 = .ok (.ifCond .eq 10, 3) := by decide +kernel
theorem dX4_allTakes_11 : decode cX4_allTakes 11 = .ok (.aload_n 0, 1) := by decide +kernel
theorem dX4_allTakes_12 : decode cX4_allTakes 12 = .ok (.getfield 214, 3) := by decide +kernel
theorem dX4_allTakes_15 : decode cX4_allTakes 15 = .ok (.goto 5, 3) := by decide +kernel
theorem dX4_allTakes_18 : decode cX4_allTakes 18 = .ok (.bipush (-5), 2) := by decide +kernel
theorem dX4_allTakes_20 : decode cX4_allTakes 20 = .ok (.ireturn, 1) := by decide +kernel
theorem dX4_many_0 : decode cX4_many 0 = .ok (.iconst 0, 1) := by decide +kernel
theorem dX4_many_1 : decode cX4_many 1 = .ok (.istore_n 2, 1) := by decide +kernel
theorem dX4_many_2 : decode cX4_many 2 = .ok (.iconst 0, 1) := by decide +kernel
theorem dX4_many_3 : decode cX4_many 3 = .ok (.istore_n 3, 1) := by decide +kernel
theorem dX4_many_4 : decode cX4_many 4 = .ok (.iload_n 3, 1) := by decide +kernel
theorem dX4_many_5 : decode cX4_many 5 = .ok (.aload_n 0, 1) := by decide +kernel
theorem dX4_many_6 : decode cX4_many 6 = .ok (.getfield 7, 3) := by decide +kernel
theorem dX4_many_9 : decode cX4_many 9 = .ok (.iconst 0, 1) := by decide +kernel
theorem dX4_many_10 : decode cX4_many 10 = .ok (.iaload, 1) := by decide +kernel
theorem dX4_many_11 : decode cX4_many 11 = .ok (.if_icmp .ge 27, 3) := by decide +kernel
theorem dX4_many_14 : decode cX4_many 14 = .ok (.iload_n 2, 1) := by decide +kernel
theorem dX4_many_15 : decode cX4_many 15 = .ok (.aload_n 0, 1) := by decide +kernel
theorem dX4_many_16 : decode cX4_many 16 = .ok (.iload_n 3, 1) := by decide +kernel
theorem dX4_many_17 : decode cX4_many 17 = .ok (.iconst 5, 1) := by decide +kernel
theorem dX4_many_18 : decode cX4_many 18 = .ok (.invokevirtual 46, 3) := by decide +kernel
theorem dX4_many_21 : decode cX4_many 21 = .ok (.iload_n 1, 1) := by decide +kernel
theorem dX4_many_22 : decode cX4_many 22 = .ok (.if_icmp .ne 7, 3) := by decide +kernel
theorem dX4_many_25 : decode cX4_many 25 = .ok (.iconst 1, 1) := by decide +kernel
theorem dX4_many_26 : decode cX4_many 26 = .ok (.goto 4, 3) := by decide +kernel
theorem dX4_many_29 : decode cX4_many 29 = .ok (.iconst 0, 1) := by decide +kernel
theorem dX4_many_30 : decode cX4_many 30 = .ok (.iadd, 1) := by decide +kernel
theorem dX4_many_31 : decode cX4_many 31 = .ok (.istore_n 2, 1) := by decide +kernel
theorem dX4_many_32 : decode cX4_many 32 = .ok (.iinc 3 1, 3) := by decide +kernel
theorem dX4_many_35 : decode cX4_many 35 = .ok (.goto (-31), 3) := by decide +kernel
theorem dX4_many_38 : decode cX4_many 38 = .ok (.iload_n 2, 1) := by decide +kernel
theorem dX4_many_39 : decode cX4_many 39 = .ok (.ireturn, 1) := by decide +kernel
theorem dX4_tilted_0 : decode cX4_tilted 0 = .ok (.iconst 0, 1) := by decide +kernel
theorem dX4_tilted_1 : decode cX4_tilted 1 = .ok (.istore_n 1, 1) := by decide +kernel
theorem dX4_tilted_2 : decode cX4_tilted 2 = .ok (.iconst 0, 1) := by decide +kernel
theorem dX4_tilted_3 : decode cX4_tilted 3 = .ok (.istore_n 2, 1) := by decide +kernel
theorem dX4_tilted_4 : decode cX4_tilted 4 = .ok (.iload_n 2, 1) := by decide +kernel
theorem dX4_tilted_5 : decode cX4_tilted 5 = .ok (.aload_n 0, 1) := by decide +kernel
theorem dX4_tilted_6 : decode cX4_tilted 6 = .ok (.getfield 7, 3) := by decide +kernel
theorem dX4_tilted_9 : decode cX4_tilted 9 = .ok (.iconst 0, 1) := by decide +kernel
theorem dX4_tilted_10 : decode cX4_tilted 10 = .ok (.iaload, 1) := by decide +kernel
theorem dX4_tilted_11 : decode cX4_tilted 11 = .ok (.if_icmp .ge 19, 3) := by decide +kernel
theorem dX4_tilted_14 : decode cX4_tilted 14 = .ok (.iload_n 1, 1) := by decide +kernel
theorem dX4_tilted_15 : decode cX4_tilted 15 = .ok (.aload_n 0, 1) := by decide +kernel
theorem dX4_tilted_16 : decode cX4_tilted 16 = .ok (.iload_n 2, 1) := by decide +kernel
theorem dX4_tilted_17 : decode cX4_tilted 17 = .ok (.bipush 6, 2) := by decide +kernel
theorem dX4_tilted_19 : decode cX4_tilted 19 = .ok (.invokevirtual 46, 3) := by decide +kernel
theorem dX4_tilted_22 : decode cX4_tilted 22 = .ok (.iadd, 1) := by decide +kernel
theorem dX4_tilted_23 : decode cX4_tilted 23 = .ok (.istore_n 1, 1) := by decide +kernel
theorem dX4_tilted_24 : decode cX4_tilted 24 = .ok (.iinc 2 1, 3) := by decide +kernel
theorem dX4_tilted_27 : decode cX4_tilted 27 = .ok (.goto (-23), 3) := by decide +kernel
theorem dX4_tilted_30 : decode cX4_tilted 30 = .ok (.iload_n 1, 1) := by decide +kernel
theorem dX4_tilted_31 : decode cX4_tilted 31 = .ok (.ireturn, 1) := by decide +kernel
theorem dX4_hottestSquare_0 : decode cX4_hottestSquare 0 = .ok (.iconst 0, 1) := by decide +kernel
theorem dX4_hottestSquare_1 : decode cX4_hottestSquare 1 = .ok (.istore_n 1, 1) := by decide +kernel
theorem dX4_hottestSquare_2 : decode cX4_hottestSquare 2 = .ok (.bipush 11, 2) := by decide +kernel
theorem dX4_hottestSquare_4 : decode cX4_hottestSquare 4 = .ok (.istore_n 2, 1) := by decide +kernel
theorem dX4_hottestSquare_5 : decode cX4_hottestSquare 5 = .ok (.iload_n 2, 1) := by decide +kernel
theorem dX4_hottestSquare_6 : decode cX4_hottestSquare 6 = .ok (.ifCond .lt 31, 3) := by decide +kernel
theorem dX4_hottestSquare_9 : decode cX4_hottestSquare 9 = .ok (.aload_n 0, 1) := by decide +kernel
theorem dX4_hottestSquare_10 : decode cX4_hottestSquare 10 = .ok (.getfield 7, 3) := by decide +kernel
theorem dX4_hottestSquare_13 : decode cX4_hottestSquare 13 = .ok (.bipush 11, 2) := by decide +kernel
theorem dX4_hottestSquare_15 : decode cX4_hottestSquare 15 = .ok (.iload_n 2, 1) := by decide +kernel
theorem dX4_hottestSquare_16 : decode cX4_hottestSquare 16 = .ok (.iadd, 1) := by decide +kernel
theorem dX4_hottestSquare_17 : decode cX4_hottestSquare 17 = .ok (.iaload, 1) := by decide +kernel
theorem dX4_hottestSquare_18 : decode cX4_hottestSquare 18 = .ok (.aload_n 0, 1) := by decide +kernel
theorem dX4_hottestSquare_19 : decode cX4_hottestSquare 19 = .ok (.invokevirtual 110, 3) := by decide +kernel
theorem dX4_hottestSquare_22 : decode cX4_hottestSquare 22 = .ok (.if_icmp .ne 7, 3) := by decide +kernel
theorem dX4_hottestSquare_25 : decode cX4_hottestSquare 25 = .ok (.iload_n 2, 1) := by decide +kernel
theorem dX4_hottestSquare_26 : decode cX4_hottestSquare 26 = .ok (.goto 4, 3) := by decide +kernel
theorem dX4_hottestSquare_29 : decode cX4_hottestSquare 29 = .ok (.iload_n 1, 1) := by decide +kernel
theorem dX4_hottestSquare_30 : decode cX4_hottestSquare 30 = .ok (.istore_n 1, 1) := by decide +kernel
theorem dX4_hottestSquare_31 : decode cX4_hottestSquare 31 = .ok (.iinc 2 (-1), 3) := by decide +kernel
theorem dX4_hottestSquare_34 : decode cX4_hottestSquare 34 = .ok (.goto (-29), 3) := by decide +kernel
theorem dX4_hottestSquare_37 : decode cX4_hottestSquare 37 = .ok (.iload_n 1, 1) := by decide +kernel
theorem dX4_hottestSquare_38 : decode cX4_hottestSquare 38 = .ok (.ireturn, 1) := by decide +kernel
theorem dX4_allHeat_0 : decode cX4_allHeat 0 = .ok (.iconst 0, 1) := by decide +kernel
theorem dX4_allHeat_1 : decode cX4_allHeat 1 = .ok (.istore_n 1, 1) := by decide +kernel
theorem dX4_allHeat_2 : decode cX4_allHeat 2 = .ok (.iconst 0, 1) := by decide +kernel
theorem dX4_allHeat_3 : decode cX4_allHeat 3 = .ok (.istore_n 2, 1) := by decide +kernel
theorem dX4_allHeat_4 : decode cX4_allHeat 4 = .ok (.iload_n 2, 1) := by decide +kernel
theorem dX4_allHeat_5 : decode cX4_allHeat 5 = .ok (.bipush 12, 2) := by decide +kernel
theorem dX4_allHeat_7 : decode cX4_allHeat 7 = .ok (.if_icmp .ge 21, 3) := by decide +kernel
theorem dX4_allHeat_10 : decode cX4_allHeat 10 = .ok (.iload_n 1, 1) := by decide +kernel
theorem dX4_allHeat_11 : decode cX4_allHeat 11 = .ok (.aload_n 0, 1) := by decide +kernel
theorem dX4_allHeat_12 : decode cX4_allHeat 12 = .ok (.getfield 7, 3) := by decide +kernel
theorem dX4_allHeat_15 : decode cX4_allHeat 15 = .ok (.bipush 11, 2) := by decide +kernel
theorem dX4_allHeat_17 : decode cX4_allHeat 17 = .ok (.iload_n 2, 1) := by decide +kernel
theorem dX4_allHeat_18 : decode cX4_allHeat 18 = .ok (.iadd, 1) := by decide +kernel
theorem dX4_allHeat_19 : decode cX4_allHeat 19 = .ok (.iaload, 1) := by decide +kernel
theorem dX4_allHeat_20 : decode cX4_allHeat 20 = .ok (.iadd, 1) := by decide +kernel
theorem dX4_allHeat_21 : decode cX4_allHeat 21 = .ok (.istore_n 1, 1) := by decide +kernel
theorem dX4_allHeat_22 : decode cX4_allHeat 22 = .ok (.iinc 2 1, 3) := by decide +kernel
theorem dX4_allHeat_25 : decode cX4_allHeat 25 = .ok (.goto (-21), 3) := by decide +kernel
theorem dX4_allHeat_28 : decode cX4_allHeat 28 = .ok (.iload_n 1, 1) := by decide +kernel
theorem dX4_allHeat_29 : decode cX4_allHeat 29 = .ok (.ireturn, 1) := by decide +kernel
theorem dX4_count_0 : decode cX4_count 0 = .ok (.iload_n 1, 1) := by decide +kernel
theorem dX4_count_1 : decode cX4_count 1 = .ok (.tableswitch 184 0 18 #[91, 98, 98, 98, 106, 111, 118, 125, 132, 139, 146, 151, 156, 161, 161, 161, 161, 174, 179], 91) := by decide +kernel
theorem dX4_count_92 : decode cX4_count 92 = .ok (.aload_n 0, 1) := by decide +kernel
theorem dX4_count_93 : decode cX4_count 93 = .ok (.getfield 7, 3) := by decide +kernel
theorem dX4_count_96 : decode cX4_count 96 = .ok (.iconst 0, 1) := by decide +kernel
theorem dX4_count_97 : decode cX4_count 97 = .ok (.iaload, 1) := by decide +kernel
theorem dX4_count_98 : decode cX4_count 98 = .ok (.ireturn, 1) := by decide +kernel
theorem dX4_count_99 : decode cX4_count 99 = .ok (.aload_n 0, 1) := by decide +kernel
theorem dX4_count_100 : decode cX4_count 100 = .ok (.iload_n 1, 1) := by decide +kernel
theorem dX4_count_101 : decode cX4_count 101 = .ok (.iconst 1, 1) := by decide +kernel
theorem dX4_count_102 : decode cX4_count 102 = .ok (.isub, 1) := by decide +kernel
theorem dX4_count_103 : decode cX4_count 103 = .ok (.invokevirtual 217, 3) := by decide +kernel
theorem dX4_count_106 : decode cX4_count 106 = .ok (.ireturn, 1) := by decide +kernel
theorem dX4_count_107 : decode cX4_count 107 = .ok (.aload_n 0, 1) := by decide +kernel
theorem dX4_count_108 : decode cX4_count 108 = .ok (.invokevirtual 229, 3) := by decide +kernel
theorem dX4_count_111 : decode cX4_count 111 = .ok (.ireturn, 1) := by decide +kernel
theorem dX4_count_112 : decode cX4_count 112 = .ok (.aload_n 0, 1) := by decide +kernel
theorem dX4_count_113 : decode cX4_count 113 = .ok (.getfield 7, 3) := by decide +kernel
theorem dX4_count_116 : decode cX4_count 116 = .ok (.iconst 3, 1) := by decide +kernel
theorem dX4_count_117 : decode cX4_count 117 = .ok (.iaload, 1) := by decide +kernel
theorem dX4_count_118 : decode cX4_count 118 = .ok (.ireturn, 1) := by decide +kernel
theorem dX4_count_119 : decode cX4_count 119 = .ok (.aload_n 0, 1) := by decide +kernel
theorem dX4_count_120 : decode cX4_count 120 = .ok (.getfield 7, 3) := by decide +kernel
theorem dX4_count_123 : decode cX4_count 123 = .ok (.iconst 1, 1) := by decide +kernel
theorem dX4_count_124 : decode cX4_count 124 = .ok (.iaload, 1) := by decide +kernel
theorem dX4_count_125 : decode cX4_count 125 = .ok (.ireturn, 1) := by decide +kernel
theorem dX4_count_126 : decode cX4_count 126 = .ok (.aload_n 0, 1) := by decide +kernel
theorem dX4_count_127 : decode cX4_count 127 = .ok (.getfield 7, 3) := by decide +kernel
theorem dX4_count_130 : decode cX4_count 130 = .ok (.iconst 2, 1) := by decide +kernel
theorem dX4_count_131 : decode cX4_count 131 = .ok (.iaload, 1) := by decide +kernel
theorem dX4_count_132 : decode cX4_count 132 = .ok (.ireturn, 1) := by decide +kernel
theorem dX4_count_133 : decode cX4_count 133 = .ok (.aload_n 0, 1) := by decide +kernel
theorem dX4_count_134 : decode cX4_count 134 = .ok (.getfield 7, 3) := by decide +kernel
theorem dX4_count_137 : decode cX4_count 137 = .ok (.iconst 4, 1) := by decide +kernel
theorem dX4_count_138 : decode cX4_count 138 = .ok (.iaload, 1) := by decide +kernel
theorem dX4_count_139 : decode cX4_count 139 = .ok (.ireturn, 1) := by decide +kernel
theorem dX4_count_140 : decode cX4_count 140 = .ok (.aload_n 0, 1) := by decide +kernel
theorem dX4_count_141 : decode cX4_count 141 = .ok (.getfield 7, 3) := by decide +kernel
theorem dX4_count_144 : decode cX4_count 144 = .ok (.iconst 5, 1) := by decide +kernel
theorem dX4_count_145 : decode cX4_count 145 = .ok (.iaload, 1) := by decide +kernel
theorem dX4_count_146 : decode cX4_count 146 = .ok (.ireturn, 1) := by decide +kernel
theorem dX4_count_147 : decode cX4_count 147 = .ok (.aload_n 0, 1) := by decide +kernel
theorem dX4_count_148 : decode cX4_count 148 = .ok (.invokevirtual 110, 3) := by decide +kernel
theorem dX4_count_151 : decode cX4_count 151 = .ok (.ireturn, 1) := by decide +kernel
theorem dX4_count_152 : decode cX4_count 152 = .ok (.aload_n 0, 1) := by decide +kernel
theorem dX4_count_153 : decode cX4_count 153 = .ok (.invokevirtual 232, 3) := by decide +kernel
theorem dX4_count_156 : decode cX4_count 156 = .ok (.ireturn, 1) := by decide +kernel
theorem dX4_count_157 : decode cX4_count 157 = .ok (.aload_n 0, 1) := by decide +kernel
theorem dX4_count_158 : decode cX4_count 158 = .ok (.invokevirtual 235, 3) := by decide +kernel
theorem dX4_count_161 : decode cX4_count 161 = .ok (.ireturn, 1) := by decide +kernel
theorem dX4_count_162 : decode cX4_count 162 = .ok (.aload_n 0, 1) := by decide +kernel
theorem dX4_count_163 : decode cX4_count 163 = .ok (.getfield 7, 3) := by decide +kernel
theorem dX4_count_166 : decode cX4_count 166 = .ok (.bipush 7, 2) := by decide +kernel
theorem dX4_count_168 : decode cX4_count 168 = .ok (.iload_n 1, 1) := by decide +kernel
theorem dX4_count_169 : decode cX4_count 169 = .ok (.iadd, 1) := by decide +kernel
theorem dX4_count_170 : decode cX4_count 170 = .ok (.bipush 13, 2) := by decide +kernel
theorem dX4_count_172 : decode cX4_count 172 = .ok (.isub, 1) := by decide +kernel
theorem dX4_count_173 : decode cX4_count 173 = .ok (.iaload, 1) := by decide +kernel
theorem dX4_count_174 : decode cX4_count 174 = .ok (.ireturn, 1) := by decide +kernel
theorem dX4_count_175 : decode cX4_count 175 = .ok (.aload_n 0, 1) := by decide +kernel
theorem dX4_count_176 : decode cX4_count 176 = .ok (.getfield 49, 3) := by decide +kernel
theorem dX4_count_179 : decode cX4_count 179 = .ok (.ireturn, 1) := by decide +kernel
theorem dX4_count_180 : decode cX4_count 180 = .ok (.aload_n 0, 1) := by decide +kernel
theorem dX4_count_181 : decode cX4_count 181 = .ok (.getfield 146, 3) := by decide +kernel
theorem dX4_count_184 : decode cX4_count 184 = .ok (.ireturn, 1) := by decide +kernel
theorem dX4_count_185 : decode cX4_count 185 = .ok (.bipush (-2), 2) := by decide +kernel
theorem dX4_count_187 : decode cX4_count 187 = .ok (.ireturn, 1) := by decide +kernel
theorem dL_law_0 : decode cL_law 0 = .ok (.new 7, 3) := by decide +kernel
theorem dL_law_3 : decode cL_law 3 = .ok (.dup, 1) := by decide +kernel
theorem dL_law_4 : decode cL_law 4 = .ok (.invokespecial 9, 3) := by decide +kernel
theorem dL_law_7 : decode cL_law 7 = .ok (.astore_n 1, 1) := by decide +kernel
theorem dL_law_8 : decode cL_law 8 = .ok (.new 10, 3) := by decide +kernel
theorem dL_law_11 : decode cL_law 11 = .ok (.dup, 1) := by decide +kernel
theorem dL_law_12 : decode cL_law 12 = .ok (.invokespecial 12, 3) := by decide +kernel
theorem dL_law_15 : decode cL_law 15 = .ok (.astore_n 2, 1) := by decide +kernel
theorem dL_law_16 : decode cL_law 16 = .ok (.iconst 0, 1) := by decide +kernel
theorem dL_law_17 : decode cL_law 17 = .ok (.istore_n 3, 1) := by decide +kernel
theorem dL_law_18 : decode cL_law 18 = .ok (.iload_n 3, 1) := by decide +kernel
theorem dL_law_19 : decode cL_law 19 = .ok (.aload_n 0, 1) := by decide +kernel
theorem dL_law_20 : decode cL_law 20 = .ok (.arraylength, 1) := by decide +kernel
theorem dL_law_21 : decode cL_law 21 = .ok (.iconst 5, 1) := by decide +kernel
theorem dL_law_22 : decode cL_law 22 = .ok (.isub, 1) := by decide +kernel
theorem dL_law_23 : decode cL_law 23 = .ok (.if_icmp .gt 607, 3) := by decide +kernel
theorem dL_law_26 : decode cL_law 26 = .ok (.aload_n 0, 1) := by decide +kernel
theorem dL_law_27 : decode cL_law 27 = .ok (.iload_n 3, 1) := by decide +kernel
theorem dL_law_28 : decode cL_law 28 = .ok (.iaload, 1) := by decide +kernel
theorem dL_law_29 : decode cL_law 29 = .ok (.bipush 31, 2) := by decide +kernel
theorem dL_law_31 : decode cL_law 31 = .ok (.iand, 1) := by decide +kernel
theorem dL_law_32 : decode cL_law 32 = .ok (.tableswitch 592 0 21 #[104, 157, 190, 223, 246, 269, 282, 307, 320, 333, 356, 369, 382, 395, 428, 451, 474, 497, 520, 533, 556, 569], 104) := by decide +kernel
theorem dL_law_136 : decode cL_law 136 = .ok (.aload_n 1, 1) := by decide +kernel
theorem dL_law_137 : decode cL_law 137 = .ok (.aload_n 0, 1) := by decide +kernel
theorem dL_law_138 : decode cL_law 138 = .ok (.iload_n 3, 1) := by decide +kernel
theorem dL_law_139 : decode cL_law 139 = .ok (.iconst 1, 1) := by decide +kernel
theorem dL_law_140 : decode cL_law 140 = .ok (.iadd, 1) := by decide +kernel
theorem dL_law_141 : decode cL_law 141 = .ok (.iaload, 1) := by decide +kernel
theorem dL_law_142 : decode cL_law 142 = .ok (.aload_n 0, 1) := by decide +kernel
theorem dL_law_143 : decode cL_law 143 = .ok (.iload_n 3, 1) := by decide +kernel
theorem dL_law_144 : decode cL_law 144 = .ok (.iconst 2, 1) := by decide +kernel
theorem dL_law_145 : decode cL_law 145 = .ok (.iadd, 1) := by decide +kernel
theorem dL_law_146 : decode cL_law 146 = .ok (.iaload, 1) := by decide +kernel
theorem dL_law_147 : decode cL_law 147 = .ok (.aload_n 0, 1) := by decide +kernel
theorem dL_law_148 : decode cL_law 148 = .ok (.iload_n 3, 1) := by decide +kernel
theorem dL_law_149 : decode cL_law 149 = .ok (.iconst 3, 1) := by decide +kernel
theorem dL_law_150 : decode cL_law 150 = .ok (.iadd, 1) := by decide +kernel
theorem dL_law_151 : decode cL_law 151 = .ok (.iaload, 1) := by decide +kernel
theorem dL_law_152 : decode cL_law 152 = .ok (.aload_n 0, 1) := by decide +kernel
theorem dL_law_153 : decode cL_law 153 = .ok (.iload_n 3, 1) := by decide +kernel
theorem dL_law_154 : decode cL_law 154 = .ok (.iconst 4, 1) := by decide +kernel
theorem dL_law_155 : decode cL_law 155 = .ok (.iadd, 1) := by decide +kernel
theorem dL_law_156 : decode cL_law 156 = .ok (.iaload, 1) := by decide +kernel
theorem dL_law_157 : decode cL_law 157 = .ok (.invokevirtual 13, 3) := by decide +kernel
theorem dL_law_160 : decode cL_law 160 = .ok (.aload_n 2, 1) := by decide +kernel
theorem dL_law_161 : decode cL_law 161 = .ok (.aload_n 0, 1) := by decide +kernel
theorem dL_law_162 : decode cL_law 162 = .ok (.iload_n 3, 1) := by decide +kernel
theorem dL_law_163 : decode cL_law 163 = .ok (.iconst 1, 1) := by decide +kernel
theorem dL_law_164 : decode cL_law 164 = .ok (.iadd, 1) := by decide +kernel
theorem dL_law_165 : decode cL_law 165 = .ok (.iaload, 1) := by decide +kernel
theorem dL_law_166 : decode cL_law 166 = .ok (.aload_n 0, 1) := by decide +kernel
theorem dL_law_167 : decode cL_law 167 = .ok (.iload_n 3, 1) := by decide +kernel
theorem dL_law_168 : decode cL_law 168 = .ok (.iconst 2, 1) := by decide +kernel
theorem dL_law_169 : decode cL_law 169 = .ok (.iadd, 1) := by decide +kernel
theorem dL_law_170 : decode cL_law 170 = .ok (.iaload, 1) := by decide +kernel
theorem dL_law_171 : decode cL_law 171 = .ok (.aload_n 0, 1) := by decide +kernel
theorem dL_law_172 : decode cL_law 172 = .ok (.iload_n 3, 1) := by decide +kernel
theorem dL_law_173 : decode cL_law 173 = .ok (.iconst 3, 1) := by decide +kernel
theorem dL_law_174 : decode cL_law 174 = .ok (.iadd, 1) := by decide +kernel
theorem dL_law_175 : decode cL_law 175 = .ok (.iaload, 1) := by decide +kernel
theorem dL_law_176 : decode cL_law 176 = .ok (.aload_n 0, 1) := by decide +kernel
theorem dL_law_177 : decode cL_law 177 = .ok (.iload_n 3, 1) := by decide +kernel
theorem dL_law_178 : decode cL_law 178 = .ok (.iconst 4, 1) := by decide +kernel
theorem dL_law_179 : decode cL_law 179 = .ok (.iadd, 1) := by decide +kernel
theorem dL_law_180 : decode cL_law 180 = .ok (.iaload, 1) := by decide +kernel
theorem dL_law_181 : decode cL_law 181 = .ok (.invokevirtual 17, 3) := by decide +kernel
theorem dL_law_184 : decode cL_law 184 = .ok (.if_icmp .eq 440, 3) := by decide +kernel
theorem dL_law_187 : decode cL_law 187 = .ok (.iconst 0, 1) := by decide +kernel
theorem dL_law_188 : decode cL_law 188 = .ok (.ireturn, 1) := by decide +kernel
theorem dL_law_189 : decode cL_law 189 = .ok (.aload_n 1, 1) := by decide +kernel
theorem dL_law_190 : decode cL_law 190 = .ok (.aload_n 0, 1) := by decide +kernel
theorem dL_law_191 : decode cL_law 191 = .ok (.iload_n 3, 1) := by decide +kernel
theorem dL_law_192 : decode cL_law 192 = .ok (.iconst 1, 1) := by decide +kernel
theorem dL_law_193 : decode cL_law 193 = .ok (.iadd, 1) := by decide +kernel
theorem dL_law_194 : decode cL_law 194 = .ok (.iaload, 1) := by decide +kernel
theorem dL_law_195 : decode cL_law 195 = .ok (.aload_n 0, 1) := by decide +kernel
theorem dL_law_196 : decode cL_law 196 = .ok (.iload_n 3, 1) := by decide +kernel
theorem dL_law_197 : decode cL_law 197 = .ok (.iconst 2, 1) := by decide +kernel
theorem dL_law_198 : decode cL_law 198 = .ok (.iadd, 1) := by decide +kernel
theorem dL_law_199 : decode cL_law 199 = .ok (.iaload, 1) := by decide +kernel
theorem dL_law_200 : decode cL_law 200 = .ok (.invokevirtual 18, 3) := by decide +kernel
theorem dL_law_203 : decode cL_law 203 = .ok (.aload_n 2, 1) := by decide +kernel
theorem dL_law_204 : decode cL_law 204 = .ok (.aload_n 0, 1) := by decide +kernel
theorem dL_law_205 : decode cL_law 205 = .ok (.iload_n 3, 1) := by decide +kernel
theorem dL_law_206 : decode cL_law 206 = .ok (.iconst 1, 1) := by decide +kernel
theorem dL_law_207 : decode cL_law 207 = .ok (.iadd, 1) := by decide +kernel
theorem dL_law_208 : decode cL_law 208 = .ok (.iaload, 1) := by decide +kernel
theorem dL_law_209 : decode cL_law 209 = .ok (.aload_n 0, 1) := by decide +kernel
theorem dL_law_210 : decode cL_law 210 = .ok (.iload_n 3, 1) := by decide +kernel
theorem dL_law_211 : decode cL_law 211 = .ok (.iconst 2, 1) := by decide +kernel
theorem dL_law_212 : decode cL_law 212 = .ok (.iadd, 1) := by decide +kernel
theorem dL_law_213 : decode cL_law 213 = .ok (.iaload, 1) := by decide +kernel
theorem dL_law_214 : decode cL_law 214 = .ok (.invokevirtual 22, 3) := by decide +kernel
theorem dL_law_217 : decode cL_law 217 = .ok (.if_icmp .eq 407, 3) := by decide +kernel
theorem dL_law_220 : decode cL_law 220 = .ok (.iconst 0, 1) := by decide +kernel
theorem dL_law_221 : decode cL_law 221 = .ok (.ireturn, 1) := by decide +kernel
theorem dL_law_222 : decode cL_law 222 = .ok (.aload_n 1, 1) := by decide +kernel
theorem dL_law_223 : decode cL_law 223 = .ok (.aload_n 0, 1) := by decide +kernel
theorem dL_law_224 : decode cL_law 224 = .ok (.iload_n 3, 1) := by decide +kernel
theorem dL_law_225 : decode cL_law 225 = .ok (.iconst 1, 1) := by decide +kernel
theorem dL_law_226 : decode cL_law 226 = .ok (.iadd, 1) := by decide +kernel
theorem dL_law_227 : decode cL_law 227 = .ok (.iaload, 1) := by decide +kernel
theorem dL_law_228 : decode cL_law 228 = .ok (.aload_n 0, 1) := by decide +kernel
theorem dL_law_229 : decode cL_law 229 = .ok (.iload_n 3, 1) := by decide +kernel
theorem dL_law_230 : decode cL_law 230 = .ok (.iconst 2, 1) := by decide +kernel
theorem dL_law_231 : decode cL_law 231 = .ok (.iadd, 1) := by decide +kernel
theorem dL_law_232 : decode cL_law 232 = .ok (.iaload, 1) := by decide +kernel
theorem dL_law_233 : decode cL_law 233 = .ok (.invokevirtual 23, 3) := by decide +kernel
theorem dL_law_236 : decode cL_law 236 = .ok (.aload_n 2, 1) := by decide +kernel
theorem dL_law_237 : decode cL_law 237 = .ok (.aload_n 0, 1) := by decide +kernel
theorem dL_law_238 : decode cL_law 238 = .ok (.iload_n 3, 1) := by decide +kernel
theorem dL_law_239 : decode cL_law 239 = .ok (.iconst 1, 1) := by decide +kernel
theorem dL_law_240 : decode cL_law 240 = .ok (.iadd, 1) := by decide +kernel
theorem dL_law_241 : decode cL_law 241 = .ok (.iaload, 1) := by decide +kernel
theorem dL_law_242 : decode cL_law 242 = .ok (.aload_n 0, 1) := by decide +kernel
theorem dL_law_243 : decode cL_law 243 = .ok (.iload_n 3, 1) := by decide +kernel
theorem dL_law_244 : decode cL_law 244 = .ok (.iconst 2, 1) := by decide +kernel
theorem dL_law_245 : decode cL_law 245 = .ok (.iadd, 1) := by decide +kernel
theorem dL_law_246 : decode cL_law 246 = .ok (.iaload, 1) := by decide +kernel
theorem dL_law_247 : decode cL_law 247 = .ok (.invokevirtual 26, 3) := by decide +kernel
theorem dL_law_250 : decode cL_law 250 = .ok (.if_icmp .eq 374, 3) := by decide +kernel
theorem dL_law_253 : decode cL_law 253 = .ok (.iconst 0, 1) := by decide +kernel
theorem dL_law_254 : decode cL_law 254 = .ok (.ireturn, 1) := by decide +kernel
theorem dL_law_255 : decode cL_law 255 = .ok (.aload_n 1, 1) := by decide +kernel
theorem dL_law_256 : decode cL_law 256 = .ok (.aload_n 0, 1) := by decide +kernel
theorem dL_law_257 : decode cL_law 257 = .ok (.iload_n 3, 1) := by decide +kernel
theorem dL_law_258 : decode cL_law 258 = .ok (.iconst 1, 1) := by decide +kernel
theorem dL_law_259 : decode cL_law 259 = .ok (.iadd, 1) := by decide +kernel
theorem dL_law_260 : decode cL_law 260 = .ok (.iaload, 1) := by decide +kernel
theorem dL_law_261 : decode cL_law 261 = .ok (.invokevirtual 27, 3) := by decide +kernel
theorem dL_law_264 : decode cL_law 264 = .ok (.aload_n 2, 1) := by decide +kernel
theorem dL_law_265 : decode cL_law 265 = .ok (.aload_n 0, 1) := by decide +kernel
theorem dL_law_266 : decode cL_law 266 = .ok (.iload_n 3, 1) := by decide +kernel
theorem dL_law_267 : decode cL_law 267 = .ok (.iconst 1, 1) := by decide +kernel
theorem dL_law_268 : decode cL_law 268 = .ok (.iadd, 1) := by decide +kernel
theorem dL_law_269 : decode cL_law 269 = .ok (.iaload, 1) := by decide +kernel
theorem dL_law_270 : decode cL_law 270 = .ok (.invokevirtual 31, 3) := by decide +kernel
theorem dL_law_273 : decode cL_law 273 = .ok (.if_icmp .eq 351, 3) := by decide +kernel
theorem dL_law_276 : decode cL_law 276 = .ok (.iconst 0, 1) := by decide +kernel
theorem dL_law_277 : decode cL_law 277 = .ok (.ireturn, 1) := by decide +kernel
theorem dL_law_278 : decode cL_law 278 = .ok (.aload_n 1, 1) := by decide +kernel
theorem dL_law_279 : decode cL_law 279 = .ok (.aload_n 0, 1) := by decide +kernel
theorem dL_law_280 : decode cL_law 280 = .ok (.iload_n 3, 1) := by decide +kernel
theorem dL_law_281 : decode cL_law 281 = .ok (.iconst 1, 1) := by decide +kernel
theorem dL_law_282 : decode cL_law 282 = .ok (.iadd, 1) := by decide +kernel
theorem dL_law_283 : decode cL_law 283 = .ok (.iaload, 1) := by decide +kernel
theorem dL_law_284 : decode cL_law 284 = .ok (.invokevirtual 32, 3) := by decide +kernel
theorem dL_law_287 : decode cL_law 287 = .ok (.aload_n 2, 1) := by decide +kernel
theorem dL_law_288 : decode cL_law 288 = .ok (.aload_n 0, 1) := by decide +kernel
theorem dL_law_289 : decode cL_law 289 = .ok (.iload_n 3, 1) := by decide +kernel
theorem dL_law_290 : decode cL_law 290 = .ok (.iconst 1, 1) := by decide +kernel
theorem dL_law_291 : decode cL_law 291 = .ok (.iadd, 1) := by decide +kernel
theorem dL_law_292 : decode cL_law 292 = .ok (.iaload, 1) := by decide +kernel
theorem dL_law_293 : decode cL_law 293 = .ok (.invokevirtual 35, 3) := by decide +kernel
theorem dL_law_296 : decode cL_law 296 = .ok (.if_icmp .eq 328, 3) := by decide +kernel
theorem dL_law_299 : decode cL_law 299 = .ok (.iconst 0, 1) := by decide +kernel
theorem dL_law_300 : decode cL_law 300 = .ok (.ireturn, 1) := by decide +kernel
theorem dL_law_301 : decode cL_law 301 = .ok (.aload_n 1, 1) := by decide +kernel
theorem dL_law_302 : decode cL_law 302 = .ok (.invokevirtual 36, 3) := by decide +kernel
theorem dL_law_305 : decode cL_law 305 = .ok (.aload_n 2, 1) := by decide +kernel
theorem dL_law_306 : decode cL_law 306 = .ok (.invokevirtual 40, 3) := by decide +kernel
theorem dL_law_309 : decode cL_law 309 = .ok (.if_icmp .eq 315, 3) := by decide +kernel
theorem dL_law_312 : decode cL_law 312 = .ok (.iconst 0, 1) := by decide +kernel
theorem dL_law_313 : decode cL_law 313 = .ok (.ireturn, 1) := by decide +kernel
theorem dL_law_314 : decode cL_law 314 = .ok (.aload_n 1, 1) := by decide +kernel
theorem dL_law_315 : decode cL_law 315 = .ok (.aload_n 0, 1) := by decide +kernel
theorem dL_law_316 : decode cL_law 316 = .ok (.iload_n 3, 1) := by decide +kernel
theorem dL_law_317 : decode cL_law 317 = .ok (.iconst 1, 1) := by decide +kernel
theorem dL_law_318 : decode cL_law 318 = .ok (.iadd, 1) := by decide +kernel
theorem dL_law_319 : decode cL_law 319 = .ok (.iaload, 1) := by decide +kernel
theorem dL_law_320 : decode cL_law 320 = .ok (.i2c, 1) := by decide +kernel
theorem dL_law_321 : decode cL_law 321 = .ok (.invokevirtual 41, 3) := by decide +kernel
theorem dL_law_324 : decode cL_law 324 = .ok (.aload_n 2, 1) := by decide +kernel
theorem dL_law_325 : decode cL_law 325 = .ok (.aload_n 0, 1) := by decide +kernel
theorem dL_law_326 : decode cL_law 326 = .ok (.iload_n 3, 1) := by decide +kernel
theorem dL_law_327 : decode cL_law 327 = .ok (.iconst 1, 1) := by decide +kernel
theorem dL_law_328 : decode cL_law 328 = .ok (.iadd, 1) := by decide +kernel
theorem dL_law_329 : decode cL_law 329 = .ok (.iaload, 1) := by decide +kernel
theorem dL_law_330 : decode cL_law 330 = .ok (.i2c, 1) := by decide +kernel
theorem dL_law_331 : decode cL_law 331 = .ok (.invokevirtual 45, 3) := by decide +kernel
theorem dL_law_334 : decode cL_law 334 = .ok (.if_icmp .eq 290, 3) := by decide +kernel
theorem dL_law_337 : decode cL_law 337 = .ok (.iconst 0, 1) := by decide +kernel
theorem dL_law_338 : decode cL_law 338 = .ok (.ireturn, 1) := by decide +kernel
theorem dL_law_339 : decode cL_law 339 = .ok (.aload_n 1, 1) := by decide +kernel
theorem dL_law_340 : decode cL_law 340 = .ok (.invokevirtual 46, 3) := by decide +kernel
theorem dL_law_343 : decode cL_law 343 = .ok (.aload_n 2, 1) := by decide +kernel
theorem dL_law_344 : decode cL_law 344 = .ok (.invokevirtual 49, 3) := by decide +kernel
theorem dL_law_347 : decode cL_law 347 = .ok (.if_icmp .eq 277, 3) := by decide +kernel
theorem dL_law_350 : decode cL_law 350 = .ok (.iconst 0, 1) := by decide +kernel
theorem dL_law_351 : decode cL_law 351 = .ok (.ireturn, 1) := by decide +kernel
theorem dL_law_352 : decode cL_law 352 = .ok (.aload_n 1, 1) := by decide +kernel
theorem dL_law_353 : decode cL_law 353 = .ok (.invokevirtual 50, 3) := by decide +kernel
theorem dL_law_356 : decode cL_law 356 = .ok (.aload_n 2, 1) := by decide +kernel
theorem dL_law_357 : decode cL_law 357 = .ok (.invokevirtual 53, 3) := by decide +kernel
theorem dL_law_360 : decode cL_law 360 = .ok (.if_icmp .eq 264, 3) := by decide +kernel
theorem dL_law_363 : decode cL_law 363 = .ok (.iconst 0, 1) := by decide +kernel
theorem dL_law_364 : decode cL_law 364 = .ok (.ireturn, 1) := by decide +kernel
theorem dL_law_365 : decode cL_law 365 = .ok (.aload_n 1, 1) := by decide +kernel
theorem dL_law_366 : decode cL_law 366 = .ok (.aload_n 0, 1) := by decide +kernel
theorem dL_law_367 : decode cL_law 367 = .ok (.iload_n 3, 1) := by decide +kernel
theorem dL_law_368 : decode cL_law 368 = .ok (.iconst 1, 1) := by decide +kernel
theorem dL_law_369 : decode cL_law 369 = .ok (.iadd, 1) := by decide +kernel
theorem dL_law_370 : decode cL_law 370 = .ok (.iaload, 1) := by decide +kernel
theorem dL_law_371 : decode cL_law 371 = .ok (.invokevirtual 54, 3) := by decide +kernel
theorem dL_law_374 : decode cL_law 374 = .ok (.aload_n 2, 1) := by decide +kernel
theorem dL_law_375 : decode cL_law 375 = .ok (.aload_n 0, 1) := by decide +kernel
theorem dL_law_376 : decode cL_law 376 = .ok (.iload_n 3, 1) := by decide +kernel
theorem dL_law_377 : decode cL_law 377 = .ok (.iconst 1, 1) := by decide +kernel
theorem dL_law_378 : decode cL_law 378 = .ok (.iadd, 1) := by decide +kernel
theorem dL_law_379 : decode cL_law 379 = .ok (.iaload, 1) := by decide +kernel
theorem dL_law_380 : decode cL_law 380 = .ok (.invokevirtual 57, 3) := by decide +kernel
theorem dL_law_383 : decode cL_law 383 = .ok (.if_icmp .eq 241, 3) := by decide +kernel
theorem dL_law_386 : decode cL_law 386 = .ok (.iconst 0, 1) := by decide +kernel
theorem dL_law_387 : decode cL_law 387 = .ok (.ireturn, 1) := by decide +kernel
theorem dL_law_388 : decode cL_law 388 = .ok (.aload_n 1, 1) := by decide +kernel
theorem dL_law_389 : decode cL_law 389 = .ok (.invokevirtual 58, 3) := by decide +kernel
theorem dL_law_392 : decode cL_law 392 = .ok (.aload_n 2, 1) := by decide +kernel
theorem dL_law_393 : decode cL_law 393 = .ok (.invokevirtual 61, 3) := by decide +kernel
theorem dL_law_396 : decode cL_law 396 = .ok (.if_icmp .eq 228, 3) := by decide +kernel
theorem dL_law_399 : decode cL_law 399 = .ok (.iconst 0, 1) := by decide +kernel
theorem dL_law_400 : decode cL_law 400 = .ok (.ireturn, 1) := by decide +kernel
theorem dL_law_401 : decode cL_law 401 = .ok (.aload_n 1, 1) := by decide +kernel
theorem dL_law_402 : decode cL_law 402 = .ok (.invokevirtual 62, 3) := by decide +kernel
theorem dL_law_405 : decode cL_law 405 = .ok (.aload_n 2, 1) := by decide +kernel
theorem dL_law_406 : decode cL_law 406 = .ok (.invokevirtual 65, 3) := by decide +kernel
theorem dL_law_409 : decode cL_law 409 = .ok (.if_icmp .eq 215, 3) := by decide +kernel
theorem dL_law_412 : decode cL_law 412 = .ok (.iconst 0, 1) := by decide +kernel
theorem dL_law_413 : decode cL_law 413 = .ok (.ireturn, 1) := by decide +kernel
theorem dL_law_414 : decode cL_law 414 = .ok (.aload_n 1, 1) := by decide +kernel
theorem dL_law_415 : decode cL_law 415 = .ok (.invokevirtual 66, 3) := by decide +kernel
theorem dL_law_418 : decode cL_law 418 = .ok (.aload_n 2, 1) := by decide +kernel
theorem dL_law_419 : decode cL_law 419 = .ok (.invokevirtual 69, 3) := by decide +kernel
theorem dL_law_422 : decode cL_law 422 = .ok (.if_icmp .eq 202, 3) := by decide +kernel
theorem dL_law_425 : decode cL_law 425 = .ok (.iconst 0, 1) := by decide +kernel
theorem dL_law_426 : decode cL_law 426 = .ok (.ireturn, 1) := by decide +kernel
theorem dL_law_427 : decode cL_law 427 = .ok (.aload_n 1, 1) := by decide +kernel
theorem dL_law_428 : decode cL_law 428 = .ok (.aload_n 0, 1) := by decide +kernel
theorem dL_law_429 : decode cL_law 429 = .ok (.iload_n 3, 1) := by decide +kernel
theorem dL_law_430 : decode cL_law 430 = .ok (.iconst 1, 1) := by decide +kernel
theorem dL_law_431 : decode cL_law 431 = .ok (.iadd, 1) := by decide +kernel
theorem dL_law_432 : decode cL_law 432 = .ok (.iaload, 1) := by decide +kernel
theorem dL_law_433 : decode cL_law 433 = .ok (.aload_n 0, 1) := by decide +kernel
theorem dL_law_434 : decode cL_law 434 = .ok (.iload_n 3, 1) := by decide +kernel
theorem dL_law_435 : decode cL_law 435 = .ok (.iconst 2, 1) := by decide +kernel
theorem dL_law_436 : decode cL_law 436 = .ok (.iadd, 1) := by decide +kernel
theorem dL_law_437 : decode cL_law 437 = .ok (.iaload, 1) := by decide +kernel
theorem dL_law_438 : decode cL_law 438 = .ok (.invokevirtual 70, 3) := by decide +kernel
theorem dL_law_441 : decode cL_law 441 = .ok (.aload_n 2, 1) := by decide +kernel
theorem dL_law_442 : decode cL_law 442 = .ok (.aload_n 0, 1) := by decide +kernel
theorem dL_law_443 : decode cL_law 443 = .ok (.iload_n 3, 1) := by decide +kernel
theorem dL_law_444 : decode cL_law 444 = .ok (.iconst 1, 1) := by decide +kernel
theorem dL_law_445 : decode cL_law 445 = .ok (.iadd, 1) := by decide +kernel
theorem dL_law_446 : decode cL_law 446 = .ok (.iaload, 1) := by decide +kernel
theorem dL_law_447 : decode cL_law 447 = .ok (.aload_n 0, 1) := by decide +kernel
theorem dL_law_448 : decode cL_law 448 = .ok (.iload_n 3, 1) := by decide +kernel
theorem dL_law_449 : decode cL_law 449 = .ok (.iconst 2, 1) := by decide +kernel
theorem dL_law_450 : decode cL_law 450 = .ok (.iadd, 1) := by decide +kernel
theorem dL_law_451 : decode cL_law 451 = .ok (.iaload, 1) := by decide +kernel
theorem dL_law_452 : decode cL_law 452 = .ok (.invokevirtual 73, 3) := by decide +kernel
theorem dL_law_455 : decode cL_law 455 = .ok (.if_icmp .eq 169, 3) := by decide +kernel
theorem dL_law_458 : decode cL_law 458 = .ok (.iconst 0, 1) := by decide +kernel
theorem dL_law_459 : decode cL_law 459 = .ok (.ireturn, 1) := by decide +kernel
theorem dL_law_460 : decode cL_law 460 = .ok (.aload_n 1, 1) := by decide +kernel
theorem dL_law_461 : decode cL_law 461 = .ok (.aload_n 0, 1) := by decide +kernel
theorem dL_law_462 : decode cL_law 462 = .ok (.iload_n 3, 1) := by decide +kernel
theorem dL_law_463 : decode cL_law 463 = .ok (.iconst 1, 1) := by decide +kernel
theorem dL_law_464 : decode cL_law 464 = .ok (.iadd, 1) := by decide +kernel
theorem dL_law_465 : decode cL_law 465 = .ok (.iaload, 1) := by decide +kernel
theorem dL_law_466 : decode cL_law 466 = .ok (.invokevirtual 74, 3) := by decide +kernel
theorem dL_law_469 : decode cL_law 469 = .ok (.aload_n 2, 1) := by decide +kernel
theorem dL_law_470 : decode cL_law 470 = .ok (.aload_n 0, 1) := by decide +kernel
theorem dL_law_471 : decode cL_law 471 = .ok (.iload_n 3, 1) := by decide +kernel
theorem dL_law_472 : decode cL_law 472 = .ok (.iconst 1, 1) := by decide +kernel
theorem dL_law_473 : decode cL_law 473 = .ok (.iadd, 1) := by decide +kernel
theorem dL_law_474 : decode cL_law 474 = .ok (.iaload, 1) := by decide +kernel
theorem dL_law_475 : decode cL_law 475 = .ok (.invokevirtual 77, 3) := by decide +kernel
theorem dL_law_478 : decode cL_law 478 = .ok (.if_icmp .eq 146, 3) := by decide +kernel
theorem dL_law_481 : decode cL_law 481 = .ok (.iconst 0, 1) := by decide +kernel
theorem dL_law_482 : decode cL_law 482 = .ok (.ireturn, 1) := by decide +kernel
theorem dL_law_483 : decode cL_law 483 = .ok (.aload_n 1, 1) := by decide +kernel
theorem dL_law_484 : decode cL_law 484 = .ok (.aload_n 0, 1) := by decide +kernel
theorem dL_law_485 : decode cL_law 485 = .ok (.iload_n 3, 1) := by decide +kernel
theorem dL_law_486 : decode cL_law 486 = .ok (.iconst 1, 1) := by decide +kernel
theorem dL_law_487 : decode cL_law 487 = .ok (.iadd, 1) := by decide +kernel
theorem dL_law_488 : decode cL_law 488 = .ok (.iaload, 1) := by decide +kernel
theorem dL_law_489 : decode cL_law 489 = .ok (.invokevirtual 78, 3) := by decide +kernel
theorem dL_law_492 : decode cL_law 492 = .ok (.aload_n 2, 1) := by decide +kernel
theorem dL_law_493 : decode cL_law 493 = .ok (.aload_n 0, 1) := by decide +kernel
theorem dL_law_494 : decode cL_law 494 = .ok (.iload_n 3, 1) := by decide +kernel
theorem dL_law_495 : decode cL_law 495 = .ok (.iconst 1, 1) := by decide +kernel
theorem dL_law_496 : decode cL_law 496 = .ok (.iadd, 1) := by decide +kernel
theorem dL_law_497 : decode cL_law 497 = .ok (.iaload, 1) := by decide +kernel
theorem dL_law_498 : decode cL_law 498 = .ok (.invokevirtual 81, 3) := by decide +kernel
theorem dL_law_501 : decode cL_law 501 = .ok (.if_icmp .eq 123, 3) := by decide +kernel
theorem dL_law_504 : decode cL_law 504 = .ok (.iconst 0, 1) := by decide +kernel
theorem dL_law_505 : decode cL_law 505 = .ok (.ireturn, 1) := by decide +kernel
theorem dL_law_506 : decode cL_law 506 = .ok (.aload_n 1, 1) := by decide +kernel
theorem dL_law_507 : decode cL_law 507 = .ok (.aload_n 0, 1) := by decide +kernel
theorem dL_law_508 : decode cL_law 508 = .ok (.iload_n 3, 1) := by decide +kernel
theorem dL_law_509 : decode cL_law 509 = .ok (.iconst 1, 1) := by decide +kernel
theorem dL_law_510 : decode cL_law 510 = .ok (.iadd, 1) := by decide +kernel
theorem dL_law_511 : decode cL_law 511 = .ok (.iaload, 1) := by decide +kernel
theorem dL_law_512 : decode cL_law 512 = .ok (.invokevirtual 82, 3) := by decide +kernel
theorem dL_law_515 : decode cL_law 515 = .ok (.aload_n 2, 1) := by decide +kernel
theorem dL_law_516 : decode cL_law 516 = .ok (.aload_n 0, 1) := by decide +kernel
theorem dL_law_517 : decode cL_law 517 = .ok (.iload_n 3, 1) := by decide +kernel
theorem dL_law_518 : decode cL_law 518 = .ok (.iconst 1, 1) := by decide +kernel
theorem dL_law_519 : decode cL_law 519 = .ok (.iadd, 1) := by decide +kernel
theorem dL_law_520 : decode cL_law 520 = .ok (.iaload, 1) := by decide +kernel
theorem dL_law_521 : decode cL_law 521 = .ok (.invokevirtual 85, 3) := by decide +kernel
theorem dL_law_524 : decode cL_law 524 = .ok (.if_icmp .eq 100, 3) := by decide +kernel
theorem dL_law_527 : decode cL_law 527 = .ok (.iconst 0, 1) := by decide +kernel
theorem dL_law_528 : decode cL_law 528 = .ok (.ireturn, 1) := by decide +kernel
theorem dL_law_529 : decode cL_law 529 = .ok (.aload_n 1, 1) := by decide +kernel
theorem dL_law_530 : decode cL_law 530 = .ok (.aload_n 0, 1) := by decide +kernel
theorem dL_law_531 : decode cL_law 531 = .ok (.iload_n 3, 1) := by decide +kernel
theorem dL_law_532 : decode cL_law 532 = .ok (.iconst 1, 1) := by decide +kernel
theorem dL_law_533 : decode cL_law 533 = .ok (.iadd, 1) := by decide +kernel
theorem dL_law_534 : decode cL_law 534 = .ok (.iaload, 1) := by decide +kernel
theorem dL_law_535 : decode cL_law 535 = .ok (.invokevirtual 86, 3) := by decide +kernel
theorem dL_law_538 : decode cL_law 538 = .ok (.aload_n 2, 1) := by decide +kernel
theorem dL_law_539 : decode cL_law 539 = .ok (.aload_n 0, 1) := by decide +kernel
theorem dL_law_540 : decode cL_law 540 = .ok (.iload_n 3, 1) := by decide +kernel
theorem dL_law_541 : decode cL_law 541 = .ok (.iconst 1, 1) := by decide +kernel
theorem dL_law_542 : decode cL_law 542 = .ok (.iadd, 1) := by decide +kernel
theorem dL_law_543 : decode cL_law 543 = .ok (.iaload, 1) := by decide +kernel
theorem dL_law_544 : decode cL_law 544 = .ok (.invokevirtual 89, 3) := by decide +kernel
theorem dL_law_547 : decode cL_law 547 = .ok (.if_icmp .eq 77, 3) := by decide +kernel
theorem dL_law_550 : decode cL_law 550 = .ok (.iconst 0, 1) := by decide +kernel
theorem dL_law_551 : decode cL_law 551 = .ok (.ireturn, 1) := by decide +kernel
theorem dL_law_552 : decode cL_law 552 = .ok (.aload_n 1, 1) := by decide +kernel
theorem dL_law_553 : decode cL_law 553 = .ok (.invokevirtual 90, 3) := by decide +kernel
theorem dL_law_556 : decode cL_law 556 = .ok (.aload_n 2, 1) := by decide +kernel
theorem dL_law_557 : decode cL_law 557 = .ok (.invokevirtual 93, 3) := by decide +kernel
theorem dL_law_560 : decode cL_law 560 = .ok (.if_icmp .eq 64, 3) := by decide +kernel
theorem dL_law_563 : decode cL_law 563 = .ok (.iconst 0, 1) := by decide +kernel
theorem dL_law_564 : decode cL_law 564 = .ok (.ireturn, 1) := by decide +kernel
theorem dL_law_565 : decode cL_law 565 = .ok (.aload_n 1, 1) := by decide +kernel
theorem dL_law_566 : decode cL_law 566 = .ok (.aload_n 0, 1) := by decide +kernel
theorem dL_law_567 : decode cL_law 567 = .ok (.iload_n 3, 1) := by decide +kernel
theorem dL_law_568 : decode cL_law 568 = .ok (.iconst 1, 1) := by decide +kernel
theorem dL_law_569 : decode cL_law 569 = .ok (.iadd, 1) := by decide +kernel
theorem dL_law_570 : decode cL_law 570 = .ok (.iaload, 1) := by decide +kernel
theorem dL_law_571 : decode cL_law 571 = .ok (.invokevirtual 94, 3) := by decide +kernel
theorem dL_law_574 : decode cL_law 574 = .ok (.aload_n 2, 1) := by decide +kernel
theorem dL_law_575 : decode cL_law 575 = .ok (.aload_n 0, 1) := by decide +kernel
theorem dL_law_576 : decode cL_law 576 = .ok (.iload_n 3, 1) := by decide +kernel
theorem dL_law_577 : decode cL_law 577 = .ok (.iconst 1, 1) := by decide +kernel
theorem dL_law_578 : decode cL_law 578 = .ok (.iadd, 1) := by decide +kernel
theorem dL_law_579 : decode cL_law 579 = .ok (.iaload, 1) := by decide +kernel
theorem dL_law_580 : decode cL_law 580 = .ok (.invokevirtual 97, 3) := by decide +kernel
theorem dL_law_583 : decode cL_law 583 = .ok (.if_icmp .eq 41, 3) := by decide +kernel
theorem dL_law_586 : decode cL_law 586 = .ok (.iconst 0, 1) := by decide +kernel
theorem dL_law_587 : decode cL_law 587 = .ok (.ireturn, 1) := by decide +kernel
theorem dL_law_588 : decode cL_law 588 = .ok (.aload_n 1, 1) := by decide +kernel
theorem dL_law_589 : decode cL_law 589 = .ok (.invokevirtual 98, 3) := by decide +kernel
theorem dL_law_592 : decode cL_law 592 = .ok (.aload_n 2, 1) := by decide +kernel
theorem dL_law_593 : decode cL_law 593 = .ok (.invokevirtual 101, 3) := by decide +kernel
theorem dL_law_596 : decode cL_law 596 = .ok (.if_icmp .eq 28, 3) := by decide +kernel
theorem dL_law_599 : decode cL_law 599 = .ok (.iconst 0, 1) := by decide +kernel
theorem dL_law_600 : decode cL_law 600 = .ok (.ireturn, 1) := by decide +kernel
theorem dL_law_601 : decode cL_law 601 = .ok (.aload_n 1, 1) := by decide +kernel
theorem dL_law_602 : decode cL_law 602 = .ok (.aload_n 0, 1) := by decide +kernel
theorem dL_law_603 : decode cL_law 603 = .ok (.iload_n 3, 1) := by decide +kernel
theorem dL_law_604 : decode cL_law 604 = .ok (.iconst 1, 1) := by decide +kernel
theorem dL_law_605 : decode cL_law 605 = .ok (.iadd, 1) := by decide +kernel
theorem dL_law_606 : decode cL_law 606 = .ok (.iaload, 1) := by decide +kernel
theorem dL_law_607 : decode cL_law 607 = .ok (.invokevirtual 102, 3) := by decide +kernel
theorem dL_law_610 : decode cL_law 610 = .ok (.aload_n 2, 1) := by decide +kernel
theorem dL_law_611 : decode cL_law 611 = .ok (.aload_n 0, 1) := by decide +kernel
theorem dL_law_612 : decode cL_law 612 = .ok (.iload_n 3, 1) := by decide +kernel
theorem dL_law_613 : decode cL_law 613 = .ok (.iconst 1, 1) := by decide +kernel
theorem dL_law_614 : decode cL_law 614 = .ok (.iadd, 1) := by decide +kernel
theorem dL_law_615 : decode cL_law 615 = .ok (.iaload, 1) := by decide +kernel
theorem dL_law_616 : decode cL_law 616 = .ok (.invokevirtual 105, 3) := by decide +kernel
theorem dL_law_619 : decode cL_law 619 = .ok (.if_icmp .eq 5, 3) := by decide +kernel
theorem dL_law_622 : decode cL_law 622 = .ok (.iconst 0, 1) := by decide +kernel
theorem dL_law_623 : decode cL_law 623 = .ok (.ireturn, 1) := by decide +kernel
theorem dL_law_624 : decode cL_law 624 = .ok (.iinc 3 5, 3) := by decide +kernel
theorem dL_law_627 : decode cL_law 627 = .ok (.goto (-609), 3) := by decide +kernel
theorem dL_law_630 : decode cL_law 630 = .ok (.iconst 1, 1) := by decide +kernel
theorem dL_law_631 : decode cL_law 631 = .ok (.ireturn, 1) := by decide +kernel
abbrev vwCl : List vw_C := [(RX0, TX0, 7), (RX1, TX1, 9), (RX2, TX2, 10), (RX3, TX3, 10), (RX4, TX4, 21)]
end
section
/-! each word of the tables, by its place (by program: wip/whole/gen_words.py) -/
def WS : List Cond := lw_tbl.filter goodWord
theorem WS_sub : ∀ w ∈ WS, w ∈ lw_tbl := fun w h => (List.mem_filter.mp h).1
theorem WS_good : GoodIn WS WS := fun w h => ⟨h, good_of_word (List.mem_filter.mp h).2⟩
set_option maxRecDepth 20000 in
theorem mI_L : Cond.initialized RL ∈ WS := List.mem_filter.mpr ⟨List.mem_of_getElem? (i := 68) rfl, rfl⟩
set_option maxRecDepth 20000 in
theorem mI_X3 : Cond.initialized RX3 ∈ WS := List.mem_filter.mpr ⟨List.mem_of_getElem? (i := 69) rfl, rfl⟩
set_option maxRecDepth 20000 in
theorem mI_X2 : Cond.initialized RX2 ∈ WS := List.mem_filter.mpr ⟨List.mem_of_getElem? (i := 70) rfl, rfl⟩
set_option maxRecDepth 20000 in
theorem mI_X1 : Cond.initialized RX1 ∈ WS := List.mem_filter.mpr ⟨List.mem_of_getElem? (i := 71) rfl, rfl⟩
set_option maxRecDepth 20000 in
theorem mI_X0 : Cond.initialized RX0 ∈ WS := List.mem_filter.mpr ⟨List.mem_of_getElem? (i := 72) rfl, rfl⟩
set_option maxRecDepth 20000 in
theorem mI_X4 : Cond.initialized RX4 ∈ WS := List.mem_filter.mpr ⟨List.mem_of_getElem? (i := 73) rfl, rfl⟩
set_option maxRecDepth 20000 in
theorem mI_Math : Cond.initialized "java/lang/Math" ∈ WS := List.mem_filter.mpr ⟨List.mem_of_getElem? (i := 74) rfl, rfl⟩
set_option maxRecDepth 20000 in
theorem mC_L_7 : Cond.classLink RL 7 RX3 ∈ WS := List.mem_filter.mpr ⟨List.mem_of_getElem? (i := 75) rfl, rfl⟩
set_option maxRecDepth 20000 in
theorem mN_X3 : Cond.instantiable RX3 10 ∈ WS := List.mem_filter.mpr ⟨List.mem_of_getElem? (i := 76) rfl, rfl⟩
set_option maxRecDepth 20000 in
theorem mL_L_9 : Cond.methodLink RL 9 yX3_init ∈ WS := List.mem_filter.mpr ⟨List.mem_of_getElem? (i := 77) rfl, rfl⟩
set_option maxRecDepth 20000 in
theorem mL_X3_1 : Cond.methodLink RX3 1 objectInit ∈ WS := List.mem_filter.mpr ⟨List.mem_of_getElem? (i := 80) rfl, rfl⟩
set_option maxRecDepth 20000 in
theorem mC_X3_7 : Cond.classLink RX3 7 RX2 ∈ WS := List.mem_filter.mpr ⟨List.mem_of_getElem? (i := 83) rfl, rfl⟩
set_option maxRecDepth 20000 in
theorem mN_X2 : Cond.instantiable RX2 10 ∈ WS := List.mem_filter.mpr ⟨List.mem_of_getElem? (i := 84) rfl, rfl⟩
set_option maxRecDepth 20000 in
theorem mL_X3_9 : Cond.methodLink RX3 9 yX2_init ∈ WS := List.mem_filter.mpr ⟨List.mem_of_getElem? (i := 85) rfl, rfl⟩
set_option maxRecDepth 20000 in
theorem mL_X2_3 : Cond.methodLink RX2 3 objectInit ∈ WS := List.mem_filter.mpr ⟨List.mem_of_getElem? (i := 88) rfl, rfl⟩
set_option maxRecDepth 20000 in
theorem mC_X2_11 : Cond.classLink RX2 11 RX1 ∈ WS := List.mem_filter.mpr ⟨List.mem_of_getElem? (i := 89) rfl, rfl⟩
set_option maxRecDepth 20000 in
theorem mN_X1 : Cond.instantiable RX1 9 ∈ WS := List.mem_filter.mpr ⟨List.mem_of_getElem? (i := 91) rfl, rfl⟩
set_option maxRecDepth 20000 in
theorem mL_X2_17 : Cond.methodLink RX2 17 yX1_init ∈ WS := List.mem_filter.mpr ⟨List.mem_of_getElem? (i := 92) rfl, rfl⟩
set_option maxRecDepth 20000 in
theorem mL_X1_3 : Cond.methodLink RX1 3 objectInit ∈ WS := List.mem_filter.mpr ⟨List.mem_of_getElem? (i := 95) rfl, rfl⟩
set_option maxRecDepth 20000 in
theorem mF_X1_9 : Cond.fieldLink RX1 9 "BeamCuts$Shape" "left" "I" ∈ WS := List.mem_filter.mpr ⟨List.mem_of_getElem? (i := 96) rfl, rfl⟩
set_option maxRecDepth 20000 in
theorem mF_X2_167 : Cond.fieldLink RX2 167 "BeamCuts$Shape" "left" "I" ∈ WS := List.mem_filter.mpr ⟨List.mem_of_getElem? (i := 97) rfl, rfl⟩
set_option maxRecDepth 20000 in
theorem mF_X1_15 : Cond.fieldLink RX1 15 "BeamCuts$Shape" "top" "I" ∈ WS := List.mem_filter.mpr ⟨List.mem_of_getElem? (i := 98) rfl, rfl⟩
set_option maxRecDepth 20000 in
theorem mF_X2_170 : Cond.fieldLink RX2 170 "BeamCuts$Shape" "top" "I" ∈ WS := List.mem_filter.mpr ⟨List.mem_of_getElem? (i := 99) rfl, rfl⟩
set_option maxRecDepth 20000 in
theorem mF_X1_18 : Cond.fieldLink RX1 18 "BeamCuts$Shape" "width" "I" ∈ WS := List.mem_filter.mpr ⟨List.mem_of_getElem? (i := 100) rfl, rfl⟩
set_option maxRecDepth 20000 in
theorem mF_X2_173 : Cond.fieldLink RX2 173 "BeamCuts$Shape" "width" "I" ∈ WS := List.mem_filter.mpr ⟨List.mem_of_getElem? (i := 101) rfl, rfl⟩
set_option maxRecDepth 20000 in
theorem mF_X1_21 : Cond.fieldLink RX1 21 "BeamCuts$Shape" "height" "I" ∈ WS := List.mem_filter.mpr ⟨List.mem_of_getElem? (i := 102) rfl, rfl⟩
set_option maxRecDepth 20000 in
theorem mF_X2_176 : Cond.fieldLink RX2 176 "BeamCuts$Shape" "height" "I" ∈ WS := List.mem_filter.mpr ⟨List.mem_of_getElem? (i := 103) rfl, rfl⟩
set_option maxRecDepth 20000 in
theorem mF_X1_24 : Cond.fieldLink RX1 24 "BeamCuts$Shape" "lead" "I" ∈ WS := List.mem_filter.mpr ⟨List.mem_of_getElem? (i := 104) rfl, rfl⟩
set_option maxRecDepth 20000 in
theorem mF_X2_76 : Cond.fieldLink RX2 76 "BeamCuts$Shape" "lead" "I" ∈ WS := List.mem_filter.mpr ⟨List.mem_of_getElem? (i := 105) rfl, rfl⟩
set_option maxRecDepth 20000 in
theorem mF_X1_27 : Cond.fieldLink RX1 27 "BeamCuts$Shape" "condition" "I" ∈ WS := List.mem_filter.mpr ⟨List.mem_of_getElem? (i := 106) rfl, rfl⟩
set_option maxRecDepth 20000 in
theorem mF_X2_66 : Cond.fieldLink RX2 66 "BeamCuts$Shape" "condition" "I" ∈ WS := List.mem_filter.mpr ⟨List.mem_of_getElem? (i := 107) rfl, rfl⟩
set_option maxRecDepth 20000 in
theorem mF_X1_30 : Cond.fieldLink RX1 30 "BeamCuts$Shape" "tilted" "I" ∈ WS := List.mem_filter.mpr ⟨List.mem_of_getElem? (i := 108) rfl, rfl⟩
set_option maxRecDepth 20000 in
theorem mF_X2_119 : Cond.fieldLink RX2 119 "BeamCuts$Shape" "tilted" "I" ∈ WS := List.mem_filter.mpr ⟨List.mem_of_getElem? (i := 109) rfl, rfl⟩
set_option maxRecDepth 20000 in
theorem mF_X1_33 : Cond.fieldLink RX1 33 "BeamCuts$Shape" "rank" "I" ∈ WS := List.mem_filter.mpr ⟨List.mem_of_getElem? (i := 110) rfl, rfl⟩
set_option maxRecDepth 20000 in
theorem mF_X2_107 : Cond.fieldLink RX2 107 "BeamCuts$Shape" "rank" "I" ∈ WS := List.mem_filter.mpr ⟨List.mem_of_getElem? (i := 111) rfl, rfl⟩
set_option maxRecDepth 20000 in
theorem mF_X1_38 : Cond.fieldLink RX1 38 "BeamCuts$Shape" "edgeIn" "[I" ∈ WS := List.mem_filter.mpr ⟨List.mem_of_getElem? (i := 112) rfl, rfl⟩
set_option maxRecDepth 20000 in
theorem mF_X2_128 : Cond.fieldLink RX2 128 "BeamCuts$Shape" "edgeIn" "[I" ∈ WS := List.mem_filter.mpr ⟨List.mem_of_getElem? (i := 113) rfl, rfl⟩
set_option maxRecDepth 20000 in
theorem mA_int : Cond.arrayClass .int ∈ WS := List.mem_filter.mpr ⟨List.mem_of_getElem? (i := 133) rfl, rfl⟩
set_option maxRecDepth 20000 in
theorem mF_X2_13 : Cond.fieldLink RX2 13 "BeamCuts$Sheet" "shapes" "[LBeamCuts$Shape;" ∈ WS := List.mem_filter.mpr ⟨List.mem_of_getElem? (i := 134) rfl, rfl⟩
set_option maxRecDepth 20000 in
theorem mF_X2_18 : Cond.fieldLink RX2 18 "BeamCuts$Sheet" "heats" "[I" ∈ WS := List.mem_filter.mpr ⟨List.mem_of_getElem? (i := 135) rfl, rfl⟩
set_option maxRecDepth 20000 in
theorem mF_X2_22 : Cond.fieldLink RX2 22 "BeamCuts$Sheet" "settings" "[I" ∈ WS := List.mem_filter.mpr ⟨List.mem_of_getElem? (i := 136) rfl, rfl⟩
set_option maxRecDepth 20000 in
theorem mF_X2_25 : Cond.fieldLink RX2 25 "BeamCuts$Sheet" "told" "I" ∈ WS := List.mem_filter.mpr ⟨List.mem_of_getElem? (i := 137) rfl, rfl⟩
set_option maxRecDepth 20000 in
theorem mF_X3_96 : Cond.fieldLink RX3 96 "BeamCuts$Sheet" "told" "I" ∈ WS := List.mem_filter.mpr ⟨List.mem_of_getElem? (i := 138) rfl, rfl⟩
set_option maxRecDepth 20000 in
theorem mF_X2_29 : Cond.fieldLink RX2 29 "BeamCuts$Sheet" "column" "I" ∈ WS := List.mem_filter.mpr ⟨List.mem_of_getElem? (i := 139) rfl, rfl⟩
set_option maxRecDepth 20000 in
theorem mF_X2_32 : Cond.fieldLink RX2 32 "BeamCuts$Sheet" "row" "I" ∈ WS := List.mem_filter.mpr ⟨List.mem_of_getElem? (i := 140) rfl, rfl⟩
set_option maxRecDepth 20000 in
theorem mF_X2_35 : Cond.fieldLink RX2 35 "BeamCuts$Sheet" "dirt" "I" ∈ WS := List.mem_filter.mpr ⟨List.mem_of_getElem? (i := 141) rfl, rfl⟩
set_option maxRecDepth 20000 in
theorem mF_X2_38 : Cond.fieldLink RX2 38 "BeamCuts$Sheet" "ticks" "I" ∈ WS := List.mem_filter.mpr ⟨List.mem_of_getElem? (i := 142) rfl, rfl⟩
set_option maxRecDepth 20000 in
theorem mF_X3_129 : Cond.fieldLink RX3 129 "BeamCuts$Sheet" "ticks" "I" ∈ WS := List.mem_filter.mpr ⟨List.mem_of_getElem? (i := 143) rfl, rfl⟩
set_option maxRecDepth 20000 in
theorem mF_X2_41 : Cond.fieldLink RX2 41 "BeamCuts$Sheet" "burningTicks" "I" ∈ WS := List.mem_filter.mpr ⟨List.mem_of_getElem? (i := 144) rfl, rfl⟩
set_option maxRecDepth 20000 in
theorem mF_X2_44 : Cond.fieldLink RX2 44 "BeamCuts$Sheet" "cuts" "I" ∈ WS := List.mem_filter.mpr ⟨List.mem_of_getElem? (i := 145) rfl, rfl⟩
set_option maxRecDepth 20000 in
theorem mC_X3_29 : Cond.classLink RX3 29 RX0 ∈ WS := List.mem_filter.mpr ⟨List.mem_of_getElem? (i := 168) rfl, rfl⟩
set_option maxRecDepth 20000 in
theorem mN_X0 : Cond.instantiable RX0 7 ∈ WS := List.mem_filter.mpr ⟨List.mem_of_getElem? (i := 169) rfl, rfl⟩
set_option maxRecDepth 20000 in
theorem mL_X3_31 : Cond.methodLink RX3 31 yX0_init ∈ WS := List.mem_filter.mpr ⟨List.mem_of_getElem? (i := 170) rfl, rfl⟩
set_option maxRecDepth 20000 in
theorem mL_X0_3 : Cond.methodLink RX0 3 objectInit ∈ WS := List.mem_filter.mpr ⟨List.mem_of_getElem? (i := 173) rfl, rfl⟩
set_option maxRecDepth 20000 in
theorem mF_X0_11 : Cond.fieldLink RX0 11 "BeamCuts$Plan" "letters" "[C" ∈ WS := List.mem_filter.mpr ⟨List.mem_of_getElem? (i := 174) rfl, rfl⟩
set_option maxRecDepth 20000 in
theorem mF_X0_15 : Cond.fieldLink RX0 15 "BeamCuts$Plan" "kinds" "[I" ∈ WS := List.mem_filter.mpr ⟨List.mem_of_getElem? (i := 175) rfl, rfl⟩
set_option maxRecDepth 20000 in
theorem mF_X0_19 : Cond.fieldLink RX0 19 "BeamCuts$Plan" "firsts" "[I" ∈ WS := List.mem_filter.mpr ⟨List.mem_of_getElem? (i := 176) rfl, rfl⟩
set_option maxRecDepth 20000 in
theorem mF_X0_22 : Cond.fieldLink RX0 22 "BeamCuts$Plan" "seconds" "[I" ∈ WS := List.mem_filter.mpr ⟨List.mem_of_getElem? (i := 177) rfl, rfl⟩
set_option maxRecDepth 20000 in
theorem mF_X0_25 : Cond.fieldLink RX0 25 "BeamCuts$Plan" "length" "I" ∈ WS := List.mem_filter.mpr ⟨List.mem_of_getElem? (i := 178) rfl, rfl⟩
set_option maxRecDepth 20000 in
theorem mF_X3_132 : Cond.fieldLink RX3 132 "BeamCuts$Plan" "length" "I" ∈ WS := List.mem_filter.mpr ⟨List.mem_of_getElem? (i := 179) rfl, rfl⟩
set_option maxRecDepth 20000 in
theorem mF_X0_29 : Cond.fieldLink RX0 29 "BeamCuts$Plan" "size" "I" ∈ WS := List.mem_filter.mpr ⟨List.mem_of_getElem? (i := 180) rfl, rfl⟩
set_option maxRecDepth 20000 in
theorem mF_X3_89 : Cond.fieldLink RX3 89 "BeamCuts$Plan" "size" "I" ∈ WS := List.mem_filter.mpr ⟨List.mem_of_getElem? (i := 181) rfl, rfl⟩
set_option maxRecDepth 20000 in
theorem mF_X0_32 : Cond.fieldLink RX0 32 "BeamCuts$Plan" "at" "I" ∈ WS := List.mem_filter.mpr ⟨List.mem_of_getElem? (i := 182) rfl, rfl⟩
set_option maxRecDepth 20000 in
theorem mA_char : Cond.arrayClass .char ∈ WS := List.mem_filter.mpr ⟨List.mem_of_getElem? (i := 198) rfl, rfl⟩
set_option maxRecDepth 20000 in
theorem mF_X3_10 : Cond.fieldLink RX3 10 "BeamCuts" "sheet" "LBeamCuts$Sheet;" ∈ WS := List.mem_filter.mpr ⟨List.mem_of_getElem? (i := 199) rfl, rfl⟩
set_option maxRecDepth 20000 in
theorem mF_X3_16 : Cond.fieldLink RX3 16 "BeamCuts" "before" "LBeamCuts$Sheet;" ∈ WS := List.mem_filter.mpr ⟨List.mem_of_getElem? (i := 200) rfl, rfl⟩
set_option maxRecDepth 20000 in
theorem mF_X3_19 : Cond.fieldLink RX3 19 "BeamCuts" "trial" "LBeamCuts$Sheet;" ∈ WS := List.mem_filter.mpr ⟨List.mem_of_getElem? (i := 201) rfl, rfl⟩
set_option maxRecDepth 20000 in
theorem mF_X3_22 : Cond.fieldLink RX3 22 "BeamCuts" "snapshot" "LBeamCuts$Sheet;" ∈ WS := List.mem_filter.mpr ⟨List.mem_of_getElem? (i := 202) rfl, rfl⟩
set_option maxRecDepth 20000 in
theorem mF_X3_25 : Cond.fieldLink RX3 25 "BeamCuts" "history" "[LBeamCuts$Sheet;" ∈ WS := List.mem_filter.mpr ⟨List.mem_of_getElem? (i := 203) rfl, rfl⟩
set_option maxRecDepth 20000 in
theorem mF_X3_32 : Cond.fieldLink RX3 32 "BeamCuts" "plan" "LBeamCuts$Plan;" ∈ WS := List.mem_filter.mpr ⟨List.mem_of_getElem? (i := 204) rfl, rfl⟩
set_option maxRecDepth 20000 in
theorem mF_X3_36 : Cond.fieldLink RX3 36 "BeamCuts" "states" "I" ∈ WS := List.mem_filter.mpr ⟨List.mem_of_getElem? (i := 205) rfl, rfl⟩
set_option maxRecDepth 20000 in
theorem mF_X3_40 : Cond.fieldLink RX3 40 "BeamCuts" "hasSnapshot" "Z" ∈ WS := List.mem_filter.mpr ⟨List.mem_of_getElem? (i := 206) rfl, rfl⟩
set_option maxRecDepth 20000 in
theorem mF_X3_44 : Cond.fieldLink RX3 44 "BeamCuts" "stopNumber" "I" ∈ WS := List.mem_filter.mpr ⟨List.mem_of_getElem? (i := 207) rfl, rfl⟩
set_option maxRecDepth 20000 in
theorem mF_X3_47 : Cond.fieldLink RX3 47 "BeamCuts" "stopError" "I" ∈ WS := List.mem_filter.mpr ⟨List.mem_of_getElem? (i := 208) rfl, rfl⟩
set_option maxRecDepth 20000 in
theorem mL_L_13 : Cond.methodLink RL 13 yX3_tell ∈ WS := List.mem_filter.mpr ⟨List.mem_of_getElem? (i := 230) rfl, rfl⟩
set_option maxRecDepth 20000 in
theorem mL_X3_50 : Cond.methodLink RX3 50 yX2_copyFrom ∈ WS := List.mem_filter.mpr ⟨List.mem_of_getElem? (i := 234) rfl, rfl⟩
set_option maxRecDepth 20000 in
theorem mL_X2_47 : Cond.methodLink RX2 47 yX1_copyFrom ∈ WS := List.mem_filter.mpr ⟨List.mem_of_getElem? (i := 238) rfl, rfl⟩
set_option maxRecDepth 20000 in
theorem mL_X3_54 : Cond.methodLink RX3 54 yX2_addShape ∈ WS := List.mem_filter.mpr ⟨List.mem_of_getElem? (i := 242) rfl, rfl⟩
set_option maxRecDepth 20000 in
theorem mL_X2_55 : Cond.methodLink RX2 55 yX1_place ∈ WS := List.mem_filter.mpr ⟨List.mem_of_getElem? (i := 249) rfl, rfl⟩
set_option maxRecDepth 20000 in
theorem mL_X1_42 : Cond.methodLink RX1 42 yX1_fieldsIn ∈ WS := List.mem_filter.mpr ⟨List.mem_of_getElem? (i := 253) rfl, rfl⟩
set_option maxRecDepth 20000 in
theorem mL_X1_46 : Cond.methodLink RX1 46 Lib.Math.min.name ∈ WS := List.mem_filter.mpr ⟨List.mem_of_getElem? (i := 257) rfl, rfl⟩
set_option maxRecDepth 20000 in
theorem mL_X1_51 : Cond.methodLink RX1 51 Lib.Math.max.name ∈ WS := List.mem_filter.mpr ⟨List.mem_of_getElem? (i := 260) rfl, rfl⟩
set_option maxRecDepth 20000 in
theorem mL_X2_59 : Cond.methodLink RX2 59 yX2_fits ∈ WS := List.mem_filter.mpr ⟨List.mem_of_getElem? (i := 263) rfl, rfl⟩
set_option maxRecDepth 20000 in
theorem mL_X2_63 : Cond.methodLink RX2 63 yX1_isInside ∈ WS := List.mem_filter.mpr ⟨List.mem_of_getElem? (i := 267) rfl, rfl⟩
set_option maxRecDepth 20000 in
theorem mL_X2_69 : Cond.methodLink RX2 69 yX1_isApartFrom ∈ WS := List.mem_filter.mpr ⟨List.mem_of_getElem? (i := 271) rfl, rfl⟩
set_option maxRecDepth 20000 in
theorem mL_X3_58 : Cond.methodLink RX3 58 yX3_recorded ∈ WS := List.mem_filter.mpr ⟨List.mem_of_getElem? (i := 275) rfl, rfl⟩
set_option maxRecDepth 20000 in
theorem mL_X3_138 : Cond.methodLink RX3 138 yX3_dropOldestState ∈ WS := List.mem_filter.mpr ⟨List.mem_of_getElem? (i := 279) rfl, rfl⟩
set_option maxRecDepth 20000 in
theorem mL_L_18 : Cond.methodLink RL 18 yX3_setLead ∈ WS := List.mem_filter.mpr ⟨List.mem_of_getElem? (i := 283) rfl, rfl⟩
set_option maxRecDepth 20000 in
theorem mL_X3_62 : Cond.methodLink RX3 62 yX2_changeLead ∈ WS := List.mem_filter.mpr ⟨List.mem_of_getElem? (i := 287) rfl, rfl⟩
set_option maxRecDepth 20000 in
theorem mL_X2_72 : Cond.methodLink RX2 72 yX2_knows ∈ WS := List.mem_filter.mpr ⟨List.mem_of_getElem? (i := 291) rfl, rfl⟩
set_option maxRecDepth 20000 in
theorem mL_L_23 : Cond.methodLink RL 23 yX3_set ∈ WS := List.mem_filter.mpr ⟨List.mem_of_getElem? (i := 295) rfl, rfl⟩
set_option maxRecDepth 20000 in
theorem mL_X3_66 : Cond.methodLink RX3 66 yX2_changeSetting ∈ WS := List.mem_filter.mpr ⟨List.mem_of_getElem? (i := 299) rfl, rfl⟩
set_option maxRecDepth 20000 in
theorem mF_X2_79 : Cond.fieldLink RX2 79 "BeamCuts$Sheet" "LEAST_SETTINGS" "[I" ∈ WS := List.mem_filter.mpr ⟨List.mem_of_getElem? (i := 303) rfl, rfl⟩
set_option maxRecDepth 20000 in
theorem mF_X2_82 : Cond.fieldLink RX2 82 "BeamCuts$Sheet" "GREATEST_SETTINGS" "[I" ∈ WS := List.mem_filter.mpr ⟨List.mem_of_getElem? (i := 305) rfl, rfl⟩
set_option maxRecDepth 20000 in
theorem mL_L_27 : Cond.methodLink RL 27 yX3_cut ∈ WS := List.mem_filter.mpr ⟨List.mem_of_getElem? (i := 307) rfl, rfl⟩
set_option maxRecDepth 20000 in
theorem mL_X3_69 : Cond.methodLink RX3 69 yX2_cutShape ∈ WS := List.mem_filter.mpr ⟨List.mem_of_getElem? (i := 311) rfl, rfl⟩
set_option maxRecDepth 20000 in
theorem mL_X2_85 : Cond.methodLink RX2 85 yX2_reasonAgainst ∈ WS := List.mem_filter.mpr ⟨List.mem_of_getElem? (i := 315) rfl, rfl⟩
set_option maxRecDepth 20000 in
theorem mL_X2_143 : Cond.methodLink RX2 143 yX2_holdsWholeShape ∈ WS := List.mem_filter.mpr ⟨List.mem_of_getElem? (i := 319) rfl, rfl⟩
set_option maxRecDepth 20000 in
theorem mL_X2_146 : Cond.methodLink RX2 146 yX2_heatOver ∈ WS := List.mem_filter.mpr ⟨List.mem_of_getElem? (i := 323) rfl, rfl⟩
set_option maxRecDepth 20000 in
theorem mL_X2_131 : Cond.methodLink RX2 131 Lib.Math.max.name ∈ WS := List.mem_filter.mpr ⟨List.mem_of_getElem? (i := 327) rfl, rfl⟩
set_option maxRecDepth 20000 in
theorem mL_X2_89 : Cond.methodLink RX2 89 yX2_wayTo ∈ WS := List.mem_filter.mpr ⟨List.mem_of_getElem? (i := 328) rfl, rfl⟩
set_option maxRecDepth 20000 in
theorem mL_X2_97 : Cond.methodLink RX2 97 yX1_leadColumn ∈ WS := List.mem_filter.mpr ⟨List.mem_of_getElem? (i := 332) rfl, rfl⟩
set_option maxRecDepth 20000 in
theorem mL_X2_137 : Cond.methodLink RX2 137 Lib.Math.abs.name ∈ WS := List.mem_filter.mpr ⟨List.mem_of_getElem? (i := 336) rfl, rfl⟩
set_option maxRecDepth 20000 in
theorem mL_X2_101 : Cond.methodLink RX2 101 yX1_leadRow ∈ WS := List.mem_filter.mpr ⟨List.mem_of_getElem? (i := 339) rfl, rfl⟩
set_option maxRecDepth 20000 in
theorem mL_X2_93 : Cond.methodLink RX2 93 yX2_coolFor ∈ WS := List.mem_filter.mpr ⟨List.mem_of_getElem? (i := 343) rfl, rfl⟩
set_option maxRecDepth 20000 in
theorem mL_X2_104 : Cond.methodLink RX2 104 yX2_burnEdge ∈ WS := List.mem_filter.mpr ⟨List.mem_of_getElem? (i := 347) rfl, rfl⟩
set_option maxRecDepth 20000 in
theorem mL_X2_125 : Cond.methodLink RX2 125 yX2_burningOf ∈ WS := List.mem_filter.mpr ⟨List.mem_of_getElem? (i := 351) rfl, rfl⟩
set_option maxRecDepth 20000 in
theorem mL_X2_140 : Cond.methodLink RX2 140 yX1_edge ∈ WS := List.mem_filter.mpr ⟨List.mem_of_getElem? (i := 355) rfl, rfl⟩
set_option maxRecDepth 20000 in
theorem mL_X2_110 : Cond.methodLink RX2 110 yX1_leadSquare ∈ WS := List.mem_filter.mpr ⟨List.mem_of_getElem? (i := 359) rfl, rfl⟩
set_option maxRecDepth 20000 in
theorem mL_X1_54 : Cond.methodLink RX1 54 yX1_leadColumn ∈ WS := List.mem_filter.mpr ⟨List.mem_of_getElem? (i := 363) rfl, rfl⟩
set_option maxRecDepth 20000 in
theorem mL_X1_58 : Cond.methodLink RX1 58 yX1_leadRow ∈ WS := List.mem_filter.mpr ⟨List.mem_of_getElem? (i := 364) rfl, rfl⟩
set_option maxRecDepth 20000 in
theorem mL_X2_113 : Cond.methodLink RX2 113 yX2_heatIn ∈ WS := List.mem_filter.mpr ⟨List.mem_of_getElem? (i := 365) rfl, rfl⟩
set_option maxRecDepth 20000 in
theorem mL_X2_116 : Cond.methodLink RX2 116 yX2_greatestHeat ∈ WS := List.mem_filter.mpr ⟨List.mem_of_getElem? (i := 369) rfl, rfl⟩
set_option maxRecDepth 20000 in
theorem mL_X2_164 : Cond.methodLink RX2 164 yX2_hottestSquare ∈ WS := List.mem_filter.mpr ⟨List.mem_of_getElem? (i := 373) rfl, rfl⟩
set_option maxRecDepth 20000 in
theorem mL_X2_122 : Cond.methodLink RX2 122 yX2_loseShapesInside ∈ WS := List.mem_filter.mpr ⟨List.mem_of_getElem? (i := 377) rfl, rfl⟩
set_option maxRecDepth 20000 in
theorem mL_L_32 : Cond.methodLink RL 32 yX3_pause ∈ WS := List.mem_filter.mpr ⟨List.mem_of_getElem? (i := 381) rfl, rfl⟩
set_option maxRecDepth 20000 in
theorem mL_X3_72 : Cond.methodLink RX3 72 yX2_waitFor ∈ WS := List.mem_filter.mpr ⟨List.mem_of_getElem? (i := 385) rfl, rfl⟩
set_option maxRecDepth 20000 in
theorem mL_L_36 : Cond.methodLink RL 36 yX3_clean ∈ WS := List.mem_filter.mpr ⟨List.mem_of_getElem? (i := 389) rfl, rfl⟩
set_option maxRecDepth 20000 in
theorem mL_X3_75 : Cond.methodLink RX3 75 yX2_cleanLens ∈ WS := List.mem_filter.mpr ⟨List.mem_of_getElem? (i := 393) rfl, rfl⟩
set_option maxRecDepth 20000 in
theorem mL_L_41 : Cond.methodLink RL 41 yX3_type ∈ WS := List.mem_filter.mpr ⟨List.mem_of_getElem? (i := 397) rfl, rfl⟩
set_option maxRecDepth 20000 in
theorem mL_X3_79 : Cond.methodLink RX3 79 yX0_addLetter ∈ WS := List.mem_filter.mpr ⟨List.mem_of_getElem? (i := 401) rfl, rfl⟩
set_option maxRecDepth 20000 in
theorem mL_L_46 : Cond.methodLink RL 46 yX3_clearText ∈ WS := List.mem_filter.mpr ⟨List.mem_of_getElem? (i := 405) rfl, rfl⟩
set_option maxRecDepth 20000 in
theorem mL_X3_83 : Cond.methodLink RX3 83 yX0_dropLetters ∈ WS := List.mem_filter.mpr ⟨List.mem_of_getElem? (i := 409) rfl, rfl⟩
set_option maxRecDepth 20000 in
theorem mL_L_50 : Cond.methodLink RL 50 yX3_perform ∈ WS := List.mem_filter.mpr ⟨List.mem_of_getElem? (i := 413) rfl, rfl⟩
set_option maxRecDepth 20000 in
theorem mL_X3_86 : Cond.methodLink RX3 86 yX0_read ∈ WS := List.mem_filter.mpr ⟨List.mem_of_getElem? (i := 417) rfl, rfl⟩
set_option maxRecDepth 20000 in
theorem mL_X0_35 : Cond.methodLink RX0 35 yX0_readThing ∈ WS := List.mem_filter.mpr ⟨List.mem_of_getElem? (i := 421) rfl, rfl⟩
set_option maxRecDepth 20000 in
theorem mL_X0_39 : Cond.methodLink RX0 39 yX0_readLetter ∈ WS := List.mem_filter.mpr ⟨List.mem_of_getElem? (i := 425) rfl, rfl⟩
set_option maxRecDepth 20000 in
theorem mL_X0_43 : Cond.methodLink RX0 43 yX0_readNumber ∈ WS := List.mem_filter.mpr ⟨List.mem_of_getElem? (i := 429) rfl, rfl⟩
set_option maxRecDepth 20000 in
theorem mL_X0_49 : Cond.methodLink RX0 49 yX0_digitAt ∈ WS := List.mem_filter.mpr ⟨List.mem_of_getElem? (i := 433) rfl, rfl⟩
set_option maxRecDepth 20000 in
theorem mL_X0_53 : Cond.methodLink RX0 53 Lib.Math.max.name ∈ WS := List.mem_filter.mpr ⟨List.mem_of_getElem? (i := 438) rfl, rfl⟩
set_option maxRecDepth 20000 in
theorem mL_X3_92 : Cond.methodLink RX3 92 yX0_doThing ∈ WS := List.mem_filter.mpr ⟨List.mem_of_getElem? (i := 439) rfl, rfl⟩
set_option maxRecDepth 20000 in
theorem mL_X0_63 : Cond.methodLink RX0 63 yX2_cutShape ∈ WS := List.mem_filter.mpr ⟨List.mem_of_getElem? (i := 443) rfl, rfl⟩
set_option maxRecDepth 20000 in
theorem mL_X0_66 : Cond.methodLink RX0 66 yX2_changeLead ∈ WS := List.mem_filter.mpr ⟨List.mem_of_getElem? (i := 444) rfl, rfl⟩
set_option maxRecDepth 20000 in
theorem mL_X0_69 : Cond.methodLink RX0 69 yX2_waitFor ∈ WS := List.mem_filter.mpr ⟨List.mem_of_getElem? (i := 445) rfl, rfl⟩
set_option maxRecDepth 20000 in
theorem mL_X0_72 : Cond.methodLink RX0 72 yX2_cleanLens ∈ WS := List.mem_filter.mpr ⟨List.mem_of_getElem? (i := 446) rfl, rfl⟩
set_option maxRecDepth 20000 in
theorem mL_L_54 : Cond.methodLink RL 54 yX3_stopped ∈ WS := List.mem_filter.mpr ⟨List.mem_of_getElem? (i := 447) rfl, rfl⟩
set_option maxRecDepth 20000 in
theorem mL_L_58 : Cond.methodLink RL 58 yX3_undo ∈ WS := List.mem_filter.mpr ⟨List.mem_of_getElem? (i := 451) rfl, rfl⟩
set_option maxRecDepth 20000 in
theorem mL_L_62 : Cond.methodLink RL 62 yX3_keep ∈ WS := List.mem_filter.mpr ⟨List.mem_of_getElem? (i := 455) rfl, rfl⟩
set_option maxRecDepth 20000 in
theorem mL_L_66 : Cond.methodLink RL 66 yX3_restore ∈ WS := List.mem_filter.mpr ⟨List.mem_of_getElem? (i := 459) rfl, rfl⟩
set_option maxRecDepth 20000 in
theorem mL_L_70 : Cond.methodLink RL 70 yX3_shape ∈ WS := List.mem_filter.mpr ⟨List.mem_of_getElem? (i := 463) rfl, rfl⟩
set_option maxRecDepth 20000 in
theorem mL_X3_99 : Cond.methodLink RX3 99 yX2_factOfShape ∈ WS := List.mem_filter.mpr ⟨List.mem_of_getElem? (i := 467) rfl, rfl⟩
set_option maxRecDepth 20000 in
theorem mL_X2_179 : Cond.methodLink RX2 179 yX2_outerOf ∈ WS := List.mem_filter.mpr ⟨List.mem_of_getElem? (i := 471) rfl, rfl⟩
set_option maxRecDepth 20000 in
theorem mL_X2_182 : Cond.methodLink RX2 182 yX2_setInside ∈ WS := List.mem_filter.mpr ⟨List.mem_of_getElem? (i := 475) rfl, rfl⟩
set_option maxRecDepth 20000 in
theorem mL_L_74 : Cond.methodLink RL 74 yX3_heat ∈ WS := List.mem_filter.mpr ⟨List.mem_of_getElem? (i := 479) rfl, rfl⟩
set_option maxRecDepth 20000 in
theorem mL_X3_102 : Cond.methodLink RX3 102 yX2_heatIn ∈ WS := List.mem_filter.mpr ⟨List.mem_of_getElem? (i := 483) rfl, rfl⟩
set_option maxRecDepth 20000 in
theorem mL_L_78 : Cond.methodLink RL 78 yX3_reason ∈ WS := List.mem_filter.mpr ⟨List.mem_of_getElem? (i := 484) rfl, rfl⟩
set_option maxRecDepth 20000 in
theorem mL_X3_105 : Cond.methodLink RX3 105 yX2_knows ∈ WS := List.mem_filter.mpr ⟨List.mem_of_getElem? (i := 488) rfl, rfl⟩
set_option maxRecDepth 20000 in
theorem mL_X3_109 : Cond.methodLink RX3 109 yX2_reasonAgainst ∈ WS := List.mem_filter.mpr ⟨List.mem_of_getElem? (i := 489) rfl, rfl⟩
set_option maxRecDepth 20000 in
theorem mL_L_82 : Cond.methodLink RL 82 yX3_takes ∈ WS := List.mem_filter.mpr ⟨List.mem_of_getElem? (i := 490) rfl, rfl⟩
set_option maxRecDepth 20000 in
theorem mL_X3_112 : Cond.methodLink RX3 112 yX2_ticksToCut ∈ WS := List.mem_filter.mpr ⟨List.mem_of_getElem? (i := 494) rfl, rfl⟩
set_option maxRecDepth 20000 in
theorem mL_L_86 : Cond.methodLink RL 86 yX3_coolsIn ∈ WS := List.mem_filter.mpr ⟨List.mem_of_getElem? (i := 498) rfl, rfl⟩
set_option maxRecDepth 20000 in
theorem mL_X3_115 : Cond.methodLink RX3 115 yX2_ticksToCool ∈ WS := List.mem_filter.mpr ⟨List.mem_of_getElem? (i := 502) rfl, rfl⟩
set_option maxRecDepth 20000 in
theorem mL_L_90 : Cond.methodLink RL 90 yX3_best ∈ WS := List.mem_filter.mpr ⟨List.mem_of_getElem? (i := 506) rfl, rfl⟩
set_option maxRecDepth 20000 in
theorem mL_X3_118 : Cond.methodLink RX3 118 yX2_bestShape ∈ WS := List.mem_filter.mpr ⟨List.mem_of_getElem? (i := 510) rfl, rfl⟩
set_option maxRecDepth 20000 in
theorem mL_X2_149 : Cond.methodLink RX2 149 yX2_ticksToCut ∈ WS := List.mem_filter.mpr ⟨List.mem_of_getElem? (i := 514) rfl, rfl⟩
set_option maxRecDepth 20000 in
theorem mL_L_94 : Cond.methodLink RL 94 yX3_ordered ∈ WS := List.mem_filter.mpr ⟨List.mem_of_getElem? (i := 515) rfl, rfl⟩
set_option maxRecDepth 20000 in
theorem mL_X3_121 : Cond.methodLink RX3 121 yX2_cutNext ∈ WS := List.mem_filter.mpr ⟨List.mem_of_getElem? (i := 519) rfl, rfl⟩
set_option maxRecDepth 20000 in
theorem mL_X2_155 : Cond.methodLink RX2 155 yX2_bestShape ∈ WS := List.mem_filter.mpr ⟨List.mem_of_getElem? (i := 523) rfl, rfl⟩
set_option maxRecDepth 20000 in
theorem mL_X2_158 : Cond.methodLink RX2 158 yX2_fewestTicksToCool ∈ WS := List.mem_filter.mpr ⟨List.mem_of_getElem? (i := 524) rfl, rfl⟩
set_option maxRecDepth 20000 in
theorem mL_X2_152 : Cond.methodLink RX2 152 yX2_ticksToCool ∈ WS := List.mem_filter.mpr ⟨List.mem_of_getElem? (i := 528) rfl, rfl⟩
set_option maxRecDepth 20000 in
theorem mL_X2_161 : Cond.methodLink RX2 161 yX2_cutShape ∈ WS := List.mem_filter.mpr ⟨List.mem_of_getElem? (i := 529) rfl, rfl⟩
set_option maxRecDepth 20000 in
theorem mL_L_98 : Cond.methodLink RL 98 yX3_allTakes ∈ WS := List.mem_filter.mpr ⟨List.mem_of_getElem? (i := 530) rfl, rfl⟩
set_option maxRecDepth 20000 in
theorem mL_X3_126 : Cond.methodLink RX3 126 yX2_shapesThatAre ∈ WS := List.mem_filter.mpr ⟨List.mem_of_getElem? (i := 534) rfl, rfl⟩
set_option maxRecDepth 20000 in
theorem mL_L_102 : Cond.methodLink RL 102 yX3_count ∈ WS := List.mem_filter.mpr ⟨List.mem_of_getElem? (i := 538) rfl, rfl⟩
set_option maxRecDepth 20000 in
theorem mL_X3_135 : Cond.methodLink RX3 135 yX2_factOfSheet ∈ WS := List.mem_filter.mpr ⟨List.mem_of_getElem? (i := 542) rfl, rfl⟩
set_option maxRecDepth 20000 in
theorem mL_X2_185 : Cond.methodLink RX2 185 yX2_shapesThatAre ∈ WS := List.mem_filter.mpr ⟨List.mem_of_getElem? (i := 546) rfl, rfl⟩
set_option maxRecDepth 20000 in
theorem mL_X2_188 : Cond.methodLink RX2 188 yX2_shapesThatTilted ∈ WS := List.mem_filter.mpr ⟨List.mem_of_getElem? (i := 547) rfl, rfl⟩
set_option maxRecDepth 20000 in
theorem mL_X2_191 : Cond.methodLink RX2 191 yX2_allHeat ∈ WS := List.mem_filter.mpr ⟨List.mem_of_getElem? (i := 551) rfl, rfl⟩
set_option maxRecDepth 20000 in
theorem mC_L_10 : Cond.classLink RL 10 RX4 ∈ WS := List.mem_filter.mpr ⟨List.mem_of_getElem? (i := 555) rfl, rfl⟩
set_option maxRecDepth 20000 in
theorem mN_X4 : Cond.instantiable RX4 21 ∈ WS := List.mem_filter.mpr ⟨List.mem_of_getElem? (i := 556) rfl, rfl⟩
set_option maxRecDepth 20000 in
theorem mL_L_12 : Cond.methodLink RL 12 yX4_init ∈ WS := List.mem_filter.mpr ⟨List.mem_of_getElem? (i := 557) rfl, rfl⟩
set_option maxRecDepth 20000 in
theorem mL_X4_1 : Cond.methodLink RX4 1 objectInit ∈ WS := List.mem_filter.mpr ⟨List.mem_of_getElem? (i := 560) rfl, rfl⟩
set_option maxRecDepth 20000 in
theorem mF_X4_7 : Cond.fieldLink RX4 7 "BeamCutsModel" "s" "[I" ∈ WS := List.mem_filter.mpr ⟨List.mem_of_getElem? (i := 561) rfl, rfl⟩
set_option maxRecDepth 20000 in
theorem mF_X4_13 : Cond.fieldLink RX4 13 "BeamCutsModel" "aside" "[I" ∈ WS := List.mem_filter.mpr ⟨List.mem_of_getElem? (i := 562) rfl, rfl⟩
set_option maxRecDepth 20000 in
theorem mF_X4_16 : Cond.fieldLink RX4 16 "BeamCutsModel" "ahead" "[I" ∈ WS := List.mem_filter.mpr ⟨List.mem_of_getElem? (i := 563) rfl, rfl⟩
set_option maxRecDepth 20000 in
theorem mF_X4_19 : Cond.fieldLink RX4 19 "BeamCutsModel" "snapshot" "[I" ∈ WS := List.mem_filter.mpr ⟨List.mem_of_getElem? (i := 564) rfl, rfl⟩
set_option maxRecDepth 20000 in
theorem mF_X4_187 : Cond.fieldLink RX4 187 "BeamCutsModel" "isKept" "Z" ∈ WS := List.mem_filter.mpr ⟨List.mem_of_getElem? (i := 565) rfl, rfl⟩
set_option maxRecDepth 20000 in
theorem mF_X4_22 : Cond.fieldLink RX4 22 "BeamCutsModel" "before" "[I" ∈ WS := List.mem_filter.mpr ⟨List.mem_of_getElem? (i := 566) rfl, rfl⟩
set_option maxRecDepth 20000 in
theorem mF_X4_49 : Cond.fieldLink RX4 49 "BeamCutsModel" "known" "I" ∈ WS := List.mem_filter.mpr ⟨List.mem_of_getElem? (i := 567) rfl, rfl⟩
set_option maxRecDepth 20000 in
theorem mF_X4_25 : Cond.fieldLink RX4 25 "BeamCutsModel" "text" "[I" ∈ WS := List.mem_filter.mpr ⟨List.mem_of_getElem? (i := 568) rfl, rfl⟩
set_option maxRecDepth 20000 in
theorem mF_X4_146 : Cond.fieldLink RX4 146 "BeamCutsModel" "length" "I" ∈ WS := List.mem_filter.mpr ⟨List.mem_of_getElem? (i := 569) rfl, rfl⟩
set_option maxRecDepth 20000 in
theorem mF_X4_28 : Cond.fieldLink RX4 28 "BeamCutsModel" "stopAt" "I" ∈ WS := List.mem_filter.mpr ⟨List.mem_of_getElem? (i := 570) rfl, rfl⟩
set_option maxRecDepth 20000 in
theorem mF_X4_32 : Cond.fieldLink RX4 32 "BeamCutsModel" "stopBy" "I" ∈ WS := List.mem_filter.mpr ⟨List.mem_of_getElem? (i := 571) rfl, rfl⟩
set_option maxRecDepth 20000 in
theorem mF_X4_153 : Cond.fieldLink RX4 153 "BeamCutsModel" "position" "I" ∈ WS := List.mem_filter.mpr ⟨List.mem_of_getElem? (i := 572) rfl, rfl⟩
set_option maxRecDepth 20000 in
theorem mF_X4_149 : Cond.fieldLink RX4 149 "BeamCutsModel" "isWrong" "Z" ∈ WS := List.mem_filter.mpr ⟨List.mem_of_getElem? (i := 573) rfl, rfl⟩
set_option maxRecDepth 20000 in
theorem mF_X4_162 : Cond.fieldLink RX4 162 "BeamCutsModel" "letter" "I" ∈ WS := List.mem_filter.mpr ⟨List.mem_of_getElem? (i := 574) rfl, rfl⟩
set_option maxRecDepth 20000 in
theorem mF_X4_168 : Cond.fieldLink RX4 168 "BeamCutsModel" "number" "I" ∈ WS := List.mem_filter.mpr ⟨List.mem_of_getElem? (i := 575) rfl, rfl⟩
set_option maxRecDepth 20000 in
theorem mF_X4_171 : Cond.fieldLink RX4 171 "BeamCutsModel" "corner" "I" ∈ WS := List.mem_filter.mpr ⟨List.mem_of_getElem? (i := 576) rfl, rfl⟩
set_option maxRecDepth 20000 in
theorem mF_X4_174 : Cond.fieldLink RX4 174 "BeamCutsModel" "stop" "I" ∈ WS := List.mem_filter.mpr ⟨List.mem_of_getElem? (i := 577) rfl, rfl⟩
set_option maxRecDepth 20000 in
theorem mF_X4_35 : Cond.fieldLink RX4 35 "BeamCutsModel" "order" "[I" ∈ WS := List.mem_filter.mpr ⟨List.mem_of_getElem? (i := 578) rfl, rfl⟩
set_option maxRecDepth 20000 in
theorem mF_X4_208 : Cond.fieldLink RX4 208 "BeamCutsModel" "orderedMany" "I" ∈ WS := List.mem_filter.mpr ⟨List.mem_of_getElem? (i := 579) rfl, rfl⟩
set_option maxRecDepth 20000 in
theorem mF_X4_214 : Cond.fieldLink RX4 214 "BeamCutsModel" "orderTicks" "I" ∈ WS := List.mem_filter.mpr ⟨List.mem_of_getElem? (i := 580) rfl, rfl⟩
set_option maxRecDepth 20000 in
theorem mF_X4_220 : Cond.fieldLink RX4 220 "BeamCutsModel" "isAll" "Z" ∈ WS := List.mem_filter.mpr ⟨List.mem_of_getElem? (i := 581) rfl, rfl⟩
set_option maxRecDepth 20000 in
theorem mL_L_17 : Cond.methodLink RL 17 yX4_tell ∈ WS := List.mem_filter.mpr ⟨List.mem_of_getElem? (i := 625) rfl, rfl⟩
set_option maxRecDepth 20000 in
theorem mL_X4_38 : Cond.methodLink RX4 38 yX4_in ∈ WS := List.mem_filter.mpr ⟨List.mem_of_getElem? (i := 629) rfl, rfl⟩
set_option maxRecDepth 20000 in
theorem mL_X4_117 : Cond.methodLink RX4 117 yX4_couldBe ∈ WS := List.mem_filter.mpr ⟨List.mem_of_getElem? (i := 632) rfl, rfl⟩
set_option maxRecDepth 20000 in
theorem mL_X4_52 : Cond.methodLink RX4 52 yX4_lastColumn ∈ WS := List.mem_filter.mpr ⟨List.mem_of_getElem? (i := 636) rfl, rfl⟩
set_option maxRecDepth 20000 in
theorem mL_X4_46 : Cond.methodLink RX4 46 yX4_of ∈ WS := List.mem_filter.mpr ⟨List.mem_of_getElem? (i := 640) rfl, rfl⟩
set_option maxRecDepth 20000 in
theorem mL_X4_42 : Cond.methodLink RX4 42 yX4_at ∈ WS := List.mem_filter.mpr ⟨List.mem_of_getElem? (i := 644) rfl, rfl⟩
set_option maxRecDepth 20000 in
theorem mL_X4_56 : Cond.methodLink RX4 56 yX4_lastRow ∈ WS := List.mem_filter.mpr ⟨List.mem_of_getElem? (i := 647) rfl, rfl⟩
set_option maxRecDepth 20000 in
theorem mL_X4_66 : Cond.methodLink RX4 66 yX4_isWhole ∈ WS := List.mem_filter.mpr ⟨List.mem_of_getElem? (i := 651) rfl, rfl⟩
set_option maxRecDepth 20000 in
theorem mL_X4_121 : Cond.methodLink RX4 121 yX4_looks ∈ WS := List.mem_filter.mpr ⟨List.mem_of_getElem? (i := 655) rfl, rfl⟩
set_option maxRecDepth 20000 in
theorem mL_X4_114 : Cond.methodLink RX4 114 yX4_records ∈ WS := List.mem_filter.mpr ⟨List.mem_of_getElem? (i := 659) rfl, rfl⟩
set_option maxRecDepth 20000 in
theorem mL_X4_124 : Cond.methodLink RX4 124 yX4_lays ∈ WS := List.mem_filter.mpr ⟨List.mem_of_getElem? (i := 663) rfl, rfl⟩
set_option maxRecDepth 20000 in
theorem mL_L_22 : Cond.methodLink RL 22 yX4_setLead ∈ WS := List.mem_filter.mpr ⟨List.mem_of_getElem? (i := 667) rfl, rfl⟩
set_option maxRecDepth 20000 in
theorem mL_X4_128 : Cond.methodLink RX4 128 yX4_leads ∈ WS := List.mem_filter.mpr ⟨List.mem_of_getElem? (i := 671) rfl, rfl⟩
set_option maxRecDepth 20000 in
theorem mL_X4_97 : Cond.methodLink RX4 97 yX4_isShape ∈ WS := List.mem_filter.mpr ⟨List.mem_of_getElem? (i := 675) rfl, rfl⟩
set_option maxRecDepth 20000 in
theorem mL_X4_131 : Cond.methodLink RX4 131 yX4_acted ∈ WS := List.mem_filter.mpr ⟨List.mem_of_getElem? (i := 679) rfl, rfl⟩
set_option maxRecDepth 20000 in
theorem mL_L_26 : Cond.methodLink RL 26 yX4_set ∈ WS := List.mem_filter.mpr ⟨List.mem_of_getElem? (i := 683) rfl, rfl⟩
set_option maxRecDepth 20000 in
theorem mL_X4_134 : Cond.methodLink RX4 134 yX4_most ∈ WS := List.mem_filter.mpr ⟨List.mem_of_getElem? (i := 687) rfl, rfl⟩
set_option maxRecDepth 20000 in
theorem mL_L_31 : Cond.methodLink RL 31 yX4_cut ∈ WS := List.mem_filter.mpr ⟨List.mem_of_getElem? (i := 690) rfl, rfl⟩
set_option maxRecDepth 20000 in
theorem mL_X4_137 : Cond.methodLink RX4 137 yX4_cuts ∈ WS := List.mem_filter.mpr ⟨List.mem_of_getElem? (i := 694) rfl, rfl⟩
set_option maxRecDepth 20000 in
theorem mL_X4_100 : Cond.methodLink RX4 100 yX4_why ∈ WS := List.mem_filter.mpr ⟨List.mem_of_getElem? (i := 698) rfl, rfl⟩
set_option maxRecDepth 20000 in
theorem mL_X4_88 : Cond.methodLink RX4 88 yX4_hasWholeInside ∈ WS := List.mem_filter.mpr ⟨List.mem_of_getElem? (i := 702) rfl, rfl⟩
set_option maxRecDepth 20000 in
theorem mL_X4_62 : Cond.methodLink RX4 62 yX4_isInside ∈ WS := List.mem_filter.mpr ⟨List.mem_of_getElem? (i := 706) rfl, rfl⟩
set_option maxRecDepth 20000 in
theorem mL_X4_91 : Cond.methodLink RX4 91 yX4_going ∈ WS := List.mem_filter.mpr ⟨List.mem_of_getElem? (i := 710) rfl, rfl⟩
set_option maxRecDepth 20000 in
theorem mL_X4_70 : Cond.methodLink RX4 70 yX4_leadColumn ∈ WS := List.mem_filter.mpr ⟨List.mem_of_getElem? (i := 714) rfl, rfl⟩
set_option maxRecDepth 20000 in
theorem mL_X4_73 : Cond.methodLink RX4 73 yX4_off ∈ WS := List.mem_filter.mpr ⟨List.mem_of_getElem? (i := 718) rfl, rfl⟩
set_option maxRecDepth 20000 in
theorem mL_X4_76 : Cond.methodLink RX4 76 yX4_leadRow ∈ WS := List.mem_filter.mpr ⟨List.mem_of_getElem? (i := 721) rfl, rfl⟩
set_option maxRecDepth 20000 in
theorem mL_X4_94 : Cond.methodLink RX4 94 yX4_isTooHot ∈ WS := List.mem_filter.mpr ⟨List.mem_of_getElem? (i := 725) rfl, rfl⟩
set_option maxRecDepth 20000 in
theorem mL_X4_85 : Cond.methodLink RX4 85 yX4_edgeIn ∈ WS := List.mem_filter.mpr ⟨List.mem_of_getElem? (i := 729) rfl, rfl⟩
set_option maxRecDepth 20000 in
theorem mL_X4_59 : Cond.methodLink RX4 59 yX4_isOnEdge ∈ WS := List.mem_filter.mpr ⟨List.mem_of_getElem? (i := 733) rfl, rfl⟩
set_option maxRecDepth 20000 in
theorem mL_X4_82 : Cond.methodLink RX4 82 yX4_cooled ∈ WS := List.mem_filter.mpr ⟨List.mem_of_getElem? (i := 737) rfl, rfl⟩
set_option maxRecDepth 20000 in
theorem mL_X4_103 : Cond.methodLink RX4 103 yX4_cools ∈ WS := List.mem_filter.mpr ⟨List.mem_of_getElem? (i := 740) rfl, rfl⟩
set_option maxRecDepth 20000 in
theorem mL_X4_107 : Cond.methodLink RX4 107 yX4_burning ∈ WS := List.mem_filter.mpr ⟨List.mem_of_getElem? (i := 744) rfl, rfl⟩
set_option maxRecDepth 20000 in
theorem mL_X4_79 : Cond.methodLink RX4 79 yX4_edge ∈ WS := List.mem_filter.mpr ⟨List.mem_of_getElem? (i := 748) rfl, rfl⟩
set_option maxRecDepth 20000 in
theorem mL_X4_110 : Cond.methodLink RX4 110 yX4_hottest ∈ WS := List.mem_filter.mpr ⟨List.mem_of_getElem? (i := 752) rfl, rfl⟩
set_option maxRecDepth 20000 in
theorem mL_L_35 : Cond.methodLink RL 35 yX4_pause ∈ WS := List.mem_filter.mpr ⟨List.mem_of_getElem? (i := 756) rfl, rfl⟩
set_option maxRecDepth 20000 in
theorem mL_X4_140 : Cond.methodLink RX4 140 yX4_waits ∈ WS := List.mem_filter.mpr ⟨List.mem_of_getElem? (i := 760) rfl, rfl⟩
set_option maxRecDepth 20000 in
theorem mL_L_40 : Cond.methodLink RL 40 yX4_clean ∈ WS := List.mem_filter.mpr ⟨List.mem_of_getElem? (i := 764) rfl, rfl⟩
set_option maxRecDepth 20000 in
theorem mL_X4_143 : Cond.methodLink RX4 143 yX4_cleans ∈ WS := List.mem_filter.mpr ⟨List.mem_of_getElem? (i := 768) rfl, rfl⟩
set_option maxRecDepth 20000 in
theorem mL_L_45 : Cond.methodLink RL 45 yX4_type ∈ WS := List.mem_filter.mpr ⟨List.mem_of_getElem? (i := 772) rfl, rfl⟩
set_option maxRecDepth 20000 in
theorem mL_L_49 : Cond.methodLink RL 49 yX4_clearText ∈ WS := List.mem_filter.mpr ⟨List.mem_of_getElem? (i := 776) rfl, rfl⟩
set_option maxRecDepth 20000 in
theorem mL_L_53 : Cond.methodLink RL 53 yX4_perform ∈ WS := List.mem_filter.mpr ⟨List.mem_of_getElem? (i := 780) rfl, rfl⟩
set_option maxRecDepth 20000 in
theorem mL_X4_183 : Cond.methodLink RX4 183 yX4_runs ∈ WS := List.mem_filter.mpr ⟨List.mem_of_getElem? (i := 784) rfl, rfl⟩
set_option maxRecDepth 20000 in
theorem mL_X4_177 : Cond.methodLink RX4 177 yX4_readThing ∈ WS := List.mem_filter.mpr ⟨List.mem_of_getElem? (i := 788) rfl, rfl⟩
set_option maxRecDepth 20000 in
theorem mL_X4_165 : Cond.methodLink RX4 165 yX4_takesNumber ∈ WS := List.mem_filter.mpr ⟨List.mem_of_getElem? (i := 792) rfl, rfl⟩
set_option maxRecDepth 20000 in
theorem mL_X4_156 : Cond.methodLink RX4 156 yX4_takesOne ∈ WS := List.mem_filter.mpr ⟨List.mem_of_getElem? (i := 796) rfl, rfl⟩
set_option maxRecDepth 20000 in
theorem mL_X4_159 : Cond.methodLink RX4 159 yX4_isNext ∈ WS := List.mem_filter.mpr ⟨List.mem_of_getElem? (i := 800) rfl, rfl⟩
set_option maxRecDepth 20000 in
theorem mL_X4_180 : Cond.methodLink RX4 180 yX4_does ∈ WS := List.mem_filter.mpr ⟨List.mem_of_getElem? (i := 804) rfl, rfl⟩
set_option maxRecDepth 20000 in
theorem mL_L_57 : Cond.methodLink RL 57 yX4_stopped ∈ WS := List.mem_filter.mpr ⟨List.mem_of_getElem? (i := 808) rfl, rfl⟩
set_option maxRecDepth 20000 in
theorem mL_L_61 : Cond.methodLink RL 61 yX4_undo ∈ WS := List.mem_filter.mpr ⟨List.mem_of_getElem? (i := 812) rfl, rfl⟩
set_option maxRecDepth 20000 in
theorem mL_L_65 : Cond.methodLink RL 65 yX4_keep ∈ WS := List.mem_filter.mpr ⟨List.mem_of_getElem? (i := 816) rfl, rfl⟩
set_option maxRecDepth 20000 in
theorem mL_L_69 : Cond.methodLink RL 69 yX4_restore ∈ WS := List.mem_filter.mpr ⟨List.mem_of_getElem? (i := 820) rfl, rfl⟩
set_option maxRecDepth 20000 in
theorem mL_L_73 : Cond.methodLink RL 73 yX4_shape ∈ WS := List.mem_filter.mpr ⟨List.mem_of_getElem? (i := 824) rfl, rfl⟩
set_option maxRecDepth 20000 in
theorem mL_X4_190 : Cond.methodLink RX4 190 yX4_outer ∈ WS := List.mem_filter.mpr ⟨List.mem_of_getElem? (i := 828) rfl, rfl⟩
set_option maxRecDepth 20000 in
theorem mL_X4_193 : Cond.methodLink RX4 193 yX4_inner ∈ WS := List.mem_filter.mpr ⟨List.mem_of_getElem? (i := 832) rfl, rfl⟩
set_option maxRecDepth 20000 in
theorem mL_L_77 : Cond.methodLink RL 77 yX4_heat ∈ WS := List.mem_filter.mpr ⟨List.mem_of_getElem? (i := 836) rfl, rfl⟩
set_option maxRecDepth 20000 in
theorem mL_L_81 : Cond.methodLink RL 81 yX4_reason ∈ WS := List.mem_filter.mpr ⟨List.mem_of_getElem? (i := 840) rfl, rfl⟩
set_option maxRecDepth 20000 in
theorem mL_L_85 : Cond.methodLink RL 85 yX4_takes ∈ WS := List.mem_filter.mpr ⟨List.mem_of_getElem? (i := 844) rfl, rfl⟩
set_option maxRecDepth 20000 in
theorem mL_X4_196 : Cond.methodLink RX4 196 yX4_ticksOf ∈ WS := List.mem_filter.mpr ⟨List.mem_of_getElem? (i := 848) rfl, rfl⟩
set_option maxRecDepth 20000 in
theorem mL_L_89 : Cond.methodLink RL 89 yX4_coolsIn ∈ WS := List.mem_filter.mpr ⟨List.mem_of_getElem? (i := 852) rfl, rfl⟩
set_option maxRecDepth 20000 in
theorem mL_X4_199 : Cond.methodLink RX4 199 yX4_waitFor ∈ WS := List.mem_filter.mpr ⟨List.mem_of_getElem? (i := 856) rfl, rfl⟩
set_option maxRecDepth 20000 in
theorem mL_L_93 : Cond.methodLink RL 93 yX4_best ∈ WS := List.mem_filter.mpr ⟨List.mem_of_getElem? (i := 860) rfl, rfl⟩
set_option maxRecDepth 20000 in
theorem mL_X4_202 : Cond.methodLink RX4 202 yX4_bestOne ∈ WS := List.mem_filter.mpr ⟨List.mem_of_getElem? (i := 864) rfl, rfl⟩
set_option maxRecDepth 20000 in
theorem mL_L_97 : Cond.methodLink RL 97 yX4_ordered ∈ WS := List.mem_filter.mpr ⟨List.mem_of_getElem? (i := 868) rfl, rfl⟩
set_option maxRecDepth 20000 in
theorem mL_X4_226 : Cond.methodLink RX4 226 yX4_layOrder ∈ WS := List.mem_filter.mpr ⟨List.mem_of_getElem? (i := 872) rfl, rfl⟩
set_option maxRecDepth 20000 in
theorem mL_X4_205 : Cond.methodLink RX4 205 yX4_putAside ∈ WS := List.mem_filter.mpr ⟨List.mem_of_getElem? (i := 876) rfl, rfl⟩
set_option maxRecDepth 20000 in
theorem mL_X4_211 : Cond.methodLink RX4 211 yX4_soonest ∈ WS := List.mem_filter.mpr ⟨List.mem_of_getElem? (i := 880) rfl, rfl⟩
set_option maxRecDepth 20000 in
theorem mL_X4_217 : Cond.methodLink RX4 217 yX4_many ∈ WS := List.mem_filter.mpr ⟨List.mem_of_getElem? (i := 884) rfl, rfl⟩
set_option maxRecDepth 20000 in
theorem mL_X4_223 : Cond.methodLink RX4 223 yX4_putBack ∈ WS := List.mem_filter.mpr ⟨List.mem_of_getElem? (i := 888) rfl, rfl⟩
set_option maxRecDepth 20000 in
theorem mL_L_101 : Cond.methodLink RL 101 yX4_allTakes ∈ WS := List.mem_filter.mpr ⟨List.mem_of_getElem? (i := 892) rfl, rfl⟩
set_option maxRecDepth 20000 in
theorem mL_L_105 : Cond.methodLink RL 105 yX4_count ∈ WS := List.mem_filter.mpr ⟨List.mem_of_getElem? (i := 896) rfl, rfl⟩
set_option maxRecDepth 20000 in
theorem mL_X4_229 : Cond.methodLink RX4 229 yX4_tilted ∈ WS := List.mem_filter.mpr ⟨List.mem_of_getElem? (i := 900) rfl, rfl⟩
set_option maxRecDepth 20000 in
theorem mL_X4_232 : Cond.methodLink RX4 232 yX4_hottestSquare ∈ WS := List.mem_filter.mpr ⟨List.mem_of_getElem? (i := 904) rfl, rfl⟩
set_option maxRecDepth 20000 in
theorem mL_X4_235 : Cond.methodLink RX4 235 yX4_allHeat ∈ WS := List.mem_filter.mpr ⟨List.mem_of_getElem? (i := 908) rfl, rfl⟩
set_option maxRecDepth 20000 in
theorem mK_X3_init : Cond.code yX3_init cX3_init 2 none ∈ WS := List.mem_filter.mpr ⟨List.mem_of_getElem? (i := 79) rfl, rfl⟩
set_option maxRecDepth 20000 in
theorem mM_X3_init : Cond.instanceMethod yX3_init ∈ WS := List.mem_filter.mpr ⟨List.mem_of_getElem? (i := 78) rfl, rfl⟩
set_option maxRecDepth 20000 in
theorem mK_objInit : Cond.code objectInit ⟨#[0xb1]⟩ 1 none ∈ WS := List.mem_filter.mpr ⟨List.mem_of_getElem? (i := 82) rfl, rfl⟩
set_option maxRecDepth 20000 in
theorem mM_objInit : Cond.instanceMethod objectInit ∈ WS := List.mem_filter.mpr ⟨List.mem_of_getElem? (i := 81) rfl, rfl⟩
set_option maxRecDepth 20000 in
theorem mK_X2_init : Cond.code yX2_init cX2_init 2 none ∈ WS := List.mem_filter.mpr ⟨List.mem_of_getElem? (i := 87) rfl, rfl⟩
set_option maxRecDepth 20000 in
theorem mM_X2_init : Cond.instanceMethod yX2_init ∈ WS := List.mem_filter.mpr ⟨List.mem_of_getElem? (i := 86) rfl, rfl⟩
set_option maxRecDepth 20000 in
theorem mK_X1_init : Cond.code yX1_init cX1_init 1 none ∈ WS := List.mem_filter.mpr ⟨List.mem_of_getElem? (i := 94) rfl, rfl⟩
set_option maxRecDepth 20000 in
theorem mM_X1_init : Cond.instanceMethod yX1_init ∈ WS := List.mem_filter.mpr ⟨List.mem_of_getElem? (i := 93) rfl, rfl⟩
set_option maxRecDepth 20000 in
theorem mK_X0_init : Cond.code yX0_init cX0_init 1 none ∈ WS := List.mem_filter.mpr ⟨List.mem_of_getElem? (i := 172) rfl, rfl⟩
set_option maxRecDepth 20000 in
theorem mM_X0_init : Cond.instanceMethod yX0_init ∈ WS := List.mem_filter.mpr ⟨List.mem_of_getElem? (i := 171) rfl, rfl⟩
set_option maxRecDepth 20000 in
theorem mK_X3_tell : Cond.code yX3_tell cX3_tell 5 (some .int) ∈ WS := List.mem_filter.mpr ⟨List.mem_of_getElem? (i := 233) rfl, rfl⟩
set_option maxRecDepth 20000 in
theorem mM_X3_tell : Cond.instanceMethod yX3_tell ∈ WS := List.mem_filter.mpr ⟨List.mem_of_getElem? (i := 231) rfl, rfl⟩
set_option maxRecDepth 20000 in
theorem mS_X3_tell : Cond.selects RX3 yX3_tell yX3_tell ∈ WS := List.mem_filter.mpr ⟨List.mem_of_getElem? (i := 232) rfl, rfl⟩
set_option maxRecDepth 20000 in
theorem mK_X2_copyFrom : Cond.code yX2_copyFrom cX2_copyFrom 3 none ∈ WS := List.mem_filter.mpr ⟨List.mem_of_getElem? (i := 237) rfl, rfl⟩
set_option maxRecDepth 20000 in
theorem mM_X2_copyFrom : Cond.instanceMethod yX2_copyFrom ∈ WS := List.mem_filter.mpr ⟨List.mem_of_getElem? (i := 235) rfl, rfl⟩
set_option maxRecDepth 20000 in
theorem mS_X2_copyFrom : Cond.selects RX2 yX2_copyFrom yX2_copyFrom ∈ WS := List.mem_filter.mpr ⟨List.mem_of_getElem? (i := 236) rfl, rfl⟩
set_option maxRecDepth 20000 in
theorem mK_X1_copyFrom : Cond.code yX1_copyFrom cX1_copyFrom 3 none ∈ WS := List.mem_filter.mpr ⟨List.mem_of_getElem? (i := 241) rfl, rfl⟩
set_option maxRecDepth 20000 in
theorem mM_X1_copyFrom : Cond.instanceMethod yX1_copyFrom ∈ WS := List.mem_filter.mpr ⟨List.mem_of_getElem? (i := 239) rfl, rfl⟩
set_option maxRecDepth 20000 in
theorem mS_X1_copyFrom : Cond.selects RX1 yX1_copyFrom yX1_copyFrom ∈ WS := List.mem_filter.mpr ⟨List.mem_of_getElem? (i := 240) rfl, rfl⟩
set_option maxRecDepth 20000 in
theorem mK_X2_addShape : Cond.code yX2_addShape cX2_addShape 6 (some .int) ∈ WS := List.mem_filter.mpr ⟨List.mem_of_getElem? (i := 245) rfl, rfl⟩
set_option maxRecDepth 20000 in
theorem mM_X2_addShape : Cond.instanceMethod yX2_addShape ∈ WS := List.mem_filter.mpr ⟨List.mem_of_getElem? (i := 243) rfl, rfl⟩
set_option maxRecDepth 20000 in
theorem mS_X2_addShape : Cond.selects RX2 yX2_addShape yX2_addShape ∈ WS := List.mem_filter.mpr ⟨List.mem_of_getElem? (i := 244) rfl, rfl⟩
set_option maxRecDepth 20000 in
theorem mK_X3_isIn : Cond.code yX3_isIn cX3_isIn 3 (some .boolean) ∈ WS := List.mem_filter.mpr ⟨List.mem_of_getElem? (i := 248) rfl, rfl⟩
set_option maxRecDepth 20000 in
theorem mT_X3_isIn : Cond.static yX3_isIn ∈ WS := List.mem_filter.mpr ⟨List.mem_of_getElem? (i := 247) rfl, rfl⟩
set_option maxRecDepth 20000 in
theorem mK_X1_place : Cond.code yX1_place cX1_place 6 none ∈ WS := List.mem_filter.mpr ⟨List.mem_of_getElem? (i := 252) rfl, rfl⟩
set_option maxRecDepth 20000 in
theorem mM_X1_place : Cond.instanceMethod yX1_place ∈ WS := List.mem_filter.mpr ⟨List.mem_of_getElem? (i := 250) rfl, rfl⟩
set_option maxRecDepth 20000 in
theorem mS_X1_place : Cond.selects RX1 yX1_place yX1_place ∈ WS := List.mem_filter.mpr ⟨List.mem_of_getElem? (i := 251) rfl, rfl⟩
set_option maxRecDepth 20000 in
theorem mK_X1_fieldsIn : Cond.code yX1_fieldsIn cX1_fieldsIn 7 (some .int) ∈ WS := List.mem_filter.mpr ⟨List.mem_of_getElem? (i := 256) rfl, rfl⟩
set_option maxRecDepth 20000 in
theorem mM_X1_fieldsIn : Cond.instanceMethod yX1_fieldsIn ∈ WS := List.mem_filter.mpr ⟨List.mem_of_getElem? (i := 255) rfl, rfl⟩
set_option maxRecDepth 20000 in
theorem mS_X1_fieldsIn : Cond.selects RX1 yX1_fieldsIn yX1_fieldsIn ∈ WS := List.mem_filter.mpr ⟨List.mem_of_getElem? (i := 0) rfl, rfl⟩
set_option maxRecDepth 20000 in
theorem mK_min : Cond.code Lib.Math.min.name Lib.Math.min.code 2 (some .int) ∈ WS := List.mem_filter.mpr ⟨List.mem_of_getElem? (i := 259) rfl, rfl⟩
set_option maxRecDepth 20000 in
theorem mT_min : Cond.static Lib.Math.min.name ∈ WS := List.mem_filter.mpr ⟨List.mem_of_getElem? (i := 258) rfl, rfl⟩
set_option maxRecDepth 20000 in
theorem mK_max : Cond.code Lib.Math.max.name Lib.Math.max.code 2 (some .int) ∈ WS := List.mem_filter.mpr ⟨List.mem_of_getElem? (i := 262) rfl, rfl⟩
set_option maxRecDepth 20000 in
theorem mT_max : Cond.static Lib.Math.max.name ∈ WS := List.mem_filter.mpr ⟨List.mem_of_getElem? (i := 261) rfl, rfl⟩
set_option maxRecDepth 20000 in
theorem mK_X2_fits : Cond.code yX2_fits cX2_fits 5 (some .boolean) ∈ WS := List.mem_filter.mpr ⟨List.mem_of_getElem? (i := 266) rfl, rfl⟩
set_option maxRecDepth 20000 in
theorem mM_X2_fits : Cond.instanceMethod yX2_fits ∈ WS := List.mem_filter.mpr ⟨List.mem_of_getElem? (i := 265) rfl, rfl⟩
set_option maxRecDepth 20000 in
theorem mS_X2_fits : Cond.selects RX2 yX2_fits yX2_fits ∈ WS := List.mem_filter.mpr ⟨List.mem_of_getElem? (i := 1) rfl, rfl⟩
set_option maxRecDepth 20000 in
theorem mK_X1_isInside : Cond.code yX1_isInside cX1_isInside 2 (some .boolean) ∈ WS := List.mem_filter.mpr ⟨List.mem_of_getElem? (i := 270) rfl, rfl⟩
set_option maxRecDepth 20000 in
theorem mM_X1_isInside : Cond.instanceMethod yX1_isInside ∈ WS := List.mem_filter.mpr ⟨List.mem_of_getElem? (i := 268) rfl, rfl⟩
set_option maxRecDepth 20000 in
theorem mS_X1_isInside : Cond.selects RX1 yX1_isInside yX1_isInside ∈ WS := List.mem_filter.mpr ⟨List.mem_of_getElem? (i := 269) rfl, rfl⟩
set_option maxRecDepth 20000 in
theorem mK_X1_isApartFrom : Cond.code yX1_isApartFrom cX1_isApartFrom 2 (some .boolean) ∈ WS := List.mem_filter.mpr ⟨List.mem_of_getElem? (i := 274) rfl, rfl⟩
set_option maxRecDepth 20000 in
theorem mM_X1_isApartFrom : Cond.instanceMethod yX1_isApartFrom ∈ WS := List.mem_filter.mpr ⟨List.mem_of_getElem? (i := 272) rfl, rfl⟩
set_option maxRecDepth 20000 in
theorem mS_X1_isApartFrom : Cond.selects RX1 yX1_isApartFrom yX1_isApartFrom ∈ WS := List.mem_filter.mpr ⟨List.mem_of_getElem? (i := 273) rfl, rfl⟩
set_option maxRecDepth 20000 in
theorem mK_X3_recorded : Cond.code yX3_recorded cX3_recorded 2 (some .int) ∈ WS := List.mem_filter.mpr ⟨List.mem_of_getElem? (i := 278) rfl, rfl⟩
set_option maxRecDepth 20000 in
theorem mM_X3_recorded : Cond.instanceMethod yX3_recorded ∈ WS := List.mem_filter.mpr ⟨List.mem_of_getElem? (i := 277) rfl, rfl⟩
set_option maxRecDepth 20000 in
theorem mS_X3_recorded : Cond.selects RX3 yX3_recorded yX3_recorded ∈ WS := List.mem_filter.mpr ⟨List.mem_of_getElem? (i := 2) rfl, rfl⟩
set_option maxRecDepth 20000 in
theorem mK_X3_dropOldestState : Cond.code yX3_dropOldestState cX3_dropOldestState 3 none ∈ WS := List.mem_filter.mpr ⟨List.mem_of_getElem? (i := 282) rfl, rfl⟩
set_option maxRecDepth 20000 in
theorem mM_X3_dropOldestState : Cond.instanceMethod yX3_dropOldestState ∈ WS := List.mem_filter.mpr ⟨List.mem_of_getElem? (i := 281) rfl, rfl⟩
set_option maxRecDepth 20000 in
theorem mS_X3_dropOldestState : Cond.selects RX3 yX3_dropOldestState yX3_dropOldestState ∈ WS := List.mem_filter.mpr ⟨List.mem_of_getElem? (i := 3) rfl, rfl⟩
set_option maxRecDepth 20000 in
theorem mK_X3_setLead : Cond.code yX3_setLead cX3_setLead 3 (some .int) ∈ WS := List.mem_filter.mpr ⟨List.mem_of_getElem? (i := 286) rfl, rfl⟩
set_option maxRecDepth 20000 in
theorem mM_X3_setLead : Cond.instanceMethod yX3_setLead ∈ WS := List.mem_filter.mpr ⟨List.mem_of_getElem? (i := 284) rfl, rfl⟩
set_option maxRecDepth 20000 in
theorem mS_X3_setLead : Cond.selects RX3 yX3_setLead yX3_setLead ∈ WS := List.mem_filter.mpr ⟨List.mem_of_getElem? (i := 285) rfl, rfl⟩
set_option maxRecDepth 20000 in
theorem mK_X2_changeLead : Cond.code yX2_changeLead cX2_changeLead 5 (some .int) ∈ WS := List.mem_filter.mpr ⟨List.mem_of_getElem? (i := 290) rfl, rfl⟩
set_option maxRecDepth 20000 in
theorem mM_X2_changeLead : Cond.instanceMethod yX2_changeLead ∈ WS := List.mem_filter.mpr ⟨List.mem_of_getElem? (i := 288) rfl, rfl⟩
set_option maxRecDepth 20000 in
theorem mS_X2_changeLead : Cond.selects RX2 yX2_changeLead yX2_changeLead ∈ WS := List.mem_filter.mpr ⟨List.mem_of_getElem? (i := 289) rfl, rfl⟩
set_option maxRecDepth 20000 in
theorem mK_X2_knows : Cond.code yX2_knows cX2_knows 2 (some .boolean) ∈ WS := List.mem_filter.mpr ⟨List.mem_of_getElem? (i := 294) rfl, rfl⟩
set_option maxRecDepth 20000 in
theorem mM_X2_knows : Cond.instanceMethod yX2_knows ∈ WS := List.mem_filter.mpr ⟨List.mem_of_getElem? (i := 292) rfl, rfl⟩
set_option maxRecDepth 20000 in
theorem mS_X2_knows : Cond.selects RX2 yX2_knows yX2_knows ∈ WS := List.mem_filter.mpr ⟨List.mem_of_getElem? (i := 293) rfl, rfl⟩
set_option maxRecDepth 20000 in
theorem mK_X3_set : Cond.code yX3_set cX3_set 3 (some .int) ∈ WS := List.mem_filter.mpr ⟨List.mem_of_getElem? (i := 298) rfl, rfl⟩
set_option maxRecDepth 20000 in
theorem mM_X3_set : Cond.instanceMethod yX3_set ∈ WS := List.mem_filter.mpr ⟨List.mem_of_getElem? (i := 296) rfl, rfl⟩
set_option maxRecDepth 20000 in
theorem mS_X3_set : Cond.selects RX3 yX3_set yX3_set ∈ WS := List.mem_filter.mpr ⟨List.mem_of_getElem? (i := 297) rfl, rfl⟩
set_option maxRecDepth 20000 in
theorem mK_X2_changeSetting : Cond.code yX2_changeSetting cX2_changeSetting 4 (some .int) ∈ WS := List.mem_filter.mpr ⟨List.mem_of_getElem? (i := 302) rfl, rfl⟩
set_option maxRecDepth 20000 in
theorem mM_X2_changeSetting : Cond.instanceMethod yX2_changeSetting ∈ WS := List.mem_filter.mpr ⟨List.mem_of_getElem? (i := 300) rfl, rfl⟩
set_option maxRecDepth 20000 in
theorem mS_X2_changeSetting : Cond.selects RX2 yX2_changeSetting yX2_changeSetting ∈ WS := List.mem_filter.mpr ⟨List.mem_of_getElem? (i := 301) rfl, rfl⟩
set_option maxRecDepth 20000 in
theorem mK_X3_cut : Cond.code yX3_cut cX3_cut 2 (some .int) ∈ WS := List.mem_filter.mpr ⟨List.mem_of_getElem? (i := 310) rfl, rfl⟩
set_option maxRecDepth 20000 in
theorem mM_X3_cut : Cond.instanceMethod yX3_cut ∈ WS := List.mem_filter.mpr ⟨List.mem_of_getElem? (i := 308) rfl, rfl⟩
set_option maxRecDepth 20000 in
theorem mS_X3_cut : Cond.selects RX3 yX3_cut yX3_cut ∈ WS := List.mem_filter.mpr ⟨List.mem_of_getElem? (i := 309) rfl, rfl⟩
set_option maxRecDepth 20000 in
theorem mK_X2_cutShape : Cond.code yX2_cutShape cX2_cutShape 4 (some .int) ∈ WS := List.mem_filter.mpr ⟨List.mem_of_getElem? (i := 314) rfl, rfl⟩
set_option maxRecDepth 20000 in
theorem mM_X2_cutShape : Cond.instanceMethod yX2_cutShape ∈ WS := List.mem_filter.mpr ⟨List.mem_of_getElem? (i := 312) rfl, rfl⟩
set_option maxRecDepth 20000 in
theorem mS_X2_cutShape : Cond.selects RX2 yX2_cutShape yX2_cutShape ∈ WS := List.mem_filter.mpr ⟨List.mem_of_getElem? (i := 313) rfl, rfl⟩
set_option maxRecDepth 20000 in
theorem mK_X2_reasonAgainst : Cond.code yX2_reasonAgainst cX2_reasonAgainst 3 (some .int) ∈ WS := List.mem_filter.mpr ⟨List.mem_of_getElem? (i := 318) rfl, rfl⟩
set_option maxRecDepth 20000 in
theorem mM_X2_reasonAgainst : Cond.instanceMethod yX2_reasonAgainst ∈ WS := List.mem_filter.mpr ⟨List.mem_of_getElem? (i := 316) rfl, rfl⟩
set_option maxRecDepth 20000 in
theorem mS_X2_reasonAgainst : Cond.selects RX2 yX2_reasonAgainst yX2_reasonAgainst ∈ WS := List.mem_filter.mpr ⟨List.mem_of_getElem? (i := 317) rfl, rfl⟩
set_option maxRecDepth 20000 in
theorem mK_X2_holdsWholeShape : Cond.code yX2_holdsWholeShape cX2_holdsWholeShape 3 (some .boolean) ∈ WS := List.mem_filter.mpr ⟨List.mem_of_getElem? (i := 322) rfl, rfl⟩
set_option maxRecDepth 20000 in
theorem mM_X2_holdsWholeShape : Cond.instanceMethod yX2_holdsWholeShape ∈ WS := List.mem_filter.mpr ⟨List.mem_of_getElem? (i := 321) rfl, rfl⟩
set_option maxRecDepth 20000 in
theorem mS_X2_holdsWholeShape : Cond.selects RX2 yX2_holdsWholeShape yX2_holdsWholeShape ∈ WS := List.mem_filter.mpr ⟨List.mem_of_getElem? (i := 4) rfl, rfl⟩
set_option maxRecDepth 20000 in
theorem mK_X2_heatOver : Cond.code yX2_heatOver cX2_heatOver 4 (some .int) ∈ WS := List.mem_filter.mpr ⟨List.mem_of_getElem? (i := 326) rfl, rfl⟩
set_option maxRecDepth 20000 in
theorem mM_X2_heatOver : Cond.instanceMethod yX2_heatOver ∈ WS := List.mem_filter.mpr ⟨List.mem_of_getElem? (i := 325) rfl, rfl⟩
set_option maxRecDepth 20000 in
theorem mS_X2_heatOver : Cond.selects RX2 yX2_heatOver yX2_heatOver ∈ WS := List.mem_filter.mpr ⟨List.mem_of_getElem? (i := 5) rfl, rfl⟩
set_option maxRecDepth 20000 in
theorem mK_X2_wayTo : Cond.code yX2_wayTo cX2_wayTo 2 (some .int) ∈ WS := List.mem_filter.mpr ⟨List.mem_of_getElem? (i := 331) rfl, rfl⟩
set_option maxRecDepth 20000 in
theorem mM_X2_wayTo : Cond.instanceMethod yX2_wayTo ∈ WS := List.mem_filter.mpr ⟨List.mem_of_getElem? (i := 330) rfl, rfl⟩
set_option maxRecDepth 20000 in
theorem mS_X2_wayTo : Cond.selects RX2 yX2_wayTo yX2_wayTo ∈ WS := List.mem_filter.mpr ⟨List.mem_of_getElem? (i := 6) rfl, rfl⟩
set_option maxRecDepth 20000 in
theorem mK_X1_leadColumn : Cond.code yX1_leadColumn cX1_leadColumn 1 (some .int) ∈ WS := List.mem_filter.mpr ⟨List.mem_of_getElem? (i := 335) rfl, rfl⟩
set_option maxRecDepth 20000 in
theorem mM_X1_leadColumn : Cond.instanceMethod yX1_leadColumn ∈ WS := List.mem_filter.mpr ⟨List.mem_of_getElem? (i := 333) rfl, rfl⟩
set_option maxRecDepth 20000 in
theorem mS_X1_leadColumn : Cond.selects RX1 yX1_leadColumn yX1_leadColumn ∈ WS := List.mem_filter.mpr ⟨List.mem_of_getElem? (i := 334) rfl, rfl⟩
set_option maxRecDepth 20000 in
theorem mK_abs : Cond.code Lib.Math.abs.name Lib.Math.abs.code 1 (some .int) ∈ WS := List.mem_filter.mpr ⟨List.mem_of_getElem? (i := 338) rfl, rfl⟩
set_option maxRecDepth 20000 in
theorem mT_abs : Cond.static Lib.Math.abs.name ∈ WS := List.mem_filter.mpr ⟨List.mem_of_getElem? (i := 337) rfl, rfl⟩
set_option maxRecDepth 20000 in
theorem mK_X1_leadRow : Cond.code yX1_leadRow cX1_leadRow 1 (some .int) ∈ WS := List.mem_filter.mpr ⟨List.mem_of_getElem? (i := 342) rfl, rfl⟩
set_option maxRecDepth 20000 in
theorem mM_X1_leadRow : Cond.instanceMethod yX1_leadRow ∈ WS := List.mem_filter.mpr ⟨List.mem_of_getElem? (i := 340) rfl, rfl⟩
set_option maxRecDepth 20000 in
theorem mS_X1_leadRow : Cond.selects RX1 yX1_leadRow yX1_leadRow ∈ WS := List.mem_filter.mpr ⟨List.mem_of_getElem? (i := 341) rfl, rfl⟩
set_option maxRecDepth 20000 in
theorem mK_X2_coolFor : Cond.code yX2_coolFor cX2_coolFor 3 none ∈ WS := List.mem_filter.mpr ⟨List.mem_of_getElem? (i := 346) rfl, rfl⟩
set_option maxRecDepth 20000 in
theorem mM_X2_coolFor : Cond.instanceMethod yX2_coolFor ∈ WS := List.mem_filter.mpr ⟨List.mem_of_getElem? (i := 345) rfl, rfl⟩
set_option maxRecDepth 20000 in
theorem mS_X2_coolFor : Cond.selects RX2 yX2_coolFor yX2_coolFor ∈ WS := List.mem_filter.mpr ⟨List.mem_of_getElem? (i := 7) rfl, rfl⟩
set_option maxRecDepth 20000 in
theorem mK_X2_burnEdge : Cond.code yX2_burnEdge cX2_burnEdge 4 none ∈ WS := List.mem_filter.mpr ⟨List.mem_of_getElem? (i := 350) rfl, rfl⟩
set_option maxRecDepth 20000 in
theorem mM_X2_burnEdge : Cond.instanceMethod yX2_burnEdge ∈ WS := List.mem_filter.mpr ⟨List.mem_of_getElem? (i := 349) rfl, rfl⟩
set_option maxRecDepth 20000 in
theorem mS_X2_burnEdge : Cond.selects RX2 yX2_burnEdge yX2_burnEdge ∈ WS := List.mem_filter.mpr ⟨List.mem_of_getElem? (i := 8) rfl, rfl⟩
set_option maxRecDepth 20000 in
theorem mK_X2_burningOf : Cond.code yX2_burningOf cX2_burningOf 2 (some .int) ∈ WS := List.mem_filter.mpr ⟨List.mem_of_getElem? (i := 354) rfl, rfl⟩
set_option maxRecDepth 20000 in
theorem mM_X2_burningOf : Cond.instanceMethod yX2_burningOf ∈ WS := List.mem_filter.mpr ⟨List.mem_of_getElem? (i := 353) rfl, rfl⟩
set_option maxRecDepth 20000 in
theorem mS_X2_burningOf : Cond.selects RX2 yX2_burningOf yX2_burningOf ∈ WS := List.mem_filter.mpr ⟨List.mem_of_getElem? (i := 9) rfl, rfl⟩
set_option maxRecDepth 20000 in
theorem mK_X1_edge : Cond.code yX1_edge cX1_edge 1 (some .int) ∈ WS := List.mem_filter.mpr ⟨List.mem_of_getElem? (i := 358) rfl, rfl⟩
set_option maxRecDepth 20000 in
theorem mM_X1_edge : Cond.instanceMethod yX1_edge ∈ WS := List.mem_filter.mpr ⟨List.mem_of_getElem? (i := 356) rfl, rfl⟩
set_option maxRecDepth 20000 in
theorem mS_X1_edge : Cond.selects RX1 yX1_edge yX1_edge ∈ WS := List.mem_filter.mpr ⟨List.mem_of_getElem? (i := 357) rfl, rfl⟩
set_option maxRecDepth 20000 in
theorem mK_X1_leadSquare : Cond.code yX1_leadSquare cX1_leadSquare 1 (some .int) ∈ WS := List.mem_filter.mpr ⟨List.mem_of_getElem? (i := 362) rfl, rfl⟩
set_option maxRecDepth 20000 in
theorem mM_X1_leadSquare : Cond.instanceMethod yX1_leadSquare ∈ WS := List.mem_filter.mpr ⟨List.mem_of_getElem? (i := 360) rfl, rfl⟩
set_option maxRecDepth 20000 in
theorem mS_X1_leadSquare : Cond.selects RX1 yX1_leadSquare yX1_leadSquare ∈ WS := List.mem_filter.mpr ⟨List.mem_of_getElem? (i := 361) rfl, rfl⟩
set_option maxRecDepth 20000 in
theorem mK_X2_heatIn : Cond.code yX2_heatIn cX2_heatIn 2 (some .int) ∈ WS := List.mem_filter.mpr ⟨List.mem_of_getElem? (i := 368) rfl, rfl⟩
set_option maxRecDepth 20000 in
theorem mM_X2_heatIn : Cond.instanceMethod yX2_heatIn ∈ WS := List.mem_filter.mpr ⟨List.mem_of_getElem? (i := 366) rfl, rfl⟩
set_option maxRecDepth 20000 in
theorem mS_X2_heatIn : Cond.selects RX2 yX2_heatIn yX2_heatIn ∈ WS := List.mem_filter.mpr ⟨List.mem_of_getElem? (i := 367) rfl, rfl⟩
set_option maxRecDepth 20000 in
theorem mK_X2_greatestHeat : Cond.code yX2_greatestHeat cX2_greatestHeat 1 (some .int) ∈ WS := List.mem_filter.mpr ⟨List.mem_of_getElem? (i := 372) rfl, rfl⟩
set_option maxRecDepth 20000 in
theorem mM_X2_greatestHeat : Cond.instanceMethod yX2_greatestHeat ∈ WS := List.mem_filter.mpr ⟨List.mem_of_getElem? (i := 371) rfl, rfl⟩
set_option maxRecDepth 20000 in
theorem mS_X2_greatestHeat : Cond.selects RX2 yX2_greatestHeat yX2_greatestHeat ∈ WS := List.mem_filter.mpr ⟨List.mem_of_getElem? (i := 10) rfl, rfl⟩
set_option maxRecDepth 20000 in
theorem mK_X2_hottestSquare : Cond.code yX2_hottestSquare cX2_hottestSquare 3 (some .int) ∈ WS := List.mem_filter.mpr ⟨List.mem_of_getElem? (i := 376) rfl, rfl⟩
set_option maxRecDepth 20000 in
theorem mM_X2_hottestSquare : Cond.instanceMethod yX2_hottestSquare ∈ WS := List.mem_filter.mpr ⟨List.mem_of_getElem? (i := 375) rfl, rfl⟩
set_option maxRecDepth 20000 in
theorem mS_X2_hottestSquare : Cond.selects RX2 yX2_hottestSquare yX2_hottestSquare ∈ WS := List.mem_filter.mpr ⟨List.mem_of_getElem? (i := 11) rfl, rfl⟩
set_option maxRecDepth 20000 in
theorem mK_X2_loseShapesInside : Cond.code yX2_loseShapesInside cX2_loseShapesInside 5 (some .int) ∈ WS := List.mem_filter.mpr ⟨List.mem_of_getElem? (i := 380) rfl, rfl⟩
set_option maxRecDepth 20000 in
theorem mM_X2_loseShapesInside : Cond.instanceMethod yX2_loseShapesInside ∈ WS := List.mem_filter.mpr ⟨List.mem_of_getElem? (i := 379) rfl, rfl⟩
set_option maxRecDepth 20000 in
theorem mS_X2_loseShapesInside : Cond.selects RX2 yX2_loseShapesInside yX2_loseShapesInside ∈ WS := List.mem_filter.mpr ⟨List.mem_of_getElem? (i := 12) rfl, rfl⟩
set_option maxRecDepth 20000 in
theorem mK_X3_pause : Cond.code yX3_pause cX3_pause 2 (some .int) ∈ WS := List.mem_filter.mpr ⟨List.mem_of_getElem? (i := 384) rfl, rfl⟩
set_option maxRecDepth 20000 in
theorem mM_X3_pause : Cond.instanceMethod yX3_pause ∈ WS := List.mem_filter.mpr ⟨List.mem_of_getElem? (i := 382) rfl, rfl⟩
set_option maxRecDepth 20000 in
theorem mS_X3_pause : Cond.selects RX3 yX3_pause yX3_pause ∈ WS := List.mem_filter.mpr ⟨List.mem_of_getElem? (i := 383) rfl, rfl⟩
set_option maxRecDepth 20000 in
theorem mK_X2_waitFor : Cond.code yX2_waitFor cX2_waitFor 2 (some .int) ∈ WS := List.mem_filter.mpr ⟨List.mem_of_getElem? (i := 388) rfl, rfl⟩
set_option maxRecDepth 20000 in
theorem mM_X2_waitFor : Cond.instanceMethod yX2_waitFor ∈ WS := List.mem_filter.mpr ⟨List.mem_of_getElem? (i := 386) rfl, rfl⟩
set_option maxRecDepth 20000 in
theorem mS_X2_waitFor : Cond.selects RX2 yX2_waitFor yX2_waitFor ∈ WS := List.mem_filter.mpr ⟨List.mem_of_getElem? (i := 387) rfl, rfl⟩
set_option maxRecDepth 20000 in
theorem mK_X3_clean : Cond.code yX3_clean cX3_clean 1 (some .int) ∈ WS := List.mem_filter.mpr ⟨List.mem_of_getElem? (i := 392) rfl, rfl⟩
set_option maxRecDepth 20000 in
theorem mM_X3_clean : Cond.instanceMethod yX3_clean ∈ WS := List.mem_filter.mpr ⟨List.mem_of_getElem? (i := 390) rfl, rfl⟩
set_option maxRecDepth 20000 in
theorem mS_X3_clean : Cond.selects RX3 yX3_clean yX3_clean ∈ WS := List.mem_filter.mpr ⟨List.mem_of_getElem? (i := 391) rfl, rfl⟩
set_option maxRecDepth 20000 in
theorem mK_X2_cleanLens : Cond.code yX2_cleanLens cX2_cleanLens 2 (some .int) ∈ WS := List.mem_filter.mpr ⟨List.mem_of_getElem? (i := 396) rfl, rfl⟩
set_option maxRecDepth 20000 in
theorem mM_X2_cleanLens : Cond.instanceMethod yX2_cleanLens ∈ WS := List.mem_filter.mpr ⟨List.mem_of_getElem? (i := 394) rfl, rfl⟩
set_option maxRecDepth 20000 in
theorem mS_X2_cleanLens : Cond.selects RX2 yX2_cleanLens yX2_cleanLens ∈ WS := List.mem_filter.mpr ⟨List.mem_of_getElem? (i := 395) rfl, rfl⟩
set_option maxRecDepth 20000 in
theorem mK_X3_type : Cond.code yX3_type cX3_type 2 (some .int) ∈ WS := List.mem_filter.mpr ⟨List.mem_of_getElem? (i := 400) rfl, rfl⟩
set_option maxRecDepth 20000 in
theorem mM_X3_type : Cond.instanceMethod yX3_type ∈ WS := List.mem_filter.mpr ⟨List.mem_of_getElem? (i := 398) rfl, rfl⟩
set_option maxRecDepth 20000 in
theorem mS_X3_type : Cond.selects RX3 yX3_type yX3_type ∈ WS := List.mem_filter.mpr ⟨List.mem_of_getElem? (i := 399) rfl, rfl⟩
set_option maxRecDepth 20000 in
theorem mK_X0_addLetter : Cond.code yX0_addLetter cX0_addLetter 2 (some .int) ∈ WS := List.mem_filter.mpr ⟨List.mem_of_getElem? (i := 404) rfl, rfl⟩
set_option maxRecDepth 20000 in
theorem mM_X0_addLetter : Cond.instanceMethod yX0_addLetter ∈ WS := List.mem_filter.mpr ⟨List.mem_of_getElem? (i := 402) rfl, rfl⟩
set_option maxRecDepth 20000 in
theorem mS_X0_addLetter : Cond.selects RX0 yX0_addLetter yX0_addLetter ∈ WS := List.mem_filter.mpr ⟨List.mem_of_getElem? (i := 403) rfl, rfl⟩
set_option maxRecDepth 20000 in
theorem mK_X3_clearText : Cond.code yX3_clearText cX3_clearText 1 (some .int) ∈ WS := List.mem_filter.mpr ⟨List.mem_of_getElem? (i := 408) rfl, rfl⟩
set_option maxRecDepth 20000 in
theorem mM_X3_clearText : Cond.instanceMethod yX3_clearText ∈ WS := List.mem_filter.mpr ⟨List.mem_of_getElem? (i := 406) rfl, rfl⟩
set_option maxRecDepth 20000 in
theorem mS_X3_clearText : Cond.selects RX3 yX3_clearText yX3_clearText ∈ WS := List.mem_filter.mpr ⟨List.mem_of_getElem? (i := 407) rfl, rfl⟩
set_option maxRecDepth 20000 in
theorem mK_X0_dropLetters : Cond.code yX0_dropLetters cX0_dropLetters 2 (some .int) ∈ WS := List.mem_filter.mpr ⟨List.mem_of_getElem? (i := 412) rfl, rfl⟩
set_option maxRecDepth 20000 in
theorem mM_X0_dropLetters : Cond.instanceMethod yX0_dropLetters ∈ WS := List.mem_filter.mpr ⟨List.mem_of_getElem? (i := 410) rfl, rfl⟩
set_option maxRecDepth 20000 in
theorem mS_X0_dropLetters : Cond.selects RX0 yX0_dropLetters yX0_dropLetters ∈ WS := List.mem_filter.mpr ⟨List.mem_of_getElem? (i := 411) rfl, rfl⟩
set_option maxRecDepth 20000 in
theorem mK_X3_perform : Cond.code yX3_perform cX3_perform 4 (some .int) ∈ WS := List.mem_filter.mpr ⟨List.mem_of_getElem? (i := 416) rfl, rfl⟩
set_option maxRecDepth 20000 in
theorem mM_X3_perform : Cond.instanceMethod yX3_perform ∈ WS := List.mem_filter.mpr ⟨List.mem_of_getElem? (i := 414) rfl, rfl⟩
set_option maxRecDepth 20000 in
theorem mS_X3_perform : Cond.selects RX3 yX3_perform yX3_perform ∈ WS := List.mem_filter.mpr ⟨List.mem_of_getElem? (i := 415) rfl, rfl⟩
set_option maxRecDepth 20000 in
theorem mK_X0_read : Cond.code yX0_read cX0_read 1 (some .int) ∈ WS := List.mem_filter.mpr ⟨List.mem_of_getElem? (i := 420) rfl, rfl⟩
set_option maxRecDepth 20000 in
theorem mM_X0_read : Cond.instanceMethod yX0_read ∈ WS := List.mem_filter.mpr ⟨List.mem_of_getElem? (i := 418) rfl, rfl⟩
set_option maxRecDepth 20000 in
theorem mS_X0_read : Cond.selects RX0 yX0_read yX0_read ∈ WS := List.mem_filter.mpr ⟨List.mem_of_getElem? (i := 419) rfl, rfl⟩
set_option maxRecDepth 20000 in
theorem mK_X0_readThing : Cond.code yX0_readThing cX0_readThing 1 (some .boolean) ∈ WS := List.mem_filter.mpr ⟨List.mem_of_getElem? (i := 424) rfl, rfl⟩
set_option maxRecDepth 20000 in
theorem mM_X0_readThing : Cond.instanceMethod yX0_readThing ∈ WS := List.mem_filter.mpr ⟨List.mem_of_getElem? (i := 423) rfl, rfl⟩
set_option maxRecDepth 20000 in
theorem mS_X0_readThing : Cond.selects RX0 yX0_readThing yX0_readThing ∈ WS := List.mem_filter.mpr ⟨List.mem_of_getElem? (i := 13) rfl, rfl⟩
set_option maxRecDepth 20000 in
theorem mK_X0_readLetter : Cond.code yX0_readLetter cX0_readLetter 2 (some .boolean) ∈ WS := List.mem_filter.mpr ⟨List.mem_of_getElem? (i := 428) rfl, rfl⟩
set_option maxRecDepth 20000 in
theorem mM_X0_readLetter : Cond.instanceMethod yX0_readLetter ∈ WS := List.mem_filter.mpr ⟨List.mem_of_getElem? (i := 427) rfl, rfl⟩
set_option maxRecDepth 20000 in
theorem mS_X0_readLetter : Cond.selects RX0 yX0_readLetter yX0_readLetter ∈ WS := List.mem_filter.mpr ⟨List.mem_of_getElem? (i := 14) rfl, rfl⟩
set_option maxRecDepth 20000 in
theorem mK_X0_readNumber : Cond.code yX0_readNumber cX0_readNumber 5 (some .boolean) ∈ WS := List.mem_filter.mpr ⟨List.mem_of_getElem? (i := 432) rfl, rfl⟩
set_option maxRecDepth 20000 in
theorem mM_X0_readNumber : Cond.instanceMethod yX0_readNumber ∈ WS := List.mem_filter.mpr ⟨List.mem_of_getElem? (i := 431) rfl, rfl⟩
set_option maxRecDepth 20000 in
theorem mS_X0_readNumber : Cond.selects RX0 yX0_readNumber yX0_readNumber ∈ WS := List.mem_filter.mpr ⟨List.mem_of_getElem? (i := 15) rfl, rfl⟩
set_option maxRecDepth 20000 in
theorem mK_X0_digitAt : Cond.code yX0_digitAt cX0_digitAt 2 (some .int) ∈ WS := List.mem_filter.mpr ⟨List.mem_of_getElem? (i := 436) rfl, rfl⟩
set_option maxRecDepth 20000 in
theorem mM_X0_digitAt : Cond.instanceMethod yX0_digitAt ∈ WS := List.mem_filter.mpr ⟨List.mem_of_getElem? (i := 435) rfl, rfl⟩
set_option maxRecDepth 20000 in
theorem mS_X0_digitAt : Cond.selects RX0 yX0_digitAt yX0_digitAt ∈ WS := List.mem_filter.mpr ⟨List.mem_of_getElem? (i := 16) rfl, rfl⟩
set_option maxRecDepth 20000 in
theorem mK_X0_doThing : Cond.code yX0_doThing cX0_doThing 3 (some .int) ∈ WS := List.mem_filter.mpr ⟨List.mem_of_getElem? (i := 442) rfl, rfl⟩
set_option maxRecDepth 20000 in
theorem mM_X0_doThing : Cond.instanceMethod yX0_doThing ∈ WS := List.mem_filter.mpr ⟨List.mem_of_getElem? (i := 440) rfl, rfl⟩
set_option maxRecDepth 20000 in
theorem mS_X0_doThing : Cond.selects RX0 yX0_doThing yX0_doThing ∈ WS := List.mem_filter.mpr ⟨List.mem_of_getElem? (i := 441) rfl, rfl⟩
set_option maxRecDepth 20000 in
theorem mK_X3_stopped : Cond.code yX3_stopped cX3_stopped 2 (some .int) ∈ WS := List.mem_filter.mpr ⟨List.mem_of_getElem? (i := 450) rfl, rfl⟩
set_option maxRecDepth 20000 in
theorem mM_X3_stopped : Cond.instanceMethod yX3_stopped ∈ WS := List.mem_filter.mpr ⟨List.mem_of_getElem? (i := 448) rfl, rfl⟩
set_option maxRecDepth 20000 in
theorem mS_X3_stopped : Cond.selects RX3 yX3_stopped yX3_stopped ∈ WS := List.mem_filter.mpr ⟨List.mem_of_getElem? (i := 449) rfl, rfl⟩
set_option maxRecDepth 20000 in
theorem mK_X3_undo : Cond.code yX3_undo cX3_undo 1 (some .int) ∈ WS := List.mem_filter.mpr ⟨List.mem_of_getElem? (i := 454) rfl, rfl⟩
set_option maxRecDepth 20000 in
theorem mM_X3_undo : Cond.instanceMethod yX3_undo ∈ WS := List.mem_filter.mpr ⟨List.mem_of_getElem? (i := 452) rfl, rfl⟩
set_option maxRecDepth 20000 in
theorem mS_X3_undo : Cond.selects RX3 yX3_undo yX3_undo ∈ WS := List.mem_filter.mpr ⟨List.mem_of_getElem? (i := 453) rfl, rfl⟩
set_option maxRecDepth 20000 in
theorem mK_X3_keep : Cond.code yX3_keep cX3_keep 1 (some .int) ∈ WS := List.mem_filter.mpr ⟨List.mem_of_getElem? (i := 458) rfl, rfl⟩
set_option maxRecDepth 20000 in
theorem mM_X3_keep : Cond.instanceMethod yX3_keep ∈ WS := List.mem_filter.mpr ⟨List.mem_of_getElem? (i := 456) rfl, rfl⟩
set_option maxRecDepth 20000 in
theorem mS_X3_keep : Cond.selects RX3 yX3_keep yX3_keep ∈ WS := List.mem_filter.mpr ⟨List.mem_of_getElem? (i := 457) rfl, rfl⟩
set_option maxRecDepth 20000 in
theorem mK_X3_restore : Cond.code yX3_restore cX3_restore 1 (some .int) ∈ WS := List.mem_filter.mpr ⟨List.mem_of_getElem? (i := 462) rfl, rfl⟩
set_option maxRecDepth 20000 in
theorem mM_X3_restore : Cond.instanceMethod yX3_restore ∈ WS := List.mem_filter.mpr ⟨List.mem_of_getElem? (i := 460) rfl, rfl⟩
set_option maxRecDepth 20000 in
theorem mS_X3_restore : Cond.selects RX3 yX3_restore yX3_restore ∈ WS := List.mem_filter.mpr ⟨List.mem_of_getElem? (i := 461) rfl, rfl⟩
set_option maxRecDepth 20000 in
theorem mK_X3_shape : Cond.code yX3_shape cX3_shape 3 (some .int) ∈ WS := List.mem_filter.mpr ⟨List.mem_of_getElem? (i := 466) rfl, rfl⟩
set_option maxRecDepth 20000 in
theorem mM_X3_shape : Cond.instanceMethod yX3_shape ∈ WS := List.mem_filter.mpr ⟨List.mem_of_getElem? (i := 464) rfl, rfl⟩
set_option maxRecDepth 20000 in
theorem mS_X3_shape : Cond.selects RX3 yX3_shape yX3_shape ∈ WS := List.mem_filter.mpr ⟨List.mem_of_getElem? (i := 465) rfl, rfl⟩
set_option maxRecDepth 20000 in
theorem mK_X2_factOfShape : Cond.code yX2_factOfShape cX2_factOfShape 4 (some .int) ∈ WS := List.mem_filter.mpr ⟨List.mem_of_getElem? (i := 470) rfl, rfl⟩
set_option maxRecDepth 20000 in
theorem mM_X2_factOfShape : Cond.instanceMethod yX2_factOfShape ∈ WS := List.mem_filter.mpr ⟨List.mem_of_getElem? (i := 468) rfl, rfl⟩
set_option maxRecDepth 20000 in
theorem mS_X2_factOfShape : Cond.selects RX2 yX2_factOfShape yX2_factOfShape ∈ WS := List.mem_filter.mpr ⟨List.mem_of_getElem? (i := 469) rfl, rfl⟩
set_option maxRecDepth 20000 in
theorem mK_X2_outerOf : Cond.code yX2_outerOf cX2_outerOf 4 (some .int) ∈ WS := List.mem_filter.mpr ⟨List.mem_of_getElem? (i := 474) rfl, rfl⟩
set_option maxRecDepth 20000 in
theorem mM_X2_outerOf : Cond.instanceMethod yX2_outerOf ∈ WS := List.mem_filter.mpr ⟨List.mem_of_getElem? (i := 473) rfl, rfl⟩
set_option maxRecDepth 20000 in
theorem mS_X2_outerOf : Cond.selects RX2 yX2_outerOf yX2_outerOf ∈ WS := List.mem_filter.mpr ⟨List.mem_of_getElem? (i := 17) rfl, rfl⟩
set_option maxRecDepth 20000 in
theorem mK_X2_setInside : Cond.code yX2_setInside cX2_setInside 4 (some .int) ∈ WS := List.mem_filter.mpr ⟨List.mem_of_getElem? (i := 478) rfl, rfl⟩
set_option maxRecDepth 20000 in
theorem mM_X2_setInside : Cond.instanceMethod yX2_setInside ∈ WS := List.mem_filter.mpr ⟨List.mem_of_getElem? (i := 477) rfl, rfl⟩
set_option maxRecDepth 20000 in
theorem mS_X2_setInside : Cond.selects RX2 yX2_setInside yX2_setInside ∈ WS := List.mem_filter.mpr ⟨List.mem_of_getElem? (i := 18) rfl, rfl⟩
set_option maxRecDepth 20000 in
theorem mK_X3_heat : Cond.code yX3_heat cX3_heat 2 (some .int) ∈ WS := List.mem_filter.mpr ⟨List.mem_of_getElem? (i := 482) rfl, rfl⟩
set_option maxRecDepth 20000 in
theorem mM_X3_heat : Cond.instanceMethod yX3_heat ∈ WS := List.mem_filter.mpr ⟨List.mem_of_getElem? (i := 480) rfl, rfl⟩
set_option maxRecDepth 20000 in
theorem mS_X3_heat : Cond.selects RX3 yX3_heat yX3_heat ∈ WS := List.mem_filter.mpr ⟨List.mem_of_getElem? (i := 481) rfl, rfl⟩
set_option maxRecDepth 20000 in
theorem mK_X3_reason : Cond.code yX3_reason cX3_reason 2 (some .int) ∈ WS := List.mem_filter.mpr ⟨List.mem_of_getElem? (i := 487) rfl, rfl⟩
set_option maxRecDepth 20000 in
theorem mM_X3_reason : Cond.instanceMethod yX3_reason ∈ WS := List.mem_filter.mpr ⟨List.mem_of_getElem? (i := 485) rfl, rfl⟩
set_option maxRecDepth 20000 in
theorem mS_X3_reason : Cond.selects RX3 yX3_reason yX3_reason ∈ WS := List.mem_filter.mpr ⟨List.mem_of_getElem? (i := 486) rfl, rfl⟩
set_option maxRecDepth 20000 in
theorem mK_X3_takes : Cond.code yX3_takes cX3_takes 2 (some .int) ∈ WS := List.mem_filter.mpr ⟨List.mem_of_getElem? (i := 493) rfl, rfl⟩
set_option maxRecDepth 20000 in
theorem mM_X3_takes : Cond.instanceMethod yX3_takes ∈ WS := List.mem_filter.mpr ⟨List.mem_of_getElem? (i := 491) rfl, rfl⟩
set_option maxRecDepth 20000 in
theorem mS_X3_takes : Cond.selects RX3 yX3_takes yX3_takes ∈ WS := List.mem_filter.mpr ⟨List.mem_of_getElem? (i := 492) rfl, rfl⟩
set_option maxRecDepth 20000 in
theorem mK_X2_ticksToCut : Cond.code yX2_ticksToCut cX2_ticksToCut 3 (some .int) ∈ WS := List.mem_filter.mpr ⟨List.mem_of_getElem? (i := 497) rfl, rfl⟩
set_option maxRecDepth 20000 in
theorem mM_X2_ticksToCut : Cond.instanceMethod yX2_ticksToCut ∈ WS := List.mem_filter.mpr ⟨List.mem_of_getElem? (i := 495) rfl, rfl⟩
set_option maxRecDepth 20000 in
theorem mS_X2_ticksToCut : Cond.selects RX2 yX2_ticksToCut yX2_ticksToCut ∈ WS := List.mem_filter.mpr ⟨List.mem_of_getElem? (i := 496) rfl, rfl⟩
set_option maxRecDepth 20000 in
theorem mK_X3_coolsIn : Cond.code yX3_coolsIn cX3_coolsIn 2 (some .int) ∈ WS := List.mem_filter.mpr ⟨List.mem_of_getElem? (i := 501) rfl, rfl⟩
set_option maxRecDepth 20000 in
theorem mM_X3_coolsIn : Cond.instanceMethod yX3_coolsIn ∈ WS := List.mem_filter.mpr ⟨List.mem_of_getElem? (i := 499) rfl, rfl⟩
set_option maxRecDepth 20000 in
theorem mS_X3_coolsIn : Cond.selects RX3 yX3_coolsIn yX3_coolsIn ∈ WS := List.mem_filter.mpr ⟨List.mem_of_getElem? (i := 500) rfl, rfl⟩
set_option maxRecDepth 20000 in
theorem mK_X2_ticksToCool : Cond.code yX2_ticksToCool cX2_ticksToCool 5 (some .int) ∈ WS := List.mem_filter.mpr ⟨List.mem_of_getElem? (i := 505) rfl, rfl⟩
set_option maxRecDepth 20000 in
theorem mM_X2_ticksToCool : Cond.instanceMethod yX2_ticksToCool ∈ WS := List.mem_filter.mpr ⟨List.mem_of_getElem? (i := 503) rfl, rfl⟩
set_option maxRecDepth 20000 in
theorem mS_X2_ticksToCool : Cond.selects RX2 yX2_ticksToCool yX2_ticksToCool ∈ WS := List.mem_filter.mpr ⟨List.mem_of_getElem? (i := 504) rfl, rfl⟩
set_option maxRecDepth 20000 in
theorem mK_X3_best : Cond.code yX3_best cX3_best 1 (some .int) ∈ WS := List.mem_filter.mpr ⟨List.mem_of_getElem? (i := 509) rfl, rfl⟩
set_option maxRecDepth 20000 in
theorem mM_X3_best : Cond.instanceMethod yX3_best ∈ WS := List.mem_filter.mpr ⟨List.mem_of_getElem? (i := 507) rfl, rfl⟩
set_option maxRecDepth 20000 in
theorem mS_X3_best : Cond.selects RX3 yX3_best yX3_best ∈ WS := List.mem_filter.mpr ⟨List.mem_of_getElem? (i := 508) rfl, rfl⟩
set_option maxRecDepth 20000 in
theorem mK_X2_bestShape : Cond.code yX2_bestShape cX2_bestShape 5 (some .int) ∈ WS := List.mem_filter.mpr ⟨List.mem_of_getElem? (i := 513) rfl, rfl⟩
set_option maxRecDepth 20000 in
theorem mM_X2_bestShape : Cond.instanceMethod yX2_bestShape ∈ WS := List.mem_filter.mpr ⟨List.mem_of_getElem? (i := 511) rfl, rfl⟩
set_option maxRecDepth 20000 in
theorem mS_X2_bestShape : Cond.selects RX2 yX2_bestShape yX2_bestShape ∈ WS := List.mem_filter.mpr ⟨List.mem_of_getElem? (i := 512) rfl, rfl⟩
set_option maxRecDepth 20000 in
theorem mK_X3_ordered : Cond.code yX3_ordered cX3_ordered 4 (some .int) ∈ WS := List.mem_filter.mpr ⟨List.mem_of_getElem? (i := 518) rfl, rfl⟩
set_option maxRecDepth 20000 in
theorem mM_X3_ordered : Cond.instanceMethod yX3_ordered ∈ WS := List.mem_filter.mpr ⟨List.mem_of_getElem? (i := 516) rfl, rfl⟩
set_option maxRecDepth 20000 in
theorem mS_X3_ordered : Cond.selects RX3 yX3_ordered yX3_ordered ∈ WS := List.mem_filter.mpr ⟨List.mem_of_getElem? (i := 517) rfl, rfl⟩
set_option maxRecDepth 20000 in
theorem mK_X2_cutNext : Cond.code yX2_cutNext cX2_cutNext 3 (some .int) ∈ WS := List.mem_filter.mpr ⟨List.mem_of_getElem? (i := 522) rfl, rfl⟩
set_option maxRecDepth 20000 in
theorem mM_X2_cutNext : Cond.instanceMethod yX2_cutNext ∈ WS := List.mem_filter.mpr ⟨List.mem_of_getElem? (i := 520) rfl, rfl⟩
set_option maxRecDepth 20000 in
theorem mS_X2_cutNext : Cond.selects RX2 yX2_cutNext yX2_cutNext ∈ WS := List.mem_filter.mpr ⟨List.mem_of_getElem? (i := 521) rfl, rfl⟩
set_option maxRecDepth 20000 in
theorem mK_X2_fewestTicksToCool : Cond.code yX2_fewestTicksToCool cX2_fewestTicksToCool 4 (some .int) ∈ WS := List.mem_filter.mpr ⟨List.mem_of_getElem? (i := 527) rfl, rfl⟩
set_option maxRecDepth 20000 in
theorem mM_X2_fewestTicksToCool : Cond.instanceMethod yX2_fewestTicksToCool ∈ WS := List.mem_filter.mpr ⟨List.mem_of_getElem? (i := 526) rfl, rfl⟩
set_option maxRecDepth 20000 in
theorem mS_X2_fewestTicksToCool : Cond.selects RX2 yX2_fewestTicksToCool yX2_fewestTicksToCool ∈ WS := List.mem_filter.mpr ⟨List.mem_of_getElem? (i := 19) rfl, rfl⟩
set_option maxRecDepth 20000 in
theorem mK_X3_allTakes : Cond.code yX3_allTakes cX3_allTakes 2 (some .int) ∈ WS := List.mem_filter.mpr ⟨List.mem_of_getElem? (i := 533) rfl, rfl⟩
set_option maxRecDepth 20000 in
theorem mM_X3_allTakes : Cond.instanceMethod yX3_allTakes ∈ WS := List.mem_filter.mpr ⟨List.mem_of_getElem? (i := 531) rfl, rfl⟩
set_option maxRecDepth 20000 in
theorem mS_X3_allTakes : Cond.selects RX3 yX3_allTakes yX3_allTakes ∈ WS := List.mem_filter.mpr ⟨List.mem_of_getElem? (i := 532) rfl, rfl⟩
set_option maxRecDepth 20000 in
theorem mK_X2_shapesThatAre : Cond.code yX2_shapesThatAre cX2_shapesThatAre 4 (some .int) ∈ WS := List.mem_filter.mpr ⟨List.mem_of_getElem? (i := 537) rfl, rfl⟩
set_option maxRecDepth 20000 in
theorem mM_X2_shapesThatAre : Cond.instanceMethod yX2_shapesThatAre ∈ WS := List.mem_filter.mpr ⟨List.mem_of_getElem? (i := 535) rfl, rfl⟩
set_option maxRecDepth 20000 in
theorem mS_X2_shapesThatAre : Cond.selects RX2 yX2_shapesThatAre yX2_shapesThatAre ∈ WS := List.mem_filter.mpr ⟨List.mem_of_getElem? (i := 536) rfl, rfl⟩
set_option maxRecDepth 20000 in
theorem mK_X3_count : Cond.code yX3_count cX3_count 2 (some .int) ∈ WS := List.mem_filter.mpr ⟨List.mem_of_getElem? (i := 541) rfl, rfl⟩
set_option maxRecDepth 20000 in
theorem mM_X3_count : Cond.instanceMethod yX3_count ∈ WS := List.mem_filter.mpr ⟨List.mem_of_getElem? (i := 539) rfl, rfl⟩
set_option maxRecDepth 20000 in
theorem mS_X3_count : Cond.selects RX3 yX3_count yX3_count ∈ WS := List.mem_filter.mpr ⟨List.mem_of_getElem? (i := 540) rfl, rfl⟩
set_option maxRecDepth 20000 in
theorem mK_X2_factOfSheet : Cond.code yX2_factOfSheet cX2_factOfSheet 2 (some .int) ∈ WS := List.mem_filter.mpr ⟨List.mem_of_getElem? (i := 545) rfl, rfl⟩
set_option maxRecDepth 20000 in
theorem mM_X2_factOfSheet : Cond.instanceMethod yX2_factOfSheet ∈ WS := List.mem_filter.mpr ⟨List.mem_of_getElem? (i := 543) rfl, rfl⟩
set_option maxRecDepth 20000 in
theorem mS_X2_factOfSheet : Cond.selects RX2 yX2_factOfSheet yX2_factOfSheet ∈ WS := List.mem_filter.mpr ⟨List.mem_of_getElem? (i := 544) rfl, rfl⟩
set_option maxRecDepth 20000 in
theorem mK_X2_shapesThatTilted : Cond.code yX2_shapesThatTilted cX2_shapesThatTilted 3 (some .int) ∈ WS := List.mem_filter.mpr ⟨List.mem_of_getElem? (i := 550) rfl, rfl⟩
set_option maxRecDepth 20000 in
theorem mM_X2_shapesThatTilted : Cond.instanceMethod yX2_shapesThatTilted ∈ WS := List.mem_filter.mpr ⟨List.mem_of_getElem? (i := 549) rfl, rfl⟩
set_option maxRecDepth 20000 in
theorem mS_X2_shapesThatTilted : Cond.selects RX2 yX2_shapesThatTilted yX2_shapesThatTilted ∈ WS := List.mem_filter.mpr ⟨List.mem_of_getElem? (i := 20) rfl, rfl⟩
set_option maxRecDepth 20000 in
theorem mK_X2_allHeat : Cond.code yX2_allHeat cX2_allHeat 3 (some .int) ∈ WS := List.mem_filter.mpr ⟨List.mem_of_getElem? (i := 554) rfl, rfl⟩
set_option maxRecDepth 20000 in
theorem mM_X2_allHeat : Cond.instanceMethod yX2_allHeat ∈ WS := List.mem_filter.mpr ⟨List.mem_of_getElem? (i := 553) rfl, rfl⟩
set_option maxRecDepth 20000 in
theorem mS_X2_allHeat : Cond.selects RX2 yX2_allHeat yX2_allHeat ∈ WS := List.mem_filter.mpr ⟨List.mem_of_getElem? (i := 21) rfl, rfl⟩
set_option maxRecDepth 20000 in
theorem mK_X4_init : Cond.code yX4_init cX4_init 1 none ∈ WS := List.mem_filter.mpr ⟨List.mem_of_getElem? (i := 559) rfl, rfl⟩
set_option maxRecDepth 20000 in
theorem mM_X4_init : Cond.instanceMethod yX4_init ∈ WS := List.mem_filter.mpr ⟨List.mem_of_getElem? (i := 558) rfl, rfl⟩
set_option maxRecDepth 20000 in
theorem mK_X4_tell : Cond.code yX4_tell cX4_tell 7 (some .int) ∈ WS := List.mem_filter.mpr ⟨List.mem_of_getElem? (i := 628) rfl, rfl⟩
set_option maxRecDepth 20000 in
theorem mM_X4_tell : Cond.instanceMethod yX4_tell ∈ WS := List.mem_filter.mpr ⟨List.mem_of_getElem? (i := 626) rfl, rfl⟩
set_option maxRecDepth 20000 in
theorem mS_X4_tell : Cond.selects RX4 yX4_tell yX4_tell ∈ WS := List.mem_filter.mpr ⟨List.mem_of_getElem? (i := 627) rfl, rfl⟩
set_option maxRecDepth 20000 in
theorem mK_X4_in : Cond.code yX4_in cX4_in 3 (some .boolean) ∈ WS := List.mem_filter.mpr ⟨List.mem_of_getElem? (i := 631) rfl, rfl⟩
set_option maxRecDepth 20000 in
theorem mT_X4_in : Cond.static yX4_in ∈ WS := List.mem_filter.mpr ⟨List.mem_of_getElem? (i := 630) rfl, rfl⟩
set_option maxRecDepth 20000 in
theorem mK_X4_couldBe : Cond.code yX4_couldBe cX4_couldBe 10 (some .boolean) ∈ WS := List.mem_filter.mpr ⟨List.mem_of_getElem? (i := 635) rfl, rfl⟩
set_option maxRecDepth 20000 in
theorem mM_X4_couldBe : Cond.instanceMethod yX4_couldBe ∈ WS := List.mem_filter.mpr ⟨List.mem_of_getElem? (i := 634) rfl, rfl⟩
set_option maxRecDepth 20000 in
theorem mS_X4_couldBe : Cond.selects RX4 yX4_couldBe yX4_couldBe ∈ WS := List.mem_filter.mpr ⟨List.mem_of_getElem? (i := 22) rfl, rfl⟩
set_option maxRecDepth 20000 in
theorem mK_X4_lastColumn : Cond.code yX4_lastColumn cX4_lastColumn 2 (some .int) ∈ WS := List.mem_filter.mpr ⟨List.mem_of_getElem? (i := 639) rfl, rfl⟩
set_option maxRecDepth 20000 in
theorem mM_X4_lastColumn : Cond.instanceMethod yX4_lastColumn ∈ WS := List.mem_filter.mpr ⟨List.mem_of_getElem? (i := 638) rfl, rfl⟩
set_option maxRecDepth 20000 in
theorem mS_X4_lastColumn : Cond.selects RX4 yX4_lastColumn yX4_lastColumn ∈ WS := List.mem_filter.mpr ⟨List.mem_of_getElem? (i := 23) rfl, rfl⟩
set_option maxRecDepth 20000 in
theorem mK_X4_of : Cond.code yX4_of cX4_of 3 (some .int) ∈ WS := List.mem_filter.mpr ⟨List.mem_of_getElem? (i := 643) rfl, rfl⟩
set_option maxRecDepth 20000 in
theorem mM_X4_of : Cond.instanceMethod yX4_of ∈ WS := List.mem_filter.mpr ⟨List.mem_of_getElem? (i := 642) rfl, rfl⟩
set_option maxRecDepth 20000 in
theorem mS_X4_of : Cond.selects RX4 yX4_of yX4_of ∈ WS := List.mem_filter.mpr ⟨List.mem_of_getElem? (i := 24) rfl, rfl⟩
set_option maxRecDepth 20000 in
theorem mK_X4_at : Cond.code yX4_at cX4_at 2 (some .int) ∈ WS := List.mem_filter.mpr ⟨List.mem_of_getElem? (i := 646) rfl, rfl⟩
set_option maxRecDepth 20000 in
theorem mT_X4_at : Cond.static yX4_at ∈ WS := List.mem_filter.mpr ⟨List.mem_of_getElem? (i := 645) rfl, rfl⟩
set_option maxRecDepth 20000 in
theorem mK_X4_lastRow : Cond.code yX4_lastRow cX4_lastRow 2 (some .int) ∈ WS := List.mem_filter.mpr ⟨List.mem_of_getElem? (i := 650) rfl, rfl⟩
set_option maxRecDepth 20000 in
theorem mM_X4_lastRow : Cond.instanceMethod yX4_lastRow ∈ WS := List.mem_filter.mpr ⟨List.mem_of_getElem? (i := 649) rfl, rfl⟩
set_option maxRecDepth 20000 in
theorem mS_X4_lastRow : Cond.selects RX4 yX4_lastRow yX4_lastRow ∈ WS := List.mem_filter.mpr ⟨List.mem_of_getElem? (i := 25) rfl, rfl⟩
set_option maxRecDepth 20000 in
theorem mK_X4_isWhole : Cond.code yX4_isWhole cX4_isWhole 2 (some .boolean) ∈ WS := List.mem_filter.mpr ⟨List.mem_of_getElem? (i := 654) rfl, rfl⟩
set_option maxRecDepth 20000 in
theorem mM_X4_isWhole : Cond.instanceMethod yX4_isWhole ∈ WS := List.mem_filter.mpr ⟨List.mem_of_getElem? (i := 653) rfl, rfl⟩
set_option maxRecDepth 20000 in
theorem mS_X4_isWhole : Cond.selects RX4 yX4_isWhole yX4_isWhole ∈ WS := List.mem_filter.mpr ⟨List.mem_of_getElem? (i := 26) rfl, rfl⟩
set_option maxRecDepth 20000 in
theorem mK_X4_looks : Cond.code yX4_looks cX4_looks 2 none ∈ WS := List.mem_filter.mpr ⟨List.mem_of_getElem? (i := 658) rfl, rfl⟩
set_option maxRecDepth 20000 in
theorem mM_X4_looks : Cond.instanceMethod yX4_looks ∈ WS := List.mem_filter.mpr ⟨List.mem_of_getElem? (i := 657) rfl, rfl⟩
set_option maxRecDepth 20000 in
theorem mS_X4_looks : Cond.selects RX4 yX4_looks yX4_looks ∈ WS := List.mem_filter.mpr ⟨List.mem_of_getElem? (i := 27) rfl, rfl⟩
set_option maxRecDepth 20000 in
theorem mK_X4_records : Cond.code yX4_records cX4_records 2 none ∈ WS := List.mem_filter.mpr ⟨List.mem_of_getElem? (i := 662) rfl, rfl⟩
set_option maxRecDepth 20000 in
theorem mM_X4_records : Cond.instanceMethod yX4_records ∈ WS := List.mem_filter.mpr ⟨List.mem_of_getElem? (i := 661) rfl, rfl⟩
set_option maxRecDepth 20000 in
theorem mS_X4_records : Cond.selects RX4 yX4_records yX4_records ∈ WS := List.mem_filter.mpr ⟨List.mem_of_getElem? (i := 28) rfl, rfl⟩
set_option maxRecDepth 20000 in
theorem mK_X4_lays : Cond.code yX4_lays cX4_lays 7 none ∈ WS := List.mem_filter.mpr ⟨List.mem_of_getElem? (i := 666) rfl, rfl⟩
set_option maxRecDepth 20000 in
theorem mM_X4_lays : Cond.instanceMethod yX4_lays ∈ WS := List.mem_filter.mpr ⟨List.mem_of_getElem? (i := 665) rfl, rfl⟩
set_option maxRecDepth 20000 in
theorem mS_X4_lays : Cond.selects RX4 yX4_lays yX4_lays ∈ WS := List.mem_filter.mpr ⟨List.mem_of_getElem? (i := 29) rfl, rfl⟩
set_option maxRecDepth 20000 in
theorem mK_X4_setLead : Cond.code yX4_setLead cX4_setLead 3 (some .int) ∈ WS := List.mem_filter.mpr ⟨List.mem_of_getElem? (i := 670) rfl, rfl⟩
set_option maxRecDepth 20000 in
theorem mM_X4_setLead : Cond.instanceMethod yX4_setLead ∈ WS := List.mem_filter.mpr ⟨List.mem_of_getElem? (i := 668) rfl, rfl⟩
set_option maxRecDepth 20000 in
theorem mS_X4_setLead : Cond.selects RX4 yX4_setLead yX4_setLead ∈ WS := List.mem_filter.mpr ⟨List.mem_of_getElem? (i := 669) rfl, rfl⟩
set_option maxRecDepth 20000 in
theorem mK_X4_leads : Cond.code yX4_leads cX4_leads 4 (some .int) ∈ WS := List.mem_filter.mpr ⟨List.mem_of_getElem? (i := 674) rfl, rfl⟩
set_option maxRecDepth 20000 in
theorem mM_X4_leads : Cond.instanceMethod yX4_leads ∈ WS := List.mem_filter.mpr ⟨List.mem_of_getElem? (i := 673) rfl, rfl⟩
set_option maxRecDepth 20000 in
theorem mS_X4_leads : Cond.selects RX4 yX4_leads yX4_leads ∈ WS := List.mem_filter.mpr ⟨List.mem_of_getElem? (i := 30) rfl, rfl⟩
set_option maxRecDepth 20000 in
theorem mK_X4_isShape : Cond.code yX4_isShape cX4_isShape 2 (some .boolean) ∈ WS := List.mem_filter.mpr ⟨List.mem_of_getElem? (i := 678) rfl, rfl⟩
set_option maxRecDepth 20000 in
theorem mM_X4_isShape : Cond.instanceMethod yX4_isShape ∈ WS := List.mem_filter.mpr ⟨List.mem_of_getElem? (i := 677) rfl, rfl⟩
set_option maxRecDepth 20000 in
theorem mS_X4_isShape : Cond.selects RX4 yX4_isShape yX4_isShape ∈ WS := List.mem_filter.mpr ⟨List.mem_of_getElem? (i := 31) rfl, rfl⟩
set_option maxRecDepth 20000 in
theorem mK_X4_acted : Cond.code yX4_acted cX4_acted 2 (some .int) ∈ WS := List.mem_filter.mpr ⟨List.mem_of_getElem? (i := 682) rfl, rfl⟩
set_option maxRecDepth 20000 in
theorem mM_X4_acted : Cond.instanceMethod yX4_acted ∈ WS := List.mem_filter.mpr ⟨List.mem_of_getElem? (i := 681) rfl, rfl⟩
set_option maxRecDepth 20000 in
theorem mS_X4_acted : Cond.selects RX4 yX4_acted yX4_acted ∈ WS := List.mem_filter.mpr ⟨List.mem_of_getElem? (i := 32) rfl, rfl⟩
set_option maxRecDepth 20000 in
theorem mK_X4_set : Cond.code yX4_set cX4_set 4 (some .int) ∈ WS := List.mem_filter.mpr ⟨List.mem_of_getElem? (i := 686) rfl, rfl⟩
set_option maxRecDepth 20000 in
theorem mM_X4_set : Cond.instanceMethod yX4_set ∈ WS := List.mem_filter.mpr ⟨List.mem_of_getElem? (i := 684) rfl, rfl⟩
set_option maxRecDepth 20000 in
theorem mS_X4_set : Cond.selects RX4 yX4_set yX4_set ∈ WS := List.mem_filter.mpr ⟨List.mem_of_getElem? (i := 685) rfl, rfl⟩
set_option maxRecDepth 20000 in
theorem mK_X4_most : Cond.code yX4_most cX4_most 1 (some .int) ∈ WS := List.mem_filter.mpr ⟨List.mem_of_getElem? (i := 689) rfl, rfl⟩
set_option maxRecDepth 20000 in
theorem mT_X4_most : Cond.static yX4_most ∈ WS := List.mem_filter.mpr ⟨List.mem_of_getElem? (i := 688) rfl, rfl⟩
set_option maxRecDepth 20000 in
theorem mK_X4_cut : Cond.code yX4_cut cX4_cut 2 (some .int) ∈ WS := List.mem_filter.mpr ⟨List.mem_of_getElem? (i := 693) rfl, rfl⟩
set_option maxRecDepth 20000 in
theorem mM_X4_cut : Cond.instanceMethod yX4_cut ∈ WS := List.mem_filter.mpr ⟨List.mem_of_getElem? (i := 691) rfl, rfl⟩
set_option maxRecDepth 20000 in
theorem mS_X4_cut : Cond.selects RX4 yX4_cut yX4_cut ∈ WS := List.mem_filter.mpr ⟨List.mem_of_getElem? (i := 692) rfl, rfl⟩
set_option maxRecDepth 20000 in
theorem mK_X4_cuts : Cond.code yX4_cuts cX4_cuts 4 (some .int) ∈ WS := List.mem_filter.mpr ⟨List.mem_of_getElem? (i := 697) rfl, rfl⟩
set_option maxRecDepth 20000 in
theorem mM_X4_cuts : Cond.instanceMethod yX4_cuts ∈ WS := List.mem_filter.mpr ⟨List.mem_of_getElem? (i := 696) rfl, rfl⟩
set_option maxRecDepth 20000 in
theorem mS_X4_cuts : Cond.selects RX4 yX4_cuts yX4_cuts ∈ WS := List.mem_filter.mpr ⟨List.mem_of_getElem? (i := 33) rfl, rfl⟩
set_option maxRecDepth 20000 in
theorem mK_X4_why : Cond.code yX4_why cX4_why 2 (some .int) ∈ WS := List.mem_filter.mpr ⟨List.mem_of_getElem? (i := 701) rfl, rfl⟩
set_option maxRecDepth 20000 in
theorem mM_X4_why : Cond.instanceMethod yX4_why ∈ WS := List.mem_filter.mpr ⟨List.mem_of_getElem? (i := 700) rfl, rfl⟩
set_option maxRecDepth 20000 in
theorem mS_X4_why : Cond.selects RX4 yX4_why yX4_why ∈ WS := List.mem_filter.mpr ⟨List.mem_of_getElem? (i := 34) rfl, rfl⟩
set_option maxRecDepth 20000 in
theorem mK_X4_hasWholeInside : Cond.code yX4_hasWholeInside cX4_hasWholeInside 4 (some .boolean) ∈ WS := List.mem_filter.mpr ⟨List.mem_of_getElem? (i := 705) rfl, rfl⟩
set_option maxRecDepth 20000 in
theorem mM_X4_hasWholeInside : Cond.instanceMethod yX4_hasWholeInside ∈ WS := List.mem_filter.mpr ⟨List.mem_of_getElem? (i := 704) rfl, rfl⟩
set_option maxRecDepth 20000 in
theorem mS_X4_hasWholeInside : Cond.selects RX4 yX4_hasWholeInside yX4_hasWholeInside ∈ WS := List.mem_filter.mpr ⟨List.mem_of_getElem? (i := 35) rfl, rfl⟩
set_option maxRecDepth 20000 in
theorem mK_X4_isInside : Cond.code yX4_isInside cX4_isInside 4 (some .boolean) ∈ WS := List.mem_filter.mpr ⟨List.mem_of_getElem? (i := 709) rfl, rfl⟩
set_option maxRecDepth 20000 in
theorem mM_X4_isInside : Cond.instanceMethod yX4_isInside ∈ WS := List.mem_filter.mpr ⟨List.mem_of_getElem? (i := 708) rfl, rfl⟩
set_option maxRecDepth 20000 in
theorem mS_X4_isInside : Cond.selects RX4 yX4_isInside yX4_isInside ∈ WS := List.mem_filter.mpr ⟨List.mem_of_getElem? (i := 36) rfl, rfl⟩
set_option maxRecDepth 20000 in
theorem mK_X4_going : Cond.code yX4_going cX4_going 2 (some .int) ∈ WS := List.mem_filter.mpr ⟨List.mem_of_getElem? (i := 713) rfl, rfl⟩
set_option maxRecDepth 20000 in
theorem mM_X4_going : Cond.instanceMethod yX4_going ∈ WS := List.mem_filter.mpr ⟨List.mem_of_getElem? (i := 712) rfl, rfl⟩
set_option maxRecDepth 20000 in
theorem mS_X4_going : Cond.selects RX4 yX4_going yX4_going ∈ WS := List.mem_filter.mpr ⟨List.mem_of_getElem? (i := 37) rfl, rfl⟩
set_option maxRecDepth 20000 in
theorem mK_X4_leadColumn : Cond.code yX4_leadColumn cX4_leadColumn 2 (some .int) ∈ WS := List.mem_filter.mpr ⟨List.mem_of_getElem? (i := 717) rfl, rfl⟩
set_option maxRecDepth 20000 in
theorem mM_X4_leadColumn : Cond.instanceMethod yX4_leadColumn ∈ WS := List.mem_filter.mpr ⟨List.mem_of_getElem? (i := 716) rfl, rfl⟩
set_option maxRecDepth 20000 in
theorem mS_X4_leadColumn : Cond.selects RX4 yX4_leadColumn yX4_leadColumn ∈ WS := List.mem_filter.mpr ⟨List.mem_of_getElem? (i := 38) rfl, rfl⟩
set_option maxRecDepth 20000 in
theorem mK_X4_off : Cond.code yX4_off cX4_off 2 (some .int) ∈ WS := List.mem_filter.mpr ⟨List.mem_of_getElem? (i := 720) rfl, rfl⟩
set_option maxRecDepth 20000 in
theorem mT_X4_off : Cond.static yX4_off ∈ WS := List.mem_filter.mpr ⟨List.mem_of_getElem? (i := 719) rfl, rfl⟩
set_option maxRecDepth 20000 in
theorem mK_X4_leadRow : Cond.code yX4_leadRow cX4_leadRow 2 (some .int) ∈ WS := List.mem_filter.mpr ⟨List.mem_of_getElem? (i := 724) rfl, rfl⟩
set_option maxRecDepth 20000 in
theorem mM_X4_leadRow : Cond.instanceMethod yX4_leadRow ∈ WS := List.mem_filter.mpr ⟨List.mem_of_getElem? (i := 723) rfl, rfl⟩
set_option maxRecDepth 20000 in
theorem mS_X4_leadRow : Cond.selects RX4 yX4_leadRow yX4_leadRow ∈ WS := List.mem_filter.mpr ⟨List.mem_of_getElem? (i := 39) rfl, rfl⟩
set_option maxRecDepth 20000 in
theorem mK_X4_isTooHot : Cond.code yX4_isTooHot cX4_isTooHot 5 (some .boolean) ∈ WS := List.mem_filter.mpr ⟨List.mem_of_getElem? (i := 728) rfl, rfl⟩
set_option maxRecDepth 20000 in
theorem mM_X4_isTooHot : Cond.instanceMethod yX4_isTooHot ∈ WS := List.mem_filter.mpr ⟨List.mem_of_getElem? (i := 727) rfl, rfl⟩
set_option maxRecDepth 20000 in
theorem mS_X4_isTooHot : Cond.selects RX4 yX4_isTooHot yX4_isTooHot ∈ WS := List.mem_filter.mpr ⟨List.mem_of_getElem? (i := 40) rfl, rfl⟩
set_option maxRecDepth 20000 in
theorem mK_X4_edgeIn : Cond.code yX4_edgeIn cX4_edgeIn 5 (some .int) ∈ WS := List.mem_filter.mpr ⟨List.mem_of_getElem? (i := 732) rfl, rfl⟩
set_option maxRecDepth 20000 in
theorem mM_X4_edgeIn : Cond.instanceMethod yX4_edgeIn ∈ WS := List.mem_filter.mpr ⟨List.mem_of_getElem? (i := 731) rfl, rfl⟩
set_option maxRecDepth 20000 in
theorem mS_X4_edgeIn : Cond.selects RX4 yX4_edgeIn yX4_edgeIn ∈ WS := List.mem_filter.mpr ⟨List.mem_of_getElem? (i := 41) rfl, rfl⟩
set_option maxRecDepth 20000 in
theorem mK_X4_isOnEdge : Cond.code yX4_isOnEdge cX4_isOnEdge 5 (some .boolean) ∈ WS := List.mem_filter.mpr ⟨List.mem_of_getElem? (i := 736) rfl, rfl⟩
set_option maxRecDepth 20000 in
theorem mM_X4_isOnEdge : Cond.instanceMethod yX4_isOnEdge ∈ WS := List.mem_filter.mpr ⟨List.mem_of_getElem? (i := 735) rfl, rfl⟩
set_option maxRecDepth 20000 in
theorem mS_X4_isOnEdge : Cond.selects RX4 yX4_isOnEdge yX4_isOnEdge ∈ WS := List.mem_filter.mpr ⟨List.mem_of_getElem? (i := 42) rfl, rfl⟩
set_option maxRecDepth 20000 in
theorem mK_X4_cooled : Cond.code yX4_cooled cX4_cooled 2 (some .int) ∈ WS := List.mem_filter.mpr ⟨List.mem_of_getElem? (i := 739) rfl, rfl⟩
set_option maxRecDepth 20000 in
theorem mT_X4_cooled : Cond.static yX4_cooled ∈ WS := List.mem_filter.mpr ⟨List.mem_of_getElem? (i := 738) rfl, rfl⟩
set_option maxRecDepth 20000 in
theorem mK_X4_cools : Cond.code yX4_cools cX4_cools 3 none ∈ WS := List.mem_filter.mpr ⟨List.mem_of_getElem? (i := 743) rfl, rfl⟩
set_option maxRecDepth 20000 in
theorem mM_X4_cools : Cond.instanceMethod yX4_cools ∈ WS := List.mem_filter.mpr ⟨List.mem_of_getElem? (i := 742) rfl, rfl⟩
set_option maxRecDepth 20000 in
theorem mS_X4_cools : Cond.selects RX4 yX4_cools yX4_cools ∈ WS := List.mem_filter.mpr ⟨List.mem_of_getElem? (i := 43) rfl, rfl⟩
set_option maxRecDepth 20000 in
theorem mK_X4_burning : Cond.code yX4_burning cX4_burning 2 (some .int) ∈ WS := List.mem_filter.mpr ⟨List.mem_of_getElem? (i := 747) rfl, rfl⟩
set_option maxRecDepth 20000 in
theorem mM_X4_burning : Cond.instanceMethod yX4_burning ∈ WS := List.mem_filter.mpr ⟨List.mem_of_getElem? (i := 746) rfl, rfl⟩
set_option maxRecDepth 20000 in
theorem mS_X4_burning : Cond.selects RX4 yX4_burning yX4_burning ∈ WS := List.mem_filter.mpr ⟨List.mem_of_getElem? (i := 44) rfl, rfl⟩
set_option maxRecDepth 20000 in
theorem mK_X4_edge : Cond.code yX4_edge cX4_edge 2 (some .int) ∈ WS := List.mem_filter.mpr ⟨List.mem_of_getElem? (i := 751) rfl, rfl⟩
set_option maxRecDepth 20000 in
theorem mM_X4_edge : Cond.instanceMethod yX4_edge ∈ WS := List.mem_filter.mpr ⟨List.mem_of_getElem? (i := 750) rfl, rfl⟩
set_option maxRecDepth 20000 in
theorem mS_X4_edge : Cond.selects RX4 yX4_edge yX4_edge ∈ WS := List.mem_filter.mpr ⟨List.mem_of_getElem? (i := 45) rfl, rfl⟩
set_option maxRecDepth 20000 in
theorem mK_X4_hottest : Cond.code yX4_hottest cX4_hottest 3 (some .int) ∈ WS := List.mem_filter.mpr ⟨List.mem_of_getElem? (i := 755) rfl, rfl⟩
set_option maxRecDepth 20000 in
theorem mM_X4_hottest : Cond.instanceMethod yX4_hottest ∈ WS := List.mem_filter.mpr ⟨List.mem_of_getElem? (i := 754) rfl, rfl⟩
set_option maxRecDepth 20000 in
theorem mS_X4_hottest : Cond.selects RX4 yX4_hottest yX4_hottest ∈ WS := List.mem_filter.mpr ⟨List.mem_of_getElem? (i := 46) rfl, rfl⟩
set_option maxRecDepth 20000 in
theorem mK_X4_pause : Cond.code yX4_pause cX4_pause 2 (some .int) ∈ WS := List.mem_filter.mpr ⟨List.mem_of_getElem? (i := 759) rfl, rfl⟩
set_option maxRecDepth 20000 in
theorem mM_X4_pause : Cond.instanceMethod yX4_pause ∈ WS := List.mem_filter.mpr ⟨List.mem_of_getElem? (i := 757) rfl, rfl⟩
set_option maxRecDepth 20000 in
theorem mS_X4_pause : Cond.selects RX4 yX4_pause yX4_pause ∈ WS := List.mem_filter.mpr ⟨List.mem_of_getElem? (i := 758) rfl, rfl⟩
set_option maxRecDepth 20000 in
theorem mK_X4_waits : Cond.code yX4_waits cX4_waits 2 (some .int) ∈ WS := List.mem_filter.mpr ⟨List.mem_of_getElem? (i := 763) rfl, rfl⟩
set_option maxRecDepth 20000 in
theorem mM_X4_waits : Cond.instanceMethod yX4_waits ∈ WS := List.mem_filter.mpr ⟨List.mem_of_getElem? (i := 762) rfl, rfl⟩
set_option maxRecDepth 20000 in
theorem mS_X4_waits : Cond.selects RX4 yX4_waits yX4_waits ∈ WS := List.mem_filter.mpr ⟨List.mem_of_getElem? (i := 47) rfl, rfl⟩
set_option maxRecDepth 20000 in
theorem mK_X4_clean : Cond.code yX4_clean cX4_clean 1 (some .int) ∈ WS := List.mem_filter.mpr ⟨List.mem_of_getElem? (i := 767) rfl, rfl⟩
set_option maxRecDepth 20000 in
theorem mM_X4_clean : Cond.instanceMethod yX4_clean ∈ WS := List.mem_filter.mpr ⟨List.mem_of_getElem? (i := 765) rfl, rfl⟩
set_option maxRecDepth 20000 in
theorem mS_X4_clean : Cond.selects RX4 yX4_clean yX4_clean ∈ WS := List.mem_filter.mpr ⟨List.mem_of_getElem? (i := 766) rfl, rfl⟩
set_option maxRecDepth 20000 in
theorem mK_X4_cleans : Cond.code yX4_cleans cX4_cleans 2 (some .int) ∈ WS := List.mem_filter.mpr ⟨List.mem_of_getElem? (i := 771) rfl, rfl⟩
set_option maxRecDepth 20000 in
theorem mM_X4_cleans : Cond.instanceMethod yX4_cleans ∈ WS := List.mem_filter.mpr ⟨List.mem_of_getElem? (i := 770) rfl, rfl⟩
set_option maxRecDepth 20000 in
theorem mS_X4_cleans : Cond.selects RX4 yX4_cleans yX4_cleans ∈ WS := List.mem_filter.mpr ⟨List.mem_of_getElem? (i := 48) rfl, rfl⟩
set_option maxRecDepth 20000 in
theorem mK_X4_type : Cond.code yX4_type cX4_type 2 (some .int) ∈ WS := List.mem_filter.mpr ⟨List.mem_of_getElem? (i := 775) rfl, rfl⟩
set_option maxRecDepth 20000 in
theorem mM_X4_type : Cond.instanceMethod yX4_type ∈ WS := List.mem_filter.mpr ⟨List.mem_of_getElem? (i := 773) rfl, rfl⟩
set_option maxRecDepth 20000 in
theorem mS_X4_type : Cond.selects RX4 yX4_type yX4_type ∈ WS := List.mem_filter.mpr ⟨List.mem_of_getElem? (i := 774) rfl, rfl⟩
set_option maxRecDepth 20000 in
theorem mK_X4_clearText : Cond.code yX4_clearText cX4_clearText 2 (some .int) ∈ WS := List.mem_filter.mpr ⟨List.mem_of_getElem? (i := 779) rfl, rfl⟩
set_option maxRecDepth 20000 in
theorem mM_X4_clearText : Cond.instanceMethod yX4_clearText ∈ WS := List.mem_filter.mpr ⟨List.mem_of_getElem? (i := 777) rfl, rfl⟩
set_option maxRecDepth 20000 in
theorem mS_X4_clearText : Cond.selects RX4 yX4_clearText yX4_clearText ∈ WS := List.mem_filter.mpr ⟨List.mem_of_getElem? (i := 778) rfl, rfl⟩
set_option maxRecDepth 20000 in
theorem mK_X4_perform : Cond.code yX4_perform cX4_perform 4 (some .int) ∈ WS := List.mem_filter.mpr ⟨List.mem_of_getElem? (i := 783) rfl, rfl⟩
set_option maxRecDepth 20000 in
theorem mM_X4_perform : Cond.instanceMethod yX4_perform ∈ WS := List.mem_filter.mpr ⟨List.mem_of_getElem? (i := 781) rfl, rfl⟩
set_option maxRecDepth 20000 in
theorem mS_X4_perform : Cond.selects RX4 yX4_perform yX4_perform ∈ WS := List.mem_filter.mpr ⟨List.mem_of_getElem? (i := 782) rfl, rfl⟩
set_option maxRecDepth 20000 in
theorem mK_X4_runs : Cond.code yX4_runs cX4_runs 6 (some .int) ∈ WS := List.mem_filter.mpr ⟨List.mem_of_getElem? (i := 787) rfl, rfl⟩
set_option maxRecDepth 20000 in
theorem mM_X4_runs : Cond.instanceMethod yX4_runs ∈ WS := List.mem_filter.mpr ⟨List.mem_of_getElem? (i := 786) rfl, rfl⟩
set_option maxRecDepth 20000 in
theorem mS_X4_runs : Cond.selects RX4 yX4_runs yX4_runs ∈ WS := List.mem_filter.mpr ⟨List.mem_of_getElem? (i := 49) rfl, rfl⟩
set_option maxRecDepth 20000 in
theorem mK_X4_readThing : Cond.code yX4_readThing cX4_readThing 2 none ∈ WS := List.mem_filter.mpr ⟨List.mem_of_getElem? (i := 791) rfl, rfl⟩
set_option maxRecDepth 20000 in
theorem mM_X4_readThing : Cond.instanceMethod yX4_readThing ∈ WS := List.mem_filter.mpr ⟨List.mem_of_getElem? (i := 790) rfl, rfl⟩
set_option maxRecDepth 20000 in
theorem mS_X4_readThing : Cond.selects RX4 yX4_readThing yX4_readThing ∈ WS := List.mem_filter.mpr ⟨List.mem_of_getElem? (i := 50) rfl, rfl⟩
set_option maxRecDepth 20000 in
theorem mK_X4_takesNumber : Cond.code yX4_takesNumber cX4_takesNumber 5 (some .int) ∈ WS := List.mem_filter.mpr ⟨List.mem_of_getElem? (i := 795) rfl, rfl⟩
set_option maxRecDepth 20000 in
theorem mM_X4_takesNumber : Cond.instanceMethod yX4_takesNumber ∈ WS := List.mem_filter.mpr ⟨List.mem_of_getElem? (i := 794) rfl, rfl⟩
set_option maxRecDepth 20000 in
theorem mS_X4_takesNumber : Cond.selects RX4 yX4_takesNumber yX4_takesNumber ∈ WS := List.mem_filter.mpr ⟨List.mem_of_getElem? (i := 51) rfl, rfl⟩
set_option maxRecDepth 20000 in
theorem mK_X4_takesOne : Cond.code yX4_takesOne cX4_takesOne 4 (some .int) ∈ WS := List.mem_filter.mpr ⟨List.mem_of_getElem? (i := 799) rfl, rfl⟩
set_option maxRecDepth 20000 in
theorem mM_X4_takesOne : Cond.instanceMethod yX4_takesOne ∈ WS := List.mem_filter.mpr ⟨List.mem_of_getElem? (i := 798) rfl, rfl⟩
set_option maxRecDepth 20000 in
theorem mS_X4_takesOne : Cond.selects RX4 yX4_takesOne yX4_takesOne ∈ WS := List.mem_filter.mpr ⟨List.mem_of_getElem? (i := 52) rfl, rfl⟩
set_option maxRecDepth 20000 in
theorem mK_X4_isNext : Cond.code yX4_isNext cX4_isNext 3 (some .boolean) ∈ WS := List.mem_filter.mpr ⟨List.mem_of_getElem? (i := 803) rfl, rfl⟩
set_option maxRecDepth 20000 in
theorem mM_X4_isNext : Cond.instanceMethod yX4_isNext ∈ WS := List.mem_filter.mpr ⟨List.mem_of_getElem? (i := 802) rfl, rfl⟩
set_option maxRecDepth 20000 in
theorem mS_X4_isNext : Cond.selects RX4 yX4_isNext yX4_isNext ∈ WS := List.mem_filter.mpr ⟨List.mem_of_getElem? (i := 53) rfl, rfl⟩
set_option maxRecDepth 20000 in
theorem mK_X4_does : Cond.code yX4_does cX4_does 1 (some .int) ∈ WS := List.mem_filter.mpr ⟨List.mem_of_getElem? (i := 807) rfl, rfl⟩
set_option maxRecDepth 20000 in
theorem mM_X4_does : Cond.instanceMethod yX4_does ∈ WS := List.mem_filter.mpr ⟨List.mem_of_getElem? (i := 806) rfl, rfl⟩
set_option maxRecDepth 20000 in
theorem mS_X4_does : Cond.selects RX4 yX4_does yX4_does ∈ WS := List.mem_filter.mpr ⟨List.mem_of_getElem? (i := 54) rfl, rfl⟩
set_option maxRecDepth 20000 in
theorem mK_X4_stopped : Cond.code yX4_stopped cX4_stopped 2 (some .int) ∈ WS := List.mem_filter.mpr ⟨List.mem_of_getElem? (i := 811) rfl, rfl⟩
set_option maxRecDepth 20000 in
theorem mM_X4_stopped : Cond.instanceMethod yX4_stopped ∈ WS := List.mem_filter.mpr ⟨List.mem_of_getElem? (i := 809) rfl, rfl⟩
set_option maxRecDepth 20000 in
theorem mS_X4_stopped : Cond.selects RX4 yX4_stopped yX4_stopped ∈ WS := List.mem_filter.mpr ⟨List.mem_of_getElem? (i := 810) rfl, rfl⟩
set_option maxRecDepth 20000 in
theorem mK_X4_undo : Cond.code yX4_undo cX4_undo 2 (some .int) ∈ WS := List.mem_filter.mpr ⟨List.mem_of_getElem? (i := 815) rfl, rfl⟩
set_option maxRecDepth 20000 in
theorem mM_X4_undo : Cond.instanceMethod yX4_undo ∈ WS := List.mem_filter.mpr ⟨List.mem_of_getElem? (i := 813) rfl, rfl⟩
set_option maxRecDepth 20000 in
theorem mS_X4_undo : Cond.selects RX4 yX4_undo yX4_undo ∈ WS := List.mem_filter.mpr ⟨List.mem_of_getElem? (i := 814) rfl, rfl⟩
set_option maxRecDepth 20000 in
theorem mK_X4_keep : Cond.code yX4_keep cX4_keep 2 (some .int) ∈ WS := List.mem_filter.mpr ⟨List.mem_of_getElem? (i := 819) rfl, rfl⟩
set_option maxRecDepth 20000 in
theorem mM_X4_keep : Cond.instanceMethod yX4_keep ∈ WS := List.mem_filter.mpr ⟨List.mem_of_getElem? (i := 817) rfl, rfl⟩
set_option maxRecDepth 20000 in
theorem mS_X4_keep : Cond.selects RX4 yX4_keep yX4_keep ∈ WS := List.mem_filter.mpr ⟨List.mem_of_getElem? (i := 818) rfl, rfl⟩
set_option maxRecDepth 20000 in
theorem mK_X4_restore : Cond.code yX4_restore cX4_restore 2 (some .int) ∈ WS := List.mem_filter.mpr ⟨List.mem_of_getElem? (i := 823) rfl, rfl⟩
set_option maxRecDepth 20000 in
theorem mM_X4_restore : Cond.instanceMethod yX4_restore ∈ WS := List.mem_filter.mpr ⟨List.mem_of_getElem? (i := 821) rfl, rfl⟩
set_option maxRecDepth 20000 in
theorem mS_X4_restore : Cond.selects RX4 yX4_restore yX4_restore ∈ WS := List.mem_filter.mpr ⟨List.mem_of_getElem? (i := 822) rfl, rfl⟩
set_option maxRecDepth 20000 in
theorem mK_X4_shape : Cond.code yX4_shape cX4_shape 3 (some .int) ∈ WS := List.mem_filter.mpr ⟨List.mem_of_getElem? (i := 827) rfl, rfl⟩
set_option maxRecDepth 20000 in
theorem mM_X4_shape : Cond.instanceMethod yX4_shape ∈ WS := List.mem_filter.mpr ⟨List.mem_of_getElem? (i := 825) rfl, rfl⟩
set_option maxRecDepth 20000 in
theorem mS_X4_shape : Cond.selects RX4 yX4_shape yX4_shape ∈ WS := List.mem_filter.mpr ⟨List.mem_of_getElem? (i := 826) rfl, rfl⟩
set_option maxRecDepth 20000 in
theorem mK_X4_outer : Cond.code yX4_outer cX4_outer 4 (some .int) ∈ WS := List.mem_filter.mpr ⟨List.mem_of_getElem? (i := 831) rfl, rfl⟩
set_option maxRecDepth 20000 in
theorem mM_X4_outer : Cond.instanceMethod yX4_outer ∈ WS := List.mem_filter.mpr ⟨List.mem_of_getElem? (i := 830) rfl, rfl⟩
set_option maxRecDepth 20000 in
theorem mS_X4_outer : Cond.selects RX4 yX4_outer yX4_outer ∈ WS := List.mem_filter.mpr ⟨List.mem_of_getElem? (i := 55) rfl, rfl⟩
set_option maxRecDepth 20000 in
theorem mK_X4_inner : Cond.code yX4_inner cX4_inner 4 (some .int) ∈ WS := List.mem_filter.mpr ⟨List.mem_of_getElem? (i := 835) rfl, rfl⟩
set_option maxRecDepth 20000 in
theorem mM_X4_inner : Cond.instanceMethod yX4_inner ∈ WS := List.mem_filter.mpr ⟨List.mem_of_getElem? (i := 834) rfl, rfl⟩
set_option maxRecDepth 20000 in
theorem mS_X4_inner : Cond.selects RX4 yX4_inner yX4_inner ∈ WS := List.mem_filter.mpr ⟨List.mem_of_getElem? (i := 56) rfl, rfl⟩
set_option maxRecDepth 20000 in
theorem mK_X4_heat : Cond.code yX4_heat cX4_heat 2 (some .int) ∈ WS := List.mem_filter.mpr ⟨List.mem_of_getElem? (i := 839) rfl, rfl⟩
set_option maxRecDepth 20000 in
theorem mM_X4_heat : Cond.instanceMethod yX4_heat ∈ WS := List.mem_filter.mpr ⟨List.mem_of_getElem? (i := 837) rfl, rfl⟩
set_option maxRecDepth 20000 in
theorem mS_X4_heat : Cond.selects RX4 yX4_heat yX4_heat ∈ WS := List.mem_filter.mpr ⟨List.mem_of_getElem? (i := 838) rfl, rfl⟩
set_option maxRecDepth 20000 in
theorem mK_X4_reason : Cond.code yX4_reason cX4_reason 2 (some .int) ∈ WS := List.mem_filter.mpr ⟨List.mem_of_getElem? (i := 843) rfl, rfl⟩
set_option maxRecDepth 20000 in
theorem mM_X4_reason : Cond.instanceMethod yX4_reason ∈ WS := List.mem_filter.mpr ⟨List.mem_of_getElem? (i := 841) rfl, rfl⟩
set_option maxRecDepth 20000 in
theorem mS_X4_reason : Cond.selects RX4 yX4_reason yX4_reason ∈ WS := List.mem_filter.mpr ⟨List.mem_of_getElem? (i := 842) rfl, rfl⟩
set_option maxRecDepth 20000 in
theorem mK_X4_takes : Cond.code yX4_takes cX4_takes 2 (some .int) ∈ WS := List.mem_filter.mpr ⟨List.mem_of_getElem? (i := 847) rfl, rfl⟩
set_option maxRecDepth 20000 in
theorem mM_X4_takes : Cond.instanceMethod yX4_takes ∈ WS := List.mem_filter.mpr ⟨List.mem_of_getElem? (i := 845) rfl, rfl⟩
set_option maxRecDepth 20000 in
theorem mS_X4_takes : Cond.selects RX4 yX4_takes yX4_takes ∈ WS := List.mem_filter.mpr ⟨List.mem_of_getElem? (i := 846) rfl, rfl⟩
set_option maxRecDepth 20000 in
theorem mK_X4_ticksOf : Cond.code yX4_ticksOf cX4_ticksOf 2 (some .int) ∈ WS := List.mem_filter.mpr ⟨List.mem_of_getElem? (i := 851) rfl, rfl⟩
set_option maxRecDepth 20000 in
theorem mM_X4_ticksOf : Cond.instanceMethod yX4_ticksOf ∈ WS := List.mem_filter.mpr ⟨List.mem_of_getElem? (i := 850) rfl, rfl⟩
set_option maxRecDepth 20000 in
theorem mS_X4_ticksOf : Cond.selects RX4 yX4_ticksOf yX4_ticksOf ∈ WS := List.mem_filter.mpr ⟨List.mem_of_getElem? (i := 57) rfl, rfl⟩
set_option maxRecDepth 20000 in
theorem mK_X4_coolsIn : Cond.code yX4_coolsIn cX4_coolsIn 2 (some .int) ∈ WS := List.mem_filter.mpr ⟨List.mem_of_getElem? (i := 855) rfl, rfl⟩
set_option maxRecDepth 20000 in
theorem mM_X4_coolsIn : Cond.instanceMethod yX4_coolsIn ∈ WS := List.mem_filter.mpr ⟨List.mem_of_getElem? (i := 853) rfl, rfl⟩
set_option maxRecDepth 20000 in
theorem mS_X4_coolsIn : Cond.selects RX4 yX4_coolsIn yX4_coolsIn ∈ WS := List.mem_filter.mpr ⟨List.mem_of_getElem? (i := 854) rfl, rfl⟩
set_option maxRecDepth 20000 in
theorem mK_X4_waitFor : Cond.code yX4_waitFor cX4_waitFor 6 (some .int) ∈ WS := List.mem_filter.mpr ⟨List.mem_of_getElem? (i := 859) rfl, rfl⟩
set_option maxRecDepth 20000 in
theorem mM_X4_waitFor : Cond.instanceMethod yX4_waitFor ∈ WS := List.mem_filter.mpr ⟨List.mem_of_getElem? (i := 858) rfl, rfl⟩
set_option maxRecDepth 20000 in
theorem mS_X4_waitFor : Cond.selects RX4 yX4_waitFor yX4_waitFor ∈ WS := List.mem_filter.mpr ⟨List.mem_of_getElem? (i := 58) rfl, rfl⟩
set_option maxRecDepth 20000 in
theorem mK_X4_best : Cond.code yX4_best cX4_best 1 (some .int) ∈ WS := List.mem_filter.mpr ⟨List.mem_of_getElem? (i := 863) rfl, rfl⟩
set_option maxRecDepth 20000 in
theorem mM_X4_best : Cond.instanceMethod yX4_best ∈ WS := List.mem_filter.mpr ⟨List.mem_of_getElem? (i := 861) rfl, rfl⟩
set_option maxRecDepth 20000 in
theorem mS_X4_best : Cond.selects RX4 yX4_best yX4_best ∈ WS := List.mem_filter.mpr ⟨List.mem_of_getElem? (i := 862) rfl, rfl⟩
set_option maxRecDepth 20000 in
theorem mK_X4_bestOne : Cond.code yX4_bestOne cX4_bestOne 3 (some .int) ∈ WS := List.mem_filter.mpr ⟨List.mem_of_getElem? (i := 867) rfl, rfl⟩
set_option maxRecDepth 20000 in
theorem mM_X4_bestOne : Cond.instanceMethod yX4_bestOne ∈ WS := List.mem_filter.mpr ⟨List.mem_of_getElem? (i := 866) rfl, rfl⟩
set_option maxRecDepth 20000 in
theorem mS_X4_bestOne : Cond.selects RX4 yX4_bestOne yX4_bestOne ∈ WS := List.mem_filter.mpr ⟨List.mem_of_getElem? (i := 59) rfl, rfl⟩
set_option maxRecDepth 20000 in
theorem mK_X4_ordered : Cond.code yX4_ordered cX4_ordered 2 (some .int) ∈ WS := List.mem_filter.mpr ⟨List.mem_of_getElem? (i := 871) rfl, rfl⟩
set_option maxRecDepth 20000 in
theorem mM_X4_ordered : Cond.instanceMethod yX4_ordered ∈ WS := List.mem_filter.mpr ⟨List.mem_of_getElem? (i := 869) rfl, rfl⟩
set_option maxRecDepth 20000 in
theorem mS_X4_ordered : Cond.selects RX4 yX4_ordered yX4_ordered ∈ WS := List.mem_filter.mpr ⟨List.mem_of_getElem? (i := 870) rfl, rfl⟩
set_option maxRecDepth 20000 in
theorem mK_X4_layOrder : Cond.code yX4_layOrder cX4_layOrder 5 none ∈ WS := List.mem_filter.mpr ⟨List.mem_of_getElem? (i := 875) rfl, rfl⟩
set_option maxRecDepth 20000 in
theorem mM_X4_layOrder : Cond.instanceMethod yX4_layOrder ∈ WS := List.mem_filter.mpr ⟨List.mem_of_getElem? (i := 874) rfl, rfl⟩
set_option maxRecDepth 20000 in
theorem mS_X4_layOrder : Cond.selects RX4 yX4_layOrder yX4_layOrder ∈ WS := List.mem_filter.mpr ⟨List.mem_of_getElem? (i := 60) rfl, rfl⟩
set_option maxRecDepth 20000 in
theorem mK_X4_putAside : Cond.code yX4_putAside cX4_putAside 2 none ∈ WS := List.mem_filter.mpr ⟨List.mem_of_getElem? (i := 879) rfl, rfl⟩
set_option maxRecDepth 20000 in
theorem mM_X4_putAside : Cond.instanceMethod yX4_putAside ∈ WS := List.mem_filter.mpr ⟨List.mem_of_getElem? (i := 878) rfl, rfl⟩
set_option maxRecDepth 20000 in
theorem mS_X4_putAside : Cond.selects RX4 yX4_putAside yX4_putAside ∈ WS := List.mem_filter.mpr ⟨List.mem_of_getElem? (i := 61) rfl, rfl⟩
set_option maxRecDepth 20000 in
theorem mK_X4_soonest : Cond.code yX4_soonest cX4_soonest 4 (some .int) ∈ WS := List.mem_filter.mpr ⟨List.mem_of_getElem? (i := 883) rfl, rfl⟩
set_option maxRecDepth 20000 in
theorem mM_X4_soonest : Cond.instanceMethod yX4_soonest ∈ WS := List.mem_filter.mpr ⟨List.mem_of_getElem? (i := 882) rfl, rfl⟩
set_option maxRecDepth 20000 in
theorem mS_X4_soonest : Cond.selects RX4 yX4_soonest yX4_soonest ∈ WS := List.mem_filter.mpr ⟨List.mem_of_getElem? (i := 62) rfl, rfl⟩
set_option maxRecDepth 20000 in
theorem mK_X4_many : Cond.code yX4_many cX4_many 4 (some .int) ∈ WS := List.mem_filter.mpr ⟨List.mem_of_getElem? (i := 887) rfl, rfl⟩
set_option maxRecDepth 20000 in
theorem mM_X4_many : Cond.instanceMethod yX4_many ∈ WS := List.mem_filter.mpr ⟨List.mem_of_getElem? (i := 886) rfl, rfl⟩
set_option maxRecDepth 20000 in
theorem mS_X4_many : Cond.selects RX4 yX4_many yX4_many ∈ WS := List.mem_filter.mpr ⟨List.mem_of_getElem? (i := 63) rfl, rfl⟩
set_option maxRecDepth 20000 in
theorem mK_X4_putBack : Cond.code yX4_putBack cX4_putBack 2 none ∈ WS := List.mem_filter.mpr ⟨List.mem_of_getElem? (i := 891) rfl, rfl⟩
set_option maxRecDepth 20000 in
theorem mM_X4_putBack : Cond.instanceMethod yX4_putBack ∈ WS := List.mem_filter.mpr ⟨List.mem_of_getElem? (i := 890) rfl, rfl⟩
set_option maxRecDepth 20000 in
theorem mS_X4_putBack : Cond.selects RX4 yX4_putBack yX4_putBack ∈ WS := List.mem_filter.mpr ⟨List.mem_of_getElem? (i := 64) rfl, rfl⟩
set_option maxRecDepth 20000 in
theorem mK_X4_allTakes : Cond.code yX4_allTakes cX4_allTakes 1 (some .int) ∈ WS := List.mem_filter.mpr ⟨List.mem_of_getElem? (i := 895) rfl, rfl⟩
set_option maxRecDepth 20000 in
theorem mM_X4_allTakes : Cond.instanceMethod yX4_allTakes ∈ WS := List.mem_filter.mpr ⟨List.mem_of_getElem? (i := 893) rfl, rfl⟩
set_option maxRecDepth 20000 in
theorem mS_X4_allTakes : Cond.selects RX4 yX4_allTakes yX4_allTakes ∈ WS := List.mem_filter.mpr ⟨List.mem_of_getElem? (i := 894) rfl, rfl⟩
set_option maxRecDepth 20000 in
theorem mK_X4_count : Cond.code yX4_count cX4_count 2 (some .int) ∈ WS := List.mem_filter.mpr ⟨List.mem_of_getElem? (i := 899) rfl, rfl⟩
set_option maxRecDepth 20000 in
theorem mM_X4_count : Cond.instanceMethod yX4_count ∈ WS := List.mem_filter.mpr ⟨List.mem_of_getElem? (i := 897) rfl, rfl⟩
set_option maxRecDepth 20000 in
theorem mS_X4_count : Cond.selects RX4 yX4_count yX4_count ∈ WS := List.mem_filter.mpr ⟨List.mem_of_getElem? (i := 898) rfl, rfl⟩
set_option maxRecDepth 20000 in
theorem mK_X4_tilted : Cond.code yX4_tilted cX4_tilted 3 (some .int) ∈ WS := List.mem_filter.mpr ⟨List.mem_of_getElem? (i := 903) rfl, rfl⟩
set_option maxRecDepth 20000 in
theorem mM_X4_tilted : Cond.instanceMethod yX4_tilted ∈ WS := List.mem_filter.mpr ⟨List.mem_of_getElem? (i := 902) rfl, rfl⟩
set_option maxRecDepth 20000 in
theorem mS_X4_tilted : Cond.selects RX4 yX4_tilted yX4_tilted ∈ WS := List.mem_filter.mpr ⟨List.mem_of_getElem? (i := 65) rfl, rfl⟩
set_option maxRecDepth 20000 in
theorem mK_X4_hottestSquare : Cond.code yX4_hottestSquare cX4_hottestSquare 3 (some .int) ∈ WS := List.mem_filter.mpr ⟨List.mem_of_getElem? (i := 907) rfl, rfl⟩
set_option maxRecDepth 20000 in
theorem mM_X4_hottestSquare : Cond.instanceMethod yX4_hottestSquare ∈ WS := List.mem_filter.mpr ⟨List.mem_of_getElem? (i := 906) rfl, rfl⟩
set_option maxRecDepth 20000 in
theorem mS_X4_hottestSquare : Cond.selects RX4 yX4_hottestSquare yX4_hottestSquare ∈ WS := List.mem_filter.mpr ⟨List.mem_of_getElem? (i := 66) rfl, rfl⟩
set_option maxRecDepth 20000 in
theorem mK_X4_allHeat : Cond.code yX4_allHeat cX4_allHeat 3 (some .int) ∈ WS := List.mem_filter.mpr ⟨List.mem_of_getElem? (i := 911) rfl, rfl⟩
set_option maxRecDepth 20000 in
theorem mM_X4_allHeat : Cond.instanceMethod yX4_allHeat ∈ WS := List.mem_filter.mpr ⟨List.mem_of_getElem? (i := 910) rfl, rfl⟩
set_option maxRecDepth 20000 in
theorem mS_X4_allHeat : Cond.selects RX4 yX4_allHeat yX4_allHeat ∈ WS := List.mem_filter.mpr ⟨List.mem_of_getElem? (i := 67) rfl, rfl⟩
theorem nX0 : ∀ w ∈ wsX00, w ∈ WS := by decide +kernel
theorem nX1 : ∀ w ∈ wsX10, w ∈ WS := by decide +kernel
theorem nX2 : ∀ w ∈ wsX20, w ∈ WS := by decide +kernel
theorem nX3 : ∀ w ∈ wsX30, w ∈ WS := by decide +kernel
theorem nX4 : ∀ w ∈ wsX40, w ∈ WS := by decide +kernel
end
section
/-! Own kit: one judgement XJ over an abstract heap (cell number to cell), a row an instruction. -/
abbrev GX : Type := Launch × va_G × Nat × (ClassId × ClassId × ClassId × ClassId) × (Nat × Nat)
abbrev gD (G : GX) : va_G := G.2.1
abbrev gB (G : GX) : Nat := G.2.2.1
abbrev gI (G : GX) : ClassId := G.2.2.2.1.1
abbrev gC (G : GX) : ClassId := G.2.2.2.1.2.1
abbrev gS (G : GX) : ClassId := G.2.2.2.1.2.2.1
abbrev gT (G : GX) : ClassId := G.2.2.2.1.2.2.2
abbrev g1 (G : GX) : Nat := G.2.2.2.2.1
abbrev g2 (G : GX) : Nat := G.2.2.2.2.2
abbrev gTy (G : GX) : List (ClassId × FieldType) := [(gI G, .int), (gC G, .char), (gS G, .object "BeamCuts$Shape"), (gT G, .object "BeamCuts$Sheet")]
def leastF : Nat → Int32 := fun k => if k = 0 then 1 else 0
def greatF : Nat → Int32 := fun k => if k = 0 then 99 else if k = 1 then 20 else if k = 2 then 999 else 1
def gA (G : GX) : Nat → Prop := fun q => gB G ≤ q
def Kx (G : GX) (U : State) : Prop := va_K (gD G) vwCl (gTy G) U ∧ va_AO "BeamCuts$Shape" U ∧ va_AO "BeamCuts$Sheet" U ∧ va_Nw (.methodLinkNest RX2 51 yX3_isIn RX3) U ∧ va_Nw (.methodLinkNest RX0 59 yX3_isIn RX3) U
def Sx (G : GX) (U : State) (H : Heap) : Prop := va_Z RX2 "LEAST_SETTINGS" "[I" (.ref (g1 G)) (gA G) U H ∧ va_T .int (g1 G) 4 (fun k => .int (leastF k)) (gA G) U H ∧ va_Z RX2 "GREATEST_SETTINGS" "[I" (.ref (g2 G)) (gA G) U H ∧ va_T .int (g2 G) 4 (fun k => .int (greatF k)) (gA G) U H
def Rp (G : GX) (n : Nat) (cs : Nat → va_E) (H : Heap) : Prop := H.size = gB G + n ∧ ∀ o, o < n → va_at (gD G) vwCl (gB G + o, cs o) H
def Wd (G : GX) (n : Nat) (cs : Nat → va_E) (U : State) : Prop := Rp G n cs U.heap ∧ Kx G U ∧ Sx G U U.heap
/-- a method: its bytes, its locals, its class, its room, what it returns, its name -/
abbrev YX : Type := ByteArray × Nat × String × Room × Option FieldType × String
def Fx (G : GX) (y : YX) (p : Program) (s : State) (m : MethodId) (args : Array Value) (meth : Method) (c : Code) : Prop :=
  p.tables.exec = Jvm.exec ∧ c.code = y.1 ∧ c.maxLocals = y.2.1 ∧ s.vm.findClass y.2.2.1 = some m.cls ∧ (∀ w ∈ WS, w.before args s = true) ∧ meth.locks = false ∧ meth.sig.returnType = y.2.2.2.2.1 ∧ meth.name = y.2.2.2.2.2 ∧ Kx G s ∧ Sx G s s.heap ∧ gB G ≤ s.heap.size
/-! locals: a list of stores, the newest first -/
def lk : List (Nat × Value) → Nat → Option Value
  | [], _ => none
  | (i, v) :: r, j => bif Nat.beq i j then some v else lk r j
def lsub : List (Nat × Value) → List (Nat × Value) → Prop
  | [], _ => True
  | (i, v) :: r, l => lk l i = some v ∧ lsub r l
def LH (ls : Array Slot) (nL : Nat) (l : List (Nat × Value)) : Prop := ls.size = nL ∧ lv_wf ls ∧ ∀ i v, lk l i = some v → ls[i]? = some (.val v) ∧ v.category = 1
theorem lsub_spec : ∀ {l l' : List (Nat × Value)}, lsub l' l → ∀ i v, lk l' i = some v → lk l i = some v
  | _, [], _, _, _, h => by simp [lk] at h
  | l, (j, w) :: r, hs, i, v, h => by
    obtain ⟨h1, h2⟩ := hs
    simp only [lk] at h
    cases hb : Nat.beq j i with
    | true =>
      rw [hb] at h
      simp only [cond_true] at h
      cases h
      rw [← Nat.eq_of_beq_eq_true hb]
      exact h1
    | false =>
      rw [hb] at h
      exact lsub_spec h2 i v h
theorem LH.sub {ls : Array Slot} {nL : Nat} {l l' : List (Nat × Value)} (h : LH ls nL l) (hs : lsub l' l) : LH ls nL l' := ⟨h.1, h.2.1, fun i v hi => h.2.2 i v (lsub_spec hs i v hi)⟩
def ldd (l : List (Nat × Value)) : List (Nat × Value) := l.filterMap (fun q => (lk l q.1).map (fun v => (q.1, v)))
theorem ldd_mem {l : List (Nat × Value)} {q : Nat × Value} (h : q ∈ ldd l) : lk l q.1 = some q.2 := by
  obtain ⟨a, -, h2⟩ := List.mem_filterMap.mp h
  cases hk : lk l a.1 with
  | none => rw [hk] at h2; cases h2
  | some v =>
    rw [hk] at h2
    cases h2
    exact hk
theorem lk_mem : ∀ {l : List (Nat × Value)} {i : Nat} {v : Value}, lk l i = some v → (i, v) ∈ l
  | [], _, _, h => by simp [lk] at h
  | (j, w) :: r, i, v, h => by
    simp only [lk] at h
    cases hb : Nat.beq j i with
    | true =>
      rw [hb] at h
      simp only [cond_true] at h
      cases h
      rw [← Nat.eq_of_beq_eq_true hb]
      exact List.mem_cons_self
    | false =>
      rw [hb] at h
      exact List.mem_cons_of_mem _ (lk_mem (l := r) h)
theorem ldd_of {l : List (Nat × Value)} {i : Nat} {v : Value} (h : lk l i = some v) : (i, v) ∈ ldd l := by
  refine List.mem_filterMap.mpr ⟨(i, v), lk_mem h, ?_⟩
  show (lk l i).map (fun v => (i, v)) = some (i, v)
  rw [h]
  rfl
theorem LH.has {ls : Array Slot} {nL : Nat} {l : List (Nat × Value)} (h : LH ls nL l) : lv_has ls nL (ldd l) := ⟨h.1, h.2.1, fun q hq => (h.2.2 q.1 q.2 (ldd_mem hq)).1⟩
theorem LH.put {ls ls' : Array Slot} {nL i : Nat} {v : Value} {l : List (Nat × Value)} (h : LH ls nL l) (hv : v.category = 1) (h' : lv_has ls' nL ((i, v) :: (ldd l).filter (fun q => !(q.1 == i) && !(q.1 + 1 == i && q.2.category == 2)))) : LH ls' nL ((i, v) :: l) := by
  refine ⟨h'.1, h'.2.1, fun j w hj => ?_⟩
  simp only [lk] at hj
  cases hb : Nat.beq i j with
  | true =>
    rw [hb] at hj
    simp only [cond_true] at hj
    cases hj
    rw [← Nat.eq_of_beq_eq_true hb]
    exact ⟨h'.2.2 (i, v) List.mem_cons_self, hv⟩
  | false =>
    rw [hb] at hj
    have hj' : lk l j = some w := hj
    obtain ⟨h1, h2⟩ := h.2.2 j w hj'
    refine ⟨h'.2.2 (j, w) (List.mem_cons_of_mem _ (List.mem_filter.mpr ⟨ldd_of hj', ?_⟩)), h2⟩
    have hne : j ≠ i := fun e => by rw [e, Nat.beq_refl] at hb; cases hb
    simp [hne, h2]
abbrev ZX : Type := List Frame → Array Value → State → State → Prop
def XJ (G : GX) (y : YX) (E : State → Prop) (Z : ZX) (pc : Nat) (l : List (Nat × Value)) (stk : List Value) (n : Nat) (cs : Nat → va_E) (ck sk : Nat) : Prop :=
  ∀ (p : Program) (e : Env) (s : State) (m : MethodId) (args : Array Value) (below : List Frame) (meth : Method) (c : Code) (H : Heap) (locs : List Loc) (ls : Array Slot),
    Fx G y p s m args meth c → E s → va_S (gA G) s.heap H locs → Rp G n cs H → LH ls y.2.1 l → W p G.1 e y.2.2.2.1 s m args below meth c H locs ck sk (Z below args s) (F0 m pc ls stk)
section ROWS
variable {G : GX} {y : YX} {E : State → Prop} {Z : ZX} {pc : Nat} {l : List (Nat × Value)} {stk : List Value} {n : Nat} {cs : Nat → va_E} {ck sk : Nat}
theorem x_sub {l' : List (Nat × Value)} (h : lsub l' l) (kk : XJ G y E Z pc l' stk n cs ck sk) : XJ G y E Z pc l stk n cs ck sk :=
  fun p e s m args below meth c H locs ls F e1 S P L => kk p e s m args below meth c H locs ls F e1 S P (L.sub h)
theorem x_heap {cs' : Nat → va_E} (h : ∀ o, o < n → cs' o = cs o) (kk : XJ G y E Z pc l stk n cs' ck sk) : XJ G y E Z pc l stk n cs ck sk :=
  fun p e s m args below meth c H locs ls F e1 S P L => kk p e s m args below meth c H locs ls F e1 S ⟨P.1, fun o ho => by rw [h o ho]; exact P.2 o ho⟩ L
theorem x_eq {stk' : List Value} {cs' : Nat → va_E} (h1 : stk = stk') (h2 : cs = cs') (kk : XJ G y E Z pc l stk' n cs' ck sk) : XJ G y E Z pc l stk n cs ck sk := by
  subst h1; subst h2; exact kk
theorem x_widen {ck' sk' : Nat} (h1 : ck ≤ ck') (h2 : sk ≤ sk') (kk : XJ G y E Z pc l stk n cs ck' sk') : XJ G y E Z pc l stk n cs ck sk :=
  fun p e s m args below meth c H locs ls F e1 S P L => W.widen h1 h2 (kk p e s m args below meth c H locs ls F e1 S P L)
theorem x_iconst {k : Int} (v : Int32) (hd : decode y.1 pc = .ok (.iconst k, 1)) (hv : Int32.ofInt k = v) (kk : XJ G y E Z (pc + 1) l (.int v :: stk) n cs ck sk) : XJ G y E Z pc l stk n cs ck sk :=
  fun p e s m args below meth c H locs ls F e1 S P L => lv_iconst F.1 F.2.1 hd hv (kk p e s m args below meth c H locs ls F e1 S P L)
theorem x_bipush {k : Int} (v : Int32) (hd : decode y.1 pc = .ok (.bipush k, 2)) (hv : (Int8.ofInt k).toInt32 = v) (kk : XJ G y E Z (pc + 2) l (.int v :: stk) n cs ck sk) : XJ G y E Z pc l stk n cs ck sk :=
  fun p e s m args below meth c H locs ls F e1 S P L => lv_bipush F.1 F.2.1 hd hv (kk p e s m args below meth c H locs ls F e1 S P L)
theorem x_sipush {k : Int} (v : Int32) (hd : decode y.1 pc = .ok (.sipush k, 3)) (hv : (Int16.ofInt k).toInt32 = v) (kk : XJ G y E Z (pc + 3) l (.int v :: stk) n cs ck sk) : XJ G y E Z pc l stk n cs ck sk :=
  fun p e s m args below meth c H locs ls F e1 S P L => lv_sipush F.1 F.2.1 hd hv (kk p e s m args below meth c H locs ls F e1 S P L)
theorem x_iload_n {k : Fin 4} {v : Int32} (hd : decode y.1 pc = .ok (.iload_n k, 1)) (hl : lk l k = some (.int v)) (kk : XJ G y E Z (pc + 1) l (.int v :: stk) n cs ck sk) : XJ G y E Z pc l stk n cs ck sk :=
  fun p e s m args below meth c H locs ls F e1 S P L => lv_iload_n F.1 F.2.1 hd rfl (L.2.2 _ _ hl).1 (kk p e s m args below meth c H locs ls F e1 S P L)
theorem x_iload {k : Nat} {v : Int32} (hd : decode y.1 pc = .ok (.iload k, 2)) (hl : lk l k = some (.int v)) (kk : XJ G y E Z (pc + 2) l (.int v :: stk) n cs ck sk) : XJ G y E Z pc l stk n cs ck sk :=
  fun p e s m args below meth c H locs ls F e1 S P L => lv_iload F.1 F.2.1 hd (L.2.2 _ _ hl).1 (kk p e s m args below meth c H locs ls F e1 S P L)
theorem x_aload_n {k : Fin 4} {v : Nat} (hd : decode y.1 pc = .ok (.aload_n k, 1)) (hl : lk l k = some (.ref v)) (kk : XJ G y E Z (pc + 1) l (.ref v :: stk) n cs ck sk) : XJ G y E Z pc l stk n cs ck sk :=
  fun p e s m args below meth c H locs ls F e1 S P L => lv_aload_n F.1 F.2.1 hd rfl (L.2.2 _ _ hl).1 (kk p e s m args below meth c H locs ls F e1 S P L)
theorem x_aload {k : Nat} {v : Nat} (hd : decode y.1 pc = .ok (.aload k, 2)) (hl : lk l k = some (.ref v)) (kk : XJ G y E Z (pc + 2) l (.ref v :: stk) n cs ck sk) : XJ G y E Z pc l stk n cs ck sk :=
  fun p e s m args below meth c H locs ls F e1 S P L => lv_aload F.1 F.2.1 hd (L.2.2 _ _ hl).1 (kk p e s m args below meth c H locs ls F e1 S P L)
theorem x_istore_n {k : Fin 4} {v : Int32} (hd : decode y.1 pc = .ok (.istore_n k, 1)) (hn : (k : Nat) < y.2.1) (kk : XJ G y E Z (pc + 1) (((k : Nat), .int v) :: l) stk n cs ck sk) : XJ G y E Z pc l (.int v :: stk) n cs ck sk :=
  fun p e s m args below meth c H locs ls F e1 S P L => lv_istore_n F.1 F.2.1 hd rfl L.has hn rfl (fun ls' h' => kk p e s m args below meth c H locs ls' F e1 S P (L.put rfl h'))
theorem x_istore {k : Nat} {v : Int32} (hd : decode y.1 pc = .ok (.istore k, 2)) (hn : (k : Nat) < y.2.1) (kk : XJ G y E Z (pc + 2) ((k, .int v) :: l) stk n cs ck sk) : XJ G y E Z pc l (.int v :: stk) n cs ck sk :=
  fun p e s m args below meth c H locs ls F e1 S P L => lv_istore F.1 F.2.1 hd L.has hn rfl (fun ls' h' => kk p e s m args below meth c H locs ls' F e1 S P (L.put rfl h'))
theorem x_astore_n {k : Fin 4} {v : Nat} (hd : decode y.1 pc = .ok (.astore_n k, 1)) (hn : (k : Nat) < y.2.1) (kk : XJ G y E Z (pc + 1) (((k : Nat), .ref v) :: l) stk n cs ck sk) : XJ G y E Z pc l (.ref v :: stk) n cs ck sk :=
  fun p e s m args below meth c H locs ls F e1 S P L => lv_astore_n F.1 F.2.1 hd rfl L.has hn rfl (fun ls' h' => kk p e s m args below meth c H locs ls' F e1 S P (L.put rfl h'))
theorem x_astore {k : Nat} {v : Nat} (hd : decode y.1 pc = .ok (.astore k, 2)) (hn : (k : Nat) < y.2.1) (kk : XJ G y E Z (pc + 2) ((k, .ref v) :: l) stk n cs ck sk) : XJ G y E Z pc l (.ref v :: stk) n cs ck sk :=
  fun p e s m args below meth c H locs ls F e1 S P L => lv_astore F.1 F.2.1 hd L.has hn rfl (fun ls' h' => kk p e s m args below meth c H locs ls' F e1 S P (L.put rfl h'))
theorem ldd_get {l : List (Nat × Value)} {i : Nat} {v : Value} (h : lk l i = some v) : ∃ k : Nat, (ldd l)[k]? = some (i, v) := List.getElem?_of_mem (ldd_of h)
theorem x_iinc {k : Nat} {q : Int} {v : Int32} (w : Int32) (hd : decode y.1 pc = .ok (.iinc k q, 3)) (hl : lk l k = some (.int v)) (hw : v + Int32.ofInt q = w) (hn : k < y.2.1) (kk : XJ G y E Z (pc + 3) ((k, .int w) :: l) stk n cs ck sk) : XJ G y E Z pc l stk n cs ck sk := by
  intro p e s m args below meth c H locs ls F e1 S P L
  obtain ⟨j, hj⟩ := ldd_get hl
  exact lv_iinc F.1 F.2.1 hd L.has hj hw hn rfl (fun ls' h' => kk p e s m args below meth c H locs ls' F e1 S P (L.put rfl h'))
theorem x_iadd {a b : Int32} (hd : decode y.1 pc = .ok (.iadd, 1)) (kk : XJ G y E Z (pc + 1) l (.int (a + b) :: stk) n cs ck sk) : XJ G y E Z pc l (.int b :: .int a :: stk) n cs ck sk :=
  fun p e s m args below meth c H locs ls F e1 S P L => lv_iadd F.1 F.2.1 hd (kk p e s m args below meth c H locs ls F e1 S P L)
theorem x_isub {a b : Int32} (hd : decode y.1 pc = .ok (.isub, 1)) (kk : XJ G y E Z (pc + 1) l (.int (a - b) :: stk) n cs ck sk) : XJ G y E Z pc l (.int b :: .int a :: stk) n cs ck sk :=
  fun p e s m args below meth c H locs ls F e1 S P L => lv_isub F.1 F.2.1 hd (kk p e s m args below meth c H locs ls F e1 S P L)
theorem x_imul {a b : Int32} (hd : decode y.1 pc = .ok (.imul, 1)) (kk : XJ G y E Z (pc + 1) l (.int (a * b) :: stk) n cs ck sk) : XJ G y E Z pc l (.int b :: .int a :: stk) n cs ck sk :=
  fun p e s m args below meth c H locs ls F e1 S P L => lv_imul F.1 F.2.1 hd (kk p e s m args below meth c H locs ls F e1 S P L)
theorem x_idiv {a b : Int32} (hd : decode y.1 pc = .ok (.idiv, 1)) (hb : ¬ b = 0) (kk : XJ G y E Z (pc + 1) l (.int (a / b) :: stk) n cs ck sk) : XJ G y E Z pc l (.int b :: .int a :: stk) n cs ck sk :=
  fun p e s m args below meth c H locs ls F e1 S P L => lv_idiv F.1 F.2.1 hd hb (kk p e s m args below meth c H locs ls F e1 S P L)
theorem x_irem {a b : Int32} (hd : decode y.1 pc = .ok (.irem, 1)) (hb : ¬ b = 0) (kk : XJ G y E Z (pc + 1) l (.int (a - a / b * b) :: stk) n cs ck sk) : XJ G y E Z pc l (.int b :: .int a :: stk) n cs ck sk :=
  fun p e s m args below meth c H locs ls F e1 S P L => lv_irem F.1 F.2.1 hd hb (kk p e s m args below meth c H locs ls F e1 S P L)
theorem x_iand {a b : Int32} (hd : decode y.1 pc = .ok (.iand, 1)) (kk : XJ G y E Z (pc + 1) l (.int (a &&& b) :: stk) n cs ck sk) : XJ G y E Z pc l (.int b :: .int a :: stk) n cs ck sk :=
  fun p e s m args below meth c H locs ls F e1 S P L => lv_iand F.1 F.2.1 hd (kk p e s m args below meth c H locs ls F e1 S P L)
theorem x_ior {a b : Int32} (hd : decode y.1 pc = .ok (.ior, 1)) (kk : XJ G y E Z (pc + 1) l (.int (a ||| b) :: stk) n cs ck sk) : XJ G y E Z pc l (.int b :: .int a :: stk) n cs ck sk :=
  fun p e s m args below meth c H locs ls F e1 S P L => lv_ior F.1 F.2.1 hd (kk p e s m args below meth c H locs ls F e1 S P L)
theorem x_ishl {a b : Int32} (hd : decode y.1 pc = .ok (.ishl, 1)) (kk : XJ G y E Z (pc + 1) l (.int (a <<< (b &&& 31)) :: stk) n cs ck sk) : XJ G y E Z pc l (.int b :: .int a :: stk) n cs ck sk :=
  fun p e s m args below meth c H locs ls F e1 S P L => lv_ishl F.1 F.2.1 hd (kk p e s m args below meth c H locs ls F e1 S P L)
theorem x_i2c {a : Int32} (hd : decode y.1 pc = .ok (.i2c, 1)) (kk : XJ G y E Z (pc + 1) l (.int (a.toUInt32 % 65536).toInt32 :: stk) n cs ck sk) : XJ G y E Z pc l (.int a :: stk) n cs ck sk :=
  fun p e s m args below meth c H locs ls F e1 S P L => lv_i2c F.1 F.2.1 hd rfl (kk p e s m args below meth c H locs ls F e1 S P L)
theorem x_pop {v : Value} (hd : decode y.1 pc = .ok (.pop, 1)) (hv : v.category = 1) (kk : XJ G y E Z (pc + 1) l stk n cs ck sk) : XJ G y E Z pc l (v :: stk) n cs ck sk :=
  fun p e s m args below meth c H locs ls F e1 S P L => lv_pop F.1 F.2.1 hd hv (kk p e s m args below meth c H locs ls F e1 S P L)
theorem x_dup {v : Value} (hd : decode y.1 pc = .ok (.dup, 1)) (hv : v.category = 1) (kk : XJ G y E Z (pc + 1) l (v :: v :: stk) n cs ck sk) : XJ G y E Z pc l (v :: stk) n cs ck sk :=
  fun p e s m args below meth c H locs ls F e1 S P L => lv_dup F.1 F.2.1 hd hv (kk p e s m args below meth c H locs ls F e1 S P L)
theorem x_dup2 {v w : Value} (hd : decode y.1 pc = .ok (.dup2, 1)) (hv : v.category = 1) (hw : w.category = 1) (kk : XJ G y E Z (pc + 1) l (v :: w :: v :: w :: stk) n cs ck sk) : XJ G y E Z pc l (v :: w :: stk) n cs ck sk :=
  fun p e s m args below meth c H locs ls F e1 S P L => lv_dup2_11 F.1 F.2.1 hd hv hw (kk p e s m args below meth c H locs ls F e1 S P L)
theorem x_goto {off : Int} (tgt : Nat) (hd : decode y.1 pc = .ok (.goto off, 3)) (ht : (pc : Int) + off = (tgt : Int)) (kk : XJ G y E Z tgt l stk n cs ck sk) : XJ G y E Z pc l stk n cs ck sk :=
  fun p e s m args below meth c H locs ls F e1 S P L => lv_goto F.1 F.2.1 hd ht (kk p e s m args below meth c H locs ls F e1 S P L)
theorem x_ifeq {a : Int32} {off : Int} (tgt : Nat) (hd : decode y.1 pc = .ok (.ifCond .eq off, 3)) (ht : (pc : Int) + off = (tgt : Int)) (kt : a = 0 → XJ G y E Z tgt l stk n cs ck sk) (kf : ¬ a = 0 → XJ G y E Z (pc + 3) l stk n cs ck sk) : XJ G y E Z pc l (.int a :: stk) n cs ck sk :=
  fun p e s m args below meth c H locs ls F e1 S P L => lv_if_eq F.1 F.2.1 hd ht (fun q => kt q p e s m args below meth c H locs ls F e1 S P L) (fun q => kf q p e s m args below meth c H locs ls F e1 S P L)
theorem x_ifne {a : Int32} {off : Int} (tgt : Nat) (hd : decode y.1 pc = .ok (.ifCond .ne off, 3)) (ht : (pc : Int) + off = (tgt : Int)) (kt : ¬ a = 0 → XJ G y E Z tgt l stk n cs ck sk) (kf : a = 0 → XJ G y E Z (pc + 3) l stk n cs ck sk) : XJ G y E Z pc l (.int a :: stk) n cs ck sk :=
  fun p e s m args below meth c H locs ls F e1 S P L => lv_if_ne F.1 F.2.1 hd ht (fun q => kt q p e s m args below meth c H locs ls F e1 S P L) (fun q => kf (by first | exact q | exact Classical.not_not.mp q) p e s m args below meth c H locs ls F e1 S P L)
theorem x_iflt {a : Int32} {off : Int} (tgt : Nat) (hd : decode y.1 pc = .ok (.ifCond .lt off, 3)) (ht : (pc : Int) + off = (tgt : Int)) (kt : a < 0 → XJ G y E Z tgt l stk n cs ck sk) (kf : ¬ a < 0 → XJ G y E Z (pc + 3) l stk n cs ck sk) : XJ G y E Z pc l (.int a :: stk) n cs ck sk :=
  fun p e s m args below meth c H locs ls F e1 S P L => lv_if_lt F.1 F.2.1 hd ht (fun q => kt q p e s m args below meth c H locs ls F e1 S P L) (fun q => kf q p e s m args below meth c H locs ls F e1 S P L)
theorem x_ifge {a : Int32} {off : Int} (tgt : Nat) (hd : decode y.1 pc = .ok (.ifCond .ge off, 3)) (ht : (pc : Int) + off = (tgt : Int)) (kt : ¬ a < 0 → XJ G y E Z tgt l stk n cs ck sk) (kf : a < 0 → XJ G y E Z (pc + 3) l stk n cs ck sk) : XJ G y E Z pc l (.int a :: stk) n cs ck sk :=
  fun p e s m args below meth c H locs ls F e1 S P L => lv_if_ge F.1 F.2.1 hd ht (fun q => kt (by first | exact q | exact Int32.not_lt.mpr q) p e s m args below meth c H locs ls F e1 S P L) (fun q => kf (by first | exact q | exact Int32.not_le.mp q) p e s m args below meth c H locs ls F e1 S P L)
theorem x_ifgt {a : Int32} {off : Int} (tgt : Nat) (hd : decode y.1 pc = .ok (.ifCond .gt off, 3)) (ht : (pc : Int) + off = (tgt : Int)) (kt : 0 < a → XJ G y E Z tgt l stk n cs ck sk) (kf : ¬ 0 < a → XJ G y E Z (pc + 3) l stk n cs ck sk) : XJ G y E Z pc l (.int a :: stk) n cs ck sk :=
  fun p e s m args below meth c H locs ls F e1 S P L => lv_if_gt F.1 F.2.1 hd ht (fun q => kt (by first | exact q | exact Int32.not_le.mp q) p e s m args below meth c H locs ls F e1 S P L) (fun q => kf (by first | exact q | exact Int32.not_lt.mpr q | exact fun z => absurd z q) p e s m args below meth c H locs ls F e1 S P L)
theorem x_ifle {a : Int32} {off : Int} (tgt : Nat) (hd : decode y.1 pc = .ok (.ifCond .le off, 3)) (ht : (pc : Int) + off = (tgt : Int)) (kt : ¬ 0 < a → XJ G y E Z tgt l stk n cs ck sk) (kf : 0 < a → XJ G y E Z (pc + 3) l stk n cs ck sk) : XJ G y E Z pc l (.int a :: stk) n cs ck sk :=
  fun p e s m args below meth c H locs ls F e1 S P L => lv_if_le F.1 F.2.1 hd ht (fun q => kt (by first | exact q | exact Int32.not_lt.mpr q) p e s m args below meth c H locs ls F e1 S P L) (fun q => kf (by first | exact q | exact Int32.not_le.mp q) p e s m args below meth c H locs ls F e1 S P L)
theorem x_cmpeq {a b : Int32} {off : Int} (tgt : Nat) (hd : decode y.1 pc = .ok (.if_icmp .eq off, 3)) (ht : (pc : Int) + off = (tgt : Int)) (kt : a = b → XJ G y E Z tgt l stk n cs ck sk) (kf : ¬ a = b → XJ G y E Z (pc + 3) l stk n cs ck sk) : XJ G y E Z pc l (.int b :: .int a :: stk) n cs ck sk :=
  fun p e s m args below meth c H locs ls F e1 S P L => lv_icmp_eq F.1 F.2.1 hd ht (fun q => kt q p e s m args below meth c H locs ls F e1 S P L) (fun q => kf q p e s m args below meth c H locs ls F e1 S P L)
theorem x_cmpne {a b : Int32} {off : Int} (tgt : Nat) (hd : decode y.1 pc = .ok (.if_icmp .ne off, 3)) (ht : (pc : Int) + off = (tgt : Int)) (kt : ¬ a = b → XJ G y E Z tgt l stk n cs ck sk) (kf : a = b → XJ G y E Z (pc + 3) l stk n cs ck sk) : XJ G y E Z pc l (.int b :: .int a :: stk) n cs ck sk :=
  fun p e s m args below meth c H locs ls F e1 S P L => lv_icmp_ne F.1 F.2.1 hd ht (fun q => kt q p e s m args below meth c H locs ls F e1 S P L) (fun q => kf (by first | exact q | exact Classical.not_not.mp q) p e s m args below meth c H locs ls F e1 S P L)
theorem x_cmplt {a b : Int32} {off : Int} (tgt : Nat) (hd : decode y.1 pc = .ok (.if_icmp .lt off, 3)) (ht : (pc : Int) + off = (tgt : Int)) (kt : a < b → XJ G y E Z tgt l stk n cs ck sk) (kf : ¬ a < b → XJ G y E Z (pc + 3) l stk n cs ck sk) : XJ G y E Z pc l (.int b :: .int a :: stk) n cs ck sk :=
  fun p e s m args below meth c H locs ls F e1 S P L => lv_icmp_lt F.1 F.2.1 hd ht (fun q => kt q p e s m args below meth c H locs ls F e1 S P L) (fun q => kf q p e s m args below meth c H locs ls F e1 S P L)
theorem x_cmpge {a b : Int32} {off : Int} (tgt : Nat) (hd : decode y.1 pc = .ok (.if_icmp .ge off, 3)) (ht : (pc : Int) + off = (tgt : Int)) (kt : ¬ a < b → XJ G y E Z tgt l stk n cs ck sk) (kf : a < b → XJ G y E Z (pc + 3) l stk n cs ck sk) : XJ G y E Z pc l (.int b :: .int a :: stk) n cs ck sk :=
  fun p e s m args below meth c H locs ls F e1 S P L => lv_icmp_ge F.1 F.2.1 hd ht (fun q => kt (by first | exact q | exact Int32.not_lt.mpr q) p e s m args below meth c H locs ls F e1 S P L) (fun q => kf (by first | exact q | exact Int32.not_le.mp q) p e s m args below meth c H locs ls F e1 S P L)
theorem x_cmpgt {a b : Int32} {off : Int} (tgt : Nat) (hd : decode y.1 pc = .ok (.if_icmp .gt off, 3)) (ht : (pc : Int) + off = (tgt : Int)) (kt : b < a → XJ G y E Z tgt l stk n cs ck sk) (kf : ¬ b < a → XJ G y E Z (pc + 3) l stk n cs ck sk) : XJ G y E Z pc l (.int b :: .int a :: stk) n cs ck sk :=
  fun p e s m args below meth c H locs ls F e1 S P L => lv_icmp_gt F.1 F.2.1 hd ht (fun q => kt (by first | exact q | exact Int32.not_le.mp q) p e s m args below meth c H locs ls F e1 S P L) (fun q => kf (by first | exact q | exact Int32.not_lt.mpr q | exact fun z => absurd z q) p e s m args below meth c H locs ls F e1 S P L)
theorem x_cmple {a b : Int32} {off : Int} (tgt : Nat) (hd : decode y.1 pc = .ok (.if_icmp .le off, 3)) (ht : (pc : Int) + off = (tgt : Int)) (kt : ¬ b < a → XJ G y E Z tgt l stk n cs ck sk) (kf : b < a → XJ G y E Z (pc + 3) l stk n cs ck sk) : XJ G y E Z pc l (.int b :: .int a :: stk) n cs ck sk :=
  fun p e s m args below meth c H locs ls F e1 S P L => lv_icmp_le F.1 F.2.1 hd ht (fun q => kt (by first | exact q | exact Int32.not_lt.mpr q) p e s m args below meth c H locs ls F e1 S P L) (fun q => kf (by first | exact q | exact Int32.not_le.mp q) p e s m args below meth c H locs ls F e1 S P L)
theorem x_tableIn {dflt lo hi : Int} {offs : Array Int} {len : Nat} {a : Int32} {off : Int} (tgt : Nat) (hd : decode y.1 pc = .ok (.tableswitch dflt lo hi offs, len)) (h1 : ¬ a.toInt < lo) (h2 : ¬ hi < a.toInt) (ho : offs[(a.toInt - lo).toNat]? = some off) (ht : (pc : Int) + off = (tgt : Int)) (kk : XJ G y E Z tgt l stk n cs ck sk) : XJ G y E Z pc l (.int a :: stk) n cs ck sk :=
  fun p e s m args below meth c H locs ls F e1 S P L => lv_tableIn F.1 F.2.1 hd h1 h2 ho ht (kk p e s m args below meth c H locs ls F e1 S P L)
theorem x_tableOut {dflt lo hi : Int} {offs : Array Int} {len : Nat} {a : Int32} (tgt : Nat) (hd : decode y.1 pc = .ok (.tableswitch dflt lo hi offs, len)) (h1 : a.toInt < lo ∨ hi < a.toInt) (ht : (pc : Int) + dflt = (tgt : Int)) (kk : XJ G y E Z tgt l stk n cs ck sk) : XJ G y E Z pc l (.int a :: stk) n cs ck sk :=
  fun p e s m args below meth c H locs ls F e1 S P L => lv_tableOut F.1 F.2.1 hd h1 ht (kk p e s m args below meth c H locs ls F e1 S P L)
theorem x_lookup {dflt : Int} {ps : Array (Int × Int)} {len : Nat} {a : Int32} {off : Int} (tgt : Nat) (hd : decode y.1 pc = .ok (.lookupswitch dflt ps, len)) (hp : (ps.toList.zip (ps.toList.drop 1)).all (fun (a, next) => a.1 < next.1) = true) (ho : Op.lookupswitch.offset ps.toList dflt a.toInt = off) (ht : (pc : Int) + off = (tgt : Int)) (kk : XJ G y E Z tgt l stk n cs ck sk) : XJ G y E Z pc l (.int a :: stk) n cs ck sk :=
  fun p e s m args below meth c H locs ls F e1 S P L => lv_lookup F.1 F.2.1 hd hp ho ht (kk p e s m args below meth c H locs ls F e1 S P L)
end ROWS
end
section
/-! rows on the heap, calls, returns -/
theorem Kx.same {G : GX} {u U : State} (h : u.vm = U.vm) (hK : Kx G u) : Kx G U := by
  have hal : u.vm.Alike U.vm := by rw [h]; exact Vm.Alike.refl _
  exact ⟨va_K.moved hal hK.1, va_AO.moved hal hK.2.1, va_AO.moved hal hK.2.2.1, va_Nw.same rfl h hK.2.2.2.1, va_Nw.same rfl h hK.2.2.2.2⟩
theorem Kx.warm {G : GX} {s U : State} (h : s.WarmedH U.vm) (hK : Kx G s) : Kx G U :=
  ⟨va_K.moved h.alike hK.1, va_AO.moved h.alike hK.2.1, va_AO.moved h.alike hK.2.2.1, va_Nw.warmM h hK.2.2.2.1, va_Nw.warmM h hK.2.2.2.2⟩
theorem Sx.moved {G : GX} {u U : State} {H : Heap} (hal : u.vm.Alike U.vm) (h : Sx G u H) : Sx G U H :=
  ⟨va_Z.moved hal h.1, va_T.moved hal h.2.1, va_Z.moved hal h.2.2.1, va_T.moved hal h.2.2.2⟩
theorem Sx.kept {G : GX} {U : State} {H H1 : Heap} (h : Sx G U H) (hq : ∀ a : Nat, a < H.size → ¬ gA G a → H1[a]? = H[a]?) : Sx G U H1 :=
  ⟨va_Z.kept h.1 hq, va_T.kept h.2.1 hq, va_Z.kept h.2.2.1 hq, va_T.kept h.2.2.2 hq⟩
theorem Wd.warm {G : GX} {s U : State} {n : Nat} {cs : Nat → va_E} {H : Heap} {locs : List Loc} (hK : Kx G s) (hS : Sx G s s.heap) (h : s.WarmedH U.vm) (hU : U.heap = H) (hp : va_S (gA G) s.heap H locs) (hP : Rp G n cs H) : Wd G n cs U :=
  ⟨by rw [hU]; exact hP, hK.warm h, by rw [hU]; exact (hS.moved h.alike).kept hp.2.1⟩
theorem Wd.same {G : GX} {u U : State} {n : Nat} {cs : Nat → va_E} (h : u.vm = U.vm) (hh : u.heap = U.heap) (hW : Wd G n cs u) : Wd G n cs U :=
  ⟨by rw [← hh]; exact hW.1, hW.2.1.same h, by rw [← hh]; exact hW.2.2.moved (by rw [h]; exact Vm.Alike.refl _)⟩
theorem Wd.blind (G : GX) (n : Nat) (cs : Nat → va_E) (As : List Value) : FrameBlind (va_Pc As (Wd G n cs)) := fun _ _ _ _ q => ⟨q.1, Wd.same rfl rfl q.2⟩
def Qx (G : GX) (r : Option Value → Nat → (Nat → va_E) → Prop) : Array Value → State → Outcome → State → Prop := fun _ st o t => (∃ v n' cs', o = .returned v ∧ r v n' cs' ∧ Wd G n' cs' t) ∧ va_F (gA G) st t
def Zx (G : GX) (r : Option Value → Nat → (Nat → va_E) → Prop) (mc ms : Nat) : ZX := fun below args s => MQ below (Qx G r) args s mc ms (gA G)
/-- a method's contract -/
def Ct (G : GX) (ynm : MethodName) (yc : YX) (mc ms : Nat) (As : List Value) (n : Nat) (cs : Nat → va_E) (r : Option Value → Nat → (Nat → va_E) → Prop) : Prop :=
  Met G.1 ynm (Cond.code ynm yc.1 yc.2.1 yc.2.2.2.2.1 :: WS) yc.2.2.2.1 (va_Pc As (Wd G n cs)) (Qx G r) mc ms (gA G)
theorem lv_args_mem : ∀ {vs : List Value} {i : Nat} {q : Nat × Value}, q ∈ lv_args i vs → q.2 ∈ vs
  | [], _, _, h => by simp [lv_args] at h
  | v :: vs, i, q, h => by
    simp only [lv_args] at h
    rcases List.mem_cons.mp h with h | h
    · rw [h]; exact List.mem_cons_self
    · exact List.mem_cons_of_mem _ (lv_args_mem h)
theorem ct_of {G : GX} {ynm : MethodName} {yc : YX} {mc ms : Nat} {As : List Value} {n : Nat} {cs : Nat → va_E} {r : Option Value → Nat → (Nat → va_E) → Prop} (hpl : plainName ynm.cls = true) (hcls : ynm.cls = yc.2.2.1) (hnm : ynm.name = yc.2.2.2.2.2) (hlen : (lg_sl As).length ≤ yc.2.1) (hcat : ∀ v ∈ As, v.category = 1)
    (h : XJ G yc (fun _ => True) (Zx G r mc ms) 0 (lv_args 0 As) [] n cs 0 0) : Ct G ynm yc mc ms As n cs r := by
  refine Met.ofW (cc := yc.1) (maxL := yc.2.1) (ret := yc.2.2.2.2.1) hpl rfl ?_
  intro p e s m args below meth c s₁ B hml hv
  obtain ⟨rfl, hW⟩ := hv
  have hts := atoms_spec (ws := Cond.code ynm yc.1 yc.2.1 yc.2.2.2.2.1 :: WS) B.pre
  have hown : s.vm.findClass yc.2.2.1 = some m.cls := by rw [← hcls]; exact findClass_of_methodNamed B.named
  have hin : meth.name = ynm.name := (name_of_methodNamed B.named B.method).1
  have hl := lv_entry As hlen
  rw [lg_entry_eq]
  refine h p e s m _ below meth c s.heap [] _ ⟨B.exec, B.bytes, hml, hown, fun w hw => hts w (List.mem_cons_of_mem _ hw), B.notSynchronized, B.returns, hin.trans hnm, hW.2.1, hW.2.2, by have := hW.1.1; omega⟩ trivial va_S.rf hW.1 ⟨hl.1, hl.2.1, fun i v hi => ?_⟩
  have hm := lk_mem hi
  exact ⟨hl.2.2 _ hm, hcat _ (lv_args_mem hm)⟩
section HROWS
variable {G : GX} {y : YX} {E : State → Prop} {Z : ZX} {pc : Nat} {l : List (Nat × Value)} {stk : List Value} {n : Nat} {cs : Nat → va_E} {ck sk : Nat}
theorem rp_one {H : Heap} (P : Rp G n cs H) {o : Nat} (ho : o < n) {e : va_E} (he : cs o = e) : va_P (gD G) vwCl [(gB G + o, e)] H := by
  intro k q hq
  cases k with
  | zero =>
    cases hq
    rw [← he]
    exact P.2 o ho
  | succ k => simp at hq
theorem x_get {o ci k idx : Nat} {fs : List Value} {v : Value} {C : String} {T : u_T} {N : Nat} (hcell : cs o = .inr (ci, fs)) (hv : fs[k]? = some v) (ho : o < n) (hc : vwCl[ci]? = some (C, T, N)) (hin : ∀ w ∈ u_ws C T N, w ∈ WS) (hk : k < N) (hlink : Cond.fieldLink y.2.2.1 idx C (T k).2.1 (T k).2.2.1 ∈ WS) (hdecl : (T k).1 = C) (hd : decode y.1 pc = .ok (.getfield idx, 3))
    (kk : XJ G y E Z (pc + 3) l (v :: stk) n cs ck sk) : XJ G y E Z pc l (.ref (gB G + o) :: stk) n cs ck sk := by
  intro p e s m args below meth c H locs ls F e1 S P L
  exact va_get F.1 F.2.1 F.2.2.2.2.1 hin F.2.2.2.1 F.2.2.2.2.2.2.2.2.1.1 (rp_one P ho hcell) 0 rfl hc k hk (F.2.2.2.2.1 _ hlink) (by rw [hdecl]; exact fun _ h => h) hv hd (kk p e s m args below meth c H locs ls F e1 S P L)
theorem x_put {o ci k idx : Nat} {fs : List Value} {v : Value} {C : String} {T : u_T} {N : Nat} {ty : FieldType} (hcell : cs o = .inr (ci, fs)) (ho : o < n) (hc : vwCl[ci]? = some (C, T, N)) (hin : ∀ w ∈ u_ws C T N, w ∈ WS) (tyf : Nat → FieldType) (hty : ∀ k, k < N → parseFieldDescriptor (T k).2.2.1 = some (tyf k)) (hnm : ∀ a, a < N → ∀ b, b < N → a ≠ b → (T a).2.1 ≠ (T b).2.1) (hk : k < N) (hlink : Cond.fieldLink y.2.2.1 idx C (T k).2.1 (T k).2.2.1 ∈ WS) (hdecl : (T k).1 = C) (hfin : (T k).2.2.2 = false) (htk : tyf k = ty) (hn : narrow ty v = v) (hfit : fits ty v = true) (hl : k < fs.length) (hd : decode y.1 pc = .ok (.putfield idx, 3))
    (cs' : Nat → va_E) (hset : ∀ o', o' < n → cs' o' = if o' = o then .inr (ci, fs.set k v) else cs o') (kk : XJ G y E Z (pc + 3) l stk n cs' ck sk) : XJ G y E Z pc l (v :: .ref (gB G + o) :: stk) n cs ck sk := by
  intro p e s m args below meth c H locs ls F e1 S P L
  have hts := F.2.2.2.2.1
  have hK := F.2.2.2.2.2.2.2.2.1.1
  have hap := va_apart (own := y.2.2.1) hts hin tyf hty hnm hK hc
  have hat := P.2 o ho
  rw [hcell] at hat
  obtain ⟨r, h1, cell, q1, q2, q3, q4⟩ := hat
  have hr : r = (C, T, N) := Option.some.inj (h1.symm.trans hc)
  subst hr
  obtain ⟨hS, hfc, kC, hkC, hkind⟩ := hK.1 ci _ hc
  obtain ⟨cf, kf, fi, f, hi, hsl⟩ := hS k hk
  have hlay := hts _ (hin _ (u_in_lay hk))
  unfold u_lay at hlay
  rw [if_neg (by rw [hfin]; decide)] at hlay
  have hst := (u_facts hfc hkC (u_lays hts hin hk) hi).1
  have h6 := u_store hfc hkC hkind hlay hi ((hty k hk).trans (by rw [htk])) hn hfit
  refine W.putK F.1 F.2.1 (f := f) ⟨F.2.2.2.1, hts _ hlink, ⟨cf, kf, fi, by rw [← hdecl]; exact hi⟩, hst⟩ (by rw [q2]; exact h6) q1 q3 (by rw [hsl]; exact k2_hasslot (q4 k hk)) rfl rfl hd fun H' u1 u2 u3 => ?_
  rw [hsl] at u1 ⊢
  refine kk p e s m args below meth c H' _ ls F e1 (S.put u2 u3 (Nat.le_add_right _ _)) ⟨u2.trans P.1, fun o' ho' => ?_⟩ L
  rw [hset o' ho']
  by_cases hoo : o' = o
  · subst hoo
    rw [if_pos rfl]
    exact ⟨_, hc, t_OB.to (V := updV (vp_V fs) k v) ⟨_, u1, q2, q3, t_set q4 hap hk v⟩ (fun j _ => vp_updV_set hl v j)⟩
  · rw [if_neg hoo]
    exact (P.2 o' ho').kept (u3 _ (by show gB G + o' ≠ gB G + o; omega))
theorem x_putF {o ci k idx : Nat} {fs : List Value} {v : Value} {T : u_T} {N : Nat} {ty : FieldType} (hcell : cs o = .inr (ci, fs)) (ho : o < n) (hc : vwCl[ci]? = some (y.2.2.1, T, N)) (hin : ∀ w ∈ u_ws y.2.2.1 T N, w ∈ WS) (tyf : Nat → FieldType) (hty : ∀ k, k < N → parseFieldDescriptor (T k).2.2.1 = some (tyf k)) (hnm : ∀ a, a < N → ∀ b, b < N → a ≠ b → (T a).2.1 ≠ (T b).2.1) (hk : k < N) (hlink : Cond.fieldLink y.2.2.1 idx y.2.2.1 (T k).2.1 (T k).2.2.1 ∈ WS) (hdecl : (T k).1 = y.2.2.1) (hinit : y.2.2.2.2.2 = "<init>") (hfin : (T k).2.2.2 = true) (htk : tyf k = ty) (hn : narrow ty v = v) (hfit : fits ty v = true) (hl : k < fs.length) (hd : decode y.1 pc = .ok (.putfield idx, 3))
    (cs' : Nat → va_E) (hset : ∀ o', o' < n → cs' o' = if o' = o then .inr (ci, fs.set k v) else cs o') (kk : XJ G y E Z (pc + 3) l stk n cs' ck sk) : XJ G y E Z pc l (v :: .ref (gB G + o) :: stk) n cs ck sk := by
  intro p e s m args below meth c H locs ls F e1 S P L
  have hts := F.2.2.2.2.1
  have hK := F.2.2.2.2.2.2.2.2.1.1
  have hap := va_apart (own := y.2.2.1) hts hin tyf hty hnm hK hc
  have hat := P.2 o ho
  rw [hcell] at hat
  obtain ⟨r, h1, cell, q1, q2, q3, q4⟩ := hat
  have hr : r = (y.2.2.1, T, N) := Option.some.inj (h1.symm.trans hc)
  subst hr
  obtain ⟨hS, hfc, kC, hkC, hkind⟩ := hK.1 ci _ hc
  obtain ⟨cf, kf, fi, f, hi, hsl⟩ := hS k hk
  have hlay := hts _ (hin _ (u_in_lay hk))
  unfold u_lay at hlay
  rw [if_pos hfin] at hlay
  have hst := (u_facts hfc hkC (u_lays hts hin hk) hi).1
  have hcf : m.cls = cf := by
    obtain ⟨_, _, c', _, _, _, -, -, hf', -, -, -, hown2, -⟩ := Cond.laysFinal_spec hlay
    have e1 : c' = cf := by have := hi.symm.trans hf'; simp at this; exact this.1.symm
    rw [hdecl] at hown2
    rw [← e1]; exact Option.some.inj (F.2.2.2.1.symm.trans hown2)
  have h6 := u_fits hfc hkC hkind (Or.inr hlay) hi ((hty k hk).trans (by rw [htk])) hn hfit
  have hi2 : s.fieldFound? y.2.2.1 (T k).2.1 (T k).2.2.1 = some (cf, kf, fi, f) := by rw [← hdecl]; exact hi
  refine W.putFinK F.1 F.2.1 F.2.2.2.1 (hts _ hlink) hi2 hst hcf (F.2.2.2.2.2.2.2.1.trans hinit) (by rw [q2]; exact h6) q1 q3 (by rw [hsl]; exact k2_hasslot (q4 k hk)) rfl rfl hd fun H' u1 u2 u3 => ?_
  rw [hsl] at u1 ⊢
  refine kk p e s m args below meth c H' _ ls F e1 (S.put u2 u3 (Nat.le_add_right _ _)) ⟨u2.trans P.1, fun o' ho' => ?_⟩ L
  rw [hset o' ho']
  by_cases hoo : o' = o
  · subst hoo
    rw [if_pos rfl]
    exact ⟨_, hc, t_OB.to (V := updV (vp_V fs) k v) ⟨_, u1, q2, q3, t_set q4 hap hk v⟩ (fun j _ => vp_updV_set hl v j)⟩
  · rw [if_neg hoo]
    exact (P.2 o' ho').kept (u3 _ (by show gB G + o' ≠ gB G + o; omega))
theorem x_iald {o N : Nat} {f : Nat → Int32} {i : Int32} (hcell : cs o = .inl (gI G, N, .inl f)) (ho : o < n) (hi : vp_in i N) (hd : decode y.1 pc = .ok (.iaload, 1)) (kk : XJ G y E Z (pc + 1) l (.int (f i.toNatClampNeg) :: stk) n cs ck sk) : XJ G y E Z pc l (.int i :: .ref (gB G + o) :: stk) n cs ck sk :=
  fun p e s m args below meth c H locs ls F e1 S P L => va_iald F.1 F.2.1 F.2.2.2.2.2.2.2.2.1.1 (rp_one P ho hcell) 0 0 rfl rfl hi hd (kk p e s m args below meth c H locs ls F e1 S P L)
theorem x_cald {o N : Nat} {f : Nat → Int32} {i : Int32} (hcell : cs o = .inl (gC G, N, .inl f)) (ho : o < n) (hi : vp_in i N) (hd : decode y.1 pc = .ok (.caload, 1)) (kk : XJ G y E Z (pc + 1) l (.int (f i.toNatClampNeg) :: stk) n cs ck sk) : XJ G y E Z pc l (.int i :: .ref (gB G + o) :: stk) n cs ck sk :=
  fun p e s m args below meth c H locs ls F e1 S P L => va_cald F.1 F.2.1 F.2.2.2.2.2.2.2.2.1.1 (rp_one P ho hcell) 0 1 rfl rfl hi hd (kk p e s m args below meth c H locs ls F e1 S P L)
theorem x_aaldS {o N a : Nat} {f : Nat → Option Nat} {i : Int32} (hcell : cs o = .inl (gS G, N, .inr (.inr (.inr (.inr f))))) (ho : o < n) (hi : vp_in i N) (hf : f i.toNatClampNeg = some a) (hd : decode y.1 pc = .ok (.aaload, 1)) (kk : XJ G y E Z (pc + 1) l (.ref a :: stk) n cs ck sk) : XJ G y E Z pc l (.int i :: .ref (gB G + o) :: stk) n cs ck sk :=
  fun p e s m args below meth c H locs ls F e1 S P L => va_aldq (C := "BeamCuts$Shape") F.1 F.2.1 F.2.2.2.2.2.2.2.2.1.1 (rp_one P ho hcell) 0 2 rfl rfl hi hd (by rw [hf]; exact kk p e s m args below meth c H locs ls F e1 S P L)
theorem x_aaldT {o N a : Nat} {f : Nat → Option Nat} {i : Int32} (hcell : cs o = .inl (gT G, N, .inr (.inr (.inr (.inr f))))) (ho : o < n) (hi : vp_in i N) (hf : f i.toNatClampNeg = some a) (hd : decode y.1 pc = .ok (.aaload, 1)) (kk : XJ G y E Z (pc + 1) l (.ref a :: stk) n cs ck sk) : XJ G y E Z pc l (.int i :: .ref (gB G + o) :: stk) n cs ck sk :=
  fun p e s m args below meth c H locs ls F e1 S P L => va_aldq (C := "BeamCuts$Sheet") F.1 F.2.1 F.2.2.2.2.2.2.2.2.1.1 (rp_one P ho hcell) 0 3 rfl rfl hi hd (by rw [hf]; exact kk p e s m args below meth c H locs ls F e1 S P L)
theorem rp_set {H H' : Heap} {o : Nat} {cs' : Nat → va_E} {e' : va_E} (P : Rp G n cs H) (z : H'.size = H.size) (oq : ∀ q : Nat, q ≠ gB G + o → H'[q]? = H[q]?) (he : va_at (gD G) vwCl (gB G + o, e') H') (hset : ∀ o', o' < n → cs' o' = if o' = o then e' else cs o') : Rp G n cs' H' := by
  refine ⟨z.trans P.1, fun o' ho' => ?_⟩
  rw [hset o' ho']
  by_cases hoo : o' = o
  · subst hoo
    rw [if_pos rfl]
    exact he
  · rw [if_neg hoo]
    exact (P.2 o' ho').kept (oq _ (by show gB G + o' ≠ gB G + o; omega))
theorem x_iast {o N : Nat} {f : Nat → Int32} {i x : Int32} (hcell : cs o = .inl (gI G, N, .inl f)) (ho : o < n) (hi : vp_in i N) (hd : decode y.1 pc = .ok (.iastore, 1)) (cs' : Nat → va_E) (hset : ∀ o', o' < n → cs' o' = if o' = o then .inl (gI G, N, .inl (upd f i.toNatClampNeg x)) else cs o') (kk : XJ G y E Z (pc + 1) l stk n cs' ck sk) : XJ G y E Z pc l (.int x :: .int i :: .ref (gB G + o) :: stk) n cs ck sk := by
  intro p e s m args below meth c H locs ls F e1 S P L
  have hP := rp_one P ho hcell
  have hK := F.2.2.2.2.2.2.2.2.1.1
  refine W.iast F.1 F.2.1 (hP 0 _ rfl) ((hK.2 0 _ rfl).1 N (fun j => .int (f j))) (fun q => by cases q) (by show ¬ (i < 0 ∨ (arrV _ _ _).slots.size ≤ _); rw [arrV_size]; exact hi) rfl rfl hd fun H1 u z oq => ?_
  refine kk p e s m args below meth c H1 _ ls F e1 (S.put z oq (Nat.le_add_right _ _)) (rp_set P z oq ?_ hset) L
  show H1[gB G + o]? = some (vp_cell _ _)
  rw [u]
  rw [vp_cell_i, vp_cell_i, arrV_store]
  congr 2
  funext q
  by_cases hq : q = i.toNatClampNeg
  · subst hq
    simp [updV, upd]
  · simp [updV, upd, hq]
theorem x_cast {o N : Nat} {f : Nat → Int32} {i x : Int32} (hcell : cs o = .inl (gC G, N, .inl f)) (ho : o < n) (hi : vp_in i N) (hx : narrow .char (.int x) = .int x) (hd : decode y.1 pc = .ok (.castore, 1)) (cs' : Nat → va_E) (hset : ∀ o', o' < n → cs' o' = if o' = o then .inl (gC G, N, .inl (upd f i.toNatClampNeg x)) else cs o') (kk : XJ G y E Z (pc + 1) l stk n cs' ck sk) : XJ G y E Z pc l (.int x :: .int i :: .ref (gB G + o) :: stk) n cs ck sk := by
  intro p e s m args below meth c H locs ls F e1 S P L
  have hP := rp_one P ho hcell
  have hK := F.2.2.2.2.2.2.2.2.1.1
  refine W.cast F.1 F.2.1 (hP 0 _ rfl) ((hK.2 1 _ rfl).1 N (fun j => .int (f j))) (fun q => by cases q) (by show ¬ (i < 0 ∨ (arrV _ _ _).slots.size ≤ _); rw [arrV_size]; exact hi) rfl rfl hd fun H1 u z oq => ?_
  refine kk p e s m args below meth c H1 _ ls F e1 (S.put z oq (Nat.le_add_right _ _)) (rp_set P z oq ?_ hset) L
  show H1[gB G + o]? = some (vp_cell _ _)
  rw [u, hx]
  rw [vp_cell_i, vp_cell_i, arrV_store]
  congr 2
  funext q
  by_cases hq : q = i.toNatClampNeg
  · subst hq
    simp [updV, upd]
  · simp [updV, upd, hq]
theorem rp_push {H H' : Heap} {cs' : Nat → va_E} {e' : va_E} (P : Rp G n cs H) (z : H'.size = H.size + 1) (oq : ∀ q : Nat, q < H.size → H'[q]? = H[q]?) (he : va_at (gD G) vwCl (H.size, e') H') (hset : ∀ o', o' < n + 1 → cs' o' = if o' = n then e' else cs o') : Rp G (n + 1) cs' H' := by
  refine ⟨by rw [z, P.1]; rfl, fun o' ho' => ?_⟩
  rw [hset o' ho']
  by_cases hoo : o' = n
  · subst hoo
    rw [if_pos rfl, ← P.1]
    exact he
  · rw [if_neg hoo]
    exact (P.2 o' (by omega)).kept (oq _ (by have := P.1; show gB G + o' < _; omega))
theorem s_push {s : State} {H H' : Heap} {locs : List Loc} (S : va_S (gA G) s.heap H locs) (z : H'.size = H.size + 1) (oq : ∀ q : Nat, q < H.size → H'[q]? = H[q]?) : va_S (gA G) s.heap H' locs :=
  ⟨Nat.le_trans S.1 (by omega), fun x h1 h2 => (oq x (Nat.lt_of_lt_of_le h1 S.1)).trans (S.2.1 x h1 h2), S.2.2⟩
theorem x_new {ci idx : Nat} {fs : List Value} {C : String} {T : u_T} {N : Nat} (tyf : Nat → FieldType) (hty : ∀ k, k < N → parseFieldDescriptor (T k).2.2.1 = some (tyf k)) (hc : vwCl[ci]? = some (C, T, N)) (hin : ∀ w ∈ u_ws C T N, w ∈ WS) (hcl : Cond.classLink y.2.2.1 idx C ∈ WS) (hinst : Cond.instantiable C N ∈ WS) (hini : Cond.initialized C ∈ WS) (hfs : ∀ j, j < N → defaultValue (tyf j) = vp_V fs j) (h1 : ck + 1 ≤ y.2.2.2.1.cells) (h2 : sk + N ≤ y.2.2.2.1.slots) (hd : decode y.1 pc = .ok (.new idx, 3))
    (cs' : Nat → va_E) (hset : ∀ o', o' < n + 1 → cs' o' = if o' = n then .inr (ci, fs) else cs o') (kk : XJ G y E Z (pc + 3) l (.ref (gB G + n) :: stk) (n + 1) cs' (ck + 1) (sk + N)) : XJ G y E Z pc l stk n cs ck sk := by
  intro p e s m args below meth c H locs ls F e1 S P L
  have hts := F.2.2.2.2.1
  have hK := F.2.2.2.2.2.2.2.2.1.1
  have hKn := hK.1 ci _ hc
  refine W.newcK F.1 F.2.1 F.2.2.2.1 (hts _ hcl) (hts _ hinst) (hts _ hini) rfl hd h1 h2 hKn.2.1 rfl fun H1 kC hkC u z oq => ?_
  rw [P.1]
  exact kk p e s m args below meth c H1 locs ls F e1 (s_push S z oq) (rp_push (e' := .inr (ci, fs)) P z oq ⟨_, hc, (u_born tyf hts hin hKn hkC u hty).to hfs⟩ hset) L
theorem ra_of {s : State} {cA cB : ClassId} {ty : FieldType} (h : s.vm.findClass ("[" ++ ty.toString) = some cA) (h2 : va_RA s cB ty) : cA = cB := by
  cases ty <;> first | exact Option.some.inj (h.symm.trans h2) | (obtain ⟨_, _, _, _, _, h4⟩ := h2; exact Option.some.inj (h.symm.trans h4))
theorem x_newI {i : Int32} {N : Nat} (hi : ¬ i < 0) (hN : i.toNatClampNeg = N) (hb : N * 4 ≤ 536870912) (h1 : ck + 1 ≤ y.2.2.2.1.cells) (h2 : sk + N ≤ y.2.2.2.1.slots) (hd : decode y.1 pc = .ok (.newarray .int, 2))
    (cs' : Nat → va_E) (hset : ∀ o', o' < n + 1 → cs' o' = if o' = n then .inl (gI G, N, .inl (fun _ => 0)) else cs o') (kk : XJ G y E Z (pc + 2) l (.ref (gB G + n) :: stk) (n + 1) cs' (ck + 1) (sk + N)) : XJ G y E Z pc l (.int i :: stk) n cs ck sk := by
  intro p e s m args below meth c H locs ls F e1 S P L
  have hts := F.2.2.2.2.1
  have hK := F.2.2.2.2.2.2.2.2.1.1
  refine va_newaK (atype := .int) F.1 F.2.1 (hts _ mA_int) rfl hd rfl hi hN hb h1 h2 rfl fun H1 cA u z oq hAr hNm => ?_
  have hcA : cA = gI G := ra_of (ty := .int) hNm (hK.2 0 _ rfl).2
  subst hcA
  rw [P.1]
  exact kk p e s m args below meth c H1 locs ls F e1 (s_push S z oq) (rp_push P z oq (by show H1[H.size]? = some (vp_cell _ _); exact u) hset) L
theorem x_newC {i : Int32} {N : Nat} (hi : ¬ i < 0) (hN : i.toNatClampNeg = N) (hb : N * 2 ≤ 536870912) (h1 : ck + 1 ≤ y.2.2.2.1.cells) (h2 : sk + N ≤ y.2.2.2.1.slots) (hd : decode y.1 pc = .ok (.newarray .char, 2))
    (cs' : Nat → va_E) (hset : ∀ o', o' < n + 1 → cs' o' = if o' = n then .inl (gC G, N, .inl (fun _ => 0)) else cs o') (kk : XJ G y E Z (pc + 2) l (.ref (gB G + n) :: stk) (n + 1) cs' (ck + 1) (sk + N)) : XJ G y E Z pc l (.int i :: stk) n cs ck sk := by
  intro p e s m args below meth c H locs ls F e1 S P L
  have hts := F.2.2.2.2.1
  have hK := F.2.2.2.2.2.2.2.2.1.1
  refine va_newaK (atype := .char) F.1 F.2.1 (hts _ mA_char) rfl hd rfl hi hN hb h1 h2 rfl fun H1 cA u z oq hAr hNm => ?_
  have hcA : cA = gC G := ra_of (ty := .char) hNm (hK.2 1 _ rfl).2
  subst hcA
  rw [P.1]
  exact kk p e s m args below meth c H1 locs ls F e1 (s_push S z oq) (rp_push P z oq (by show H1[H.size]? = some (vp_cell _ _); exact u) hset) L
theorem x_anew {idx : Nat} {i : Int32} {N : Nat} {C : String} {cT : ClassId} (hao : ∀ s, Kx G s → va_AO C s ∧ va_RA s cT (.object C)) (hcl : Cond.classLink y.2.2.1 idx C ∈ WS) (hi : ¬ i < 0) (hN : i.toNatClampNeg = N) (hb : N * 4 ≤ 536870912) (h1 : ck + 1 ≤ y.2.2.2.1.cells) (h2 : sk + N ≤ y.2.2.2.1.slots) (hd : decode y.1 pc = .ok (.anewarray idx, 3))
    (cs' : Nat → va_E) (hset : ∀ o', o' < n + 1 → cs' o' = if o' = n then .inl (cT, N, .inr (.inr (.inr (.inr (fun _ => none))))) else cs o') (kk : XJ G y E Z (pc + 3) l (.ref (gB G + n) :: stk) (n + 1) cs' (ck + 1) (sk + N)) : XJ G y E Z pc l (.int i :: stk) n cs ck sk := by
  intro p e s m args below meth c H locs ls F e1 S P L
  have hts := F.2.2.2.2.1
  have hKx := F.2.2.2.2.2.2.2.2.1
  subst hN
  refine W.anew F.1 F.2.1 F.2.2.2.1 (hts _ hcl) (va_AO.use (hao s hKx).1) rfl hd rfl hi hb h1 h2 fun cA kA comp f1 f2 f3 f4 => ?_
  have hcA : cA = cT := ra_of (ty := .object C) f1 (hao s hKx).2
  subst hcA
  generalize hH1 : H.push ({ cls := cA, slots := Array.replicate i.toNatClampNeg .null, vm := .none } : Cell) = H1
  have z1 : H1.size = H.size + 1 := by rw [← hH1, Array.size_push]
  have u1 : H1[H.size]? = some (arrV cA i.toNatClampNeg (fun _ => .null)) := by rw [← hH1, Array.getElem?_push_size, ← arrV_new]
  have o1 : ∀ q : Nat, q < H.size → H1[q]? = H[q]? := fun q hq => by rw [← hH1, Array.getElem?_push, if_neg (Nat.ne_of_lt hq)]
  rw [P.1]
  exact kk p e s m args below meth c H1 locs ls F e1 (s_push S z1 o1) (rp_push P z1 o1 (by show H1[H.size]? = some (vp_cell _ _); rw [vp_cell_q]; exact u1) hset) L
theorem x_aast {o N ov ci : Nat} {f : Nat → Option Nat} {i : Int32} {cT : ClassId} {C : String} {T : u_T} {M : Nat} {vs : List Value} (hao : ∀ s, Kx G s → va_RA s cT (.object C)) (hcell : cs o = .inl (cT, N, .inr (.inr (.inr (.inr f))))) (ho : o < n) (hcv : cs ov = .inr (ci, vs)) (hov : ov < n) (hc : vwCl[ci]? = some (C, T, M)) (hi : vp_in i N) (hd : decode y.1 pc = .ok (.aastore, 1)) (cs' : Nat → va_E) (hset : ∀ o', o' < n → cs' o' = if o' = o then .inl (cT, N, .inr (.inr (.inr (.inr (va_up f i.toNatClampNeg (some (gB G + ov))))))) else cs o') (kk : XJ G y E Z (pc + 1) l stk n cs' ck sk) : XJ G y E Z pc l (.ref (gB G + ov) :: .int i :: .ref (gB G + o) :: stk) n cs ck sk := by
  intro p e s m args below meth c H locs ls F e1 S P L
  have hP := rp_one P ho hcell
  have hKx := F.2.2.2.2.2.2.2.2.1
  have hK := hKx.1
  have hlt : i.toNatClampNeg < N := Nat.not_le.mp fun q => hi (Or.inr q)
  have h0 : ¬ i < 0 := fun q => hi (Or.inl q)
  obtain ⟨r', hr', cellV, g1, g2, g3, -⟩ := rp_one P hov hcv 0 _ rfl
  have hcls := (hK.1 ci _ hc).2
  obtain ⟨kA, comp, k1, k2, k3, -⟩ := hao s hKx
  have hcomp : comp = (gD G).1 ci := Option.some.inj (k3.symm.trans hcls.1)
  subst hcomp
  obtain ⟨kC, hkC, -⟩ := hcls.2
  refine W.aast F.1 F.2.1 (hP 0 _ rfl) (fun q h => by cases h) (fun h => by cases h) k1 k2 rfl hkC ⟨h0, by show _ < (arrV _ _ _).slots.size; rw [arrV_size]; exact hlt⟩ g1 (fun q h => by rw [g3] at h; cases h) (by rw [g2]; exact hkC) (by rw [g2]; exact va_assign hcls) rfl rfl hd fun H1 u z oq => ?_
  refine kk p e s m args below meth c H1 _ ls F e1 (S.put z oq (Nat.le_add_right _ _)) (rp_set P z oq ?_ hset) L
  show H1[gB G + o]? = some (vp_cell _ _)
  rw [u]
  rw [vp_cell_q, vp_cell_q, arrV_store]
  congr 2
  funext q
  by_cases hq : q = i.toNatClampNeg
  · subst hq
    simp [updV, va_up, va_rf]
  · simp [updV, va_up, hq]
theorem x_gets1 (hown : y.2.2.1 = RX2) (hd : decode y.1 pc = .ok (.getstatic 79, 3)) (kk : XJ G y E Z (pc + 3) l (.ref (g1 G) :: stk) n cs ck sk) : XJ G y E Z pc l stk n cs ck sk :=
  fun p e s m args below meth c H locs ls F e1 S P L => va_gets F.1 F.2.1 F.2.2.2.2.2.2.2.2.2.1.1 S F.2.2.2.1 (by rw [hown]; exact F.2.2.2.2.1 _ mF_X2_79) (fun _ h => h) hd (kk p e s m args below meth c H locs ls F e1 S P L)
theorem x_gets2 (hown : y.2.2.1 = RX2) (hd : decode y.1 pc = .ok (.getstatic 82, 3)) (kk : XJ G y E Z (pc + 3) l (.ref (g2 G) :: stk) n cs ck sk) : XJ G y E Z pc l stk n cs ck sk :=
  fun p e s m args below meth c H locs ls F e1 S P L => va_gets F.1 F.2.1 F.2.2.2.2.2.2.2.2.2.1.2.2.1 S F.2.2.2.1 (by rw [hown]; exact F.2.2.2.2.1 _ mF_X2_82) (fun _ h => h) hd (kk p e s m args below meth c H locs ls F e1 S P L)
theorem tab_ld {s : State} {H : Heap} {locs : List Loc} {t : Nat} {f : Nat → Int32} (hT : va_T .int t 4 (fun k => .int (f k)) (gA G) s s.heap) (S : va_S (gA G) s.heap H locs) {p : Program} {e : Env} {R : Room} {m : MethodId} {args : Array Value} {below : List Frame} {meth : Method} {c : Code} {Q : State → Prop} {cc : ByteArray} (hexec : p.tables.exec = Jvm.exec) (hb : c.code = cc) {i : Int32} (hi : vp_in i 4) {pc : Nat} {ls : Array Slot} {rest : List Value} (hd : decode cc pc = .ok (.iaload, 1))
    (kk : W p G.1 e R s m args below meth c H locs ck sk Q (F0 m (pc + 1) ls (.int (f i.toNatClampNeg) :: rest))) : W p G.1 e R s m args below meth c H locs ck sk Q (F0 m pc ls (.int i :: .ref t :: rest)) := by
  obtain ⟨cell, h1, h2, h3, h4, h5, h6, h7⟩ := hT
  have hlt : i.toNatClampNeg < 4 := Nat.not_le.mp fun q => hi (Or.inr q)
  have hH : H[t]? = some cell := by rw [S.2.1 t (Array.getElem?_eq_some_iff.mp h1).1 h7]; exact h1
  exact W.iald (v := .int (f i.toNatClampNeg)) hexec hb hH h2 h3 (fun q => q.elim (fun q => hi (Or.inl q)) (fun q => absurd (Nat.le_trans h4 q) (by omega))) (h6 _ hlt) rfl rfl hd kk
theorem x_tab1 {i : Int32} (hi : vp_in i 4) (hd : decode y.1 pc = .ok (.iaload, 1)) (kk : XJ G y E Z (pc + 1) l (.int (leastF i.toNatClampNeg) :: stk) n cs ck sk) : XJ G y E Z pc l (.int i :: .ref (g1 G) :: stk) n cs ck sk :=
  fun p e s m args below meth c H locs ls F e1 S P L => tab_ld F.2.2.2.2.2.2.2.2.2.1.2.1 S F.1 F.2.1 hi hd (kk p e s m args below meth c H locs ls F e1 S P L)
theorem x_tab2 {i : Int32} (hi : vp_in i 4) (hd : decode y.1 pc = .ok (.iaload, 1)) (kk : XJ G y E Z (pc + 1) l (.int (greatF i.toNatClampNeg) :: stk) n cs ck sk) : XJ G y E Z pc l (.int i :: .ref (g2 G) :: stk) n cs ck sk :=
  fun p e s m args below meth c H locs ls F e1 S P L => tab_ld F.2.2.2.2.2.2.2.2.2.1.2.2.2 S F.1 F.2.1 hi hd (kk p e s m args below meth c H locs ls F e1 S P L)
theorem x_max {idx : Nat} {a b : Int32} (hlink : Cond.methodLink y.2.2.1 idx Lib.Math.max.name ∈ WS) (hf : 1 ≤ y.2.2.2.1.frames) (hlo : (stk.map fun v => v.category).sum + 13 ≤ y.2.2.2.1.locals) (h1 : ck ≤ y.2.2.2.1.cells) (h2 : sk ≤ y.2.2.2.1.slots) (hd : decode y.1 pc = .ok (.invokestatic idx, 3)) (kk : XJ G y E Z (pc + 3) l (.int (if a < b then b else a) :: stk) n cs ck sk) : XJ G y E Z pc l (.int b :: .int a :: stk) n cs ck sk :=
  fun p e s m args below meth c H locs ls F e1 S P L => va_mmax F.1 F.2.1 (F.2.2.1.trans L.1.symm) F.2.2.2.1 (F.2.2.2.2.1 _ hlink) (F.2.2.2.2.1 _ mT_max) (F.2.2.2.2.1 _ mI_Math) (F.2.2.2.2.1 _ mK_max) hf hlo h1 h2 hd (kk p e s m args below meth c H locs ls F e1 S P L)
theorem x_min {idx : Nat} {a b : Int32} (hlink : Cond.methodLink y.2.2.1 idx Lib.Math.min.name ∈ WS) (hf : 1 ≤ y.2.2.2.1.frames) (hlo : (stk.map fun v => v.category).sum + 13 ≤ y.2.2.2.1.locals) (h1 : ck ≤ y.2.2.2.1.cells) (h2 : sk ≤ y.2.2.2.1.slots) (hd : decode y.1 pc = .ok (.invokestatic idx, 3)) (kk : XJ G y E Z (pc + 3) l (.int (if b < a then b else a) :: stk) n cs ck sk) : XJ G y E Z pc l (.int b :: .int a :: stk) n cs ck sk :=
  fun p e s m args below meth c H locs ls F e1 S P L => va_mmin F.1 F.2.1 (F.2.2.1.trans L.1.symm) F.2.2.2.1 (F.2.2.2.2.1 _ hlink) (F.2.2.2.2.1 _ mT_min) (F.2.2.2.2.1 _ mI_Math) (F.2.2.2.2.1 _ mK_min) hf hlo h1 h2 hd (kk p e s m args below meth c H locs ls F e1 S P L)
theorem x_abs {idx : Nat} {a : Int32} (hlink : Cond.methodLink y.2.2.1 idx Lib.Math.abs.name ∈ WS) (hf : 1 ≤ y.2.2.2.1.frames) (hlo : (stk.map fun v => v.category).sum + 13 ≤ y.2.2.2.1.locals) (h1 : ck ≤ y.2.2.2.1.cells) (h2 : sk ≤ y.2.2.2.1.slots) (hd : decode y.1 pc = .ok (.invokestatic idx, 3)) (kk : XJ G y E Z (pc + 3) l (.int (if 0 ≤ a then a else 0 - a) :: stk) n cs ck sk) : XJ G y E Z pc l (.int a :: stk) n cs ck sk :=
  fun p e s m args below meth c H locs ls F e1 S P L => va_mabs F.1 F.2.1 (F.2.2.1.trans L.1.symm) F.2.2.2.1 (F.2.2.2.2.1 _ hlink) (F.2.2.2.2.1 _ mT_abs) (F.2.2.2.2.1 _ mI_Math) (F.2.2.2.2.1 _ mK_abs) hf hlo h1 h2 hd (kk p e s m args below meth c H locs ls F e1 S P L)
theorem x_obj {idx a : Nat} (hlink : Cond.methodLink y.2.2.1 idx objectInit ∈ WS) (hf : 1 ≤ y.2.2.2.1.frames) (hlo : (stk.map fun v => v.category).sum + 12 ≤ y.2.2.2.1.locals) (hd : decode y.1 pc = .ok (.invokespecial idx, 3)) (kk : XJ G y E Z (pc + 3) l stk n cs ck sk) : XJ G y E Z pc l (.ref a :: stk) n cs ck sk :=
  fun p e s m args below meth c H locs ls F e1 S P L => W.objInit F.1 F.2.1 F.2.2.2.1 (F.2.2.2.2.1 _ hlink) (F.2.2.2.2.1 _ mM_objInit) (F.2.2.2.2.1 _ mK_objInit) rfl (L.1.trans F.2.2.1.symm) rfl hd hf (by show 2 * 0 + _ + 12 ≤ _; omega) (kk p e s m args below meth c H locs ls F e1 S P L)
/-! calls -/
def MqV (ynm : MethodName) (yc : YX) (na : Nat) : Prop := Cond.instanceMethod ynm ∈ WS ∧ Cond.selects ynm.cls ynm ynm ∈ WS ∧ Cond.initialized ynm.cls ∈ WS ∧ Cond.code ynm yc.1 yc.2.1 yc.2.2.2.2.1 ∈ WS ∧ ynm.cls ≠ "java/lang/invoke/MethodHandle" ∧ ynm.cls ≠ "java/lang/invoke/VarHandle" ∧ (parseMethodDescriptor ynm.desc).map (fun d => d.parameters.length) = some na
def MqS (ynm : MethodName) (yc : YX) (na : Nat) : Prop := Cond.static ynm ∈ WS ∧ Cond.initialized ynm.cls ∈ WS ∧ Cond.code ynm yc.1 yc.2.1 yc.2.2.2.2.1 ∈ WS ∧ ynm.cls ≠ "java/lang/invoke/MethodHandle" ∧ ynm.cls ≠ "java/lang/invoke/VarHandle" ∧ (parseMethodDescriptor ynm.desc).map (fun d => d.parameters.length) = some na
def MqI (ynm : MethodName) (yc : YX) (na : Nat) : Prop := Cond.instanceMethod ynm ∈ WS ∧ ynm.name = "<init>" ∧ Cond.initialized ynm.cls ∈ WS ∧ Cond.code ynm yc.1 yc.2.1 none ∈ WS ∧ ynm.cls ≠ "java/lang/invoke/MethodHandle" ∧ ynm.cls ≠ "java/lang/invoke/VarHandle" ∧ (parseMethodDescriptor ynm.desc).map (fun d => d.parameters.length) = some na
theorem good_cons {ynm : MethodName} {yc : YX} (h : Cond.code ynm yc.1 yc.2.1 yc.2.2.2.2.1 ∈ WS) : GoodIn WS (Cond.code ynm yc.1 yc.2.1 yc.2.2.2.2.1 :: WS) := fun w hw => by
  rcases List.mem_cons.mp hw with h1 | h1
  · rw [h1]; exact WS_good _ h
  · exact WS_good _ h1
/-- what follows a call -/
theorem x_after {p : Program} {e : Env} {s : State} {m : MethodId} {args : Array Value} {below : List Frame} {meth : Method} {c : Code} {H : Heap} {locs : List Loc} {ls : Array Slot} {mc ms : Nat} {st0 rest : List Value} {a : Array Value} {r : Option Value → Nat → (Nat → va_E) → Prop} (F : Fx G y p s m args meth c) (e1 : E s) (S : va_S (gA G) s.heap H locs) (L : LH ls y.2.1 l)
    (hr : va_Run p G.1 e y.2.2.2.1 s m args below meth c H locs ck sk mc ms (F0 m pc ls st0) rest (Qx G r a) (gA G))
    (kk : ∀ v n' cs', r v n' cs' → XJ G y E Z (pc + 3) l (v.toList ++ rest) n' cs' (ck + mc) (sk + ms)) : W p G.1 e y.2.2.2.1 s m args below meth c H locs ck sk (Z below args s) (F0 m pc ls st0) := by
  intro T hT X
  obtain ⟨v, st₀, t, T', Lc, h0, X', hL, u1, u2, ⟨⟨v', n', cs', hv, hp, hW⟩, hz, hk⟩, st⟩ := hr T hT X
  cases hv
  rw [h0] at hz hk
  have S' : va_S (gA G) s.heap T'.heap (locs ++ Lc) := ⟨Nat.le_trans S.1 (by rw [u1]; exact hz), fun q h1 h2 => by
      rw [u1, hk q (Nat.lt_of_lt_of_le h1 S.1) h2]; exact S.2.1 q h1 h2, fun q hq => by
      rcases List.mem_append.mp hq with h | h
      · exact S.2.2 q h
      · exact hL q h⟩
  obtain ⟨t2, a1, b1⟩ := kk v n' cs' hp p e s m args below meth c T'.heap (locs ++ Lc) ls F e1 S' (by rw [u1]; exact hW.1) L T' rfl X'
  exact ⟨t2, st t2 a1, b1⟩
theorem x_callV {ynm : MethodName} {yc : YX} {idx o ci mc ms : Nat} {fs As rest : List Value} {T : u_T} {N : Nat} {r : Option Value → Nat → (Nat → va_E) → Prop} (hM : Ct G ynm yc mc ms (.ref (gB G + o) :: As) n cs r) (hq : MqV ynm yc As.length) (hlink : Cond.methodLink y.2.2.1 idx ynm ∈ WS) (hd : decode y.1 pc = .ok (.invokevirtual idx, 3)) (hstk : stk = As.reverse ++ .ref (gB G + o) :: rest) (hcell : cs o = .inr (ci, fs)) (ho : o < n) (hc : vwCl[ci]? = some (ynm.cls, T, N)) (hrc : yc.2.2.2.1.cells = mc) (hrs : yc.2.2.2.1.slots = ms) (hR : yc.2.2.2.1.frames + 1 ≤ y.2.2.2.1.frames ∧ 8 + (yc.2.1 + 11) + yc.2.2.2.1.locals ≤ y.2.2.2.1.locals) (hW : (rest.map fun v => v.category).sum ≤ 8) (h1 : ck + mc ≤ y.2.2.2.1.cells) (h2 : sk + ms ≤ y.2.2.2.1.slots)
    (kk : ∀ v n' cs', r v n' cs' → XJ G y E Z (pc + 3) l (v.toList ++ rest) n' cs' (ck + mc) (sk + ms)) : XJ G y E Z pc l stk n cs ck sk := by
  intro p e s m args below meth c H locs ls F e1 S P L
  obtain ⟨q1, q2, q3, q4, q5, q6, q7⟩ := hq
  have hts := F.2.2.2.2.1
  have hK := F.2.2.2.2.2.2.2.2.1
  refine x_after F e1 S L (va_runV (C := ynm.cls) (As := As) (rest := rest) (b := gB G + o) ⟨F.1, F.2.1, F.2.2.1, F.2.2.2.1, hts⟩ hM ⟨callB_of As.length hts (good_cons q4) rfl hrc hrs (hts _ q3) (hts _ hlink) ⟨q5, q6, q7⟩ hR, hts _ q1, hts _ q2⟩ ⟨Wd.blind _ _ _ _, va_recv hK.1 (rp_one P ho hcell) (ci := ci) (q0 := 0) hc rfl, fun U hU hWm => ⟨rfl, Wd.warm hK F.2.2.2.2.2.2.2.2.2.1 hWm hU S P⟩⟩ rfl rfl L.1 hstk (lv_room hW) hd ⟨h1, h2⟩) kk
theorem x_callS {ynm : MethodName} {yc : YX} {idx mc ms : Nat} {As rest : List Value} {r : Option Value → Nat → (Nat → va_E) → Prop} (hM : Ct G ynm yc mc ms As n cs r) (hq : MqS ynm yc As.length) (hlink : Cond.methodLink y.2.2.1 idx ynm ∈ WS) (hd : decode y.1 pc = .ok (.invokestatic idx, 3)) (hstk : stk = As.reverse ++ rest) (hrc : yc.2.2.2.1.cells = mc) (hrs : yc.2.2.2.1.slots = ms) (hR : yc.2.2.2.1.frames + 1 ≤ y.2.2.2.1.frames ∧ 8 + (yc.2.1 + 11) + yc.2.2.2.1.locals ≤ y.2.2.2.1.locals) (hW : (rest.map fun v => v.category).sum ≤ 8) (h1 : ck + mc ≤ y.2.2.2.1.cells) (h2 : sk + ms ≤ y.2.2.2.1.slots)
    (kk : ∀ v n' cs', r v n' cs' → XJ G y E Z (pc + 3) l (v.toList ++ rest) n' cs' (ck + mc) (sk + ms)) : XJ G y E Z pc l stk n cs ck sk := by
  intro p e s m args below meth c H locs ls F e1 S P L
  obtain ⟨q1, q3, q4, q5, q6, q7⟩ := hq
  have hts := F.2.2.2.2.1
  have hK := F.2.2.2.2.2.2.2.2.1
  refine x_after F e1 S L (va_runS (As := As) (rest := rest) ⟨F.1, F.2.1, F.2.2.1, F.2.2.2.1, hts⟩ hM ⟨callB_of As.length hts (good_cons q4) rfl hrc hrs (hts _ q3) (hts _ hlink) ⟨q5, q6, q7⟩ hR, hts _ q1⟩ ⟨Wd.blind _ _ _ _, fun U hU hWm => ⟨rfl, Wd.warm hK F.2.2.2.2.2.2.2.2.2.1 hWm hU S P⟩⟩ rfl rfl L.1 hstk (lv_room hW) hd ⟨h1, h2⟩) kk
theorem x_callN {ynm : MethodName} {yc : YX} {idx mc ms : Nat} {As rest : List Value} {host : String} {r : Option Value → Nat → (Nat → va_E) → Prop} (hM : Ct G ynm yc mc ms As n cs r) (hq : MqS ynm yc As.length) (hlink : ∀ s, Kx G s → va_Nw (.methodLinkNest y.2.2.1 idx ynm host) s) (hd : decode y.1 pc = .ok (.invokestatic idx, 3)) (hstk : stk = As.reverse ++ rest) (hrc : yc.2.2.2.1.cells = mc) (hrs : yc.2.2.2.1.slots = ms) (hR : yc.2.2.2.1.frames + 1 ≤ y.2.2.2.1.frames ∧ 8 + (yc.2.1 + 11) + yc.2.2.2.1.locals ≤ y.2.2.2.1.locals) (hW : (rest.map fun v => v.category).sum ≤ 8) (h1 : ck + mc ≤ y.2.2.2.1.cells) (h2 : sk + ms ≤ y.2.2.2.1.slots)
    (kk : ∀ v n' cs', r v n' cs' → XJ G y E Z (pc + 3) l (v.toList ++ rest) n' cs' (ck + mc) (sk + ms)) : XJ G y E Z pc l stk n cs ck sk := by
  intro p e s m args below meth c H locs ls F e1 S P L
  obtain ⟨q1, q3, q4, q5, q6, q7⟩ := hq
  have hts := F.2.2.2.2.1
  have hK := F.2.2.2.2.2.2.2.2.1
  refine x_after F e1 S L (va_runSN (As := As) (rest := rest) ⟨F.1, F.2.1, F.2.2.1, F.2.2.2.1, hts⟩ hM ⟨va_cnB As.length hts (good_cons q4) rfl hrc hrs (hlink s hK) (hts _ q3) ⟨q5, q6, q7⟩ hR, hts _ q1, trivial⟩ ⟨Wd.blind _ _ _ _, fun U hU hWm => ⟨rfl, Wd.warm hK F.2.2.2.2.2.2.2.2.2.1 hWm hU S P⟩⟩ rfl rfl L.1 hstk (lv_room hW) hd ⟨h1, h2⟩) kk
theorem x_callI {ynm : MethodName} {yc : YX} {idx b mc ms : Nat} {As rest : List Value} {r : Option Value → Nat → (Nat → va_E) → Prop} (hM : Ct G ynm yc mc ms (.ref b :: As) n cs r) (hq : MqI ynm yc As.length) (hret : yc.2.2.2.2.1 = none) (hlink : Cond.methodLink y.2.2.1 idx ynm ∈ WS) (hd : decode y.1 pc = .ok (.invokespecial idx, 3)) (hstk : stk = As.reverse ++ .ref b :: rest) (hrc : yc.2.2.2.1.cells = mc) (hrs : yc.2.2.2.1.slots = ms) (hR : yc.2.2.2.1.frames + 1 ≤ y.2.2.2.1.frames ∧ 8 + (yc.2.1 + 11) + yc.2.2.2.1.locals ≤ y.2.2.2.1.locals) (hW : (rest.map fun v => v.category).sum ≤ 8) (h1 : ck + mc ≤ y.2.2.2.1.cells) (h2 : sk + ms ≤ y.2.2.2.1.slots)
    (kk : ∀ v n' cs', r v n' cs' → XJ G y E Z (pc + 3) l (v.toList ++ rest) n' cs' (ck + mc) (sk + ms)) : XJ G y E Z pc l stk n cs ck sk := by
  intro p e s m args below meth c H locs ls F e1 S P L
  obtain ⟨q1, q2, q3, q4, q5, q6, q7⟩ := hq
  have hts := F.2.2.2.2.1
  have hK := F.2.2.2.2.2.2.2.2.1
  have q4' : Cond.code ynm yc.1 yc.2.1 yc.2.2.2.2.1 ∈ WS := by rw [hret]; exact q4
  have hM' : Met G.1 ynm (Cond.code ynm yc.1 yc.2.1 none :: WS) yc.2.2.2.1 (va_Pc (.ref b :: As) (Wd G n cs)) (Qx G r) mc ms (gA G) := by rw [← hret]; exact hM
  have hG' : GoodIn WS (Cond.code ynm yc.1 yc.2.1 none :: WS) := by rw [← hret]; exact good_cons q4'
  refine x_after F e1 S L (va_runI (As := As) (rest := rest) (b := b) ⟨F.1, F.2.1, F.2.2.1, F.2.2.2.1, hts⟩ hM' ⟨callB_of As.length hts hG' rfl hrc hrs (hts _ q3) (hts _ hlink) ⟨q5, q6, q7⟩ hR, q2, hts _ q1⟩ ⟨Wd.blind _ _ _ _, fun U hU hWm => ⟨rfl, Wd.warm hK F.2.2.2.2.2.2.2.2.2.1 hWm hU S P⟩⟩ rfl rfl L.1 hstk (lv_room hW) hd ⟨h1, h2⟩) kk
end HROWS
section RETS
variable {G : GX} {y : YX} {E : State → Prop} {pc : Nat} {l : List (Nat × Value)} {n : Nat} {cs : Nat → va_E} {ck sk : Nat} {r : Option Value → Nat → (Nat → va_E) → Prop}
theorem x_iret {v : Int32} (hr : y.2.2.2.2.1 = some .int) (hd : decode y.1 pc = .ok (.ireturn, 1)) (h : r (some (.int v)) n cs) : XJ G y E (Zx G r ck sk) pc l [.int v] n cs ck sk :=
  fun p e s m args below meth c H locs ls F e1 S P L => W.iret F.1 F.2.1 (F.2.2.2.2.2.2.1.trans hr) (fun t ht hW => ⟨⟨_, n, cs, rfl, h, Wd.warm F.2.2.2.2.2.2.2.2.1 F.2.2.2.2.2.2.2.2.2.1 hW ht S P⟩, S.F ht⟩) S.2.2 hd F.2.2.2.2.2.1
theorem x_zret {v : Int32} (hr : y.2.2.2.2.1 = some .boolean) (hn : narrow .boolean (.int v) = .int v) (hd : decode y.1 pc = .ok (.ireturn, 1)) (h : r (some (.int v)) n cs) : XJ G y E (Zx G r ck sk) pc l [.int v] n cs ck sk :=
  fun p e s m args below meth c H locs ls F e1 S P L => W.zret F.1 F.2.1 (F.2.2.2.2.2.2.1.trans hr) hn (fun t ht hW => ⟨⟨_, n, cs, rfl, h, Wd.warm F.2.2.2.2.2.2.2.2.1 F.2.2.2.2.2.2.2.2.2.1 hW ht S P⟩, S.F ht⟩) S.2.2 hd F.2.2.2.2.2.1
theorem x_vret (hr : y.2.2.2.2.1 = none) (hd : decode y.1 pc = .ok (.return_, 1)) (h : r none n cs) : XJ G y E (Zx G r ck sk) pc l [] n cs ck sk :=
  fun p e s m args below meth c H locs ls F e1 S P L => W.vret F.1 F.2.1 (F.2.2.2.2.2.2.1.trans hr) (fun t ht hW => ⟨⟨_, n, cs, rfl, h, Wd.warm F.2.2.2.2.2.2.2.2.1 F.2.2.2.2.2.2.2.2.2.1 hW ht S P⟩, S.F ht⟩) S.2.2 hd F.2.2.2.2.2.1
end RETS
end
section
/-! the state of class and reference, as rows of numbers, and the heap that it is -/
abbrev Fs : Type := Nat → Int32
/-- a sheet: its ints (told, column, row, dirt, ticks, burningTicks, cuts), heats, settings, its shapes' ints, their edges -/
abbrev Sh : Type := Fs × Fs × Fs × (Nat → Fs) × (Nat → Fs)
/-- the class: its ints (states, hasSnapshot, stopNumber, stopError), history, the plan's ints (length, size, at), letters, kinds, firsts, seconds -/
abbrev Bc : Type := Fs × (Nat → Nat) × Fs × Fs × Fs × Fs × Fs
/-- the reference: its ints by their fields, s, aside, ahead, snapshot, before, text, order -/
abbrev Md : Type := Fs × Fs × Fs × Fs × Fs × Fs × Fs × Fs
def sB (j : Nat) : Nat := if j < 4 then 1 + 30 * j else 2 + 30 * j
def arO (j : Nat) : Nat := sB j + 1
def htO (j : Nat) : Nat := sB j + 28
def stO (j : Nat) : Nat := sB j + 29
def shO (j i : Nat) : Nat := sB j + (2 + 2 * i)
def egO (j i : Nat) : Nat := sB j + (3 + 2 * i)
def updS (S : Nat → Sh) (j : Nat) (σ : Sh) : Nat → Sh := fun k => if k = j then σ else S k
def updF (f : Nat → Fs) (i : Nat) (g : Fs) : Nat → Fs := fun k => if k = i then g else f k
def updN (f : Nat → Nat) (i : Nat) (v : Nat) : Nat → Nat := fun k => if k = i then v else f k
theorem updS_same (S : Nat → Sh) (j : Nat) (σ : Sh) : updS S j σ j = σ := by simp [updS]
theorem updS_ne (S : Nat → Sh) {j k : Nat} (σ : Sh) (h : k ≠ j) : updS S j σ k = S k := by simp [updS, h]
theorem updS_upd (S : Nat → Sh) (j : Nat) (σ τ : Sh) : updS (updS S j σ) j τ = updS S j τ := by
  funext k
  by_cases h : k = j <;> simp [updS, h]
theorem updS_self (S : Nat → Sh) (j : Nat) : updS S j (S j) = S := by
  funext k
  by_cases h : k = j
  · subst h; simp [updS]
  · simp [updS, h]
theorem updF_same (f : Nat → Fs) (i : Nat) (g : Fs) : updF f i g i = g := by simp [updF]
theorem updF_ne (f : Nat → Fs) {i k : Nat} (g : Fs) (h : k ≠ i) : updF f i g k = f k := by simp [updF, h]
theorem updF_upd (f : Nat → Fs) (i : Nat) (g h : Fs) : updF (updF f i g) i h = updF f i h := by
  funext k
  by_cases e : k = i <;> simp [updF, e]
theorem updF_self (f : Nat → Fs) (i : Nat) : updF f i (f i) = f := by
  funext k
  by_cases h : k = i
  · subst h; simp [updF]
  · simp [updF, h]
theorem upd_same (f : Fs) (k : Nat) (x : Int32) : upd f k x k = x := by simp [upd]
theorem upd_ne (f : Fs) {k j : Nat} (x : Int32) (h : j ≠ k) : upd f k x j = f j := by simp [upd, h]
def shCell (G : GX) (j : Nat) (σ : Sh) (r : Nat) : va_E :=
  if r = 0 then .inr (2, [.ref (gB G + arO j), .ref (gB G + htO j), .ref (gB G + stO j), .int (σ.1 0), .int (σ.1 1), .int (σ.1 2), .int (σ.1 3), .int (σ.1 4), .int (σ.1 5), .int (σ.1 6)])
  else if r = 1 then .inl (gS G, 13, .inr (.inr (.inr (.inr (fun i => some (gB G + shO j i))))))
  else if r = 28 then .inl (gI G, 12, .inl σ.2.1)
  else if r = 29 then .inl (gI G, 4, .inl σ.2.2.1)
  else if r % 2 = 0 then .inr (1, [.int (σ.2.2.2.1 (r / 2 - 1) 0), .int (σ.2.2.2.1 (r / 2 - 1) 1), .int (σ.2.2.2.1 (r / 2 - 1) 2), .int (σ.2.2.2.1 (r / 2 - 1) 3), .int (σ.2.2.2.1 (r / 2 - 1) 4), .int (σ.2.2.2.1 (r / 2 - 1) 5), .int (σ.2.2.2.1 (r / 2 - 1) 6), .int (σ.2.2.2.1 (r / 2 - 1) 7), .ref (gB G + egO j (r / 2 - 1))])
  else .inl (gI G, 12, .inl (σ.2.2.2.2 (r / 2 - 1)))
def bcCell (G : GX) (B : Bc) : va_E := .inr (3, [.ref (gB G + sB 0), .ref (gB G + sB 1), .ref (gB G + sB 2), .ref (gB G + sB 3), .ref (gB G + 121), .ref (gB G + 242), .int (B.1 0), .int (B.1 1), .int (B.1 2), .int (B.1 3)])
def plCell (G : GX) (B : Bc) : va_E := .inr (0, [.ref (gB G + 243), .ref (gB G + 244), .ref (gB G + 245), .ref (gB G + 246), .int (B.2.2.1 0), .int (B.2.2.1 1), .int (B.2.2.1 2)])
def mdCell (G : GX) (M : Md) : va_E := .inr (4, [.ref (gB G + 248), .ref (gB G + 249), .ref (gB G + 250), .ref (gB G + 251), .int (M.1 4), .ref (gB G + 252), .int (M.1 6), .ref (gB G + 253), .int (M.1 8), .int (M.1 9), .int (M.1 10), .int (M.1 11), .int (M.1 12), .int (M.1 13), .int (M.1 14), .int (M.1 15), .int (M.1 16), .ref (gB G + 254), .int (M.1 18), .int (M.1 19), .int (M.1 20)])
def cellOf (G : GX) (S : Nat → Sh) (B : Bc) (M : Md) (o : Nat) : va_E :=
  if o = 0 then bcCell G B
  else if o < 121 then shCell G ((o - 1) / 30) (S ((o - 1) / 30)) ((o - 1) % 30)
  else if o = 121 then .inl (gT G, 4, .inr (.inr (.inr (.inr (fun k => some (gB G + sB (B.2.1 k)))))))
  else if o < 242 then shCell G ((o - 2) / 30) (S ((o - 2) / 30)) ((o - 2) % 30)
  else if o = 242 then plCell G B
  else if o = 243 then .inl (gC G, 60, .inl B.2.2.2.1)
  else if o = 244 then .inl (gI G, 30, .inl B.2.2.2.2.1)
  else if o = 245 then .inl (gI G, 30, .inl B.2.2.2.2.2.1)
  else if o = 246 then .inl (gI G, 30, .inl B.2.2.2.2.2.2)
  else if o = 247 then mdCell G M
  else if o = 248 then .inl (gI G, 119, .inl M.2.1)
  else if o = 249 then .inl (gI G, 119, .inl M.2.2.1)
  else if o = 250 then .inl (gI G, 119, .inl M.2.2.2.1)
  else if o = 251 then .inl (gI G, 119, .inl M.2.2.2.2.1)
  else if o = 252 then .inl (gI G, 476, .inl M.2.2.2.2.2.1)
  else if o = 253 then .inl (gI G, 60, .inl M.2.2.2.2.2.2.1)
  else if o = 254 then .inl (gI G, 12, .inl M.2.2.2.2.2.2.2)
  else .inl (gI G, 0, .inl (fun _ => 0))
section CELLS
variable {G : GX} {S : Nat → Sh} {B : Bc} {M : Md} {j i r : Nat} {σ : Sh}
theorem sB_lt (hj : j < 8) (hr : r < 30) : sB j + r < 242 := by unfold sB; split <;> omega
theorem cell_sh (hj : j < 8) (hr : r < 30) : cellOf G S B M (sB j + r) = shCell G j (S j) r := by
  unfold cellOf sB
  by_cases h : j < 4
  · rw [if_pos h, if_neg (by omega), if_pos (by omega)]
    have h1 : (1 + 30 * j + r - 1) / 30 = j := by omega
    have h2 : (1 + 30 * j + r - 1) % 30 = r := by omega
    rw [h1, h2]
  · rw [if_neg h, if_neg (by omega), if_neg (by omega), if_neg (by omega), if_pos (by omega)]
    have h1 : (2 + 30 * j + r - 2) / 30 = j := by omega
    have h2 : (2 + 30 * j + r - 2) % 30 = r := by omega
    rw [h1, h2]
theorem cell_sheet (hj : j < 8) : cellOf G (updS S j σ) B M (sB j) = .inr (2, [.ref (gB G + arO j), .ref (gB G + htO j), .ref (gB G + stO j), .int (σ.1 0), .int (σ.1 1), .int (σ.1 2), .int (σ.1 3), .int (σ.1 4), .int (σ.1 5), .int (σ.1 6)]) := by
  rw [show sB j = sB j + 0 from rfl, cell_sh hj (by omega), updS_same]; rfl
theorem cell_sheet' (hj : j < 8) : cellOf G S B M (sB j) = .inr (2, [.ref (gB G + arO j), .ref (gB G + htO j), .ref (gB G + stO j), .int ((S j).1 0), .int ((S j).1 1), .int ((S j).1 2), .int ((S j).1 3), .int ((S j).1 4), .int ((S j).1 5), .int ((S j).1 6)]) := by
  rw [show sB j = sB j + 0 from rfl, cell_sh hj (by omega)]; rfl
theorem cell_arr (hj : j < 8) : cellOf G S B M (arO j) = .inl (gS G, 13, .inr (.inr (.inr (.inr (fun i => some (gB G + shO j i)))))) := by
  unfold arO; rw [cell_sh hj (by omega)]; rfl
theorem cell_heats (hj : j < 8) : cellOf G (updS S j σ) B M (htO j) = .inl (gI G, 12, .inl σ.2.1) := by
  unfold htO; rw [cell_sh hj (by omega), updS_same]; rfl
theorem cell_sets (hj : j < 8) : cellOf G (updS S j σ) B M (stO j) = .inl (gI G, 4, .inl σ.2.2.1) := by
  unfold stO; rw [cell_sh hj (by omega), updS_same]; rfl
theorem shCell_shape (σ : Sh) (hi : i < 13) : shCell G j σ (2 + 2 * i) = .inr (1, [.int (σ.2.2.2.1 i 0), .int (σ.2.2.2.1 i 1), .int (σ.2.2.2.1 i 2), .int (σ.2.2.2.1 i 3), .int (σ.2.2.2.1 i 4), .int (σ.2.2.2.1 i 5), .int (σ.2.2.2.1 i 6), .int (σ.2.2.2.1 i 7), .ref (gB G + egO j i)]) := by
  unfold shCell
  rw [if_neg (by omega), if_neg (by omega), if_neg (by omega), if_neg (by omega), if_pos (by omega)]
  have h1 : (2 + 2 * i) / 2 - 1 = i := by omega
  rw [h1]
theorem shCell_edge (σ : Sh) (hi : i < 13) : shCell G j σ (3 + 2 * i) = .inl (gI G, 12, .inl (σ.2.2.2.2 i)) := by
  unfold shCell
  rw [if_neg (by omega), if_neg (by omega), if_neg (by omega), if_neg (by omega), if_neg (by omega)]
  have h1 : (3 + 2 * i) / 2 - 1 = i := by omega
  rw [h1]
theorem cell_shape (hj : j < 8) (hi : i < 13) : cellOf G (updS S j σ) B M (shO j i) = .inr (1, [.int (σ.2.2.2.1 i 0), .int (σ.2.2.2.1 i 1), .int (σ.2.2.2.1 i 2), .int (σ.2.2.2.1 i 3), .int (σ.2.2.2.1 i 4), .int (σ.2.2.2.1 i 5), .int (σ.2.2.2.1 i 6), .int (σ.2.2.2.1 i 7), .ref (gB G + egO j i)]) := by
  unfold shO; rw [cell_sh hj (by omega), updS_same, shCell_shape σ hi]
theorem cell_edge (hj : j < 8) (hi : i < 13) : cellOf G (updS S j σ) B M (egO j i) = .inl (gI G, 12, .inl (σ.2.2.2.2 i)) := by
  unfold egO; rw [cell_sh hj (by omega), updS_same, shCell_edge σ hi]
theorem cell_heats' (hj : j < 8) : cellOf G S B M (htO j) = .inl (gI G, 12, .inl (S j).2.1) := by
  unfold htO; rw [cell_sh hj (by omega)]; rfl
theorem cell_sets' (hj : j < 8) : cellOf G S B M (stO j) = .inl (gI G, 4, .inl (S j).2.2.1) := by
  unfold stO; rw [cell_sh hj (by omega)]; rfl
theorem cell_shape' (hj : j < 8) (hi : i < 13) : cellOf G S B M (shO j i) = .inr (1, [.int ((S j).2.2.2.1 i 0), .int ((S j).2.2.2.1 i 1), .int ((S j).2.2.2.1 i 2), .int ((S j).2.2.2.1 i 3), .int ((S j).2.2.2.1 i 4), .int ((S j).2.2.2.1 i 5), .int ((S j).2.2.2.1 i 6), .int ((S j).2.2.2.1 i 7), .ref (gB G + egO j i)]) := by
  unfold shO; rw [cell_sh hj (by omega), shCell_shape _ hi]
theorem cell_edge' (hj : j < 8) (hi : i < 13) : cellOf G S B M (egO j i) = .inl (gI G, 12, .inl ((S j).2.2.2.2 i)) := by
  unfold egO; rw [cell_sh hj (by omega), shCell_edge _ hi]
theorem cell_bc : cellOf G S B M 0 = .inr (3, [.ref (gB G + sB 0), .ref (gB G + sB 1), .ref (gB G + sB 2), .ref (gB G + sB 3), .ref (gB G + 121), .ref (gB G + 242), .int (B.1 0), .int (B.1 1), .int (B.1 2), .int (B.1 3)]) := rfl
theorem cell_hist : cellOf G S B M 121 = .inl (gT G, 4, .inr (.inr (.inr (.inr (fun k => some (gB G + sB (B.2.1 k))))))) := rfl
theorem cell_plan : cellOf G S B M 242 = .inr (0, [.ref (gB G + 243), .ref (gB G + 244), .ref (gB G + 245), .ref (gB G + 246), .int (B.2.2.1 0), .int (B.2.2.1 1), .int (B.2.2.1 2)]) := rfl
theorem cell_letters : cellOf G S B M 243 = .inl (gC G, 60, .inl B.2.2.2.1) := rfl
theorem cell_kinds : cellOf G S B M 244 = .inl (gI G, 30, .inl B.2.2.2.2.1) := rfl
theorem cell_firsts : cellOf G S B M 245 = .inl (gI G, 30, .inl B.2.2.2.2.2.1) := rfl
theorem cell_seconds : cellOf G S B M 246 = .inl (gI G, 30, .inl B.2.2.2.2.2.2) := rfl
theorem cell_model : cellOf G S B M 247 = .inr (4, [.ref (gB G + 248), .ref (gB G + 249), .ref (gB G + 250), .ref (gB G + 251), .int (M.1 4), .ref (gB G + 252), .int (M.1 6), .ref (gB G + 253), .int (M.1 8), .int (M.1 9), .int (M.1 10), .int (M.1 11), .int (M.1 12), .int (M.1 13), .int (M.1 14), .int (M.1 15), .int (M.1 16), .ref (gB G + 254), .int (M.1 18), .int (M.1 19), .int (M.1 20)]) := rfl
theorem cell_s : cellOf G S B M 248 = .inl (gI G, 119, .inl M.2.1) := rfl
theorem cell_aside : cellOf G S B M 249 = .inl (gI G, 119, .inl M.2.2.1) := rfl
theorem cell_ahead : cellOf G S B M 250 = .inl (gI G, 119, .inl M.2.2.2.1) := rfl
theorem cell_snap : cellOf G S B M 251 = .inl (gI G, 119, .inl M.2.2.2.2.1) := rfl
theorem cell_before : cellOf G S B M 252 = .inl (gI G, 476, .inl M.2.2.2.2.2.1) := rfl
theorem cell_text : cellOf G S B M 253 = .inl (gI G, 60, .inl M.2.2.2.2.2.2.1) := rfl
theorem cell_order : cellOf G S B M 254 = .inl (gI G, 12, .inl M.2.2.2.2.2.2.2) := rfl
/-- a cell of a sheet is written -/
theorem set_sh (hj : j < 8) (hr : r < 30) {σ' : Sh} {e' : va_E} (h1 : shCell G j σ' r = e') (h2 : ∀ r', r' < 30 → r' ≠ r → shCell G j σ' r' = shCell G j σ r') : ∀ o', o' < 255 → cellOf G (updS S j σ') B M o' = if o' = sB j + r then e' else cellOf G (updS S j σ) B M o' := by
  intro o' ho'
  have key : ∀ j' r', j' < 8 → r' < 30 → o' = sB j' + r' → cellOf G (updS S j σ') B M o' = if o' = sB j + r then e' else cellOf G (updS S j σ) B M o' := by
    intro j' r' hj' hr' e
    subst e
    rw [cell_sh hj' hr', cell_sh hj' hr']
    by_cases hjj : j' = j
    · subst hjj
      rw [updS_same, updS_same]
      by_cases hrr : r' = r
      · subst hrr; rw [if_pos rfl, h1]
      · rw [if_neg (by omega), h2 r' hr' hrr]
    · rw [updS_ne S _ hjj, updS_ne S _ hjj, if_neg]
      unfold sB
      split <;> split <;> omega
  by_cases a : o' = 0
  · subst a
    rw [if_neg (by unfold sB; split <;> omega)]; rfl
  by_cases b : o' < 121
  · exact key ((o' - 1) / 30) ((o' - 1) % 30) (by omega) (by omega) (by unfold sB; rw [if_pos (by omega)]; omega)
  by_cases c : o' = 121
  · subst c
    rw [if_neg (by unfold sB; split <;> omega)]; rfl
  by_cases d : o' < 242
  · exact key ((o' - 2) / 30) ((o' - 2) % 30) (by omega) (by omega) (by unfold sB; rw [if_neg (by omega)]; omega)
  rw [if_neg (by unfold sB; split <;> omega)]
  unfold cellOf
  rw [if_neg a, if_neg b, if_neg c, if_neg d, if_neg a, if_neg b, if_neg c, if_neg d]
end CELLS
end
section
/-! rows over the state -/
section TROWS
variable {G : GX} {y : YX} {E : State → Prop} {Z : ZX} {pc : Nat} {l : List (Nat × Value)} {stk : List Value} {n : Nat} {cs : Nat → va_E} {ck sk : Nat}
variable {S : Nat → Sh} {B : Bc} {M : Md} {j i : Nat} {σ : Sh}
theorem nn_narrow (v : Int32) : narrow .int (.int v) = .int v := rfl
theorem in_of {i : Int32} {k N : Nat} (hi : i = nI k) (hk : k < N) (hN : N < 2 ^ 31) : vp_in i N := by rw [hi]; exact vp_in_nI hk hN
theorem cl_of {i : Int32} {k N : Nat} (hi : i = nI k) (hk : k < N) (hN : N < 2 ^ 31) : i.toNatClampNeg = k := by rw [hi]; exact nI_clamp (Nat.lt_trans hk hN)
theorem t_ild {o N : Nat} {f : Fs} {i : Int32} (k : Nat) (hcell : cs o = .inl (gI G, N, .inl f)) (ho : o < n) (hi : i = nI k) (hk : k < N) (hN : N < 2 ^ 31) (hd : decode y.1 pc = .ok (.iaload, 1)) (kk : XJ G y E Z (pc + 1) l (.int (f k) :: stk) n cs ck sk) : XJ G y E Z pc l (.int i :: .ref (gB G + o) :: stk) n cs ck sk :=
  x_iald hcell ho (in_of hi hk hN) hd (by rw [cl_of hi hk hN]; exact kk)
theorem t_cld {o N : Nat} {f : Fs} {i : Int32} (k : Nat) (hcell : cs o = .inl (gC G, N, .inl f)) (ho : o < n) (hi : i = nI k) (hk : k < N) (hN : N < 2 ^ 31) (hd : decode y.1 pc = .ok (.caload, 1)) (kk : XJ G y E Z (pc + 1) l (.int (f k) :: stk) n cs ck sk) : XJ G y E Z pc l (.int i :: .ref (gB G + o) :: stk) n cs ck sk :=
  x_cald hcell ho (in_of hi hk hN) hd (by rw [cl_of hi hk hN]; exact kk)
theorem sB_255 (hj : j < 8) : sB j < 255 := by unfold sB; split <;> omega
theorem shO_255 (hj : j < 8) (hi : i < 13) : shO j i < 255 := by unfold shO sB; split <;> omega
theorem egO_255 (hj : j < 8) (hi : i < 13) : egO j i < 255 := by unfold egO sB; split <;> omega
theorem htO_255 (hj : j < 8) : htO j < 255 := by unfold htO sB; split <;> omega
theorem stO_255 (hj : j < 8) : stO j < 255 := by unfold stO sB; split <;> omega
theorem arO_255 (hj : j < 8) : arO j < 255 := by unfold arO sB; split <;> omega
/-- shapes[k] -/
theorem t_shapes {i : Int32} (k : Nat) (hj : j < 8) (hi : i = nI k) (hk : k < 13) (hd : decode y.1 pc = .ok (.aaload, 1)) (kk : XJ G y E Z (pc + 1) l (.ref (gB G + shO j k) :: stk) 255 (cellOf G S B M) ck sk) : XJ G y E Z pc l (.int i :: .ref (gB G + arO j) :: stk) 255 (cellOf G S B M) ck sk :=
  x_aaldS (cell_arr hj) (arO_255 hj) (in_of hi hk (by decide)) (by rw [cl_of hi hk (by decide)]) hd kk
/-- history[k] -/
theorem t_hist {i : Int32} (k : Nat) (hi : i = nI k) (hk : k < 4) (hd : decode y.1 pc = .ok (.aaload, 1)) (kk : XJ G y E Z (pc + 1) l (.ref (gB G + sB (B.2.1 k)) :: stk) 255 (cellOf G S B M) ck sk) : XJ G y E Z pc l (.int i :: .ref (gB G + 121) :: stk) 255 (cellOf G S B M) ck sk :=
  x_aaldT cell_hist (by decide) (in_of hi hk (by decide)) (by rw [cl_of hi hk (by decide)]) hd kk
theorem fld2 : ∀ k, k < 7 → (TX2 (3 + k)).1 = RX2 ∧ (TX2 (3 + k)).2.2.2 = false ∧ tyX2 (3 + k) = .int := by decide +kernel
theorem t_putSh (hj : j < 8) (k : Nat) (hk : k < 7) {v : Int32} {idx : Nat} (hlink : Cond.fieldLink y.2.2.1 idx RX2 (TX2 (3 + k)).2.1 (TX2 (3 + k)).2.2.1 ∈ WS) (hd : decode y.1 pc = .ok (.putfield idx, 3)) (kk : XJ G y E Z (pc + 3) l stk 255 (cellOf G (updS S j (upd σ.1 k v, σ.2)) B M) ck sk) : XJ G y E Z pc l (.int v :: .ref (gB G + sB j) :: stk) 255 (cellOf G (updS S j σ) B M) ck sk := by
  obtain ⟨f1, f2, f3⟩ := fld2 k hk
  refine x_put (ci := 2) (k := 3 + k) (C := RX2) (T := TX2) (N := 10) (ty := .int) (cell_sheet hj) (sB_255 hj) rfl nX2 tyX2 tyX2_ok nmX2 (by omega) hlink f1 f2 f3 rfl rfl (by simp; omega) hd _ (set_sh (σ' := (upd σ.1 k v, σ.2)) hj (show 0 < 30 by omega) ?_ ?_) kk
  · match k, hk with
    | 0, _ => rfl
    | 1, _ => rfl
    | 2, _ => rfl
    | 3, _ => rfl
    | 4, _ => rfl
    | 5, _ => rfl
    | 6, _ => rfl
  · intro r' _ h
    unfold shCell
    rw [if_neg h, if_neg h]
def shpF (σ : Sh) (i : Nat) (f : Fs) : Sh := (σ.1, σ.2.1, σ.2.2.1, updF σ.2.2.2.1 i f, σ.2.2.2.2)
def edgF (σ : Sh) (i : Nat) (f : Fs) : Sh := (σ.1, σ.2.1, σ.2.2.1, σ.2.2.2.1, updF σ.2.2.2.2 i f)
theorem fld1 : ∀ k, k < 8 → (TX1 k).1 = RX1 ∧ (TX1 k).2.2.2 = false ∧ tyX1 k = .int := by decide +kernel
theorem t_putShape (hj : j < 8) (hi : i < 13) (k : Nat) (hk : k < 8) {v : Int32} {idx : Nat} (hlink : Cond.fieldLink y.2.2.1 idx RX1 (TX1 k).2.1 (TX1 k).2.2.1 ∈ WS) (hd : decode y.1 pc = .ok (.putfield idx, 3)) (kk : XJ G y E Z (pc + 3) l stk 255 (cellOf G (updS S j (shpF σ i (upd (σ.2.2.2.1 i) k v))) B M) ck sk) : XJ G y E Z pc l (.int v :: .ref (gB G + shO j i) :: stk) 255 (cellOf G (updS S j σ) B M) ck sk := by
  obtain ⟨f1, f2, f3⟩ := fld1 k hk
  refine x_put (ci := 1) (k := k) (C := RX1) (T := TX1) (N := 9) (ty := .int) (cell_shape hj hi) (shO_255 hj hi) rfl nX1 tyX1 tyX1_ok nmX1 (by omega) hlink f1 f2 f3 rfl rfl (by simp; omega) hd _ (set_sh (σ' := shpF σ i (upd (σ.2.2.2.1 i) k v)) hj (show 2 + 2 * i < 30 by omega) ?_ ?_) kk
  · rw [shCell_shape _ hi]
    simp only [shpF, updF_same]
    match k, hk with
    | 0, _ => rfl
    | 1, _ => rfl
    | 2, _ => rfl
    | 3, _ => rfl
    | 4, _ => rfl
    | 5, _ => rfl
    | 6, _ => rfl
    | 7, _ => rfl
  · intro r' hr' h
    unfold shCell
    by_cases h0 : r' = 0
    · rw [if_pos h0, if_pos h0]; rfl
    by_cases h1 : r' = 1
    · rw [if_neg h0, if_neg h0, if_pos h1, if_pos h1]
    by_cases h28 : r' = 28
    · rw [if_neg h0, if_neg h0, if_neg h1, if_neg h1, if_pos h28, if_pos h28]; rfl
    by_cases h29 : r' = 29
    · rw [if_neg h0, if_neg h0, if_neg h1, if_neg h1, if_neg h28, if_neg h28, if_pos h29, if_pos h29]; rfl
    rw [if_neg h0, if_neg h0, if_neg h1, if_neg h1, if_neg h28, if_neg h28, if_neg h29, if_neg h29]
    by_cases he : r' % 2 = 0
    · rw [if_pos he, if_pos he]
      simp only [shpF, updF_ne _ _ (show r' / 2 - 1 ≠ i by omega)]
    · rw [if_neg he, if_neg he]; rfl
theorem t_stEdge (hj : j < 8) (hi : i < 13) (k : Nat) (hk : k < 12) {ix v : Int32} (hix : ix = nI k) (hd : decode y.1 pc = .ok (.iastore, 1)) (kk : XJ G y E Z (pc + 1) l stk 255 (cellOf G (updS S j (edgF σ i (upd (σ.2.2.2.2 i) k v))) B M) ck sk) : XJ G y E Z pc l (.int v :: .int ix :: .ref (gB G + egO j i) :: stk) 255 (cellOf G (updS S j σ) B M) ck sk := by
  refine x_iast (cell_edge hj hi) (egO_255 hj hi) (in_of hix hk (by decide)) hd _ (set_sh (σ' := edgF σ i (upd (σ.2.2.2.2 i) k v)) hj (show 3 + 2 * i < 30 by omega) ?_ ?_) kk
  · rw [shCell_edge _ hi, cl_of hix hk (by decide)]
    simp only [edgF, updF_same]
  · intro r' hr' h
    unfold shCell
    by_cases h0 : r' = 0
    · rw [if_pos h0, if_pos h0]; rfl
    by_cases h1 : r' = 1
    · rw [if_neg h0, if_neg h0, if_pos h1, if_pos h1]
    by_cases h28 : r' = 28
    · rw [if_neg h0, if_neg h0, if_neg h1, if_neg h1, if_pos h28, if_pos h28]; rfl
    by_cases h29 : r' = 29
    · rw [if_neg h0, if_neg h0, if_neg h1, if_neg h1, if_neg h28, if_neg h28, if_pos h29, if_pos h29]; rfl
    rw [if_neg h0, if_neg h0, if_neg h1, if_neg h1, if_neg h28, if_neg h28, if_neg h29, if_neg h29]
    by_cases he : r' % 2 = 0
    · rw [if_pos he, if_pos he]; rfl
    · rw [if_neg he, if_neg he]
      simp only [edgF, updF_ne _ _ (show r' / 2 - 1 ≠ i by omega)]
theorem t_stHeats (hj : j < 8) (k : Nat) (hk : k < 12) {ix v : Int32} (hix : ix = nI k) (hd : decode y.1 pc = .ok (.iastore, 1)) (kk : XJ G y E Z (pc + 1) l stk 255 (cellOf G (updS S j (σ.1, upd σ.2.1 k v, σ.2.2)) B M) ck sk) : XJ G y E Z pc l (.int v :: .int ix :: .ref (gB G + htO j) :: stk) 255 (cellOf G (updS S j σ) B M) ck sk := by
  refine x_iast (cell_heats hj) (htO_255 hj) (in_of hix hk (by decide)) hd _ (set_sh (σ' := (σ.1, upd σ.2.1 k v, σ.2.2)) hj (show 28 < 30 by omega) ?_ ?_) kk
  · rw [cl_of hix hk (by decide)]; rfl
  · intro r' hr' h
    unfold shCell
    by_cases h0 : r' = 0
    · rw [if_pos h0, if_pos h0]
    by_cases h1 : r' = 1
    · rw [if_neg h0, if_neg h0, if_pos h1, if_pos h1]
    rw [if_neg h0, if_neg h0, if_neg h1, if_neg h1, if_neg h, if_neg h]
theorem t_stSets (hj : j < 8) (k : Nat) (hk : k < 4) {ix v : Int32} (hix : ix = nI k) (hd : decode y.1 pc = .ok (.iastore, 1)) (kk : XJ G y E Z (pc + 1) l stk 255 (cellOf G (updS S j (σ.1, σ.2.1, upd σ.2.2.1 k v, σ.2.2.2)) B M) ck sk) : XJ G y E Z pc l (.int v :: .int ix :: .ref (gB G + stO j) :: stk) 255 (cellOf G (updS S j σ) B M) ck sk := by
  refine x_iast (cell_sets hj) (stO_255 hj) (in_of hix hk (by decide)) hd _ (set_sh (σ' := (σ.1, σ.2.1, upd σ.2.2.1 k v, σ.2.2.2)) hj (show 29 < 30 by omega) ?_ ?_) kk
  · rw [cl_of hix hk (by decide)]; rfl
  · intro r' hr' h
    unfold shCell
    by_cases h0 : r' = 0
    · rw [if_pos h0, if_pos h0]
    by_cases h1 : r' = 1
    · rw [if_neg h0, if_neg h0, if_pos h1, if_pos h1]
    by_cases h28 : r' = 28
    · rw [if_neg h0, if_neg h0, if_neg h1, if_neg h1, if_pos h28, if_pos h28]
    rw [if_neg h0, if_neg h0, if_neg h1, if_neg h1, if_neg h28, if_neg h28, if_neg h, if_neg h]
theorem fld3 : ∀ k, k < 4 → (TX3 (6 + k)).1 = RX3 ∧ (TX3 (6 + k)).2.2.2 = false := by decide +kernel
theorem t_putBc (k : Nat) (hk : k < 4) {v : Int32} {idx : Nat} (hn : narrow (tyX3 (6 + k)) (.int v) = .int v) (hf : fits (tyX3 (6 + k)) (.int v) = true) (hlink : Cond.fieldLink y.2.2.1 idx RX3 (TX3 (6 + k)).2.1 (TX3 (6 + k)).2.2.1 ∈ WS) (hd : decode y.1 pc = .ok (.putfield idx, 3)) (kk : XJ G y E Z (pc + 3) l stk 255 (cellOf G S (upd B.1 k v, B.2) M) ck sk) : XJ G y E Z pc l (.int v :: .ref (gB G + 0) :: stk) 255 (cellOf G S B M) ck sk := by
  obtain ⟨f1, f2⟩ := fld3 k hk
  refine x_put (ci := 3) (k := 6 + k) (C := RX3) (T := TX3) (N := 10) (ty := tyX3 (6 + k)) cell_bc (by decide) rfl nX3 tyX3 tyX3_ok nmX3 (by omega) hlink f1 f2 rfl hn hf (by simp; omega) hd _ ?_ kk
  intro o' ho'
  by_cases h : o' = 0
  · subst h
    rw [if_pos rfl]
    match k, hk with
    | 0, _ => rfl
    | 1, _ => rfl
    | 2, _ => rfl
    | 3, _ => rfl
  · rw [if_neg h]
    simp only [cellOf, if_neg h]
    rfl
theorem fld0 : ∀ k, k < 3 → (TX0 (4 + k)).1 = RX0 ∧ (TX0 (4 + k)).2.2.2 = false ∧ tyX0 (4 + k) = .int := by decide +kernel
theorem t_putPlan (k : Nat) (hk : k < 3) {v : Int32} {idx : Nat} (hlink : Cond.fieldLink y.2.2.1 idx RX0 (TX0 (4 + k)).2.1 (TX0 (4 + k)).2.2.1 ∈ WS) (hd : decode y.1 pc = .ok (.putfield idx, 3)) (kk : XJ G y E Z (pc + 3) l stk 255 (cellOf G S (B.1, B.2.1, upd B.2.2.1 k v, B.2.2.2) M) ck sk) : XJ G y E Z pc l (.int v :: .ref (gB G + 242) :: stk) 255 (cellOf G S B M) ck sk := by
  obtain ⟨f1, f2, f3⟩ := fld0 k hk
  refine x_put (ci := 0) (k := 4 + k) (C := RX0) (T := TX0) (N := 7) (ty := .int) cell_plan (by decide) rfl nX0 tyX0 tyX0_ok nmX0 (by omega) hlink f1 f2 f3 rfl rfl (by simp; omega) hd _ ?_ kk
  intro o' ho'
  by_cases h : o' = 242
  · subst h
    rw [if_pos rfl]
    match k, hk with
    | 0, _ => rfl
    | 1, _ => rfl
    | 2, _ => rfl
  · rw [if_neg h]
    simp only [cellOf, if_neg h]
    rfl
theorem t_stHist (k jj : Nat) (hk : k < 4) (hjj : jj < 8) {ix : Int32} (hix : ix = nI k) (hd : decode y.1 pc = .ok (.aastore, 1)) (kk : XJ G y E Z (pc + 1) l stk 255 (cellOf G S (B.1, updN B.2.1 k jj, B.2.2) M) ck sk) : XJ G y E Z pc l (.ref (gB G + sB jj) :: .int ix :: .ref (gB G + 121) :: stk) 255 (cellOf G S B M) ck sk := by
  refine x_aast (C := "BeamCuts$Sheet") (fun s h => (h.1.2 3 _ rfl).2) cell_hist (by decide) (cell_sheet' hjj) (sB_255 hjj) (ci := 2) rfl (in_of hix hk (by decide)) hd _ ?_ kk
  intro o' ho'
  by_cases h : o' = 121
  · subst h
    rw [if_pos rfl, cl_of hix hk (by decide)]
    have e : (fun q => some (gB G + sB (updN B.2.1 k jj q))) = va_up (fun q => some (gB G + sB (B.2.1 q))) k (some (gB G + sB jj)) := by
      funext q
      by_cases hq : q = k
      · subst hq; simp [va_up, updN]
      · simp [va_up, updN, hq]
    rw [← e]
    rfl
  · rw [if_neg h]
    simp only [cellOf, if_neg h]
    rfl
theorem t_stLetters (k : Nat) (hk : k < 60) {ix v : Int32} (hix : ix = nI k) (hv : narrow .char (.int v) = .int v) (hd : decode y.1 pc = .ok (.castore, 1)) (kk : XJ G y E Z (pc + 1) l stk 255 (cellOf G S (B.1, B.2.1, B.2.2.1, upd B.2.2.2.1 k v, B.2.2.2.2) M) ck sk) : XJ G y E Z pc l (.int v :: .int ix :: .ref (gB G + 243) :: stk) 255 (cellOf G S B M) ck sk := by
  refine x_cast cell_letters (by decide) (in_of hix hk (by decide)) hv hd _ ?_ kk
  intro o' ho'
  by_cases h : o' = 243
  · subst h
    rw [if_pos rfl, cl_of hix hk (by decide)]; rfl
  · rw [if_neg h]
    simp only [cellOf, if_neg h]
    rfl
theorem t_stKinds (k : Nat) (hk : k < 30) {ix v : Int32} (hix : ix = nI k) (hd : decode y.1 pc = .ok (.iastore, 1)) (kk : XJ G y E Z (pc + 1) l stk 255 (cellOf G S (B.1, B.2.1, B.2.2.1, B.2.2.2.1, upd B.2.2.2.2.1 k v, B.2.2.2.2.2) M) ck sk) : XJ G y E Z pc l (.int v :: .int ix :: .ref (gB G + 244) :: stk) 255 (cellOf G S B M) ck sk := by
  refine x_iast cell_kinds (by decide) (in_of hix hk (by decide)) hd _ ?_ kk
  intro o' ho'
  by_cases h : o' = 244
  · subst h
    rw [if_pos rfl, cl_of hix hk (by decide)]; rfl
  · rw [if_neg h]
    simp only [cellOf, if_neg h]
    rfl
theorem t_stFirsts (k : Nat) (hk : k < 30) {ix v : Int32} (hix : ix = nI k) (hd : decode y.1 pc = .ok (.iastore, 1)) (kk : XJ G y E Z (pc + 1) l stk 255 (cellOf G S (B.1, B.2.1, B.2.2.1, B.2.2.2.1, B.2.2.2.2.1, upd B.2.2.2.2.2.1 k v, B.2.2.2.2.2.2) M) ck sk) : XJ G y E Z pc l (.int v :: .int ix :: .ref (gB G + 245) :: stk) 255 (cellOf G S B M) ck sk := by
  refine x_iast cell_firsts (by decide) (in_of hix hk (by decide)) hd _ ?_ kk
  intro o' ho'
  by_cases h : o' = 245
  · subst h
    rw [if_pos rfl, cl_of hix hk (by decide)]; rfl
  · rw [if_neg h]
    simp only [cellOf, if_neg h]
    rfl
theorem t_stSeconds (k : Nat) (hk : k < 30) {ix v : Int32} (hix : ix = nI k) (hd : decode y.1 pc = .ok (.iastore, 1)) (kk : XJ G y E Z (pc + 1) l stk 255 (cellOf G S (B.1, B.2.1, B.2.2.1, B.2.2.2.1, B.2.2.2.2.1, B.2.2.2.2.2.1, upd B.2.2.2.2.2.2 k v) M) ck sk) : XJ G y E Z pc l (.int v :: .int ix :: .ref (gB G + 246) :: stk) 255 (cellOf G S B M) ck sk := by
  refine x_iast cell_seconds (by decide) (in_of hix hk (by decide)) hd _ ?_ kk
  intro o' ho'
  by_cases h : o' = 246
  · subst h
    rw [if_pos rfl, cl_of hix hk (by decide)]; rfl
  · rw [if_neg h]
    simp only [cellOf, if_neg h]
    rfl
def isMF (k : Nat) : Prop := k < 21 ∧ k ≠ 0 ∧ k ≠ 1 ∧ k ≠ 2 ∧ k ≠ 3 ∧ k ≠ 5 ∧ k ≠ 7 ∧ k ≠ 17
theorem fld4 : ∀ k, k < 21 → (k ≠ 0 ∧ k ≠ 1 ∧ k ≠ 2 ∧ k ≠ 3 ∧ k ≠ 5 ∧ k ≠ 7 ∧ k ≠ 17) → (TX4 k).1 = RX4 ∧ (TX4 k).2.2.2 = false := by decide +kernel
theorem t_putM (k : Nat) (hk : isMF k) {v : Int32} {idx : Nat} (hn : narrow (tyX4 k) (.int v) = .int v) (hf : fits (tyX4 k) (.int v) = true) (hlink : Cond.fieldLink y.2.2.1 idx RX4 (TX4 k).2.1 (TX4 k).2.2.1 ∈ WS) (hd : decode y.1 pc = .ok (.putfield idx, 3)) (kk : XJ G y E Z (pc + 3) l stk 255 (cellOf G S B (upd M.1 k v, M.2)) ck sk) : XJ G y E Z pc l (.int v :: .ref (gB G + 247) :: stk) 255 (cellOf G S B M) ck sk := by
  obtain ⟨f1, f2⟩ := fld4 k hk.1 hk.2
  refine x_put (ci := 4) (k := k) (C := RX4) (T := TX4) (N := 21) (ty := tyX4 k) cell_model (by decide) rfl nX4 tyX4 tyX4_ok nmX4 hk.1 hlink f1 f2 rfl hn hf (by simp; exact hk.1) hd _ ?_ kk
  intro o' ho'
  by_cases h : o' = 247
  · subst h
    rw [if_pos rfl]
    match k, hk with
    | 4, _ => rfl
    | 6, _ => rfl
    | 8, _ => rfl
    | 9, _ => rfl
    | 10, _ => rfl
    | 11, _ => rfl
    | 12, _ => rfl
    | 13, _ => rfl
    | 14, _ => rfl
    | 15, _ => rfl
    | 16, _ => rfl
    | 18, _ => rfl
    | 19, _ => rfl
    | 20, _ => rfl
    | 0, q => exact absurd rfl q.2.1
    | 1, q => exact absurd rfl q.2.2.1
    | 2, q => exact absurd rfl q.2.2.2.1
    | 3, q => exact absurd rfl q.2.2.2.2.1
    | 5, q => exact absurd rfl q.2.2.2.2.2.1
    | 7, q => exact absurd rfl q.2.2.2.2.2.2.1
    | 17, q => exact absurd rfl q.2.2.2.2.2.2.2
    | k + 21, q => exact absurd q.1 (by omega)
  · rw [if_neg h]
    simp only [cellOf, if_neg h]
theorem t_stS (k : Nat) (hk : k < 119) {ix v : Int32} (hix : ix = nI k) (hd : decode y.1 pc = .ok (.iastore, 1)) (kk : XJ G y E Z (pc + 1) l stk 255 (cellOf G S B (M.1, upd M.2.1 k v, M.2.2)) ck sk) : XJ G y E Z pc l (.int v :: .int ix :: .ref (gB G + 248) :: stk) 255 (cellOf G S B M) ck sk := by
  refine x_iast cell_s (by decide) (in_of hix hk (by decide)) hd _ ?_ kk
  intro o' ho'
  by_cases h : o' = 248
  · subst h
    rw [if_pos rfl, cl_of hix hk (by decide)]; rfl
  · rw [if_neg h]
    simp only [cellOf, if_neg h]
    rfl
theorem t_stAside (k : Nat) (hk : k < 119) {ix v : Int32} (hix : ix = nI k) (hd : decode y.1 pc = .ok (.iastore, 1)) (kk : XJ G y E Z (pc + 1) l stk 255 (cellOf G S B (M.1, M.2.1, upd M.2.2.1 k v, M.2.2.2)) ck sk) : XJ G y E Z pc l (.int v :: .int ix :: .ref (gB G + 249) :: stk) 255 (cellOf G S B M) ck sk := by
  refine x_iast cell_aside (by decide) (in_of hix hk (by decide)) hd _ ?_ kk
  intro o' ho'
  by_cases h : o' = 249
  · subst h
    rw [if_pos rfl, cl_of hix hk (by decide)]; rfl
  · rw [if_neg h]
    simp only [cellOf, if_neg h]
    rfl
theorem t_stAhead (k : Nat) (hk : k < 119) {ix v : Int32} (hix : ix = nI k) (hd : decode y.1 pc = .ok (.iastore, 1)) (kk : XJ G y E Z (pc + 1) l stk 255 (cellOf G S B (M.1, M.2.1, M.2.2.1, upd M.2.2.2.1 k v, M.2.2.2.2)) ck sk) : XJ G y E Z pc l (.int v :: .int ix :: .ref (gB G + 250) :: stk) 255 (cellOf G S B M) ck sk := by
  refine x_iast cell_ahead (by decide) (in_of hix hk (by decide)) hd _ ?_ kk
  intro o' ho'
  by_cases h : o' = 250
  · subst h
    rw [if_pos rfl, cl_of hix hk (by decide)]; rfl
  · rw [if_neg h]
    simp only [cellOf, if_neg h]
    rfl
theorem t_stSnap (k : Nat) (hk : k < 119) {ix v : Int32} (hix : ix = nI k) (hd : decode y.1 pc = .ok (.iastore, 1)) (kk : XJ G y E Z (pc + 1) l stk 255 (cellOf G S B (M.1, M.2.1, M.2.2.1, M.2.2.2.1, upd M.2.2.2.2.1 k v, M.2.2.2.2.2)) ck sk) : XJ G y E Z pc l (.int v :: .int ix :: .ref (gB G + 251) :: stk) 255 (cellOf G S B M) ck sk := by
  refine x_iast cell_snap (by decide) (in_of hix hk (by decide)) hd _ ?_ kk
  intro o' ho'
  by_cases h : o' = 251
  · subst h
    rw [if_pos rfl, cl_of hix hk (by decide)]; rfl
  · rw [if_neg h]
    simp only [cellOf, if_neg h]
    rfl
theorem t_stBefore (k : Nat) (hk : k < 476) {ix v : Int32} (hix : ix = nI k) (hd : decode y.1 pc = .ok (.iastore, 1)) (kk : XJ G y E Z (pc + 1) l stk 255 (cellOf G S B (M.1, M.2.1, M.2.2.1, M.2.2.2.1, M.2.2.2.2.1, upd M.2.2.2.2.2.1 k v, M.2.2.2.2.2.2)) ck sk) : XJ G y E Z pc l (.int v :: .int ix :: .ref (gB G + 252) :: stk) 255 (cellOf G S B M) ck sk := by
  refine x_iast cell_before (by decide) (in_of hix hk (by decide)) hd _ ?_ kk
  intro o' ho'
  by_cases h : o' = 252
  · subst h
    rw [if_pos rfl, cl_of hix hk (by decide)]; rfl
  · rw [if_neg h]
    simp only [cellOf, if_neg h]
    rfl
theorem t_stText (k : Nat) (hk : k < 60) {ix v : Int32} (hix : ix = nI k) (hd : decode y.1 pc = .ok (.iastore, 1)) (kk : XJ G y E Z (pc + 1) l stk 255 (cellOf G S B (M.1, M.2.1, M.2.2.1, M.2.2.2.1, M.2.2.2.2.1, M.2.2.2.2.2.1, upd M.2.2.2.2.2.2.1 k v, M.2.2.2.2.2.2.2)) ck sk) : XJ G y E Z pc l (.int v :: .int ix :: .ref (gB G + 253) :: stk) 255 (cellOf G S B M) ck sk := by
  refine x_iast cell_text (by decide) (in_of hix hk (by decide)) hd _ ?_ kk
  intro o' ho'
  by_cases h : o' = 253
  · subst h
    rw [if_pos rfl, cl_of hix hk (by decide)]; rfl
  · rw [if_neg h]
    simp only [cellOf, if_neg h]
    rfl
theorem t_stOrder (k : Nat) (hk : k < 12) {ix v : Int32} (hix : ix = nI k) (hd : decode y.1 pc = .ok (.iastore, 1)) (kk : XJ G y E Z (pc + 1) l stk 255 (cellOf G S B (M.1, M.2.1, M.2.2.1, M.2.2.2.1, M.2.2.2.2.1, M.2.2.2.2.2.1, M.2.2.2.2.2.2.1, upd M.2.2.2.2.2.2.2 k v)) ck sk) : XJ G y E Z pc l (.int v :: .int ix :: .ref (gB G + 254) :: stk) 255 (cellOf G S B M) ck sk := by
  refine x_iast cell_order (by decide) (in_of hix hk (by decide)) hd _ ?_ kk
  intro o' ho'
  by_cases h : o' = 254
  · subst h
    rw [if_pos rfl, cl_of hix hk (by decide)]
    rfl
  · rw [if_neg h]
    simp only [cellOf, if_neg h]
    rfl
/-- what a method of the state answers -/
abbrev Rt (G : GX) (v : Option Value) (S : Nat → Sh) (B : Bc) (M : Md) : Option Value → Nat → (Nat → va_E) → Prop := fun w n cs => w = v ∧ n = 255 ∧ cs = cellOf G S B M
abbrev Cs (G : GX) (ynm : MethodName) (yc : YX) (As : List Value) (S : Nat → Sh) (B : Bc) (M : Md) (v : Option Value) (S' : Nat → Sh) (B' : Bc) (M' : Md) : Prop := Ct G ynm yc 0 0 As 255 (cellOf G S B M) (Rt G v S' B' M')
end TROWS
end
section
/-! each method: bytes, locals, class, room, what it returns, name; what a call of it wants (by program: wip/whole/gen_methods.py) -/
abbrev YX3_init : YX := (cX3_init, 2, RX3, { frames := 3, cells := 246, slots := 2657, locals := 61 }, none, "<init>")
theorem qI_X3_init : MqI yX3_init YX3_init 0 := ⟨mM_X3_init, rfl, mI_X3, mK_X3_init, by decide +kernel, by decide +kernel, by decide +kernel⟩
abbrev YX2_init : YX := (cX2_init, 2, RX2, { frames := 2, cells := 29, slots := 302, locals := 40 }, none, "<init>")
theorem qI_X2_init : MqI yX2_init YX2_init 0 := ⟨mM_X2_init, rfl, mI_X2, mK_X2_init, by decide +kernel, by decide +kernel, by decide +kernel⟩
abbrev YX1_init : YX := (cX1_init, 1, RX1, { frames := 1, cells := 1, slots := 12, locals := 20 }, none, "<init>")
theorem qI_X1_init : MqI yX1_init YX1_init 0 := ⟨mM_X1_init, rfl, mI_X1, mK_X1_init, by decide +kernel, by decide +kernel, by decide +kernel⟩
abbrev YX0_init : YX := (cX0_init, 1, RX0, { frames := 1, cells := 4, slots := 150, locals := 20 }, none, "<init>")
theorem qI_X0_init : MqI yX0_init YX0_init 0 := ⟨mM_X0_init, rfl, mI_X0, mK_X0_init, by decide +kernel, by decide +kernel, by decide +kernel⟩
abbrev YX3_tell : YX := (cX3_tell, 5, RX3, { frames := 4, cells := 0, slots := 0, locals := 97 }, (some .int), "tell")
theorem qV_X3_tell : MqV yX3_tell YX3_tell 4 := ⟨mM_X3_tell, mS_X3_tell, mI_X3, mK_X3_tell, by decide +kernel, by decide +kernel, by decide +kernel⟩
abbrev YX2_copyFrom : YX := (cX2_copyFrom, 3, RX2, { frames := 1, cells := 0, slots := 0, locals := 22 }, none, "copyFrom")
theorem qV_X2_copyFrom : MqV yX2_copyFrom YX2_copyFrom 1 := ⟨mM_X2_copyFrom, mS_X2_copyFrom, mI_X2, mK_X2_copyFrom, by decide +kernel, by decide +kernel, by decide +kernel⟩
abbrev YX1_copyFrom : YX := (cX1_copyFrom, 3, RX1, { frames := 0, cells := 0, slots := 0, locals := 0 }, none, "copyFrom")
theorem qV_X1_copyFrom : MqV yX1_copyFrom YX1_copyFrom 1 := ⟨mM_X1_copyFrom, mS_X1_copyFrom, mI_X1, mK_X1_copyFrom, by decide +kernel, by decide +kernel, by decide +kernel⟩
abbrev YX2_addShape : YX := (cX2_addShape, 6, RX2, { frames := 3, cells := 0, slots := 0, locals := 72 }, (some .int), "addShape")
theorem qV_X2_addShape : MqV yX2_addShape YX2_addShape 4 := ⟨mM_X2_addShape, mS_X2_addShape, mI_X2, mK_X2_addShape, by decide +kernel, by decide +kernel, by decide +kernel⟩
abbrev YX3_isIn : YX := (cX3_isIn, 3, RX3, { frames := 0, cells := 0, slots := 0, locals := 0 }, (some .boolean), "isIn")
theorem qS_X3_isIn : MqS yX3_isIn YX3_isIn 3 := ⟨mT_X3_isIn, mI_X3, mK_X3_isIn, by decide +kernel, by decide +kernel, by decide +kernel⟩
abbrev YX1_place : YX := (cX1_place, 6, RX1, { frames := 2, cells := 0, slots := 0, locals := 47 }, none, "place")
theorem qV_X1_place : MqV yX1_place YX1_place 4 := ⟨mM_X1_place, mS_X1_place, mI_X1, mK_X1_place, by decide +kernel, by decide +kernel, by decide +kernel⟩
abbrev YX1_fieldsIn : YX := (cX1_fieldsIn, 7, RX1, { frames := 1, cells := 0, slots := 0, locals := 21 }, (some .int), "fieldsIn")
theorem qV_X1_fieldsIn : MqV yX1_fieldsIn YX1_fieldsIn 2 := ⟨mM_X1_fieldsIn, mS_X1_fieldsIn, mI_X1, mK_X1_fieldsIn, by decide +kernel, by decide +kernel, by decide +kernel⟩
abbrev YX2_fits : YX := (cX2_fits, 5, RX2, { frames := 1, cells := 0, slots := 0, locals := 21 }, (some .boolean), "fits")
theorem qV_X2_fits : MqV yX2_fits YX2_fits 1 := ⟨mM_X2_fits, mS_X2_fits, mI_X2, mK_X2_fits, by decide +kernel, by decide +kernel, by decide +kernel⟩
abbrev YX1_isInside : YX := (cX1_isInside, 2, RX1, { frames := 0, cells := 0, slots := 0, locals := 0 }, (some .boolean), "isInside")
theorem qV_X1_isInside : MqV yX1_isInside YX1_isInside 1 := ⟨mM_X1_isInside, mS_X1_isInside, mI_X1, mK_X1_isInside, by decide +kernel, by decide +kernel, by decide +kernel⟩
abbrev YX1_isApartFrom : YX := (cX1_isApartFrom, 2, RX1, { frames := 0, cells := 0, slots := 0, locals := 0 }, (some .boolean), "isApartFrom")
theorem qV_X1_isApartFrom : MqV yX1_isApartFrom YX1_isApartFrom 1 := ⟨mM_X1_isApartFrom, mS_X1_isApartFrom, mI_X1, mK_X1_isApartFrom, by decide +kernel, by decide +kernel, by decide +kernel⟩
abbrev YX3_recorded : YX := (cX3_recorded, 2, RX3, { frames := 2, cells := 0, slots := 0, locals := 44 }, (some .int), "recorded")
theorem qV_X3_recorded : MqV yX3_recorded YX3_recorded 1 := ⟨mM_X3_recorded, mS_X3_recorded, mI_X3, mK_X3_recorded, by decide +kernel, by decide +kernel, by decide +kernel⟩
abbrev YX3_dropOldestState : YX := (cX3_dropOldestState, 3, RX3, { frames := 0, cells := 0, slots := 0, locals := 0 }, none, "dropOldestState")
theorem qV_X3_dropOldestState : MqV yX3_dropOldestState YX3_dropOldestState 0 := ⟨mM_X3_dropOldestState, mS_X3_dropOldestState, mI_X3, mK_X3_dropOldestState, by decide +kernel, by decide +kernel, by decide +kernel⟩
abbrev YX3_setLead : YX := (cX3_setLead, 3, RX3, { frames := 3, cells := 0, slots := 0, locals := 65 }, (some .int), "setLead")
theorem qV_X3_setLead : MqV yX3_setLead YX3_setLead 2 := ⟨mM_X3_setLead, mS_X3_setLead, mI_X3, mK_X3_setLead, by decide +kernel, by decide +kernel, by decide +kernel⟩
abbrev YX2_changeLead : YX := (cX2_changeLead, 5, RX2, { frames := 1, cells := 0, slots := 0, locals := 22 }, (some .int), "changeLead")
theorem qV_X2_changeLead : MqV yX2_changeLead YX2_changeLead 2 := ⟨mM_X2_changeLead, mS_X2_changeLead, mI_X2, mK_X2_changeLead, by decide +kernel, by decide +kernel, by decide +kernel⟩
abbrev YX2_knows : YX := (cX2_knows, 2, RX2, { frames := 0, cells := 0, slots := 0, locals := 0 }, (some .boolean), "knows")
theorem qV_X2_knows : MqV yX2_knows YX2_knows 1 := ⟨mM_X2_knows, mS_X2_knows, mI_X2, mK_X2_knows, by decide +kernel, by decide +kernel, by decide +kernel⟩
abbrev YX3_set : YX := (cX3_set, 3, RX3, { frames := 3, cells := 0, slots := 0, locals := 65 }, (some .int), "set")
theorem qV_X3_set : MqV yX3_set YX3_set 2 := ⟨mM_X3_set, mS_X3_set, mI_X3, mK_X3_set, by decide +kernel, by decide +kernel, by decide +kernel⟩
abbrev YX2_changeSetting : YX := (cX2_changeSetting, 4, RX2, { frames := 1, cells := 0, slots := 0, locals := 22 }, (some .int), "changeSetting")
theorem qV_X2_changeSetting : MqV yX2_changeSetting YX2_changeSetting 2 := ⟨mM_X2_changeSetting, mS_X2_changeSetting, mI_X2, mK_X2_changeSetting, by decide +kernel, by decide +kernel, by decide +kernel⟩
abbrev YX3_cut : YX := (cX3_cut, 2, RX3, { frames := 4, cells := 0, slots := 0, locals := 89 }, (some .int), "cut")
theorem qV_X3_cut : MqV yX3_cut YX3_cut 1 := ⟨mM_X3_cut, mS_X3_cut, mI_X3, mK_X3_cut, by decide +kernel, by decide +kernel, by decide +kernel⟩
abbrev YX2_cutShape : YX := (cX2_cutShape, 4, RX2, { frames := 3, cells := 0, slots := 0, locals := 66 }, (some .int), "cutShape")
theorem qV_X2_cutShape : MqV yX2_cutShape YX2_cutShape 1 := ⟨mM_X2_cutShape, mS_X2_cutShape, mI_X2, mK_X2_cutShape, by decide +kernel, by decide +kernel, by decide +kernel⟩
abbrev YX2_reasonAgainst : YX := (cX2_reasonAgainst, 3, RX2, { frames := 2, cells := 0, slots := 0, locals := 44 }, (some .int), "reasonAgainst")
theorem qV_X2_reasonAgainst : MqV yX2_reasonAgainst YX2_reasonAgainst 1 := ⟨mM_X2_reasonAgainst, mS_X2_reasonAgainst, mI_X2, mK_X2_reasonAgainst, by decide +kernel, by decide +kernel, by decide +kernel⟩
abbrev YX2_holdsWholeShape : YX := (cX2_holdsWholeShape, 3, RX2, { frames := 1, cells := 0, slots := 0, locals := 21 }, (some .boolean), "holdsWholeShape")
theorem qV_X2_holdsWholeShape : MqV yX2_holdsWholeShape YX2_holdsWholeShape 1 := ⟨mM_X2_holdsWholeShape, mS_X2_holdsWholeShape, mI_X2, mK_X2_holdsWholeShape, by decide +kernel, by decide +kernel, by decide +kernel⟩
abbrev YX2_heatOver : YX := (cX2_heatOver, 4, RX2, { frames := 1, cells := 0, slots := 0, locals := 21 }, (some .int), "heatOver")
theorem qV_X2_heatOver : MqV yX2_heatOver YX2_heatOver 1 := ⟨mM_X2_heatOver, mS_X2_heatOver, mI_X2, mK_X2_heatOver, by decide +kernel, by decide +kernel, by decide +kernel⟩
abbrev YX2_wayTo : YX := (cX2_wayTo, 2, RX2, { frames := 1, cells := 0, slots := 0, locals := 21 }, (some .int), "wayTo")
theorem qV_X2_wayTo : MqV yX2_wayTo YX2_wayTo 1 := ⟨mM_X2_wayTo, mS_X2_wayTo, mI_X2, mK_X2_wayTo, by decide +kernel, by decide +kernel, by decide +kernel⟩
abbrev YX1_leadColumn : YX := (cX1_leadColumn, 1, RX1, { frames := 0, cells := 0, slots := 0, locals := 0 }, (some .int), "leadColumn")
theorem qV_X1_leadColumn : MqV yX1_leadColumn YX1_leadColumn 0 := ⟨mM_X1_leadColumn, mS_X1_leadColumn, mI_X1, mK_X1_leadColumn, by decide +kernel, by decide +kernel, by decide +kernel⟩
abbrev YX1_leadRow : YX := (cX1_leadRow, 1, RX1, { frames := 0, cells := 0, slots := 0, locals := 0 }, (some .int), "leadRow")
theorem qV_X1_leadRow : MqV yX1_leadRow YX1_leadRow 0 := ⟨mM_X1_leadRow, mS_X1_leadRow, mI_X1, mK_X1_leadRow, by decide +kernel, by decide +kernel, by decide +kernel⟩
abbrev YX2_coolFor : YX := (cX2_coolFor, 3, RX2, { frames := 1, cells := 0, slots := 0, locals := 21 }, none, "coolFor")
theorem qV_X2_coolFor : MqV yX2_coolFor YX2_coolFor 1 := ⟨mM_X2_coolFor, mS_X2_coolFor, mI_X2, mK_X2_coolFor, by decide +kernel, by decide +kernel, by decide +kernel⟩
abbrev YX2_burnEdge : YX := (cX2_burnEdge, 4, RX2, { frames := 2, cells := 0, slots := 0, locals := 41 }, none, "burnEdge")
theorem qV_X2_burnEdge : MqV yX2_burnEdge YX2_burnEdge 1 := ⟨mM_X2_burnEdge, mS_X2_burnEdge, mI_X2, mK_X2_burnEdge, by decide +kernel, by decide +kernel, by decide +kernel⟩
abbrev YX2_burningOf : YX := (cX2_burningOf, 2, RX2, { frames := 1, cells := 0, slots := 0, locals := 20 }, (some .int), "burningOf")
theorem qV_X2_burningOf : MqV yX2_burningOf YX2_burningOf 1 := ⟨mM_X2_burningOf, mS_X2_burningOf, mI_X2, mK_X2_burningOf, by decide +kernel, by decide +kernel, by decide +kernel⟩
abbrev YX1_edge : YX := (cX1_edge, 1, RX1, { frames := 0, cells := 0, slots := 0, locals := 0 }, (some .int), "edge")
theorem qV_X1_edge : MqV yX1_edge YX1_edge 0 := ⟨mM_X1_edge, mS_X1_edge, mI_X1, mK_X1_edge, by decide +kernel, by decide +kernel, by decide +kernel⟩
abbrev YX1_leadSquare : YX := (cX1_leadSquare, 1, RX1, { frames := 1, cells := 0, slots := 0, locals := 20 }, (some .int), "leadSquare")
theorem qV_X1_leadSquare : MqV yX1_leadSquare YX1_leadSquare 0 := ⟨mM_X1_leadSquare, mS_X1_leadSquare, mI_X1, mK_X1_leadSquare, by decide +kernel, by decide +kernel, by decide +kernel⟩
abbrev YX2_heatIn : YX := (cX2_heatIn, 2, RX2, { frames := 1, cells := 0, slots := 0, locals := 22 }, (some .int), "heatIn")
theorem qV_X2_heatIn : MqV yX2_heatIn YX2_heatIn 1 := ⟨mM_X2_heatIn, mS_X2_heatIn, mI_X2, mK_X2_heatIn, by decide +kernel, by decide +kernel, by decide +kernel⟩
abbrev YX2_greatestHeat : YX := (cX2_greatestHeat, 1, RX2, { frames := 1, cells := 0, slots := 0, locals := 22 }, (some .int), "greatestHeat")
theorem qV_X2_greatestHeat : MqV yX2_greatestHeat YX2_greatestHeat 0 := ⟨mM_X2_greatestHeat, mS_X2_greatestHeat, mI_X2, mK_X2_greatestHeat, by decide +kernel, by decide +kernel, by decide +kernel⟩
abbrev YX2_hottestSquare : YX := (cX2_hottestSquare, 3, RX2, { frames := 0, cells := 0, slots := 0, locals := 0 }, (some .int), "hottestSquare")
theorem qV_X2_hottestSquare : MqV yX2_hottestSquare YX2_hottestSquare 0 := ⟨mM_X2_hottestSquare, mS_X2_hottestSquare, mI_X2, mK_X2_hottestSquare, by decide +kernel, by decide +kernel, by decide +kernel⟩
abbrev YX2_loseShapesInside : YX := (cX2_loseShapesInside, 5, RX2, { frames := 1, cells := 0, slots := 0, locals := 21 }, (some .int), "loseShapesInside")
theorem qV_X2_loseShapesInside : MqV yX2_loseShapesInside YX2_loseShapesInside 1 := ⟨mM_X2_loseShapesInside, mS_X2_loseShapesInside, mI_X2, mK_X2_loseShapesInside, by decide +kernel, by decide +kernel, by decide +kernel⟩
abbrev YX3_pause : YX := (cX3_pause, 2, RX3, { frames := 3, cells := 0, slots := 0, locals := 65 }, (some .int), "pause")
theorem qV_X3_pause : MqV yX3_pause YX3_pause 1 := ⟨mM_X3_pause, mS_X3_pause, mI_X3, mK_X3_pause, by decide +kernel, by decide +kernel, by decide +kernel⟩
abbrev YX2_waitFor : YX := (cX2_waitFor, 2, RX2, { frames := 2, cells := 0, slots := 0, locals := 43 }, (some .int), "waitFor")
theorem qV_X2_waitFor : MqV yX2_waitFor YX2_waitFor 1 := ⟨mM_X2_waitFor, mS_X2_waitFor, mI_X2, mK_X2_waitFor, by decide +kernel, by decide +kernel, by decide +kernel⟩
abbrev YX3_clean : YX := (cX3_clean, 1, RX3, { frames := 3, cells := 0, slots := 0, locals := 65 }, (some .int), "clean")
theorem qV_X3_clean : MqV yX3_clean YX3_clean 0 := ⟨mM_X3_clean, mS_X3_clean, mI_X3, mK_X3_clean, by decide +kernel, by decide +kernel, by decide +kernel⟩
abbrev YX2_cleanLens : YX := (cX2_cleanLens, 2, RX2, { frames := 2, cells := 0, slots := 0, locals := 43 }, (some .int), "cleanLens")
theorem qV_X2_cleanLens : MqV yX2_cleanLens YX2_cleanLens 0 := ⟨mM_X2_cleanLens, mS_X2_cleanLens, mI_X2, mK_X2_cleanLens, by decide +kernel, by decide +kernel, by decide +kernel⟩
abbrev YX3_type : YX := (cX3_type, 2, RX3, { frames := 1, cells := 0, slots := 0, locals := 21 }, (some .int), "type")
theorem qV_X3_type : MqV yX3_type YX3_type 1 := ⟨mM_X3_type, mS_X3_type, mI_X3, mK_X3_type, by decide +kernel, by decide +kernel, by decide +kernel⟩
abbrev YX0_addLetter : YX := (cX0_addLetter, 2, RX0, { frames := 0, cells := 0, slots := 0, locals := 0 }, (some .int), "addLetter")
theorem qV_X0_addLetter : MqV yX0_addLetter YX0_addLetter 1 := ⟨mM_X0_addLetter, mS_X0_addLetter, mI_X0, mK_X0_addLetter, by decide +kernel, by decide +kernel, by decide +kernel⟩
abbrev YX3_clearText : YX := (cX3_clearText, 1, RX3, { frames := 1, cells := 0, slots := 0, locals := 21 }, (some .int), "clearText")
theorem qV_X3_clearText : MqV yX3_clearText YX3_clearText 0 := ⟨mM_X3_clearText, mS_X3_clearText, mI_X3, mK_X3_clearText, by decide +kernel, by decide +kernel, by decide +kernel⟩
abbrev YX0_dropLetters : YX := (cX0_dropLetters, 2, RX0, { frames := 0, cells := 0, slots := 0, locals := 0 }, (some .int), "dropLetters")
theorem qV_X0_dropLetters : MqV yX0_dropLetters YX0_dropLetters 0 := ⟨mM_X0_dropLetters, mS_X0_dropLetters, mI_X0, mK_X0_dropLetters, by decide +kernel, by decide +kernel, by decide +kernel⟩
abbrev YX3_perform : YX := (cX3_perform, 4, RX3, { frames := 5, cells := 0, slots := 0, locals := 111 }, (some .int), "perform")
theorem qV_X3_perform : MqV yX3_perform YX3_perform 0 := ⟨mM_X3_perform, mS_X3_perform, mI_X3, mK_X3_perform, by decide +kernel, by decide +kernel, by decide +kernel⟩
abbrev YX0_read : YX := (cX0_read, 1, RX0, { frames := 4, cells := 0, slots := 0, locals := 87 }, (some .int), "read")
theorem qV_X0_read : MqV yX0_read YX0_read 0 := ⟨mM_X0_read, mS_X0_read, mI_X0, mK_X0_read, by decide +kernel, by decide +kernel, by decide +kernel⟩
abbrev YX0_readThing : YX := (cX0_readThing, 1, RX0, { frames := 3, cells := 0, slots := 0, locals := 67 }, (some .boolean), "readThing")
theorem qV_X0_readThing : MqV yX0_readThing YX0_readThing 0 := ⟨mM_X0_readThing, mS_X0_readThing, mI_X0, mK_X0_readThing, by decide +kernel, by decide +kernel, by decide +kernel⟩
abbrev YX0_readLetter : YX := (cX0_readLetter, 2, RX0, { frames := 0, cells := 0, slots := 0, locals := 0 }, (some .boolean), "readLetter")
theorem qV_X0_readLetter : MqV yX0_readLetter YX0_readLetter 1 := ⟨mM_X0_readLetter, mS_X0_readLetter, mI_X0, mK_X0_readLetter, by decide +kernel, by decide +kernel, by decide +kernel⟩
abbrev YX0_readNumber : YX := (cX0_readNumber, 5, RX0, { frames := 2, cells := 0, slots := 0, locals := 43 }, (some .boolean), "readNumber")
theorem qV_X0_readNumber : MqV yX0_readNumber YX0_readNumber 3 := ⟨mM_X0_readNumber, mS_X0_readNumber, mI_X0, mK_X0_readNumber, by decide +kernel, by decide +kernel, by decide +kernel⟩
abbrev YX0_digitAt : YX := (cX0_digitAt, 2, RX0, { frames := 1, cells := 0, slots := 0, locals := 22 }, (some .int), "digitAt")
theorem qV_X0_digitAt : MqV yX0_digitAt YX0_digitAt 1 := ⟨mM_X0_digitAt, mS_X0_digitAt, mI_X0, mK_X0_digitAt, by decide +kernel, by decide +kernel, by decide +kernel⟩
abbrev YX0_doThing : YX := (cX0_doThing, 3, RX0, { frames := 4, cells := 0, slots := 0, locals := 89 }, (some .int), "doThing")
theorem qV_X0_doThing : MqV yX0_doThing YX0_doThing 2 := ⟨mM_X0_doThing, mS_X0_doThing, mI_X0, mK_X0_doThing, by decide +kernel, by decide +kernel, by decide +kernel⟩
abbrev YX3_stopped : YX := (cX3_stopped, 2, RX3, { frames := 0, cells := 0, slots := 0, locals := 0 }, (some .int), "stopped")
theorem qV_X3_stopped : MqV yX3_stopped YX3_stopped 1 := ⟨mM_X3_stopped, mS_X3_stopped, mI_X3, mK_X3_stopped, by decide +kernel, by decide +kernel, by decide +kernel⟩
abbrev YX3_undo : YX := (cX3_undo, 1, RX3, { frames := 2, cells := 0, slots := 0, locals := 44 }, (some .int), "undo")
theorem qV_X3_undo : MqV yX3_undo YX3_undo 0 := ⟨mM_X3_undo, mS_X3_undo, mI_X3, mK_X3_undo, by decide +kernel, by decide +kernel, by decide +kernel⟩
abbrev YX3_keep : YX := (cX3_keep, 1, RX3, { frames := 2, cells := 0, slots := 0, locals := 44 }, (some .int), "keep")
theorem qV_X3_keep : MqV yX3_keep YX3_keep 0 := ⟨mM_X3_keep, mS_X3_keep, mI_X3, mK_X3_keep, by decide +kernel, by decide +kernel, by decide +kernel⟩
abbrev YX3_restore : YX := (cX3_restore, 1, RX3, { frames := 3, cells := 0, slots := 0, locals := 65 }, (some .int), "restore")
theorem qV_X3_restore : MqV yX3_restore YX3_restore 0 := ⟨mM_X3_restore, mS_X3_restore, mI_X3, mK_X3_restore, by decide +kernel, by decide +kernel, by decide +kernel⟩
abbrev YX3_shape : YX := (cX3_shape, 3, RX3, { frames := 3, cells := 0, slots := 0, locals := 67 }, (some .int), "shape")
theorem qV_X3_shape : MqV yX3_shape YX3_shape 2 := ⟨mM_X3_shape, mS_X3_shape, mI_X3, mK_X3_shape, by decide +kernel, by decide +kernel, by decide +kernel⟩
abbrev YX2_factOfShape : YX := (cX2_factOfShape, 4, RX2, { frames := 2, cells := 0, slots := 0, locals := 44 }, (some .int), "factOfShape")
theorem qV_X2_factOfShape : MqV yX2_factOfShape YX2_factOfShape 2 := ⟨mM_X2_factOfShape, mS_X2_factOfShape, mI_X2, mK_X2_factOfShape, by decide +kernel, by decide +kernel, by decide +kernel⟩
abbrev YX2_outerOf : YX := (cX2_outerOf, 4, RX2, { frames := 1, cells := 0, slots := 0, locals := 21 }, (some .int), "outerOf")
theorem qV_X2_outerOf : MqV yX2_outerOf YX2_outerOf 1 := ⟨mM_X2_outerOf, mS_X2_outerOf, mI_X2, mK_X2_outerOf, by decide +kernel, by decide +kernel, by decide +kernel⟩
abbrev YX2_setInside : YX := (cX2_setInside, 4, RX2, { frames := 1, cells := 0, slots := 0, locals := 21 }, (some .int), "setInside")
theorem qV_X2_setInside : MqV yX2_setInside YX2_setInside 1 := ⟨mM_X2_setInside, mS_X2_setInside, mI_X2, mK_X2_setInside, by decide +kernel, by decide +kernel, by decide +kernel⟩
abbrev YX3_heat : YX := (cX3_heat, 2, RX3, { frames := 2, cells := 0, slots := 0, locals := 43 }, (some .int), "heat")
theorem qV_X3_heat : MqV yX3_heat YX3_heat 1 := ⟨mM_X3_heat, mS_X3_heat, mI_X3, mK_X3_heat, by decide +kernel, by decide +kernel, by decide +kernel⟩
abbrev YX3_reason : YX := (cX3_reason, 2, RX3, { frames := 3, cells := 0, slots := 0, locals := 66 }, (some .int), "reason")
theorem qV_X3_reason : MqV yX3_reason YX3_reason 1 := ⟨mM_X3_reason, mS_X3_reason, mI_X3, mK_X3_reason, by decide +kernel, by decide +kernel, by decide +kernel⟩
abbrev YX3_takes : YX := (cX3_takes, 2, RX3, { frames := 3, cells := 0, slots := 0, locals := 64 }, (some .int), "takes")
theorem qV_X3_takes : MqV yX3_takes YX3_takes 1 := ⟨mM_X3_takes, mS_X3_takes, mI_X3, mK_X3_takes, by decide +kernel, by decide +kernel, by decide +kernel⟩
abbrev YX2_ticksToCut : YX := (cX2_ticksToCut, 3, RX2, { frames := 2, cells := 0, slots := 0, locals := 42 }, (some .int), "ticksToCut")
theorem qV_X2_ticksToCut : MqV yX2_ticksToCut YX2_ticksToCut 1 := ⟨mM_X2_ticksToCut, mS_X2_ticksToCut, mI_X2, mK_X2_ticksToCut, by decide +kernel, by decide +kernel, by decide +kernel⟩
abbrev YX3_coolsIn : YX := (cX3_coolsIn, 2, RX3, { frames := 4, cells := 0, slots := 0, locals := 90 }, (some .int), "coolsIn")
theorem qV_X3_coolsIn : MqV yX3_coolsIn YX3_coolsIn 1 := ⟨mM_X3_coolsIn, mS_X3_coolsIn, mI_X3, mK_X3_coolsIn, by decide +kernel, by decide +kernel, by decide +kernel⟩
abbrev YX2_ticksToCool : YX := (cX2_ticksToCool, 5, RX2, { frames := 3, cells := 0, slots := 0, locals := 66 }, (some .int), "ticksToCool")
theorem qV_X2_ticksToCool : MqV yX2_ticksToCool YX2_ticksToCool 1 := ⟨mM_X2_ticksToCool, mS_X2_ticksToCool, mI_X2, mK_X2_ticksToCool, by decide +kernel, by decide +kernel, by decide +kernel⟩
abbrev YX3_best : YX := (cX3_best, 1, RX3, { frames := 4, cells := 0, slots := 0, locals := 90 }, (some .int), "best")
theorem qV_X3_best : MqV yX3_best YX3_best 0 := ⟨mM_X3_best, mS_X3_best, mI_X3, mK_X3_best, by decide +kernel, by decide +kernel, by decide +kernel⟩
abbrev YX2_bestShape : YX := (cX2_bestShape, 5, RX2, { frames := 3, cells := 0, slots := 0, locals := 66 }, (some .int), "bestShape")
theorem qV_X2_bestShape : MqV yX2_bestShape YX2_bestShape 0 := ⟨mM_X2_bestShape, mS_X2_bestShape, mI_X2, mK_X2_bestShape, by decide +kernel, by decide +kernel, by decide +kernel⟩
abbrev YX3_ordered : YX := (cX3_ordered, 4, RX3, { frames := 6, cells := 0, slots := 0, locals := 135 }, (some .int), "ordered")
theorem qV_X3_ordered : MqV yX3_ordered YX3_ordered 1 := ⟨mM_X3_ordered, mS_X3_ordered, mI_X3, mK_X3_ordered, by decide +kernel, by decide +kernel, by decide +kernel⟩
abbrev YX2_cutNext : YX := (cX2_cutNext, 3, RX2, { frames := 5, cells := 0, slots := 0, locals := 113 }, (some .int), "cutNext")
theorem qV_X2_cutNext : MqV yX2_cutNext YX2_cutNext 0 := ⟨mM_X2_cutNext, mS_X2_cutNext, mI_X2, mK_X2_cutNext, by decide +kernel, by decide +kernel, by decide +kernel⟩
abbrev YX2_fewestTicksToCool : YX := (cX2_fewestTicksToCool, 4, RX2, { frames := 4, cells := 0, slots := 0, locals := 90 }, (some .int), "fewestTicksToCool")
theorem qV_X2_fewestTicksToCool : MqV yX2_fewestTicksToCool YX2_fewestTicksToCool 0 := ⟨mM_X2_fewestTicksToCool, mS_X2_fewestTicksToCool, mI_X2, mK_X2_fewestTicksToCool, by decide +kernel, by decide +kernel, by decide +kernel⟩
abbrev YX3_allTakes : YX := (cX3_allTakes, 2, RX3, { frames := 6, cells := 0, slots := 0, locals := 135 }, (some .int), "allTakes")
theorem qV_X3_allTakes : MqV yX3_allTakes YX3_allTakes 0 := ⟨mM_X3_allTakes, mS_X3_allTakes, mI_X3, mK_X3_allTakes, by decide +kernel, by decide +kernel, by decide +kernel⟩
abbrev YX2_shapesThatAre : YX := (cX2_shapesThatAre, 4, RX2, { frames := 0, cells := 0, slots := 0, locals := 0 }, (some .int), "shapesThatAre")
theorem qV_X2_shapesThatAre : MqV yX2_shapesThatAre YX2_shapesThatAre 1 := ⟨mM_X2_shapesThatAre, mS_X2_shapesThatAre, mI_X2, mK_X2_shapesThatAre, by decide +kernel, by decide +kernel, by decide +kernel⟩
abbrev YX3_count : YX := (cX3_count, 2, RX3, { frames := 3, cells := 0, slots := 0, locals := 63 }, (some .int), "count")
theorem qV_X3_count : MqV yX3_count YX3_count 1 := ⟨mM_X3_count, mS_X3_count, mI_X3, mK_X3_count, by decide +kernel, by decide +kernel, by decide +kernel⟩
abbrev YX2_factOfSheet : YX := (cX2_factOfSheet, 2, RX2, { frames := 2, cells := 0, slots := 0, locals := 42 }, (some .int), "factOfSheet")
theorem qV_X2_factOfSheet : MqV yX2_factOfSheet YX2_factOfSheet 1 := ⟨mM_X2_factOfSheet, mS_X2_factOfSheet, mI_X2, mK_X2_factOfSheet, by decide +kernel, by decide +kernel, by decide +kernel⟩
abbrev YX2_shapesThatTilted : YX := (cX2_shapesThatTilted, 3, RX2, { frames := 0, cells := 0, slots := 0, locals := 0 }, (some .int), "shapesThatTilted")
theorem qV_X2_shapesThatTilted : MqV yX2_shapesThatTilted YX2_shapesThatTilted 0 := ⟨mM_X2_shapesThatTilted, mS_X2_shapesThatTilted, mI_X2, mK_X2_shapesThatTilted, by decide +kernel, by decide +kernel, by decide +kernel⟩
abbrev YX2_allHeat : YX := (cX2_allHeat, 3, RX2, { frames := 0, cells := 0, slots := 0, locals := 0 }, (some .int), "allHeat")
theorem qV_X2_allHeat : MqV yX2_allHeat YX2_allHeat 0 := ⟨mM_X2_allHeat, mS_X2_allHeat, mI_X2, mK_X2_allHeat, by decide +kernel, by decide +kernel, by decide +kernel⟩
abbrev YX4_init : YX := (cX4_init, 1, RX4, { frames := 1, cells := 7, slots := 1024, locals := 20 }, none, "<init>")
theorem qI_X4_init : MqI yX4_init YX4_init 0 := ⟨mM_X4_init, rfl, mI_X4, mK_X4_init, by decide +kernel, by decide +kernel, by decide +kernel⟩
abbrev YX4_tell : YX := (cX4_tell, 7, RX4, { frames := 4, cells := 0, slots := 0, locals := 93 }, (some .int), "tell")
theorem qV_X4_tell : MqV yX4_tell YX4_tell 4 := ⟨mM_X4_tell, mS_X4_tell, mI_X4, mK_X4_tell, by decide +kernel, by decide +kernel, by decide +kernel⟩
abbrev YX4_in : YX := (cX4_in, 3, RX4, { frames := 0, cells := 0, slots := 0, locals := 0 }, (some .boolean), "in")
theorem qS_X4_in : MqS yX4_in YX4_in 3 := ⟨mT_X4_in, mI_X4, mK_X4_in, by decide +kernel, by decide +kernel, by decide +kernel⟩
abbrev YX4_couldBe : YX := (cX4_couldBe, 10, RX4, { frames := 3, cells := 0, slots := 0, locals := 64 }, (some .boolean), "couldBe")
theorem qV_X4_couldBe : MqV yX4_couldBe YX4_couldBe 4 := ⟨mM_X4_couldBe, mS_X4_couldBe, mI_X4, mK_X4_couldBe, by decide +kernel, by decide +kernel, by decide +kernel⟩
abbrev YX4_lastColumn : YX := (cX4_lastColumn, 2, RX4, { frames := 2, cells := 0, slots := 0, locals := 43 }, (some .int), "lastColumn")
theorem qV_X4_lastColumn : MqV yX4_lastColumn YX4_lastColumn 1 := ⟨mM_X4_lastColumn, mS_X4_lastColumn, mI_X4, mK_X4_lastColumn, by decide +kernel, by decide +kernel, by decide +kernel⟩
abbrev YX4_of : YX := (cX4_of, 3, RX4, { frames := 1, cells := 0, slots := 0, locals := 21 }, (some .int), "of")
theorem qV_X4_of : MqV yX4_of YX4_of 2 := ⟨mM_X4_of, mS_X4_of, mI_X4, mK_X4_of, by decide +kernel, by decide +kernel, by decide +kernel⟩
abbrev YX4_at : YX := (cX4_at, 2, RX4, { frames := 0, cells := 0, slots := 0, locals := 0 }, (some .int), "at")
theorem qS_X4_at : MqS yX4_at YX4_at 2 := ⟨mT_X4_at, mI_X4, mK_X4_at, by decide +kernel, by decide +kernel, by decide +kernel⟩
abbrev YX4_lastRow : YX := (cX4_lastRow, 2, RX4, { frames := 2, cells := 0, slots := 0, locals := 43 }, (some .int), "lastRow")
theorem qV_X4_lastRow : MqV yX4_lastRow YX4_lastRow 1 := ⟨mM_X4_lastRow, mS_X4_lastRow, mI_X4, mK_X4_lastRow, by decide +kernel, by decide +kernel, by decide +kernel⟩
abbrev YX4_isWhole : YX := (cX4_isWhole, 2, RX4, { frames := 2, cells := 0, slots := 0, locals := 43 }, (some .boolean), "isWhole")
theorem qV_X4_isWhole : MqV yX4_isWhole YX4_isWhole 1 := ⟨mM_X4_isWhole, mS_X4_isWhole, mI_X4, mK_X4_isWhole, by decide +kernel, by decide +kernel, by decide +kernel⟩
abbrev YX4_looks : YX := (cX4_looks, 2, RX4, { frames := 0, cells := 0, slots := 0, locals := 0 }, none, "looks")
theorem qV_X4_looks : MqV yX4_looks YX4_looks 0 := ⟨mM_X4_looks, mS_X4_looks, mI_X4, mK_X4_looks, by decide +kernel, by decide +kernel, by decide +kernel⟩
abbrev YX4_records : YX := (cX4_records, 2, RX4, { frames := 0, cells := 0, slots := 0, locals := 0 }, none, "records")
theorem qV_X4_records : MqV yX4_records YX4_records 0 := ⟨mM_X4_records, mS_X4_records, mI_X4, mK_X4_records, by decide +kernel, by decide +kernel, by decide +kernel⟩
abbrev YX4_lays : YX := (cX4_lays, 7, RX4, { frames := 1, cells := 0, slots := 0, locals := 21 }, none, "lays")
theorem qV_X4_lays : MqV yX4_lays YX4_lays 5 := ⟨mM_X4_lays, mS_X4_lays, mI_X4, mK_X4_lays, by decide +kernel, by decide +kernel, by decide +kernel⟩
abbrev YX4_setLead : YX := (cX4_setLead, 3, RX4, { frames := 4, cells := 0, slots := 0, locals := 87 }, (some .int), "setLead")
theorem qV_X4_setLead : MqV yX4_setLead YX4_setLead 2 := ⟨mM_X4_setLead, mS_X4_setLead, mI_X4, mK_X4_setLead, by decide +kernel, by decide +kernel, by decide +kernel⟩
abbrev YX4_leads : YX := (cX4_leads, 4, RX4, { frames := 3, cells := 0, slots := 0, locals := 64 }, (some .int), "leads")
theorem qV_X4_leads : MqV yX4_leads YX4_leads 2 := ⟨mM_X4_leads, mS_X4_leads, mI_X4, mK_X4_leads, by decide +kernel, by decide +kernel, by decide +kernel⟩
abbrev YX4_isShape : YX := (cX4_isShape, 2, RX4, { frames := 1, cells := 0, slots := 0, locals := 22 }, (some .boolean), "isShape")
theorem qV_X4_isShape : MqV yX4_isShape YX4_isShape 1 := ⟨mM_X4_isShape, mS_X4_isShape, mI_X4, mK_X4_isShape, by decide +kernel, by decide +kernel, by decide +kernel⟩
abbrev YX4_acted : YX := (cX4_acted, 2, RX4, { frames := 1, cells := 0, slots := 0, locals := 21 }, (some .int), "acted")
theorem qV_X4_acted : MqV yX4_acted YX4_acted 1 := ⟨mM_X4_acted, mS_X4_acted, mI_X4, mK_X4_acted, by decide +kernel, by decide +kernel, by decide +kernel⟩
abbrev YX4_set : YX := (cX4_set, 4, RX4, { frames := 1, cells := 0, slots := 0, locals := 22 }, (some .int), "set")
theorem qV_X4_set : MqV yX4_set YX4_set 2 := ⟨mM_X4_set, mS_X4_set, mI_X4, mK_X4_set, by decide +kernel, by decide +kernel, by decide +kernel⟩
abbrev YX4_most : YX := (cX4_most, 1, RX4, { frames := 0, cells := 0, slots := 0, locals := 0 }, (some .int), "most")
theorem qS_X4_most : MqS yX4_most YX4_most 1 := ⟨mT_X4_most, mI_X4, mK_X4_most, by decide +kernel, by decide +kernel, by decide +kernel⟩
abbrev YX4_cut : YX := (cX4_cut, 2, RX4, { frames := 8, cells := 0, slots := 0, locals := 180 }, (some .int), "cut")
theorem qV_X4_cut : MqV yX4_cut YX4_cut 1 := ⟨mM_X4_cut, mS_X4_cut, mI_X4, mK_X4_cut, by decide +kernel, by decide +kernel, by decide +kernel⟩
abbrev YX4_cuts : YX := (cX4_cuts, 4, RX4, { frames := 7, cells := 0, slots := 0, locals := 157 }, (some .int), "cuts")
theorem qV_X4_cuts : MqV yX4_cuts YX4_cuts 1 := ⟨mM_X4_cuts, mS_X4_cuts, mI_X4, mK_X4_cuts, by decide +kernel, by decide +kernel, by decide +kernel⟩
abbrev YX4_why : YX := (cX4_why, 2, RX4, { frames := 6, cells := 0, slots := 0, locals := 136 }, (some .int), "why")
theorem qV_X4_why : MqV yX4_why YX4_why 1 := ⟨mM_X4_why, mS_X4_why, mI_X4, mK_X4_why, by decide +kernel, by decide +kernel, by decide +kernel⟩
abbrev YX4_hasWholeInside : YX := (cX4_hasWholeInside, 4, RX4, { frames := 4, cells := 0, slots := 0, locals := 87 }, (some .boolean), "hasWholeInside")
theorem qV_X4_hasWholeInside : MqV yX4_hasWholeInside YX4_hasWholeInside 1 := ⟨mM_X4_hasWholeInside, mS_X4_hasWholeInside, mI_X4, mK_X4_hasWholeInside, by decide +kernel, by decide +kernel, by decide +kernel⟩
abbrev YX4_isInside : YX := (cX4_isInside, 4, RX4, { frames := 3, cells := 0, slots := 0, locals := 64 }, (some .boolean), "isInside")
theorem qV_X4_isInside : MqV yX4_isInside YX4_isInside 2 := ⟨mM_X4_isInside, mS_X4_isInside, mI_X4, mK_X4_isInside, by decide +kernel, by decide +kernel, by decide +kernel⟩
abbrev YX4_going : YX := (cX4_going, 2, RX4, { frames := 4, cells := 0, slots := 0, locals := 85 }, (some .int), "going")
theorem qV_X4_going : MqV yX4_going YX4_going 1 := ⟨mM_X4_going, mS_X4_going, mI_X4, mK_X4_going, by decide +kernel, by decide +kernel, by decide +kernel⟩
abbrev YX4_leadColumn : YX := (cX4_leadColumn, 2, RX4, { frames := 3, cells := 0, slots := 0, locals := 64 }, (some .int), "leadColumn")
theorem qV_X4_leadColumn : MqV yX4_leadColumn YX4_leadColumn 1 := ⟨mM_X4_leadColumn, mS_X4_leadColumn, mI_X4, mK_X4_leadColumn, by decide +kernel, by decide +kernel, by decide +kernel⟩
abbrev YX4_off : YX := (cX4_off, 2, RX4, { frames := 0, cells := 0, slots := 0, locals := 0 }, (some .int), "off")
theorem qS_X4_off : MqS yX4_off YX4_off 2 := ⟨mT_X4_off, mI_X4, mK_X4_off, by decide +kernel, by decide +kernel, by decide +kernel⟩
abbrev YX4_leadRow : YX := (cX4_leadRow, 2, RX4, { frames := 3, cells := 0, slots := 0, locals := 64 }, (some .int), "leadRow")
theorem qV_X4_leadRow : MqV yX4_leadRow YX4_leadRow 1 := ⟨mM_X4_leadRow, mS_X4_leadRow, mI_X4, mK_X4_leadRow, by decide +kernel, by decide +kernel, by decide +kernel⟩
abbrev YX4_isTooHot : YX := (cX4_isTooHot, 5, RX4, { frames := 5, cells := 0, slots := 0, locals := 112 }, (some .boolean), "isTooHot")
theorem qV_X4_isTooHot : MqV yX4_isTooHot YX4_isTooHot 2 := ⟨mM_X4_isTooHot, mS_X4_isTooHot, mI_X4, mK_X4_isTooHot, by decide +kernel, by decide +kernel, by decide +kernel⟩
abbrev YX4_edgeIn : YX := (cX4_edgeIn, 5, RX4, { frames := 4, cells := 0, slots := 0, locals := 88 }, (some .int), "edgeIn")
theorem qV_X4_edgeIn : MqV yX4_edgeIn YX4_edgeIn 2 := ⟨mM_X4_edgeIn, mS_X4_edgeIn, mI_X4, mK_X4_edgeIn, by decide +kernel, by decide +kernel, by decide +kernel⟩
abbrev YX4_isOnEdge : YX := (cX4_isOnEdge, 5, RX4, { frames := 3, cells := 0, slots := 0, locals := 64 }, (some .boolean), "isOnEdge")
theorem qV_X4_isOnEdge : MqV yX4_isOnEdge YX4_isOnEdge 3 := ⟨mM_X4_isOnEdge, mS_X4_isOnEdge, mI_X4, mK_X4_isOnEdge, by decide +kernel, by decide +kernel, by decide +kernel⟩
abbrev YX4_cooled : YX := (cX4_cooled, 2, RX4, { frames := 0, cells := 0, slots := 0, locals := 0 }, (some .int), "cooled")
theorem qS_X4_cooled : MqS yX4_cooled YX4_cooled 2 := ⟨mT_X4_cooled, mI_X4, mK_X4_cooled, by decide +kernel, by decide +kernel, by decide +kernel⟩
abbrev YX4_cools : YX := (cX4_cools, 3, RX4, { frames := 1, cells := 0, slots := 0, locals := 21 }, none, "cools")
theorem qV_X4_cools : MqV yX4_cools YX4_cools 1 := ⟨mM_X4_cools, mS_X4_cools, mI_X4, mK_X4_cools, by decide +kernel, by decide +kernel, by decide +kernel⟩
abbrev YX4_burning : YX := (cX4_burning, 2, RX4, { frames := 3, cells := 0, slots := 0, locals := 64 }, (some .int), "burning")
theorem qV_X4_burning : MqV yX4_burning YX4_burning 1 := ⟨mM_X4_burning, mS_X4_burning, mI_X4, mK_X4_burning, by decide +kernel, by decide +kernel, by decide +kernel⟩
abbrev YX4_edge : YX := (cX4_edge, 2, RX4, { frames := 2, cells := 0, slots := 0, locals := 43 }, (some .int), "edge")
theorem qV_X4_edge : MqV yX4_edge YX4_edge 1 := ⟨mM_X4_edge, mS_X4_edge, mI_X4, mK_X4_edge, by decide +kernel, by decide +kernel, by decide +kernel⟩
abbrev YX4_hottest : YX := (cX4_hottest, 3, RX4, { frames := 0, cells := 0, slots := 0, locals := 0 }, (some .int), "hottest")
theorem qV_X4_hottest : MqV yX4_hottest YX4_hottest 0 := ⟨mM_X4_hottest, mS_X4_hottest, mI_X4, mK_X4_hottest, by decide +kernel, by decide +kernel, by decide +kernel⟩
abbrev YX4_pause : YX := (cX4_pause, 2, RX4, { frames := 3, cells := 0, slots := 0, locals := 64 }, (some .int), "pause")
theorem qV_X4_pause : MqV yX4_pause YX4_pause 1 := ⟨mM_X4_pause, mS_X4_pause, mI_X4, mK_X4_pause, by decide +kernel, by decide +kernel, by decide +kernel⟩
abbrev YX4_waits : YX := (cX4_waits, 2, RX4, { frames := 2, cells := 0, slots := 0, locals := 43 }, (some .int), "waits")
theorem qV_X4_waits : MqV yX4_waits YX4_waits 1 := ⟨mM_X4_waits, mS_X4_waits, mI_X4, mK_X4_waits, by decide +kernel, by decide +kernel, by decide +kernel⟩
abbrev YX4_clean : YX := (cX4_clean, 1, RX4, { frames := 3, cells := 0, slots := 0, locals := 64 }, (some .int), "clean")
theorem qV_X4_clean : MqV yX4_clean YX4_clean 0 := ⟨mM_X4_clean, mS_X4_clean, mI_X4, mK_X4_clean, by decide +kernel, by decide +kernel, by decide +kernel⟩
abbrev YX4_cleans : YX := (cX4_cleans, 2, RX4, { frames := 2, cells := 0, slots := 0, locals := 43 }, (some .int), "cleans")
theorem qV_X4_cleans : MqV yX4_cleans YX4_cleans 0 := ⟨mM_X4_cleans, mS_X4_cleans, mI_X4, mK_X4_cleans, by decide +kernel, by decide +kernel, by decide +kernel⟩
abbrev YX4_type : YX := (cX4_type, 2, RX4, { frames := 0, cells := 0, slots := 0, locals := 0 }, (some .int), "type")
theorem qV_X4_type : MqV yX4_type YX4_type 1 := ⟨mM_X4_type, mS_X4_type, mI_X4, mK_X4_type, by decide +kernel, by decide +kernel, by decide +kernel⟩
abbrev YX4_clearText : YX := (cX4_clearText, 2, RX4, { frames := 0, cells := 0, slots := 0, locals := 0 }, (some .int), "clearText")
theorem qV_X4_clearText : MqV yX4_clearText YX4_clearText 0 := ⟨mM_X4_clearText, mS_X4_clearText, mI_X4, mK_X4_clearText, by decide +kernel, by decide +kernel, by decide +kernel⟩
abbrev YX4_perform : YX := (cX4_perform, 4, RX4, { frames := 10, cells := 0, slots := 0, locals := 225 }, (some .int), "perform")
theorem qV_X4_perform : MqV yX4_perform YX4_perform 0 := ⟨mM_X4_perform, mS_X4_perform, mI_X4, mK_X4_perform, by decide +kernel, by decide +kernel, by decide +kernel⟩
abbrev YX4_runs : YX := (cX4_runs, 6, RX4, { frames := 9, cells := 0, slots := 0, locals := 200 }, (some .int), "runs")
theorem qV_X4_runs : MqV yX4_runs YX4_runs 1 := ⟨mM_X4_runs, mS_X4_runs, mI_X4, mK_X4_runs, by decide +kernel, by decide +kernel, by decide +kernel⟩
abbrev YX4_readThing : YX := (cX4_readThing, 2, RX4, { frames := 3, cells := 0, slots := 0, locals := 69 }, none, "readThing")
theorem qV_X4_readThing : MqV yX4_readThing YX4_readThing 0 := ⟨mM_X4_readThing, mS_X4_readThing, mI_X4, mK_X4_readThing, by decide +kernel, by decide +kernel, by decide +kernel⟩
abbrev YX4_takesNumber : YX := (cX4_takesNumber, 5, RX4, { frames := 2, cells := 0, slots := 0, locals := 45 }, (some .int), "takesNumber")
theorem qV_X4_takesNumber : MqV yX4_takesNumber YX4_takesNumber 2 := ⟨mM_X4_takesNumber, mS_X4_takesNumber, mI_X4, mK_X4_takesNumber, by decide +kernel, by decide +kernel, by decide +kernel⟩
abbrev YX4_takesOne : YX := (cX4_takesOne, 4, RX4, { frames := 1, cells := 0, slots := 0, locals := 22 }, (some .int), "takesOne")
theorem qV_X4_takesOne : MqV yX4_takesOne YX4_takesOne 2 := ⟨mM_X4_takesOne, mS_X4_takesOne, mI_X4, mK_X4_takesOne, by decide +kernel, by decide +kernel, by decide +kernel⟩
abbrev YX4_isNext : YX := (cX4_isNext, 3, RX4, { frames := 1, cells := 0, slots := 0, locals := 22 }, (some .boolean), "isNext")
theorem qV_X4_isNext : MqV yX4_isNext YX4_isNext 2 := ⟨mM_X4_isNext, mS_X4_isNext, mI_X4, mK_X4_isNext, by decide +kernel, by decide +kernel, by decide +kernel⟩
abbrev YX4_does : YX := (cX4_does, 1, RX4, { frames := 8, cells := 0, slots := 0, locals := 180 }, (some .int), "does")
theorem qV_X4_does : MqV yX4_does YX4_does 0 := ⟨mM_X4_does, mS_X4_does, mI_X4, mK_X4_does, by decide +kernel, by decide +kernel, by decide +kernel⟩
abbrev YX4_stopped : YX := (cX4_stopped, 2, RX4, { frames := 0, cells := 0, slots := 0, locals := 0 }, (some .int), "stopped")
theorem qV_X4_stopped : MqV yX4_stopped YX4_stopped 1 := ⟨mM_X4_stopped, mS_X4_stopped, mI_X4, mK_X4_stopped, by decide +kernel, by decide +kernel, by decide +kernel⟩
abbrev YX4_undo : YX := (cX4_undo, 2, RX4, { frames := 0, cells := 0, slots := 0, locals := 0 }, (some .int), "undo")
theorem qV_X4_undo : MqV yX4_undo YX4_undo 0 := ⟨mM_X4_undo, mS_X4_undo, mI_X4, mK_X4_undo, by decide +kernel, by decide +kernel, by decide +kernel⟩
abbrev YX4_keep : YX := (cX4_keep, 2, RX4, { frames := 0, cells := 0, slots := 0, locals := 0 }, (some .int), "keep")
theorem qV_X4_keep : MqV yX4_keep YX4_keep 0 := ⟨mM_X4_keep, mS_X4_keep, mI_X4, mK_X4_keep, by decide +kernel, by decide +kernel, by decide +kernel⟩
abbrev YX4_restore : YX := (cX4_restore, 2, RX4, { frames := 1, cells := 0, slots := 0, locals := 21 }, (some .int), "restore")
theorem qV_X4_restore : MqV yX4_restore YX4_restore 0 := ⟨mM_X4_restore, mS_X4_restore, mI_X4, mK_X4_restore, by decide +kernel, by decide +kernel, by decide +kernel⟩
abbrev YX4_shape : YX := (cX4_shape, 3, RX4, { frames := 5, cells := 0, slots := 0, locals := 110 }, (some .int), "shape")
theorem qV_X4_shape : MqV yX4_shape YX4_shape 2 := ⟨mM_X4_shape, mS_X4_shape, mI_X4, mK_X4_shape, by decide +kernel, by decide +kernel, by decide +kernel⟩
abbrev YX4_outer : YX := (cX4_outer, 4, RX4, { frames := 4, cells := 0, slots := 0, locals := 87 }, (some .int), "outer")
theorem qV_X4_outer : MqV yX4_outer YX4_outer 1 := ⟨mM_X4_outer, mS_X4_outer, mI_X4, mK_X4_outer, by decide +kernel, by decide +kernel, by decide +kernel⟩
abbrev YX4_inner : YX := (cX4_inner, 4, RX4, { frames := 4, cells := 0, slots := 0, locals := 87 }, (some .int), "inner")
theorem qV_X4_inner : MqV yX4_inner YX4_inner 1 := ⟨mM_X4_inner, mS_X4_inner, mI_X4, mK_X4_inner, by decide +kernel, by decide +kernel, by decide +kernel⟩
abbrev YX4_heat : YX := (cX4_heat, 2, RX4, { frames := 1, cells := 0, slots := 0, locals := 22 }, (some .int), "heat")
theorem qV_X4_heat : MqV yX4_heat YX4_heat 1 := ⟨mM_X4_heat, mS_X4_heat, mI_X4, mK_X4_heat, by decide +kernel, by decide +kernel, by decide +kernel⟩
abbrev YX4_reason : YX := (cX4_reason, 2, RX4, { frames := 7, cells := 0, slots := 0, locals := 157 }, (some .int), "reason")
theorem qV_X4_reason : MqV yX4_reason YX4_reason 1 := ⟨mM_X4_reason, mS_X4_reason, mI_X4, mK_X4_reason, by decide +kernel, by decide +kernel, by decide +kernel⟩
abbrev YX4_takes : YX := (cX4_takes, 2, RX4, { frames := 6, cells := 0, slots := 0, locals := 127 }, (some .int), "takes")
theorem qV_X4_takes : MqV yX4_takes YX4_takes 1 := ⟨mM_X4_takes, mS_X4_takes, mI_X4, mK_X4_takes, by decide +kernel, by decide +kernel, by decide +kernel⟩
abbrev YX4_ticksOf : YX := (cX4_ticksOf, 2, RX4, { frames := 5, cells := 0, slots := 0, locals := 106 }, (some .int), "ticksOf")
theorem qV_X4_ticksOf : MqV yX4_ticksOf YX4_ticksOf 1 := ⟨mM_X4_ticksOf, mS_X4_ticksOf, mI_X4, mK_X4_ticksOf, by decide +kernel, by decide +kernel, by decide +kernel⟩
abbrev YX4_coolsIn : YX := (cX4_coolsIn, 2, RX4, { frames := 7, cells := 0, slots := 0, locals := 157 }, (some .int), "coolsIn")
theorem qV_X4_coolsIn : MqV yX4_coolsIn YX4_coolsIn 1 := ⟨mM_X4_coolsIn, mS_X4_coolsIn, mI_X4, mK_X4_coolsIn, by decide +kernel, by decide +kernel, by decide +kernel⟩
abbrev YX4_waitFor : YX := (cX4_waitFor, 6, RX4, { frames := 5, cells := 0, slots := 0, locals := 112 }, (some .int), "waitFor")
theorem qV_X4_waitFor : MqV yX4_waitFor YX4_waitFor 1 := ⟨mM_X4_waitFor, mS_X4_waitFor, mI_X4, mK_X4_waitFor, by decide +kernel, by decide +kernel, by decide +kernel⟩
abbrev YX4_best : YX := (cX4_best, 1, RX4, { frames := 8, cells := 0, slots := 0, locals := 179 }, (some .int), "best")
theorem qV_X4_best : MqV yX4_best YX4_best 0 := ⟨mM_X4_best, mS_X4_best, mI_X4, mK_X4_best, by decide +kernel, by decide +kernel, by decide +kernel⟩
abbrev YX4_bestOne : YX := (cX4_bestOne, 3, RX4, { frames := 7, cells := 0, slots := 0, locals := 157 }, (some .int), "bestOne")
theorem qV_X4_bestOne : MqV yX4_bestOne YX4_bestOne 0 := ⟨mM_X4_bestOne, mS_X4_bestOne, mI_X4, mK_X4_bestOne, by decide +kernel, by decide +kernel, by decide +kernel⟩
abbrev YX4_ordered : YX := (cX4_ordered, 2, RX4, { frames := 9, cells := 0, slots := 0, locals := 204 }, (some .int), "ordered")
theorem qV_X4_ordered : MqV yX4_ordered YX4_ordered 1 := ⟨mM_X4_ordered, mS_X4_ordered, mI_X4, mK_X4_ordered, by decide +kernel, by decide +kernel, by decide +kernel⟩
abbrev YX4_layOrder : YX := (cX4_layOrder, 5, RX4, { frames := 8, cells := 0, slots := 0, locals := 180 }, none, "layOrder")
theorem qV_X4_layOrder : MqV yX4_layOrder YX4_layOrder 0 := ⟨mM_X4_layOrder, mS_X4_layOrder, mI_X4, mK_X4_layOrder, by decide +kernel, by decide +kernel, by decide +kernel⟩
abbrev YX4_putAside : YX := (cX4_putAside, 2, RX4, { frames := 0, cells := 0, slots := 0, locals := 0 }, none, "putAside")
theorem qV_X4_putAside : MqV yX4_putAside YX4_putAside 0 := ⟨mM_X4_putAside, mS_X4_putAside, mI_X4, mK_X4_putAside, by decide +kernel, by decide +kernel, by decide +kernel⟩
abbrev YX4_soonest : YX := (cX4_soonest, 4, RX4, { frames := 7, cells := 0, slots := 0, locals := 157 }, (some .int), "soonest")
theorem qV_X4_soonest : MqV yX4_soonest YX4_soonest 0 := ⟨mM_X4_soonest, mS_X4_soonest, mI_X4, mK_X4_soonest, by decide +kernel, by decide +kernel, by decide +kernel⟩
abbrev YX4_many : YX := (cX4_many, 4, RX4, { frames := 2, cells := 0, slots := 0, locals := 43 }, (some .int), "many")
theorem qV_X4_many : MqV yX4_many YX4_many 1 := ⟨mM_X4_many, mS_X4_many, mI_X4, mK_X4_many, by decide +kernel, by decide +kernel, by decide +kernel⟩
abbrev YX4_putBack : YX := (cX4_putBack, 2, RX4, { frames := 0, cells := 0, slots := 0, locals := 0 }, none, "putBack")
theorem qV_X4_putBack : MqV yX4_putBack YX4_putBack 0 := ⟨mM_X4_putBack, mS_X4_putBack, mI_X4, mK_X4_putBack, by decide +kernel, by decide +kernel, by decide +kernel⟩
abbrev YX4_allTakes : YX := (cX4_allTakes, 1, RX4, { frames := 9, cells := 0, slots := 0, locals := 204 }, (some .int), "allTakes")
theorem qV_X4_allTakes : MqV yX4_allTakes YX4_allTakes 0 := ⟨mM_X4_allTakes, mS_X4_allTakes, mI_X4, mK_X4_allTakes, by decide +kernel, by decide +kernel, by decide +kernel⟩
abbrev YX4_count : YX := (cX4_count, 2, RX4, { frames := 3, cells := 0, slots := 0, locals := 66 }, (some .int), "count")
theorem qV_X4_count : MqV yX4_count YX4_count 1 := ⟨mM_X4_count, mS_X4_count, mI_X4, mK_X4_count, by decide +kernel, by decide +kernel, by decide +kernel⟩
abbrev YX4_tilted : YX := (cX4_tilted, 3, RX4, { frames := 2, cells := 0, slots := 0, locals := 43 }, (some .int), "tilted")
theorem qV_X4_tilted : MqV yX4_tilted YX4_tilted 0 := ⟨mM_X4_tilted, mS_X4_tilted, mI_X4, mK_X4_tilted, by decide +kernel, by decide +kernel, by decide +kernel⟩
abbrev YX4_hottestSquare : YX := (cX4_hottestSquare, 3, RX4, { frames := 1, cells := 0, slots := 0, locals := 22 }, (some .int), "hottestSquare")
theorem qV_X4_hottestSquare : MqV yX4_hottestSquare YX4_hottestSquare 0 := ⟨mM_X4_hottestSquare, mS_X4_hottestSquare, mI_X4, mK_X4_hottestSquare, by decide +kernel, by decide +kernel, by decide +kernel⟩
abbrev YX4_allHeat : YX := (cX4_allHeat, 3, RX4, { frames := 0, cells := 0, slots := 0, locals := 0 }, (some .int), "allHeat")
theorem qV_X4_allHeat : MqV yX4_allHeat YX4_allHeat 0 := ⟨mM_X4_allHeat, mS_X4_allHeat, mI_X4, mK_X4_allHeat, by decide +kernel, by decide +kernel, by decide +kernel⟩
end
section
/-! calls over the state: the answer and the state behind it told by name -/
section TCALLS
variable {G : GX} {y : YX} {E : State → Prop} {Z : ZX} {pc : Nat} {l : List (Nat × Value)} {stk : List Value} {ck sk : Nat}
variable {S S' : Nat → Sh} {B B' : Bc} {M M' : Md}
theorem x_back {n : Nat} {cs : Nat → va_E} {l' : List (Nat × Value)} (kk : XJ G y E Z pc l' stk n cs ck sk) (h : lsub l' l) : XJ G y E Z pc l stk n cs ck sk := x_sub h kk
theorem t_Vi {ynm : MethodName} {yc : YX} {idx o ci : Nat} {fs As rest : List Value} {T : u_T} {N : Nat} {w : Int32} (hM : Cs G ynm yc (.ref (gB G + o) :: As) S B M (some (.int w)) S' B' M') (hq : MqV ynm yc As.length) (hlink : Cond.methodLink y.2.2.1 idx ynm ∈ WS) (hd : decode y.1 pc = .ok (.invokevirtual idx, 3)) (hstk : stk = As.reverse ++ .ref (gB G + o) :: rest) (hcell : cellOf G S B M o = .inr (ci, fs)) (ho : o < 255) (hc : vwCl[ci]? = some (ynm.cls, T, N)) (hrc : yc.2.2.2.1.cells = 0) (hrs : yc.2.2.2.1.slots = 0) (hR : yc.2.2.2.1.frames + 1 ≤ y.2.2.2.1.frames ∧ 8 + (yc.2.1 + 11) + yc.2.2.2.1.locals ≤ y.2.2.2.1.locals) (hW : (rest.map fun v => v.category).sum ≤ 8) (h1 : ck ≤ y.2.2.2.1.cells) (h2 : sk ≤ y.2.2.2.1.slots)
    (kk : XJ G y E Z (pc + 3) l (.int w :: rest) 255 (cellOf G S' B' M') ck sk) : XJ G y E Z pc l stk 255 (cellOf G S B M) ck sk :=
  x_callV hM hq hlink hd hstk hcell ho hc hrc hrs hR hW h1 h2 (fun v n' cs' h => by obtain ⟨rfl, rfl, rfl⟩ := h; exact kk)
theorem t_Vv {ynm : MethodName} {yc : YX} {idx o ci : Nat} {fs As rest : List Value} {T : u_T} {N : Nat} (hM : Cs G ynm yc (.ref (gB G + o) :: As) S B M none S' B' M') (hq : MqV ynm yc As.length) (hlink : Cond.methodLink y.2.2.1 idx ynm ∈ WS) (hd : decode y.1 pc = .ok (.invokevirtual idx, 3)) (hstk : stk = As.reverse ++ .ref (gB G + o) :: rest) (hcell : cellOf G S B M o = .inr (ci, fs)) (ho : o < 255) (hc : vwCl[ci]? = some (ynm.cls, T, N)) (hrc : yc.2.2.2.1.cells = 0) (hrs : yc.2.2.2.1.slots = 0) (hR : yc.2.2.2.1.frames + 1 ≤ y.2.2.2.1.frames ∧ 8 + (yc.2.1 + 11) + yc.2.2.2.1.locals ≤ y.2.2.2.1.locals) (hW : (rest.map fun v => v.category).sum ≤ 8) (h1 : ck ≤ y.2.2.2.1.cells) (h2 : sk ≤ y.2.2.2.1.slots)
    (kk : XJ G y E Z (pc + 3) l rest 255 (cellOf G S' B' M') ck sk) : XJ G y E Z pc l stk 255 (cellOf G S B M) ck sk :=
  x_callV hM hq hlink hd hstk hcell ho hc hrc hrs hR hW h1 h2 (fun v n' cs' h => by obtain ⟨rfl, rfl, rfl⟩ := h; exact kk)
theorem t_Si {ynm : MethodName} {yc : YX} {idx : Nat} {As rest : List Value} {w : Int32} (hM : Cs G ynm yc As S B M (some (.int w)) S' B' M') (hq : MqS ynm yc As.length) (hlink : Cond.methodLink y.2.2.1 idx ynm ∈ WS) (hd : decode y.1 pc = .ok (.invokestatic idx, 3)) (hstk : stk = As.reverse ++ rest) (hrc : yc.2.2.2.1.cells = 0) (hrs : yc.2.2.2.1.slots = 0) (hR : yc.2.2.2.1.frames + 1 ≤ y.2.2.2.1.frames ∧ 8 + (yc.2.1 + 11) + yc.2.2.2.1.locals ≤ y.2.2.2.1.locals) (hW : (rest.map fun v => v.category).sum ≤ 8) (h1 : ck ≤ y.2.2.2.1.cells) (h2 : sk ≤ y.2.2.2.1.slots)
    (kk : XJ G y E Z (pc + 3) l (.int w :: rest) 255 (cellOf G S' B' M') ck sk) : XJ G y E Z pc l stk 255 (cellOf G S B M) ck sk :=
  x_callS hM hq hlink hd hstk hrc hrs hR hW h1 h2 (fun v n' cs' h => by obtain ⟨rfl, rfl, rfl⟩ := h; exact kk)
theorem t_Ni {ynm : MethodName} {yc : YX} {idx : Nat} {As rest : List Value} {w : Int32} {host : String} (hM : Cs G ynm yc As S B M (some (.int w)) S' B' M') (hq : MqS ynm yc As.length) (hlink : ∀ s, Kx G s → va_Nw (.methodLinkNest y.2.2.1 idx ynm host) s) (hd : decode y.1 pc = .ok (.invokestatic idx, 3)) (hstk : stk = As.reverse ++ rest) (hrc : yc.2.2.2.1.cells = 0) (hrs : yc.2.2.2.1.slots = 0) (hR : yc.2.2.2.1.frames + 1 ≤ y.2.2.2.1.frames ∧ 8 + (yc.2.1 + 11) + yc.2.2.2.1.locals ≤ y.2.2.2.1.locals) (hW : (rest.map fun v => v.category).sum ≤ 8) (h1 : ck ≤ y.2.2.2.1.cells) (h2 : sk ≤ y.2.2.2.1.slots)
    (kk : XJ G y E Z (pc + 3) l (.int w :: rest) 255 (cellOf G S' B' M') ck sk) : XJ G y E Z pc l stk 255 (cellOf G S B M) ck sk :=
  x_callN hM hq hlink hd hstk hrc hrs hR hW h1 h2 (fun v n' cs' h => by obtain ⟨rfl, rfl, rfl⟩ := h; exact kk)
end TCALLS
/-! numbers -/
def imx (a b : Int32) : Int32 := if a < b then b else a
def imn (a b : Int32) : Int32 := if b < a then b else a
def iab (a : Int32) : Int32 := if 0 ≤ a then a else 0 - a
def bI (b : Bool) : Int32 := if b then 1 else 0
def b01 (b : Bool) : Int32 := if b then 1 else 0
def betw (v a b : Int32) : Bool := !decide (v < a) && !decide (b < v)
theorem not_lt' {a b : Int32} (h : ¬ a < b) : b ≤ a := Int32.not_lt.mp h
theorem inc_nI (k : Nat) : nI k + 1 = nI (k + 1) := nI_1 k
theorem lt_nI {a b : Nat} (ha : a < 2 ^ 31) (hb : b < 2 ^ 31) : nI a < nI b ↔ a < b := nI_ltI ha hb
end
section
/-! the class: isIn, Shape (rows laid by wip/whole/p10.py) -/
section SHAPE
variable {G : GX} {S : Nat → Sh} {B : Bc} {M : Md} {j i : Nat} {σ : Sh}

def insB (f g : Fs) : Bool := decide (g 0 < f 0) && decide (f 0 + f 2 < g 0 + g 2) && decide (g 1 < f 1) && decide (f 1 + f 3 < g 1 + g 3)
def apaB (f g : Fs) : Bool := !decide (g 0 < f 0 + f 2) || !decide (f 0 < g 0 + g 2) || !decide (g 1 < f 1 + f 3) || !decide (f 1 < g 1 + g 3)
def edgV (f : Fs) : Int32 := 2 * (f 2 + f 3) - 4
def lcV (f : Fs) : Int32 := if f 4 = 1 ∨ f 4 = 2 then f 0 + f 2 - 1 else f 0
def lrV (f : Fs) : Int32 := if f 4 = 2 ∨ f 4 = 3 then f 1 + f 3 - 1 else f 1
def lsV (f : Fs) : Int32 := lcV f / 8 + 4 * (lrV f / 8)
def fcV (f : Fs) (q m : Int32) : Int32 := imn (f 0 + f 2 - m) ((q - q / 4 * 4) * 8 + 8) - imx (f 0 + m) ((q - q / 4 * 4) * 8)
def frV (f : Fs) (q m : Int32) : Int32 := imn (f 1 + f 3 - m) (q / 4 * 8 + 8) - imx (f 1 + m) (q / 4 * 8)
def fldV (f : Fs) (q m : Int32) : Int32 := imx (fcV f q m) 0 * imx (frV f q m) 0
def edgQ (f : Fs) (k : Nat) : Int32 := fldV f (nI k) 0 - fldV f (nI k) 1
set_option maxHeartbeats 4000000 in
set_option maxRecDepth 100000 in
theorem c_X3_isIn (v a b : Int32) : Ct G yX3_isIn YX3_isIn 0 0 [.int v, .int a, .int b] 255 (cellOf G S B M) (Rt G (some (.int (b01 (betw v a b)))) S B M) := by
  refine ct_of (by decide +kernel) rfl rfl (Nat.le_of_ble_eq_true rfl) (by simp [Value.category]) ?_
  refine x_sub (l' := [(0, .int v), (1, .int a), (2, .int b)]) ⟨rfl, rfl, rfl, trivial⟩ ?_
  refine x_iload_n (pc := 0) dX3_isIn_0 rfl ?_
  refine x_iload_n (pc := 1) dX3_isIn_1 rfl ?_
  refine x_cmplt (pc := 2) 14 dX3_isIn_2 (by decide) (fun c2 => ?_) (fun c2 => ?_)
  · refine x_iconst (pc := 14) (0) dX3_isIn_14 (by decide) ?_
    exact x_zret rfl rfl dX3_isIn_15 ⟨by simp only [b01, betw, *, decide_true, decide_false, decide_not, Bool.and_true, Bool.true_and, Bool.and_false, Bool.false_and, Bool.or_true, Bool.true_or, Bool.or_false, Bool.false_or, Bool.not_true, Bool.not_false, if_true, if_false, not_true, not_false_eq_true, not_false_iff, Bool.false_eq_true, reduceIte, or_true, true_or, or_false, false_or, and_true, true_and, and_false, false_and, ite_self], rfl, rfl⟩
  · refine x_iload_n (pc := 5) dX3_isIn_5 rfl ?_
    refine x_iload_n (pc := 6) dX3_isIn_6 rfl ?_
    refine x_cmpgt (pc := 7) 14 dX3_isIn_7 (by decide) (fun c7 => ?_) (fun c7 => ?_)
    · refine x_iconst (pc := 14) (0) dX3_isIn_14 (by decide) ?_
      exact x_zret rfl rfl dX3_isIn_15 ⟨by simp only [b01, betw, *, decide_true, decide_false, decide_not, Bool.and_true, Bool.true_and, Bool.and_false, Bool.false_and, Bool.or_true, Bool.true_or, Bool.or_false, Bool.false_or, Bool.not_true, Bool.not_false, if_true, if_false, not_true, not_false_eq_true, not_false_iff, Bool.false_eq_true, reduceIte, or_true, true_or, or_false, false_or, and_true, true_and, and_false, false_and, ite_self], rfl, rfl⟩
    · refine x_iconst (pc := 10) (1) dX3_isIn_10 (by decide) ?_
      refine x_goto (pc := 11) 15 dX3_isIn_11 (by decide) ?_
      exact x_zret rfl rfl dX3_isIn_15 ⟨by simp only [b01, betw, *, decide_true, decide_false, decide_not, Bool.and_true, Bool.true_and, Bool.and_false, Bool.false_and, Bool.or_true, Bool.true_or, Bool.or_false, Bool.false_or, Bool.not_true, Bool.not_false, if_true, if_false, not_true, not_false_eq_true, not_false_iff, Bool.false_eq_true, reduceIte, or_true, true_or, or_false, false_or, and_true, true_and, and_false, false_and, ite_self], rfl, rfl⟩
set_option maxHeartbeats 4000000 in
set_option maxRecDepth 100000 in
theorem c_X1_isInside {i2 : Nat} (hj : j < 8) (hi : i < 13) (hi2 : i2 < 13) : Ct G yX1_isInside YX1_isInside 0 0 [.ref (gB G + shO j i), .ref (gB G + shO j i2)] 255 (cellOf G (updS S j σ) B M) (Rt G (some (.int (b01 (insB (σ.2.2.2.1 i) (σ.2.2.2.1 i2))))) (updS S j σ) B M) := by
  refine ct_of (by decide +kernel) rfl rfl (Nat.le_of_ble_eq_true rfl) (by simp [Value.category]) ?_
  refine x_sub (l' := [(0, .ref (gB G + shO j i)), (1, .ref (gB G + shO j i2))]) ⟨rfl, rfl, trivial⟩ ?_
  refine x_aload_n (pc := 0) dX1_isInside_0 rfl ?_
  refine x_get (pc := 1) (ci := 1) (k := 0) (C := RX1) (T := TX1) (N := 9) (cell_shape (by first | assumption | omega) (by first | assumption | omega)) rfl (shO_255 (by first | assumption | omega) (by first | assumption | omega)) rfl nX1 (by decide) mF_X1_9 rfl dX1_isInside_1 ?_
  refine x_aload_n (pc := 4) dX1_isInside_4 rfl ?_
  refine x_get (pc := 5) (ci := 1) (k := 0) (C := RX1) (T := TX1) (N := 9) (cell_shape (by first | assumption | omega) (by first | assumption | omega)) rfl (shO_255 (by first | assumption | omega) (by first | assumption | omega)) rfl nX1 (by decide) mF_X1_9 rfl dX1_isInside_5 ?_
  refine x_cmple (pc := 8) 68 dX1_isInside_8 (by decide) (fun c8 => ?_) (fun c8 => ?_)
  · refine x_iconst (pc := 68) (0) dX1_isInside_68 (by decide) ?_
    exact x_zret rfl rfl dX1_isInside_69 ⟨by simp only [b01, insB, *, decide_true, decide_false, decide_not, Bool.and_true, Bool.true_and, Bool.and_false, Bool.false_and, Bool.or_true, Bool.true_or, Bool.or_false, Bool.false_or, Bool.not_true, Bool.not_false, if_true, if_false, not_true, not_false_eq_true, not_false_iff, Bool.false_eq_true, reduceIte, or_true, true_or, or_false, false_or, and_true, true_and, and_false, false_and, ite_self], rfl, rfl⟩
  · refine x_aload_n (pc := 11) dX1_isInside_11 rfl ?_
    refine x_get (pc := 12) (ci := 1) (k := 0) (C := RX1) (T := TX1) (N := 9) (cell_shape (by first | assumption | omega) (by first | assumption | omega)) rfl (shO_255 (by first | assumption | omega) (by first | assumption | omega)) rfl nX1 (by decide) mF_X1_9 rfl dX1_isInside_12 ?_
    refine x_aload_n (pc := 15) dX1_isInside_15 rfl ?_
    refine x_get (pc := 16) (ci := 1) (k := 2) (C := RX1) (T := TX1) (N := 9) (cell_shape (by first | assumption | omega) (by first | assumption | omega)) rfl (shO_255 (by first | assumption | omega) (by first | assumption | omega)) rfl nX1 (by decide) mF_X1_18 rfl dX1_isInside_16 ?_
    refine x_iadd (pc := 19) dX1_isInside_19 ?_
    refine x_aload_n (pc := 20) dX1_isInside_20 rfl ?_
    refine x_get (pc := 21) (ci := 1) (k := 0) (C := RX1) (T := TX1) (N := 9) (cell_shape (by first | assumption | omega) (by first | assumption | omega)) rfl (shO_255 (by first | assumption | omega) (by first | assumption | omega)) rfl nX1 (by decide) mF_X1_9 rfl dX1_isInside_21 ?_
    refine x_aload_n (pc := 24) dX1_isInside_24 rfl ?_
    refine x_get (pc := 25) (ci := 1) (k := 2) (C := RX1) (T := TX1) (N := 9) (cell_shape (by first | assumption | omega) (by first | assumption | omega)) rfl (shO_255 (by first | assumption | omega) (by first | assumption | omega)) rfl nX1 (by decide) mF_X1_18 rfl dX1_isInside_25 ?_
    refine x_iadd (pc := 28) dX1_isInside_28 ?_
    refine x_cmpge (pc := 29) 68 dX1_isInside_29 (by decide) (fun c29 => ?_) (fun c29 => ?_)
    · refine x_iconst (pc := 68) (0) dX1_isInside_68 (by decide) ?_
      exact x_zret rfl rfl dX1_isInside_69 ⟨by simp only [b01, insB, *, decide_true, decide_false, decide_not, Bool.and_true, Bool.true_and, Bool.and_false, Bool.false_and, Bool.or_true, Bool.true_or, Bool.or_false, Bool.false_or, Bool.not_true, Bool.not_false, if_true, if_false, not_true, not_false_eq_true, not_false_iff, Bool.false_eq_true, reduceIte, or_true, true_or, or_false, false_or, and_true, true_and, and_false, false_and, ite_self], rfl, rfl⟩
    · refine x_aload_n (pc := 32) dX1_isInside_32 rfl ?_
      refine x_get (pc := 33) (ci := 1) (k := 1) (C := RX1) (T := TX1) (N := 9) (cell_shape (by first | assumption | omega) (by first | assumption | omega)) rfl (shO_255 (by first | assumption | omega) (by first | assumption | omega)) rfl nX1 (by decide) mF_X1_15 rfl dX1_isInside_33 ?_
      refine x_aload_n (pc := 36) dX1_isInside_36 rfl ?_
      refine x_get (pc := 37) (ci := 1) (k := 1) (C := RX1) (T := TX1) (N := 9) (cell_shape (by first | assumption | omega) (by first | assumption | omega)) rfl (shO_255 (by first | assumption | omega) (by first | assumption | omega)) rfl nX1 (by decide) mF_X1_15 rfl dX1_isInside_37 ?_
      refine x_cmple (pc := 40) 68 dX1_isInside_40 (by decide) (fun c40 => ?_) (fun c40 => ?_)
      · refine x_iconst (pc := 68) (0) dX1_isInside_68 (by decide) ?_
        exact x_zret rfl rfl dX1_isInside_69 ⟨by simp only [b01, insB, *, decide_true, decide_false, decide_not, Bool.and_true, Bool.true_and, Bool.and_false, Bool.false_and, Bool.or_true, Bool.true_or, Bool.or_false, Bool.false_or, Bool.not_true, Bool.not_false, if_true, if_false, not_true, not_false_eq_true, not_false_iff, Bool.false_eq_true, reduceIte, or_true, true_or, or_false, false_or, and_true, true_and, and_false, false_and, ite_self], rfl, rfl⟩
      · refine x_aload_n (pc := 43) dX1_isInside_43 rfl ?_
        refine x_get (pc := 44) (ci := 1) (k := 1) (C := RX1) (T := TX1) (N := 9) (cell_shape (by first | assumption | omega) (by first | assumption | omega)) rfl (shO_255 (by first | assumption | omega) (by first | assumption | omega)) rfl nX1 (by decide) mF_X1_15 rfl dX1_isInside_44 ?_
        refine x_aload_n (pc := 47) dX1_isInside_47 rfl ?_
        refine x_get (pc := 48) (ci := 1) (k := 3) (C := RX1) (T := TX1) (N := 9) (cell_shape (by first | assumption | omega) (by first | assumption | omega)) rfl (shO_255 (by first | assumption | omega) (by first | assumption | omega)) rfl nX1 (by decide) mF_X1_21 rfl dX1_isInside_48 ?_
        refine x_iadd (pc := 51) dX1_isInside_51 ?_
        refine x_aload_n (pc := 52) dX1_isInside_52 rfl ?_
        refine x_get (pc := 53) (ci := 1) (k := 1) (C := RX1) (T := TX1) (N := 9) (cell_shape (by first | assumption | omega) (by first | assumption | omega)) rfl (shO_255 (by first | assumption | omega) (by first | assumption | omega)) rfl nX1 (by decide) mF_X1_15 rfl dX1_isInside_53 ?_
        refine x_aload_n (pc := 56) dX1_isInside_56 rfl ?_
        refine x_get (pc := 57) (ci := 1) (k := 3) (C := RX1) (T := TX1) (N := 9) (cell_shape (by first | assumption | omega) (by first | assumption | omega)) rfl (shO_255 (by first | assumption | omega) (by first | assumption | omega)) rfl nX1 (by decide) mF_X1_21 rfl dX1_isInside_57 ?_
        refine x_iadd (pc := 60) dX1_isInside_60 ?_
        refine x_cmpge (pc := 61) 68 dX1_isInside_61 (by decide) (fun c61 => ?_) (fun c61 => ?_)
        · refine x_iconst (pc := 68) (0) dX1_isInside_68 (by decide) ?_
          exact x_zret rfl rfl dX1_isInside_69 ⟨by simp only [b01, insB, *, decide_true, decide_false, decide_not, Bool.and_true, Bool.true_and, Bool.and_false, Bool.false_and, Bool.or_true, Bool.true_or, Bool.or_false, Bool.false_or, Bool.not_true, Bool.not_false, if_true, if_false, not_true, not_false_eq_true, not_false_iff, Bool.false_eq_true, reduceIte, or_true, true_or, or_false, false_or, and_true, true_and, and_false, false_and, ite_self], rfl, rfl⟩
        · refine x_iconst (pc := 64) (1) dX1_isInside_64 (by decide) ?_
          refine x_goto (pc := 65) 69 dX1_isInside_65 (by decide) ?_
          exact x_zret rfl rfl dX1_isInside_69 ⟨by simp only [b01, insB, *, decide_true, decide_false, decide_not, Bool.and_true, Bool.true_and, Bool.and_false, Bool.false_and, Bool.or_true, Bool.true_or, Bool.or_false, Bool.false_or, Bool.not_true, Bool.not_false, if_true, if_false, not_true, not_false_eq_true, not_false_iff, Bool.false_eq_true, reduceIte, or_true, true_or, or_false, false_or, and_true, true_and, and_false, false_and, ite_self], rfl, rfl⟩
set_option maxHeartbeats 4000000 in
set_option maxRecDepth 100000 in
theorem c_X1_isApartFrom {i2 : Nat} (hj : j < 8) (hi : i < 13) (hi2 : i2 < 13) : Ct G yX1_isApartFrom YX1_isApartFrom 0 0 [.ref (gB G + shO j i), .ref (gB G + shO j i2)] 255 (cellOf G (updS S j σ) B M) (Rt G (some (.int (b01 (apaB (σ.2.2.2.1 i) (σ.2.2.2.1 i2))))) (updS S j σ) B M) := by
  refine ct_of (by decide +kernel) rfl rfl (Nat.le_of_ble_eq_true rfl) (by simp [Value.category]) ?_
  refine x_sub (l' := [(0, .ref (gB G + shO j i)), (1, .ref (gB G + shO j i2))]) ⟨rfl, rfl, trivial⟩ ?_
  refine x_aload_n (pc := 0) dX1_isApartFrom_0 rfl ?_
  refine x_get (pc := 1) (ci := 1) (k := 0) (C := RX1) (T := TX1) (N := 9) (cell_shape (by first | assumption | omega) (by first | assumption | omega)) rfl (shO_255 (by first | assumption | omega) (by first | assumption | omega)) rfl nX1 (by decide) mF_X1_9 rfl dX1_isApartFrom_1 ?_
  refine x_aload_n (pc := 4) dX1_isApartFrom_4 rfl ?_
  refine x_get (pc := 5) (ci := 1) (k := 2) (C := RX1) (T := TX1) (N := 9) (cell_shape (by first | assumption | omega) (by first | assumption | omega)) rfl (shO_255 (by first | assumption | omega) (by first | assumption | omega)) rfl nX1 (by decide) mF_X1_18 rfl dX1_isApartFrom_5 ?_
  refine x_iadd (pc := 8) dX1_isApartFrom_8 ?_
  refine x_aload_n (pc := 9) dX1_isApartFrom_9 rfl ?_
  refine x_get (pc := 10) (ci := 1) (k := 0) (C := RX1) (T := TX1) (N := 9) (cell_shape (by first | assumption | omega) (by first | assumption | omega)) rfl (shO_255 (by first | assumption | omega) (by first | assumption | omega)) rfl nX1 (by decide) mF_X1_9 rfl dX1_isApartFrom_10 ?_
  refine x_cmple (pc := 13) 64 dX1_isApartFrom_13 (by decide) (fun c13 => ?_) (fun c13 => ?_)
  · refine x_iconst (pc := 64) (1) dX1_isApartFrom_64 (by decide) ?_
    refine x_goto (pc := 65) 69 dX1_isApartFrom_65 (by decide) ?_
    exact x_zret rfl rfl dX1_isApartFrom_69 ⟨by simp only [b01, apaB, *, decide_true, decide_false, decide_not, Bool.and_true, Bool.true_and, Bool.and_false, Bool.false_and, Bool.or_true, Bool.true_or, Bool.or_false, Bool.false_or, Bool.not_true, Bool.not_false, if_true, if_false, not_true, not_false_eq_true, not_false_iff, Bool.false_eq_true, reduceIte, or_true, true_or, or_false, false_or, and_true, true_and, and_false, false_and, ite_self], rfl, rfl⟩
  · refine x_aload_n (pc := 16) dX1_isApartFrom_16 rfl ?_
    refine x_get (pc := 17) (ci := 1) (k := 0) (C := RX1) (T := TX1) (N := 9) (cell_shape (by first | assumption | omega) (by first | assumption | omega)) rfl (shO_255 (by first | assumption | omega) (by first | assumption | omega)) rfl nX1 (by decide) mF_X1_9 rfl dX1_isApartFrom_17 ?_
    refine x_aload_n (pc := 20) dX1_isApartFrom_20 rfl ?_
    refine x_get (pc := 21) (ci := 1) (k := 2) (C := RX1) (T := TX1) (N := 9) (cell_shape (by first | assumption | omega) (by first | assumption | omega)) rfl (shO_255 (by first | assumption | omega) (by first | assumption | omega)) rfl nX1 (by decide) mF_X1_18 rfl dX1_isApartFrom_21 ?_
    refine x_iadd (pc := 24) dX1_isApartFrom_24 ?_
    refine x_aload_n (pc := 25) dX1_isApartFrom_25 rfl ?_
    refine x_get (pc := 26) (ci := 1) (k := 0) (C := RX1) (T := TX1) (N := 9) (cell_shape (by first | assumption | omega) (by first | assumption | omega)) rfl (shO_255 (by first | assumption | omega) (by first | assumption | omega)) rfl nX1 (by decide) mF_X1_9 rfl dX1_isApartFrom_26 ?_
    refine x_cmple (pc := 29) 64 dX1_isApartFrom_29 (by decide) (fun c29 => ?_) (fun c29 => ?_)
    · refine x_iconst (pc := 64) (1) dX1_isApartFrom_64 (by decide) ?_
      refine x_goto (pc := 65) 69 dX1_isApartFrom_65 (by decide) ?_
      exact x_zret rfl rfl dX1_isApartFrom_69 ⟨by simp only [b01, apaB, *, decide_true, decide_false, decide_not, Bool.and_true, Bool.true_and, Bool.and_false, Bool.false_and, Bool.or_true, Bool.true_or, Bool.or_false, Bool.false_or, Bool.not_true, Bool.not_false, if_true, if_false, not_true, not_false_eq_true, not_false_iff, Bool.false_eq_true, reduceIte, or_true, true_or, or_false, false_or, and_true, true_and, and_false, false_and, ite_self], rfl, rfl⟩
    · refine x_aload_n (pc := 32) dX1_isApartFrom_32 rfl ?_
      refine x_get (pc := 33) (ci := 1) (k := 1) (C := RX1) (T := TX1) (N := 9) (cell_shape (by first | assumption | omega) (by first | assumption | omega)) rfl (shO_255 (by first | assumption | omega) (by first | assumption | omega)) rfl nX1 (by decide) mF_X1_15 rfl dX1_isApartFrom_33 ?_
      refine x_aload_n (pc := 36) dX1_isApartFrom_36 rfl ?_
      refine x_get (pc := 37) (ci := 1) (k := 3) (C := RX1) (T := TX1) (N := 9) (cell_shape (by first | assumption | omega) (by first | assumption | omega)) rfl (shO_255 (by first | assumption | omega) (by first | assumption | omega)) rfl nX1 (by decide) mF_X1_21 rfl dX1_isApartFrom_37 ?_
      refine x_iadd (pc := 40) dX1_isApartFrom_40 ?_
      refine x_aload_n (pc := 41) dX1_isApartFrom_41 rfl ?_
      refine x_get (pc := 42) (ci := 1) (k := 1) (C := RX1) (T := TX1) (N := 9) (cell_shape (by first | assumption | omega) (by first | assumption | omega)) rfl (shO_255 (by first | assumption | omega) (by first | assumption | omega)) rfl nX1 (by decide) mF_X1_15 rfl dX1_isApartFrom_42 ?_
      refine x_cmple (pc := 45) 64 dX1_isApartFrom_45 (by decide) (fun c45 => ?_) (fun c45 => ?_)
      · refine x_iconst (pc := 64) (1) dX1_isApartFrom_64 (by decide) ?_
        refine x_goto (pc := 65) 69 dX1_isApartFrom_65 (by decide) ?_
        exact x_zret rfl rfl dX1_isApartFrom_69 ⟨by simp only [b01, apaB, *, decide_true, decide_false, decide_not, Bool.and_true, Bool.true_and, Bool.and_false, Bool.false_and, Bool.or_true, Bool.true_or, Bool.or_false, Bool.false_or, Bool.not_true, Bool.not_false, if_true, if_false, not_true, not_false_eq_true, not_false_iff, Bool.false_eq_true, reduceIte, or_true, true_or, or_false, false_or, and_true, true_and, and_false, false_and, ite_self], rfl, rfl⟩
      · refine x_aload_n (pc := 48) dX1_isApartFrom_48 rfl ?_
        refine x_get (pc := 49) (ci := 1) (k := 1) (C := RX1) (T := TX1) (N := 9) (cell_shape (by first | assumption | omega) (by first | assumption | omega)) rfl (shO_255 (by first | assumption | omega) (by first | assumption | omega)) rfl nX1 (by decide) mF_X1_15 rfl dX1_isApartFrom_49 ?_
        refine x_aload_n (pc := 52) dX1_isApartFrom_52 rfl ?_
        refine x_get (pc := 53) (ci := 1) (k := 3) (C := RX1) (T := TX1) (N := 9) (cell_shape (by first | assumption | omega) (by first | assumption | omega)) rfl (shO_255 (by first | assumption | omega) (by first | assumption | omega)) rfl nX1 (by decide) mF_X1_21 rfl dX1_isApartFrom_53 ?_
        refine x_iadd (pc := 56) dX1_isApartFrom_56 ?_
        refine x_aload_n (pc := 57) dX1_isApartFrom_57 rfl ?_
        refine x_get (pc := 58) (ci := 1) (k := 1) (C := RX1) (T := TX1) (N := 9) (cell_shape (by first | assumption | omega) (by first | assumption | omega)) rfl (shO_255 (by first | assumption | omega) (by first | assumption | omega)) rfl nX1 (by decide) mF_X1_15 rfl dX1_isApartFrom_58 ?_
        refine x_cmpgt (pc := 61) 68 dX1_isApartFrom_61 (by decide) (fun c61 => ?_) (fun c61 => ?_)
        · refine x_iconst (pc := 68) (0) dX1_isApartFrom_68 (by decide) ?_
          exact x_zret rfl rfl dX1_isApartFrom_69 ⟨by simp only [b01, apaB, *, decide_true, decide_false, decide_not, Bool.and_true, Bool.true_and, Bool.and_false, Bool.false_and, Bool.or_true, Bool.true_or, Bool.or_false, Bool.false_or, Bool.not_true, Bool.not_false, if_true, if_false, not_true, not_false_eq_true, not_false_iff, Bool.false_eq_true, reduceIte, or_true, true_or, or_false, false_or, and_true, true_and, and_false, false_and, ite_self], rfl, rfl⟩
        · refine x_iconst (pc := 64) (1) dX1_isApartFrom_64 (by decide) ?_
          refine x_goto (pc := 65) 69 dX1_isApartFrom_65 (by decide) ?_
          exact x_zret rfl rfl dX1_isApartFrom_69 ⟨by simp only [b01, apaB, *, decide_true, decide_false, decide_not, Bool.and_true, Bool.true_and, Bool.and_false, Bool.false_and, Bool.or_true, Bool.true_or, Bool.or_false, Bool.false_or, Bool.not_true, Bool.not_false, if_true, if_false, not_true, not_false_eq_true, not_false_iff, Bool.false_eq_true, reduceIte, or_true, true_or, or_false, false_or, and_true, true_and, and_false, false_and, ite_self], rfl, rfl⟩
set_option maxHeartbeats 4000000 in
set_option maxRecDepth 100000 in
theorem c_X1_edge (hj : j < 8) (hi : i < 13) : Ct G yX1_edge YX1_edge 0 0 [.ref (gB G + shO j i)] 255 (cellOf G (updS S j σ) B M) (Rt G (some (.int (edgV (σ.2.2.2.1 i)))) (updS S j σ) B M) := by
  refine ct_of (by decide +kernel) rfl rfl (Nat.le_of_ble_eq_true rfl) (by simp [Value.category]) ?_
  refine x_sub (l' := [(0, .ref (gB G + shO j i))]) ⟨rfl, trivial⟩ ?_
  refine x_iconst (pc := 0) (2) dX1_edge_0 (by decide) ?_
  refine x_aload_n (pc := 1) dX1_edge_1 rfl ?_
  refine x_get (pc := 2) (ci := 1) (k := 2) (C := RX1) (T := TX1) (N := 9) (cell_shape (by first | assumption | omega) (by first | assumption | omega)) rfl (shO_255 (by first | assumption | omega) (by first | assumption | omega)) rfl nX1 (by decide) mF_X1_18 rfl dX1_edge_2 ?_
  refine x_aload_n (pc := 5) dX1_edge_5 rfl ?_
  refine x_get (pc := 6) (ci := 1) (k := 3) (C := RX1) (T := TX1) (N := 9) (cell_shape (by first | assumption | omega) (by first | assumption | omega)) rfl (shO_255 (by first | assumption | omega) (by first | assumption | omega)) rfl nX1 (by decide) mF_X1_21 rfl dX1_edge_6 ?_
  refine x_iadd (pc := 9) dX1_edge_9 ?_
  refine x_imul (pc := 10) dX1_edge_10 ?_
  refine x_iconst (pc := 11) (4) dX1_edge_11 (by decide) ?_
  refine x_isub (pc := 12) dX1_edge_12 ?_
  exact x_iret rfl dX1_edge_13 ⟨by rfl, rfl, rfl⟩
set_option maxHeartbeats 4000000 in
set_option maxRecDepth 100000 in
theorem c_X1_leadColumn (hj : j < 8) (hi : i < 13) : Ct G yX1_leadColumn YX1_leadColumn 0 0 [.ref (gB G + shO j i)] 255 (cellOf G (updS S j σ) B M) (Rt G (some (.int (lcV (σ.2.2.2.1 i)))) (updS S j σ) B M) := by
  refine ct_of (by decide +kernel) rfl rfl (Nat.le_of_ble_eq_true rfl) (by simp [Value.category]) ?_
  refine x_sub (l' := [(0, .ref (gB G + shO j i))]) ⟨rfl, trivial⟩ ?_
  refine x_aload_n (pc := 0) dX1_leadColumn_0 rfl ?_
  refine x_get (pc := 1) (ci := 1) (k := 4) (C := RX1) (T := TX1) (N := 9) (cell_shape (by first | assumption | omega) (by first | assumption | omega)) rfl (shO_255 (by first | assumption | omega) (by first | assumption | omega)) rfl nX1 (by decide) mF_X1_24 rfl dX1_leadColumn_1 ?_
  refine x_iconst (pc := 4) (1) dX1_leadColumn_4 (by decide) ?_
  refine x_cmpeq (pc := 5) 16 dX1_leadColumn_5 (by decide) (fun c5 => ?_) (fun c5 => ?_)
  · refine x_aload_n (pc := 16) dX1_leadColumn_16 rfl ?_
    refine x_get (pc := 17) (ci := 1) (k := 0) (C := RX1) (T := TX1) (N := 9) (cell_shape (by first | assumption | omega) (by first | assumption | omega)) rfl (shO_255 (by first | assumption | omega) (by first | assumption | omega)) rfl nX1 (by decide) mF_X1_9 rfl dX1_leadColumn_17 ?_
    refine x_aload_n (pc := 20) dX1_leadColumn_20 rfl ?_
    refine x_get (pc := 21) (ci := 1) (k := 2) (C := RX1) (T := TX1) (N := 9) (cell_shape (by first | assumption | omega) (by first | assumption | omega)) rfl (shO_255 (by first | assumption | omega) (by first | assumption | omega)) rfl nX1 (by decide) mF_X1_18 rfl dX1_leadColumn_21 ?_
    refine x_iadd (pc := 24) dX1_leadColumn_24 ?_
    refine x_iconst (pc := 25) (1) dX1_leadColumn_25 (by decide) ?_
    refine x_isub (pc := 26) dX1_leadColumn_26 ?_
    refine x_goto (pc := 27) 34 dX1_leadColumn_27 (by decide) ?_
    exact x_iret rfl dX1_leadColumn_34 ⟨by simp only [lcV, *, decide_true, decide_false, decide_not, Bool.and_true, Bool.true_and, Bool.and_false, Bool.false_and, Bool.or_true, Bool.true_or, Bool.or_false, Bool.false_or, Bool.not_true, Bool.not_false, if_true, if_false, not_true, not_false_eq_true, not_false_iff, Bool.false_eq_true, reduceIte, or_true, true_or, or_false, false_or, and_true, true_and, and_false, false_and, ite_self], rfl, rfl⟩
  · refine x_aload_n (pc := 8) dX1_leadColumn_8 rfl ?_
    refine x_get (pc := 9) (ci := 1) (k := 4) (C := RX1) (T := TX1) (N := 9) (cell_shape (by first | assumption | omega) (by first | assumption | omega)) rfl (shO_255 (by first | assumption | omega) (by first | assumption | omega)) rfl nX1 (by decide) mF_X1_24 rfl dX1_leadColumn_9 ?_
    refine x_iconst (pc := 12) (2) dX1_leadColumn_12 (by decide) ?_
    refine x_cmpne (pc := 13) 30 dX1_leadColumn_13 (by decide) (fun c13 => ?_) (fun c13 => ?_)
    · refine x_aload_n (pc := 30) dX1_leadColumn_30 rfl ?_
      refine x_get (pc := 31) (ci := 1) (k := 0) (C := RX1) (T := TX1) (N := 9) (cell_shape (by first | assumption | omega) (by first | assumption | omega)) rfl (shO_255 (by first | assumption | omega) (by first | assumption | omega)) rfl nX1 (by decide) mF_X1_9 rfl dX1_leadColumn_31 ?_
      exact x_iret rfl dX1_leadColumn_34 ⟨by simp only [lcV, *, decide_true, decide_false, decide_not, Bool.and_true, Bool.true_and, Bool.and_false, Bool.false_and, Bool.or_true, Bool.true_or, Bool.or_false, Bool.false_or, Bool.not_true, Bool.not_false, if_true, if_false, not_true, not_false_eq_true, not_false_iff, Bool.false_eq_true, reduceIte, or_true, true_or, or_false, false_or, and_true, true_and, and_false, false_and, ite_self], rfl, rfl⟩
    · refine x_aload_n (pc := 16) dX1_leadColumn_16 rfl ?_
      refine x_get (pc := 17) (ci := 1) (k := 0) (C := RX1) (T := TX1) (N := 9) (cell_shape (by first | assumption | omega) (by first | assumption | omega)) rfl (shO_255 (by first | assumption | omega) (by first | assumption | omega)) rfl nX1 (by decide) mF_X1_9 rfl dX1_leadColumn_17 ?_
      refine x_aload_n (pc := 20) dX1_leadColumn_20 rfl ?_
      refine x_get (pc := 21) (ci := 1) (k := 2) (C := RX1) (T := TX1) (N := 9) (cell_shape (by first | assumption | omega) (by first | assumption | omega)) rfl (shO_255 (by first | assumption | omega) (by first | assumption | omega)) rfl nX1 (by decide) mF_X1_18 rfl dX1_leadColumn_21 ?_
      refine x_iadd (pc := 24) dX1_leadColumn_24 ?_
      refine x_iconst (pc := 25) (1) dX1_leadColumn_25 (by decide) ?_
      refine x_isub (pc := 26) dX1_leadColumn_26 ?_
      refine x_goto (pc := 27) 34 dX1_leadColumn_27 (by decide) ?_
      exact x_iret rfl dX1_leadColumn_34 ⟨by simp only [lcV, *, decide_true, decide_false, decide_not, Bool.and_true, Bool.true_and, Bool.and_false, Bool.false_and, Bool.or_true, Bool.true_or, Bool.or_false, Bool.false_or, Bool.not_true, Bool.not_false, if_true, if_false, not_true, not_false_eq_true, not_false_iff, Bool.false_eq_true, reduceIte, or_true, true_or, or_false, false_or, and_true, true_and, and_false, false_and, ite_self], rfl, rfl⟩
set_option maxHeartbeats 4000000 in
set_option maxRecDepth 100000 in
theorem c_X1_leadRow (hj : j < 8) (hi : i < 13) : Ct G yX1_leadRow YX1_leadRow 0 0 [.ref (gB G + shO j i)] 255 (cellOf G (updS S j σ) B M) (Rt G (some (.int (lrV (σ.2.2.2.1 i)))) (updS S j σ) B M) := by
  refine ct_of (by decide +kernel) rfl rfl (Nat.le_of_ble_eq_true rfl) (by simp [Value.category]) ?_
  refine x_sub (l' := [(0, .ref (gB G + shO j i))]) ⟨rfl, trivial⟩ ?_
  refine x_aload_n (pc := 0) dX1_leadRow_0 rfl ?_
  refine x_get (pc := 1) (ci := 1) (k := 4) (C := RX1) (T := TX1) (N := 9) (cell_shape (by first | assumption | omega) (by first | assumption | omega)) rfl (shO_255 (by first | assumption | omega) (by first | assumption | omega)) rfl nX1 (by decide) mF_X1_24 rfl dX1_leadRow_1 ?_
  refine x_iconst (pc := 4) (2) dX1_leadRow_4 (by decide) ?_
  refine x_cmpeq (pc := 5) 16 dX1_leadRow_5 (by decide) (fun c5 => ?_) (fun c5 => ?_)
  · refine x_aload_n (pc := 16) dX1_leadRow_16 rfl ?_
    refine x_get (pc := 17) (ci := 1) (k := 1) (C := RX1) (T := TX1) (N := 9) (cell_shape (by first | assumption | omega) (by first | assumption | omega)) rfl (shO_255 (by first | assumption | omega) (by first | assumption | omega)) rfl nX1 (by decide) mF_X1_15 rfl dX1_leadRow_17 ?_
    refine x_aload_n (pc := 20) dX1_leadRow_20 rfl ?_
    refine x_get (pc := 21) (ci := 1) (k := 3) (C := RX1) (T := TX1) (N := 9) (cell_shape (by first | assumption | omega) (by first | assumption | omega)) rfl (shO_255 (by first | assumption | omega) (by first | assumption | omega)) rfl nX1 (by decide) mF_X1_21 rfl dX1_leadRow_21 ?_
    refine x_iadd (pc := 24) dX1_leadRow_24 ?_
    refine x_iconst (pc := 25) (1) dX1_leadRow_25 (by decide) ?_
    refine x_isub (pc := 26) dX1_leadRow_26 ?_
    refine x_goto (pc := 27) 34 dX1_leadRow_27 (by decide) ?_
    exact x_iret rfl dX1_leadRow_34 ⟨by simp only [lrV, *, decide_true, decide_false, decide_not, Bool.and_true, Bool.true_and, Bool.and_false, Bool.false_and, Bool.or_true, Bool.true_or, Bool.or_false, Bool.false_or, Bool.not_true, Bool.not_false, if_true, if_false, not_true, not_false_eq_true, not_false_iff, Bool.false_eq_true, reduceIte, or_true, true_or, or_false, false_or, and_true, true_and, and_false, false_and, ite_self], rfl, rfl⟩
  · refine x_aload_n (pc := 8) dX1_leadRow_8 rfl ?_
    refine x_get (pc := 9) (ci := 1) (k := 4) (C := RX1) (T := TX1) (N := 9) (cell_shape (by first | assumption | omega) (by first | assumption | omega)) rfl (shO_255 (by first | assumption | omega) (by first | assumption | omega)) rfl nX1 (by decide) mF_X1_24 rfl dX1_leadRow_9 ?_
    refine x_iconst (pc := 12) (3) dX1_leadRow_12 (by decide) ?_
    refine x_cmpne (pc := 13) 30 dX1_leadRow_13 (by decide) (fun c13 => ?_) (fun c13 => ?_)
    · refine x_aload_n (pc := 30) dX1_leadRow_30 rfl ?_
      refine x_get (pc := 31) (ci := 1) (k := 1) (C := RX1) (T := TX1) (N := 9) (cell_shape (by first | assumption | omega) (by first | assumption | omega)) rfl (shO_255 (by first | assumption | omega) (by first | assumption | omega)) rfl nX1 (by decide) mF_X1_15 rfl dX1_leadRow_31 ?_
      exact x_iret rfl dX1_leadRow_34 ⟨by simp only [lrV, *, decide_true, decide_false, decide_not, Bool.and_true, Bool.true_and, Bool.and_false, Bool.false_and, Bool.or_true, Bool.true_or, Bool.or_false, Bool.false_or, Bool.not_true, Bool.not_false, if_true, if_false, not_true, not_false_eq_true, not_false_iff, Bool.false_eq_true, reduceIte, or_true, true_or, or_false, false_or, and_true, true_and, and_false, false_and, ite_self], rfl, rfl⟩
    · refine x_aload_n (pc := 16) dX1_leadRow_16 rfl ?_
      refine x_get (pc := 17) (ci := 1) (k := 1) (C := RX1) (T := TX1) (N := 9) (cell_shape (by first | assumption | omega) (by first | assumption | omega)) rfl (shO_255 (by first | assumption | omega) (by first | assumption | omega)) rfl nX1 (by decide) mF_X1_15 rfl dX1_leadRow_17 ?_
      refine x_aload_n (pc := 20) dX1_leadRow_20 rfl ?_
      refine x_get (pc := 21) (ci := 1) (k := 3) (C := RX1) (T := TX1) (N := 9) (cell_shape (by first | assumption | omega) (by first | assumption | omega)) rfl (shO_255 (by first | assumption | omega) (by first | assumption | omega)) rfl nX1 (by decide) mF_X1_21 rfl dX1_leadRow_21 ?_
      refine x_iadd (pc := 24) dX1_leadRow_24 ?_
      refine x_iconst (pc := 25) (1) dX1_leadRow_25 (by decide) ?_
      refine x_isub (pc := 26) dX1_leadRow_26 ?_
      refine x_goto (pc := 27) 34 dX1_leadRow_27 (by decide) ?_
      exact x_iret rfl dX1_leadRow_34 ⟨by simp only [lrV, *, decide_true, decide_false, decide_not, Bool.and_true, Bool.true_and, Bool.and_false, Bool.false_and, Bool.or_true, Bool.true_or, Bool.or_false, Bool.false_or, Bool.not_true, Bool.not_false, if_true, if_false, not_true, not_false_eq_true, not_false_iff, Bool.false_eq_true, reduceIte, or_true, true_or, or_false, false_or, and_true, true_and, and_false, false_and, ite_self], rfl, rfl⟩
set_option maxHeartbeats 4000000 in
set_option maxRecDepth 100000 in
theorem c_X1_leadSquare (hj : j < 8) (hi : i < 13) : Ct G yX1_leadSquare YX1_leadSquare 0 0 [.ref (gB G + shO j i)] 255 (cellOf G (updS S j σ) B M) (Rt G (some (.int (lsV (σ.2.2.2.1 i)))) (updS S j σ) B M) := by
  refine ct_of (by decide +kernel) rfl rfl (Nat.le_of_ble_eq_true rfl) (by simp [Value.category]) ?_
  refine x_sub (l' := [(0, .ref (gB G + shO j i))]) ⟨rfl, trivial⟩ ?_
  refine x_aload_n (pc := 0) dX1_leadSquare_0 rfl ?_
  refine t_Vi (pc := 1) (c_X1_leadColumn (by first | assumption | omega) (by first | assumption | omega)) qV_X1_leadColumn mL_X1_54 dX1_leadSquare_1 rfl (cell_shape (by first | assumption | omega) (by first | assumption | omega)) (shO_255 (by first | assumption | omega) (by first | assumption | omega)) rfl rfl rfl ⟨by decide, by decide⟩ (Nat.le_of_ble_eq_true rfl) (Nat.le_of_ble_eq_true rfl) (Nat.le_of_ble_eq_true rfl) ?_
  refine x_bipush (pc := 4) (8) dX1_leadSquare_4 (by decide) ?_
  refine x_idiv (pc := 6) dX1_leadSquare_6 (by decide) ?_
  refine x_iconst (pc := 7) (4) dX1_leadSquare_7 (by decide) ?_
  refine x_aload_n (pc := 8) dX1_leadSquare_8 rfl ?_
  refine t_Vi (pc := 9) (c_X1_leadRow (by first | assumption | omega) (by first | assumption | omega)) qV_X1_leadRow mL_X1_58 dX1_leadSquare_9 rfl (cell_shape (by first | assumption | omega) (by first | assumption | omega)) (shO_255 (by first | assumption | omega) (by first | assumption | omega)) rfl rfl rfl ⟨by decide, by decide⟩ (Nat.le_of_ble_eq_true rfl) (Nat.le_of_ble_eq_true rfl) (Nat.le_of_ble_eq_true rfl) ?_
  refine x_bipush (pc := 12) (8) dX1_leadSquare_12 (by decide) ?_
  refine x_idiv (pc := 14) dX1_leadSquare_14 (by decide) ?_
  refine x_imul (pc := 15) dX1_leadSquare_15 ?_
  refine x_iadd (pc := 16) dX1_leadSquare_16 ?_
  exact x_iret rfl dX1_leadSquare_17 ⟨by rfl, rfl, rfl⟩
set_option maxHeartbeats 4000000 in
set_option maxRecDepth 100000 in
theorem c_X1_fieldsIn (hj : j < 8) (hi : i < 13) (q m : Int32) : Ct G yX1_fieldsIn YX1_fieldsIn 0 0 [.ref (gB G + shO j i), .int q, .int m] 255 (cellOf G (updS S j σ) B M) (Rt G (some (.int (fldV (σ.2.2.2.1 i) q m))) (updS S j σ) B M) := by
  refine ct_of (by decide +kernel) rfl rfl (Nat.le_of_ble_eq_true rfl) (by simp [Value.category]) ?_
  refine x_sub (l' := [(0, .ref (gB G + shO j i)), (1, .int q), (2, .int m)]) ⟨rfl, rfl, rfl, trivial⟩ ?_
  refine x_iload_n (pc := 0) dX1_fieldsIn_0 rfl ?_
  refine x_iconst (pc := 1) (4) dX1_fieldsIn_1 (by decide) ?_
  refine x_irem (pc := 2) dX1_fieldsIn_2 (by decide) ?_
  refine x_bipush (pc := 3) (8) dX1_fieldsIn_3 (by decide) ?_
  refine x_imul (pc := 5) dX1_fieldsIn_5 ?_
  refine x_istore_n (pc := 6) dX1_fieldsIn_6 (by decide) ?_
  refine x_iload_n (pc := 7) dX1_fieldsIn_7 rfl ?_
  refine x_iconst (pc := 8) (4) dX1_fieldsIn_8 (by decide) ?_
  refine x_idiv (pc := 9) dX1_fieldsIn_9 (by decide) ?_
  refine x_bipush (pc := 10) (8) dX1_fieldsIn_10 (by decide) ?_
  refine x_imul (pc := 12) dX1_fieldsIn_12 ?_
  refine x_istore (pc := 13) dX1_fieldsIn_13 (by decide) ?_
  refine x_aload_n (pc := 15) dX1_fieldsIn_15 rfl ?_
  refine x_get (pc := 16) (ci := 1) (k := 0) (C := RX1) (T := TX1) (N := 9) (cell_shape (by first | assumption | omega) (by first | assumption | omega)) rfl (shO_255 (by first | assumption | omega) (by first | assumption | omega)) rfl nX1 (by decide) mF_X1_9 rfl dX1_fieldsIn_16 ?_
  refine x_aload_n (pc := 19) dX1_fieldsIn_19 rfl ?_
  refine x_get (pc := 20) (ci := 1) (k := 2) (C := RX1) (T := TX1) (N := 9) (cell_shape (by first | assumption | omega) (by first | assumption | omega)) rfl (shO_255 (by first | assumption | omega) (by first | assumption | omega)) rfl nX1 (by decide) mF_X1_18 rfl dX1_fieldsIn_20 ?_
  refine x_iadd (pc := 23) dX1_fieldsIn_23 ?_
  refine x_iload_n (pc := 24) dX1_fieldsIn_24 rfl ?_
  refine x_isub (pc := 25) dX1_fieldsIn_25 ?_
  refine x_iload_n (pc := 26) dX1_fieldsIn_26 rfl ?_
  refine x_bipush (pc := 27) (8) dX1_fieldsIn_27 (by decide) ?_
  refine x_iadd (pc := 29) dX1_fieldsIn_29 ?_
  refine x_min (pc := 30) mL_X1_46 (by decide) (Nat.le_of_ble_eq_true rfl) (Nat.le_of_ble_eq_true rfl) (Nat.le_of_ble_eq_true rfl) dX1_fieldsIn_30 ?_
  refine x_aload_n (pc := 33) dX1_fieldsIn_33 rfl ?_
  refine x_get (pc := 34) (ci := 1) (k := 0) (C := RX1) (T := TX1) (N := 9) (cell_shape (by first | assumption | omega) (by first | assumption | omega)) rfl (shO_255 (by first | assumption | omega) (by first | assumption | omega)) rfl nX1 (by decide) mF_X1_9 rfl dX1_fieldsIn_34 ?_
  refine x_iload_n (pc := 37) dX1_fieldsIn_37 rfl ?_
  refine x_iadd (pc := 38) dX1_fieldsIn_38 ?_
  refine x_iload_n (pc := 39) dX1_fieldsIn_39 rfl ?_
  refine x_max (pc := 40) mL_X1_51 (by decide) (Nat.le_of_ble_eq_true rfl) (Nat.le_of_ble_eq_true rfl) (Nat.le_of_ble_eq_true rfl) dX1_fieldsIn_40 ?_
  refine x_isub (pc := 43) dX1_fieldsIn_43 ?_
  refine x_istore (pc := 44) dX1_fieldsIn_44 (by decide) ?_
  refine x_aload_n (pc := 46) dX1_fieldsIn_46 rfl ?_
  refine x_get (pc := 47) (ci := 1) (k := 1) (C := RX1) (T := TX1) (N := 9) (cell_shape (by first | assumption | omega) (by first | assumption | omega)) rfl (shO_255 (by first | assumption | omega) (by first | assumption | omega)) rfl nX1 (by decide) mF_X1_15 rfl dX1_fieldsIn_47 ?_
  refine x_aload_n (pc := 50) dX1_fieldsIn_50 rfl ?_
  refine x_get (pc := 51) (ci := 1) (k := 3) (C := RX1) (T := TX1) (N := 9) (cell_shape (by first | assumption | omega) (by first | assumption | omega)) rfl (shO_255 (by first | assumption | omega) (by first | assumption | omega)) rfl nX1 (by decide) mF_X1_21 rfl dX1_fieldsIn_51 ?_
  refine x_iadd (pc := 54) dX1_fieldsIn_54 ?_
  refine x_iload_n (pc := 55) dX1_fieldsIn_55 rfl ?_
  refine x_isub (pc := 56) dX1_fieldsIn_56 ?_
  refine x_iload (pc := 57) dX1_fieldsIn_57 rfl ?_
  refine x_bipush (pc := 59) (8) dX1_fieldsIn_59 (by decide) ?_
  refine x_iadd (pc := 61) dX1_fieldsIn_61 ?_
  refine x_min (pc := 62) mL_X1_46 (by decide) (Nat.le_of_ble_eq_true rfl) (Nat.le_of_ble_eq_true rfl) (Nat.le_of_ble_eq_true rfl) dX1_fieldsIn_62 ?_
  refine x_aload_n (pc := 65) dX1_fieldsIn_65 rfl ?_
  refine x_get (pc := 66) (ci := 1) (k := 1) (C := RX1) (T := TX1) (N := 9) (cell_shape (by first | assumption | omega) (by first | assumption | omega)) rfl (shO_255 (by first | assumption | omega) (by first | assumption | omega)) rfl nX1 (by decide) mF_X1_15 rfl dX1_fieldsIn_66 ?_
  refine x_iload_n (pc := 69) dX1_fieldsIn_69 rfl ?_
  refine x_iadd (pc := 70) dX1_fieldsIn_70 ?_
  refine x_iload (pc := 71) dX1_fieldsIn_71 rfl ?_
  refine x_max (pc := 73) mL_X1_51 (by decide) (Nat.le_of_ble_eq_true rfl) (Nat.le_of_ble_eq_true rfl) (Nat.le_of_ble_eq_true rfl) dX1_fieldsIn_73 ?_
  refine x_isub (pc := 76) dX1_fieldsIn_76 ?_
  refine x_istore (pc := 77) dX1_fieldsIn_77 (by decide) ?_
  refine x_iload (pc := 79) dX1_fieldsIn_79 rfl ?_
  refine x_iconst (pc := 81) (0) dX1_fieldsIn_81 (by decide) ?_
  refine x_max (pc := 82) mL_X1_51 (by decide) (Nat.le_of_ble_eq_true rfl) (Nat.le_of_ble_eq_true rfl) (Nat.le_of_ble_eq_true rfl) dX1_fieldsIn_82 ?_
  refine x_iload (pc := 85) dX1_fieldsIn_85 rfl ?_
  refine x_iconst (pc := 87) (0) dX1_fieldsIn_87 (by decide) ?_
  refine x_max (pc := 88) mL_X1_51 (by decide) (Nat.le_of_ble_eq_true rfl) (Nat.le_of_ble_eq_true rfl) (Nat.le_of_ble_eq_true rfl) dX1_fieldsIn_88 ?_
  refine x_imul (pc := 91) dX1_fieldsIn_91 ?_
  exact x_iret rfl dX1_fieldsIn_92 ⟨by rfl, rfl, rfl⟩
end SHAPE
end
section
/-! what both sides compute, over one value: shapes told, ints, heats, settings, shapes' ints -/
abbrev Ab : Type := Nat × Fs × Fs × Fs × (Nat → Fs)
def RC (σ : Sh) (A : Ab) : Prop := A.1 ≤ 12 ∧ σ.1 0 = nI A.1 ∧ (∀ k, 1 ≤ k → k < 7 → σ.1 k = A.2.1 k) ∧ (∀ k, k < 12 → σ.2.1 k = A.2.2.1 k) ∧ (∀ k, k < 4 → σ.2.2.1 k = A.2.2.2.1 k) ∧ (∀ i, i < A.1 → ∀ k, k < 8 → σ.2.2.2.1 i k = A.2.2.2.2 i k) ∧ (∀ i, i < A.1 → ∀ k, k < 12 → σ.2.2.2.2 i k = edgQ (A.2.2.2.2 i) k)
def hotN (H : Fs) : Nat → Nat
  | 0 => 0
  | k + 1 => if H (hotN H k) < H k then k else hotN H k
theorem hotN_lt (H : Fs) : ∀ k, hotN H k < 12 ∨ 12 < k
  | 0 => Or.inl (show 0 < 12 by decide)
  | k + 1 => by
    simp only [hotN]
    rcases hotN_lt H k with h | h
    · split
      · by_cases hk : k < 12
        · exact Or.inl hk
        · exact Or.inr (by omega)
      · exact Or.inl h
    · exact Or.inr (by omega)
def grV (A : Ab) : Int32 := A.2.2.1 (hotN A.2.2.1 12)
def sumN (H : Fs) : Nat → Int32
  | 0 => 0
  | k + 1 => sumN H k + H k
def hmx (e H : Fs) : Nat → Int32
  | 0 => 0
  | k + 1 => if 0 < e k then imx (hmx e H k) (H k) else hmx e H k
def cntN (P : Nat → Fs) (v : Int32) : Nat → Int32
  | 0 => 0
  | k + 1 => if P k 5 = v then cntN P v k + 1 else cntN P v k
def tilN (P : Nat → Fs) : Nat → Int32
  | 0 => 0
  | k + 1 => tilN P k + P k 6
def outO (P : Nat → Fs) (f : Fs) : Nat → Option Nat
  | 0 => none
  | k + 1 => if insB f (P k) && (match outO P f k with | none => true | some q => insB (P k) (P q)) then some k else outO P f k
def oV : Option Nat → Int32
  | none => -5
  | some k => nI k
def setN (P : Nat → Fs) (f : Fs) : Nat → Int32
  | 0 => 0
  | k + 1 => if insB (P k) f then setN P f k ||| ((1 : Int32) <<< (nI k &&& 31)) else setN P f k
def hoB (P : Nat → Fs) (f : Fs) : Nat → Bool
  | 0 => false
  | k + 1 => hoB P f k || (decide (P k 5 = 0) && insB (P k) f)
def okB (f g : Fs) : Bool := if insB f g || insB g f then decide (g 5 = 0) else apaB f g
def fitB (P : Nat → Fs) (f : Fs) : Nat → Bool
  | 0 => true
  | k + 1 => fitB P f k && okB f (P k)
def wayV (A : Ab) (i : Nat) : Int32 := iab (lcV (A.2.2.2.2 i) - A.2.1 1) + iab (lrV (A.2.2.2.2 i) - A.2.1 2)
def burV (A : Ab) (i : Nat) : Int32 := edgV (A.2.2.2.2 i) * (2 + A.2.1 3 / 4)
def hovV (A : Ab) (i : Nat) : Int32 := hmx (edgQ (A.2.2.2.2 i)) A.2.2.1 12 - A.2.2.2.1 2
def whyV (A : Ab) (i : Nat) : Int32 := if A.2.2.2.2 i 5 = 1 then 1 else if A.2.2.2.2 i 5 = 2 then 2 else if A.2.2.2.1 3 = 1 ∧ hoB A.2.2.2.2 (A.2.2.2.2 i) A.1 = true then 3 else if wayV A i * A.2.2.2.1 1 < hovV A i then 4 else 0
def tcV (A : Ab) (i : Nat) : Int32 := if A.2.2.2.2 i 5 = 0 then wayV A i + burV A i else -4
def kcV (A : Ab) (i : Nat) : Int32 := if whyV A i = 0 then 0 else if whyV A i = 4 then (if 0 < A.2.2.2.1 1 then (hovV A i + A.2.2.2.1 1 - 1) / A.2.2.2.1 1 - wayV A i else -5) else -4
def knB (A : Ab) (v : Int32) : Bool := !decide (v < 0) && decide (v < nI A.1) && decide (v < 12)
def besO (A : Ab) : Nat → Option Nat
  | 0 => none
  | k + 1 => if whyV A k = 0 then (match besO A k with | none => some k | some q => if tcV A k < tcV A q then some k else some q) else besO A k
def fewV (A : Ab) : Nat → Int32
  | 0 => -5
  | k + 1 => if kcV A k < 0 then fewV A k else if fewV A k = -5 then kcV A k else if kcV A k < fewV A k then kcV A k else fewV A k
def coolA (A : Ab) (x : Int32) : Ab := (A.1, upd A.2.1 4 (A.2.1 4 + x), fun k => imx (A.2.2.1 k - x * A.2.2.2.1 1) 0, A.2.2.2)
def burnA (A : Ab) (i : Nat) : Ab := (A.1, upd (upd (upd A.2.1 4 (A.2.1 4 + burV A i)) 5 (A.2.1 5 + burV A i)) 3 (A.2.1 3 + 1), fun k => A.2.2.1 k + edgQ (A.2.2.2.2 i) k, A.2.2.2)
def goA (A : Ab) (i : Nat) : Ab := (A.1, upd (upd A.2.1 1 (lcV (A.2.2.2.2 i))) 2 (lrV (A.2.2.2.2 i)), A.2.2)
def losP (P : Nat → Fs) (f : Fs) (k : Nat) : Nat → Fs := fun q => if q < k ∧ P q 5 = 0 ∧ insB (P q) f = true then upd (P q) 5 2 else P q
def losN (P : Nat → Fs) (f : Fs) : Nat → Int32
  | 0 => 0
  | k + 1 => if P k 5 = 0 ∧ insB (P k) f = true then losN P f k + 1 else losN P f k
def hinV (H : Fs) (v : Int32) : Int32 := if betw v 0 11 then H v.toNatClampNeg else -1
/-- behind the burning: it is cut, it has its rank, it tilted or not -/
def markA (A : Ab) (i : Nat) : Ab := (A.1, upd A.2.1 6 (A.2.1 6 + 1), A.2.2.1, A.2.2.2.1, updF A.2.2.2.2 i (upd (upd (upd (A.2.2.2.2 i) 5 1) 7 (A.2.1 6)) 6 (if hinV A.2.2.1 (lsV (A.2.2.2.2 i)) = grV A then 1 else 0)))
def preA (A : Ab) (i : Nat) : Ab := markA (burnA (goA (coolA A (wayV A i)) i) i) i
def losA (A : Ab) (i : Nat) : Ab := (A.1, A.2.1, A.2.2.1, A.2.2.2.1, losP A.2.2.2.2 (A.2.2.2.2 i) A.1)
def cutA (A : Ab) (i : Nat) : Ab := losA (preA A i) i
def cutN (A : Ab) (i : Nat) : Int32 := losN (preA A i).2.2.2.2 ((preA A i).2.2.2.2 i) A.1
/-- the acts, with any argument: what comes back, what stands then -/
def cutX (A : Ab) (v : Int32) : Int32 × Ab := if knB A v then (if whyV A v.toNatClampNeg = 0 then (cutN A v.toNatClampNeg, cutA A v.toNatClampNeg) else (-10 - whyV A v.toNatClampNeg, A)) else (-1, A)
def leadX (A : Ab) (v c : Int32) : Int32 × Ab := if knB A v && betw c 0 3 then (if A.2.2.2.2 v.toNatClampNeg 5 = 0 then (if A.2.2.2.2 v.toNatClampNeg 4 = c then (-5, A) else (A.2.2.2.2 v.toNatClampNeg 4, (A.1, A.2.1, A.2.2.1, A.2.2.2.1, updF A.2.2.2.2 v.toNatClampNeg (upd (A.2.2.2.2 v.toNatClampNeg) 4 c)))) else (-4, A)) else (-1, A)
def setX (A : Ab) (w v : Int32) : Int32 × Ab := if betw w 0 3 then (if betw v (leastF w.toNatClampNeg) (greatF w.toNatClampNeg) then (if A.2.2.2.1 w.toNatClampNeg = v then (-5, A) else (A.2.2.2.1 w.toNatClampNeg, (A.1, A.2.1, A.2.2.1, upd A.2.2.2.1 w.toNatClampNeg v, A.2.2.2.2))) else (-2, A)) else (-1, A)
def waitX (A : Ab) (v : Int32) : Int32 × Ab := if betw v 1 999 then (grV (coolA A v), coolA A v) else (-2, A)
def cleanX (A : Ab) : Int32 × Ab := if A.2.1 3 = 0 then (-5, A) else (A.2.1 3, ((coolA A (A.2.2.2.1 0)).1, upd (coolA A (A.2.2.2.1 0)).2.1 3 0, (coolA A (A.2.2.2.1 0)).2.2))
def plF (f : Fs) (c r w h : Int32) : Fs := upd (upd (upd (upd (upd (upd (upd (upd f 0 c) 1 r) 2 w) 3 h) 4 0) 5 0) 6 0) 7 (-5)
def badB (c r w h : Int32) : Bool := !(betw c 0 31 && betw r 0 23 && betw w 2 32 && betw h 2 24 && !decide (32 < c + w) && !decide (24 < r + h))
def tellX (A : Ab) (c r w h : Int32) : Int32 × Ab := if badB c r w h then (-2, A) else if fitB A.2.2.2.2 (plF (fun _ => 0) c r w h) A.1 then (if A.1 < 12 then (nI A.1, (A.1 + 1, A.2.1, A.2.2.1, A.2.2.2.1, updF A.2.2.2.2 A.1 (plF (fun _ => 0) c r w h))) else (-3, A)) else (-4, A)
/-- one step of the order -/
def nextX (A : Ab) : Option Nat × Ab := match besO A A.1 with
  | some k => (some k, cutA A k)
  | none => if fewV A A.1 = -5 then (none, A) else (match besO (coolA A (fewV A A.1)) A.1 with
    | some k => (some k, cutA (coolA A (fewV A A.1)) k)
    | none => (none, coolA A (fewV A A.1)))
def factX (A : Ab) (v w : Int32) : Int32 := if knB A v then (if betw w 0 5 then A.2.2.2.2 v.toNatClampNeg w.toNatClampNeg else if w = 6 then oV (outO A.2.2.2.2 (A.2.2.2.2 v.toNatClampNeg) A.1) else if w = 7 then setN A.2.2.2.2 (A.2.2.2.2 v.toNatClampNeg) A.1 else if w = 8 then edgV (A.2.2.2.2 v.toNatClampNeg) else if w = 9 then A.2.2.2.2 v.toNatClampNeg 6 else if w = 10 then A.2.2.2.2 v.toNatClampNeg 7 else -2) else -1
def sheetX (A : Ab) (w : Int32) : Int32 := if w = 0 then nI A.1 else if w = 1 then cntN A.2.2.2.2 0 A.1 else if w = 2 then cntN A.2.2.2.2 1 A.1 else if w = 3 then cntN A.2.2.2.2 2 A.1 else if w = 4 then tilN A.2.2.2.2 A.1 else if w = 5 then A.2.1 3 else if w = 6 then A.2.1 1 else if w = 7 then A.2.1 2 else if w = 8 then A.2.1 4 else if w = 9 then A.2.1 5 else if w = 10 then grV A else if w = 11 then nI (hotN A.2.2.1 12) else if w = 12 then sumN A.2.2.1 12 else if w = 13 then A.2.2.2.1 0 else if w = 14 then A.2.2.2.1 1 else if w = 15 then A.2.2.2.1 2 else if w = 16 then A.2.2.2.1 3 else -2
/-! helpers -/
theorem RC.le {σ : Sh} {A : Ab} (h : RC σ A) : A.1 ≤ 12 := h.1
theorem RC.told {σ : Sh} {A : Ab} (h : RC σ A) : σ.1 0 = nI A.1 := h.2.1
theorem RC.int {σ : Sh} {A : Ab} (h : RC σ A) (k : Nat) (h1 : 1 ≤ k := by decide) (h2 : k < 7 := by decide) : σ.1 k = A.2.1 k := h.2.2.1 k h1 h2
theorem RC.heat {σ : Sh} {A : Ab} (h : RC σ A) (k : Nat) (h1 : k < 12) : σ.2.1 k = A.2.2.1 k := h.2.2.2.1 k h1
theorem RC.sett {σ : Sh} {A : Ab} (h : RC σ A) (k : Nat) (h1 : k < 4 := by decide) : σ.2.2.1 k = A.2.2.2.1 k := h.2.2.2.2.1 k h1
theorem RC.shp {σ : Sh} {A : Ab} (h : RC σ A) {i : Nat} (hi : i < A.1) (k : Nat) (h1 : k < 8 := by decide) : σ.2.2.2.1 i k = A.2.2.2.2 i k := h.2.2.2.2.2.1 i hi k h1
theorem RC.edg {σ : Sh} {A : Ab} (h : RC σ A) {i : Nat} (hi : i < A.1) (k : Nat) (h1 : k < 12) : σ.2.2.2.2 i k = edgQ (A.2.2.2.2 i) k := h.2.2.2.2.2.2 i hi k h1
theorem told_lt {σ : Sh} {A : Ab} (h : RC σ A) {k : Nat} (hk : k ≤ A.1) : nI k < σ.1 0 ↔ k < A.1 := by
  have h12 := h.le
  rw [h.told]
  exact nI_ltI (by omega) (by omega)
theorem lt_lit {k n : Nat} {x : Int32} (hx : x = nI n) (hn : n < 2 ^ 31) (hk : k < 2 ^ 31) : nI k < x ↔ k < n := by rw [hx]; exact nI_ltI hk hn
theorem knB_some {A : Ab} {v : Int32} (ht : A.1 ≤ 12) (h : knB A v = true) : ∃ i, i < A.1 ∧ v = nI i ∧ v.toNatClampNeg = i := by
  simp only [knB, Bool.and_eq_true, Bool.not_eq_true', decide_eq_false_iff_not, decide_eq_true_eq] at h
  obtain ⟨⟨h1, h2⟩, h3⟩ := h
  obtain ⟨i, hi, rfl⟩ := nI_of h1
  have h4 : i < A.1 := (nI_ltI hi (by omega)).mp h2
  exact ⟨i, h4, rfl, nI_clamp hi⟩
theorem knB_nI {A : Ab} {i : Nat} (ht : A.1 ≤ 12) (hi : i < A.1) : knB A (nI i) = true := by
  simp only [knB, Bool.and_eq_true, Bool.not_eq_true', decide_eq_false_iff_not, decide_eq_true_eq]
  refine ⟨⟨nI_pos (by omega), (nI_ltI (by omega) (by omega)).mpr hi⟩, ?_⟩
  rw [show (12 : Int32) = nI 12 from rfl]
  exact (nI_ltI (by omega) (by omega)).mpr (by omega)
theorem betw_some {v : Int32} {n : Nat} {b : Int32} (hb : b = nI n) (hn : n < 2 ^ 31) (h : betw v 0 b = true) : ∃ i, i ≤ n ∧ v = nI i ∧ v.toNatClampNeg = i := by
  simp only [betw, Bool.and_eq_true, Bool.not_eq_true', decide_eq_false_iff_not] at h
  obtain ⟨h1, h2⟩ := h
  obtain ⟨i, hi, rfl⟩ := nI_of h1
  rw [hb] at h2
  have h3 : ¬ n < i := fun q => h2 ((nI_ltI hn hi).mpr q)
  exact ⟨i, by omega, rfl, nI_clamp hi⟩
theorem iinc_nI (k : Nat) : nI k + Int32.ofInt 1 = nI (k + 1) := nI_1 k
theorem loopD {Pr : Nat → Prop} (n : Nat) (h : ∀ k, k ≤ n → (k < n → Pr (k + 1)) → Pr k) : ∀ k, k ≤ n → Pr k := by
  have key : ∀ d k, k + d = n → Pr k := by
    intro d
    induction d with
    | zero => exact fun k hk => h k (by omega) (fun q => absurd q (by omega))
    | succ d ih => exact fun k hk => h k (by omega) (fun _ => ih (k + 1) (by omega))
  exact fun k hk => key (n - k) k (by omega)
theorem b01_1 : b01 true = 1 := rfl
theorem b01_0 : b01 false = 0 := rfl
theorem b01_ne {b : Bool} (h : ¬ b01 b = 0) : b = true := by cases b; exact absurd rfl h; rfl
theorem b01_eq {b : Bool} (h : b01 b = 0) : b = false := by cases b; rfl; exact absurd h (by decide)
/-- a row with more behind its end: what comes back, and some state of a kind -/
def Re {α : Type} (G : GX) (w : Option Value) (S' : α → Nat → Sh) (B' : α → Bc) (M' : α → Md) (Pp : α → Prop) : Option Value → Nat → (Nat → va_E) → Prop := fun v n cs => ∃ a : α, v = w ∧ n = 255 ∧ cs = cellOf G (S' a) (B' a) (M' a) ∧ Pp a
abbrev RS (G : GX) (w : Option Value) (S : Nat → Sh) (j : Nat) (B : Bc) (M : Md) (A' : Ab) : Option Value → Nat → (Nat → va_E) → Prop := Re G w (fun σ' : Sh => updS S j σ') (fun _ => B) (fun _ => M) (fun σ' => RC σ' A')
section TCALLSE
variable {G : GX} {y : YX} {E : State → Prop} {Z : ZX} {pc : Nat} {l : List (Nat × Value)} {stk : List Value} {ck sk : Nat}
variable {S : Nat → Sh} {B : Bc} {M : Md} {α : Type} {S' : α → Nat → Sh} {B' : α → Bc} {M' : α → Md} {Pp : α → Prop}
theorem e_Vi {ynm : MethodName} {yc : YX} {idx o ci : Nat} {fs As rest : List Value} {T : u_T} {N : Nat} {w : Int32} (hM : Ct G ynm yc 0 0 (.ref (gB G + o) :: As) 255 (cellOf G S B M) (Re G (some (.int w)) S' B' M' Pp)) (hq : MqV ynm yc As.length) (hlink : Cond.methodLink y.2.2.1 idx ynm ∈ WS) (hd : decode y.1 pc = .ok (.invokevirtual idx, 3)) (hstk : stk = As.reverse ++ .ref (gB G + o) :: rest) (hcell : cellOf G S B M o = .inr (ci, fs)) (ho : o < 255) (hc : vwCl[ci]? = some (ynm.cls, T, N)) (hrc : yc.2.2.2.1.cells = 0) (hrs : yc.2.2.2.1.slots = 0) (hR : yc.2.2.2.1.frames + 1 ≤ y.2.2.2.1.frames ∧ 8 + (yc.2.1 + 11) + yc.2.2.2.1.locals ≤ y.2.2.2.1.locals) (hW : (rest.map fun v => v.category).sum ≤ 8) (h1 : ck ≤ y.2.2.2.1.cells) (h2 : sk ≤ y.2.2.2.1.slots)
    (kk : ∀ a, Pp a → XJ G y E Z (pc + 3) l (.int w :: rest) 255 (cellOf G (S' a) (B' a) (M' a)) ck sk) : XJ G y E Z pc l stk 255 (cellOf G S B M) ck sk :=
  x_callV hM hq hlink hd hstk hcell ho hc hrc hrs hR hW h1 h2 (fun v n' cs' h => by obtain ⟨a, rfl, rfl, rfl, h⟩ := h; exact kk a h)
theorem e_Vv {ynm : MethodName} {yc : YX} {idx o ci : Nat} {fs As rest : List Value} {T : u_T} {N : Nat} (hM : Ct G ynm yc 0 0 (.ref (gB G + o) :: As) 255 (cellOf G S B M) (Re G none S' B' M' Pp)) (hq : MqV ynm yc As.length) (hlink : Cond.methodLink y.2.2.1 idx ynm ∈ WS) (hd : decode y.1 pc = .ok (.invokevirtual idx, 3)) (hstk : stk = As.reverse ++ .ref (gB G + o) :: rest) (hcell : cellOf G S B M o = .inr (ci, fs)) (ho : o < 255) (hc : vwCl[ci]? = some (ynm.cls, T, N)) (hrc : yc.2.2.2.1.cells = 0) (hrs : yc.2.2.2.1.slots = 0) (hR : yc.2.2.2.1.frames + 1 ≤ y.2.2.2.1.frames ∧ 8 + (yc.2.1 + 11) + yc.2.2.2.1.locals ≤ y.2.2.2.1.locals) (hW : (rest.map fun v => v.category).sum ≤ 8) (h1 : ck ≤ y.2.2.2.1.cells) (h2 : sk ≤ y.2.2.2.1.slots)
    (kk : ∀ a, Pp a → XJ G y E Z (pc + 3) l rest 255 (cellOf G (S' a) (B' a) (M' a)) ck sk) : XJ G y E Z pc l stk 255 (cellOf G S B M) ck sk :=
  x_callV hM hq hlink hd hstk hcell ho hc hrc hrs hR hW h1 h2 (fun v n' cs' h => by obtain ⟨a, rfl, rfl, rfl, h⟩ := h; exact kk a h)
end TCALLSE
end
section
/-! the class: Shape's writers, Sheet's readers (rows laid by wip/whole/p12.py) -/
section SHEET1
variable {G : GX} {S : Nat → Sh} {B : Bc} {M : Md} {j i : Nat} {σ : Sh}
variable {A : Ab}
def eqE (g f : Fs) (k : Nat) : Fs := fun q => if q < k then edgQ f q else g q
theorem eqE_0 (g f : Fs) : eqE g f 0 = g := by funext q; simp [eqE]
theorem eqE_s (g f : Fs) (k : Nat) : upd (eqE g f k) k (edgQ f k) = eqE g f (k + 1) := by
  funext q
  by_cases h : q = k
  · subst h; simp [eqE, upd]
  · by_cases h2 : q < k
    · simp [eqE, upd, h, h2, Nat.lt_succ_of_lt h2]
    · simp [eqE, upd, h, h2, show ¬ q < k + 1 by omega]
set_option maxHeartbeats 4000000 in
set_option maxRecDepth 100000 in
theorem c_X1_place (hj : j < 8) (hi : i < 13) (c r w h : Int32) : Ct G yX1_place YX1_place 0 0 [.ref (gB G + shO j i), .int c, .int r, .int w, .int h] 255 (cellOf G (updS S j σ) B M) (Rt G none (updS S j (edgF (shpF σ i (plF (σ.2.2.2.1 i) c r w h)) i (eqE (σ.2.2.2.2 i) (plF (σ.2.2.2.1 i) c r w h) 12))) B M) := by
  refine ct_of (by decide +kernel) rfl rfl (Nat.le_of_ble_eq_true rfl) (by simp [Value.category]) ?_
  refine x_sub (l' := [(0, .ref (gB G + shO j i)), (1, .int c), (2, .int r), (3, .int w), (4, .int h)]) ⟨rfl, rfl, rfl, rfl, rfl, trivial⟩ ?_
  have lp : ∀ k, k ≤ 12 → XJ G YX1_place (fun _ => True) (Zx G (Rt G none (updS S j (edgF (shpF σ i (plF (σ.2.2.2.1 i) c r w h)) i (eqE (σ.2.2.2.2 i) (plF (σ.2.2.2.1 i) c r w h) 12))) B M) 0 0) 45 [(0, .ref (gB G + shO j i)), (5, .int (nI k))] [] 255 (cellOf G (updS S j (edgF (shpF σ i (plF (σ.2.2.2.1 i) c r w h)) i (eqE (σ.2.2.2.2 i) (plF (σ.2.2.2.1 i) c r w h) k))) B M) 0 0 := by
    refine loopD 12 ?_
    intro k hk ih
    refine x_iload (pc := 45) dX1_place_45 rfl ?_
    refine x_bipush (pc := 47) (12) dX1_place_47 (by decide) ?_
    refine x_cmpge (pc := 49) 80 dX1_place_49 (by decide) (fun c49 => ?_) (fun c49 => ?_)
    · obtain rfl : k = 12 := by have := mt (lt_lit (n := 12) rfl (by decide) (by omega)).mpr c49; omega
      exact x_vret rfl dX1_place_80 ⟨rfl, rfl, rfl⟩
    · have hk12 : k < 12 := (lt_lit rfl (by decide) (by omega)).mp c49
      refine x_aload_n (pc := 52) dX1_place_52 rfl ?_
      refine x_get (pc := 53) (ci := 1) (k := 8) (C := RX1) (T := TX1) (N := 9) (cell_shape (by first | assumption | omega) (by first | assumption | omega)) rfl (shO_255 (by first | assumption | omega) (by first | assumption | omega)) rfl nX1 (by decide) mF_X1_38 rfl dX1_place_53 ?_
      refine x_iload (pc := 56) dX1_place_56 rfl ?_
      refine x_aload_n (pc := 58) dX1_place_58 rfl ?_
      refine x_iload (pc := 59) dX1_place_59 rfl ?_
      refine x_iconst (pc := 61) (0) dX1_place_61 (by decide) ?_
      refine t_Vi (pc := 62) (c_X1_fieldsIn (by first | assumption | omega) (by first | assumption | omega) _ _) qV_X1_fieldsIn mL_X1_42 dX1_place_62 rfl (cell_shape (by first | assumption | omega) (by first | assumption | omega)) (shO_255 (by first | assumption | omega) (by first | assumption | omega)) rfl rfl rfl ⟨by decide, by decide⟩ (Nat.le_of_ble_eq_true rfl) (Nat.le_of_ble_eq_true rfl) (Nat.le_of_ble_eq_true rfl) ?_
      refine x_aload_n (pc := 65) dX1_place_65 rfl ?_
      refine x_iload (pc := 66) dX1_place_66 rfl ?_
      refine x_iconst (pc := 68) (1) dX1_place_68 (by decide) ?_
      refine t_Vi (pc := 69) (c_X1_fieldsIn (by first | assumption | omega) (by first | assumption | omega) _ _) qV_X1_fieldsIn mL_X1_42 dX1_place_69 rfl (cell_shape (by first | assumption | omega) (by first | assumption | omega)) (shO_255 (by first | assumption | omega) (by first | assumption | omega)) rfl rfl rfl ⟨by decide, by decide⟩ (Nat.le_of_ble_eq_true rfl) (Nat.le_of_ble_eq_true rfl) (Nat.le_of_ble_eq_true rfl) ?_
      refine x_isub (pc := 72) dX1_place_72 ?_
      refine t_stEdge (pc := 73) (by first | assumption | omega) (by first | assumption | omega) _ (by first | assumption | omega) rfl dX1_place_73 ?_
      try dsimp only
      refine x_iinc (pc := 74) (nI (k + 1)) dX1_place_74 rfl (iinc_nI k) (by decide) ?_
      refine x_goto (pc := 77) 45 dX1_place_77 (by decide) ?_
      refine x_sub (l' := [(0, .ref (gB G + shO j i)), (5, .int (nI (k + 1)))]) ⟨rfl, rfl, trivial⟩ ?_
      have e := ih hk12
      rw [← eqE_s _ _ k] at e
      simp only [edgF, shpF, updF_same, updF_upd] at e ⊢
      exact e
  refine x_aload_n (pc := 0) dX1_place_0 rfl ?_
  refine x_iload_n (pc := 1) dX1_place_1 rfl ?_
  refine t_putShape (pc := 2) (by first | assumption | omega) (by first | assumption | omega) 0 (by decide) mF_X1_9 dX1_place_2 ?_
  try dsimp only
  refine x_aload_n (pc := 5) dX1_place_5 rfl ?_
  refine x_iload_n (pc := 6) dX1_place_6 rfl ?_
  refine t_putShape (pc := 7) (by first | assumption | omega) (by first | assumption | omega) 1 (by decide) mF_X1_15 dX1_place_7 ?_
  try dsimp only
  refine x_aload_n (pc := 10) dX1_place_10 rfl ?_
  refine x_iload_n (pc := 11) dX1_place_11 rfl ?_
  refine t_putShape (pc := 12) (by first | assumption | omega) (by first | assumption | omega) 2 (by decide) mF_X1_18 dX1_place_12 ?_
  try dsimp only
  refine x_aload_n (pc := 15) dX1_place_15 rfl ?_
  refine x_iload (pc := 16) dX1_place_16 rfl ?_
  refine t_putShape (pc := 18) (by first | assumption | omega) (by first | assumption | omega) 3 (by decide) mF_X1_21 dX1_place_18 ?_
  try dsimp only
  refine x_aload_n (pc := 21) dX1_place_21 rfl ?_
  refine x_iconst (pc := 22) (0) dX1_place_22 (by decide) ?_
  refine t_putShape (pc := 23) (by first | assumption | omega) (by first | assumption | omega) 4 (by decide) mF_X1_24 dX1_place_23 ?_
  try dsimp only
  refine x_aload_n (pc := 26) dX1_place_26 rfl ?_
  refine x_iconst (pc := 27) (0) dX1_place_27 (by decide) ?_
  refine t_putShape (pc := 28) (by first | assumption | omega) (by first | assumption | omega) 5 (by decide) mF_X1_27 dX1_place_28 ?_
  try dsimp only
  refine x_aload_n (pc := 31) dX1_place_31 rfl ?_
  refine x_iconst (pc := 32) (0) dX1_place_32 (by decide) ?_
  refine t_putShape (pc := 33) (by first | assumption | omega) (by first | assumption | omega) 6 (by decide) mF_X1_30 dX1_place_33 ?_
  try dsimp only
  refine x_aload_n (pc := 36) dX1_place_36 rfl ?_
  refine x_bipush (pc := 37) (-5) dX1_place_37 (by decide) ?_
  refine t_putShape (pc := 39) (by first | assumption | omega) (by first | assumption | omega) 7 (by decide) mF_X1_33 dX1_place_39 ?_
  try dsimp only
  refine x_iconst (pc := 42) (0) dX1_place_42 (by decide) ?_
  refine x_istore (pc := 43) dX1_place_43 (by decide) ?_
  have e := lp 0 (by omega)
  rw [eqE_0] at e
  refine x_sub (l' := [(0, .ref (gB G + shO j i)), (5, .int (nI 0))]) ⟨rfl, rfl, trivial⟩ ?_
  simp only [edgF, shpF, plF, updF_same, updF_upd, updF_self] at e ⊢
  exact e
def cpF (g f : Fs) (k : Nat) : Fs := fun q => if q < k then f q else g q
theorem cpF_0 (g f : Fs) : cpF g f 0 = g := by funext q; simp [cpF]
theorem cpF_s (g f : Fs) (k : Nat) : upd (cpF g f k) k (f k) = cpF g f (k + 1) := by
  funext q
  by_cases h : q = k
  · subst h; simp [cpF, upd]
  · by_cases h2 : q < k
    · simp [cpF, upd, h, h2, Nat.lt_succ_of_lt h2]
    · simp [cpF, upd, h, h2, show ¬ q < k + 1 by omega]
theorem cpF_8 (g f : Fs) : upd (upd (upd (upd (upd (upd (upd (upd g 0 (f 0)) 1 (f 1)) 2 (f 2)) 3 (f 3)) 4 (f 4)) 5 (f 5)) 6 (f 6)) 7 (f 7) = cpF g f 8 := by
  rw [← cpF_s g f 7, ← cpF_s g f 6, ← cpF_s g f 5, ← cpF_s g f 4, ← cpF_s g f 3, ← cpF_s g f 2, ← cpF_s g f 1, ← cpF_s g f 0, cpF_0]
theorem cpF_7 (g f : Fs) : upd (upd (upd (upd (upd (upd (upd g 0 (f 0)) 1 (f 1)) 2 (f 2)) 3 (f 3)) 4 (f 4)) 5 (f 5)) 6 (f 6) = cpF g f 7 := by
  rw [← cpF_s g f 6, ← cpF_s g f 5, ← cpF_s g f 4, ← cpF_s g f 3, ← cpF_s g f 2, ← cpF_s g f 1, ← cpF_s g f 0, cpF_0]
theorem cell_shape2 {j2 : Nat} (hj2 : j2 < 8) (hne : j2 ≠ j) (hi : i < 13) : cellOf G (updS S j σ) B M (shO j2 i) = .inr (1, [.int ((S j2).2.2.2.1 i 0), .int ((S j2).2.2.2.1 i 1), .int ((S j2).2.2.2.1 i 2), .int ((S j2).2.2.2.1 i 3), .int ((S j2).2.2.2.1 i 4), .int ((S j2).2.2.2.1 i 5), .int ((S j2).2.2.2.1 i 6), .int ((S j2).2.2.2.1 i 7), .ref (gB G + egO j2 i)]) := by
  rw [cell_shape' hj2 hi, updS_ne S σ hne]
theorem cell_edge2 {j2 : Nat} (hj2 : j2 < 8) (hne : j2 ≠ j) (hi : i < 13) : cellOf G (updS S j σ) B M (egO j2 i) = .inl (gI G, 12, .inl ((S j2).2.2.2.2 i)) := by
  rw [cell_edge' hj2 hi, updS_ne S σ hne]
theorem cell_sheet2 {j2 : Nat} (hj2 : j2 < 8) (hne : j2 ≠ j) : cellOf G (updS S j σ) B M (sB j2) = .inr (2, [.ref (gB G + arO j2), .ref (gB G + htO j2), .ref (gB G + stO j2), .int ((S j2).1 0), .int ((S j2).1 1), .int ((S j2).1 2), .int ((S j2).1 3), .int ((S j2).1 4), .int ((S j2).1 5), .int ((S j2).1 6)]) := by
  rw [cell_sheet' hj2, updS_ne S σ hne]
theorem cell_heats2 {j2 : Nat} (hj2 : j2 < 8) (hne : j2 ≠ j) : cellOf G (updS S j σ) B M (htO j2) = .inl (gI G, 12, .inl (S j2).2.1) := by
  rw [cell_heats' hj2, updS_ne S σ hne]
theorem cell_sets2 {j2 : Nat} (hj2 : j2 < 8) (hne : j2 ≠ j) : cellOf G (updS S j σ) B M (stO j2) = .inl (gI G, 4, .inl (S j2).2.2.1) := by
  rw [cell_sets' hj2, updS_ne S σ hne]
set_option maxHeartbeats 4000000 in
set_option maxRecDepth 100000 in
theorem c_X1_copyFrom {j2 : Nat} (hj : j < 8) (hj2 : j2 < 8) (hne : j2 ≠ j) (hi : i < 13) : Ct G yX1_copyFrom YX1_copyFrom 0 0 [.ref (gB G + shO j i), .ref (gB G + shO j2 i)] 255 (cellOf G (updS S j σ) B M) (Rt G none (updS S j (edgF (shpF σ i (cpF (σ.2.2.2.1 i) ((S j2).2.2.2.1 i) 8)) i (cpF (σ.2.2.2.2 i) ((S j2).2.2.2.2 i) 12))) B M) := by
  refine ct_of (by decide +kernel) rfl rfl (Nat.le_of_ble_eq_true rfl) (by simp [Value.category]) ?_
  refine x_sub (l' := [(0, .ref (gB G + shO j i)), (1, .ref (gB G + shO j2 i))]) ⟨rfl, rfl, trivial⟩ ?_
  have lp : ∀ k, k ≤ 12 → XJ G YX1_copyFrom (fun _ => True) (Zx G (Rt G none (updS S j (edgF (shpF σ i (cpF (σ.2.2.2.1 i) ((S j2).2.2.2.1 i) 8)) i (cpF (σ.2.2.2.2 i) ((S j2).2.2.2.2 i) 12))) B M) 0 0) 66 [(0, .ref (gB G + shO j i)), (1, .ref (gB G + shO j2 i)), (2, .int (nI k))] [] 255 (cellOf G (updS S j (edgF (shpF σ i (cpF (σ.2.2.2.1 i) ((S j2).2.2.2.1 i) 8)) i (cpF (σ.2.2.2.2 i) ((S j2).2.2.2.2 i) k))) B M) 0 0 := by
    refine loopD 12 ?_
    intro k hk ih
    refine x_iload_n (pc := 66) dX1_copyFrom_66 rfl ?_
    refine x_bipush (pc := 67) (12) dX1_copyFrom_67 (by decide) ?_
    refine x_cmpge (pc := 69) 90 dX1_copyFrom_69 (by decide) (fun c69 => ?_) (fun c69 => ?_)
    · obtain rfl : k = 12 := by have := mt (lt_lit (n := 12) rfl (by decide) (by omega)).mpr c69; omega
      exact x_vret rfl dX1_copyFrom_90 ⟨rfl, rfl, rfl⟩
    · have hk12 : k < 12 := (lt_lit rfl (by decide) (by omega)).mp c69
      refine x_aload_n (pc := 72) dX1_copyFrom_72 rfl ?_
      refine x_get (pc := 73) (ci := 1) (k := 8) (C := RX1) (T := TX1) (N := 9) (cell_shape (by first | assumption | omega) (by first | assumption | omega)) rfl (shO_255 (by first | assumption | omega) (by first | assumption | omega)) rfl nX1 (by decide) mF_X1_38 rfl dX1_copyFrom_73 ?_
      refine x_iload_n (pc := 76) dX1_copyFrom_76 rfl ?_
      refine x_aload_n (pc := 77) dX1_copyFrom_77 rfl ?_
      refine x_get (pc := 78) (ci := 1) (k := 8) (C := RX1) (T := TX1) (N := 9) (cell_shape2 (by assumption) (by assumption) (by first | assumption | omega)) rfl (shO_255 (by assumption) (by first | assumption | omega)) rfl nX1 (by decide) mF_X1_38 rfl dX1_copyFrom_78 ?_
      refine x_iload_n (pc := 81) dX1_copyFrom_81 rfl ?_
      refine t_ild (pc := 82) _ (cell_edge2 (by assumption) (by assumption) (by first | assumption | omega)) (egO_255 (by assumption) (by first | assumption | omega)) rfl (by first | assumption | omega) (by decide) dX1_copyFrom_82 ?_
      refine t_stEdge (pc := 83) (by first | assumption | omega) (by first | assumption | omega) _ (by first | assumption | omega) rfl dX1_copyFrom_83 ?_
      try dsimp only
      refine x_iinc (pc := 84) (nI (k + 1)) dX1_copyFrom_84 rfl (iinc_nI k) (by decide) ?_
      refine x_goto (pc := 87) 66 dX1_copyFrom_87 (by decide) ?_
      refine x_sub (l' := [(0, .ref (gB G + shO j i)), (1, .ref (gB G + shO j2 i)), (2, .int (nI (k + 1)))]) ⟨rfl, rfl, rfl, trivial⟩ ?_
      have e := ih hk12
      rw [← cpF_s (σ.2.2.2.2 i) _ k] at e
      simp only [edgF, shpF, updF_same, updF_upd] at e ⊢
      exact e
  refine x_aload_n (pc := 0) dX1_copyFrom_0 rfl ?_
  refine x_aload_n (pc := 1) dX1_copyFrom_1 rfl ?_
  refine x_get (pc := 2) (ci := 1) (k := 0) (C := RX1) (T := TX1) (N := 9) (cell_shape2 (by assumption) (by assumption) (by first | assumption | omega)) rfl (shO_255 (by assumption) (by first | assumption | omega)) rfl nX1 (by decide) mF_X1_9 rfl dX1_copyFrom_2 ?_
  refine t_putShape (pc := 5) (by first | assumption | omega) (by first | assumption | omega) 0 (by decide) mF_X1_9 dX1_copyFrom_5 ?_
  try dsimp only [shpF]
  refine x_aload_n (pc := 8) dX1_copyFrom_8 rfl ?_
  refine x_aload_n (pc := 9) dX1_copyFrom_9 rfl ?_
  refine x_get (pc := 10) (ci := 1) (k := 1) (C := RX1) (T := TX1) (N := 9) (cell_shape2 (by assumption) (by assumption) (by first | assumption | omega)) rfl (shO_255 (by assumption) (by first | assumption | omega)) rfl nX1 (by decide) mF_X1_15 rfl dX1_copyFrom_10 ?_
  refine t_putShape (pc := 13) (by first | assumption | omega) (by first | assumption | omega) 1 (by decide) mF_X1_15 dX1_copyFrom_13 ?_
  try dsimp only [shpF]
  refine x_aload_n (pc := 16) dX1_copyFrom_16 rfl ?_
  refine x_aload_n (pc := 17) dX1_copyFrom_17 rfl ?_
  refine x_get (pc := 18) (ci := 1) (k := 2) (C := RX1) (T := TX1) (N := 9) (cell_shape2 (by assumption) (by assumption) (by first | assumption | omega)) rfl (shO_255 (by assumption) (by first | assumption | omega)) rfl nX1 (by decide) mF_X1_18 rfl dX1_copyFrom_18 ?_
  refine t_putShape (pc := 21) (by first | assumption | omega) (by first | assumption | omega) 2 (by decide) mF_X1_18 dX1_copyFrom_21 ?_
  try dsimp only [shpF]
  refine x_aload_n (pc := 24) dX1_copyFrom_24 rfl ?_
  refine x_aload_n (pc := 25) dX1_copyFrom_25 rfl ?_
  refine x_get (pc := 26) (ci := 1) (k := 3) (C := RX1) (T := TX1) (N := 9) (cell_shape2 (by assumption) (by assumption) (by first | assumption | omega)) rfl (shO_255 (by assumption) (by first | assumption | omega)) rfl nX1 (by decide) mF_X1_21 rfl dX1_copyFrom_26 ?_
  refine t_putShape (pc := 29) (by first | assumption | omega) (by first | assumption | omega) 3 (by decide) mF_X1_21 dX1_copyFrom_29 ?_
  try dsimp only [shpF]
  refine x_aload_n (pc := 32) dX1_copyFrom_32 rfl ?_
  refine x_aload_n (pc := 33) dX1_copyFrom_33 rfl ?_
  refine x_get (pc := 34) (ci := 1) (k := 4) (C := RX1) (T := TX1) (N := 9) (cell_shape2 (by assumption) (by assumption) (by first | assumption | omega)) rfl (shO_255 (by assumption) (by first | assumption | omega)) rfl nX1 (by decide) mF_X1_24 rfl dX1_copyFrom_34 ?_
  refine t_putShape (pc := 37) (by first | assumption | omega) (by first | assumption | omega) 4 (by decide) mF_X1_24 dX1_copyFrom_37 ?_
  try dsimp only [shpF]
  refine x_aload_n (pc := 40) dX1_copyFrom_40 rfl ?_
  refine x_aload_n (pc := 41) dX1_copyFrom_41 rfl ?_
  refine x_get (pc := 42) (ci := 1) (k := 5) (C := RX1) (T := TX1) (N := 9) (cell_shape2 (by assumption) (by assumption) (by first | assumption | omega)) rfl (shO_255 (by assumption) (by first | assumption | omega)) rfl nX1 (by decide) mF_X1_27 rfl dX1_copyFrom_42 ?_
  refine t_putShape (pc := 45) (by first | assumption | omega) (by first | assumption | omega) 5 (by decide) mF_X1_27 dX1_copyFrom_45 ?_
  try dsimp only [shpF]
  refine x_aload_n (pc := 48) dX1_copyFrom_48 rfl ?_
  refine x_aload_n (pc := 49) dX1_copyFrom_49 rfl ?_
  refine x_get (pc := 50) (ci := 1) (k := 6) (C := RX1) (T := TX1) (N := 9) (cell_shape2 (by assumption) (by assumption) (by first | assumption | omega)) rfl (shO_255 (by assumption) (by first | assumption | omega)) rfl nX1 (by decide) mF_X1_30 rfl dX1_copyFrom_50 ?_
  refine t_putShape (pc := 53) (by first | assumption | omega) (by first | assumption | omega) 6 (by decide) mF_X1_30 dX1_copyFrom_53 ?_
  try dsimp only [shpF]
  refine x_aload_n (pc := 56) dX1_copyFrom_56 rfl ?_
  refine x_aload_n (pc := 57) dX1_copyFrom_57 rfl ?_
  refine x_get (pc := 58) (ci := 1) (k := 7) (C := RX1) (T := TX1) (N := 9) (cell_shape2 (by assumption) (by assumption) (by first | assumption | omega)) rfl (shO_255 (by assumption) (by first | assumption | omega)) rfl nX1 (by decide) mF_X1_33 rfl dX1_copyFrom_58 ?_
  refine t_putShape (pc := 61) (by first | assumption | omega) (by first | assumption | omega) 7 (by decide) mF_X1_33 dX1_copyFrom_61 ?_
  try dsimp only [shpF]
  refine x_iconst (pc := 64) (0) dX1_copyFrom_64 (by decide) ?_
  refine x_istore_n (pc := 65) dX1_copyFrom_65 (by decide) ?_
  have e := lp 0 (by omega)
  rw [cpF_0 (σ.2.2.2.2 i)] at e
  refine x_sub (l' := [(0, .ref (gB G + shO j i)), (1, .ref (gB G + shO j2 i)), (2, .int (nI 0))]) ⟨rfl, rfl, rfl, trivial⟩ ?_
  simp only [edgF, shpF, updF_same, updF_upd, updF_self] at e ⊢
  rw [cpF_8]
  exact e
end SHEET1
end
section
/-! the class: Sheet's readers (rows laid by wip/whole/p13.py) -/
theorem tl_iff {A : Ab} (ht : A.1 ≤ 12) {k : Nat} (hk : k ≤ A.1) : nI k < nI A.1 ↔ k < A.1 := nI_ltI (by omega) (by omega)
section RCS
variable {σ : Sh} {A : Ab} {i k : Nat}
theorem insB_c {f f' g g' : Fs} (h : ∀ k, k < 8 → f k = f' k) (h2 : ∀ k, k < 8 → g k = g' k) : insB f g = insB f' g' := by
  simp only [insB, h 0 (by decide), h 1 (by decide), h 2 (by decide), h 3 (by decide), h2 0 (by decide), h2 1 (by decide), h2 2 (by decide), h2 3 (by decide)]
theorem apaB_c {f f' g g' : Fs} (h : ∀ k, k < 8 → f k = f' k) (h2 : ∀ k, k < 8 → g k = g' k) : apaB f g = apaB f' g' := by
  simp only [apaB, h 0 (by decide), h 1 (by decide), h 2 (by decide), h 3 (by decide), h2 0 (by decide), h2 1 (by decide), h2 2 (by decide), h2 3 (by decide)]
theorem edgV_c {f f' : Fs} (h : ∀ k, k < 8 → f k = f' k) : edgV f = edgV f' := by simp only [edgV, h 2 (by decide), h 3 (by decide)]
theorem lcV_c {f f' : Fs} (h : ∀ k, k < 8 → f k = f' k) : lcV f = lcV f' := by simp only [lcV, h 0 (by decide), h 2 (by decide), h 4 (by decide)]
theorem lrV_c {f f' : Fs} (h : ∀ k, k < 8 → f k = f' k) : lrV f = lrV f' := by simp only [lrV, h 1 (by decide), h 3 (by decide), h 4 (by decide)]
theorem lsV_c {f f' : Fs} (h : ∀ k, k < 8 → f k = f' k) : lsV f = lsV f' := by simp only [lsV, lcV_c h, lrV_c h]
theorem edgQ_c {f f' : Fs} (h : ∀ k, k < 8 → f k = f' k) (k : Nat) : edgQ f k = edgQ f' k := by simp only [edgQ, fldV, fcV, frV, h 0 (by decide), h 1 (by decide), h 2 (by decide), h 3 (by decide)]
theorem RC.ins (h : RC σ A) (hi : i < A.1) (hk : k < A.1) : insB (σ.2.2.2.1 i) (σ.2.2.2.1 k) = insB (A.2.2.2.2 i) (A.2.2.2.2 k) := insB_c (fun q hq => h.shp hi q hq) (fun q hq => h.shp hk q hq)
theorem RC.ins1 (h : RC σ A) (f : Fs) (hi : i < A.1) : insB (σ.2.2.2.1 i) f = insB (A.2.2.2.2 i) f := insB_c (fun q hq => h.shp hi q hq) (fun _ _ => rfl)
theorem RC.ins2 (h : RC σ A) (f : Fs) (hi : i < A.1) : insB f (σ.2.2.2.1 i) = insB f (A.2.2.2.2 i) := insB_c (fun _ _ => rfl) (fun q hq => h.shp hi q hq)
theorem RC.apa2 (h : RC σ A) (f : Fs) (hi : i < A.1) : apaB f (σ.2.2.2.1 i) = apaB f (A.2.2.2.2 i) := apaB_c (fun _ _ => rfl) (fun q hq => h.shp hi q hq)
theorem RC.ed (h : RC σ A) (hi : i < A.1) : edgV (σ.2.2.2.1 i) = edgV (A.2.2.2.2 i) := edgV_c (fun q hq => h.shp hi q hq)
theorem RC.lc (h : RC σ A) (hi : i < A.1) : lcV (σ.2.2.2.1 i) = lcV (A.2.2.2.2 i) := lcV_c (fun q hq => h.shp hi q hq)
theorem RC.lr (h : RC σ A) (hi : i < A.1) : lrV (σ.2.2.2.1 i) = lrV (A.2.2.2.2 i) := lrV_c (fun q hq => h.shp hi q hq)
theorem RC.ls (h : RC σ A) (hi : i < A.1) : lsV (σ.2.2.2.1 i) = lsV (A.2.2.2.2 i) := lsV_c (fun q hq => h.shp hi q hq)
theorem hoB_mono {P : Nat → Fs} {f : Fs} {k : Nat} (h : hoB P f k = true) : ∀ n, k ≤ n → hoB P f n = true := by
  intro n hn
  induction n with
  | zero => rw [show (0 : Nat) = k by omega]; exact h
  | succ n ih =>
    by_cases hk : k = n + 1
    · subst hk; exact h
    · simp only [hoB, ih (by omega), Bool.true_or]
theorem fitB_mono {P : Nat → Fs} {f : Fs} {k : Nat} (h : fitB P f k = false) : ∀ n, k ≤ n → fitB P f n = false := by
  intro n hn
  induction n with
  | zero => rw [show (0 : Nat) = k by omega]; exact h
  | succ n ih =>
    by_cases hk : k = n + 1
    · subst hk; exact h
    · simp only [fitB, ih (by omega), Bool.false_and]
end RCS
section SHEET2
variable {G : GX} {S : Nat → Sh} {B : Bc} {M : Md} {j i : Nat} {σ : Sh}
variable {A : Ab}
set_option maxHeartbeats 4000000 in
set_option maxRecDepth 100000 in
theorem c_X2_knows (hj : j < 8) (hR : RC σ A) (v : Int32) : Ct G yX2_knows YX2_knows 0 0 [.ref (gB G + sB j), .int v] 255 (cellOf G (updS S j σ) B M) (Rt G (some (.int (b01 (knB A v)))) (updS S j σ) B M) := by
  refine ct_of (by decide +kernel) rfl rfl (Nat.le_of_ble_eq_true rfl) (by simp [Value.category]) ?_
  refine x_sub (l' := [(0, .ref (gB G + sB j)), (1, .int v)]) ⟨rfl, rfl, trivial⟩ ?_
  have h12 := hR.le
  refine x_iload_n (pc := 0) dX2_knows_0 rfl ?_
  refine x_iflt (pc := 1) 22 dX2_knows_1 (by decide) (fun c1 => ?_) (fun c1 => ?_)
  · refine x_iconst (pc := 22) (0) dX2_knows_22 (by decide) ?_
    exact x_zret rfl rfl dX2_knows_23 ⟨by simp only [b01, knB, *, decide_true, decide_false, decide_not, Bool.and_true, Bool.true_and, Bool.and_false, Bool.false_and, Bool.or_true, Bool.true_or, Bool.or_false, Bool.false_or, Bool.not_true, Bool.not_false, if_true, if_false, not_true, not_false_eq_true, not_false_iff, Bool.false_eq_true, reduceIte, or_true, true_or, or_false, false_or, and_true, true_and, and_false, false_and, ite_self], rfl, rfl⟩
  · refine x_iload_n (pc := 4) dX2_knows_4 rfl ?_
    refine x_aload_n (pc := 5) dX2_knows_5 rfl ?_
    refine x_get (pc := 6) (ci := 2) (k := 3) (C := RX2) (T := TX2) (N := 10) (cell_sheet (by first | assumption | omega)) rfl (sB_255 (by first | assumption | omega)) rfl nX2 (by decide) mF_X2_25 rfl dX2_knows_6 ?_
    rw [hR.told]
    refine x_cmpge (pc := 9) 22 dX2_knows_9 (by decide) (fun c9 => ?_) (fun c9 => ?_)
    · refine x_iconst (pc := 22) (0) dX2_knows_22 (by decide) ?_
      exact x_zret rfl rfl dX2_knows_23 ⟨by simp only [b01, knB, *, decide_true, decide_false, decide_not, Bool.and_true, Bool.true_and, Bool.and_false, Bool.false_and, Bool.or_true, Bool.true_or, Bool.or_false, Bool.false_or, Bool.not_true, Bool.not_false, if_true, if_false, not_true, not_false_eq_true, not_false_iff, Bool.false_eq_true, reduceIte, or_true, true_or, or_false, false_or, and_true, true_and, and_false, false_and, ite_self], rfl, rfl⟩
    · refine x_iload_n (pc := 12) dX2_knows_12 rfl ?_
      refine x_bipush (pc := 13) (12) dX2_knows_13 (by decide) ?_
      refine x_cmpge (pc := 15) 22 dX2_knows_15 (by decide) (fun c15 => ?_) (fun c15 => ?_)
      · refine x_iconst (pc := 22) (0) dX2_knows_22 (by decide) ?_
        exact x_zret rfl rfl dX2_knows_23 ⟨by simp only [b01, knB, *, decide_true, decide_false, decide_not, Bool.and_true, Bool.true_and, Bool.and_false, Bool.false_and, Bool.or_true, Bool.true_or, Bool.or_false, Bool.false_or, Bool.not_true, Bool.not_false, if_true, if_false, not_true, not_false_eq_true, not_false_iff, Bool.false_eq_true, reduceIte, or_true, true_or, or_false, false_or, and_true, true_and, and_false, false_and, ite_self], rfl, rfl⟩
      · refine x_iconst (pc := 18) (1) dX2_knows_18 (by decide) ?_
        refine x_goto (pc := 19) 23 dX2_knows_19 (by decide) ?_
        exact x_zret rfl rfl dX2_knows_23 ⟨by simp only [b01, knB, *, decide_true, decide_false, decide_not, Bool.and_true, Bool.true_and, Bool.and_false, Bool.false_and, Bool.or_true, Bool.true_or, Bool.or_false, Bool.false_or, Bool.not_true, Bool.not_false, if_true, if_false, not_true, not_false_eq_true, not_false_iff, Bool.false_eq_true, reduceIte, or_true, true_or, or_false, false_or, and_true, true_and, and_false, false_and, ite_self], rfl, rfl⟩
set_option maxHeartbeats 4000000 in
set_option maxRecDepth 100000 in
theorem c_X2_wayTo (hj : j < 8) (hR : RC σ A) (hi : i < A.1) : Ct G yX2_wayTo YX2_wayTo 0 0 [.ref (gB G + sB j), .ref (gB G + shO j i)] 255 (cellOf G (updS S j σ) B M) (Rt G (some (.int (wayV A i))) (updS S j σ) B M) := by
  refine ct_of (by decide +kernel) rfl rfl (Nat.le_of_ble_eq_true rfl) (by simp [Value.category]) ?_
  refine x_sub (l' := [(0, .ref (gB G + sB j)), (1, .ref (gB G + shO j i))]) ⟨rfl, rfl, trivial⟩ ?_
  have h12 := hR.le
  refine x_aload_n (pc := 0) dX2_wayTo_0 rfl ?_
  refine t_Vi (pc := 1) (c_X1_leadColumn (by first | assumption | omega) (by first | assumption | omega)) qV_X1_leadColumn mL_X2_97 dX2_wayTo_1 rfl (cell_shape (by first | assumption | omega) (by first | assumption | omega)) (shO_255 (by first | assumption | omega) (by first | assumption | omega)) rfl rfl rfl ⟨by decide, by decide⟩ (Nat.le_of_ble_eq_true rfl) (Nat.le_of_ble_eq_true rfl) (Nat.le_of_ble_eq_true rfl) ?_
  rw [hR.lc (by first | assumption | omega)]
  refine x_aload_n (pc := 4) dX2_wayTo_4 rfl ?_
  refine x_get (pc := 5) (ci := 2) (k := 4) (C := RX2) (T := TX2) (N := 10) (cell_sheet (by first | assumption | omega)) rfl (sB_255 (by first | assumption | omega)) rfl nX2 (by decide) mF_X2_29 rfl dX2_wayTo_5 ?_
  rw [hR.int 1]
  refine x_isub (pc := 8) dX2_wayTo_8 ?_
  refine x_abs (pc := 9) mL_X2_137 (by decide) (Nat.le_of_ble_eq_true rfl) (Nat.le_of_ble_eq_true rfl) (Nat.le_of_ble_eq_true rfl) dX2_wayTo_9 ?_
  refine x_aload_n (pc := 12) dX2_wayTo_12 rfl ?_
  refine t_Vi (pc := 13) (c_X1_leadRow (by first | assumption | omega) (by first | assumption | omega)) qV_X1_leadRow mL_X2_101 dX2_wayTo_13 rfl (cell_shape (by first | assumption | omega) (by first | assumption | omega)) (shO_255 (by first | assumption | omega) (by first | assumption | omega)) rfl rfl rfl ⟨by decide, by decide⟩ (Nat.le_of_ble_eq_true rfl) (Nat.le_of_ble_eq_true rfl) (Nat.le_of_ble_eq_true rfl) ?_
  rw [hR.lr (by first | assumption | omega)]
  refine x_aload_n (pc := 16) dX2_wayTo_16 rfl ?_
  refine x_get (pc := 17) (ci := 2) (k := 5) (C := RX2) (T := TX2) (N := 10) (cell_sheet (by first | assumption | omega)) rfl (sB_255 (by first | assumption | omega)) rfl nX2 (by decide) mF_X2_32 rfl dX2_wayTo_17 ?_
  rw [hR.int 2]
  refine x_isub (pc := 20) dX2_wayTo_20 ?_
  refine x_abs (pc := 21) mL_X2_137 (by decide) (Nat.le_of_ble_eq_true rfl) (Nat.le_of_ble_eq_true rfl) (Nat.le_of_ble_eq_true rfl) dX2_wayTo_21 ?_
  refine x_iadd (pc := 24) dX2_wayTo_24 ?_
  exact x_iret rfl dX2_wayTo_25 ⟨by rfl, rfl, rfl⟩
set_option maxHeartbeats 4000000 in
set_option maxRecDepth 100000 in
theorem c_X2_burningOf (hj : j < 8) (hR : RC σ A) (hi : i < A.1) : Ct G yX2_burningOf YX2_burningOf 0 0 [.ref (gB G + sB j), .ref (gB G + shO j i)] 255 (cellOf G (updS S j σ) B M) (Rt G (some (.int (burV A i))) (updS S j σ) B M) := by
  refine ct_of (by decide +kernel) rfl rfl (Nat.le_of_ble_eq_true rfl) (by simp [Value.category]) ?_
  refine x_sub (l' := [(0, .ref (gB G + sB j)), (1, .ref (gB G + shO j i))]) ⟨rfl, rfl, trivial⟩ ?_
  have h12 := hR.le
  refine x_aload_n (pc := 0) dX2_burningOf_0 rfl ?_
  refine t_Vi (pc := 1) (c_X1_edge (by first | assumption | omega) (by first | assumption | omega)) qV_X1_edge mL_X2_140 dX2_burningOf_1 rfl (cell_shape (by first | assumption | omega) (by first | assumption | omega)) (shO_255 (by first | assumption | omega) (by first | assumption | omega)) rfl rfl rfl ⟨by decide, by decide⟩ (Nat.le_of_ble_eq_true rfl) (Nat.le_of_ble_eq_true rfl) (Nat.le_of_ble_eq_true rfl) ?_
  rw [hR.ed (by first | assumption | omega)]
  refine x_iconst (pc := 4) (2) dX2_burningOf_4 (by decide) ?_
  refine x_aload_n (pc := 5) dX2_burningOf_5 rfl ?_
  refine x_get (pc := 6) (ci := 2) (k := 6) (C := RX2) (T := TX2) (N := 10) (cell_sheet (by first | assumption | omega)) rfl (sB_255 (by first | assumption | omega)) rfl nX2 (by decide) mF_X2_35 rfl dX2_burningOf_6 ?_
  rw [hR.int 3]
  refine x_iconst (pc := 9) (4) dX2_burningOf_9 (by decide) ?_
  refine x_idiv (pc := 10) dX2_burningOf_10 (by decide) ?_
  refine x_iadd (pc := 11) dX2_burningOf_11 ?_
  refine x_imul (pc := 12) dX2_burningOf_12 ?_
  exact x_iret rfl dX2_burningOf_13 ⟨by rfl, rfl, rfl⟩
set_option maxHeartbeats 4000000 in
set_option maxRecDepth 100000 in
theorem c_X2_holdsWholeShape (hj : j < 8) (hR : RC σ A) (hi : i < A.1) : Ct G yX2_holdsWholeShape YX2_holdsWholeShape 0 0 [.ref (gB G + sB j), .ref (gB G + shO j i)] 255 (cellOf G (updS S j σ) B M) (Rt G (some (.int (b01 (hoB A.2.2.2.2 (A.2.2.2.2 i) A.1)))) (updS S j σ) B M) := by
  refine ct_of (by decide +kernel) rfl rfl (Nat.le_of_ble_eq_true rfl) (by simp [Value.category]) ?_
  refine x_sub (l' := [(0, .ref (gB G + sB j)), (1, .ref (gB G + shO j i))]) ⟨rfl, rfl, trivial⟩ ?_
  have h12 := hR.le
  have lp : ∀ k, k ≤ A.1 → hoB A.2.2.2.2 (A.2.2.2.2 i) k = false → XJ G YX2_holdsWholeShape (fun _ => True) (Zx G (Rt G (some (.int (b01 (hoB A.2.2.2.2 (A.2.2.2.2 i) A.1)))) (updS S j σ) B M) 0 0) 2 [(0, .ref (gB G + sB j)), (1, .ref (gB G + shO j i)), (2, .int (nI k))] [] 255 (cellOf G (updS S j σ) B M) 0 0 := by
    refine loopD (A.1) ?_
    intro k hk ih hf
    refine x_iload_n (pc := 2) dX2_holdsWholeShape_2 rfl ?_
    refine x_aload_n (pc := 3) dX2_holdsWholeShape_3 rfl ?_
    refine x_get (pc := 4) (ci := 2) (k := 3) (C := RX2) (T := TX2) (N := 10) (cell_sheet (by first | assumption | omega)) rfl (sB_255 (by first | assumption | omega)) rfl nX2 (by decide) mF_X2_25 rfl dX2_holdsWholeShape_4 ?_
    rw [hR.told]
    refine x_cmpge (pc := 7) 43 dX2_holdsWholeShape_7 (by decide) (fun c7 => ?_) (fun c7 => ?_)
    · obtain rfl : k = A.1 := by have := mt (tl_iff hR.le hk).mpr c7; omega
      refine x_iconst (pc := 43) (0) dX2_holdsWholeShape_43 (by decide) ?_
      exact x_zret rfl rfl dX2_holdsWholeShape_44 ⟨by rw [hf]; rfl, rfl, rfl⟩
    · have hkn : k < A.1 := (tl_iff hR.le hk).mp c7
      refine x_aload_n (pc := 10) dX2_holdsWholeShape_10 rfl ?_
      refine x_get (pc := 11) (ci := 2) (k := 0) (C := RX2) (T := TX2) (N := 10) (cell_sheet (by first | assumption | omega)) rfl (sB_255 (by first | assumption | omega)) rfl nX2 (by decide) mF_X2_13 rfl dX2_holdsWholeShape_11 ?_
      refine x_iload_n (pc := 14) dX2_holdsWholeShape_14 rfl ?_
      refine t_shapes (pc := 15) _ (by first | assumption | omega) rfl (by first | assumption | omega) dX2_holdsWholeShape_15 ?_
      refine x_get (pc := 16) (ci := 1) (k := 5) (C := RX1) (T := TX1) (N := 9) (cell_shape (by first | assumption | omega) (by first | assumption | omega)) rfl (shO_255 (by first | assumption | omega) (by first | assumption | omega)) rfl nX1 (by decide) mF_X2_66 rfl dX2_holdsWholeShape_16 ?_
      rw [hR.shp (by first | assumption | omega) 5]
      refine x_ifne (pc := 19) 37 dX2_holdsWholeShape_19 (by decide) (fun c19 => ?_) (fun c19 => ?_)
      · refine x_iinc (pc := 37) (nI (k + 1)) dX2_holdsWholeShape_37 rfl (iinc_nI k) (by decide) ?_
        refine x_goto (pc := 40) 2 dX2_holdsWholeShape_40 (by decide) ?_
        have e := ih hkn (by simp only [hoB, hf]; simp_all [b01])
        exact x_back e ⟨rfl, rfl, rfl, trivial⟩
      · refine x_aload_n (pc := 22) dX2_holdsWholeShape_22 rfl ?_
        refine x_get (pc := 23) (ci := 2) (k := 0) (C := RX2) (T := TX2) (N := 10) (cell_sheet (by first | assumption | omega)) rfl (sB_255 (by first | assumption | omega)) rfl nX2 (by decide) mF_X2_13 rfl dX2_holdsWholeShape_23 ?_
        refine x_iload_n (pc := 26) dX2_holdsWholeShape_26 rfl ?_
        refine t_shapes (pc := 27) _ (by first | assumption | omega) rfl (by first | assumption | omega) dX2_holdsWholeShape_27 ?_
        refine x_aload_n (pc := 28) dX2_holdsWholeShape_28 rfl ?_
        refine t_Vi (pc := 29) (c_X1_isInside (by first | assumption | omega) (by first | assumption | omega) (by first | assumption | omega)) qV_X1_isInside mL_X2_63 dX2_holdsWholeShape_29 rfl (cell_shape (by first | assumption | omega) (by first | assumption | omega)) (shO_255 (by first | assumption | omega) (by first | assumption | omega)) rfl rfl rfl ⟨by decide, by decide⟩ (Nat.le_of_ble_eq_true rfl) (Nat.le_of_ble_eq_true rfl) (Nat.le_of_ble_eq_true rfl) ?_
        rw [hR.ins (by first | assumption | omega) (by first | assumption | omega)]
        refine x_ifeq (pc := 32) 37 dX2_holdsWholeShape_32 (by decide) (fun c32 => ?_) (fun c32 => ?_)
        · refine x_iinc (pc := 37) (nI (k + 1)) dX2_holdsWholeShape_37 rfl (iinc_nI k) (by decide) ?_
          refine x_goto (pc := 40) 2 dX2_holdsWholeShape_40 (by decide) ?_
          have e := ih hkn (by simp only [hoB, hf]; simp_all [b01])
          exact x_back e ⟨rfl, rfl, rfl, trivial⟩
        · refine x_iconst (pc := 35) (1) dX2_holdsWholeShape_35 (by decide) ?_
          exact x_zret rfl rfl dX2_holdsWholeShape_36 ⟨by rw [hoB_mono (k := k + 1) (by simp only [hoB, hf]; simp_all [b01]) A.1 hkn]; rfl, rfl, rfl⟩
  refine x_iconst (pc := 0) (0) dX2_holdsWholeShape_0 (by decide) ?_
  refine x_istore_n (pc := 1) dX2_holdsWholeShape_1 (by decide) ?_
  exact x_back (lp 0 (by omega) rfl) ⟨rfl, rfl, rfl, trivial⟩
set_option maxHeartbeats 4000000 in
set_option maxRecDepth 100000 in
theorem c_X2_heatOver (hj : j < 8) (hR : RC σ A) (hi : i < A.1) : Ct G yX2_heatOver YX2_heatOver 0 0 [.ref (gB G + sB j), .ref (gB G + shO j i)] 255 (cellOf G (updS S j σ) B M) (Rt G (some (.int (hovV A i))) (updS S j σ) B M) := by
  refine ct_of (by decide +kernel) rfl rfl (Nat.le_of_ble_eq_true rfl) (by simp [Value.category]) ?_
  refine x_sub (l' := [(0, .ref (gB G + sB j)), (1, .ref (gB G + shO j i))]) ⟨rfl, rfl, trivial⟩ ?_
  have h12 := hR.le
  have lp : ∀ k, k ≤ 12 → XJ G YX2_heatOver (fun _ => True) (Zx G (Rt G (some (.int (hovV A i))) (updS S j σ) B M) 0 0) 4 [(0, .ref (gB G + sB j)), (1, .ref (gB G + shO j i)), (2, .int (hmx (edgQ (A.2.2.2.2 i)) A.2.2.1 k)), (3, .int (nI k))] [] 255 (cellOf G (updS S j σ) B M) 0 0 := by
    refine loopD (12) ?_
    intro k hk ih
    refine x_iload_n (pc := 4) dX2_heatOver_4 rfl ?_
    refine x_bipush (pc := 5) (12) dX2_heatOver_5 (by decide) ?_
    refine x_cmpge (pc := 7) 36 dX2_heatOver_7 (by decide) (fun c7 => ?_) (fun c7 => ?_)
    · obtain rfl : k = 12 := by have := mt (lt_lit (n := 12) rfl (by decide) (by omega)).mpr c7; omega
      refine x_iload_n (pc := 36) dX2_heatOver_36 rfl ?_
      refine x_aload_n (pc := 37) dX2_heatOver_37 rfl ?_
      refine x_get (pc := 38) (ci := 2) (k := 2) (C := RX2) (T := TX2) (N := 10) (cell_sheet (by first | assumption | omega)) rfl (sB_255 (by first | assumption | omega)) rfl nX2 (by decide) mF_X2_22 rfl dX2_heatOver_38 ?_
      refine x_iconst (pc := 41) (2) dX2_heatOver_41 (by decide) ?_
      refine t_ild (pc := 42) 2 (cell_sets (by first | assumption | omega)) (stO_255 (by first | assumption | omega)) rfl (by decide) (by decide) dX2_heatOver_42 ?_
      rw [hR.sett _ (by decide)]
      refine x_isub (pc := 43) dX2_heatOver_43 ?_
      exact x_iret rfl dX2_heatOver_44 ⟨by rfl, rfl, rfl⟩
    · have hkn : k < 12 := (lt_lit rfl (by decide) (by omega)).mp c7
      refine x_aload_n (pc := 10) dX2_heatOver_10 rfl ?_
      refine x_get (pc := 11) (ci := 1) (k := 8) (C := RX1) (T := TX1) (N := 9) (cell_shape (by first | assumption | omega) (by first | assumption | omega)) rfl (shO_255 (by first | assumption | omega) (by first | assumption | omega)) rfl nX1 (by decide) mF_X2_128 rfl dX2_heatOver_11 ?_
      refine x_iload_n (pc := 14) dX2_heatOver_14 rfl ?_
      refine t_ild (pc := 15) _ (cell_edge (by first | assumption | omega) (by first | assumption | omega)) (egO_255 (by first | assumption | omega) (by first | assumption | omega)) rfl (by first | assumption | omega) (by decide) dX2_heatOver_15 ?_
      rw [hR.edg (by first | assumption | omega) _ (by first | assumption | omega)]
      refine x_ifle (pc := 16) 30 dX2_heatOver_16 (by decide) (fun c16 => ?_) (fun c16 => ?_)
      · refine x_iinc (pc := 30) (nI (k + 1)) dX2_heatOver_30 rfl (iinc_nI k) (by decide) ?_
        refine x_goto (pc := 33) 4 dX2_heatOver_33 (by decide) ?_
        have e := ih hkn
        simp only [hmx, *, if_true, if_false] at e
        exact x_back e ⟨rfl, rfl, rfl, rfl, trivial⟩
      · refine x_iload_n (pc := 19) dX2_heatOver_19 rfl ?_
        refine x_aload_n (pc := 20) dX2_heatOver_20 rfl ?_
        refine x_get (pc := 21) (ci := 2) (k := 1) (C := RX2) (T := TX2) (N := 10) (cell_sheet (by first | assumption | omega)) rfl (sB_255 (by first | assumption | omega)) rfl nX2 (by decide) mF_X2_18 rfl dX2_heatOver_21 ?_
        refine x_iload_n (pc := 24) dX2_heatOver_24 rfl ?_
        refine t_ild (pc := 25) _ (cell_heats (by first | assumption | omega)) (htO_255 (by first | assumption | omega)) rfl (by first | assumption | omega) (by decide) dX2_heatOver_25 ?_
        rw [hR.heat _ (by first | assumption | omega)]
        refine x_max (pc := 26) mL_X2_131 (by decide) (Nat.le_of_ble_eq_true rfl) (Nat.le_of_ble_eq_true rfl) (Nat.le_of_ble_eq_true rfl) dX2_heatOver_26 ?_
        refine x_istore_n (pc := 29) dX2_heatOver_29 (by decide) ?_
        refine x_iinc (pc := 30) (nI (k + 1)) dX2_heatOver_30 rfl (iinc_nI k) (by decide) ?_
        refine x_goto (pc := 33) 4 dX2_heatOver_33 (by decide) ?_
        have e := ih hkn
        simp only [hmx, *, if_true, if_false] at e
        exact x_back e ⟨rfl, rfl, rfl, rfl, trivial⟩
  refine x_iconst (pc := 0) (0) dX2_heatOver_0 (by decide) ?_
  refine x_istore_n (pc := 1) dX2_heatOver_1 (by decide) ?_
  refine x_iconst (pc := 2) (0) dX2_heatOver_2 (by decide) ?_
  refine x_istore_n (pc := 3) dX2_heatOver_3 (by decide) ?_
  exact x_back (lp 0 (by omega)) ⟨rfl, rfl, rfl, rfl, trivial⟩
set_option maxHeartbeats 4000000 in
set_option maxRecDepth 100000 in
theorem c_X2_reasonAgainst (hj : j < 8) (hR : RC σ A) (hi : i < A.1) : Ct G yX2_reasonAgainst YX2_reasonAgainst 0 0 [.ref (gB G + sB j), .int (nI i)] 255 (cellOf G (updS S j σ) B M) (Rt G (some (.int (whyV A i))) (updS S j σ) B M) := by
  refine ct_of (by decide +kernel) rfl rfl (Nat.le_of_ble_eq_true rfl) (by simp [Value.category]) ?_
  refine x_sub (l' := [(0, .ref (gB G + sB j)), (1, .int (nI i))]) ⟨rfl, rfl, trivial⟩ ?_
  have h12 := hR.le
  refine x_aload_n (pc := 0) dX2_reasonAgainst_0 rfl ?_
  refine x_get (pc := 1) (ci := 2) (k := 0) (C := RX2) (T := TX2) (N := 10) (cell_sheet (by first | assumption | omega)) rfl (sB_255 (by first | assumption | omega)) rfl nX2 (by decide) mF_X2_13 rfl dX2_reasonAgainst_1 ?_
  refine x_iload_n (pc := 4) dX2_reasonAgainst_4 rfl ?_
  refine t_shapes (pc := 5) _ (by first | assumption | omega) rfl (by first | assumption | omega) dX2_reasonAgainst_5 ?_
  refine x_astore_n (pc := 6) dX2_reasonAgainst_6 (by decide) ?_
  refine x_aload_n (pc := 7) dX2_reasonAgainst_7 rfl ?_
  refine x_get (pc := 8) (ci := 1) (k := 5) (C := RX1) (T := TX1) (N := 9) (cell_shape (by first | assumption | omega) (by first | assumption | omega)) rfl (shO_255 (by first | assumption | omega) (by first | assumption | omega)) rfl nX1 (by decide) mF_X2_66 rfl dX2_reasonAgainst_8 ?_
  rw [hR.shp (by first | assumption | omega) 5]
  refine x_iconst (pc := 11) (1) dX2_reasonAgainst_11 (by decide) ?_
  refine x_cmpne (pc := 12) 17 dX2_reasonAgainst_12 (by decide) (fun c12 => ?_) (fun c12 => ?_)
  · refine x_aload_n (pc := 17) dX2_reasonAgainst_17 rfl ?_
    refine x_get (pc := 18) (ci := 1) (k := 5) (C := RX1) (T := TX1) (N := 9) (cell_shape (by first | assumption | omega) (by first | assumption | omega)) rfl (shO_255 (by first | assumption | omega) (by first | assumption | omega)) rfl nX1 (by decide) mF_X2_66 rfl dX2_reasonAgainst_18 ?_
    rw [hR.shp (by first | assumption | omega) 5]
    refine x_iconst (pc := 21) (2) dX2_reasonAgainst_21 (by decide) ?_
    refine x_cmpne (pc := 22) 27 dX2_reasonAgainst_22 (by decide) (fun c22 => ?_) (fun c22 => ?_)
    · refine x_aload_n (pc := 27) dX2_reasonAgainst_27 rfl ?_
      refine x_get (pc := 28) (ci := 2) (k := 2) (C := RX2) (T := TX2) (N := 10) (cell_sheet (by first | assumption | omega)) rfl (sB_255 (by first | assumption | omega)) rfl nX2 (by decide) mF_X2_22 rfl dX2_reasonAgainst_28 ?_
      refine x_iconst (pc := 31) (3) dX2_reasonAgainst_31 (by decide) ?_
      refine t_ild (pc := 32) 3 (cell_sets (by first | assumption | omega)) (stO_255 (by first | assumption | omega)) rfl (by decide) (by decide) dX2_reasonAgainst_32 ?_
      rw [hR.sett _ (by decide)]
      refine x_iconst (pc := 33) (1) dX2_reasonAgainst_33 (by decide) ?_
      refine x_cmpne (pc := 34) 47 dX2_reasonAgainst_34 (by decide) (fun c34 => ?_) (fun c34 => ?_)
      · refine x_aload_n (pc := 47) dX2_reasonAgainst_47 rfl ?_
        refine x_aload_n (pc := 48) dX2_reasonAgainst_48 rfl ?_
        refine t_Vi (pc := 49) (c_X2_heatOver (by first | assumption | omega) hR (by first | assumption | omega)) qV_X2_heatOver mL_X2_146 dX2_reasonAgainst_49 rfl (cell_sheet (by first | assumption | omega)) (sB_255 (by first | assumption | omega)) rfl rfl rfl ⟨by decide, by decide⟩ (Nat.le_of_ble_eq_true rfl) (Nat.le_of_ble_eq_true rfl) (Nat.le_of_ble_eq_true rfl) ?_
        refine x_aload_n (pc := 52) dX2_reasonAgainst_52 rfl ?_
        refine x_aload_n (pc := 53) dX2_reasonAgainst_53 rfl ?_
        refine t_Vi (pc := 54) (c_X2_wayTo (by first | assumption | omega) hR (by first | assumption | omega)) qV_X2_wayTo mL_X2_89 dX2_reasonAgainst_54 rfl (cell_sheet (by first | assumption | omega)) (sB_255 (by first | assumption | omega)) rfl rfl rfl ⟨by decide, by decide⟩ (Nat.le_of_ble_eq_true rfl) (Nat.le_of_ble_eq_true rfl) (Nat.le_of_ble_eq_true rfl) ?_
        refine x_aload_n (pc := 57) dX2_reasonAgainst_57 rfl ?_
        refine x_get (pc := 58) (ci := 2) (k := 2) (C := RX2) (T := TX2) (N := 10) (cell_sheet (by first | assumption | omega)) rfl (sB_255 (by first | assumption | omega)) rfl nX2 (by decide) mF_X2_22 rfl dX2_reasonAgainst_58 ?_
        refine x_iconst (pc := 61) (1) dX2_reasonAgainst_61 (by decide) ?_
        refine t_ild (pc := 62) 1 (cell_sets (by first | assumption | omega)) (stO_255 (by first | assumption | omega)) rfl (by decide) (by decide) dX2_reasonAgainst_62 ?_
        rw [hR.sett _ (by decide)]
        refine x_imul (pc := 63) dX2_reasonAgainst_63 ?_
        refine x_cmple (pc := 64) 71 dX2_reasonAgainst_64 (by decide) (fun c64 => ?_) (fun c64 => ?_)
        · refine x_iconst (pc := 71) (0) dX2_reasonAgainst_71 (by decide) ?_
          exact x_iret rfl dX2_reasonAgainst_72 ⟨by simp_all [whyV, b01], rfl, rfl⟩
        · refine x_iconst (pc := 67) (4) dX2_reasonAgainst_67 (by decide) ?_
          refine x_goto (pc := 68) 72 dX2_reasonAgainst_68 (by decide) ?_
          exact x_iret rfl dX2_reasonAgainst_72 ⟨by simp_all [whyV, b01], rfl, rfl⟩
      · refine x_aload_n (pc := 37) dX2_reasonAgainst_37 rfl ?_
        refine x_aload_n (pc := 38) dX2_reasonAgainst_38 rfl ?_
        refine t_Vi (pc := 39) (c_X2_holdsWholeShape (by first | assumption | omega) hR (by first | assumption | omega)) qV_X2_holdsWholeShape mL_X2_143 dX2_reasonAgainst_39 rfl (cell_sheet (by first | assumption | omega)) (sB_255 (by first | assumption | omega)) rfl rfl rfl ⟨by decide, by decide⟩ (Nat.le_of_ble_eq_true rfl) (Nat.le_of_ble_eq_true rfl) (Nat.le_of_ble_eq_true rfl) ?_
        refine x_ifeq (pc := 42) 47 dX2_reasonAgainst_42 (by decide) (fun c42 => ?_) (fun c42 => ?_)
        · refine x_aload_n (pc := 47) dX2_reasonAgainst_47 rfl ?_
          refine x_aload_n (pc := 48) dX2_reasonAgainst_48 rfl ?_
          refine t_Vi (pc := 49) (c_X2_heatOver (by first | assumption | omega) hR (by first | assumption | omega)) qV_X2_heatOver mL_X2_146 dX2_reasonAgainst_49 rfl (cell_sheet (by first | assumption | omega)) (sB_255 (by first | assumption | omega)) rfl rfl rfl ⟨by decide, by decide⟩ (Nat.le_of_ble_eq_true rfl) (Nat.le_of_ble_eq_true rfl) (Nat.le_of_ble_eq_true rfl) ?_
          refine x_aload_n (pc := 52) dX2_reasonAgainst_52 rfl ?_
          refine x_aload_n (pc := 53) dX2_reasonAgainst_53 rfl ?_
          refine t_Vi (pc := 54) (c_X2_wayTo (by first | assumption | omega) hR (by first | assumption | omega)) qV_X2_wayTo mL_X2_89 dX2_reasonAgainst_54 rfl (cell_sheet (by first | assumption | omega)) (sB_255 (by first | assumption | omega)) rfl rfl rfl ⟨by decide, by decide⟩ (Nat.le_of_ble_eq_true rfl) (Nat.le_of_ble_eq_true rfl) (Nat.le_of_ble_eq_true rfl) ?_
          refine x_aload_n (pc := 57) dX2_reasonAgainst_57 rfl ?_
          refine x_get (pc := 58) (ci := 2) (k := 2) (C := RX2) (T := TX2) (N := 10) (cell_sheet (by first | assumption | omega)) rfl (sB_255 (by first | assumption | omega)) rfl nX2 (by decide) mF_X2_22 rfl dX2_reasonAgainst_58 ?_
          refine x_iconst (pc := 61) (1) dX2_reasonAgainst_61 (by decide) ?_
          refine t_ild (pc := 62) 1 (cell_sets (by first | assumption | omega)) (stO_255 (by first | assumption | omega)) rfl (by decide) (by decide) dX2_reasonAgainst_62 ?_
          rw [hR.sett _ (by decide)]
          refine x_imul (pc := 63) dX2_reasonAgainst_63 ?_
          refine x_cmple (pc := 64) 71 dX2_reasonAgainst_64 (by decide) (fun c64 => ?_) (fun c64 => ?_)
          · refine x_iconst (pc := 71) (0) dX2_reasonAgainst_71 (by decide) ?_
            exact x_iret rfl dX2_reasonAgainst_72 ⟨by simp_all [whyV, b01], rfl, rfl⟩
          · refine x_iconst (pc := 67) (4) dX2_reasonAgainst_67 (by decide) ?_
            refine x_goto (pc := 68) 72 dX2_reasonAgainst_68 (by decide) ?_
            exact x_iret rfl dX2_reasonAgainst_72 ⟨by simp_all [whyV, b01], rfl, rfl⟩
        · refine x_iconst (pc := 45) (3) dX2_reasonAgainst_45 (by decide) ?_
          exact x_iret rfl dX2_reasonAgainst_46 ⟨by simp_all [whyV, b01], rfl, rfl⟩
    · refine x_iconst (pc := 25) (2) dX2_reasonAgainst_25 (by decide) ?_
      exact x_iret rfl dX2_reasonAgainst_26 ⟨by simp_all [whyV, b01], rfl, rfl⟩
  · refine x_iconst (pc := 15) (1) dX2_reasonAgainst_15 (by decide) ?_
    exact x_iret rfl dX2_reasonAgainst_16 ⟨by simp_all [whyV, b01], rfl, rfl⟩
end SHEET2
end
section
/-! the class: Sheet's readers, second part (rows laid by wip/whole/p14.py) -/
def tcX (A : Ab) (v : Int32) : Int32 := if knB A v then tcV A v.toNatClampNeg else -1
def kcX (A : Ab) (v : Int32) : Int32 := if knB A v then kcV A v.toNatClampNeg else -1
theorem tcX_nI {A : Ab} (ht : A.1 ≤ 12) {i : Nat} (hi : i < A.1) : tcX A (nI i) = tcV A i := by
  simp only [tcX, knB_nI ht hi, if_true, nI_clamp (show i < 2 ^ 31 by omega)]
theorem kcX_nI {A : Ab} (ht : A.1 ≤ 12) {i : Nat} (hi : i < A.1) : kcX A (nI i) = kcV A i := by
  simp only [kcX, knB_nI ht hi, if_true, nI_clamp (show i < 2 ^ 31 by omega)]
theorem nI_ne5 {q : Nat} (h : q < 2 ^ 31) : ¬ nI q = -5 := fun e => by
  have h1 := nI_toInt h
  rw [e] at h1
  have h2 : (-5 : Int32).toInt = -5 := by decide
  omega
theorem oV_some {o : Option Nat} (h : ¬ oV o = -5) : ∃ q, o = some q := by
  cases o with
  | none => exact absurd rfl h
  | some q => exact ⟨q, rfl⟩
theorem oV_none {o : Option Nat} (hb : ∀ q, o = some q → q < 2 ^ 31) (h : oV o = -5) : o = none := by
  cases o with
  | none => rfl
  | some q => exact absurd h (nI_ne5 (hb q rfl))
theorem besO_lt {A : Ab} : ∀ {k q : Nat}, besO A k = some q → q < k
  | 0, _, h => by simp [besO] at h
  | k + 1, q, h => by
    simp only [besO] at h
    split at h
    · split at h
      · cases h; omega
      · rename_i q' hq'
        have := besO_lt hq'
        split at h <;> (cases h; omega)
    · exact Nat.lt_succ_of_lt (besO_lt h)
theorem outO_lt {P : Nat → Fs} {f : Fs} : ∀ {k q : Nat}, outO P f k = some q → q < k
  | 0, _, h => by simp [outO] at h
  | k + 1, q, h => by
    rw [show outO P f (k + 1) = if (insB f (P k) && (match outO P f k with | none => true | some q => insB (P k) (P q))) then some k else outO P f k from rfl] at h
    by_cases hc : (insB f (P k) && (match outO P f k with | none => true | some q => insB (P k) (P q))) = true
    · rw [if_pos hc] at h; cases h; omega
    · rw [if_neg hc] at h; exact Nat.lt_succ_of_lt (outO_lt h)
theorem hotN_1 (H : Fs) : hotN H 1 = 0 := by simp [hotN]
theorem hotN_12 (H : Fs) : hotN H 12 < 12 := (hotN_lt H 12).elim id (fun h => absurd h (by decide))
theorem betw_out {v b : Int32} {n : Nat} (hb : b = nI n) (hn : n < 2 ^ 31) (h : ¬ betw v 0 b = true) : v.toInt < 0 ∨ (n : Int) < v.toInt := by
  by_cases h1 : v < 0
  · exact Or.inl (by simpa using (Int32.lt_iff_toInt_lt.mp h1))
  · refine Or.inr ?_
    have h2 : b < v := by
      apply Classical.byContradiction
      intro q
      exact h (by simp only [betw, decide_eq_false h1, decide_eq_false q]; rfl)
    have h3 := Int32.lt_iff_toInt_lt.mp h2
    rw [hb, nI_toInt hn] at h3
    exact h3
theorem ne_out {v : Int32} {n m : Nat} (hm : m ≤ n) (hn : n < 2 ^ 31) (h : v.toInt < 0 ∨ (n : Int) < v.toInt) : ¬ v = nI m := fun e => by
  rw [e, nI_toInt (by omega)] at h
  omega
theorem betw_ge {v : Int32} {n m : Nat} (hm : m ≤ n) (hn : n < 2 ^ 31) (h : v.toInt < 0 ∨ (n : Int) < v.toInt) : betw v 0 (nI m) = false := by
  rcases h with h | h
  · have h1 : v < 0 := Int32.lt_iff_toInt_lt.mpr (by simpa using h)
    simp only [betw, decide_eq_true h1]; rfl
  · have h1 : nI m < v := Int32.lt_iff_toInt_lt.mpr (by rw [nI_toInt (by omega)]; omega)
    simp only [betw, decide_eq_true h1]; simp
section SHEET3
variable {G : GX} {S : Nat → Sh} {B : Bc} {M : Md} {j i : Nat} {σ : Sh}
variable {A : Ab}
set_option maxHeartbeats 4000000 in
set_option maxRecDepth 100000 in
theorem c_X2_ticksToCut (hj : j < 8) (hR : RC σ A) (v : Int32) : Ct G yX2_ticksToCut YX2_ticksToCut 0 0 [.ref (gB G + sB j), .int v] 255 (cellOf G (updS S j σ) B M) (Rt G (some (.int (tcX A v))) (updS S j σ) B M) := by
  refine ct_of (by decide +kernel) rfl rfl (Nat.le_of_ble_eq_true rfl) (by simp [Value.category]) ?_
  refine x_sub (l' := [(0, .ref (gB G + sB j)), (1, .int v)]) ⟨rfl, rfl, trivial⟩ ?_
  have h12 := hR.le
  refine x_aload_n (pc := 0) dX2_ticksToCut_0 rfl ?_
  refine x_iload_n (pc := 1) dX2_ticksToCut_1 rfl ?_
  refine t_Vi (pc := 2) (c_X2_knows (by first | assumption | omega) hR _) qV_X2_knows mL_X2_72 dX2_ticksToCut_2 rfl (cell_sheet (by first | assumption | omega)) (sB_255 (by first | assumption | omega)) rfl rfl rfl ⟨by decide, by decide⟩ (Nat.le_of_ble_eq_true rfl) (Nat.le_of_ble_eq_true rfl) (Nat.le_of_ble_eq_true rfl) ?_
  refine x_ifne (pc := 5) 10 dX2_ticksToCut_5 (by decide) (fun c5 => ?_) (fun c5 => ?_)
  · obtain ⟨i, hi, rfl, hcl⟩ := knB_some hR.le (b01_ne c5)
    refine x_aload_n (pc := 10) dX2_ticksToCut_10 rfl ?_
    refine x_get (pc := 11) (ci := 2) (k := 0) (C := RX2) (T := TX2) (N := 10) (cell_sheet (by first | assumption | omega)) rfl (sB_255 (by first | assumption | omega)) rfl nX2 (by decide) mF_X2_13 rfl dX2_ticksToCut_11 ?_
    refine x_iload_n (pc := 14) dX2_ticksToCut_14 rfl ?_
    refine t_shapes (pc := 15) _ (by first | assumption | omega) rfl (by first | assumption | omega) dX2_ticksToCut_15 ?_
    refine x_astore_n (pc := 16) dX2_ticksToCut_16 (by decide) ?_
    refine x_aload_n (pc := 17) dX2_ticksToCut_17 rfl ?_
    refine x_get (pc := 18) (ci := 1) (k := 5) (C := RX1) (T := TX1) (N := 9) (cell_shape (by first | assumption | omega) (by first | assumption | omega)) rfl (shO_255 (by first | assumption | omega) (by first | assumption | omega)) rfl nX1 (by decide) mF_X2_66 rfl dX2_ticksToCut_18 ?_
    rw [hR.shp (by first | assumption | omega) 5]
    refine x_ifne (pc := 21) 38 dX2_ticksToCut_21 (by decide) (fun c21 => ?_) (fun c21 => ?_)
    · refine x_bipush (pc := 38) (-4) dX2_ticksToCut_38 (by decide) ?_
      exact x_iret rfl dX2_ticksToCut_40 ⟨by simp only [tcX, b01_ne c5, if_true, hcl, tcV, *, if_false], rfl, rfl⟩
    · refine x_aload_n (pc := 24) dX2_ticksToCut_24 rfl ?_
      refine x_aload_n (pc := 25) dX2_ticksToCut_25 rfl ?_
      refine t_Vi (pc := 26) (c_X2_wayTo (by first | assumption | omega) hR (by first | assumption | omega)) qV_X2_wayTo mL_X2_89 dX2_ticksToCut_26 rfl (cell_sheet (by first | assumption | omega)) (sB_255 (by first | assumption | omega)) rfl rfl rfl ⟨by decide, by decide⟩ (Nat.le_of_ble_eq_true rfl) (Nat.le_of_ble_eq_true rfl) (Nat.le_of_ble_eq_true rfl) ?_
      refine x_aload_n (pc := 29) dX2_ticksToCut_29 rfl ?_
      refine x_aload_n (pc := 30) dX2_ticksToCut_30 rfl ?_
      refine t_Vi (pc := 31) (c_X2_burningOf (by first | assumption | omega) hR (by first | assumption | omega)) qV_X2_burningOf mL_X2_125 dX2_ticksToCut_31 rfl (cell_sheet (by first | assumption | omega)) (sB_255 (by first | assumption | omega)) rfl rfl rfl ⟨by decide, by decide⟩ (Nat.le_of_ble_eq_true rfl) (Nat.le_of_ble_eq_true rfl) (Nat.le_of_ble_eq_true rfl) ?_
      refine x_iadd (pc := 34) dX2_ticksToCut_34 ?_
      refine x_goto (pc := 35) 40 dX2_ticksToCut_35 (by decide) ?_
      exact x_iret rfl dX2_ticksToCut_40 ⟨by simp only [tcX, b01_ne c5, if_true, hcl, tcV, *, if_false], rfl, rfl⟩
  · refine x_iconst (pc := 8) (-1) dX2_ticksToCut_8 (by decide) ?_
    exact x_iret rfl dX2_ticksToCut_9 ⟨by simp only [tcX, b01_eq c5, Bool.false_eq_true, if_false], rfl, rfl⟩
set_option maxHeartbeats 4000000 in
set_option maxRecDepth 100000 in
theorem c_X2_ticksToCool (hj : j < 8) (hR : RC σ A) (v : Int32) : Ct G yX2_ticksToCool YX2_ticksToCool 0 0 [.ref (gB G + sB j), .int v] 255 (cellOf G (updS S j σ) B M) (Rt G (some (.int (kcX A v))) (updS S j σ) B M) := by
  refine ct_of (by decide +kernel) rfl rfl (Nat.le_of_ble_eq_true rfl) (by simp [Value.category]) ?_
  refine x_sub (l' := [(0, .ref (gB G + sB j)), (1, .int v)]) ⟨rfl, rfl, trivial⟩ ?_
  have h12 := hR.le
  refine x_aload_n (pc := 0) dX2_ticksToCool_0 rfl ?_
  refine x_iload_n (pc := 1) dX2_ticksToCool_1 rfl ?_
  refine t_Vi (pc := 2) (c_X2_knows (by first | assumption | omega) hR _) qV_X2_knows mL_X2_72 dX2_ticksToCool_2 rfl (cell_sheet (by first | assumption | omega)) (sB_255 (by first | assumption | omega)) rfl rfl rfl ⟨by decide, by decide⟩ (Nat.le_of_ble_eq_true rfl) (Nat.le_of_ble_eq_true rfl) (Nat.le_of_ble_eq_true rfl) ?_
  refine x_ifne (pc := 5) 10 dX2_ticksToCool_5 (by decide) (fun c5 => ?_) (fun c5 => ?_)
  · obtain ⟨i, hi, rfl, hcl⟩ := knB_some hR.le (b01_ne c5)
    refine x_aload_n (pc := 10) dX2_ticksToCool_10 rfl ?_
    refine x_iload_n (pc := 11) dX2_ticksToCool_11 rfl ?_
    refine t_Vi (pc := 12) (c_X2_reasonAgainst (by first | assumption | omega) hR (by first | assumption | omega)) qV_X2_reasonAgainst mL_X2_85 dX2_ticksToCool_12 rfl (cell_sheet (by first | assumption | omega)) (sB_255 (by first | assumption | omega)) rfl rfl rfl ⟨by decide, by decide⟩ (Nat.le_of_ble_eq_true rfl) (Nat.le_of_ble_eq_true rfl) (Nat.le_of_ble_eq_true rfl) ?_
    refine x_istore_n (pc := 15) dX2_ticksToCool_15 (by decide) ?_
    refine x_iload_n (pc := 16) dX2_ticksToCool_16 rfl ?_
    refine x_ifne (pc := 17) 22 dX2_ticksToCool_17 (by decide) (fun c17 => ?_) (fun c17 => ?_)
    · refine x_iload_n (pc := 22) dX2_ticksToCool_22 rfl ?_
      refine x_iconst (pc := 23) (4) dX2_ticksToCool_23 (by decide) ?_
      refine x_cmpeq (pc := 24) 30 dX2_ticksToCool_24 (by decide) (fun c24 => ?_) (fun c24 => ?_)
      · refine x_aload_n (pc := 30) dX2_ticksToCool_30 rfl ?_
        refine x_get (pc := 31) (ci := 2) (k := 2) (C := RX2) (T := TX2) (N := 10) (cell_sheet (by first | assumption | omega)) rfl (sB_255 (by first | assumption | omega)) rfl nX2 (by decide) mF_X2_22 rfl dX2_ticksToCool_31 ?_
        refine x_iconst (pc := 34) (1) dX2_ticksToCool_34 (by decide) ?_
        refine t_ild (pc := 35) 1 (cell_sets (by first | assumption | omega)) (stO_255 (by first | assumption | omega)) rfl (by decide) (by decide) dX2_ticksToCool_35 ?_
        rw [hR.sett _ (by decide)]
        refine x_istore_n (pc := 36) dX2_ticksToCool_36 (by decide) ?_
        refine x_iload_n (pc := 37) dX2_ticksToCool_37 rfl ?_
        refine x_ifgt (pc := 38) 44 dX2_ticksToCool_38 (by decide) (fun c38 => ?_) (fun c38 => ?_)
        · refine x_aload_n (pc := 44) dX2_ticksToCool_44 rfl ?_
          refine x_get (pc := 45) (ci := 2) (k := 0) (C := RX2) (T := TX2) (N := 10) (cell_sheet (by first | assumption | omega)) rfl (sB_255 (by first | assumption | omega)) rfl nX2 (by decide) mF_X2_13 rfl dX2_ticksToCool_45 ?_
          refine x_iload_n (pc := 48) dX2_ticksToCool_48 rfl ?_
          refine t_shapes (pc := 49) _ (by first | assumption | omega) rfl (by first | assumption | omega) dX2_ticksToCool_49 ?_
          refine x_astore (pc := 50) dX2_ticksToCool_50 (by decide) ?_
          refine x_aload_n (pc := 52) dX2_ticksToCool_52 rfl ?_
          refine x_aload (pc := 53) dX2_ticksToCool_53 rfl ?_
          refine t_Vi (pc := 55) (c_X2_heatOver (by first | assumption | omega) hR (by first | assumption | omega)) qV_X2_heatOver mL_X2_146 dX2_ticksToCool_55 rfl (cell_sheet (by first | assumption | omega)) (sB_255 (by first | assumption | omega)) rfl rfl rfl ⟨by decide, by decide⟩ (Nat.le_of_ble_eq_true rfl) (Nat.le_of_ble_eq_true rfl) (Nat.le_of_ble_eq_true rfl) ?_
          refine x_iload_n (pc := 58) dX2_ticksToCool_58 rfl ?_
          refine x_iadd (pc := 59) dX2_ticksToCool_59 ?_
          refine x_iconst (pc := 60) (1) dX2_ticksToCool_60 (by decide) ?_
          refine x_isub (pc := 61) dX2_ticksToCool_61 ?_
          refine x_iload_n (pc := 62) dX2_ticksToCool_62 rfl ?_
          refine x_idiv (pc := 63) dX2_ticksToCool_63 (fun z => absurd c38 (by rw [z]; decide)) ?_
          refine x_aload_n (pc := 64) dX2_ticksToCool_64 rfl ?_
          refine x_aload (pc := 65) dX2_ticksToCool_65 rfl ?_
          refine t_Vi (pc := 67) (c_X2_wayTo (by first | assumption | omega) hR (by first | assumption | omega)) qV_X2_wayTo mL_X2_89 dX2_ticksToCool_67 rfl (cell_sheet (by first | assumption | omega)) (sB_255 (by first | assumption | omega)) rfl rfl rfl ⟨by decide, by decide⟩ (Nat.le_of_ble_eq_true rfl) (Nat.le_of_ble_eq_true rfl) (Nat.le_of_ble_eq_true rfl) ?_
          refine x_isub (pc := 70) dX2_ticksToCool_70 ?_
          exact x_iret rfl dX2_ticksToCool_71 ⟨by simp only [kcX, b01_ne c5, if_true, hcl, kcV, if_neg c17, if_pos c24, if_pos c38], rfl, rfl⟩
        · refine x_bipush (pc := 41) (-5) dX2_ticksToCool_41 (by decide) ?_
          exact x_iret rfl dX2_ticksToCool_43 ⟨by simp only [kcX, b01_ne c5, if_true, hcl, kcV, if_neg c17, if_pos c24, if_neg c38], rfl, rfl⟩
      · refine x_bipush (pc := 27) (-4) dX2_ticksToCool_27 (by decide) ?_
        exact x_iret rfl dX2_ticksToCool_29 ⟨by simp only [kcX, b01_ne c5, if_true, hcl, kcV, if_neg c17, if_neg c24], rfl, rfl⟩
    · refine x_iconst (pc := 20) (0) dX2_ticksToCool_20 (by decide) ?_
      exact x_iret rfl dX2_ticksToCool_21 ⟨by simp only [kcX, b01_ne c5, if_true, hcl, kcV, if_pos c17], rfl, rfl⟩
  · refine x_iconst (pc := 8) (-1) dX2_ticksToCool_8 (by decide) ?_
    exact x_iret rfl dX2_ticksToCool_9 ⟨by simp only [kcX, b01_eq c5, Bool.false_eq_true, if_false], rfl, rfl⟩
set_option maxHeartbeats 4000000 in
set_option maxRecDepth 100000 in
theorem c_X2_bestShape (hj : j < 8) (hR : RC σ A) : Ct G yX2_bestShape YX2_bestShape 0 0 [.ref (gB G + sB j)] 255 (cellOf G (updS S j σ) B M) (Rt G (some (.int (oV (besO A A.1)))) (updS S j σ) B M) := by
  refine ct_of (by decide +kernel) rfl rfl (Nat.le_of_ble_eq_true rfl) (by simp [Value.category]) ?_
  refine x_sub (l' := [(0, .ref (gB G + sB j))]) ⟨rfl, trivial⟩ ?_
  have h12 := hR.le
  have lp : ∀ k, k ≤ A.1 → ∀ w : Int32, (∀ q, besO A k = some q → w = tcV A q) → XJ G YX2_bestShape (fun _ => True) (Zx G (Rt G (some (.int (oV (besO A A.1)))) (updS S j σ) B M) 0 0) 7 [(0, .ref (gB G + sB j)), (1, .int (oV (besO A k))), (2, .int w), (3, .int (nI k))] [] 255 (cellOf G (updS S j σ) B M) 0 0 := by
    refine loopD (A.1) ?_
    intro k hk ih w hw
    refine x_iload_n (pc := 7) dX2_bestShape_7 rfl ?_
    refine x_aload_n (pc := 8) dX2_bestShape_8 rfl ?_
    refine x_get (pc := 9) (ci := 2) (k := 3) (C := RX2) (T := TX2) (N := 10) (cell_sheet (by first | assumption | omega)) rfl (sB_255 (by first | assumption | omega)) rfl nX2 (by decide) mF_X2_25 rfl dX2_bestShape_9 ?_
    rw [hR.told]
    refine x_cmpge (pc := 12) 53 dX2_bestShape_12 (by decide) (fun c12 => ?_) (fun c12 => ?_)
    · obtain rfl : k = A.1 := by have := mt (tl_iff hR.le hk).mpr c12; omega
      refine x_iload_n (pc := 53) dX2_bestShape_53 rfl ?_
      exact x_iret rfl dX2_bestShape_54 ⟨by rfl, rfl, rfl⟩
    · have hkn : k < A.1 := (tl_iff hR.le hk).mp c12
      refine x_aload_n (pc := 15) dX2_bestShape_15 rfl ?_
      refine x_iload_n (pc := 16) dX2_bestShape_16 rfl ?_
      refine t_Vi (pc := 17) (c_X2_reasonAgainst (by first | assumption | omega) hR (by first | assumption | omega)) qV_X2_reasonAgainst mL_X2_85 dX2_bestShape_17 rfl (cell_sheet (by first | assumption | omega)) (sB_255 (by first | assumption | omega)) rfl rfl rfl ⟨by decide, by decide⟩ (Nat.le_of_ble_eq_true rfl) (Nat.le_of_ble_eq_true rfl) (Nat.le_of_ble_eq_true rfl) ?_
      refine x_ifne (pc := 20) 47 dX2_bestShape_20 (by decide) (fun c20 => ?_) (fun c20 => ?_)
      · refine x_iinc (pc := 47) (nI (k + 1)) dX2_bestShape_47 rfl (iinc_nI k) (by decide) ?_
        refine x_goto (pc := 50) 7 dX2_bestShape_50 (by decide) ?_
        have hbl : ∀ q, besO A k = some q → q < 2 ^ 31 := fun q hq => by have := besO_lt hq; omega
        first
        | (have eb : besO A (k + 1) = besO A k := by simp only [besO, if_neg c20]
           have e := ih hkn w (by rw [eb]; exact hw)
           rw [eb] at e
           exact x_back e ⟨rfl, rfl, rfl, rfl, trivial⟩)
        | (have hn := oV_none hbl c33
           have eb : besO A (k + 1) = some k := by simp only [besO, if_pos c20, hn]
           have e := ih hkn (tcV A k) (by rw [eb]; intro q hq; cases hq; rfl)
           rw [eb] at e
           exact x_back e ⟨rfl, rfl, rfl, rfl, trivial⟩)
        | (obtain ⟨q, hq⟩ := oV_some c33
           have hwq := hw q hq
           subst hwq
           have eb : besO A (k + 1) = some k := by simp only [besO, if_pos c20, hq, if_pos c39]
           have e := ih hkn (tcV A k) (by rw [eb]; intro q hq; cases hq; rfl)
           rw [eb] at e
           exact x_back e ⟨rfl, rfl, rfl, rfl, trivial⟩)
        | (obtain ⟨q, hq⟩ := oV_some c33
           have hwq := hw q hq
           subst hwq
           have eb : besO A (k + 1) = some q := by simp only [besO, if_pos c20, hq, if_neg c39]
           have e := ih hkn (tcV A q) (by rw [eb]; intro q hq; cases hq; rfl)
           rw [eb] at e
           rw [hq]
           exact x_back e ⟨rfl, rfl, rfl, rfl, trivial⟩)
      · refine x_aload_n (pc := 23) dX2_bestShape_23 rfl ?_
        refine x_iload_n (pc := 24) dX2_bestShape_24 rfl ?_
        refine t_Vi (pc := 25) (c_X2_ticksToCut (by first | assumption | omega) hR _) qV_X2_ticksToCut mL_X2_149 dX2_bestShape_25 rfl (cell_sheet (by first | assumption | omega)) (sB_255 (by first | assumption | omega)) rfl rfl rfl ⟨by decide, by decide⟩ (Nat.le_of_ble_eq_true rfl) (Nat.le_of_ble_eq_true rfl) (Nat.le_of_ble_eq_true rfl) ?_
        rw [tcX_nI hR.le hkn]
        refine x_istore (pc := 28) dX2_bestShape_28 (by decide) ?_
        refine x_iload_n (pc := 30) dX2_bestShape_30 rfl ?_
        refine x_bipush (pc := 31) (-5) dX2_bestShape_31 (by decide) ?_
        refine x_cmpeq (pc := 33) 42 dX2_bestShape_33 (by decide) (fun c33 => ?_) (fun c33 => ?_)
        · refine x_iload_n (pc := 42) dX2_bestShape_42 rfl ?_
          refine x_istore_n (pc := 43) dX2_bestShape_43 (by decide) ?_
          refine x_iload (pc := 44) dX2_bestShape_44 rfl ?_
          refine x_istore_n (pc := 46) dX2_bestShape_46 (by decide) ?_
          refine x_iinc (pc := 47) (nI (k + 1)) dX2_bestShape_47 rfl (iinc_nI k) (by decide) ?_
          refine x_goto (pc := 50) 7 dX2_bestShape_50 (by decide) ?_
          have hbl : ∀ q, besO A k = some q → q < 2 ^ 31 := fun q hq => by have := besO_lt hq; omega
          first
          | (have eb : besO A (k + 1) = besO A k := by simp only [besO, if_neg c20]
             have e := ih hkn w (by rw [eb]; exact hw)
             rw [eb] at e
             exact x_back e ⟨rfl, rfl, rfl, rfl, trivial⟩)
          | (have hn := oV_none hbl c33
             have eb : besO A (k + 1) = some k := by simp only [besO, if_pos c20, hn]
             have e := ih hkn (tcV A k) (by rw [eb]; intro q hq; cases hq; rfl)
             rw [eb] at e
             exact x_back e ⟨rfl, rfl, rfl, rfl, trivial⟩)
          | (obtain ⟨q, hq⟩ := oV_some c33
             have hwq := hw q hq
             subst hwq
             have eb : besO A (k + 1) = some k := by simp only [besO, if_pos c20, hq, if_pos c39]
             have e := ih hkn (tcV A k) (by rw [eb]; intro q hq; cases hq; rfl)
             rw [eb] at e
             exact x_back e ⟨rfl, rfl, rfl, rfl, trivial⟩)
          | (obtain ⟨q, hq⟩ := oV_some c33
             have hwq := hw q hq
             subst hwq
             have eb : besO A (k + 1) = some q := by simp only [besO, if_pos c20, hq, if_neg c39]
             have e := ih hkn (tcV A q) (by rw [eb]; intro q hq; cases hq; rfl)
             rw [eb] at e
             rw [hq]
             exact x_back e ⟨rfl, rfl, rfl, rfl, trivial⟩)
        · refine x_iload (pc := 36) dX2_bestShape_36 rfl ?_
          refine x_iload_n (pc := 38) dX2_bestShape_38 rfl ?_
          refine x_cmpge (pc := 39) 47 dX2_bestShape_39 (by decide) (fun c39 => ?_) (fun c39 => ?_)
          · refine x_iinc (pc := 47) (nI (k + 1)) dX2_bestShape_47 rfl (iinc_nI k) (by decide) ?_
            refine x_goto (pc := 50) 7 dX2_bestShape_50 (by decide) ?_
            have hbl : ∀ q, besO A k = some q → q < 2 ^ 31 := fun q hq => by have := besO_lt hq; omega
            first
            | (have eb : besO A (k + 1) = besO A k := by simp only [besO, if_neg c20]
               have e := ih hkn w (by rw [eb]; exact hw)
               rw [eb] at e
               exact x_back e ⟨rfl, rfl, rfl, rfl, trivial⟩)
            | (have hn := oV_none hbl c33
               have eb : besO A (k + 1) = some k := by simp only [besO, if_pos c20, hn]
               have e := ih hkn (tcV A k) (by rw [eb]; intro q hq; cases hq; rfl)
               rw [eb] at e
               exact x_back e ⟨rfl, rfl, rfl, rfl, trivial⟩)
            | (obtain ⟨q, hq⟩ := oV_some c33
               have hwq := hw q hq
               subst hwq
               have eb : besO A (k + 1) = some k := by simp only [besO, if_pos c20, hq, if_pos c39]
               have e := ih hkn (tcV A k) (by rw [eb]; intro q hq; cases hq; rfl)
               rw [eb] at e
               exact x_back e ⟨rfl, rfl, rfl, rfl, trivial⟩)
            | (obtain ⟨q, hq⟩ := oV_some c33
               have hwq := hw q hq
               subst hwq
               have eb : besO A (k + 1) = some q := by simp only [besO, if_pos c20, hq, if_neg c39]
               have e := ih hkn (tcV A q) (by rw [eb]; intro q hq; cases hq; rfl)
               rw [eb] at e
               rw [hq]
               exact x_back e ⟨rfl, rfl, rfl, rfl, trivial⟩)
          · refine x_iload_n (pc := 42) dX2_bestShape_42 rfl ?_
            refine x_istore_n (pc := 43) dX2_bestShape_43 (by decide) ?_
            refine x_iload (pc := 44) dX2_bestShape_44 rfl ?_
            refine x_istore_n (pc := 46) dX2_bestShape_46 (by decide) ?_
            refine x_iinc (pc := 47) (nI (k + 1)) dX2_bestShape_47 rfl (iinc_nI k) (by decide) ?_
            refine x_goto (pc := 50) 7 dX2_bestShape_50 (by decide) ?_
            have hbl : ∀ q, besO A k = some q → q < 2 ^ 31 := fun q hq => by have := besO_lt hq; omega
            first
            | (have eb : besO A (k + 1) = besO A k := by simp only [besO, if_neg c20]
               have e := ih hkn w (by rw [eb]; exact hw)
               rw [eb] at e
               exact x_back e ⟨rfl, rfl, rfl, rfl, trivial⟩)
            | (have hn := oV_none hbl c33
               have eb : besO A (k + 1) = some k := by simp only [besO, if_pos c20, hn]
               have e := ih hkn (tcV A k) (by rw [eb]; intro q hq; cases hq; rfl)
               rw [eb] at e
               exact x_back e ⟨rfl, rfl, rfl, rfl, trivial⟩)
            | (obtain ⟨q, hq⟩ := oV_some c33
               have hwq := hw q hq
               subst hwq
               have eb : besO A (k + 1) = some k := by simp only [besO, if_pos c20, hq, if_pos c39]
               have e := ih hkn (tcV A k) (by rw [eb]; intro q hq; cases hq; rfl)
               rw [eb] at e
               exact x_back e ⟨rfl, rfl, rfl, rfl, trivial⟩)
            | (obtain ⟨q, hq⟩ := oV_some c33
               have hwq := hw q hq
               subst hwq
               have eb : besO A (k + 1) = some q := by simp only [besO, if_pos c20, hq, if_neg c39]
               have e := ih hkn (tcV A q) (by rw [eb]; intro q hq; cases hq; rfl)
               rw [eb] at e
               rw [hq]
               exact x_back e ⟨rfl, rfl, rfl, rfl, trivial⟩)
  refine x_bipush (pc := 0) (-5) dX2_bestShape_0 (by decide) ?_
  refine x_istore_n (pc := 2) dX2_bestShape_2 (by decide) ?_
  refine x_iconst (pc := 3) (0) dX2_bestShape_3 (by decide) ?_
  refine x_istore_n (pc := 4) dX2_bestShape_4 (by decide) ?_
  refine x_iconst (pc := 5) (0) dX2_bestShape_5 (by decide) ?_
  refine x_istore_n (pc := 6) dX2_bestShape_6 (by decide) ?_
  exact x_back (lp 0 (by omega) 0 (fun q hq => by simp [besO] at hq)) ⟨rfl, rfl, rfl, rfl, trivial⟩
set_option maxHeartbeats 4000000 in
set_option maxRecDepth 100000 in
theorem c_X2_fewestTicksToCool (hj : j < 8) (hR : RC σ A) : Ct G yX2_fewestTicksToCool YX2_fewestTicksToCool 0 0 [.ref (gB G + sB j)] 255 (cellOf G (updS S j σ) B M) (Rt G (some (.int (fewV A A.1))) (updS S j σ) B M) := by
  refine ct_of (by decide +kernel) rfl rfl (Nat.le_of_ble_eq_true rfl) (by simp [Value.category]) ?_
  refine x_sub (l' := [(0, .ref (gB G + sB j))]) ⟨rfl, trivial⟩ ?_
  have h12 := hR.le
  have lp : ∀ k, k ≤ A.1 → XJ G YX2_fewestTicksToCool (fun _ => True) (Zx G (Rt G (some (.int (fewV A A.1))) (updS S j σ) B M) 0 0) 5 [(0, .ref (gB G + sB j)), (1, .int (fewV A k)), (2, .int (nI k))] [] 255 (cellOf G (updS S j σ) B M) 0 0 := by
    refine loopD (A.1) ?_
    intro k hk ih
    refine x_iload_n (pc := 5) dX2_fewestTicksToCool_5 rfl ?_
    refine x_aload_n (pc := 6) dX2_fewestTicksToCool_6 rfl ?_
    refine x_get (pc := 7) (ci := 2) (k := 3) (C := RX2) (T := TX2) (N := 10) (cell_sheet (by first | assumption | omega)) rfl (sB_255 (by first | assumption | omega)) rfl nX2 (by decide) mF_X2_25 rfl dX2_fewestTicksToCool_7 ?_
    rw [hR.told]
    refine x_cmpge (pc := 10) 42 dX2_fewestTicksToCool_10 (by decide) (fun c10 => ?_) (fun c10 => ?_)
    · obtain rfl : k = A.1 := by have := mt (tl_iff hR.le hk).mpr c10; omega
      refine x_iload_n (pc := 42) dX2_fewestTicksToCool_42 rfl ?_
      exact x_iret rfl dX2_fewestTicksToCool_43 ⟨by rfl, rfl, rfl⟩
    · have hkn : k < A.1 := (tl_iff hR.le hk).mp c10
      refine x_aload_n (pc := 13) dX2_fewestTicksToCool_13 rfl ?_
      refine x_iload_n (pc := 14) dX2_fewestTicksToCool_14 rfl ?_
      refine t_Vi (pc := 15) (c_X2_ticksToCool (by first | assumption | omega) hR _) qV_X2_ticksToCool mL_X2_152 dX2_fewestTicksToCool_15 rfl (cell_sheet (by first | assumption | omega)) (sB_255 (by first | assumption | omega)) rfl rfl rfl ⟨by decide, by decide⟩ (Nat.le_of_ble_eq_true rfl) (Nat.le_of_ble_eq_true rfl) (Nat.le_of_ble_eq_true rfl) ?_
      rw [kcX_nI hR.le hkn]
      refine x_istore_n (pc := 18) dX2_fewestTicksToCool_18 (by decide) ?_
      refine x_iload_n (pc := 19) dX2_fewestTicksToCool_19 rfl ?_
      refine x_iflt (pc := 20) 36 dX2_fewestTicksToCool_20 (by decide) (fun c20 => ?_) (fun c20 => ?_)
      · refine x_iinc (pc := 36) (nI (k + 1)) dX2_fewestTicksToCool_36 rfl (iinc_nI k) (by decide) ?_
        refine x_goto (pc := 39) 5 dX2_fewestTicksToCool_39 (by decide) ?_
        have e := ih hkn
        first
        | (simp only [fewV, if_pos c20] at e; exact x_back e ⟨rfl, rfl, rfl, trivial⟩)
        | (simp only [fewV, if_neg c20, if_pos c26] at e; exact x_back e ⟨rfl, rfl, rfl, trivial⟩)
        | (simp only [fewV, if_neg c20, if_neg c26, if_pos c31] at e; exact x_back e ⟨rfl, rfl, rfl, trivial⟩)
        | (simp only [fewV, if_neg c20, if_neg c26, if_neg c31] at e; exact x_back e ⟨rfl, rfl, rfl, trivial⟩)
      · refine x_iload_n (pc := 23) dX2_fewestTicksToCool_23 rfl ?_
        refine x_bipush (pc := 24) (-5) dX2_fewestTicksToCool_24 (by decide) ?_
        refine x_cmpeq (pc := 26) 34 dX2_fewestTicksToCool_26 (by decide) (fun c26 => ?_) (fun c26 => ?_)
        · refine x_iload_n (pc := 34) dX2_fewestTicksToCool_34 rfl ?_
          refine x_istore_n (pc := 35) dX2_fewestTicksToCool_35 (by decide) ?_
          refine x_iinc (pc := 36) (nI (k + 1)) dX2_fewestTicksToCool_36 rfl (iinc_nI k) (by decide) ?_
          refine x_goto (pc := 39) 5 dX2_fewestTicksToCool_39 (by decide) ?_
          have e := ih hkn
          first
          | (simp only [fewV, if_pos c20] at e; exact x_back e ⟨rfl, rfl, rfl, trivial⟩)
          | (simp only [fewV, if_neg c20, if_pos c26] at e; exact x_back e ⟨rfl, rfl, rfl, trivial⟩)
          | (simp only [fewV, if_neg c20, if_neg c26, if_pos c31] at e; exact x_back e ⟨rfl, rfl, rfl, trivial⟩)
          | (simp only [fewV, if_neg c20, if_neg c26, if_neg c31] at e; exact x_back e ⟨rfl, rfl, rfl, trivial⟩)
        · refine x_iload_n (pc := 29) dX2_fewestTicksToCool_29 rfl ?_
          refine x_iload_n (pc := 30) dX2_fewestTicksToCool_30 rfl ?_
          refine x_cmpge (pc := 31) 36 dX2_fewestTicksToCool_31 (by decide) (fun c31 => ?_) (fun c31 => ?_)
          · refine x_iinc (pc := 36) (nI (k + 1)) dX2_fewestTicksToCool_36 rfl (iinc_nI k) (by decide) ?_
            refine x_goto (pc := 39) 5 dX2_fewestTicksToCool_39 (by decide) ?_
            have e := ih hkn
            first
            | (simp only [fewV, if_pos c20] at e; exact x_back e ⟨rfl, rfl, rfl, trivial⟩)
            | (simp only [fewV, if_neg c20, if_pos c26] at e; exact x_back e ⟨rfl, rfl, rfl, trivial⟩)
            | (simp only [fewV, if_neg c20, if_neg c26, if_pos c31] at e; exact x_back e ⟨rfl, rfl, rfl, trivial⟩)
            | (simp only [fewV, if_neg c20, if_neg c26, if_neg c31] at e; exact x_back e ⟨rfl, rfl, rfl, trivial⟩)
          · refine x_iload_n (pc := 34) dX2_fewestTicksToCool_34 rfl ?_
            refine x_istore_n (pc := 35) dX2_fewestTicksToCool_35 (by decide) ?_
            refine x_iinc (pc := 36) (nI (k + 1)) dX2_fewestTicksToCool_36 rfl (iinc_nI k) (by decide) ?_
            refine x_goto (pc := 39) 5 dX2_fewestTicksToCool_39 (by decide) ?_
            have e := ih hkn
            first
            | (simp only [fewV, if_pos c20] at e; exact x_back e ⟨rfl, rfl, rfl, trivial⟩)
            | (simp only [fewV, if_neg c20, if_pos c26] at e; exact x_back e ⟨rfl, rfl, rfl, trivial⟩)
            | (simp only [fewV, if_neg c20, if_neg c26, if_pos c31] at e; exact x_back e ⟨rfl, rfl, rfl, trivial⟩)
            | (simp only [fewV, if_neg c20, if_neg c26, if_neg c31] at e; exact x_back e ⟨rfl, rfl, rfl, trivial⟩)
  refine x_bipush (pc := 0) (-5) dX2_fewestTicksToCool_0 (by decide) ?_
  refine x_istore_n (pc := 2) dX2_fewestTicksToCool_2 (by decide) ?_
  refine x_iconst (pc := 3) (0) dX2_fewestTicksToCool_3 (by decide) ?_
  refine x_istore_n (pc := 4) dX2_fewestTicksToCool_4 (by decide) ?_
  exact x_back (lp 0 (by omega)) ⟨rfl, rfl, rfl, trivial⟩
set_option maxHeartbeats 4000000 in
set_option maxRecDepth 100000 in
theorem c_X2_hottestSquare (hj : j < 8) (hR : RC σ A) : Ct G yX2_hottestSquare YX2_hottestSquare 0 0 [.ref (gB G + sB j)] 255 (cellOf G (updS S j σ) B M) (Rt G (some (.int (nI (hotN A.2.2.1 12)))) (updS S j σ) B M) := by
  refine ct_of (by decide +kernel) rfl rfl (Nat.le_of_ble_eq_true rfl) (by simp [Value.category]) ?_
  refine x_sub (l' := [(0, .ref (gB G + sB j))]) ⟨rfl, trivial⟩ ?_
  have h12 := hR.le
  have lp : ∀ k, k ≤ 12 → 1 ≤ k → XJ G YX2_hottestSquare (fun _ => True) (Zx G (Rt G (some (.int (nI (hotN A.2.2.1 12)))) (updS S j σ) B M) 0 0) 4 [(0, .ref (gB G + sB j)), (1, .int (nI (hotN A.2.2.1 k))), (2, .int (nI k))] [] 255 (cellOf G (updS S j σ) B M) 0 0 := by
    refine loopD 12 ?_
    intro k hk ih h1
    have hh : hotN A.2.2.1 k < 12 := (hotN_lt A.2.2.1 k).elim id (fun h => absurd h (by omega))
    refine x_iload_n (pc := 4) dX2_hottestSquare_4 rfl ?_
    refine x_bipush (pc := 5) (12) dX2_hottestSquare_5 (by decide) ?_
    refine x_cmpge (pc := 7) 33 dX2_hottestSquare_7 (by decide) (fun c7 => ?_) (fun c7 => ?_)
    · obtain rfl : k = 12 := by have := mt (lt_lit (n := 12) rfl (by decide) (by omega)).mpr c7; omega
      refine x_iload_n (pc := 33) dX2_hottestSquare_33 rfl ?_
      exact x_iret rfl dX2_hottestSquare_34 ⟨by rfl, rfl, rfl⟩
    · have hkn : k < 12 := (lt_lit rfl (by decide) (by omega)).mp c7
      refine x_aload_n (pc := 10) dX2_hottestSquare_10 rfl ?_
      refine x_get (pc := 11) (ci := 2) (k := 1) (C := RX2) (T := TX2) (N := 10) (cell_sheet (by first | assumption | omega)) rfl (sB_255 (by first | assumption | omega)) rfl nX2 (by decide) mF_X2_18 rfl dX2_hottestSquare_11 ?_
      refine x_iload_n (pc := 14) dX2_hottestSquare_14 rfl ?_
      refine t_ild (pc := 15) _ (cell_heats (by first | assumption | omega)) (htO_255 (by first | assumption | omega)) rfl (by first | assumption | omega) (by decide) dX2_hottestSquare_15 ?_
      rw [hR.heat _ (by first | assumption | omega)]
      refine x_aload_n (pc := 16) dX2_hottestSquare_16 rfl ?_
      refine x_get (pc := 17) (ci := 2) (k := 1) (C := RX2) (T := TX2) (N := 10) (cell_sheet (by first | assumption | omega)) rfl (sB_255 (by first | assumption | omega)) rfl nX2 (by decide) mF_X2_18 rfl dX2_hottestSquare_17 ?_
      refine x_iload_n (pc := 20) dX2_hottestSquare_20 rfl ?_
      refine t_ild (pc := 21) _ (cell_heats (by first | assumption | omega)) (htO_255 (by first | assumption | omega)) rfl hh (by decide) dX2_hottestSquare_21 ?_
      rw [hR.heat _ hh]
      refine x_cmple (pc := 22) 27 dX2_hottestSquare_22 (by decide) (fun c22 => ?_) (fun c22 => ?_)
      · refine x_iinc (pc := 27) (nI (k + 1)) dX2_hottestSquare_27 rfl (iinc_nI k) (by decide) ?_
        refine x_goto (pc := 30) 4 dX2_hottestSquare_30 (by decide) ?_
        have e := ih hkn (by omega)
        first
        | (simp only [hotN, if_pos c22] at e; exact x_back e ⟨rfl, rfl, rfl, trivial⟩)
        | (simp only [hotN, if_neg c22] at e; exact x_back e ⟨rfl, rfl, rfl, trivial⟩)
      · refine x_iload_n (pc := 25) dX2_hottestSquare_25 rfl ?_
        refine x_istore_n (pc := 26) dX2_hottestSquare_26 (by decide) ?_
        refine x_iinc (pc := 27) (nI (k + 1)) dX2_hottestSquare_27 rfl (iinc_nI k) (by decide) ?_
        refine x_goto (pc := 30) 4 dX2_hottestSquare_30 (by decide) ?_
        have e := ih hkn (by omega)
        first
        | (simp only [hotN, if_pos c22] at e; exact x_back e ⟨rfl, rfl, rfl, trivial⟩)
        | (simp only [hotN, if_neg c22] at e; exact x_back e ⟨rfl, rfl, rfl, trivial⟩)
  refine x_iconst (pc := 0) (0) dX2_hottestSquare_0 (by decide) ?_
  refine x_istore_n (pc := 1) dX2_hottestSquare_1 (by decide) ?_
  refine x_iconst (pc := 2) (1) dX2_hottestSquare_2 (by decide) ?_
  refine x_istore_n (pc := 3) dX2_hottestSquare_3 (by decide) ?_
  have e := lp 1 (by omega) (by omega)
  rw [hotN_1] at e
  exact x_back e ⟨rfl, rfl, rfl, trivial⟩
set_option maxHeartbeats 4000000 in
set_option maxRecDepth 100000 in
theorem c_X2_greatestHeat (hj : j < 8) (hR : RC σ A) : Ct G yX2_greatestHeat YX2_greatestHeat 0 0 [.ref (gB G + sB j)] 255 (cellOf G (updS S j σ) B M) (Rt G (some (.int (grV A))) (updS S j σ) B M) := by
  refine ct_of (by decide +kernel) rfl rfl (Nat.le_of_ble_eq_true rfl) (by simp [Value.category]) ?_
  refine x_sub (l' := [(0, .ref (gB G + sB j))]) ⟨rfl, trivial⟩ ?_
  have h12 := hR.le
  refine x_aload_n (pc := 0) dX2_greatestHeat_0 rfl ?_
  refine x_get (pc := 1) (ci := 2) (k := 1) (C := RX2) (T := TX2) (N := 10) (cell_sheet (by first | assumption | omega)) rfl (sB_255 (by first | assumption | omega)) rfl nX2 (by decide) mF_X2_18 rfl dX2_greatestHeat_1 ?_
  refine x_aload_n (pc := 4) dX2_greatestHeat_4 rfl ?_
  refine t_Vi (pc := 5) (c_X2_hottestSquare (by first | assumption | omega) hR) qV_X2_hottestSquare mL_X2_164 dX2_greatestHeat_5 rfl (cell_sheet (by first | assumption | omega)) (sB_255 (by first | assumption | omega)) rfl rfl rfl ⟨by decide, by decide⟩ (Nat.le_of_ble_eq_true rfl) (Nat.le_of_ble_eq_true rfl) (Nat.le_of_ble_eq_true rfl) ?_
  refine t_ild (pc := 8) _ (cell_heats (by first | assumption | omega)) (htO_255 (by first | assumption | omega)) rfl (hotN_12 _) (by decide) dX2_greatestHeat_8 ?_
  rw [hR.heat _ (hotN_12 _)]
  exact x_iret rfl dX2_greatestHeat_9 ⟨by rfl, rfl, rfl⟩
set_option maxHeartbeats 4000000 in
set_option maxRecDepth 100000 in
theorem c_X2_allHeat (hj : j < 8) (hR : RC σ A) : Ct G yX2_allHeat YX2_allHeat 0 0 [.ref (gB G + sB j)] 255 (cellOf G (updS S j σ) B M) (Rt G (some (.int (sumN A.2.2.1 12))) (updS S j σ) B M) := by
  refine ct_of (by decide +kernel) rfl rfl (Nat.le_of_ble_eq_true rfl) (by simp [Value.category]) ?_
  refine x_sub (l' := [(0, .ref (gB G + sB j))]) ⟨rfl, trivial⟩ ?_
  have h12 := hR.le
  have lp : ∀ k, k ≤ 12 → XJ G YX2_allHeat (fun _ => True) (Zx G (Rt G (some (.int (sumN A.2.2.1 12))) (updS S j σ) B M) 0 0) 4 [(0, .ref (gB G + sB j)), (1, .int (sumN A.2.2.1 k)), (2, .int (nI k))] [] 255 (cellOf G (updS S j σ) B M) 0 0 := by
    refine loopD (12) ?_
    intro k hk ih
    refine x_iload_n (pc := 4) dX2_allHeat_4 rfl ?_
    refine x_bipush (pc := 5) (12) dX2_allHeat_5 (by decide) ?_
    refine x_cmpge (pc := 7) 25 dX2_allHeat_7 (by decide) (fun c7 => ?_) (fun c7 => ?_)
    · obtain rfl : k = 12 := by have := mt (lt_lit (n := 12) rfl (by decide) (by omega)).mpr c7; omega
      refine x_iload_n (pc := 25) dX2_allHeat_25 rfl ?_
      exact x_iret rfl dX2_allHeat_26 ⟨by rfl, rfl, rfl⟩
    · have hkn : k < 12 := (lt_lit rfl (by decide) (by omega)).mp c7
      refine x_iload_n (pc := 10) dX2_allHeat_10 rfl ?_
      refine x_aload_n (pc := 11) dX2_allHeat_11 rfl ?_
      refine x_get (pc := 12) (ci := 2) (k := 1) (C := RX2) (T := TX2) (N := 10) (cell_sheet (by first | assumption | omega)) rfl (sB_255 (by first | assumption | omega)) rfl nX2 (by decide) mF_X2_18 rfl dX2_allHeat_12 ?_
      refine x_iload_n (pc := 15) dX2_allHeat_15 rfl ?_
      refine t_ild (pc := 16) _ (cell_heats (by first | assumption | omega)) (htO_255 (by first | assumption | omega)) rfl (by first | assumption | omega) (by decide) dX2_allHeat_16 ?_
      rw [hR.heat _ (by first | assumption | omega)]
      refine x_iadd (pc := 17) dX2_allHeat_17 ?_
      refine x_istore_n (pc := 18) dX2_allHeat_18 (by decide) ?_
      refine x_iinc (pc := 19) (nI (k + 1)) dX2_allHeat_19 rfl (iinc_nI k) (by decide) ?_
      refine x_goto (pc := 22) 4 dX2_allHeat_22 (by decide) ?_
      have e := ih hkn
      simp only [sumN] at e
      exact x_back e ⟨rfl, rfl, rfl, trivial⟩
  refine x_iconst (pc := 0) (0) dX2_allHeat_0 (by decide) ?_
  refine x_istore_n (pc := 1) dX2_allHeat_1 (by decide) ?_
  refine x_iconst (pc := 2) (0) dX2_allHeat_2 (by decide) ?_
  refine x_istore_n (pc := 3) dX2_allHeat_3 (by decide) ?_
  exact x_back (lp 0 (by omega)) ⟨rfl, rfl, rfl, trivial⟩
set_option maxHeartbeats 4000000 in
set_option maxRecDepth 100000 in
theorem c_X2_heatIn (hj : j < 8) (hR : RC σ A) (v : Int32) : Ct G yX2_heatIn YX2_heatIn 0 0 [.ref (gB G + sB j), .int v] 255 (cellOf G (updS S j σ) B M) (Rt G (some (.int (hinV A.2.2.1 v))) (updS S j σ) B M) := by
  refine ct_of (by decide +kernel) rfl rfl (Nat.le_of_ble_eq_true rfl) (by simp [Value.category]) ?_
  refine x_sub (l' := [(0, .ref (gB G + sB j)), (1, .int v)]) ⟨rfl, rfl, trivial⟩ ?_
  have h12 := hR.le
  refine x_iload_n (pc := 0) dX2_heatIn_0 rfl ?_
  refine x_iconst (pc := 1) (0) dX2_heatIn_1 (by decide) ?_
  refine x_bipush (pc := 2) (11) dX2_heatIn_2 (by decide) ?_
  refine t_Ni (pc := 4) (c_X3_isIn _ _ _) qS_X3_isIn (fun s h => h.2.2.2.1) dX2_heatIn_4 rfl rfl rfl ⟨by decide, by decide⟩ (Nat.le_of_ble_eq_true rfl) (Nat.le_of_ble_eq_true rfl) (Nat.le_of_ble_eq_true rfl) ?_
  refine x_ifeq (pc := 7) 19 dX2_heatIn_7 (by decide) (fun c7 => ?_) (fun c7 => ?_)
  · refine x_iconst (pc := 19) (-1) dX2_heatIn_19 (by decide) ?_
    first
    | (have t := b01_eq c7; exact x_iret rfl dX2_heatIn_20 ⟨by simp only [hinV, t, Bool.false_eq_true, if_false], rfl, rfl⟩)
    | (have t := b01_ne c7; exact x_iret rfl dX2_heatIn_20 ⟨by simp only [hinV, t, if_true, hcl], rfl, rfl⟩)
  · obtain ⟨q, hq, rfl, hcl⟩ := betw_some (n := 11) rfl (by decide) (b01_ne c7)
    refine x_aload_n (pc := 10) dX2_heatIn_10 rfl ?_
    refine x_get (pc := 11) (ci := 2) (k := 1) (C := RX2) (T := TX2) (N := 10) (cell_sheet (by first | assumption | omega)) rfl (sB_255 (by first | assumption | omega)) rfl nX2 (by decide) mF_X2_18 rfl dX2_heatIn_11 ?_
    refine x_iload_n (pc := 14) dX2_heatIn_14 rfl ?_
    refine t_ild (pc := 15) _ (cell_heats (by first | assumption | omega)) (htO_255 (by first | assumption | omega)) rfl (show q < 12 by omega) (by decide) dX2_heatIn_15 ?_
    rw [hR.heat _ (show q < 12 by omega)]
    refine x_goto (pc := 16) 20 dX2_heatIn_16 (by decide) ?_
    first
    | (have t := b01_eq c7; exact x_iret rfl dX2_heatIn_20 ⟨by simp only [hinV, t, Bool.false_eq_true, if_false], rfl, rfl⟩)
    | (have t := b01_ne c7; exact x_iret rfl dX2_heatIn_20 ⟨by simp only [hinV, t, if_true, hcl], rfl, rfl⟩)
set_option maxHeartbeats 4000000 in
set_option maxRecDepth 100000 in
theorem c_X2_shapesThatAre (hj : j < 8) (hR : RC σ A) (v : Int32) : Ct G yX2_shapesThatAre YX2_shapesThatAre 0 0 [.ref (gB G + sB j), .int v] 255 (cellOf G (updS S j σ) B M) (Rt G (some (.int (cntN A.2.2.2.2 v A.1))) (updS S j σ) B M) := by
  refine ct_of (by decide +kernel) rfl rfl (Nat.le_of_ble_eq_true rfl) (by simp [Value.category]) ?_
  refine x_sub (l' := [(0, .ref (gB G + sB j)), (1, .int v)]) ⟨rfl, rfl, trivial⟩ ?_
  have h12 := hR.le
  have lp : ∀ k, k ≤ A.1 → XJ G YX2_shapesThatAre (fun _ => True) (Zx G (Rt G (some (.int (cntN A.2.2.2.2 v A.1))) (updS S j σ) B M) 0 0) 4 [(0, .ref (gB G + sB j)), (1, .int v), (2, .int (cntN A.2.2.2.2 v k)), (3, .int (nI k))] [] 255 (cellOf G (updS S j σ) B M) 0 0 := by
    refine loopD (A.1) ?_
    intro k hk ih
    refine x_iload_n (pc := 4) dX2_shapesThatAre_4 rfl ?_
    refine x_aload_n (pc := 5) dX2_shapesThatAre_5 rfl ?_
    refine x_get (pc := 6) (ci := 2) (k := 3) (C := RX2) (T := TX2) (N := 10) (cell_sheet (by first | assumption | omega)) rfl (sB_255 (by first | assumption | omega)) rfl nX2 (by decide) mF_X2_25 rfl dX2_shapesThatAre_6 ?_
    rw [hR.told]
    refine x_cmpge (pc := 9) 34 dX2_shapesThatAre_9 (by decide) (fun c9 => ?_) (fun c9 => ?_)
    · obtain rfl : k = A.1 := by have := mt (tl_iff hR.le hk).mpr c9; omega
      refine x_iload_n (pc := 34) dX2_shapesThatAre_34 rfl ?_
      exact x_iret rfl dX2_shapesThatAre_35 ⟨by rfl, rfl, rfl⟩
    · have hkn : k < A.1 := (tl_iff hR.le hk).mp c9
      refine x_aload_n (pc := 12) dX2_shapesThatAre_12 rfl ?_
      refine x_get (pc := 13) (ci := 2) (k := 0) (C := RX2) (T := TX2) (N := 10) (cell_sheet (by first | assumption | omega)) rfl (sB_255 (by first | assumption | omega)) rfl nX2 (by decide) mF_X2_13 rfl dX2_shapesThatAre_13 ?_
      refine x_iload_n (pc := 16) dX2_shapesThatAre_16 rfl ?_
      refine t_shapes (pc := 17) _ (by first | assumption | omega) rfl (by first | assumption | omega) dX2_shapesThatAre_17 ?_
      refine x_get (pc := 18) (ci := 1) (k := 5) (C := RX1) (T := TX1) (N := 9) (cell_shape (by first | assumption | omega) (by first | assumption | omega)) rfl (shO_255 (by first | assumption | omega) (by first | assumption | omega)) rfl nX1 (by decide) mF_X2_66 rfl dX2_shapesThatAre_18 ?_
      rw [hR.shp (by first | assumption | omega) 5]
      refine x_iload_n (pc := 21) dX2_shapesThatAre_21 rfl ?_
      refine x_cmpne (pc := 22) 28 dX2_shapesThatAre_22 (by decide) (fun c22 => ?_) (fun c22 => ?_)
      · refine x_iinc (pc := 28) (nI (k + 1)) dX2_shapesThatAre_28 rfl (iinc_nI k) (by decide) ?_
        refine x_goto (pc := 31) 4 dX2_shapesThatAre_31 (by decide) ?_
        have e := ih hkn
        first
        | (simp only [cntN, if_pos c22] at e; exact x_back e ⟨rfl, rfl, rfl, rfl, trivial⟩)
        | (simp only [cntN, if_neg c22] at e; exact x_back e ⟨rfl, rfl, rfl, rfl, trivial⟩)
      · refine x_iinc (pc := 25) (_ + (1)) dX2_shapesThatAre_25 rfl rfl (by decide) ?_
        refine x_iinc (pc := 28) (nI (k + 1)) dX2_shapesThatAre_28 rfl (iinc_nI k) (by decide) ?_
        refine x_goto (pc := 31) 4 dX2_shapesThatAre_31 (by decide) ?_
        have e := ih hkn
        first
        | (simp only [cntN, if_pos c22] at e; exact x_back e ⟨rfl, rfl, rfl, rfl, trivial⟩)
        | (simp only [cntN, if_neg c22] at e; exact x_back e ⟨rfl, rfl, rfl, rfl, trivial⟩)
  refine x_iconst (pc := 0) (0) dX2_shapesThatAre_0 (by decide) ?_
  refine x_istore_n (pc := 1) dX2_shapesThatAre_1 (by decide) ?_
  refine x_iconst (pc := 2) (0) dX2_shapesThatAre_2 (by decide) ?_
  refine x_istore_n (pc := 3) dX2_shapesThatAre_3 (by decide) ?_
  exact x_back (lp 0 (by omega)) ⟨rfl, rfl, rfl, rfl, trivial⟩
set_option maxHeartbeats 4000000 in
set_option maxRecDepth 100000 in
theorem c_X2_shapesThatTilted (hj : j < 8) (hR : RC σ A) : Ct G yX2_shapesThatTilted YX2_shapesThatTilted 0 0 [.ref (gB G + sB j)] 255 (cellOf G (updS S j σ) B M) (Rt G (some (.int (tilN A.2.2.2.2 A.1))) (updS S j σ) B M) := by
  refine ct_of (by decide +kernel) rfl rfl (Nat.le_of_ble_eq_true rfl) (by simp [Value.category]) ?_
  refine x_sub (l' := [(0, .ref (gB G + sB j))]) ⟨rfl, trivial⟩ ?_
  have h12 := hR.le
  have lp : ∀ k, k ≤ A.1 → XJ G YX2_shapesThatTilted (fun _ => True) (Zx G (Rt G (some (.int (tilN A.2.2.2.2 A.1))) (updS S j σ) B M) 0 0) 4 [(0, .ref (gB G + sB j)), (1, .int (tilN A.2.2.2.2 k)), (2, .int (nI k))] [] 255 (cellOf G (updS S j σ) B M) 0 0 := by
    refine loopD (A.1) ?_
    intro k hk ih
    refine x_iload_n (pc := 4) dX2_shapesThatTilted_4 rfl ?_
    refine x_aload_n (pc := 5) dX2_shapesThatTilted_5 rfl ?_
    refine x_get (pc := 6) (ci := 2) (k := 3) (C := RX2) (T := TX2) (N := 10) (cell_sheet (by first | assumption | omega)) rfl (sB_255 (by first | assumption | omega)) rfl nX2 (by decide) mF_X2_25 rfl dX2_shapesThatTilted_6 ?_
    rw [hR.told]
    refine x_cmpge (pc := 9) 30 dX2_shapesThatTilted_9 (by decide) (fun c9 => ?_) (fun c9 => ?_)
    · obtain rfl : k = A.1 := by have := mt (tl_iff hR.le hk).mpr c9; omega
      refine x_iload_n (pc := 30) dX2_shapesThatTilted_30 rfl ?_
      exact x_iret rfl dX2_shapesThatTilted_31 ⟨by rfl, rfl, rfl⟩
    · have hkn : k < A.1 := (tl_iff hR.le hk).mp c9
      refine x_iload_n (pc := 12) dX2_shapesThatTilted_12 rfl ?_
      refine x_aload_n (pc := 13) dX2_shapesThatTilted_13 rfl ?_
      refine x_get (pc := 14) (ci := 2) (k := 0) (C := RX2) (T := TX2) (N := 10) (cell_sheet (by first | assumption | omega)) rfl (sB_255 (by first | assumption | omega)) rfl nX2 (by decide) mF_X2_13 rfl dX2_shapesThatTilted_14 ?_
      refine x_iload_n (pc := 17) dX2_shapesThatTilted_17 rfl ?_
      refine t_shapes (pc := 18) _ (by first | assumption | omega) rfl (by first | assumption | omega) dX2_shapesThatTilted_18 ?_
      refine x_get (pc := 19) (ci := 1) (k := 6) (C := RX1) (T := TX1) (N := 9) (cell_shape (by first | assumption | omega) (by first | assumption | omega)) rfl (shO_255 (by first | assumption | omega) (by first | assumption | omega)) rfl nX1 (by decide) mF_X2_119 rfl dX2_shapesThatTilted_19 ?_
      rw [hR.shp (by first | assumption | omega) 6]
      refine x_iadd (pc := 22) dX2_shapesThatTilted_22 ?_
      refine x_istore_n (pc := 23) dX2_shapesThatTilted_23 (by decide) ?_
      refine x_iinc (pc := 24) (nI (k + 1)) dX2_shapesThatTilted_24 rfl (iinc_nI k) (by decide) ?_
      refine x_goto (pc := 27) 4 dX2_shapesThatTilted_27 (by decide) ?_
      have e := ih hkn
      simp only [tilN] at e
      exact x_back e ⟨rfl, rfl, rfl, trivial⟩
  refine x_iconst (pc := 0) (0) dX2_shapesThatTilted_0 (by decide) ?_
  refine x_istore_n (pc := 1) dX2_shapesThatTilted_1 (by decide) ?_
  refine x_iconst (pc := 2) (0) dX2_shapesThatTilted_2 (by decide) ?_
  refine x_istore_n (pc := 3) dX2_shapesThatTilted_3 (by decide) ?_
  exact x_back (lp 0 (by omega)) ⟨rfl, rfl, rfl, trivial⟩
set_option maxHeartbeats 4000000 in
set_option maxRecDepth 100000 in
theorem c_X2_outerOf (hj : j < 8) (hR : RC σ A) (hi : i < A.1) : Ct G yX2_outerOf YX2_outerOf 0 0 [.ref (gB G + sB j), .ref (gB G + shO j i)] 255 (cellOf G (updS S j σ) B M) (Rt G (some (.int (oV (outO A.2.2.2.2 (A.2.2.2.2 i) A.1)))) (updS S j σ) B M) := by
  refine ct_of (by decide +kernel) rfl rfl (Nat.le_of_ble_eq_true rfl) (by simp [Value.category]) ?_
  refine x_sub (l' := [(0, .ref (gB G + sB j)), (1, .ref (gB G + shO j i))]) ⟨rfl, rfl, trivial⟩ ?_
  have h12 := hR.le
  have lp : ∀ k, k ≤ A.1 → XJ G YX2_outerOf (fun _ => True) (Zx G (Rt G (some (.int (oV (outO A.2.2.2.2 (A.2.2.2.2 i) A.1)))) (updS S j σ) B M) 0 0) 5 [(0, .ref (gB G + sB j)), (1, .ref (gB G + shO j i)), (2, .int (oV (outO A.2.2.2.2 (A.2.2.2.2 i) k))), (3, .int (nI k))] [] 255 (cellOf G (updS S j σ) B M) 0 0 := by
    refine loopD (A.1) ?_
    intro k hk ih
    refine x_iload_n (pc := 5) dX2_outerOf_5 rfl ?_
    refine x_aload_n (pc := 6) dX2_outerOf_6 rfl ?_
    refine x_get (pc := 7) (ci := 2) (k := 3) (C := RX2) (T := TX2) (N := 10) (cell_sheet (by first | assumption | omega)) rfl (sB_255 (by first | assumption | omega)) rfl nX2 (by decide) mF_X2_25 rfl dX2_outerOf_7 ?_
    rw [hR.told]
    refine x_cmpge (pc := 10) 58 dX2_outerOf_10 (by decide) (fun c10 => ?_) (fun c10 => ?_)
    · obtain rfl : k = A.1 := by have := mt (tl_iff hR.le hk).mpr c10; omega
      refine x_iload_n (pc := 58) dX2_outerOf_58 rfl ?_
      exact x_iret rfl dX2_outerOf_59 ⟨by rfl, rfl, rfl⟩
    · have hkn : k < A.1 := (tl_iff hR.le hk).mp c10
      refine x_aload_n (pc := 13) dX2_outerOf_13 rfl ?_
      refine x_aload_n (pc := 14) dX2_outerOf_14 rfl ?_
      refine x_get (pc := 15) (ci := 2) (k := 0) (C := RX2) (T := TX2) (N := 10) (cell_sheet (by first | assumption | omega)) rfl (sB_255 (by first | assumption | omega)) rfl nX2 (by decide) mF_X2_13 rfl dX2_outerOf_15 ?_
      refine x_iload_n (pc := 18) dX2_outerOf_18 rfl ?_
      refine t_shapes (pc := 19) _ (by first | assumption | omega) rfl (by first | assumption | omega) dX2_outerOf_19 ?_
      refine t_Vi (pc := 20) (c_X1_isInside (by first | assumption | omega) (by first | assumption | omega) (by first | assumption | omega)) qV_X1_isInside mL_X2_63 dX2_outerOf_20 rfl (cell_shape (by first | assumption | omega) (by first | assumption | omega)) (shO_255 (by first | assumption | omega) (by first | assumption | omega)) rfl rfl rfl ⟨by decide, by decide⟩ (Nat.le_of_ble_eq_true rfl) (Nat.le_of_ble_eq_true rfl) (Nat.le_of_ble_eq_true rfl) ?_
      rw [hR.ins (by first | assumption | omega) (by first | assumption | omega)]
      refine x_ifeq (pc := 23) 52 dX2_outerOf_23 (by decide) (fun c23 => ?_) (fun c23 => ?_)
      · refine x_iinc (pc := 52) (nI (k + 1)) dX2_outerOf_52 rfl (iinc_nI k) (by decide) ?_
        refine x_goto (pc := 55) 5 dX2_outerOf_55 (by decide) ?_
        have hol : ∀ q, outO A.2.2.2.2 (A.2.2.2.2 i) k = some q → q < 2 ^ 31 := fun q hq => by have := outO_lt hq; omega
        have e := ih hkn
        first
        | (simp only [outO, b01_eq c23, Bool.false_and, Bool.false_eq_true, if_false] at e; exact x_back e ⟨rfl, rfl, rfl, rfl, trivial⟩)
        | (have hn := oV_none hol c29
           simp only [outO, b01_ne c23, hn, Bool.true_and, if_true] at e; exact x_back e ⟨rfl, rfl, rfl, rfl, trivial⟩)
        | (simp only [outO, b01_ne c23, hq, b01_ne c47, Bool.true_and, if_true] at e; exact x_back e ⟨rfl, rfl, rfl, rfl, trivial⟩)
        | (simp only [outO, b01_ne c23, hq, b01_eq c47, Bool.true_and, Bool.false_eq_true, if_false] at e; exact x_back e ⟨rfl, rfl, rfl, rfl, trivial⟩)
      · refine x_iload_n (pc := 26) dX2_outerOf_26 rfl ?_
        refine x_bipush (pc := 27) (-5) dX2_outerOf_27 (by decide) ?_
        refine x_cmpeq (pc := 29) 50 dX2_outerOf_29 (by decide) (fun c29 => ?_) (fun c29 => ?_)
        · refine x_iload_n (pc := 50) dX2_outerOf_50 rfl ?_
          refine x_istore_n (pc := 51) dX2_outerOf_51 (by decide) ?_
          refine x_iinc (pc := 52) (nI (k + 1)) dX2_outerOf_52 rfl (iinc_nI k) (by decide) ?_
          refine x_goto (pc := 55) 5 dX2_outerOf_55 (by decide) ?_
          have hol : ∀ q, outO A.2.2.2.2 (A.2.2.2.2 i) k = some q → q < 2 ^ 31 := fun q hq => by have := outO_lt hq; omega
          have e := ih hkn
          first
          | (simp only [outO, b01_eq c23, Bool.false_and, Bool.false_eq_true, if_false] at e; exact x_back e ⟨rfl, rfl, rfl, rfl, trivial⟩)
          | (have hn := oV_none hol c29
             simp only [outO, b01_ne c23, hn, Bool.true_and, if_true] at e; exact x_back e ⟨rfl, rfl, rfl, rfl, trivial⟩)
          | (simp only [outO, b01_ne c23, hq, b01_ne c47, Bool.true_and, if_true] at e; exact x_back e ⟨rfl, rfl, rfl, rfl, trivial⟩)
          | (simp only [outO, b01_ne c23, hq, b01_eq c47, Bool.true_and, Bool.false_eq_true, if_false] at e; exact x_back e ⟨rfl, rfl, rfl, rfl, trivial⟩)
        · obtain ⟨q, hq⟩ := oV_some c29
          have hqk := outO_lt hq
          simp only [hq, oV]
          refine x_aload_n (pc := 32) dX2_outerOf_32 rfl ?_
          refine x_get (pc := 33) (ci := 2) (k := 0) (C := RX2) (T := TX2) (N := 10) (cell_sheet (by first | assumption | omega)) rfl (sB_255 (by first | assumption | omega)) rfl nX2 (by decide) mF_X2_13 rfl dX2_outerOf_33 ?_
          refine x_iload_n (pc := 36) dX2_outerOf_36 rfl ?_
          refine t_shapes (pc := 37) _ (by first | assumption | omega) rfl (by first | assumption | omega) dX2_outerOf_37 ?_
          refine x_aload_n (pc := 38) dX2_outerOf_38 rfl ?_
          refine x_get (pc := 39) (ci := 2) (k := 0) (C := RX2) (T := TX2) (N := 10) (cell_sheet (by first | assumption | omega)) rfl (sB_255 (by first | assumption | omega)) rfl nX2 (by decide) mF_X2_13 rfl dX2_outerOf_39 ?_
          refine x_iload_n (pc := 42) dX2_outerOf_42 rfl ?_
          refine t_shapes (pc := 43) _ (by first | assumption | omega) rfl (by first | assumption | omega) dX2_outerOf_43 ?_
          refine t_Vi (pc := 44) (c_X1_isInside (by first | assumption | omega) (by first | assumption | omega) (by first | assumption | omega)) qV_X1_isInside mL_X2_63 dX2_outerOf_44 rfl (cell_shape (by first | assumption | omega) (by first | assumption | omega)) (shO_255 (by first | assumption | omega) (by first | assumption | omega)) rfl rfl rfl ⟨by decide, by decide⟩ (Nat.le_of_ble_eq_true rfl) (Nat.le_of_ble_eq_true rfl) (Nat.le_of_ble_eq_true rfl) ?_
          rw [hR.ins (by first | assumption | omega) (by first | assumption | omega)]
          refine x_ifeq (pc := 47) 52 dX2_outerOf_47 (by decide) (fun c47 => ?_) (fun c47 => ?_)
          · refine x_iinc (pc := 52) (nI (k + 1)) dX2_outerOf_52 rfl (iinc_nI k) (by decide) ?_
            refine x_goto (pc := 55) 5 dX2_outerOf_55 (by decide) ?_
            have hol : ∀ q, outO A.2.2.2.2 (A.2.2.2.2 i) k = some q → q < 2 ^ 31 := fun q hq => by have := outO_lt hq; omega
            have e := ih hkn
            first
            | (simp only [outO, b01_eq c23, Bool.false_and, Bool.false_eq_true, if_false] at e; exact x_back e ⟨rfl, rfl, rfl, rfl, trivial⟩)
            | (have hn := oV_none hol c29
               simp only [outO, b01_ne c23, hn, Bool.true_and, if_true] at e; exact x_back e ⟨rfl, rfl, rfl, rfl, trivial⟩)
            | (simp only [outO, b01_ne c23, hq, b01_ne c47, Bool.true_and, if_true] at e; exact x_back e ⟨rfl, rfl, rfl, rfl, trivial⟩)
            | (simp only [outO, b01_ne c23, hq, b01_eq c47, Bool.true_and, Bool.false_eq_true, if_false] at e; exact x_back e ⟨rfl, rfl, rfl, rfl, trivial⟩)
          · refine x_iload_n (pc := 50) dX2_outerOf_50 rfl ?_
            refine x_istore_n (pc := 51) dX2_outerOf_51 (by decide) ?_
            refine x_iinc (pc := 52) (nI (k + 1)) dX2_outerOf_52 rfl (iinc_nI k) (by decide) ?_
            refine x_goto (pc := 55) 5 dX2_outerOf_55 (by decide) ?_
            have hol : ∀ q, outO A.2.2.2.2 (A.2.2.2.2 i) k = some q → q < 2 ^ 31 := fun q hq => by have := outO_lt hq; omega
            have e := ih hkn
            first
            | (simp only [outO, b01_eq c23, Bool.false_and, Bool.false_eq_true, if_false] at e; exact x_back e ⟨rfl, rfl, rfl, rfl, trivial⟩)
            | (have hn := oV_none hol c29
               simp only [outO, b01_ne c23, hn, Bool.true_and, if_true] at e; exact x_back e ⟨rfl, rfl, rfl, rfl, trivial⟩)
            | (simp only [outO, b01_ne c23, hq, b01_ne c47, Bool.true_and, if_true] at e; exact x_back e ⟨rfl, rfl, rfl, rfl, trivial⟩)
            | (simp only [outO, b01_ne c23, hq, b01_eq c47, Bool.true_and, Bool.false_eq_true, if_false] at e; exact x_back e ⟨rfl, rfl, rfl, rfl, trivial⟩)
  refine x_bipush (pc := 0) (-5) dX2_outerOf_0 (by decide) ?_
  refine x_istore_n (pc := 2) dX2_outerOf_2 (by decide) ?_
  refine x_iconst (pc := 3) (0) dX2_outerOf_3 (by decide) ?_
  refine x_istore_n (pc := 4) dX2_outerOf_4 (by decide) ?_
  exact x_back (lp 0 (by omega)) ⟨rfl, rfl, rfl, rfl, trivial⟩
set_option maxHeartbeats 4000000 in
set_option maxRecDepth 100000 in
theorem c_X2_setInside (hj : j < 8) (hR : RC σ A) (hi : i < A.1) : Ct G yX2_setInside YX2_setInside 0 0 [.ref (gB G + sB j), .ref (gB G + shO j i)] 255 (cellOf G (updS S j σ) B M) (Rt G (some (.int (setN A.2.2.2.2 (A.2.2.2.2 i) A.1))) (updS S j σ) B M) := by
  refine ct_of (by decide +kernel) rfl rfl (Nat.le_of_ble_eq_true rfl) (by simp [Value.category]) ?_
  refine x_sub (l' := [(0, .ref (gB G + sB j)), (1, .ref (gB G + shO j i))]) ⟨rfl, rfl, trivial⟩ ?_
  have h12 := hR.le
  have lp : ∀ k, k ≤ A.1 → XJ G YX2_setInside (fun _ => True) (Zx G (Rt G (some (.int (setN A.2.2.2.2 (A.2.2.2.2 i) A.1))) (updS S j σ) B M) 0 0) 4 [(0, .ref (gB G + sB j)), (1, .ref (gB G + shO j i)), (2, .int (setN A.2.2.2.2 (A.2.2.2.2 i) k)), (3, .int (nI k))] [] 255 (cellOf G (updS S j σ) B M) 0 0 := by
    refine loopD (A.1) ?_
    intro k hk ih
    refine x_iload_n (pc := 4) dX2_setInside_4 rfl ?_
    refine x_aload_n (pc := 5) dX2_setInside_5 rfl ?_
    refine x_get (pc := 6) (ci := 2) (k := 3) (C := RX2) (T := TX2) (N := 10) (cell_sheet (by first | assumption | omega)) rfl (sB_255 (by first | assumption | omega)) rfl nX2 (by decide) mF_X2_25 rfl dX2_setInside_6 ?_
    rw [hR.told]
    refine x_cmpge (pc := 9) 37 dX2_setInside_9 (by decide) (fun c9 => ?_) (fun c9 => ?_)
    · obtain rfl : k = A.1 := by have := mt (tl_iff hR.le hk).mpr c9; omega
      refine x_iload_n (pc := 37) dX2_setInside_37 rfl ?_
      exact x_iret rfl dX2_setInside_38 ⟨by rfl, rfl, rfl⟩
    · have hkn : k < A.1 := (tl_iff hR.le hk).mp c9
      refine x_aload_n (pc := 12) dX2_setInside_12 rfl ?_
      refine x_get (pc := 13) (ci := 2) (k := 0) (C := RX2) (T := TX2) (N := 10) (cell_sheet (by first | assumption | omega)) rfl (sB_255 (by first | assumption | omega)) rfl nX2 (by decide) mF_X2_13 rfl dX2_setInside_13 ?_
      refine x_iload_n (pc := 16) dX2_setInside_16 rfl ?_
      refine t_shapes (pc := 17) _ (by first | assumption | omega) rfl (by first | assumption | omega) dX2_setInside_17 ?_
      refine x_aload_n (pc := 18) dX2_setInside_18 rfl ?_
      refine t_Vi (pc := 19) (c_X1_isInside (by first | assumption | omega) (by first | assumption | omega) (by first | assumption | omega)) qV_X1_isInside mL_X2_63 dX2_setInside_19 rfl (cell_shape (by first | assumption | omega) (by first | assumption | omega)) (shO_255 (by first | assumption | omega) (by first | assumption | omega)) rfl rfl rfl ⟨by decide, by decide⟩ (Nat.le_of_ble_eq_true rfl) (Nat.le_of_ble_eq_true rfl) (Nat.le_of_ble_eq_true rfl) ?_
      rw [hR.ins (by first | assumption | omega) (by first | assumption | omega)]
      refine x_ifeq (pc := 22) 31 dX2_setInside_22 (by decide) (fun c22 => ?_) (fun c22 => ?_)
      · refine x_iinc (pc := 31) (nI (k + 1)) dX2_setInside_31 rfl (iinc_nI k) (by decide) ?_
        refine x_goto (pc := 34) 4 dX2_setInside_34 (by decide) ?_
        have e := ih hkn
        first
        | (simp only [setN, b01_eq c22, Bool.false_eq_true, if_false] at e; exact x_back e ⟨rfl, rfl, rfl, rfl, trivial⟩)
        | (simp only [setN, b01_ne c22, if_true] at e; exact x_back e ⟨rfl, rfl, rfl, rfl, trivial⟩)
      · refine x_iload_n (pc := 25) dX2_setInside_25 rfl ?_
        refine x_iconst (pc := 26) (1) dX2_setInside_26 (by decide) ?_
        refine x_iload_n (pc := 27) dX2_setInside_27 rfl ?_
        refine x_ishl (pc := 28) dX2_setInside_28 ?_
        refine x_ior (pc := 29) dX2_setInside_29 ?_
        refine x_istore_n (pc := 30) dX2_setInside_30 (by decide) ?_
        refine x_iinc (pc := 31) (nI (k + 1)) dX2_setInside_31 rfl (iinc_nI k) (by decide) ?_
        refine x_goto (pc := 34) 4 dX2_setInside_34 (by decide) ?_
        have e := ih hkn
        first
        | (simp only [setN, b01_eq c22, Bool.false_eq_true, if_false] at e; exact x_back e ⟨rfl, rfl, rfl, rfl, trivial⟩)
        | (simp only [setN, b01_ne c22, if_true] at e; exact x_back e ⟨rfl, rfl, rfl, rfl, trivial⟩)
  refine x_iconst (pc := 0) (0) dX2_setInside_0 (by decide) ?_
  refine x_istore_n (pc := 1) dX2_setInside_1 (by decide) ?_
  refine x_iconst (pc := 2) (0) dX2_setInside_2 (by decide) ?_
  refine x_istore_n (pc := 3) dX2_setInside_3 (by decide) ?_
  exact x_back (lp 0 (by omega)) ⟨rfl, rfl, rfl, rfl, trivial⟩
set_option maxHeartbeats 4000000 in
set_option maxRecDepth 100000 in
theorem c_X2_fits (hj : j < 8) (hR : RC σ A) : Ct G yX2_fits YX2_fits 0 0 [.ref (gB G + sB j), .ref (gB G + shO j A.1)] 255 (cellOf G (updS S j σ) B M) (Rt G (some (.int (b01 (fitB A.2.2.2.2 (σ.2.2.2.1 A.1) A.1)))) (updS S j σ) B M) := by
  refine ct_of (by decide +kernel) rfl rfl (Nat.le_of_ble_eq_true rfl) (by simp [Value.category]) ?_
  refine x_sub (l' := [(0, .ref (gB G + sB j)), (1, .ref (gB G + shO j A.1))]) ⟨rfl, rfl, trivial⟩ ?_
  have h12 := hR.le
  have lp : ∀ k, k ≤ A.1 → fitB A.2.2.2.2 (σ.2.2.2.1 A.1) k = true → XJ G YX2_fits (fun _ => True) (Zx G (Rt G (some (.int (b01 (fitB A.2.2.2.2 (σ.2.2.2.1 A.1) A.1)))) (updS S j σ) B M) 0 0) 2 [(0, .ref (gB G + sB j)), (1, .ref (gB G + shO j A.1)), (2, .int (nI k))] [] 255 (cellOf G (updS S j σ) B M) 0 0 := by
    refine loopD (A.1) ?_
    intro k hk ih hf
    refine x_iload_n (pc := 2) dX2_fits_2 rfl ?_
    refine x_aload_n (pc := 3) dX2_fits_3 rfl ?_
    refine x_get (pc := 4) (ci := 2) (k := 3) (C := RX2) (T := TX2) (N := 10) (cell_sheet (by first | assumption | omega)) rfl (sB_255 (by first | assumption | omega)) rfl nX2 (by decide) mF_X2_25 rfl dX2_fits_4 ?_
    rw [hR.told]
    refine x_cmpge (pc := 7) 71 dX2_fits_7 (by decide) (fun c7 => ?_) (fun c7 => ?_)
    · obtain rfl : k = A.1 := by have := mt (tl_iff hR.le hk).mpr c7; omega
      refine x_iconst (pc := 71) (1) dX2_fits_71 (by decide) ?_
      exact x_zret rfl rfl dX2_fits_72 ⟨by rw [hf]; rfl, rfl, rfl⟩
    · have hkn : k < A.1 := (tl_iff hR.le hk).mp c7
      refine x_aload_n (pc := 10) dX2_fits_10 rfl ?_
      refine x_get (pc := 11) (ci := 2) (k := 0) (C := RX2) (T := TX2) (N := 10) (cell_sheet (by first | assumption | omega)) rfl (sB_255 (by first | assumption | omega)) rfl nX2 (by decide) mF_X2_13 rfl dX2_fits_11 ?_
      refine x_iload_n (pc := 14) dX2_fits_14 rfl ?_
      refine t_shapes (pc := 15) _ (by first | assumption | omega) rfl (by first | assumption | omega) dX2_fits_15 ?_
      refine x_astore_n (pc := 16) dX2_fits_16 (by decide) ?_
      refine x_aload_n (pc := 17) dX2_fits_17 rfl ?_
      refine x_aload_n (pc := 18) dX2_fits_18 rfl ?_
      refine t_Vi (pc := 19) (c_X1_isInside (by first | assumption | omega) (by first | assumption | omega) (by first | assumption | omega)) qV_X1_isInside mL_X2_63 dX2_fits_19 rfl (cell_shape (by first | assumption | omega) (by first | assumption | omega)) (shO_255 (by first | assumption | omega) (by first | assumption | omega)) rfl rfl rfl ⟨by decide, by decide⟩ (Nat.le_of_ble_eq_true rfl) (Nat.le_of_ble_eq_true rfl) (Nat.le_of_ble_eq_true rfl) ?_
      rw [hR.ins2 _ hkn]
      refine x_ifne (pc := 22) 33 dX2_fits_22 (by decide) (fun c22 => ?_) (fun c22 => ?_)
      · refine x_iconst (pc := 33) (1) dX2_fits_33 (by decide) ?_
        refine x_goto (pc := 34) 38 dX2_fits_34 (by decide) ?_
        refine x_istore (pc := 38) dX2_fits_38 (by decide) ?_
        refine x_iload (pc := 40) dX2_fits_40 rfl ?_
        refine x_ifeq (pc := 42) 55 dX2_fits_42 (by decide) (fun h => absurd h (by decide)) (fun _ => ?_)
        refine x_aload_n (pc := 45) dX2_fits_45 rfl ?_
        refine x_get (pc := 46) (ci := 1) (k := 5) (C := RX1) (T := TX1) (N := 9) (cell_shape (by first | assumption | omega) (by first | assumption | omega)) rfl (shO_255 (by first | assumption | omega) (by first | assumption | omega)) rfl nX1 (by decide) mF_X2_66 rfl dX2_fits_46 ?_
        rw [hR.shp (by first | assumption | omega) 5]
        refine x_ifeq (pc := 49) 65 dX2_fits_49 (by decide) (fun c49 => ?_) (fun c49 => ?_)
        · refine x_iinc (pc := 65) (nI (k + 1)) dX2_fits_65 rfl (iinc_nI k) (by decide) ?_
          refine x_goto (pc := 68) 2 dX2_fits_68 (by decide) ?_
          have hk1 : fitB A.2.2.2.2 (σ.2.2.2.1 A.1) (k + 1) = true := by
            simp only [fitB, hf, okB, Bool.true_and]
            first
            | simp only [b01_ne c22, Bool.true_or, if_true, c49, decide_true]
            | simp only [b01_eq c22, b01_ne c30, Bool.false_or, if_true, c49, decide_true]
            | simp only [b01_eq c22, b01_eq c30, Bool.or_self, Bool.false_eq_true, if_false, b01_ne c60]
          exact x_back (ih hkn hk1) ⟨rfl, rfl, rfl, trivial⟩
        · refine x_goto (pc := 52) 63 dX2_fits_52 (by decide) ?_
          refine x_iconst (pc := 63) (0) dX2_fits_63 (by decide) ?_
          have hk1 : fitB A.2.2.2.2 (σ.2.2.2.1 A.1) (k + 1) = false := by
            simp only [fitB, hf, okB, Bool.true_and]
            first
            | simp only [b01_ne c22, Bool.true_or, if_true, c49, decide_false]
            | simp only [b01_eq c22, b01_ne c30, Bool.false_or, if_true, c49, decide_false]
            | simp only [b01_eq c22, b01_eq c30, Bool.or_self, Bool.false_eq_true, if_false, b01_eq c60]
          exact x_zret rfl rfl dX2_fits_64 ⟨by rw [fitB_mono hk1 A.1 hkn]; rfl, rfl, rfl⟩
      · refine x_aload_n (pc := 25) dX2_fits_25 rfl ?_
        refine x_aload_n (pc := 26) dX2_fits_26 rfl ?_
        refine t_Vi (pc := 27) (c_X1_isInside (by first | assumption | omega) (by first | assumption | omega) (by first | assumption | omega)) qV_X1_isInside mL_X2_63 dX2_fits_27 rfl (cell_shape (by first | assumption | omega) (by first | assumption | omega)) (shO_255 (by first | assumption | omega) (by first | assumption | omega)) rfl rfl rfl ⟨by decide, by decide⟩ (Nat.le_of_ble_eq_true rfl) (Nat.le_of_ble_eq_true rfl) (Nat.le_of_ble_eq_true rfl) ?_
        rw [hR.ins1 _ hkn]
        refine x_ifeq (pc := 30) 37 dX2_fits_30 (by decide) (fun c30 => ?_) (fun c30 => ?_)
        · refine x_iconst (pc := 37) (0) dX2_fits_37 (by decide) ?_
          refine x_istore (pc := 38) dX2_fits_38 (by decide) ?_
          refine x_iload (pc := 40) dX2_fits_40 rfl ?_
          refine x_ifeq (pc := 42) 55 dX2_fits_42 (by decide) (fun _ => ?_) (fun h => absurd h (by decide))
          refine x_aload_n (pc := 55) dX2_fits_55 rfl ?_
          refine x_aload_n (pc := 56) dX2_fits_56 rfl ?_
          refine t_Vi (pc := 57) (c_X1_isApartFrom (by first | assumption | omega) (by first | assumption | omega) (by first | assumption | omega)) qV_X1_isApartFrom mL_X2_69 dX2_fits_57 rfl (cell_shape (by first | assumption | omega) (by first | assumption | omega)) (shO_255 (by first | assumption | omega) (by first | assumption | omega)) rfl rfl rfl ⟨by decide, by decide⟩ (Nat.le_of_ble_eq_true rfl) (Nat.le_of_ble_eq_true rfl) (Nat.le_of_ble_eq_true rfl) ?_
          rw [hR.apa2 _ hkn]
          refine x_ifne (pc := 60) 65 dX2_fits_60 (by decide) (fun c60 => ?_) (fun c60 => ?_)
          · refine x_iinc (pc := 65) (nI (k + 1)) dX2_fits_65 rfl (iinc_nI k) (by decide) ?_
            refine x_goto (pc := 68) 2 dX2_fits_68 (by decide) ?_
            have hk1 : fitB A.2.2.2.2 (σ.2.2.2.1 A.1) (k + 1) = true := by
              simp only [fitB, hf, okB, Bool.true_and]
              first
              | simp only [b01_ne c22, Bool.true_or, if_true, c49, decide_true]
              | simp only [b01_eq c22, b01_ne c30, Bool.false_or, if_true, c49, decide_true]
              | simp only [b01_eq c22, b01_eq c30, Bool.or_self, Bool.false_eq_true, if_false, b01_ne c60]
            exact x_back (ih hkn hk1) ⟨rfl, rfl, rfl, trivial⟩
          · refine x_iconst (pc := 63) (0) dX2_fits_63 (by decide) ?_
            have hk1 : fitB A.2.2.2.2 (σ.2.2.2.1 A.1) (k + 1) = false := by
              simp only [fitB, hf, okB, Bool.true_and]
              first
              | simp only [b01_ne c22, Bool.true_or, if_true, c49, decide_false]
              | simp only [b01_eq c22, b01_ne c30, Bool.false_or, if_true, c49, decide_false]
              | simp only [b01_eq c22, b01_eq c30, Bool.or_self, Bool.false_eq_true, if_false, b01_eq c60]
            exact x_zret rfl rfl dX2_fits_64 ⟨by rw [fitB_mono hk1 A.1 hkn]; rfl, rfl, rfl⟩
        · refine x_iconst (pc := 33) (1) dX2_fits_33 (by decide) ?_
          refine x_goto (pc := 34) 38 dX2_fits_34 (by decide) ?_
          refine x_istore (pc := 38) dX2_fits_38 (by decide) ?_
          refine x_iload (pc := 40) dX2_fits_40 rfl ?_
          refine x_ifeq (pc := 42) 55 dX2_fits_42 (by decide) (fun h => absurd h (by decide)) (fun _ => ?_)
          refine x_aload_n (pc := 45) dX2_fits_45 rfl ?_
          refine x_get (pc := 46) (ci := 1) (k := 5) (C := RX1) (T := TX1) (N := 9) (cell_shape (by first | assumption | omega) (by first | assumption | omega)) rfl (shO_255 (by first | assumption | omega) (by first | assumption | omega)) rfl nX1 (by decide) mF_X2_66 rfl dX2_fits_46 ?_
          rw [hR.shp (by first | assumption | omega) 5]
          refine x_ifeq (pc := 49) 65 dX2_fits_49 (by decide) (fun c49 => ?_) (fun c49 => ?_)
          · refine x_iinc (pc := 65) (nI (k + 1)) dX2_fits_65 rfl (iinc_nI k) (by decide) ?_
            refine x_goto (pc := 68) 2 dX2_fits_68 (by decide) ?_
            have hk1 : fitB A.2.2.2.2 (σ.2.2.2.1 A.1) (k + 1) = true := by
              simp only [fitB, hf, okB, Bool.true_and]
              first
              | simp only [b01_ne c22, Bool.true_or, if_true, c49, decide_true]
              | simp only [b01_eq c22, b01_ne c30, Bool.false_or, if_true, c49, decide_true]
              | simp only [b01_eq c22, b01_eq c30, Bool.or_self, Bool.false_eq_true, if_false, b01_ne c60]
            exact x_back (ih hkn hk1) ⟨rfl, rfl, rfl, trivial⟩
          · refine x_goto (pc := 52) 63 dX2_fits_52 (by decide) ?_
            refine x_iconst (pc := 63) (0) dX2_fits_63 (by decide) ?_
            have hk1 : fitB A.2.2.2.2 (σ.2.2.2.1 A.1) (k + 1) = false := by
              simp only [fitB, hf, okB, Bool.true_and]
              first
              | simp only [b01_ne c22, Bool.true_or, if_true, c49, decide_false]
              | simp only [b01_eq c22, b01_ne c30, Bool.false_or, if_true, c49, decide_false]
              | simp only [b01_eq c22, b01_eq c30, Bool.or_self, Bool.false_eq_true, if_false, b01_eq c60]
            exact x_zret rfl rfl dX2_fits_64 ⟨by rw [fitB_mono hk1 A.1 hkn]; rfl, rfl, rfl⟩
  refine x_iconst (pc := 0) (0) dX2_fits_0 (by decide) ?_
  refine x_istore_n (pc := 1) dX2_fits_1 (by decide) ?_
  exact x_back (lp 0 (by omega) rfl) ⟨rfl, rfl, rfl, trivial⟩
set_option maxHeartbeats 4000000 in
set_option maxRecDepth 100000 in
theorem c_X2_factOfShape (hj : j < 8) (hR : RC σ A) (v w : Int32) : Ct G yX2_factOfShape YX2_factOfShape 0 0 [.ref (gB G + sB j), .int v, .int w] 255 (cellOf G (updS S j σ) B M) (Rt G (some (.int (factX A v w))) (updS S j σ) B M) := by
  refine ct_of (by decide +kernel) rfl rfl (Nat.le_of_ble_eq_true rfl) (by simp [Value.category]) ?_
  refine x_sub (l' := [(0, .ref (gB G + sB j)), (1, .int v), (2, .int w)]) ⟨rfl, rfl, rfl, trivial⟩ ?_
  have h12 := hR.le
  refine x_aload_n (pc := 0) dX2_factOfShape_0 rfl ?_
  refine x_iload_n (pc := 1) dX2_factOfShape_1 rfl ?_
  refine t_Vi (pc := 2) (c_X2_knows (by first | assumption | omega) hR _) qV_X2_knows mL_X2_72 dX2_factOfShape_2 rfl (cell_sheet (by first | assumption | omega)) (sB_255 (by first | assumption | omega)) rfl rfl rfl ⟨by decide, by decide⟩ (Nat.le_of_ble_eq_true rfl) (Nat.le_of_ble_eq_true rfl) (Nat.le_of_ble_eq_true rfl) ?_
  refine x_ifne (pc := 5) 10 dX2_factOfShape_5 (by decide) (fun c5 => ?_) (fun c5 => ?_)
  · obtain ⟨i, hi, rfl, hcl⟩ := knB_some hR.le (b01_ne c5)
    refine x_aload_n (pc := 10) dX2_factOfShape_10 rfl ?_
    refine x_get (pc := 11) (ci := 2) (k := 0) (C := RX2) (T := TX2) (N := 10) (cell_sheet (by first | assumption | omega)) rfl (sB_255 (by first | assumption | omega)) rfl nX2 (by decide) mF_X2_13 rfl dX2_factOfShape_11 ?_
    refine x_iload_n (pc := 14) dX2_factOfShape_14 rfl ?_
    refine t_shapes (pc := 15) _ (by first | assumption | omega) rfl (by first | assumption | omega) dX2_factOfShape_15 ?_
    refine x_astore_n (pc := 16) dX2_factOfShape_16 (by decide) ?_
    refine x_iload_n (pc := 17) dX2_factOfShape_17 rfl ?_
    by_cases hw : betw w 0 (nI 10) = true
    · obtain ⟨q, hq, rfl, hcq⟩ := betw_some (n := 10) rfl (by decide) hw
      rcases (show q = 0 ∨ q = 1 ∨ q = 2 ∨ q = 3 ∨ q = 4 ∨ q = 5 ∨ q = 6 ∨ q = 7 ∨ q = 8 ∨ q = 9 ∨ q = 10 by omega) with rfl | rfl | rfl | rfl | rfl | rfl | rfl | rfl | rfl | rfl | rfl
      · refine x_tableIn (pc := 18) 76 dX2_factOfShape_18 (by decide) (by decide) rfl (by decide) ?_
        refine x_aload_n (pc := 76) dX2_factOfShape_76 rfl ?_
        refine x_get (pc := 77) (ci := 1) (k := 0) (C := RX1) (T := TX1) (N := 9) (cell_shape (by first | assumption | omega) (by first | assumption | omega)) rfl (shO_255 (by first | assumption | omega) (by first | assumption | omega)) rfl nX1 (by decide) mF_X2_167 rfl dX2_factOfShape_77 ?_
        rw [hR.shp (by first | assumption | omega) 0]
        exact x_iret rfl dX2_factOfShape_80 ⟨by simp only [factX, b01_ne c5, if_true, hcl]; rfl, rfl, rfl⟩
      · refine x_tableIn (pc := 18) 81 dX2_factOfShape_18 (by decide) (by decide) rfl (by decide) ?_
        refine x_aload_n (pc := 81) dX2_factOfShape_81 rfl ?_
        refine x_get (pc := 82) (ci := 1) (k := 1) (C := RX1) (T := TX1) (N := 9) (cell_shape (by first | assumption | omega) (by first | assumption | omega)) rfl (shO_255 (by first | assumption | omega) (by first | assumption | omega)) rfl nX1 (by decide) mF_X2_170 rfl dX2_factOfShape_82 ?_
        rw [hR.shp (by first | assumption | omega) 1]
        exact x_iret rfl dX2_factOfShape_85 ⟨by simp only [factX, b01_ne c5, if_true, hcl]; rfl, rfl, rfl⟩
      · refine x_tableIn (pc := 18) 86 dX2_factOfShape_18 (by decide) (by decide) rfl (by decide) ?_
        refine x_aload_n (pc := 86) dX2_factOfShape_86 rfl ?_
        refine x_get (pc := 87) (ci := 1) (k := 2) (C := RX1) (T := TX1) (N := 9) (cell_shape (by first | assumption | omega) (by first | assumption | omega)) rfl (shO_255 (by first | assumption | omega) (by first | assumption | omega)) rfl nX1 (by decide) mF_X2_173 rfl dX2_factOfShape_87 ?_
        rw [hR.shp (by first | assumption | omega) 2]
        exact x_iret rfl dX2_factOfShape_90 ⟨by simp only [factX, b01_ne c5, if_true, hcl]; rfl, rfl, rfl⟩
      · refine x_tableIn (pc := 18) 91 dX2_factOfShape_18 (by decide) (by decide) rfl (by decide) ?_
        refine x_aload_n (pc := 91) dX2_factOfShape_91 rfl ?_
        refine x_get (pc := 92) (ci := 1) (k := 3) (C := RX1) (T := TX1) (N := 9) (cell_shape (by first | assumption | omega) (by first | assumption | omega)) rfl (shO_255 (by first | assumption | omega) (by first | assumption | omega)) rfl nX1 (by decide) mF_X2_176 rfl dX2_factOfShape_92 ?_
        rw [hR.shp (by first | assumption | omega) 3]
        exact x_iret rfl dX2_factOfShape_95 ⟨by simp only [factX, b01_ne c5, if_true, hcl]; rfl, rfl, rfl⟩
      · refine x_tableIn (pc := 18) 96 dX2_factOfShape_18 (by decide) (by decide) rfl (by decide) ?_
        refine x_aload_n (pc := 96) dX2_factOfShape_96 rfl ?_
        refine x_get (pc := 97) (ci := 1) (k := 4) (C := RX1) (T := TX1) (N := 9) (cell_shape (by first | assumption | omega) (by first | assumption | omega)) rfl (shO_255 (by first | assumption | omega) (by first | assumption | omega)) rfl nX1 (by decide) mF_X2_76 rfl dX2_factOfShape_97 ?_
        rw [hR.shp (by first | assumption | omega) 4]
        exact x_iret rfl dX2_factOfShape_100 ⟨by simp only [factX, b01_ne c5, if_true, hcl]; rfl, rfl, rfl⟩
      · refine x_tableIn (pc := 18) 101 dX2_factOfShape_18 (by decide) (by decide) rfl (by decide) ?_
        refine x_aload_n (pc := 101) dX2_factOfShape_101 rfl ?_
        refine x_get (pc := 102) (ci := 1) (k := 5) (C := RX1) (T := TX1) (N := 9) (cell_shape (by first | assumption | omega) (by first | assumption | omega)) rfl (shO_255 (by first | assumption | omega) (by first | assumption | omega)) rfl nX1 (by decide) mF_X2_66 rfl dX2_factOfShape_102 ?_
        rw [hR.shp (by first | assumption | omega) 5]
        exact x_iret rfl dX2_factOfShape_105 ⟨by simp only [factX, b01_ne c5, if_true, hcl]; rfl, rfl, rfl⟩
      · refine x_tableIn (pc := 18) 106 dX2_factOfShape_18 (by decide) (by decide) rfl (by decide) ?_
        refine x_aload_n (pc := 106) dX2_factOfShape_106 rfl ?_
        refine x_aload_n (pc := 107) dX2_factOfShape_107 rfl ?_
        refine t_Vi (pc := 108) (c_X2_outerOf (by first | assumption | omega) hR (by first | assumption | omega)) qV_X2_outerOf mL_X2_179 dX2_factOfShape_108 rfl (cell_sheet (by first | assumption | omega)) (sB_255 (by first | assumption | omega)) rfl rfl rfl ⟨by decide, by decide⟩ (Nat.le_of_ble_eq_true rfl) (Nat.le_of_ble_eq_true rfl) (Nat.le_of_ble_eq_true rfl) ?_
        exact x_iret rfl dX2_factOfShape_111 ⟨by simp only [factX, b01_ne c5, if_true, hcl]; rfl, rfl, rfl⟩
      · refine x_tableIn (pc := 18) 112 dX2_factOfShape_18 (by decide) (by decide) rfl (by decide) ?_
        refine x_aload_n (pc := 112) dX2_factOfShape_112 rfl ?_
        refine x_aload_n (pc := 113) dX2_factOfShape_113 rfl ?_
        refine t_Vi (pc := 114) (c_X2_setInside (by first | assumption | omega) hR (by first | assumption | omega)) qV_X2_setInside mL_X2_182 dX2_factOfShape_114 rfl (cell_sheet (by first | assumption | omega)) (sB_255 (by first | assumption | omega)) rfl rfl rfl ⟨by decide, by decide⟩ (Nat.le_of_ble_eq_true rfl) (Nat.le_of_ble_eq_true rfl) (Nat.le_of_ble_eq_true rfl) ?_
        exact x_iret rfl dX2_factOfShape_117 ⟨by simp only [factX, b01_ne c5, if_true, hcl]; rfl, rfl, rfl⟩
      · refine x_tableIn (pc := 18) 118 dX2_factOfShape_18 (by decide) (by decide) rfl (by decide) ?_
        refine x_aload_n (pc := 118) dX2_factOfShape_118 rfl ?_
        refine t_Vi (pc := 119) (c_X1_edge (by first | assumption | omega) (by first | assumption | omega)) qV_X1_edge mL_X2_140 dX2_factOfShape_119 rfl (cell_shape (by first | assumption | omega) (by first | assumption | omega)) (shO_255 (by first | assumption | omega) (by first | assumption | omega)) rfl rfl rfl ⟨by decide, by decide⟩ (Nat.le_of_ble_eq_true rfl) (Nat.le_of_ble_eq_true rfl) (Nat.le_of_ble_eq_true rfl) ?_
        rw [hR.ed (by first | assumption | omega)]
        exact x_iret rfl dX2_factOfShape_122 ⟨by simp only [factX, b01_ne c5, if_true, hcl]; rfl, rfl, rfl⟩
      · refine x_tableIn (pc := 18) 123 dX2_factOfShape_18 (by decide) (by decide) rfl (by decide) ?_
        refine x_aload_n (pc := 123) dX2_factOfShape_123 rfl ?_
        refine x_get (pc := 124) (ci := 1) (k := 6) (C := RX1) (T := TX1) (N := 9) (cell_shape (by first | assumption | omega) (by first | assumption | omega)) rfl (shO_255 (by first | assumption | omega) (by first | assumption | omega)) rfl nX1 (by decide) mF_X2_119 rfl dX2_factOfShape_124 ?_
        rw [hR.shp (by first | assumption | omega) 6]
        exact x_iret rfl dX2_factOfShape_127 ⟨by simp only [factX, b01_ne c5, if_true, hcl]; rfl, rfl, rfl⟩
      · refine x_tableIn (pc := 18) 128 dX2_factOfShape_18 (by decide) (by decide) rfl (by decide) ?_
        refine x_aload_n (pc := 128) dX2_factOfShape_128 rfl ?_
        refine x_get (pc := 129) (ci := 1) (k := 7) (C := RX1) (T := TX1) (N := 9) (cell_shape (by first | assumption | omega) (by first | assumption | omega)) rfl (shO_255 (by first | assumption | omega) (by first | assumption | omega)) rfl nX1 (by decide) mF_X2_107 rfl dX2_factOfShape_129 ?_
        rw [hR.shp (by first | assumption | omega) 7]
        exact x_iret rfl dX2_factOfShape_132 ⟨by simp only [factX, b01_ne c5, if_true, hcl]; rfl, rfl, rfl⟩
    · have ho := betw_out rfl (by decide) hw
      refine x_tableOut (pc := 18) 133 dX2_factOfShape_18 ho (by decide) ?_
      refine x_bipush (pc := 133) (-2) dX2_factOfShape_133 (by decide) ?_
      exact x_iret rfl dX2_factOfShape_135 ⟨by (have n6 : ¬ w = 6 := ne_out (m := 6) (n := 10) (by decide) (by decide) ho; have n7 : ¬ w = 7 := ne_out (m := 7) (n := 10) (by decide) (by decide) ho; have n8 : ¬ w = 8 := ne_out (m := 8) (n := 10) (by decide) (by decide) ho; have n9 : ¬ w = 9 := ne_out (m := 9) (n := 10) (by decide) (by decide) ho; have n10 : ¬ w = 10 := ne_out (m := 10) (n := 10) (by decide) (by decide) ho; have h5 : betw w 0 5 = false := betw_ge (m := 5) (n := 10) (by decide) (by decide) ho; simp only [factX, b01_ne c5, if_true, h5, Bool.false_eq_true, if_false, n6, n7, n8, n9, n10]), rfl, rfl⟩
  · refine x_iconst (pc := 8) (-1) dX2_factOfShape_8 (by decide) ?_
    exact x_iret rfl dX2_factOfShape_9 ⟨by simp only [factX, b01_eq c5, Bool.false_eq_true, if_false], rfl, rfl⟩
set_option maxHeartbeats 4000000 in
set_option maxRecDepth 100000 in
theorem c_X2_factOfSheet (hj : j < 8) (hR : RC σ A) (w : Int32) : Ct G yX2_factOfSheet YX2_factOfSheet 0 0 [.ref (gB G + sB j), .int w] 255 (cellOf G (updS S j σ) B M) (Rt G (some (.int (sheetX A w))) (updS S j σ) B M) := by
  refine ct_of (by decide +kernel) rfl rfl (Nat.le_of_ble_eq_true rfl) (by simp [Value.category]) ?_
  refine x_sub (l' := [(0, .ref (gB G + sB j)), (1, .int w)]) ⟨rfl, rfl, trivial⟩ ?_
  have h12 := hR.le
  refine x_iload_n (pc := 0) dX2_factOfSheet_0 rfl ?_
  by_cases hw : betw w 0 (nI 16) = true
  · obtain ⟨q, hq, rfl, hcq⟩ := betw_some (n := 16) rfl (by decide) hw
    rcases (show q = 0 ∨ q = 1 ∨ q = 2 ∨ q = 3 ∨ q = 4 ∨ q = 5 ∨ q = 6 ∨ q = 7 ∨ q = 8 ∨ q = 9 ∨ q = 10 ∨ q = 11 ∨ q = 12 ∨ q = 13 ∨ q = 14 ∨ q = 15 ∨ q = 16 by omega) with rfl | rfl | rfl | rfl | rfl | rfl | rfl | rfl | rfl | rfl | rfl | rfl | rfl | rfl | rfl | rfl | rfl
    · refine x_tableIn (pc := 1) 84 dX2_factOfSheet_1 (by decide) (by decide) rfl (by decide) ?_
      refine x_aload_n (pc := 84) dX2_factOfSheet_84 rfl ?_
      refine x_get (pc := 85) (ci := 2) (k := 3) (C := RX2) (T := TX2) (N := 10) (cell_sheet (by first | assumption | omega)) rfl (sB_255 (by first | assumption | omega)) rfl nX2 (by decide) mF_X2_25 rfl dX2_factOfSheet_85 ?_
      rw [hR.told]
      exact x_iret rfl dX2_factOfSheet_88 ⟨rfl, rfl, rfl⟩
    · refine x_tableIn (pc := 1) 89 dX2_factOfSheet_1 (by decide) (by decide) rfl (by decide) ?_
      refine x_aload_n (pc := 89) dX2_factOfSheet_89 rfl ?_
      refine x_iconst (pc := 90) (0) dX2_factOfSheet_90 (by decide) ?_
      refine t_Vi (pc := 91) (c_X2_shapesThatAre (by first | assumption | omega) hR _) qV_X2_shapesThatAre mL_X2_185 dX2_factOfSheet_91 rfl (cell_sheet (by first | assumption | omega)) (sB_255 (by first | assumption | omega)) rfl rfl rfl ⟨by decide, by decide⟩ (Nat.le_of_ble_eq_true rfl) (Nat.le_of_ble_eq_true rfl) (Nat.le_of_ble_eq_true rfl) ?_
      exact x_iret rfl dX2_factOfSheet_94 ⟨rfl, rfl, rfl⟩
    · refine x_tableIn (pc := 1) 95 dX2_factOfSheet_1 (by decide) (by decide) rfl (by decide) ?_
      refine x_aload_n (pc := 95) dX2_factOfSheet_95 rfl ?_
      refine x_iconst (pc := 96) (1) dX2_factOfSheet_96 (by decide) ?_
      refine t_Vi (pc := 97) (c_X2_shapesThatAre (by first | assumption | omega) hR _) qV_X2_shapesThatAre mL_X2_185 dX2_factOfSheet_97 rfl (cell_sheet (by first | assumption | omega)) (sB_255 (by first | assumption | omega)) rfl rfl rfl ⟨by decide, by decide⟩ (Nat.le_of_ble_eq_true rfl) (Nat.le_of_ble_eq_true rfl) (Nat.le_of_ble_eq_true rfl) ?_
      exact x_iret rfl dX2_factOfSheet_100 ⟨rfl, rfl, rfl⟩
    · refine x_tableIn (pc := 1) 101 dX2_factOfSheet_1 (by decide) (by decide) rfl (by decide) ?_
      refine x_aload_n (pc := 101) dX2_factOfSheet_101 rfl ?_
      refine x_iconst (pc := 102) (2) dX2_factOfSheet_102 (by decide) ?_
      refine t_Vi (pc := 103) (c_X2_shapesThatAre (by first | assumption | omega) hR _) qV_X2_shapesThatAre mL_X2_185 dX2_factOfSheet_103 rfl (cell_sheet (by first | assumption | omega)) (sB_255 (by first | assumption | omega)) rfl rfl rfl ⟨by decide, by decide⟩ (Nat.le_of_ble_eq_true rfl) (Nat.le_of_ble_eq_true rfl) (Nat.le_of_ble_eq_true rfl) ?_
      exact x_iret rfl dX2_factOfSheet_106 ⟨rfl, rfl, rfl⟩
    · refine x_tableIn (pc := 1) 107 dX2_factOfSheet_1 (by decide) (by decide) rfl (by decide) ?_
      refine x_aload_n (pc := 107) dX2_factOfSheet_107 rfl ?_
      refine t_Vi (pc := 108) (c_X2_shapesThatTilted (by first | assumption | omega) hR) qV_X2_shapesThatTilted mL_X2_188 dX2_factOfSheet_108 rfl (cell_sheet (by first | assumption | omega)) (sB_255 (by first | assumption | omega)) rfl rfl rfl ⟨by decide, by decide⟩ (Nat.le_of_ble_eq_true rfl) (Nat.le_of_ble_eq_true rfl) (Nat.le_of_ble_eq_true rfl) ?_
      exact x_iret rfl dX2_factOfSheet_111 ⟨rfl, rfl, rfl⟩
    · refine x_tableIn (pc := 1) 112 dX2_factOfSheet_1 (by decide) (by decide) rfl (by decide) ?_
      refine x_aload_n (pc := 112) dX2_factOfSheet_112 rfl ?_
      refine x_get (pc := 113) (ci := 2) (k := 6) (C := RX2) (T := TX2) (N := 10) (cell_sheet (by first | assumption | omega)) rfl (sB_255 (by first | assumption | omega)) rfl nX2 (by decide) mF_X2_35 rfl dX2_factOfSheet_113 ?_
      rw [hR.int 3]
      exact x_iret rfl dX2_factOfSheet_116 ⟨rfl, rfl, rfl⟩
    · refine x_tableIn (pc := 1) 117 dX2_factOfSheet_1 (by decide) (by decide) rfl (by decide) ?_
      refine x_aload_n (pc := 117) dX2_factOfSheet_117 rfl ?_
      refine x_get (pc := 118) (ci := 2) (k := 4) (C := RX2) (T := TX2) (N := 10) (cell_sheet (by first | assumption | omega)) rfl (sB_255 (by first | assumption | omega)) rfl nX2 (by decide) mF_X2_29 rfl dX2_factOfSheet_118 ?_
      rw [hR.int 1]
      exact x_iret rfl dX2_factOfSheet_121 ⟨rfl, rfl, rfl⟩
    · refine x_tableIn (pc := 1) 122 dX2_factOfSheet_1 (by decide) (by decide) rfl (by decide) ?_
      refine x_aload_n (pc := 122) dX2_factOfSheet_122 rfl ?_
      refine x_get (pc := 123) (ci := 2) (k := 5) (C := RX2) (T := TX2) (N := 10) (cell_sheet (by first | assumption | omega)) rfl (sB_255 (by first | assumption | omega)) rfl nX2 (by decide) mF_X2_32 rfl dX2_factOfSheet_123 ?_
      rw [hR.int 2]
      exact x_iret rfl dX2_factOfSheet_126 ⟨rfl, rfl, rfl⟩
    · refine x_tableIn (pc := 1) 127 dX2_factOfSheet_1 (by decide) (by decide) rfl (by decide) ?_
      refine x_aload_n (pc := 127) dX2_factOfSheet_127 rfl ?_
      refine x_get (pc := 128) (ci := 2) (k := 7) (C := RX2) (T := TX2) (N := 10) (cell_sheet (by first | assumption | omega)) rfl (sB_255 (by first | assumption | omega)) rfl nX2 (by decide) mF_X2_38 rfl dX2_factOfSheet_128 ?_
      rw [hR.int 4]
      exact x_iret rfl dX2_factOfSheet_131 ⟨rfl, rfl, rfl⟩
    · refine x_tableIn (pc := 1) 132 dX2_factOfSheet_1 (by decide) (by decide) rfl (by decide) ?_
      refine x_aload_n (pc := 132) dX2_factOfSheet_132 rfl ?_
      refine x_get (pc := 133) (ci := 2) (k := 8) (C := RX2) (T := TX2) (N := 10) (cell_sheet (by first | assumption | omega)) rfl (sB_255 (by first | assumption | omega)) rfl nX2 (by decide) mF_X2_41 rfl dX2_factOfSheet_133 ?_
      rw [hR.int 5]
      exact x_iret rfl dX2_factOfSheet_136 ⟨rfl, rfl, rfl⟩
    · refine x_tableIn (pc := 1) 137 dX2_factOfSheet_1 (by decide) (by decide) rfl (by decide) ?_
      refine x_aload_n (pc := 137) dX2_factOfSheet_137 rfl ?_
      refine t_Vi (pc := 138) (c_X2_greatestHeat (by first | assumption | omega) hR) qV_X2_greatestHeat mL_X2_116 dX2_factOfSheet_138 rfl (cell_sheet (by first | assumption | omega)) (sB_255 (by first | assumption | omega)) rfl rfl rfl ⟨by decide, by decide⟩ (Nat.le_of_ble_eq_true rfl) (Nat.le_of_ble_eq_true rfl) (Nat.le_of_ble_eq_true rfl) ?_
      exact x_iret rfl dX2_factOfSheet_141 ⟨rfl, rfl, rfl⟩
    · refine x_tableIn (pc := 1) 142 dX2_factOfSheet_1 (by decide) (by decide) rfl (by decide) ?_
      refine x_aload_n (pc := 142) dX2_factOfSheet_142 rfl ?_
      refine t_Vi (pc := 143) (c_X2_hottestSquare (by first | assumption | omega) hR) qV_X2_hottestSquare mL_X2_164 dX2_factOfSheet_143 rfl (cell_sheet (by first | assumption | omega)) (sB_255 (by first | assumption | omega)) rfl rfl rfl ⟨by decide, by decide⟩ (Nat.le_of_ble_eq_true rfl) (Nat.le_of_ble_eq_true rfl) (Nat.le_of_ble_eq_true rfl) ?_
      exact x_iret rfl dX2_factOfSheet_146 ⟨rfl, rfl, rfl⟩
    · refine x_tableIn (pc := 1) 147 dX2_factOfSheet_1 (by decide) (by decide) rfl (by decide) ?_
      refine x_aload_n (pc := 147) dX2_factOfSheet_147 rfl ?_
      refine t_Vi (pc := 148) (c_X2_allHeat (by first | assumption | omega) hR) qV_X2_allHeat mL_X2_191 dX2_factOfSheet_148 rfl (cell_sheet (by first | assumption | omega)) (sB_255 (by first | assumption | omega)) rfl rfl rfl ⟨by decide, by decide⟩ (Nat.le_of_ble_eq_true rfl) (Nat.le_of_ble_eq_true rfl) (Nat.le_of_ble_eq_true rfl) ?_
      exact x_iret rfl dX2_factOfSheet_151 ⟨rfl, rfl, rfl⟩
    · refine x_tableIn (pc := 1) 152 dX2_factOfSheet_1 (by decide) (by decide) rfl (by decide) ?_
      refine x_aload_n (pc := 152) dX2_factOfSheet_152 rfl ?_
      refine x_get (pc := 153) (ci := 2) (k := 2) (C := RX2) (T := TX2) (N := 10) (cell_sheet (by first | assumption | omega)) rfl (sB_255 (by first | assumption | omega)) rfl nX2 (by decide) mF_X2_22 rfl dX2_factOfSheet_153 ?_
      refine x_iconst (pc := 156) (0) dX2_factOfSheet_156 (by decide) ?_
      refine t_ild (pc := 157) 0 (cell_sets (by first | assumption | omega)) (stO_255 (by first | assumption | omega)) rfl (by decide) (by decide) dX2_factOfSheet_157 ?_
      rw [hR.sett _ (by decide)]
      exact x_iret rfl dX2_factOfSheet_158 ⟨rfl, rfl, rfl⟩
    · refine x_tableIn (pc := 1) 159 dX2_factOfSheet_1 (by decide) (by decide) rfl (by decide) ?_
      refine x_aload_n (pc := 159) dX2_factOfSheet_159 rfl ?_
      refine x_get (pc := 160) (ci := 2) (k := 2) (C := RX2) (T := TX2) (N := 10) (cell_sheet (by first | assumption | omega)) rfl (sB_255 (by first | assumption | omega)) rfl nX2 (by decide) mF_X2_22 rfl dX2_factOfSheet_160 ?_
      refine x_iconst (pc := 163) (1) dX2_factOfSheet_163 (by decide) ?_
      refine t_ild (pc := 164) 1 (cell_sets (by first | assumption | omega)) (stO_255 (by first | assumption | omega)) rfl (by decide) (by decide) dX2_factOfSheet_164 ?_
      rw [hR.sett _ (by decide)]
      exact x_iret rfl dX2_factOfSheet_165 ⟨rfl, rfl, rfl⟩
    · refine x_tableIn (pc := 1) 166 dX2_factOfSheet_1 (by decide) (by decide) rfl (by decide) ?_
      refine x_aload_n (pc := 166) dX2_factOfSheet_166 rfl ?_
      refine x_get (pc := 167) (ci := 2) (k := 2) (C := RX2) (T := TX2) (N := 10) (cell_sheet (by first | assumption | omega)) rfl (sB_255 (by first | assumption | omega)) rfl nX2 (by decide) mF_X2_22 rfl dX2_factOfSheet_167 ?_
      refine x_iconst (pc := 170) (2) dX2_factOfSheet_170 (by decide) ?_
      refine t_ild (pc := 171) 2 (cell_sets (by first | assumption | omega)) (stO_255 (by first | assumption | omega)) rfl (by decide) (by decide) dX2_factOfSheet_171 ?_
      rw [hR.sett _ (by decide)]
      exact x_iret rfl dX2_factOfSheet_172 ⟨rfl, rfl, rfl⟩
    · refine x_tableIn (pc := 1) 173 dX2_factOfSheet_1 (by decide) (by decide) rfl (by decide) ?_
      refine x_aload_n (pc := 173) dX2_factOfSheet_173 rfl ?_
      refine x_get (pc := 174) (ci := 2) (k := 2) (C := RX2) (T := TX2) (N := 10) (cell_sheet (by first | assumption | omega)) rfl (sB_255 (by first | assumption | omega)) rfl nX2 (by decide) mF_X2_22 rfl dX2_factOfSheet_174 ?_
      refine x_iconst (pc := 177) (3) dX2_factOfSheet_177 (by decide) ?_
      refine t_ild (pc := 178) 3 (cell_sets (by first | assumption | omega)) (stO_255 (by first | assumption | omega)) rfl (by decide) (by decide) dX2_factOfSheet_178 ?_
      rw [hR.sett _ (by decide)]
      exact x_iret rfl dX2_factOfSheet_179 ⟨rfl, rfl, rfl⟩
  · have ho := betw_out rfl (by decide) hw
    refine x_tableOut (pc := 1) 180 dX2_factOfSheet_1 ho (by decide) ?_
    refine x_bipush (pc := 180) (-2) dX2_factOfSheet_180 (by decide) ?_
    exact x_iret rfl dX2_factOfSheet_182 ⟨by (have n0 : ¬ w = 0 := ne_out (m := 0) (n := 16) (by decide) (by decide) ho; have n1 : ¬ w = 1 := ne_out (m := 1) (n := 16) (by decide) (by decide) ho; have n2 : ¬ w = 2 := ne_out (m := 2) (n := 16) (by decide) (by decide) ho; have n3 : ¬ w = 3 := ne_out (m := 3) (n := 16) (by decide) (by decide) ho; have n4 : ¬ w = 4 := ne_out (m := 4) (n := 16) (by decide) (by decide) ho; have n5 : ¬ w = 5 := ne_out (m := 5) (n := 16) (by decide) (by decide) ho; have n6 : ¬ w = 6 := ne_out (m := 6) (n := 16) (by decide) (by decide) ho; have n7 : ¬ w = 7 := ne_out (m := 7) (n := 16) (by decide) (by decide) ho; have n8 : ¬ w = 8 := ne_out (m := 8) (n := 16) (by decide) (by decide) ho; have n9 : ¬ w = 9 := ne_out (m := 9) (n := 16) (by decide) (by decide) ho; have n10 : ¬ w = 10 := ne_out (m := 10) (n := 16) (by decide) (by decide) ho; have n11 : ¬ w = 11 := ne_out (m := 11) (n := 16) (by decide) (by decide) ho; have n12 : ¬ w = 12 := ne_out (m := 12) (n := 16) (by decide) (by decide) ho; have n13 : ¬ w = 13 := ne_out (m := 13) (n := 16) (by decide) (by decide) ho; have n14 : ¬ w = 14 := ne_out (m := 14) (n := 16) (by decide) (by decide) ho; have n15 : ¬ w = 15 := ne_out (m := 15) (n := 16) (by decide) (by decide) ho; have n16 : ¬ w = 16 := ne_out (m := 16) (n := 16) (by decide) (by decide) ho; simp only [sheetX, if_false, n0, n1, n2, n3, n4, n5, n6, n7, n8, n9, n10, n11, n12, n13, n14, n15, n16]), rfl, rfl⟩
end SHEET3
end
section
/-! the class: Sheet's writers (rows laid by wip/whole/p15.py) -/
theorem cpF_at (g f : Fs) (k : Nat) : cpF g f k k = g k := by simp [cpF]
theorem cpF_in (g f : Fs) {k q : Nat} (h : q < k) : cpF g f k q = f q := by simp [cpF, h]
theorem edgQ_4 {f f' : Fs} (h : ∀ k, k < 4 → f k = f' k) (k : Nat) : edgQ f k = edgQ f' k := by simp only [edgQ, fldV, fcV, frV, h 0 (by decide), h 1 (by decide), h 2 (by decide), h 3 (by decide)]
theorem lsV_5 {f f' : Fs} (h : ∀ k, k < 5 → f k = f' k) : lsV f = lsV f' := by simp only [lsV, lcV, lrV, h 0 (by decide), h 1 (by decide), h 2 (by decide), h 3 (by decide), h 4 (by decide)]
theorem insB_4 {f f' g g' : Fs} (h : ∀ k, k < 4 → f k = f' k) (h2 : ∀ k, k < 4 → g k = g' k) : insB f g = insB f' g' := by
  simp only [insB, h 0 (by decide), h 1 (by decide), h 2 (by decide), h 3 (by decide), h2 0 (by decide), h2 1 (by decide), h2 2 (by decide), h2 3 (by decide)]
theorem apaB_4 {f f' g g' : Fs} (h : ∀ k, k < 4 → f k = f' k) (h2 : ∀ k, k < 4 → g k = g' k) : apaB f g = apaB f' g' := by
  simp only [apaB, h 0 (by decide), h 1 (by decide), h 2 (by decide), h 3 (by decide), h2 0 (by decide), h2 1 (by decide), h2 2 (by decide), h2 3 (by decide)]
theorem fitB_4 {P : Nat → Fs} {f f' : Fs} (h : ∀ k, k < 4 → f k = f' k) : ∀ k, fitB P f k = fitB P f' k
  | 0 => rfl
  | k + 1 => by simp only [fitB, fitB_4 h k, okB, insB_4 h (fun _ _ => rfl), insB_4 (fun _ _ => rfl) h, apaB_4 h (fun _ _ => rfl)]
theorem insB_irr (f : Fs) : insB f f = false := by simp [insB]
theorem RC_int {σ : Sh} {A : Ab} (h : RC σ A) (k : Nat) (v : Int32) (h1 : 1 ≤ k := by decide) : RC (upd σ.1 k v, σ.2) (A.1, upd A.2.1 k v, A.2.2) := by
  refine ⟨h.1, (upd_ne _ _ (by omega)).trans h.told, fun q q1 q2 => ?_, h.2.2.2.1, h.2.2.2.2.1, h.2.2.2.2.2.1, h.2.2.2.2.2.2⟩
  by_cases e : q = k
  · subst e; exact (upd_same _ _ _).trans (upd_same _ _ _).symm
  · exact (upd_ne _ _ e).trans ((h.int q q1 q2).trans (upd_ne _ _ e).symm)
theorem RC_shp {σ : Sh} {A : Ab} (h : RC σ A) {i : Nat} (hi : i < A.1) (k : Nat) (v : Int32) (h1 : 4 ≤ k := by decide) : RC (shpF σ i (upd (σ.2.2.2.1 i) k v)) (A.1, A.2.1, A.2.2.1, A.2.2.2.1, updF A.2.2.2.2 i (upd (A.2.2.2.2 i) k v)) := by
  refine ⟨h.1, h.told, h.2.2.1, h.2.2.2.1, h.2.2.2.2.1, fun q hq z hz => ?_, fun q hq z hz => ?_⟩
  · show updF σ.2.2.2.1 i _ q z = updF A.2.2.2.2 i _ q z
    by_cases e : q = i
    · subst e
      rw [updF_same, updF_same]
      by_cases e2 : z = k
      · subst e2; rw [upd_same, upd_same]
      · rw [upd_ne _ _ e2, upd_ne _ _ e2]; exact h.shp hq z hz
    · rw [updF_ne _ _ e, updF_ne _ _ e]; exact h.shp hq z hz
  · show σ.2.2.2.2 q z = edgQ (updF A.2.2.2.2 i _ q) z
    by_cases e : q = i
    · subst e
      rw [updF_same, h.edg hq z hz]
      exact edgQ_4 (fun y hy => (upd_ne _ _ (by omega)).symm) z
    · rw [updF_ne _ _ e]; exact h.edg hq z hz
theorem RC_cool {σ : Sh} {A : Ab} (h : RC σ A) (x : Int32) : RC (upd σ.1 4 (A.2.1 4 + x), cpF σ.2.1 (fun q => imx (A.2.2.1 q - x * A.2.2.2.1 1) 0) 12, σ.2.2) (coolA A x) := by
  have h1 := RC_int h 4 (A.2.1 4 + x)
  exact ⟨h1.1, h1.2.1, h1.2.2.1, fun k hk => cpF_in σ.2.1 (fun q => imx (A.2.2.1 q - x * A.2.2.2.1 1) 0) hk, h1.2.2.2.2⟩
theorem RC_burn {σ : Sh} {A : Ab} (h : RC σ A) (i : Nat) : RC (upd (upd (upd σ.1 4 (A.2.1 4 + burV A i)) 5 (A.2.1 5 + burV A i)) 3 (A.2.1 3 + 1), cpF σ.2.1 (fun q => A.2.2.1 q + edgQ (A.2.2.2.2 i) q) 12, σ.2.2) (burnA A i) := by
  have h1 := RC_int (RC_int (RC_int h 4 (A.2.1 4 + burV A i)) 5 (A.2.1 5 + burV A i)) 3 (A.2.1 3 + 1)
  exact ⟨h1.1, h1.2.1, h1.2.2.1, fun k hk => cpF_in σ.2.1 (fun q => A.2.2.1 q + edgQ (A.2.2.2.2 i) q) hk, h1.2.2.2.2⟩
def wP (A : Ab) (P : Nat → Fs) : Ab := (A.1, A.2.1, A.2.2.1, A.2.2.2.1, P)
theorem losP_ge (P : Nat → Fs) (f : Fs) {k q : Nat} (h : k ≤ q) : losP P f k q = P q := by simp only [losP, show ¬ q < k by omega, false_and, if_false]
theorem losP_self (P : Nat → Fs) (i k : Nat) : losP P (P i) k i = P i := by simp only [losP, insB_irr, Bool.false_eq_true, and_false, if_false]
theorem losP_no (P : Nat → Fs) (f : Fs) {k : Nat} (h : ¬ (P k 5 = 0 ∧ insB (P k) f = true)) : losP P f (k + 1) = losP P f k := by
  funext q
  by_cases e : q = k
  · subst e
    rw [losP_ge P f (Nat.le_refl _)]
    simp only [losP, show q < q + 1 by omega, true_and, if_neg h]
  · simp only [losP, show q < k + 1 ↔ q < k by omega]
theorem losP_yes (P : Nat → Fs) (f : Fs) {k : Nat} (h1 : P k 5 = 0) (h2 : insB (P k) f = true) : losP P f (k + 1) = updF (losP P f k) k (upd (losP P f k k) 5 2) := by
  funext q
  by_cases e : q = k
  · subst e
    rw [losP_ge P f (Nat.le_refl _), updF_same]
    simp only [losP, show q < q + 1 by omega, true_and, h1, h2, if_true]
  · rw [updF_ne _ _ e]
    simp only [losP, show q < k + 1 ↔ q < k by omega]
theorem losP_0 (P : Nat → Fs) (f : Fs) : losP P f 0 = P := by funext q; exact losP_ge P f (Nat.zero_le _)
theorem besO_why {A : Ab} : ∀ {k q : Nat}, besO A k = some q → whyV A q = 0
  | 0, _, h => by simp [besO] at h
  | k + 1, q, h => by
    simp only [besO] at h
    split at h
    · rename_i hk
      split at h
      · cases h; exact hk
      · rename_i q' hq'
        have := besO_why hq'
        split at h <;> (cases h; assumption)
    · exact besO_why h
theorem cutX_nI {A : Ab} (ht : A.1 ≤ 12) {i : Nat} (hi : i < A.1) (h : whyV A i = 0) : cutX A (nI i) = (cutN A i, cutA A i) := by
  simp only [cutX, knB_nI ht hi, if_true, nI_clamp (show i < 2 ^ 31 by omega), h]
theorem RC_spare {σ : Sh} {A : Ab} (h : RC σ A) (f g : Fs) : RC (edgF (shpF σ A.1 f) A.1 g) A := by
  refine ⟨h.1, h.told, h.2.2.1, h.2.2.2.1, h.2.2.2.2.1, fun q hq z hz => ?_, fun q hq z hz => ?_⟩
  · show updF σ.2.2.2.1 A.1 f q z = _
    rw [updF_ne _ _ (show q ≠ A.1 by omega)]; exact h.shp hq z hz
  · show updF σ.2.2.2.2 A.1 g q z = _
    rw [updF_ne _ _ (show q ≠ A.1 by omega)]; exact h.edg hq z hz
theorem plF_8 (f g : Fs) (c r w h : Int32) : ∀ k, k < 8 → plF f c r w h k = plF g c r w h k := by
  intro k hk
  match k, hk with
  | 0, _ => rfl
  | 1, _ => rfl
  | 2, _ => rfl
  | 3, _ => rfl
  | 4, _ => rfl
  | 5, _ => rfl
  | 6, _ => rfl
  | 7, _ => rfl
theorem RC_add {σ : Sh} {A : Ab} (h : RC σ A) (ht : A.1 < 12) (g g2 f2 : Fs) (c r w hh : Int32) : RC (upd σ.1 0 (nI (A.1 + 1)), (edgF (shpF σ A.1 (plF g c r w hh)) A.1 (eqE g2 (plF g c r w hh) 12)).2) (A.1 + 1, A.2.1, A.2.2.1, A.2.2.2.1, updF A.2.2.2.2 A.1 (plF f2 c r w hh)) := by
  refine ⟨ht, upd_same σ.1 0 _, fun q q1 q2 => (upd_ne σ.1 _ (show q ≠ 0 by omega)).trans (h.int q q1 q2), h.2.2.2.1, h.2.2.2.2.1, fun q hq z hz => ?_, fun q hq z hz => ?_⟩
  · show updF σ.2.2.2.1 A.1 _ q z = updF A.2.2.2.2 A.1 _ q z
    by_cases e : q = A.1
    · subst e; rw [updF_same, updF_same]; exact plF_8 _ _ _ _ _ _ z hz
    · rw [updF_ne _ _ e, updF_ne _ _ e]; exact h.shp (by omega) z hz
  · show updF σ.2.2.2.2 A.1 _ q z = edgQ (updF A.2.2.2.2 A.1 _ q) z
    by_cases e : q = A.1
    · subst e
      rw [updF_same, updF_same]
      show (if z < 12 then edgQ _ z else _) = _
      rw [if_pos hz]
      exact edgQ_4 (fun y hy => plF_8 _ _ _ _ _ _ y (by omega)) z
    · rw [updF_ne _ _ e, updF_ne _ _ e]; exact h.edg (by omega) z hz
section SHEET4
variable {G : GX} {S : Nat → Sh} {B : Bc} {M : Md} {j i : Nat} {σ : Sh}
variable {A : Ab}
set_option maxHeartbeats 4000000 in
set_option maxRecDepth 100000 in
theorem c_X2_coolFor (hj : j < 8) (hR : RC σ A) (x : Int32) : Ct G yX2_coolFor YX2_coolFor 0 0 [.ref (gB G + sB j), .int x] 255 (cellOf G (updS S j σ) B M) (RS G (none) S j B M (coolA A x)) := by
  refine ct_of (by decide +kernel) rfl rfl (Nat.le_of_ble_eq_true rfl) (by simp [Value.category]) ?_
  refine x_sub (l' := [(0, .ref (gB G + sB j)), (1, .int x)]) ⟨rfl, rfl, trivial⟩ ?_
  have h12 := hR.le
  have lp : ∀ k, k ≤ 12 → XJ G YX2_coolFor (fun _ => True) (Zx G (RS G (none) S j B M (coolA A x)) 0 0) 12 [(0, .ref (gB G + sB j)), (1, .int x), (2, .int (nI k))] [] 255 (cellOf G (updS S j (upd σ.1 4 (A.2.1 4 + x), cpF σ.2.1 (fun q => imx (A.2.2.1 q - x * A.2.2.2.1 1) 0) k, σ.2.2)) B M) 0 0 := by
    refine loopD (12) ?_
    intro k hk ih
    refine x_iload_n (pc := 12) dX2_coolFor_12 rfl ?_
    refine x_bipush (pc := 13) (12) dX2_coolFor_13 (by decide) ?_
    refine x_cmpge (pc := 15) 49 dX2_coolFor_15 (by decide) (fun c15 => ?_) (fun c15 => ?_)
    · obtain rfl : k = 12 := by have := mt (lt_lit (n := 12) rfl (by decide) (by omega)).mpr c15; omega
      exact x_vret rfl dX2_coolFor_49 ⟨_, rfl, rfl, rfl, RC_cool hR x⟩
    · have hkn : k < 12 := (lt_lit rfl (by decide) (by omega)).mp c15
      refine x_aload_n (pc := 18) dX2_coolFor_18 rfl ?_
      refine x_get (pc := 19) (ci := 2) (k := 1) (C := RX2) (T := TX2) (N := 10) (cell_sheet (by first | assumption | omega)) rfl (sB_255 (by first | assumption | omega)) rfl nX2 (by decide) mF_X2_18 rfl dX2_coolFor_19 ?_
      refine x_iload_n (pc := 22) dX2_coolFor_22 rfl ?_
      refine x_aload_n (pc := 23) dX2_coolFor_23 rfl ?_
      refine x_get (pc := 24) (ci := 2) (k := 1) (C := RX2) (T := TX2) (N := 10) (cell_sheet (by first | assumption | omega)) rfl (sB_255 (by first | assumption | omega)) rfl nX2 (by decide) mF_X2_18 rfl dX2_coolFor_24 ?_
      refine x_iload_n (pc := 27) dX2_coolFor_27 rfl ?_
      refine t_ild (pc := 28) _ (cell_heats (by first | assumption | omega)) (htO_255 (by first | assumption | omega)) rfl (by first | assumption | omega) (by decide) dX2_coolFor_28 ?_
      try dsimp only
      rw [cpF_at, hR.heat _ hkn]
      refine x_iload_n (pc := 29) dX2_coolFor_29 rfl ?_
      refine x_aload_n (pc := 30) dX2_coolFor_30 rfl ?_
      refine x_get (pc := 31) (ci := 2) (k := 2) (C := RX2) (T := TX2) (N := 10) (cell_sheet (by first | assumption | omega)) rfl (sB_255 (by first | assumption | omega)) rfl nX2 (by decide) mF_X2_22 rfl dX2_coolFor_31 ?_
      refine x_iconst (pc := 34) (1) dX2_coolFor_34 (by decide) ?_
      refine t_ild (pc := 35) 1 (cell_sets (by first | assumption | omega)) (stO_255 (by first | assumption | omega)) rfl (by decide) (by decide) dX2_coolFor_35 ?_
      try dsimp only
      rw [hR.sett 1]
      refine x_imul (pc := 36) dX2_coolFor_36 ?_
      refine x_isub (pc := 37) dX2_coolFor_37 ?_
      refine x_iconst (pc := 38) (0) dX2_coolFor_38 (by decide) ?_
      refine x_max (pc := 39) mL_X2_131 (by decide) (Nat.le_of_ble_eq_true rfl) (Nat.le_of_ble_eq_true rfl) (Nat.le_of_ble_eq_true rfl) dX2_coolFor_39 ?_
      refine t_stHeats (pc := 42) (by first | assumption | omega) _ (by first | assumption | omega) rfl dX2_coolFor_42 ?_
      try dsimp only
      refine x_iinc (pc := 43) (nI (k + 1)) dX2_coolFor_43 rfl (iinc_nI k) (by decide) ?_
      refine x_goto (pc := 46) 12 dX2_coolFor_46 (by decide) ?_
      have e := ih hkn
      rw [← cpF_s _ _ k] at e
      exact x_back e ⟨rfl, rfl, rfl, trivial⟩
  refine x_aload_n (pc := 0) dX2_coolFor_0 rfl ?_
  refine x_dup (pc := 1) dX2_coolFor_1 rfl ?_
  refine x_get (pc := 2) (ci := 2) (k := 7) (C := RX2) (T := TX2) (N := 10) (cell_sheet (by first | assumption | omega)) rfl (sB_255 (by first | assumption | omega)) rfl nX2 (by decide) mF_X2_38 rfl dX2_coolFor_2 ?_
  rw [hR.int 4]
  refine x_iload_n (pc := 5) dX2_coolFor_5 rfl ?_
  refine x_iadd (pc := 6) dX2_coolFor_6 ?_
  refine t_putSh (pc := 7) (by first | assumption | omega) 4 (by decide) mF_X2_38 dX2_coolFor_7 ?_
  try dsimp only
  refine x_iconst (pc := 10) (0) dX2_coolFor_10 (by decide) ?_
  refine x_istore_n (pc := 11) dX2_coolFor_11 (by decide) ?_
  have e := lp 0 (by omega)
  rw [cpF_0] at e
  exact x_back e ⟨rfl, rfl, rfl, trivial⟩
set_option maxHeartbeats 4000000 in
set_option maxRecDepth 100000 in
theorem c_X2_burnEdge (hj : j < 8) (hR : RC σ A) (hi : i < A.1) : Ct G yX2_burnEdge YX2_burnEdge 0 0 [.ref (gB G + sB j), .ref (gB G + shO j i)] 255 (cellOf G (updS S j σ) B M) (RS G (none) S j B M (burnA A i)) := by
  refine ct_of (by decide +kernel) rfl rfl (Nat.le_of_ble_eq_true rfl) (by simp [Value.category]) ?_
  refine x_sub (l' := [(0, .ref (gB G + sB j)), (1, .ref (gB G + shO j i))]) ⟨rfl, rfl, trivial⟩ ?_
  have h12 := hR.le
  have lp : ∀ k, k ≤ 12 → XJ G YX2_burnEdge (fun _ => True) (Zx G (RS G (none) S j B M (burnA A i)) 0 0) 28 [(0, .ref (gB G + sB j)), (1, .ref (gB G + shO j i)), (3, .int (nI k))] [] 255 (cellOf G (updS S j (upd (upd σ.1 4 (A.2.1 4 + burV A i)) 5 (A.2.1 5 + burV A i), cpF σ.2.1 (fun q => A.2.2.1 q + edgQ (A.2.2.2.2 i) q) k, σ.2.2)) B M) 0 0 := by
    refine loopD (12) ?_
    intro k hk ih
    refine x_iload_n (pc := 28) dX2_burnEdge_28 rfl ?_
    refine x_bipush (pc := 29) (12) dX2_burnEdge_29 (by decide) ?_
    refine x_cmpge (pc := 31) 55 dX2_burnEdge_31 (by decide) (fun c31 => ?_) (fun c31 => ?_)
    · obtain rfl : k = 12 := by have := mt (lt_lit (n := 12) rfl (by decide) (by omega)).mpr c31; omega
      refine x_aload_n (pc := 55) dX2_burnEdge_55 rfl ?_
      refine x_dup (pc := 56) dX2_burnEdge_56 rfl ?_
      refine x_get (pc := 57) (ci := 2) (k := 6) (C := RX2) (T := TX2) (N := 10) (cell_sheet (by first | assumption | omega)) rfl (sB_255 (by first | assumption | omega)) rfl nX2 (by decide) mF_X2_35 rfl dX2_burnEdge_57 ?_
      try dsimp only
      rw [upd_ne _ _ (show 3 ≠ 5 by decide), upd_ne _ _ (show 3 ≠ 4 by decide), hR.int 3]
      refine x_iconst (pc := 60) (1) dX2_burnEdge_60 (by decide) ?_
      refine x_iadd (pc := 61) dX2_burnEdge_61 ?_
      refine t_putSh (pc := 62) (by first | assumption | omega) 3 (by decide) mF_X2_35 dX2_burnEdge_62 ?_
      try dsimp only
      exact x_vret rfl dX2_burnEdge_65 ⟨_, rfl, rfl, rfl, RC_burn hR i⟩
    · have hkn : k < 12 := (lt_lit rfl (by decide) (by omega)).mp c31
      refine x_aload_n (pc := 34) dX2_burnEdge_34 rfl ?_
      refine x_get (pc := 35) (ci := 2) (k := 1) (C := RX2) (T := TX2) (N := 10) (cell_sheet (by first | assumption | omega)) rfl (sB_255 (by first | assumption | omega)) rfl nX2 (by decide) mF_X2_18 rfl dX2_burnEdge_35 ?_
      refine x_iload_n (pc := 38) dX2_burnEdge_38 rfl ?_
      refine x_dup2 (pc := 39) dX2_burnEdge_39 rfl rfl ?_
      refine t_ild (pc := 40) _ (cell_heats (by first | assumption | omega)) (htO_255 (by first | assumption | omega)) rfl (by first | assumption | omega) (by decide) dX2_burnEdge_40 ?_
      try dsimp only
      rw [cpF_at, hR.heat _ hkn]
      refine x_aload_n (pc := 41) dX2_burnEdge_41 rfl ?_
      refine x_get (pc := 42) (ci := 1) (k := 8) (C := RX1) (T := TX1) (N := 9) (cell_shape (by first | assumption | omega) (by first | assumption | omega)) rfl (shO_255 (by first | assumption | omega) (by first | assumption | omega)) rfl nX1 (by decide) mF_X2_128 rfl dX2_burnEdge_42 ?_
      refine x_iload_n (pc := 45) dX2_burnEdge_45 rfl ?_
      refine t_ild (pc := 46) _ (cell_edge (by first | assumption | omega) (by first | assumption | omega)) (egO_255 (by first | assumption | omega) (by first | assumption | omega)) rfl (by first | assumption | omega) (by decide) dX2_burnEdge_46 ?_
      try dsimp only
      rw [hR.edg hi _ hkn]
      refine x_iadd (pc := 47) dX2_burnEdge_47 ?_
      refine t_stHeats (pc := 48) (by first | assumption | omega) _ (by first | assumption | omega) rfl dX2_burnEdge_48 ?_
      try dsimp only
      refine x_iinc (pc := 49) (nI (k + 1)) dX2_burnEdge_49 rfl (iinc_nI k) (by decide) ?_
      refine x_goto (pc := 52) 28 dX2_burnEdge_52 (by decide) ?_
      have e := ih hkn
      rw [← cpF_s _ _ k] at e
      exact x_back e ⟨rfl, rfl, rfl, trivial⟩
  refine x_aload_n (pc := 0) dX2_burnEdge_0 rfl ?_
  refine x_aload_n (pc := 1) dX2_burnEdge_1 rfl ?_
  refine t_Vi (pc := 2) (c_X2_burningOf (by first | assumption | omega) hR (by first | assumption | omega)) qV_X2_burningOf mL_X2_125 dX2_burnEdge_2 rfl (cell_sheet (by first | assumption | omega)) (sB_255 (by first | assumption | omega)) rfl rfl rfl ⟨by decide, by decide⟩ (Nat.le_of_ble_eq_true rfl) (Nat.le_of_ble_eq_true rfl) (Nat.le_of_ble_eq_true rfl) ?_
  refine x_istore_n (pc := 5) dX2_burnEdge_5 (by decide) ?_
  refine x_aload_n (pc := 6) dX2_burnEdge_6 rfl ?_
  refine x_dup (pc := 7) dX2_burnEdge_7 rfl ?_
  refine x_get (pc := 8) (ci := 2) (k := 7) (C := RX2) (T := TX2) (N := 10) (cell_sheet (by first | assumption | omega)) rfl (sB_255 (by first | assumption | omega)) rfl nX2 (by decide) mF_X2_38 rfl dX2_burnEdge_8 ?_
  rw [hR.int 4]
  refine x_iload_n (pc := 11) dX2_burnEdge_11 rfl ?_
  refine x_iadd (pc := 12) dX2_burnEdge_12 ?_
  refine t_putSh (pc := 13) (by first | assumption | omega) 4 (by decide) mF_X2_38 dX2_burnEdge_13 ?_
  try dsimp only
  refine x_aload_n (pc := 16) dX2_burnEdge_16 rfl ?_
  refine x_dup (pc := 17) dX2_burnEdge_17 rfl ?_
  refine x_get (pc := 18) (ci := 2) (k := 8) (C := RX2) (T := TX2) (N := 10) (cell_sheet (by first | assumption | omega)) rfl (sB_255 (by first | assumption | omega)) rfl nX2 (by decide) mF_X2_41 rfl dX2_burnEdge_18 ?_
  try dsimp only
  rw [upd_ne _ _ (show 5 ≠ 4 by decide), hR.int 5]
  refine x_iload_n (pc := 21) dX2_burnEdge_21 rfl ?_
  refine x_iadd (pc := 22) dX2_burnEdge_22 ?_
  refine t_putSh (pc := 23) (by first | assumption | omega) 5 (by decide) mF_X2_41 dX2_burnEdge_23 ?_
  try dsimp only
  refine x_iconst (pc := 26) (0) dX2_burnEdge_26 (by decide) ?_
  refine x_istore_n (pc := 27) dX2_burnEdge_27 (by decide) ?_
  have e := lp 0 (by omega)
  rw [cpF_0] at e
  exact x_back e ⟨rfl, rfl, rfl, trivial⟩
set_option maxHeartbeats 4000000 in
set_option maxRecDepth 100000 in
theorem c_X2_loseShapesInside (hj : j < 8) (hR : RC σ A) (hi : i < A.1) : Ct G yX2_loseShapesInside YX2_loseShapesInside 0 0 [.ref (gB G + sB j), .ref (gB G + shO j i)] 255 (cellOf G (updS S j σ) B M) (RS G (some (.int (losN A.2.2.2.2 (A.2.2.2.2 i) A.1))) S j B M (losA A i)) := by
  refine ct_of (by decide +kernel) rfl rfl (Nat.le_of_ble_eq_true rfl) (by simp [Value.category]) ?_
  refine x_sub (l' := [(0, .ref (gB G + sB j)), (1, .ref (gB G + shO j i))]) ⟨rfl, rfl, trivial⟩ ?_
  have h12 := hR.le
  have lp : ∀ k, k ≤ A.1 → ∀ τ : Sh, RC τ (wP A (losP A.2.2.2.2 (A.2.2.2.2 i) k)) → XJ G YX2_loseShapesInside (fun _ => True) (Zx G (RS G (some (.int (losN A.2.2.2.2 (A.2.2.2.2 i) A.1))) S j B M (losA A i)) 0 0) 4 [(0, .ref (gB G + sB j)), (1, .ref (gB G + shO j i)), (2, .int (losN A.2.2.2.2 (A.2.2.2.2 i) k)), (3, .int (nI k))] [] 255 (cellOf G (updS S j τ) B M) 0 0 := by
    refine loopD (A.1) ?_
    intro k hk ih τ hT
    refine x_iload_n (pc := 4) dX2_loseShapesInside_4 rfl ?_
    refine x_aload_n (pc := 5) dX2_loseShapesInside_5 rfl ?_
    refine x_get (pc := 6) (ci := 2) (k := 3) (C := RX2) (T := TX2) (N := 10) (cell_sheet (by first | assumption | omega)) rfl (sB_255 (by first | assumption | omega)) rfl nX2 (by decide) mF_X2_25 rfl dX2_loseShapesInside_6 ?_
    rw [hT.told]
    show XJ _ _ _ _ _ _ (.int (nI A.1) :: _) _ _ _ _
    refine x_cmpge (pc := 9) 52 dX2_loseShapesInside_9 (by decide) (fun c9 => ?_) (fun c9 => ?_)
    · obtain rfl : k = A.1 := by have := mt (tl_iff hR.le hk).mpr c9; omega
      refine x_iload_n (pc := 52) dX2_loseShapesInside_52 rfl ?_
      exact x_iret rfl dX2_loseShapesInside_53 ⟨τ, rfl, rfl, rfl, hT⟩
    · have hkn : k < A.1 := (tl_iff hR.le hk).mp c9
      refine x_aload_n (pc := 12) dX2_loseShapesInside_12 rfl ?_
      refine x_get (pc := 13) (ci := 2) (k := 0) (C := RX2) (T := TX2) (N := 10) (cell_sheet (by first | assumption | omega)) rfl (sB_255 (by first | assumption | omega)) rfl nX2 (by decide) mF_X2_13 rfl dX2_loseShapesInside_13 ?_
      refine x_iload_n (pc := 16) dX2_loseShapesInside_16 rfl ?_
      refine t_shapes (pc := 17) _ (by first | assumption | omega) rfl (by first | assumption | omega) dX2_loseShapesInside_17 ?_
      refine x_astore (pc := 18) dX2_loseShapesInside_18 (by decide) ?_
      refine x_aload (pc := 20) dX2_loseShapesInside_20 rfl ?_
      refine x_get (pc := 22) (ci := 1) (k := 5) (C := RX1) (T := TX1) (N := 9) (cell_shape (by first | assumption | omega) (by first | assumption | omega)) rfl (shO_255 (by first | assumption | omega) (by first | assumption | omega)) rfl nX1 (by decide) mF_X2_66 rfl dX2_loseShapesInside_22 ?_
      rw [hT.shp hkn 5]
      simp only [wP, losP_ge _ _ (Nat.le_refl k)]
      refine x_ifne (pc := 25) 46 dX2_loseShapesInside_25 (by decide) (fun c25 => ?_) (fun c25 => ?_)
      · refine x_iinc (pc := 46) (nI (k + 1)) dX2_loseShapesInside_46 rfl (iinc_nI k) (by decide) ?_
        refine x_goto (pc := 49) 4 dX2_loseShapesInside_49 (by decide) ?_
        first
        | (have hn : ¬ (A.2.2.2.2 k 5 = 0 ∧ insB (A.2.2.2.2 k) (A.2.2.2.2 i) = true) := fun z => c25 z.1
           have e := ih hkn τ (by rw [losP_no _ _ hn]; exact hT)
           simp only [losN, if_neg hn] at e
           exact x_back e ⟨rfl, rfl, rfl, rfl, trivial⟩)
        | (have hb := b01_eq c34
           have hn : ¬ (A.2.2.2.2 k 5 = 0 ∧ insB (A.2.2.2.2 k) (A.2.2.2.2 i) = true) := fun z => by rw [hb] at z; cases z.2
           have e := ih hkn τ (by rw [losP_no _ _ hn]; exact hT)
           simp only [losN, if_neg hn] at e
           exact x_back e ⟨rfl, rfl, rfl, rfl, trivial⟩)
        | (have hb := b01_ne c34
           have e := ih hkn _ (by rw [losP_yes _ _ c25 hb]; exact RC_shp hT hkn 5 2)
           simp only [losN, if_pos (And.intro c25 hb)] at e
           exact x_back e ⟨rfl, rfl, rfl, rfl, trivial⟩)
      · refine x_aload (pc := 28) dX2_loseShapesInside_28 rfl ?_
        refine x_aload_n (pc := 30) dX2_loseShapesInside_30 rfl ?_
        refine t_Vi (pc := 31) (c_X1_isInside (i := k) (i2 := i) (σ := τ) (by first | assumption | omega) (by first | assumption | omega) (by first | assumption | omega)) qV_X1_isInside mL_X2_63 dX2_loseShapesInside_31 rfl (cell_shape (by first | assumption | omega) (by first | assumption | omega)) (shO_255 (by first | assumption | omega) (by first | assumption | omega)) rfl rfl rfl ⟨by decide, by decide⟩ (Nat.le_of_ble_eq_true rfl) (Nat.le_of_ble_eq_true rfl) (Nat.le_of_ble_eq_true rfl) ?_
        rw [hT.ins hkn hi]
        simp only [wP, losP_ge _ _ (Nat.le_refl k), losP_self]
        refine x_ifeq (pc := 34) 46 dX2_loseShapesInside_34 (by decide) (fun c34 => ?_) (fun c34 => ?_)
        · refine x_iinc (pc := 46) (nI (k + 1)) dX2_loseShapesInside_46 rfl (iinc_nI k) (by decide) ?_
          refine x_goto (pc := 49) 4 dX2_loseShapesInside_49 (by decide) ?_
          first
          | (have hn : ¬ (A.2.2.2.2 k 5 = 0 ∧ insB (A.2.2.2.2 k) (A.2.2.2.2 i) = true) := fun z => c25 z.1
             have e := ih hkn τ (by rw [losP_no _ _ hn]; exact hT)
             simp only [losN, if_neg hn] at e
             exact x_back e ⟨rfl, rfl, rfl, rfl, trivial⟩)
          | (have hb := b01_eq c34
             have hn : ¬ (A.2.2.2.2 k 5 = 0 ∧ insB (A.2.2.2.2 k) (A.2.2.2.2 i) = true) := fun z => by rw [hb] at z; cases z.2
             have e := ih hkn τ (by rw [losP_no _ _ hn]; exact hT)
             simp only [losN, if_neg hn] at e
             exact x_back e ⟨rfl, rfl, rfl, rfl, trivial⟩)
          | (have hb := b01_ne c34
             have e := ih hkn _ (by rw [losP_yes _ _ c25 hb]; exact RC_shp hT hkn 5 2)
             simp only [losN, if_pos (And.intro c25 hb)] at e
             exact x_back e ⟨rfl, rfl, rfl, rfl, trivial⟩)
        · refine x_aload (pc := 37) dX2_loseShapesInside_37 rfl ?_
          refine x_iconst (pc := 39) (2) dX2_loseShapesInside_39 (by decide) ?_
          refine t_putShape (pc := 40) (by first | assumption | omega) (by first | assumption | omega) 5 (by decide) mF_X2_66 dX2_loseShapesInside_40 ?_
          try dsimp only
          refine x_iinc (pc := 43) (_ + (1)) dX2_loseShapesInside_43 rfl rfl (by decide) ?_
          refine x_iinc (pc := 46) (nI (k + 1)) dX2_loseShapesInside_46 rfl (iinc_nI k) (by decide) ?_
          refine x_goto (pc := 49) 4 dX2_loseShapesInside_49 (by decide) ?_
          first
          | (have hn : ¬ (A.2.2.2.2 k 5 = 0 ∧ insB (A.2.2.2.2 k) (A.2.2.2.2 i) = true) := fun z => c25 z.1
             have e := ih hkn τ (by rw [losP_no _ _ hn]; exact hT)
             simp only [losN, if_neg hn] at e
             exact x_back e ⟨rfl, rfl, rfl, rfl, trivial⟩)
          | (have hb := b01_eq c34
             have hn : ¬ (A.2.2.2.2 k 5 = 0 ∧ insB (A.2.2.2.2 k) (A.2.2.2.2 i) = true) := fun z => by rw [hb] at z; cases z.2
             have e := ih hkn τ (by rw [losP_no _ _ hn]; exact hT)
             simp only [losN, if_neg hn] at e
             exact x_back e ⟨rfl, rfl, rfl, rfl, trivial⟩)
          | (have hb := b01_ne c34
             have e := ih hkn _ (by rw [losP_yes _ _ c25 hb]; exact RC_shp hT hkn 5 2)
             simp only [losN, if_pos (And.intro c25 hb)] at e
             exact x_back e ⟨rfl, rfl, rfl, rfl, trivial⟩)
  refine x_iconst (pc := 0) (0) dX2_loseShapesInside_0 (by decide) ?_
  refine x_istore_n (pc := 1) dX2_loseShapesInside_1 (by decide) ?_
  refine x_iconst (pc := 2) (0) dX2_loseShapesInside_2 (by decide) ?_
  refine x_istore_n (pc := 3) dX2_loseShapesInside_3 (by decide) ?_
  exact x_back (lp 0 (by omega) σ (by rw [losP_0]; exact hR)) ⟨rfl, rfl, rfl, rfl, trivial⟩
set_option maxHeartbeats 4000000 in
set_option maxRecDepth 100000 in
theorem c_X2_waitFor (hj : j < 8) (hR : RC σ A) (v : Int32) : Ct G yX2_waitFor YX2_waitFor 0 0 [.ref (gB G + sB j), .int v] 255 (cellOf G (updS S j σ) B M) (RS G (some (.int (waitX A v).1)) S j B M ((waitX A v).2)) := by
  refine ct_of (by decide +kernel) rfl rfl (Nat.le_of_ble_eq_true rfl) (by simp [Value.category]) ?_
  refine x_sub (l' := [(0, .ref (gB G + sB j)), (1, .int v)]) ⟨rfl, rfl, trivial⟩ ?_
  have h12 := hR.le
  refine x_iload_n (pc := 0) dX2_waitFor_0 rfl ?_
  refine x_iconst (pc := 1) (1) dX2_waitFor_1 (by decide) ?_
  refine x_sipush (pc := 2) (999) dX2_waitFor_2 (by decide) ?_
  refine t_Ni (pc := 5) (c_X3_isIn _ _ _) qS_X3_isIn (fun s h => h.2.2.2.1) dX2_waitFor_5 rfl rfl rfl ⟨by decide, by decide⟩ (Nat.le_of_ble_eq_true rfl) (Nat.le_of_ble_eq_true rfl) (Nat.le_of_ble_eq_true rfl) ?_
  refine x_ifne (pc := 8) 14 dX2_waitFor_8 (by decide) (fun c8 => ?_) (fun c8 => ?_)
  · refine x_aload_n (pc := 14) dX2_waitFor_14 rfl ?_
    refine x_iload_n (pc := 15) dX2_waitFor_15 rfl ?_
    refine e_Vv (pc := 16) (c_X2_coolFor (by first | assumption | omega) hR _) qV_X2_coolFor mL_X2_93 dX2_waitFor_16 rfl (cell_sheet (by first | assumption | omega)) (sB_255 (by first | assumption | omega)) rfl rfl rfl ⟨by decide, by decide⟩ (Nat.le_of_ble_eq_true rfl) (Nat.le_of_ble_eq_true rfl) (Nat.le_of_ble_eq_true rfl) ?_
    intro σ1 R1
    refine x_aload_n (pc := 19) dX2_waitFor_19 rfl ?_
    refine t_Vi (pc := 20) (c_X2_greatestHeat (by first | assumption | omega) R1) qV_X2_greatestHeat mL_X2_116 dX2_waitFor_20 rfl (cell_sheet (by first | assumption | omega)) (sB_255 (by first | assumption | omega)) rfl rfl rfl ⟨by decide, by decide⟩ (Nat.le_of_ble_eq_true rfl) (Nat.le_of_ble_eq_true rfl) (Nat.le_of_ble_eq_true rfl) ?_
    have t := b01_ne c8
    exact x_iret rfl dX2_waitFor_23 ⟨σ1, by simp only [waitX, t, if_true], rfl, rfl, by simp only [waitX, t, if_true]; exact R1⟩
  · refine x_bipush (pc := 11) (-2) dX2_waitFor_11 (by decide) ?_
    have t := b01_eq c8
    exact x_iret rfl dX2_waitFor_13 ⟨σ, by simp only [waitX, t, Bool.false_eq_true, if_false], rfl, rfl, by simp only [waitX, t, Bool.false_eq_true, if_false]; exact hR⟩
set_option maxHeartbeats 4000000 in
set_option maxRecDepth 100000 in
theorem c_X2_cleanLens (hj : j < 8) (hR : RC σ A) : Ct G yX2_cleanLens YX2_cleanLens 0 0 [.ref (gB G + sB j)] 255 (cellOf G (updS S j σ) B M) (RS G (some (.int (cleanX A).1)) S j B M ((cleanX A).2)) := by
  refine ct_of (by decide +kernel) rfl rfl (Nat.le_of_ble_eq_true rfl) (by simp [Value.category]) ?_
  refine x_sub (l' := [(0, .ref (gB G + sB j))]) ⟨rfl, trivial⟩ ?_
  have h12 := hR.le
  refine x_aload_n (pc := 0) dX2_cleanLens_0 rfl ?_
  refine x_get (pc := 1) (ci := 2) (k := 6) (C := RX2) (T := TX2) (N := 10) (cell_sheet (by first | assumption | omega)) rfl (sB_255 (by first | assumption | omega)) rfl nX2 (by decide) mF_X2_35 rfl dX2_cleanLens_1 ?_
  rw [hR.int 3]
  refine x_ifne (pc := 4) 10 dX2_cleanLens_4 (by decide) (fun c4 => ?_) (fun c4 => ?_)
  · refine x_aload_n (pc := 10) dX2_cleanLens_10 rfl ?_
    refine x_get (pc := 11) (ci := 2) (k := 6) (C := RX2) (T := TX2) (N := 10) (cell_sheet (by first | assumption | omega)) rfl (sB_255 (by first | assumption | omega)) rfl nX2 (by decide) mF_X2_35 rfl dX2_cleanLens_11 ?_
    rw [hR.int 3]
    refine x_istore_n (pc := 14) dX2_cleanLens_14 (by decide) ?_
    refine x_aload_n (pc := 15) dX2_cleanLens_15 rfl ?_
    refine x_aload_n (pc := 16) dX2_cleanLens_16 rfl ?_
    refine x_get (pc := 17) (ci := 2) (k := 2) (C := RX2) (T := TX2) (N := 10) (cell_sheet (by first | assumption | omega)) rfl (sB_255 (by first | assumption | omega)) rfl nX2 (by decide) mF_X2_22 rfl dX2_cleanLens_17 ?_
    refine x_iconst (pc := 20) (0) dX2_cleanLens_20 (by decide) ?_
    refine t_ild (pc := 21) 0 (cell_sets (by first | assumption | omega)) (stO_255 (by first | assumption | omega)) rfl (by decide) (by decide) dX2_cleanLens_21 ?_
    rw [hR.sett _ (by decide)]
    refine e_Vv (pc := 22) (c_X2_coolFor (by first | assumption | omega) hR _) qV_X2_coolFor mL_X2_93 dX2_cleanLens_22 rfl (cell_sheet (by first | assumption | omega)) (sB_255 (by first | assumption | omega)) rfl rfl rfl ⟨by decide, by decide⟩ (Nat.le_of_ble_eq_true rfl) (Nat.le_of_ble_eq_true rfl) (Nat.le_of_ble_eq_true rfl) ?_
    intro σ1 R1
    refine x_aload_n (pc := 25) dX2_cleanLens_25 rfl ?_
    refine x_iconst (pc := 26) (0) dX2_cleanLens_26 (by decide) ?_
    refine t_putSh (pc := 27) (by first | assumption | omega) 3 (by decide) mF_X2_35 dX2_cleanLens_27 ?_
    try dsimp only
    refine x_iload_n (pc := 30) dX2_cleanLens_30 rfl ?_
    exact x_iret rfl dX2_cleanLens_31 ⟨_, by simp only [cleanX, if_neg c4], rfl, rfl, by simp only [cleanX, if_neg c4]; exact RC_int R1 3 0⟩
  · refine x_bipush (pc := 7) (-5) dX2_cleanLens_7 (by decide) ?_
    exact x_iret rfl dX2_cleanLens_9 ⟨σ, by simp only [cleanX, if_pos c4], rfl, rfl, by simp only [cleanX, if_pos c4]; exact hR⟩
set_option maxHeartbeats 4000000 in
set_option maxRecDepth 100000 in
theorem c_X2_changeLead (hj : j < 8) (hR : RC σ A) (v c : Int32) : Ct G yX2_changeLead YX2_changeLead 0 0 [.ref (gB G + sB j), .int v, .int c] 255 (cellOf G (updS S j σ) B M) (RS G (some (.int (leadX A v c).1)) S j B M ((leadX A v c).2)) := by
  refine ct_of (by decide +kernel) rfl rfl (Nat.le_of_ble_eq_true rfl) (by simp [Value.category]) ?_
  refine x_sub (l' := [(0, .ref (gB G + sB j)), (1, .int v), (2, .int c)]) ⟨rfl, rfl, rfl, trivial⟩ ?_
  have h12 := hR.le
  refine x_aload_n (pc := 0) dX2_changeLead_0 rfl ?_
  refine x_iload_n (pc := 1) dX2_changeLead_1 rfl ?_
  refine t_Vi (pc := 2) (c_X2_knows (by first | assumption | omega) hR _) qV_X2_knows mL_X2_72 dX2_changeLead_2 rfl (cell_sheet (by first | assumption | omega)) (sB_255 (by first | assumption | omega)) rfl rfl rfl ⟨by decide, by decide⟩ (Nat.le_of_ble_eq_true rfl) (Nat.le_of_ble_eq_true rfl) (Nat.le_of_ble_eq_true rfl) ?_
  refine x_ifeq (pc := 5) 17 dX2_changeLead_5 (by decide) (fun c5 => ?_) (fun c5 => ?_)
  · refine x_iconst (pc := 17) (-1) dX2_changeLead_17 (by decide) ?_
    have tt : (knB A v && betw c 0 3) = false := by
      first
      | (have t := b01_eq c5; rw [t]; rfl)
      | (have t := b01_eq c14; rw [t]; exact Bool.and_false _)
    exact x_iret rfl dX2_changeLead_18 ⟨σ, by simp only [leadX, tt, Bool.false_eq_true, if_false], rfl, rfl, by simp only [leadX, tt, Bool.false_eq_true, if_false]; exact hR⟩
  · refine x_iload_n (pc := 8) dX2_changeLead_8 rfl ?_
    refine x_iconst (pc := 9) (0) dX2_changeLead_9 (by decide) ?_
    refine x_iconst (pc := 10) (3) dX2_changeLead_10 (by decide) ?_
    refine t_Ni (pc := 11) (c_X3_isIn _ _ _) qS_X3_isIn (fun s h => h.2.2.2.1) dX2_changeLead_11 rfl rfl rfl ⟨by decide, by decide⟩ (Nat.le_of_ble_eq_true rfl) (Nat.le_of_ble_eq_true rfl) (Nat.le_of_ble_eq_true rfl) ?_
    refine x_ifne (pc := 14) 19 dX2_changeLead_14 (by decide) (fun c14 => ?_) (fun c14 => ?_)
    · have t1 := b01_ne c5
      have t2 := b01_ne c14
      obtain ⟨i, hi, rfl, hcl⟩ := knB_some hR.le t1
      refine x_aload_n (pc := 19) dX2_changeLead_19 rfl ?_
      refine x_get (pc := 20) (ci := 2) (k := 0) (C := RX2) (T := TX2) (N := 10) (cell_sheet (by first | assumption | omega)) rfl (sB_255 (by first | assumption | omega)) rfl nX2 (by decide) mF_X2_13 rfl dX2_changeLead_20 ?_
      refine x_iload_n (pc := 23) dX2_changeLead_23 rfl ?_
      refine t_shapes (pc := 24) _ (by first | assumption | omega) rfl (by first | assumption | omega) dX2_changeLead_24 ?_
      refine x_astore_n (pc := 25) dX2_changeLead_25 (by decide) ?_
      refine x_aload_n (pc := 26) dX2_changeLead_26 rfl ?_
      refine x_get (pc := 27) (ci := 1) (k := 5) (C := RX1) (T := TX1) (N := 9) (cell_shape (by first | assumption | omega) (by first | assumption | omega)) rfl (shO_255 (by first | assumption | omega) (by first | assumption | omega)) rfl nX1 (by decide) mF_X2_66 rfl dX2_changeLead_27 ?_
      rw [hR.shp (by first | assumption | omega) 5]
      refine x_ifeq (pc := 30) 36 dX2_changeLead_30 (by decide) (fun c30 => ?_) (fun c30 => ?_)
      · refine x_aload_n (pc := 36) dX2_changeLead_36 rfl ?_
        refine x_get (pc := 37) (ci := 1) (k := 4) (C := RX1) (T := TX1) (N := 9) (cell_shape (by first | assumption | omega) (by first | assumption | omega)) rfl (shO_255 (by first | assumption | omega) (by first | assumption | omega)) rfl nX1 (by decide) mF_X2_76 rfl dX2_changeLead_37 ?_
        rw [hR.shp (by first | assumption | omega) 4]
        refine x_iload_n (pc := 40) dX2_changeLead_40 rfl ?_
        refine x_cmpne (pc := 41) 47 dX2_changeLead_41 (by decide) (fun c41 => ?_) (fun c41 => ?_)
        · refine x_aload_n (pc := 47) dX2_changeLead_47 rfl ?_
          refine x_get (pc := 48) (ci := 1) (k := 4) (C := RX1) (T := TX1) (N := 9) (cell_shape (by first | assumption | omega) (by first | assumption | omega)) rfl (shO_255 (by first | assumption | omega) (by first | assumption | omega)) rfl nX1 (by decide) mF_X2_76 rfl dX2_changeLead_48 ?_
          rw [hR.shp (by first | assumption | omega) 4]
          refine x_istore (pc := 51) dX2_changeLead_51 (by decide) ?_
          refine x_aload_n (pc := 53) dX2_changeLead_53 rfl ?_
          refine x_iload_n (pc := 54) dX2_changeLead_54 rfl ?_
          refine t_putShape (pc := 55) (by first | assumption | omega) (by first | assumption | omega) 4 (by decide) mF_X2_76 dX2_changeLead_55 ?_
          try dsimp only
          refine x_iload (pc := 58) dX2_changeLead_58 rfl ?_
          exact x_iret rfl dX2_changeLead_60 ⟨_, by simp only [leadX, t1, t2, Bool.and_self, if_true, hcl, if_pos c30, if_neg c41], rfl, rfl, by simp only [leadX, t1, t2, Bool.and_self, if_true, hcl, if_pos c30, if_neg c41]; exact RC_shp hR hi 4 c⟩
        · refine x_bipush (pc := 44) (-5) dX2_changeLead_44 (by decide) ?_
          exact x_iret rfl dX2_changeLead_46 ⟨σ, by simp only [leadX, t1, t2, Bool.and_self, if_true, hcl, if_pos c30, if_pos c41], rfl, rfl, by simp only [leadX, t1, t2, Bool.and_self, if_true, hcl, if_pos c30, if_pos c41]; exact hR⟩
      · refine x_bipush (pc := 33) (-4) dX2_changeLead_33 (by decide) ?_
        exact x_iret rfl dX2_changeLead_35 ⟨σ, by simp only [leadX, t1, t2, Bool.and_self, if_true, hcl, if_neg c30], rfl, rfl, by simp only [leadX, t1, t2, Bool.and_self, if_true, hcl, if_neg c30]; exact hR⟩
    · refine x_iconst (pc := 17) (-1) dX2_changeLead_17 (by decide) ?_
      have tt : (knB A v && betw c 0 3) = false := by
        first
        | (have t := b01_eq c5; rw [t]; rfl)
        | (have t := b01_eq c14; rw [t]; exact Bool.and_false _)
      exact x_iret rfl dX2_changeLead_18 ⟨σ, by simp only [leadX, tt, Bool.false_eq_true, if_false], rfl, rfl, by simp only [leadX, tt, Bool.false_eq_true, if_false]; exact hR⟩
theorem RC_set {σ : Sh} {A : Ab} (h : RC σ A) (k : Nat) (v : Int32) : RC (σ.1, σ.2.1, upd σ.2.2.1 k v, σ.2.2.2) (A.1, A.2.1, A.2.2.1, upd A.2.2.2.1 k v, A.2.2.2.2) := by
  refine ⟨h.1, h.2.1, h.2.2.1, h.2.2.2.1, fun q hq => ?_, h.2.2.2.2.2.1, h.2.2.2.2.2.2⟩
  by_cases e : q = k
  · subst e; exact (upd_same _ _ _).trans (upd_same _ _ _).symm
  · exact (upd_ne _ _ e).trans ((h.sett q hq).trans (upd_ne _ _ e).symm)
set_option maxHeartbeats 4000000 in
set_option maxRecDepth 100000 in
theorem c_X2_changeSetting (hj : j < 8) (hR : RC σ A) (w v : Int32) : Ct G yX2_changeSetting YX2_changeSetting 0 0 [.ref (gB G + sB j), .int w, .int v] 255 (cellOf G (updS S j σ) B M) (RS G (some (.int (setX A w v).1)) S j B M ((setX A w v).2)) := by
  refine ct_of (by decide +kernel) rfl rfl (Nat.le_of_ble_eq_true rfl) (by simp [Value.category]) ?_
  refine x_sub (l' := [(0, .ref (gB G + sB j)), (1, .int w), (2, .int v)]) ⟨rfl, rfl, rfl, trivial⟩ ?_
  have h12 := hR.le
  refine x_iload_n (pc := 0) dX2_changeSetting_0 rfl ?_
  refine x_iconst (pc := 1) (0) dX2_changeSetting_1 (by decide) ?_
  refine x_iconst (pc := 2) (3) dX2_changeSetting_2 (by decide) ?_
  refine t_Ni (pc := 3) (c_X3_isIn _ _ _) qS_X3_isIn (fun s h => h.2.2.2.1) dX2_changeSetting_3 rfl rfl rfl ⟨by decide, by decide⟩ (Nat.le_of_ble_eq_true rfl) (Nat.le_of_ble_eq_true rfl) (Nat.le_of_ble_eq_true rfl) ?_
  refine x_ifne (pc := 6) 11 dX2_changeSetting_6 (by decide) (fun c6 => ?_) (fun c6 => ?_)
  · have t1 := b01_ne c6
    obtain ⟨q, hq, rfl, hcl⟩ := betw_some (n := 3) rfl (by decide) t1
    have hq4 : q < 4 := by omega
    refine x_iload_n (pc := 11) dX2_changeSetting_11 rfl ?_
    refine x_gets1 (pc := 12) rfl dX2_changeSetting_12 ?_
    refine x_iload_n (pc := 15) dX2_changeSetting_15 rfl ?_
    refine x_tab1 (pc := 16) (in_of rfl hq4 (by decide)) dX2_changeSetting_16 ?_
    refine x_gets2 (pc := 17) rfl dX2_changeSetting_17 ?_
    refine x_iload_n (pc := 20) dX2_changeSetting_20 rfl ?_
    refine x_tab2 (pc := 21) (in_of rfl hq4 (by decide)) dX2_changeSetting_21 ?_
    refine t_Ni (pc := 22) (c_X3_isIn _ _ _) qS_X3_isIn (fun s h => h.2.2.2.1) dX2_changeSetting_22 rfl rfl rfl ⟨by decide, by decide⟩ (Nat.le_of_ble_eq_true rfl) (Nat.le_of_ble_eq_true rfl) (Nat.le_of_ble_eq_true rfl) ?_
    refine x_ifne (pc := 25) 31 dX2_changeSetting_25 (by decide) (fun c25 => ?_) (fun c25 => ?_)
    · have t2 := b01_ne c25
      rw [hcl] at t2
      refine x_aload_n (pc := 31) dX2_changeSetting_31 rfl ?_
      refine x_get (pc := 32) (ci := 2) (k := 2) (C := RX2) (T := TX2) (N := 10) (cell_sheet (by first | assumption | omega)) rfl (sB_255 (by first | assumption | omega)) rfl nX2 (by decide) mF_X2_22 rfl dX2_changeSetting_32 ?_
      refine x_iload_n (pc := 35) dX2_changeSetting_35 rfl ?_
      refine t_ild (pc := 36) q (cell_sets (by first | assumption | omega)) (stO_255 (by first | assumption | omega)) rfl hq4 (by decide) dX2_changeSetting_36 ?_
      rw [hR.sett _ hq4]
      refine x_iload_n (pc := 37) dX2_changeSetting_37 rfl ?_
      refine x_cmpne (pc := 38) 44 dX2_changeSetting_38 (by decide) (fun c38 => ?_) (fun c38 => ?_)
      · refine x_aload_n (pc := 44) dX2_changeSetting_44 rfl ?_
        refine x_get (pc := 45) (ci := 2) (k := 2) (C := RX2) (T := TX2) (N := 10) (cell_sheet (by first | assumption | omega)) rfl (sB_255 (by first | assumption | omega)) rfl nX2 (by decide) mF_X2_22 rfl dX2_changeSetting_45 ?_
        refine x_iload_n (pc := 48) dX2_changeSetting_48 rfl ?_
        refine t_ild (pc := 49) q (cell_sets (by first | assumption | omega)) (stO_255 (by first | assumption | omega)) rfl hq4 (by decide) dX2_changeSetting_49 ?_
        rw [hR.sett _ hq4]
        refine x_istore_n (pc := 50) dX2_changeSetting_50 (by decide) ?_
        refine x_aload_n (pc := 51) dX2_changeSetting_51 rfl ?_
        refine x_get (pc := 52) (ci := 2) (k := 2) (C := RX2) (T := TX2) (N := 10) (cell_sheet (by first | assumption | omega)) rfl (sB_255 (by first | assumption | omega)) rfl nX2 (by decide) mF_X2_22 rfl dX2_changeSetting_52 ?_
        refine x_iload_n (pc := 55) dX2_changeSetting_55 rfl ?_
        refine x_iload_n (pc := 56) dX2_changeSetting_56 rfl ?_
        refine t_stSets (pc := 57) (by first | assumption | omega) q hq4 rfl dX2_changeSetting_57 ?_
        try dsimp only
        refine x_iload_n (pc := 58) dX2_changeSetting_58 rfl ?_
        exact x_iret rfl dX2_changeSetting_59 ⟨_, by simp only [setX, t1, if_true, hcl, t2, if_neg c38], rfl, rfl, by simp only [setX, t1, if_true, hcl, t2, if_neg c38]; exact RC_set hR q v⟩
      · refine x_bipush (pc := 41) (-5) dX2_changeSetting_41 (by decide) ?_
        exact x_iret rfl dX2_changeSetting_43 ⟨σ, by simp only [setX, t1, if_true, hcl, t2, if_pos c38], rfl, rfl, by simp only [setX, t1, if_true, hcl, t2, if_pos c38]; exact hR⟩
    · have t2 := b01_eq c25
      rw [hcl] at t2
      refine x_bipush (pc := 28) (-2) dX2_changeSetting_28 (by decide) ?_
      exact x_iret rfl dX2_changeSetting_30 ⟨σ, by simp only [setX, t1, if_true, hcl, t2, Bool.false_eq_true, if_false], rfl, rfl, by simp only [setX, t1, if_true, hcl, t2, Bool.false_eq_true, if_false]; exact hR⟩
  · refine x_iconst (pc := 9) (-1) dX2_changeSetting_9 (by decide) ?_
    have t := b01_eq c6
    exact x_iret rfl dX2_changeSetting_10 ⟨σ, by simp only [setX, t, Bool.false_eq_true, if_false], rfl, rfl, by simp only [setX, t, Bool.false_eq_true, if_false]; exact hR⟩
end SHEET4
end
