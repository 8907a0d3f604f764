-- ===== PART A: goes FIRST, ahead of the names: the tables' words, and 'selects' of the private methods out of them =====
/-- a private method of a class that the tables say can be made, by its rows of tables_1 -/
def lw_okq (q : MethodName × Nat) : Prop := (q.1.cls ≠ "java/lang/invoke/MethodHandle" ∧ q.1.cls ≠ "java/lang/invoke/VarHandle") ∧ Cond.instantiable q.1.cls q.2 ∈ tables_1 ∧ Cond.privateMethod q.1 ∈ tables_1 ∧ Cond.instanceMethod q.1 ∈ tables_1
theorem lw_p0 : lw_okq (⟨"DiamondRows$Polygon", "numberLines", "()V"⟩, 9) := ⟨⟨by decide +kernel, by decide +kernel⟩, List.mem_of_getElem? (i := 230) (by decide +kernel), List.mem_of_getElem? (i := 236) (by decide +kernel), List.mem_of_getElem? (i := 237) (by decide +kernel)⟩
theorem lw_p1 : lw_okq (⟨"DiamondRows$Polygon", "numberLine", "(II)V"⟩, 9) := ⟨⟨by decide +kernel, by decide +kernel⟩, List.mem_of_getElem? (i := 230) (by decide +kernel), List.mem_of_getElem? (i := 240) (by decide +kernel), List.mem_of_getElem? (i := 241) (by decide +kernel)⟩
theorem lw_p2 : lw_okq (⟨"DiamondRows$Polygon", "findCrossers", "()V"⟩, 9) := ⟨⟨by decide +kernel, by decide +kernel⟩, List.mem_of_getElem? (i := 230) (by decide +kernel), List.mem_of_getElem? (i := 244) (by decide +kernel), List.mem_of_getElem? (i := 245) (by decide +kernel)⟩
theorem lw_p3 : lw_okq (⟨"DiamondRows$Polygon", "gatherCuts", "(IIII)V"⟩, 9) := ⟨⟨by decide +kernel, by decide +kernel⟩, List.mem_of_getElem? (i := 230) (by decide +kernel), List.mem_of_getElem? (i := 251) (by decide +kernel), List.mem_of_getElem? (i := 252) (by decide +kernel)⟩
theorem lw_p4 : lw_okq (⟨"DiamondRows$Polygon", "keepCut", "(I)V"⟩, 9) := ⟨⟨by decide +kernel, by decide +kernel⟩, List.mem_of_getElem? (i := 230) (by decide +kernel), List.mem_of_getElem? (i := 255) (by decide +kernel), List.mem_of_getElem? (i := 256) (by decide +kernel)⟩
theorem lw_p5 : lw_okq (⟨"DiamondRows$Tape", "readWord", "()V"⟩, 6) := ⟨⟨by decide +kernel, by decide +kernel⟩, List.mem_of_getElem? (i := 28) (by decide +kernel), List.mem_of_getElem? (i := 387) (by decide +kernel), List.mem_of_getElem? (i := 388) (by decide +kernel)⟩
theorem lw_p6 : lw_okq (⟨"DiamondRows$Tape", "readNumber", "()V"⟩, 6) := ⟨⟨by decide +kernel, by decide +kernel⟩, List.mem_of_getElem? (i := 28) (by decide +kernel), List.mem_of_getElem? (i := 394) (by decide +kernel), List.mem_of_getElem? (i := 395) (by decide +kernel)⟩
theorem lw_p7 : lw_okq (⟨"DiamondRows$CutText", "takeToken", "(LDiamondRows$Tape;LDiamondRows$Polygons;)I"⟩, 6) := ⟨⟨by decide +kernel, by decide +kernel⟩, List.mem_of_getElem? (i := 66) (by decide +kernel), List.mem_of_getElem? (i := 398) (by decide +kernel), List.mem_of_getElem? (i := 399) (by decide +kernel)⟩
theorem lw_p8 : lw_okq (⟨"DiamondRows$CutText", "takeFirst", "(LDiamondRows$Tape;)I"⟩, 6) := ⟨⟨by decide +kernel, by decide +kernel⟩, List.mem_of_getElem? (i := 66) (by decide +kernel), List.mem_of_getElem? (i := 464) (by decide +kernel), List.mem_of_getElem? (i := 465) (by decide +kernel)⟩
theorem lw_p9 : lw_okq (⟨"DiamondRows$CutText", "takeSecond", "(I)I"⟩, 6) := ⟨⟨by decide +kernel, by decide +kernel⟩, List.mem_of_getElem? (i := 66) (by decide +kernel), List.mem_of_getElem? (i := 477) (by decide +kernel), List.mem_of_getElem? (i := 478) (by decide +kernel)⟩
theorem lw_p10 : lw_okq (⟨"DiamondRows$Polygon", "hasLine", "(I)Z"⟩, 9) := ⟨⟨by decide +kernel, by decide +kernel⟩, List.mem_of_getElem? (i := 230) (by decide +kernel), List.mem_of_getElem? (i := 490) (by decide +kernel), List.mem_of_getElem? (i := 491) (by decide +kernel)⟩
theorem lw_p11 : lw_okq (⟨"DiamondRows", "become", "(LDiamondRows$Polygon;I)V"⟩, 13) := ⟨⟨by decide +kernel, by decide +kernel⟩, List.mem_of_getElem? (i := 20) (by decide +kernel), List.mem_of_getElem? (i := 510) (by decide +kernel), List.mem_of_getElem? (i := 511) (by decide +kernel)⟩
theorem lw_p12 : lw_okq (⟨"DiamondRows$Triangles", "gatherOn", "(LDiamondRows$Polygon;III)V"⟩, 7) := ⟨⟨by decide +kernel, by decide +kernel⟩, List.mem_of_getElem? (i := 91) (by decide +kernel), List.mem_of_getElem? (i := 574) (by decide +kernel), List.mem_of_getElem? (i := 575) (by decide +kernel)⟩
theorem lw_p13 : lw_okq (⟨"DiamondRows", "areCorners", "(II)Z"⟩, 13) := ⟨⟨by decide +kernel, by decide +kernel⟩, List.mem_of_getElem? (i := 20) (by decide +kernel), List.mem_of_getElem? (i := 586) (by decide +kernel), List.mem_of_getElem? (i := 587) (by decide +kernel)⟩
theorem lw_p14 : lw_okq (⟨"DiamondRows$Triangles", "choose", "(II)Z"⟩, 7) := ⟨⟨by decide +kernel, by decide +kernel⟩, List.mem_of_getElem? (i := 91) (by decide +kernel), List.mem_of_getElem? (i := 623) (by decide +kernel), List.mem_of_getElem? (i := 624) (by decide +kernel)⟩
theorem lw_p15 : lw_okq (⟨"DiamondRows$Triangles", "touches", "(II)Z"⟩, 7) := ⟨⟨by decide +kernel, by decide +kernel⟩, List.mem_of_getElem? (i := 91) (by decide +kernel), List.mem_of_getElem? (i := 627) (by decide +kernel), List.mem_of_getElem? (i := 628) (by decide +kernel)⟩
def lw_privs_1 : List (MethodName × Nat) := [(⟨"DiamondRows$Polygon", "numberLines", "()V"⟩, 9), (⟨"DiamondRows$Polygon", "numberLine", "(II)V"⟩, 9), (⟨"DiamondRows$Polygon", "findCrossers", "()V"⟩, 9), (⟨"DiamondRows$Polygon", "gatherCuts", "(IIII)V"⟩, 9), (⟨"DiamondRows$Polygon", "keepCut", "(I)V"⟩, 9), (⟨"DiamondRows$Tape", "readWord", "()V"⟩, 6), (⟨"DiamondRows$Tape", "readNumber", "()V"⟩, 6), (⟨"DiamondRows$CutText", "takeToken", "(LDiamondRows$Tape;LDiamondRows$Polygons;)I"⟩, 6), (⟨"DiamondRows$CutText", "takeFirst", "(LDiamondRows$Tape;)I"⟩, 6), (⟨"DiamondRows$CutText", "takeSecond", "(I)I"⟩, 6), (⟨"DiamondRows$Polygon", "hasLine", "(I)Z"⟩, 9), (⟨"DiamondRows", "become", "(LDiamondRows$Polygon;I)V"⟩, 13), (⟨"DiamondRows$Triangles", "gatherOn", "(LDiamondRows$Polygon;III)V"⟩, 7), (⟨"DiamondRows", "areCorners", "(II)Z"⟩, 13), (⟨"DiamondRows$Triangles", "choose", "(II)Z"⟩, 7), (⟨"DiamondRows$Triangles", "touches", "(II)Z"⟩, 7)]
theorem lw_r1 : ∀ q ∈ lw_privs_1, lw_okq q := List.forall_mem_cons.mpr ⟨lw_p0, List.forall_mem_cons.mpr ⟨lw_p1, List.forall_mem_cons.mpr ⟨lw_p2, List.forall_mem_cons.mpr ⟨lw_p3, List.forall_mem_cons.mpr ⟨lw_p4, List.forall_mem_cons.mpr ⟨lw_p5, List.forall_mem_cons.mpr ⟨lw_p6, List.forall_mem_cons.mpr ⟨lw_p7, List.forall_mem_cons.mpr ⟨lw_p8, List.forall_mem_cons.mpr ⟨lw_p9, List.forall_mem_cons.mpr ⟨lw_p10, List.forall_mem_cons.mpr ⟨lw_p11, List.forall_mem_cons.mpr ⟨lw_p12, List.forall_mem_cons.mpr ⟨lw_p13, List.forall_mem_cons.mpr ⟨lw_p14, List.forall_mem_cons.mpr ⟨lw_p15, fun _ h => absurd h List.not_mem_nil⟩⟩⟩⟩⟩⟩⟩⟩⟩⟩⟩⟩⟩⟩⟩⟩
theorem lw_p16 : lw_okq (⟨"DiamondRows$Flips", "comeTo", "(II)V"⟩, 5) := ⟨⟨by decide +kernel, by decide +kernel⟩, List.mem_of_getElem? (i := 133) (by decide +kernel), List.mem_of_getElem? (i := 658) (by decide +kernel), List.mem_of_getElem? (i := 659) (by decide +kernel)⟩
theorem lw_p17 : lw_okq (⟨"DiamondRows$Flips", "stepsTo", "(I)I"⟩, 5) := ⟨⟨by decide +kernel, by decide +kernel⟩, List.mem_of_getElem? (i := 133) (by decide +kernel), List.mem_of_getElem? (i := 673) (by decide +kernel), List.mem_of_getElem? (i := 674) (by decide +kernel)⟩
theorem lw_p18 : lw_okq (⟨"DiamondRows$Flips", "leastNearer", "(LDiamondRows$Polygon;I)I"⟩, 5) := ⟨⟨by decide +kernel, by decide +kernel⟩, List.mem_of_getElem? (i := 133) (by decide +kernel), List.mem_of_getElem? (i := 677) (by decide +kernel), List.mem_of_getElem? (i := 678) (by decide +kernel)⟩
theorem lw_p19 : lw_okq (⟨"DiamondRows$Polygon", "leastTurned", "(I)I"⟩, 9) := ⟨⟨by decide +kernel, by decide +kernel⟩, List.mem_of_getElem? (i := 230) (by decide +kernel), List.mem_of_getElem? (i := 712) (by decide +kernel), List.mem_of_getElem? (i := 713) (by decide +kernel)⟩
theorem lw_p20 : lw_okq (⟨"DiamondRows$Polygon", "moved", "(IZ)I"⟩, 9) := ⟨⟨by decide +kernel, by decide +kernel⟩, List.mem_of_getElem? (i := 230) (by decide +kernel), List.mem_of_getElem? (i := 716) (by decide +kernel), List.mem_of_getElem? (i := 717) (by decide +kernel)⟩
theorem lw_p21 : lw_okq (⟨"DiamondRows$Polygon", "movedCorner", "(IZ)I"⟩, 9) := ⟨⟨by decide +kernel, by decide +kernel⟩, List.mem_of_getElem? (i := 230) (by decide +kernel), List.mem_of_getElem? (i := 720) (by decide +kernel), List.mem_of_getElem? (i := 721) (by decide +kernel)⟩
theorem lw_p22 : lw_okq (⟨"DiamondRows$Polygon", "neverTurnsBelow", "(II)Z"⟩, 9) := ⟨⟨by decide +kernel, by decide +kernel⟩, List.mem_of_getElem? (i := 230) (by decide +kernel), List.mem_of_getElem? (i := 732) (by decide +kernel), List.mem_of_getElem? (i := 733) (by decide +kernel)⟩
theorem lw_p23 : lw_okq (⟨"DiamondRows", "takeRow", "()Z"⟩, 13) := ⟨⟨by decide +kernel, by decide +kernel⟩, List.mem_of_getElem? (i := 20) (by decide +kernel), List.mem_of_getElem? (i := 740) (by decide +kernel), List.mem_of_getElem? (i := 741) (by decide +kernel)⟩
theorem lw_p24 : lw_okq (⟨"DiamondRows$Polygon", "greatestFrom", "(II)I"⟩, 9) := ⟨⟨by decide +kernel, by decide +kernel⟩, List.mem_of_getElem? (i := 230) (by decide +kernel), List.mem_of_getElem? (i := 823) (by decide +kernel), List.mem_of_getElem? (i := 824) (by decide +kernel)⟩
theorem lw_p25 : lw_okq (⟨"DiamondRows$Endless", "wrapped", "(I)I"⟩, 2) := ⟨⟨by decide +kernel, by decide +kernel⟩, List.mem_of_getElem? (i := 155) (by decide +kernel), List.mem_of_getElem? (i := 866) (by decide +kernel), List.mem_of_getElem? (i := 867) (by decide +kernel)⟩
theorem lw_p26 : lw_okq (⟨"DiamondRows$Endless", "allAre", "(IJ)Z"⟩, 2) := ⟨⟨by decide +kernel, by decide +kernel⟩, List.mem_of_getElem? (i := 155) (by decide +kernel), List.mem_of_getElem? (i := 901) (by decide +kernel), List.mem_of_getElem? (i := 902) (by decide +kernel)⟩
theorem lw_p27 : lw_okq (⟨"DiamondRows$Endless", "firstOne", "()I"⟩, 2) := ⟨⟨by decide +kernel, by decide +kernel⟩, List.mem_of_getElem? (i := 155) (by decide +kernel), List.mem_of_getElem? (i := 949) (by decide +kernel), List.mem_of_getElem? (i := 950) (by decide +kernel)⟩
theorem lw_p28 : lw_okq (⟨"DiamondRows$Sightings", "has", "(I)Z"⟩, 12) := ⟨⟨by decide +kernel, by decide +kernel⟩, List.mem_of_getElem? (i := 168) (by decide +kernel), List.mem_of_getElem? (i := 977) (by decide +kernel), List.mem_of_getElem? (i := 978) (by decide +kernel)⟩
theorem lw_p29 : lw_okq (⟨"DiamondRows$Fitting", "mostAgreeing", "(LDiamondRows$Polygon;II)I"⟩, 3) := ⟨⟨by decide +kernel, by decide +kernel⟩, List.mem_of_getElem? (i := 211) (by decide +kernel), List.mem_of_getElem? (i := 1035) (by decide +kernel), List.mem_of_getElem? (i := 1036) (by decide +kernel)⟩
theorem lw_p30 : lw_okq (⟨"DiamondRowsModel", "listFor", "(I)V"⟩, 54) := ⟨⟨by decide +kernel, by decide +kernel⟩, List.mem_of_getElem? (i := 1054) (by decide +kernel), List.mem_of_getElem? (i := 1060) (by decide +kernel), List.mem_of_getElem? (i := 1061) (by decide +kernel)⟩
theorem lw_p31 : lw_okq (⟨"DiamondRowsModel", "linesOf", "(I)V"⟩, 54) := ⟨⟨by decide +kernel, by decide +kernel⟩, List.mem_of_getElem? (i := 1054) (by decide +kernel), List.mem_of_getElem? (i := 1064) (by decide +kernel), List.mem_of_getElem? (i := 1065) (by decide +kernel)⟩
def lw_privs_2 : List (MethodName × Nat) := [(⟨"DiamondRows$Flips", "comeTo", "(II)V"⟩, 5), (⟨"DiamondRows$Flips", "stepsTo", "(I)I"⟩, 5), (⟨"DiamondRows$Flips", "leastNearer", "(LDiamondRows$Polygon;I)I"⟩, 5), (⟨"DiamondRows$Polygon", "leastTurned", "(I)I"⟩, 9), (⟨"DiamondRows$Polygon", "moved", "(IZ)I"⟩, 9), (⟨"DiamondRows$Polygon", "movedCorner", "(IZ)I"⟩, 9), (⟨"DiamondRows$Polygon", "neverTurnsBelow", "(II)Z"⟩, 9), (⟨"DiamondRows", "takeRow", "()Z"⟩, 13), (⟨"DiamondRows$Polygon", "greatestFrom", "(II)I"⟩, 9), (⟨"DiamondRows$Endless", "wrapped", "(I)I"⟩, 2), (⟨"DiamondRows$Endless", "allAre", "(IJ)Z"⟩, 2), (⟨"DiamondRows$Endless", "firstOne", "()I"⟩, 2), (⟨"DiamondRows$Sightings", "has", "(I)Z"⟩, 12), (⟨"DiamondRows$Fitting", "mostAgreeing", "(LDiamondRows$Polygon;II)I"⟩, 3), (⟨"DiamondRowsModel", "listFor", "(I)V"⟩, 54), (⟨"DiamondRowsModel", "linesOf", "(I)V"⟩, 54)]
theorem lw_r2 : ∀ q ∈ lw_privs_2, lw_okq q := List.forall_mem_cons.mpr ⟨lw_p16, List.forall_mem_cons.mpr ⟨lw_p17, List.forall_mem_cons.mpr ⟨lw_p18, List.forall_mem_cons.mpr ⟨lw_p19, List.forall_mem_cons.mpr ⟨lw_p20, List.forall_mem_cons.mpr ⟨lw_p21, List.forall_mem_cons.mpr ⟨lw_p22, List.forall_mem_cons.mpr ⟨lw_p23, List.forall_mem_cons.mpr ⟨lw_p24, List.forall_mem_cons.mpr ⟨lw_p25, List.forall_mem_cons.mpr ⟨lw_p26, List.forall_mem_cons.mpr ⟨lw_p27, List.forall_mem_cons.mpr ⟨lw_p28, List.forall_mem_cons.mpr ⟨lw_p29, List.forall_mem_cons.mpr ⟨lw_p30, List.forall_mem_cons.mpr ⟨lw_p31, fun _ h => absurd h List.not_mem_nil⟩⟩⟩⟩⟩⟩⟩⟩⟩⟩⟩⟩⟩⟩⟩⟩
theorem lw_p32 : lw_okq (⟨"DiamondRowsModel", "grow", "(IJII)V"⟩, 54) := ⟨⟨by decide +kernel, by decide +kernel⟩, List.mem_of_getElem? (i := 1054) (by decide +kernel), List.mem_of_getElem? (i := 1074) (by decide +kernel), List.mem_of_getElem? (i := 1075) (by decide +kernel)⟩
theorem lw_p33 : lw_okq (⟨"DiamondRowsModel", "begin", "()V"⟩, 54) := ⟨⟨by decide +kernel, by decide +kernel⟩, List.mem_of_getElem? (i := 1054) (by decide +kernel), List.mem_of_getElem? (i := 1265) (by decide +kernel), List.mem_of_getElem? (i := 1266) (by decide +kernel)⟩
theorem lw_p34 : lw_okq (⟨"DiamondRowsModel", "scan", "()V"⟩, 54) := ⟨⟨by decide +kernel, by decide +kernel⟩, List.mem_of_getElem? (i := 1054) (by decide +kernel), List.mem_of_getElem? (i := 1269) (by decide +kernel), List.mem_of_getElem? (i := 1270) (by decide +kernel)⟩
theorem lw_p35 : lw_okq (⟨"DiamondRowsModel", "byteAt", "(I)I"⟩, 54) := ⟨⟨by decide +kernel, by decide +kernel⟩, List.mem_of_getElem? (i := 1054) (by decide +kernel), List.mem_of_getElem? (i := 1273) (by decide +kernel), List.mem_of_getElem? (i := 1274) (by decide +kernel)⟩
theorem lw_p36 : lw_okq (⟨"DiamondRowsModel", "readCut", "()Z"⟩, 54) := ⟨⟨by decide +kernel, by decide +kernel⟩, List.mem_of_getElem? (i := 1054) (by decide +kernel), List.mem_of_getElem? (i := 1285) (by decide +kernel), List.mem_of_getElem? (i := 1286) (by decide +kernel)⟩
theorem lw_p37 : lw_okq (⟨"DiamondRowsModel", "fails", "(I)Z"⟩, 54) := ⟨⟨by decide +kernel, by decide +kernel⟩, List.mem_of_getElem? (i := 1054) (by decide +kernel), List.mem_of_getElem? (i := 1290) (by decide +kernel), List.mem_of_getElem? (i := 1291) (by decide +kernel)⟩
theorem lw_p38 : lw_okq (⟨"DiamondRowsModel", "readCorner", "()Z"⟩, 54) := ⟨⟨by decide +kernel, by decide +kernel⟩, List.mem_of_getElem? (i := 1054) (by decide +kernel), List.mem_of_getElem? (i := 1297) (by decide +kernel), List.mem_of_getElem? (i := 1298) (by decide +kernel)⟩
theorem lw_p39 : lw_okq (⟨"DiamondRowsModel", "becomes", "(IJ)V"⟩, 54) := ⟨⟨by decide +kernel, by decide +kernel⟩, List.mem_of_getElem? (i := 1054) (by decide +kernel), List.mem_of_getElem? (i := 1301) (by decide +kernel), List.mem_of_getElem? (i := 1302) (by decide +kernel)⟩
theorem lw_p40 : lw_okq (⟨"DiamondRowsModel", "ownNumber", "()I"⟩, 54) := ⟨⟨by decide +kernel, by decide +kernel⟩, List.mem_of_getElem? (i := 1054) (by decide +kernel), List.mem_of_getElem? (i := 1305) (by decide +kernel), List.mem_of_getElem? (i := 1306) (by decide +kernel)⟩
theorem lw_p41 : lw_okq (⟨"DiamondRowsModel", "placeOf", "(J)I"⟩, 54) := ⟨⟨by decide +kernel, by decide +kernel⟩, List.mem_of_getElem? (i := 1054) (by decide +kernel), List.mem_of_getElem? (i := 1309) (by decide +kernel), List.mem_of_getElem? (i := 1310) (by decide +kernel)⟩
theorem lw_p42 : lw_okq (⟨"DiamondRowsModel", "trianglesOf", "(IJ)V"⟩, 54) := ⟨⟨by decide +kernel, by decide +kernel⟩, List.mem_of_getElem? (i := 1054) (by decide +kernel), List.mem_of_getElem? (i := 1325) (by decide +kernel), List.mem_of_getElem? (i := 1326) (by decide +kernel)⟩
theorem lw_p43 : lw_okq (⟨"DiamondRowsModel", "near", "(IJII)Z"⟩, 54) := ⟨⟨by decide +kernel, by decide +kernel⟩, List.mem_of_getElem? (i := 1054) (by decide +kernel), List.mem_of_getElem? (i := 1329) (by decide +kernel), List.mem_of_getElem? (i := 1330) (by decide +kernel)⟩
theorem lw_p44 : lw_okq (⟨"DiamondRowsModel", "isCorner", "(I)Z"⟩, 54) := ⟨⟨by decide +kernel, by decide +kernel⟩, List.mem_of_getElem? (i := 1054) (by decide +kernel), List.mem_of_getElem? (i := 1337) (by decide +kernel), List.mem_of_getElem? (i := 1338) (by decide +kernel)⟩
theorem lw_p45 : lw_okq (⟨"DiamondRowsModel", "entryOf", "(IJII)I"⟩, 54) := ⟨⟨by decide +kernel, by decide +kernel⟩, List.mem_of_getElem? (i := 1054) (by decide +kernel), List.mem_of_getElem? (i := 1341) (by decide +kernel), List.mem_of_getElem? (i := 1342) (by decide +kernel)⟩
theorem lw_p46 : lw_okq (⟨"DiamondRowsModel", "entriesFrom", "(IJI)V"⟩, 54) := ⟨⟨by decide +kernel, by decide +kernel⟩, List.mem_of_getElem? (i := 1054) (by decide +kernel), List.mem_of_getElem? (i := 1345) (by decide +kernel), List.mem_of_getElem? (i := 1346) (by decide +kernel)⟩
theorem lw_p47 : lw_okq (⟨"DiamondRowsModel", "rowAt", "(IJI)I"⟩, 54) := ⟨⟨by decide +kernel, by decide +kernel⟩, List.mem_of_getElem? (i := 1054) (by decide +kernel), List.mem_of_getElem? (i := 1353) (by decide +kernel), List.mem_of_getElem? (i := 1354) (by decide +kernel)⟩
def lw_privs_3 : List (MethodName × Nat) := [(⟨"DiamondRowsModel", "grow", "(IJII)V"⟩, 54), (⟨"DiamondRowsModel", "begin", "()V"⟩, 54), (⟨"DiamondRowsModel", "scan", "()V"⟩, 54), (⟨"DiamondRowsModel", "byteAt", "(I)I"⟩, 54), (⟨"DiamondRowsModel", "readCut", "()Z"⟩, 54), (⟨"DiamondRowsModel", "fails", "(I)Z"⟩, 54), (⟨"DiamondRowsModel", "readCorner", "()Z"⟩, 54), (⟨"DiamondRowsModel", "becomes", "(IJ)V"⟩, 54), (⟨"DiamondRowsModel", "ownNumber", "()I"⟩, 54), (⟨"DiamondRowsModel", "placeOf", "(J)I"⟩, 54), (⟨"DiamondRowsModel", "trianglesOf", "(IJ)V"⟩, 54), (⟨"DiamondRowsModel", "near", "(IJII)Z"⟩, 54), (⟨"DiamondRowsModel", "isCorner", "(I)Z"⟩, 54), (⟨"DiamondRowsModel", "entryOf", "(IJII)I"⟩, 54), (⟨"DiamondRowsModel", "entriesFrom", "(IJI)V"⟩, 54), (⟨"DiamondRowsModel", "rowAt", "(IJI)I"⟩, 54)]
theorem lw_r3 : ∀ q ∈ lw_privs_3, lw_okq q := List.forall_mem_cons.mpr ⟨lw_p32, List.forall_mem_cons.mpr ⟨lw_p33, List.forall_mem_cons.mpr ⟨lw_p34, List.forall_mem_cons.mpr ⟨lw_p35, List.forall_mem_cons.mpr ⟨lw_p36, List.forall_mem_cons.mpr ⟨lw_p37, List.forall_mem_cons.mpr ⟨lw_p38, List.forall_mem_cons.mpr ⟨lw_p39, List.forall_mem_cons.mpr ⟨lw_p40, List.forall_mem_cons.mpr ⟨lw_p41, List.forall_mem_cons.mpr ⟨lw_p42, List.forall_mem_cons.mpr ⟨lw_p43, List.forall_mem_cons.mpr ⟨lw_p44, List.forall_mem_cons.mpr ⟨lw_p45, List.forall_mem_cons.mpr ⟨lw_p46, List.forall_mem_cons.mpr ⟨lw_p47, fun _ h => absurd h List.not_mem_nil⟩⟩⟩⟩⟩⟩⟩⟩⟩⟩⟩⟩⟩⟩⟩⟩
theorem lw_p48 : lw_okq (⟨"DiamondRowsModel", "isWay", "(IIII)Z"⟩, 54) := ⟨⟨by decide +kernel, by decide +kernel⟩, List.mem_of_getElem? (i := 1054) (by decide +kernel), List.mem_of_getElem? (i := 1361) (by decide +kernel), List.mem_of_getElem? (i := 1362) (by decide +kernel)⟩
theorem lw_p49 : lw_okq (⟨"DiamondRowsModel", "isAt", "(II)Z"⟩, 54) := ⟨⟨by decide +kernel, by decide +kernel⟩, List.mem_of_getElem? (i := 1054) (by decide +kernel), List.mem_of_getElem? (i := 1365) (by decide +kernel), List.mem_of_getElem? (i := 1366) (by decide +kernel)⟩
theorem lw_p50 : lw_okq (⟨"DiamondRowsModel", "flipped", "(IJII)J"⟩, 54) := ⟨⟨by decide +kernel, by decide +kernel⟩, List.mem_of_getElem? (i := 1054) (by decide +kernel), List.mem_of_getElem? (i := 1373) (by decide +kernel), List.mem_of_getElem? (i := 1374) (by decide +kernel)⟩
theorem lw_p51 : lw_okq (⟨"DiamondRowsModel", "spreadFrom", "(I)V"⟩, 54) := ⟨⟨by decide +kernel, by decide +kernel⟩, List.mem_of_getElem? (i := 1054) (by decide +kernel), List.mem_of_getElem? (i := 1382) (by decide +kernel), List.mem_of_getElem? (i := 1383) (by decide +kernel)⟩
theorem lw_p52 : lw_okq (⟨"DiamondRowsModel", "leastOf", "(IJZ)J"⟩, 54) := ⟨⟨by decide +kernel, by decide +kernel⟩, List.mem_of_getElem? (i := 1054) (by decide +kernel), List.mem_of_getElem? (i := 1398) (by decide +kernel), List.mem_of_getElem? (i := 1399) (by decide +kernel)⟩
theorem lw_p53 : lw_okq (⟨"DiamondRowsModel", "turned", "(IJIZ)J"⟩, 54) := ⟨⟨by decide +kernel, by decide +kernel⟩, List.mem_of_getElem? (i := 1054) (by decide +kernel), List.mem_of_getElem? (i := 1402) (by decide +kernel), List.mem_of_getElem? (i := 1403) (by decide +kernel)⟩
theorem lw_p54 : lw_okq (⟨"DiamondRowsModel", "readRow", "()I"⟩, 54) := ⟨⟨by decide +kernel, by decide +kernel⟩, List.mem_of_getElem? (i := 1054) (by decide +kernel), List.mem_of_getElem? (i := 1414) (by decide +kernel), List.mem_of_getElem? (i := 1415) (by decide +kernel)⟩
theorem lw_p55 : lw_okq (⟨"DiamondRowsModel", "nearest", "()I"⟩, 54) := ⟨⟨by decide +kernel, by decide +kernel⟩, List.mem_of_getElem? (i := 1054) (by decide +kernel), List.mem_of_getElem? (i := 1418) (by decide +kernel), List.mem_of_getElem? (i := 1419) (by decide +kernel)⟩
theorem lw_p56 : lw_okq (⟨"DiamondRowsModel", "apart", "(J)I"⟩, 54) := ⟨⟨by decide +kernel, by decide +kernel⟩, List.mem_of_getElem? (i := 1054) (by decide +kernel), List.mem_of_getElem? (i := 1422) (by decide +kernel), List.mem_of_getElem? (i := 1423) (by decide +kernel)⟩
theorem lw_p57 : lw_okq (⟨"DiamondRowsModel", "cross", "(II)V"⟩, 54) := ⟨⟨by decide +kernel, by decide +kernel⟩, List.mem_of_getElem? (i := 1054) (by decide +kernel), List.mem_of_getElem? (i := 1438) (by decide +kernel), List.mem_of_getElem? (i := 1439) (by decide +kernel)⟩
theorem lw_p58 : lw_okq (⟨"DiamondRowsModel", "alongOf", "(II)J"⟩, 54) := ⟨⟨by decide +kernel, by decide +kernel⟩, List.mem_of_getElem? (i := 1054) (by decide +kernel), List.mem_of_getElem? (i := 1470) (by decide +kernel), List.mem_of_getElem? (i := 1471) (by decide +kernel)⟩
theorem lw_p59 : lw_okq (⟨"DiamondRowsModel", "isAll", "(IJ)Z"⟩, 54) := ⟨⟨by decide +kernel, by decide +kernel⟩, List.mem_of_getElem? (i := 1054) (by decide +kernel), List.mem_of_getElem? (i := 1479) (by decide +kernel), List.mem_of_getElem? (i := 1480) (by decide +kernel)⟩
theorem lw_p60 : lw_okq (⟨"DiamondRowsModel", "isOff", "(I)Z"⟩, 54) := ⟨⟨by decide +kernel, by decide +kernel⟩, List.mem_of_getElem? (i := 1054) (by decide +kernel), List.mem_of_getElem? (i := 1495) (by decide +kernel), List.mem_of_getElem? (i := 1496) (by decide +kernel)⟩
theorem lw_p61 : lw_okq (⟨"DiamondRowsModel", "off", "(I)V"⟩, 54) := ⟨⟨by decide +kernel, by decide +kernel⟩, List.mem_of_getElem? (i := 1054) (by decide +kernel), List.mem_of_getElem? (i := 1499) (by decide +kernel), List.mem_of_getElem? (i := 1500) (by decide +kernel)⟩
theorem lw_p62 : lw_okq (⟨"DiamondRowsModel", "makeFits", "(I)I"⟩, 54) := ⟨⟨by decide +kernel, by decide +kernel⟩, List.mem_of_getElem? (i := 1054) (by decide +kernel), List.mem_of_getElem? (i := 1519) (by decide +kernel), List.mem_of_getElem? (i := 1520) (by decide +kernel)⟩
theorem lw_p63 : lw_okq (⟨"DiamondRowsModel", "isFit", "(JI)Z"⟩, 54) := ⟨⟨by decide +kernel, by decide +kernel⟩, List.mem_of_getElem? (i := 1054) (by decide +kernel), List.mem_of_getElem? (i := 1523) (by decide +kernel), List.mem_of_getElem? (i := 1524) (by decide +kernel)⟩
def lw_privs_4 : List (MethodName × Nat) := [(⟨"DiamondRowsModel", "isWay", "(IIII)Z"⟩, 54), (⟨"DiamondRowsModel", "isAt", "(II)Z"⟩, 54), (⟨"DiamondRowsModel", "flipped", "(IJII)J"⟩, 54), (⟨"DiamondRowsModel", "spreadFrom", "(I)V"⟩, 54), (⟨"DiamondRowsModel", "leastOf", "(IJZ)J"⟩, 54), (⟨"DiamondRowsModel", "turned", "(IJIZ)J"⟩, 54), (⟨"DiamondRowsModel", "readRow", "()I"⟩, 54), (⟨"DiamondRowsModel", "nearest", "()I"⟩, 54), (⟨"DiamondRowsModel", "apart", "(J)I"⟩, 54), (⟨"DiamondRowsModel", "cross", "(II)V"⟩, 54), (⟨"DiamondRowsModel", "alongOf", "(II)J"⟩, 54), (⟨"DiamondRowsModel", "isAll", "(IJ)Z"⟩, 54), (⟨"DiamondRowsModel", "isOff", "(I)Z"⟩, 54), (⟨"DiamondRowsModel", "off", "(I)V"⟩, 54), (⟨"DiamondRowsModel", "makeFits", "(I)I"⟩, 54), (⟨"DiamondRowsModel", "isFit", "(JI)Z"⟩, 54)]
theorem lw_r4 : ∀ q ∈ lw_privs_4, lw_okq q := List.forall_mem_cons.mpr ⟨lw_p48, List.forall_mem_cons.mpr ⟨lw_p49, List.forall_mem_cons.mpr ⟨lw_p50, List.forall_mem_cons.mpr ⟨lw_p51, List.forall_mem_cons.mpr ⟨lw_p52, List.forall_mem_cons.mpr ⟨lw_p53, List.forall_mem_cons.mpr ⟨lw_p54, List.forall_mem_cons.mpr ⟨lw_p55, List.forall_mem_cons.mpr ⟨lw_p56, List.forall_mem_cons.mpr ⟨lw_p57, List.forall_mem_cons.mpr ⟨lw_p58, List.forall_mem_cons.mpr ⟨lw_p59, List.forall_mem_cons.mpr ⟨lw_p60, List.forall_mem_cons.mpr ⟨lw_p61, List.forall_mem_cons.mpr ⟨lw_p62, List.forall_mem_cons.mpr ⟨lw_p63, fun _ h => absurd h List.not_mem_nil⟩⟩⟩⟩⟩⟩⟩⟩⟩⟩⟩⟩⟩⟩⟩⟩
def lw_privs : List (MethodName × Nat) := lw_privs_1 ++ (lw_privs_2 ++ (lw_privs_3 ++ (lw_privs_4)))
def lw_tbl : List Cond := k2_sels lw_privs ++ tables_1
theorem lw_privs_ok : ∀ q ∈ lw_privs, lw_okq q := by
  show ∀ q ∈ lw_privs_1 ++ (lw_privs_2 ++ (lw_privs_3 ++ (lw_privs_4))), lw_okq q
  exact List.forall_mem_append.mpr ⟨lw_r1, List.forall_mem_append.mpr ⟨lw_r2, List.forall_mem_append.mpr ⟨lw_r3, lw_r4⟩⟩⟩

/-! ===== BEGIN words of one list among another's, by their places ===== -/
theorem goodIn_r {big : List Cond} (ws : List Cond) (ps : List Nat) (hp : ws = ps.filterMap (fun i => big[i]?)) (h : ws.all goodWord = true) : GoodIn big ws := by
  intro w hw
  have h1 := List.all_eq_true.mp h w hw
  rw [hp] at hw
  obtain ⟨i, -, hi⟩ := List.mem_filterMap.mp hw
  have hm : w ∈ big := by first | exact List.mem_of_getElem? hi | exact List.getElem?_mem hi
  exact ⟨hm, good_of_word h1⟩
theorem goodIn_app {big a b : List Cond} (ha : GoodIn big a) (hb : GoodIn big b) : GoodIn big (a ++ b) := fun w h => (List.mem_append.mp h).elim (ha w) (hb w)
theorem goodIn_ca {big a b : List Cond} {c : Cond} (ha : GoodIn big (c :: a)) (hb : GoodIn big b) : GoodIn big (c :: (a ++ b)) := fun w h => (List.mem_cons.mp h).elim (fun e => ha w (List.mem_cons.mpr (Or.inl e))) (fun h => (List.mem_append.mp h).elim (fun h => ha w (List.mem_cons.mpr (Or.inr h))) (hb w))
theorem goodIn_sub {big ws : List Cond} (hm : ∀ w ∈ ws, w ∈ big) (h : ws.all goodWord = true) : GoodIn big ws := fun w hw => ⟨hm w hw, good_of_word (List.all_eq_true.mp h w hw)⟩
/-! ===== END ===== -/

/-! ===== BEGIN printed: names, fields, word lists, decode rows ===== -/
def RX0 : String := "DiamondRows$CrossedLines"
def TX0 : u_T := fun k => match k with
  | 0 => ("DiamondRows$CrossedLines", "lines", "[I", true)
  | _ => ("DiamondRows$CrossedLines", "size", "I", false)
def tyX0 : Nat → FieldType := fun k => match k with
  | 0 => .array .int
  | _ => .int
abbrev wsX00 : List Cond := u_ws RX0 TX0 2
theorem nmX0 : ∀ a, a < 2 → ∀ b, b < 2 → a ≠ b → (TX0 a).2.1 ≠ (TX0 b).2.1 := by decide +kernel
theorem tyX0_ok : ∀ k, k < 2 → parseFieldDescriptor (TX0 k).2.2.1 = some (tyX0 k) := by decide +kernel
abbrev cX0_init : ByteArray := prog_2_method_1_code
def yX0_init : MethodName := ⟨RX0, "<init>", "()V"⟩
abbrev cX0_size : ByteArray := prog_2_method_2_code
def yX0_size : MethodName := ⟨RX0, "size", "()I"⟩
abbrev cX0_gather : ByteArray := prog_2_method_3_code
def yX0_gather : MethodName := ⟨RX0, "gather", "(LDiamondRows$Polygon;III)V"⟩
abbrev cX0_spanFrom : ByteArray := prog_2_method_4_code
def yX0_spanFrom : MethodName := ⟨RX0, "spanFrom", "(LDiamondRows$Polygon;II)I"⟩
abbrev cX0_pairAt : ByteArray := prog_2_method_5_code
def yX0_pairAt : MethodName := ⟨RX0, "pairAt", "(LDiamondRows$Polygon;I)I"⟩
abbrev cX0_sharedWithNext : ByteArray := prog_2_method_6_code
def yX0_sharedWithNext : MethodName := ⟨RX0, "sharedWithNext", "(LDiamondRows$Polygon;I)I"⟩
def RX1 : String := "DiamondRows$CutText"
def TX1 : u_T := fun k => match k with
  | 0 => ("DiamondRows$CutText", "faultKind", "I", false)
  | 1 => ("DiamondRows$CutText", "faultPlace", "I", false)
  | 2 => ("DiamondRows$CutText", "expected", "I", false)
  | 3 => ("DiamondRows$CutText", "first", "I", false)
  | 4 => ("DiamondRows$CutText", "polygon", "LDiamondRows$Polygon;", false)
  | _ => ("DiamondRows$CutText", "bits", "I", false)
def tyX1 : Nat → FieldType := fun k => match k with
  | 0 => .int
  | 1 => .int
  | 2 => .int
  | 3 => .int
  | 4 => .object "DiamondRows$Polygon"
  | _ => .int
abbrev wsX10 : List Cond := u_ws RX1 TX1 6
theorem nmX1 : ∀ a, a < 6 → ∀ b, b < 6 → a ≠ b → (TX1 a).2.1 ≠ (TX1 b).2.1 := by decide +kernel
theorem tyX1_ok : ∀ k, k < 6 → parseFieldDescriptor (TX1 k).2.2.1 = some (tyX1 k) := by decide +kernel
abbrev cX1_init : ByteArray := prog_3_method_1_code
def yX1_init : MethodName := ⟨RX1, "<init>", "()V"⟩
abbrev cX1_faultKind : ByteArray := prog_3_method_2_code
def yX1_faultKind : MethodName := ⟨RX1, "faultKind", "()I"⟩
abbrev cX1_faultPlace : ByteArray := prog_3_method_3_code
def yX1_faultPlace : MethodName := ⟨RX1, "faultPlace", "()I"⟩
abbrev cX1_polygon : ByteArray := prog_3_method_4_code
def yX1_polygon : MethodName := ⟨RX1, "polygon", "()LDiamondRows$Polygon;"⟩
abbrev cX1_bits : ByteArray := prog_3_method_5_code
def yX1_bits : MethodName := ⟨RX1, "bits", "()I"⟩
abbrev cX1_understand : ByteArray := prog_3_method_6_code
def yX1_understand : MethodName := ⟨RX1, "understand", "(LDiamondRows$Tape;LDiamondRows$Polygons;)Z"⟩
abbrev cX1_takeToken : ByteArray := prog_3_method_7_code
def yX1_takeToken : MethodName := ⟨RX1, "takeToken", "(LDiamondRows$Tape;LDiamondRows$Polygons;)I"⟩
abbrev cX1_takeFirst : ByteArray := prog_3_method_8_code
def yX1_takeFirst : MethodName := ⟨RX1, "takeFirst", "(LDiamondRows$Tape;)I"⟩
abbrev cX1_takeSecond : ByteArray := prog_3_method_9_code
def yX1_takeSecond : MethodName := ⟨RX1, "takeSecond", "(I)I"⟩
def RX2 : String := "DiamondRows$Endless"
def TX2 : u_T := fun k => match k with
  | 0 => ("DiamondRows$Endless", "numbers", "[I", true)
  | _ => ("DiamondRows$Endless", "size", "I", false)
def tyX2 : Nat → FieldType := fun k => match k with
  | 0 => .array .int
  | _ => .int
abbrev wsX20 : List Cond := u_ws RX2 TX2 2
theorem nmX2 : ∀ a, a < 2 → ∀ b, b < 2 → a ≠ b → (TX2 a).2.1 ≠ (TX2 b).2.1 := by decide +kernel
theorem tyX2_ok : ∀ k, k < 2 → parseFieldDescriptor (TX2 k).2.2.1 = some (tyX2 k) := by decide +kernel
abbrev cX2_init : ByteArray := prog_4_method_1_code
def yX2_init : MethodName := ⟨RX2, "<init>", "()V"⟩
abbrev cX2_size : ByteArray := prog_4_method_2_code
def yX2_size : MethodName := ⟨RX2, "size", "()I"⟩
abbrev cX2_hasPlace : ByteArray := prog_4_method_3_code
def yX2_hasPlace : MethodName := ⟨RX2, "hasPlace", "(I)Z"⟩
abbrev cX2_accepts : ByteArray := prog_4_method_4_code
def yX2_accepts : MethodName := ⟨RX2, "accepts", "([II)Z"⟩
abbrev cX2_become : ByteArray := prog_4_method_5_code
def yX2_become : MethodName := ⟨RX2, "become", "([II)I"⟩
abbrev cX2_at : ByteArray := prog_4_method_6_code
def yX2_at : MethodName := ⟨RX2, "at", "(I)I"⟩
abbrev cX2_wrapped : ByteArray := prog_4_method_7_code
def yX2_wrapped : MethodName := ⟨RX2, "wrapped", "(I)I"⟩
abbrev cX2_entryAt : ByteArray := prog_4_method_8_code
def yX2_entryAt : MethodName := ⟨RX2, "entryAt", "(II)J"⟩
abbrev cX2_breakLength : ByteArray := prog_4_method_9_code
def yX2_breakLength : MethodName := ⟨RX2, "breakLength", "()I"⟩
abbrev cX2_breakPlace : ByteArray := prog_4_method_10_code
def yX2_breakPlace : MethodName := ⟨RX2, "breakPlace", "(I)I"⟩
abbrev cX2_comesBack : ByteArray := prog_4_method_11_code
def yX2_comesBack : MethodName := ⟨RX2, "comesBack", "(I)Z"⟩
abbrev cX2_allAre : ByteArray := prog_4_method_12_code
def yX2_allAre : MethodName := ⟨RX2, "allAre", "(IJ)Z"⟩
abbrev cX2_growthOfRound : ByteArray := prog_4_method_13_code
def yX2_growthOfRound : MethodName := ⟨RX2, "growthOfRound", "()J"⟩
abbrev cX2_canGlue : ByteArray := prog_4_method_14_code
def yX2_canGlue : MethodName := ⟨RX2, "canGlue", "(I)Z"⟩
abbrev cX2_glueBehind : ByteArray := prog_4_method_15_code
def yX2_glueBehind : MethodName := ⟨RX2, "glueBehind", "(I)I"⟩
abbrev cX2_canLose : ByteArray := prog_4_method_16_code
def yX2_canLose : MethodName := ⟨RX2, "canLose", "(I)Z"⟩
abbrev cX2_lose : ByteArray := prog_4_method_17_code
def yX2_lose : MethodName := ⟨RX2, "lose", "(I)I"⟩
abbrev cX2_loseAll : ByteArray := prog_4_method_18_code
def yX2_loseAll : MethodName := ⟨RX2, "loseAll", "()I"⟩
abbrev cX2_firstOne : ByteArray := prog_4_method_19_code
def yX2_firstOne : MethodName := ⟨RX2, "firstOne", "()I"⟩
def RX3 : String := "DiamondRows$Fitting"
def TX3 : u_T := fun k => match k with
  | 0 => ("DiamondRows$Fitting", "numbers", "[I", true)
  | 1 => ("DiamondRows$Fitting", "tally", "[I", true)
  | _ => ("DiamondRows$Fitting", "size", "I", false)
def tyX3 : Nat → FieldType := fun k => match k with
  | 0 => .array .int
  | 1 => .array .int
  | _ => .int
abbrev wsX30 : List Cond := u_ws RX3 TX3 3
theorem nmX3 : ∀ a, a < 3 → ∀ b, b < 3 → a ≠ b → (TX3 a).2.1 ≠ (TX3 b).2.1 := by decide +kernel
theorem tyX3_ok : ∀ k, k < 3 → parseFieldDescriptor (TX3 k).2.2.1 = some (tyX3 k) := by decide +kernel
abbrev cX3_init : ByteArray := prog_5_method_1_code
def yX3_init : MethodName := ⟨RX3, "<init>", "()V"⟩
abbrev cX3_size : ByteArray := prog_5_method_2_code
def yX3_size : MethodName := ⟨RX3, "size", "()I"⟩
abbrev cX3_gather : ByteArray := prog_5_method_3_code
def yX3_gather : MethodName := ⟨RX3, "gather", "(LDiamondRows$Polygon;LDiamondRows$Sightings;I)V"⟩
abbrev cX3_leastNumber : ByteArray := prog_5_method_4_code
def yX3_leastNumber : MethodName := ⟨RX3, "leastNumber", "()I"⟩
abbrev cX3_howSure : ByteArray := prog_5_method_5_code
def yX3_howSure : MethodName := ⟨RX3, "howSure", "(LDiamondRows$Polygon;I)I"⟩
abbrev cX3_bestQuestion : ByteArray := prog_5_method_6_code
def yX3_bestQuestion : MethodName := ⟨RX3, "bestQuestion", "(LDiamondRows$Polygon;)I"⟩
abbrev cX3_mostAgreeing : ByteArray := prog_5_method_7_code
def yX3_mostAgreeing : MethodName := ⟨RX3, "mostAgreeing", "(LDiamondRows$Polygon;II)I"⟩
def RX4 : String := "DiamondRows$Flips"
def TX4 : u_T := fun k => match k with
  | 0 => ("DiamondRows$Flips", "steps", "[I", true)
  | 1 => ("DiamondRows$Flips", "queue", "[I", true)
  | 2 => ("DiamondRows$Flips", "way", "[I", true)
  | 3 => ("DiamondRows$Flips", "wayLength", "I", false)
  | _ => ("DiamondRows$Flips", "queued", "I", false)
def tyX4 : Nat → FieldType := fun k => match k with
  | 0 => .array .int
  | 1 => .array .int
  | 2 => .array .int
  | 3 => .int
  | _ => .int
abbrev wsX40 : List Cond := u_ws RX4 TX4 5
theorem nmX4 : ∀ a, a < 5 → ∀ b, b < 5 → a ≠ b → (TX4 a).2.1 ≠ (TX4 b).2.1 := by decide +kernel
theorem tyX4_ok : ∀ k, k < 5 → parseFieldDescriptor (TX4 k).2.2.1 = some (tyX4 k) := by decide +kernel
abbrev cX4_init : ByteArray := prog_6_method_1_code
def yX4_init : MethodName := ⟨RX4, "<init>", "()V"⟩
abbrev cX4_measure : ByteArray := prog_6_method_2_code
def yX4_measure : MethodName := ⟨RX4, "measure", "(LDiamondRows$Polygon;I)V"⟩
abbrev cX4_comeTo : ByteArray := prog_6_method_3_code
def yX4_comeTo : MethodName := ⟨RX4, "comeTo", "(II)V"⟩
abbrev cX4_stepsTo : ByteArray := prog_6_method_4_code
def yX4_stepsTo : MethodName := ⟨RX4, "stepsTo", "(I)I"⟩
abbrev cX4_mostSteps : ByteArray := prog_6_method_5_code
def yX4_mostSteps : MethodName := ⟨RX4, "mostSteps", "(LDiamondRows$Polygon;)I"⟩
abbrev cX4_howManyAt : ByteArray := prog_6_method_6_code
def yX4_howManyAt : MethodName := ⟨RX4, "howManyAt", "(LDiamondRows$Polygon;I)I"⟩
abbrev cX4_layWay : ByteArray := prog_6_method_7_code
def yX4_layWay : MethodName := ⟨RX4, "layWay", "(LDiamondRows$Polygon;II)I"⟩
abbrev cX4_leastNearer : ByteArray := prog_6_method_8_code
def yX4_leastNearer : MethodName := ⟨RX4, "leastNearer", "(LDiamondRows$Polygon;I)I"⟩
abbrev cX4_onWay : ByteArray := prog_6_method_9_code
def yX4_onWay : MethodName := ⟨RX4, "onWay", "(I)I"⟩
def RX5 : String := "DiamondRows$Polygon"
def TX5 : u_T := fun k => match k with
  | 0 => ("DiamondRows$Polygon", "corners", "I", true)
  | 1 => ("DiamondRows$Polygon", "lesser", "[I", true)
  | 2 => ("DiamondRows$Polygon", "greater", "[I", true)
  | 3 => ("DiamondRows$Polygon", "numberOfLine", "[I", true)
  | 4 => ("DiamondRows$Polygon", "crossers", "[I", true)
  | 5 => ("DiamondRows$Polygon", "linesAt", "[I", true)
  | 6 => ("DiamondRows$Polygon", "cuts", "[I", true)
  | 7 => ("DiamondRows$Polygon", "lineCount", "I", false)
  | _ => ("DiamondRows$Polygon", "cutCount", "I", false)
def tyX5 : Nat → FieldType := fun k => match k with
  | 0 => .int
  | 1 => .array .int
  | 2 => .array .int
  | 3 => .array .int
  | 4 => .array .int
  | 5 => .array .int
  | 6 => .array .int
  | 7 => .int
  | _ => .int
abbrev wsX50 : List Cond := u_ws RX5 TX5 9
theorem nmX5 : ∀ a, a < 9 → ∀ b, b < 9 → a ≠ b → (TX5 a).2.1 ≠ (TX5 b).2.1 := by decide +kernel
theorem tyX5_ok : ∀ k, k < 9 → parseFieldDescriptor (TX5 k).2.2.1 = some (tyX5 k) := by decide +kernel
abbrev cX5_init : ByteArray := prog_7_method_1_code
def yX5_init : MethodName := ⟨RX5, "<init>", "(I)V"⟩
abbrev cX5_numberLines : ByteArray := prog_7_method_2_code
def yX5_numberLines : MethodName := ⟨RX5, "numberLines", "()V"⟩
abbrev cX5_numberLine : ByteArray := prog_7_method_3_code
def yX5_numberLine : MethodName := ⟨RX5, "numberLine", "(II)V"⟩
abbrev cX5_findCrossers : ByteArray := prog_7_method_4_code
def yX5_findCrossers : MethodName := ⟨RX5, "findCrossers", "()V"⟩
abbrev cX5_cross : ByteArray := prog_7_method_5_code
def yX5_cross : MethodName := ⟨RX5, "cross", "(IIII)Z"⟩
abbrev cX5_gatherCuts : ByteArray := prog_7_method_6_code
def yX5_gatherCuts : MethodName := ⟨RX5, "gatherCuts", "(IIII)V"⟩
abbrev cX5_keepCut : ByteArray := prog_7_method_7_code
def yX5_keepCut : MethodName := ⟨RX5, "keepCut", "(I)V"⟩
abbrev cX5_corners : ByteArray := prog_7_method_8_code
def yX5_corners : MethodName := ⟨RX5, "corners", "()I"⟩
abbrev cX5_lineCount : ByteArray := prog_7_method_9_code
def yX5_lineCount : MethodName := ⟨RX5, "lineCount", "()I"⟩
abbrev cX5_cutCount : ByteArray := prog_7_method_10_code
def yX5_cutCount : MethodName := ⟨RX5, "cutCount", "()I"⟩
abbrev cX5_hasCorner : ByteArray := prog_7_method_11_code
def yX5_hasCorner : MethodName := ⟨RX5, "hasCorner", "(I)Z"⟩
abbrev cX5_hasCut : ByteArray := prog_7_method_12_code
def yX5_hasCut : MethodName := ⟨RX5, "hasCut", "(I)Z"⟩
abbrev cX5_cutAt : ByteArray := prog_7_method_13_code
def yX5_cutAt : MethodName := ⟨RX5, "cutAt", "(I)I"⟩
abbrev cX5_numberOf : ByteArray := prog_7_method_14_code
def yX5_numberOf : MethodName := ⟨RX5, "numberOf", "(I)I"⟩
abbrev cX5_areNext : ByteArray := prog_7_method_15_code
def yX5_areNext : MethodName := ⟨RX5, "areNext", "(II)Z"⟩
abbrev cX5_lineOf : ByteArray := prog_7_method_16_code
def yX5_lineOf : MethodName := ⟨RX5, "lineOf", "(II)I"⟩
abbrev cX5_pairOf : ByteArray := prog_7_method_17_code
def yX5_pairOf : MethodName := ⟨RX5, "pairOf", "(I)I"⟩
abbrev cX5_lesserOf : ByteArray := prog_7_method_18_code
def yX5_lesserOf : MethodName := ⟨RX5, "lesserOf", "(I)I"⟩
abbrev cX5_greaterOf : ByteArray := prog_7_method_19_code
def yX5_greaterOf : MethodName := ⟨RX5, "greaterOf", "(I)I"⟩
abbrev cX5_crossersOf : ByteArray := prog_7_method_20_code
def yX5_crossersOf : MethodName := ⟨RX5, "crossersOf", "(I)I"⟩
abbrev cX5_hasLine : ByteArray := prog_7_method_21_code
def yX5_hasLine : MethodName := ⟨RX5, "hasLine", "(I)Z"⟩
abbrev cX5_has : ByteArray := prog_7_method_22_code
def yX5_has : MethodName := ⟨RX5, "has", "(II)Z"⟩
abbrev cX5_areJoined : ByteArray := prog_7_method_23_code
def yX5_areJoined : MethodName := ⟨RX5, "areJoined", "(III)Z"⟩
abbrev cX5_ahead : ByteArray := prog_7_method_24_code
def yX5_ahead : MethodName := ⟨RX5, "ahead", "(II)I"⟩
abbrev cX5_trianglesAt : ByteArray := prog_7_method_25_code
def yX5_trianglesAt : MethodName := ⟨RX5, "trianglesAt", "(II)I"⟩
abbrev cX5_entryOf : ByteArray := prog_7_method_26_code
def yX5_entryOf : MethodName := ⟨RX5, "entryOf", "(III)I"⟩
abbrev cX5_otherLine : ByteArray := prog_7_method_27_code
def yX5_otherLine : MethodName := ⟨RX5, "otherLine", "(II)I"⟩
abbrev cX5_neighbourWith : ByteArray := prog_7_method_28_code
def yX5_neighbourWith : MethodName := ⟨RX5, "neighbourWith", "(II)I"⟩
abbrev cX5_moved : ByteArray := prog_7_method_29_code
def yX5_moved : MethodName := ⟨RX5, "moved", "(IZ)I"⟩
abbrev cX5_movedCorner : ByteArray := prog_7_method_30_code
def yX5_movedCorner : MethodName := ⟨RX5, "movedCorner", "(IZ)I"⟩
abbrev cX5_leastTurned : ByteArray := prog_7_method_31_code
def yX5_leastTurned : MethodName := ⟨RX5, "leastTurned", "(I)I"⟩
abbrev cX5_leastAlike : ByteArray := prog_7_method_32_code
def yX5_leastAlike : MethodName := ⟨RX5, "leastAlike", "(IZ)I"⟩
abbrev cX5_countKinds : ByteArray := prog_7_method_33_code
def yX5_countKinds : MethodName := ⟨RX5, "countKinds", "(Z)I"⟩
abbrev cX5_neverTurnsBelow : ByteArray := prog_7_method_34_code
def yX5_neverTurnsBelow : MethodName := ⟨RX5, "neverTurnsBelow", "(II)Z"⟩
abbrev cX5_differenceFrom : ByteArray := prog_7_method_35_code
def yX5_differenceFrom : MethodName := ⟨RX5, "differenceFrom", "([II)I"⟩
abbrev cX5_nearestTo : ByteArray := prog_7_method_36_code
def yX5_nearestTo : MethodName := ⟨RX5, "nearestTo", "([I)I"⟩
abbrev cX5_greatestIn : ByteArray := prog_7_method_37_code
def yX5_greatestIn : MethodName := ⟨RX5, "greatestIn", "(I)I"⟩
abbrev cX5_greatestFrom : ByteArray := prog_7_method_38_code
def yX5_greatestFrom : MethodName := ⟨RX5, "greatestFrom", "(II)I"⟩
abbrev cX5_numberOfGreatest : ByteArray := prog_7_method_39_code
def yX5_numberOfGreatest : MethodName := ⟨RX5, "numberOfGreatest", "()I"⟩
abbrev cX5_countWith : ByteArray := prog_7_method_40_code
def yX5_countWith : MethodName := ⟨RX5, "countWith", "(III)I"⟩
def RX6 : String := "DiamondRows$Polygons"
def TX6 : u_T := fun k => match k with
  | _ => ("DiamondRows$Polygons", "made", "[LDiamondRows$Polygon;", true)
def tyX6 : Nat → FieldType := fun k => match k with
  | _ => .array (.object "DiamondRows$Polygon")
abbrev wsX60 : List Cond := u_ws RX6 TX6 1
theorem nmX6 : ∀ a, a < 1 → ∀ b, b < 1 → a ≠ b → (TX6 a).2.1 ≠ (TX6 b).2.1 := by decide +kernel
theorem tyX6_ok : ∀ k, k < 1 → parseFieldDescriptor (TX6 k).2.2.1 = some (tyX6 k) := by decide +kernel
abbrev cX6_init : ByteArray := prog_8_method_1_code
def yX6_init : MethodName := ⟨RX6, "<init>", "()V"⟩
abbrev cX6_withCorners : ByteArray := prog_8_method_2_code
def yX6_withCorners : MethodName := ⟨RX6, "withCorners", "(I)LDiamondRows$Polygon;"⟩
def RX7 : String := "DiamondRows$Sightings"
def TX7 : u_T := fun k => match k with
  | 0 => ("DiamondRows$Sightings", "seenStep", "[I", true)
  | 1 => ("DiamondRows$Sightings", "seenFrom", "[I", true)
  | 2 => ("DiamondRows$Sightings", "seenTo", "[I", true)
  | 3 => ("DiamondRows$Sightings", "seenValue", "[I", true)
  | 4 => ("DiamondRows$Sightings", "timesRight", "[I", true)
  | 5 => ("DiamondRows$Sightings", "rightStep", "[I", true)
  | 6 => ("DiamondRows$Sightings", "rightOf", "[I", true)
  | 7 => ("DiamondRows$Sightings", "rightValue", "[I", true)
  | 8 => ("DiamondRows$Sightings", "knownValue", "[I", true)
  | 9 => ("DiamondRows$Sightings", "size", "I", false)
  | 10 => ("DiamondRows$Sightings", "rights", "I", false)
  | _ => ("DiamondRows$Sightings", "latest", "I", false)
def tyX7 : Nat → FieldType := fun k => match k with
  | 0 => .array .int
  | 1 => .array .int
  | 2 => .array .int
  | 3 => .array .int
  | 4 => .array .int
  | 5 => .array .int
  | 6 => .array .int
  | 7 => .array .int
  | 8 => .array .int
  | 9 => .int
  | 10 => .int
  | _ => .int
abbrev wsX70 : List Cond := u_ws RX7 TX7 12
theorem nmX7 : ∀ a, a < 12 → ∀ b, b < 12 → a ≠ b → (TX7 a).2.1 ≠ (TX7 b).2.1 := by decide +kernel
theorem tyX7_ok : ∀ k, k < 12 → parseFieldDescriptor (TX7 k).2.2.1 = some (tyX7 k) := by decide +kernel
abbrev cX7_init : ByteArray := prog_9_method_1_code
def yX7_init : MethodName := ⟨RX7, "<init>", "()V"⟩
abbrev cX7_size : ByteArray := prog_9_method_2_code
def yX7_size : MethodName := ⟨RX7, "size", "()I"⟩
abbrev cX7_rights : ByteArray := prog_9_method_3_code
def yX7_rights : MethodName := ⟨RX7, "rights", "()I"⟩
abbrev cX7_has : ByteArray := prog_9_method_4_code
def yX7_has : MethodName := ⟨RX7, "has", "(I)Z"⟩
abbrev cX7_wasSeenBefore : ByteArray := prog_9_method_5_code
def yX7_wasSeenBefore : MethodName := ⟨RX7, "wasSeenBefore", "(II)Z"⟩
abbrev cX7_canTell : ByteArray := prog_9_method_6_code
def yX7_canTell : MethodName := ⟨RX7, "canTell", "(I)Z"⟩
abbrev cX7_forget : ByteArray := prog_9_method_7_code
def yX7_forget : MethodName := ⟨RX7, "forget", "()V"⟩
abbrev cX7_add : ByteArray := prog_9_method_8_code
def yX7_add : MethodName := ⟨RX7, "add", "(IIII)I"⟩
abbrev cX7_putRight : ByteArray := prog_9_method_9_code
def yX7_putRight : MethodName := ⟨RX7, "putRight", "(III)I"⟩
abbrev cX7_recall : ByteArray := prog_9_method_10_code
def yX7_recall : MethodName := ⟨RX7, "recall", "(I)V"⟩
abbrev cX7_agreeWith : ByteArray := prog_9_method_11_code
def yX7_agreeWith : MethodName := ⟨RX7, "agreeWith", "(LDiamondRows$Polygon;I)Z"⟩
def RX8 : String := "DiamondRows$Tape"
def TX8 : u_T := fun k => match k with
  | 0 => ("DiamondRows$Tape", "bytes", "[B", true)
  | 1 => ("DiamondRows$Tape", "length", "I", false)
  | 2 => ("DiamondRows$Tape", "next", "I", false)
  | 3 => ("DiamondRows$Tape", "kind", "I", false)
  | 4 => ("DiamondRows$Tape", "place", "I", false)
  | _ => ("DiamondRows$Tape", "value", "I", false)
def tyX8 : Nat → FieldType := fun k => match k with
  | 0 => .array .byte
  | 1 => .int
  | 2 => .int
  | 3 => .int
  | 4 => .int
  | _ => .int
abbrev wsX80 : List Cond := u_ws RX8 TX8 6
theorem nmX8 : ∀ a, a < 6 → ∀ b, b < 6 → a ≠ b → (TX8 a).2.1 ≠ (TX8 b).2.1 := by decide +kernel
theorem tyX8_ok : ∀ k, k < 6 → parseFieldDescriptor (TX8 k).2.2.1 = some (tyX8 k) := by decide +kernel
abbrev cX8_init : ByteArray := prog_10_method_1_code
def yX8_init : MethodName := ⟨RX8, "<init>", "()V"⟩
abbrev cX8_size : ByteArray := prog_10_method_2_code
def yX8_size : MethodName := ⟨RX8, "size", "()I"⟩
abbrev cX8_kind : ByteArray := prog_10_method_3_code
def yX8_kind : MethodName := ⟨RX8, "kind", "()I"⟩
abbrev cX8_place : ByteArray := prog_10_method_4_code
def yX8_place : MethodName := ⟨RX8, "place", "()I"⟩
abbrev cX8_value : ByteArray := prog_10_method_5_code
def yX8_value : MethodName := ⟨RX8, "value", "()I"⟩
abbrev cX8_hasRoomForTwenty : ByteArray := prog_10_method_6_code
def yX8_hasRoomForTwenty : MethodName := ⟨RX8, "hasRoomForTwenty", "()Z"⟩
abbrev cX8_append : ByteArray := prog_10_method_7_code
def yX8_append : MethodName := ⟨RX8, "append", "(I)V"⟩
abbrev cX8_shorten : ByteArray := prog_10_method_8_code
def yX8_shorten : MethodName := ⟨RX8, "shorten", "(I)V"⟩
abbrev cX8_rewind : ByteArray := prog_10_method_9_code
def yX8_rewind : MethodName := ⟨RX8, "rewind", "()V"⟩
abbrev cX8_readToken : ByteArray := prog_10_method_10_code
def yX8_readToken : MethodName := ⟨RX8, "readToken", "()V"⟩
abbrev cX8_readWord : ByteArray := prog_10_method_11_code
def yX8_readWord : MethodName := ⟨RX8, "readWord", "()V"⟩
abbrev cX8_readNumber : ByteArray := prog_10_method_12_code
def yX8_readNumber : MethodName := ⟨RX8, "readNumber", "()V"⟩
abbrev cX8_isWord : ByteArray := prog_10_method_13_code
def yX8_isWord : MethodName := ⟨RX8, "isWord", "(Ljava/lang/String;)Z"⟩
abbrev cX8_readNumbers : ByteArray := prog_10_method_14_code
def yX8_readNumbers : MethodName := ⟨RX8, "readNumbers", "([I)I"⟩
abbrev cX8_isBlank : ByteArray := prog_10_method_15_code
def yX8_isBlank : MethodName := ⟨RX8, "isBlank", "(I)Z"⟩
abbrev cX8_isLetter : ByteArray := prog_10_method_16_code
def yX8_isLetter : MethodName := ⟨RX8, "isLetter", "(I)Z"⟩
abbrev cX8_isDigit : ByteArray := prog_10_method_17_code
def yX8_isDigit : MethodName := ⟨RX8, "isDigit", "(I)Z"⟩
def RX9 : String := "DiamondRows$Triangles"
def TX9 : u_T := fun k => match k with
  | 0 => ("DiamondRows$Triangles", "cornersOf", "[I", true)
  | 1 => ("DiamondRows$Triangles", "chosen", "[I", true)
  | 2 => ("DiamondRows$Triangles", "count", "I", false)
  | 3 => ("DiamondRows$Triangles", "polygon", "LDiamondRows$Polygon;", false)
  | 4 => ("DiamondRows$Triangles", "from", "I", false)
  | 5 => ("DiamondRows$Triangles", "length", "I", false)
  | _ => ("DiamondRows$Triangles", "waysAhead", "I", false)
def tyX9 : Nat → FieldType := fun k => match k with
  | 0 => .array .int
  | 1 => .array .int
  | 2 => .int
  | 3 => .object "DiamondRows$Polygon"
  | 4 => .int
  | 5 => .int
  | _ => .int
abbrev wsX90 : List Cond := u_ws RX9 TX9 7
theorem nmX9 : ∀ a, a < 7 → ∀ b, b < 7 → a ≠ b → (TX9 a).2.1 ≠ (TX9 b).2.1 := by decide +kernel
theorem tyX9_ok : ∀ k, k < 7 → parseFieldDescriptor (TX9 k).2.2.1 = some (tyX9 k) := by decide +kernel
abbrev cX9_init : ByteArray := prog_11_method_1_code
def yX9_init : MethodName := ⟨RX9, "<init>", "()V"⟩
abbrev cX9_gather : ByteArray := prog_11_method_2_code
def yX9_gather : MethodName := ⟨RX9, "gather", "(LDiamondRows$Polygon;I)V"⟩
abbrev cX9_gatherOn : ByteArray := prog_11_method_3_code
def yX9_gatherOn : MethodName := ⟨RX9, "gatherOn", "(LDiamondRows$Polygon;III)V"⟩
abbrev cX9_cornerOf : ByteArray := prog_11_method_4_code
def yX9_cornerOf : MethodName := ⟨RX9, "cornerOf", "(II)I"⟩
abbrev cX9_touches : ByteArray := prog_11_method_5_code
def yX9_touches : MethodName := ⟨RX9, "touches", "(II)Z"⟩
abbrev cX9_onWay : ByteArray := prog_11_method_6_code
def yX9_onWay : MethodName := ⟨RX9, "onWay", "(LDiamondRows$Polygon;IIII)I"⟩
abbrev cX9_choose : ByteArray := prog_11_method_7_code
def yX9_choose : MethodName := ⟨RX9, "choose", "(II)Z"⟩
def RX10 : String := "DiamondRows"
def TX10 : u_T := fun k => match k with
  | 0 => ("DiamondRows", "tape", "LDiamondRows$Tape;", true)
  | 1 => ("DiamondRows", "polygons", "LDiamondRows$Polygons;", true)
  | 2 => ("DiamondRows", "text", "LDiamondRows$CutText;", true)
  | 3 => ("DiamondRows", "triangles", "LDiamondRows$Triangles;", true)
  | 4 => ("DiamondRows", "crossedLines", "LDiamondRows$CrossedLines;", true)
  | 5 => ("DiamondRows", "flips", "LDiamondRows$Flips;", true)
  | 6 => ("DiamondRows", "endless", "LDiamondRows$Endless;", true)
  | 7 => ("DiamondRows", "sightings", "LDiamondRows$Sightings;", true)
  | 8 => ("DiamondRows", "fitting", "LDiamondRows$Fitting;", true)
  | 9 => ("DiamondRows", "toldRow", "[I", true)
  | 10 => ("DiamondRows", "polygon", "LDiamondRows$Polygon;", false)
  | 11 => ("DiamondRows", "bits", "I", false)
  | _ => ("DiamondRows", "mendedNumber", "I", false)
def tyX10 : Nat → FieldType := fun k => match k with
  | 0 => .object "DiamondRows$Tape"
  | 1 => .object "DiamondRows$Polygons"
  | 2 => .object "DiamondRows$CutText"
  | 3 => .object "DiamondRows$Triangles"
  | 4 => .object "DiamondRows$CrossedLines"
  | 5 => .object "DiamondRows$Flips"
  | 6 => .object "DiamondRows$Endless"
  | 7 => .object "DiamondRows$Sightings"
  | 8 => .object "DiamondRows$Fitting"
  | 9 => .array .int
  | 10 => .object "DiamondRows$Polygon"
  | 11 => .int
  | _ => .int
abbrev wsX100 : List Cond := u_ws RX10 TX10 13
theorem nmX10 : ∀ a, a < 13 → ∀ b, b < 13 → a ≠ b → (TX10 a).2.1 ≠ (TX10 b).2.1 := by decide +kernel
theorem tyX10_ok : ∀ k, k < 13 → parseFieldDescriptor (TX10 k).2.2.1 = some (tyX10 k) := by decide +kernel
abbrev cX10_init : ByteArray := prog_1_method_1_code
def yX10_init : MethodName := ⟨RX10, "<init>", "()V"⟩
abbrev cX10_feed : ByteArray := prog_1_method_2_code
def yX10_feed : MethodName := ⟨RX10, "feed", "(IIIII)I"⟩
abbrev cX10_end : ByteArray := prog_1_method_3_code
def yX10_end : MethodName := ⟨RX10, "end", "(I)I"⟩
abbrev cX10_cut : ByteArray := prog_1_method_4_code
def yX10_cut : MethodName := ⟨RX10, "cut", "()I"⟩
abbrev cX10_fault : ByteArray := prog_1_method_5_code
def yX10_fault : MethodName := ⟨RX10, "fault", "(I)I"⟩
abbrev cX10_take : ByteArray := prog_1_method_6_code
def yX10_take : MethodName := ⟨RX10, "take", "(II)I"⟩
abbrev cX10_told : ByteArray := prog_1_method_7_code
def yX10_told : MethodName := ⟨RX10, "told", "(I)I"⟩
abbrev cX10_triangle : ByteArray := prog_1_method_8_code
def yX10_triangle : MethodName := ⟨RX10, "triangle", "(II)I"⟩
abbrev cX10_entry : ByteArray := prog_1_method_9_code
def yX10_entry : MethodName := ⟨RX10, "entry", "(II)I"⟩
abbrev cX10_row : ByteArray := prog_1_method_10_code
def yX10_row : MethodName := ⟨RX10, "row", "(I)I"⟩
abbrev cX10_way : ByteArray := prog_1_method_11_code
def yX10_way : MethodName := ⟨RX10, "way", "(IIII)I"⟩
abbrev cX10_flip : ByteArray := prog_1_method_12_code
def yX10_flip : MethodName := ⟨RX10, "flip", "(II)I"⟩
abbrev cX10_fewest : ByteArray := prog_1_method_13_code
def yX10_fewest : MethodName := ⟨RX10, "fewest", "(I)I"⟩
abbrev cX10_passed : ByteArray := prog_1_method_14_code
def yX10_passed : MethodName := ⟨RX10, "passed", "(I)I"⟩
abbrev cX10_farthest : ByteArray := prog_1_method_15_code
def yX10_farthest : MethodName := ⟨RX10, "farthest", "(I)I"⟩
abbrev cX10_least : ByteArray := prog_1_method_16_code
def yX10_least : MethodName := ⟨RX10, "least", "(Z)I"⟩
abbrev cX10_kinds : ByteArray := prog_1_method_17_code
def yX10_kinds : MethodName := ⟨RX10, "kinds", "(IZ)I"⟩
abbrev cX10_read : ByteArray := prog_1_method_18_code
def yX10_read : MethodName := ⟨RX10, "read", "()I"⟩
abbrev cX10_mend : ByteArray := prog_1_method_19_code
def yX10_mend : MethodName := ⟨RX10, "mend", "()I"⟩
abbrev cX10_mended : ByteArray := prog_1_method_20_code
def yX10_mended : MethodName := ⟨RX10, "mended", "()I"⟩
abbrev cX10_crossed : ByteArray := prog_1_method_21_code
def yX10_crossed : MethodName := ⟨RX10, "crossed", "(III)I"⟩
abbrev cX10_side : ByteArray := prog_1_method_22_code
def yX10_side : MethodName := ⟨RX10, "side", "(III)I"⟩
abbrev cX10_greatest : ByteArray := prog_1_method_23_code
def yX10_greatest : MethodName := ⟨RX10, "greatest", "(II)I"⟩
abbrev cX10_spread : ByteArray := prog_1_method_24_code
def yX10_spread : MethodName := ⟨RX10, "spread", "(III)I"⟩
abbrev cX10_period : ByteArray := prog_1_method_25_code
def yX10_period : MethodName := ⟨RX10, "period", "()I"⟩
abbrev cX10_ofCut : ByteArray := prog_1_method_26_code
def yX10_ofCut : MethodName := ⟨RX10, "ofCut", "()I"⟩
abbrev cX10_of : ByteArray := prog_1_method_27_code
def yX10_of : MethodName := ⟨RX10, "of", "(I)I"⟩
abbrev cX10_along : ByteArray := prog_1_method_28_code
def yX10_along : MethodName := ⟨RX10, "along", "(II)J"⟩
abbrev cX10_breaks : ByteArray := prog_1_method_29_code
def yX10_breaks : MethodName := ⟨RX10, "breaks", "(I)I"⟩
abbrev cX10_growth : ByteArray := prog_1_method_30_code
def yX10_growth : MethodName := ⟨RX10, "growth", "()J"⟩
abbrev cX10_glue : ByteArray := prog_1_method_31_code
def yX10_glue : MethodName := ⟨RX10, "glue", "(I)I"⟩
abbrev cX10_cutOff : ByteArray := prog_1_method_32_code
def yX10_cutOff : MethodName := ⟨RX10, "cutOff", "(I)I"⟩
abbrev cX10_core : ByteArray := prog_1_method_33_code
def yX10_core : MethodName := ⟨RX10, "core", "()I"⟩
abbrev cX10_see : ByteArray := prog_1_method_34_code
def yX10_see : MethodName := ⟨RX10, "see", "(IIII)I"⟩
abbrev cX10_right : ByteArray := prog_1_method_35_code
def yX10_right : MethodName := ⟨RX10, "right", "(III)I"⟩
abbrev cX10_fit : ByteArray := prog_1_method_36_code
def yX10_fit : MethodName := ⟨RX10, "fit", "(II)I"⟩
abbrev cX10_surely : ByteArray := prog_1_method_37_code
def yX10_surely : MethodName := ⟨RX10, "surely", "(III)I"⟩
abbrev cX10_ask : ByteArray := prog_1_method_38_code
def yX10_ask : MethodName := ⟨RX10, "ask", "(I)I"⟩
abbrev cX10_count : ByteArray := prog_1_method_39_code
def yX10_count : MethodName := ⟨RX10, "count", "(I)I"⟩
abbrev cX10_become : ByteArray := prog_1_method_40_code
def yX10_become : MethodName := ⟨RX10, "become", "(LDiamondRows$Polygon;I)V"⟩
abbrev cX10_areCorners : ByteArray := prog_1_method_41_code
def yX10_areCorners : MethodName := ⟨RX10, "areCorners", "(II)Z"⟩
abbrev cX10_takeRow : ByteArray := prog_1_method_42_code
def yX10_takeRow : MethodName := ⟨RX10, "takeRow", "()Z"⟩
abbrev cX10_isStep : ByteArray := prog_1_method_43_code
def yX10_isStep : MethodName := ⟨RX10, "isStep", "(I)Z"⟩
abbrev cX10_isValue : ByteArray := prog_1_method_44_code
def yX10_isValue : MethodName := ⟨RX10, "isValue", "(I)Z"⟩
def RX11 : String := "DiamondRowsModel"
def TX11 : u_T := fun k => match k with
  | 0 => ("DiamondRowsModel", "tape", "[B", true)
  | 1 => ("DiamondRowsModel", "taped", "I", false)
  | 2 => ("DiamondRowsModel", "size", "I", false)
  | 3 => ("DiamondRowsModel", "sort", "I", false)
  | 4 => ("DiamondRowsModel", "at", "I", false)
  | 5 => ("DiamondRowsModel", "end", "I", false)
  | 6 => ("DiamondRowsModel", "number", "I", false)
  | 7 => ("DiamondRowsModel", "faultKind", "I", false)
  | 8 => ("DiamondRowsModel", "faultPlace", "I", false)
  | 9 => ("DiamondRowsModel", "word", "J", false)
  | 10 => ("DiamondRowsModel", "corners", "I", false)
  | 11 => ("DiamondRowsModel", "numberOf", "[I", true)
  | 12 => ("DiamondRowsModel", "lesser", "[I", true)
  | 13 => ("DiamondRowsModel", "greater", "[I", true)
  | 14 => ("DiamondRowsModel", "lines", "I", false)
  | 15 => ("DiamondRowsModel", "linesFor", "I", false)
  | 16 => ("DiamondRowsModel", "list", "[J", true)
  | 17 => ("DiamondRowsModel", "listMany", "I", false)
  | 18 => ("DiamondRowsModel", "listCorners", "I", false)
  | 19 => ("DiamondRowsModel", "own", "J", false)
  | 20 => ("DiamondRowsModel", "newCorners", "I", false)
  | 21 => ("DiamondRowsModel", "newCut", "J", false)
  | 22 => ("DiamondRowsModel", "tA", "[I", true)
  | 23 => ("DiamondRowsModel", "tB", "[I", true)
  | 24 => ("DiamondRowsModel", "tC", "[I", true)
  | 25 => ("DiamondRowsModel", "from", "[I", true)
  | 26 => ("DiamondRowsModel", "wayLeft", "I", false)
  | 27 => ("DiamondRowsModel", "wayAt", "[I", true)
  | 28 => ("DiamondRowsModel", "flipOne", "I", false)
  | 29 => ("DiamondRowsModel", "flipTwo", "I", false)
  | 30 => ("DiamondRowsModel", "far", "[I", true)
  | 31 => ("DiamondRowsModel", "queue", "[I", true)
  | 32 => ("DiamondRowsModel", "passedMany", "I", false)
  | 33 => ("DiamondRowsModel", "passedBy", "[I", true)
  | 34 => ("DiamondRowsModel", "rowMany", "I", false)
  | 35 => ("DiamondRowsModel", "told", "[I", true)
  | 36 => ("DiamondRowsModel", "mendedBy", "I", false)
  | 37 => ("DiamondRowsModel", "crossMany", "I", false)
  | 38 => ("DiamondRowsModel", "crossLine", "[I", true)
  | 39 => ("DiamondRowsModel", "crossFar", "[I", true)
  | 40 => ("DiamondRowsModel", "periodMany", "I", false)
  | 41 => ("DiamondRowsModel", "period", "[I", true)
  | 42 => ("DiamondRowsModel", "seenMany", "I", false)
  | 43 => ("DiamondRowsModel", "rightMany", "I", false)
  | 44 => ("DiamondRowsModel", "lastTold", "I", false)
  | 45 => ("DiamondRowsModel", "sTold", "[I", true)
  | 46 => ("DiamondRowsModel", "sOne", "[I", true)
  | 47 => ("DiamondRowsModel", "sTwo", "[I", true)
  | 48 => ("DiamondRowsModel", "sEntry", "[I", true)
  | 49 => ("DiamondRowsModel", "rTold", "[I", true)
  | 50 => ("DiamondRowsModel", "rOf", "[I", true)
  | 51 => ("DiamondRowsModel", "rEntry", "[I", true)
  | 52 => ("DiamondRowsModel", "fits", "[Z", true)
  | _ => ("DiamondRowsModel", "heaps", "[I", true)
def tyX11 : Nat → FieldType := fun k => match k with
  | 0 => .array .byte
  | 1 => .int
  | 2 => .int
  | 3 => .int
  | 4 => .int
  | 5 => .int
  | 6 => .int
  | 7 => .int
  | 8 => .int
  | 9 => .long
  | 10 => .int
  | 11 => .array .int
  | 12 => .array .int
  | 13 => .array .int
  | 14 => .int
  | 15 => .int
  | 16 => .array .long
  | 17 => .int
  | 18 => .int
  | 19 => .long
  | 20 => .int
  | 21 => .long
  | 22 => .array .int
  | 23 => .array .int
  | 24 => .array .int
  | 25 => .array .int
  | 26 => .int
  | 27 => .array .int
  | 28 => .int
  | 29 => .int
  | 30 => .array .int
  | 31 => .array .int
  | 32 => .int
  | 33 => .array .int
  | 34 => .int
  | 35 => .array .int
  | 36 => .int
  | 37 => .int
  | 38 => .array .int
  | 39 => .array .int
  | 40 => .int
  | 41 => .array .int
  | 42 => .int
  | 43 => .int
  | 44 => .int
  | 45 => .array .int
  | 46 => .array .int
  | 47 => .array .int
  | 48 => .array .int
  | 49 => .array .int
  | 50 => .array .int
  | 51 => .array .int
  | 52 => .array .boolean
  | _ => .array .int
abbrev wsX110 : List Cond := u_ws RX11 TX11 54
theorem nmX11 : ∀ a, a < 54 → ∀ b, b < 54 → a ≠ b → (TX11 a).2.1 ≠ (TX11 b).2.1 := by decide +kernel
theorem tyX11_ok : ∀ k, k < 54 → parseFieldDescriptor (TX11 k).2.2.1 = some (tyX11 k) := by decide +kernel
abbrev cX11_init : ByteArray := prog_13_method_1_code
def yX11_init : MethodName := ⟨RX11, "<init>", "()V"⟩
abbrev cX11_in : ByteArray := prog_13_method_2_code
def yX11_in : MethodName := ⟨RX11, "in", "(III)Z"⟩
abbrev cX11_feed : ByteArray := prog_13_method_3_code
def yX11_feed : MethodName := ⟨RX11, "feed", "(IIIII)I"⟩
abbrev cX11_end : ByteArray := prog_13_method_4_code
def yX11_end : MethodName := ⟨RX11, "end", "(I)I"⟩
abbrev cX11_byteAt : ByteArray := prog_13_method_5_code
def yX11_byteAt : MethodName := ⟨RX11, "byteAt", "(I)I"⟩
abbrev cX11_isSmall : ByteArray := prog_13_method_6_code
def yX11_isSmall : MethodName := ⟨RX11, "isSmall", "(I)Z"⟩
abbrev cX11_isDigit : ByteArray := prog_13_method_7_code
def yX11_isDigit : MethodName := ⟨RX11, "isDigit", "(I)Z"⟩
abbrev cX11_scan : ByteArray := prog_13_method_8_code
def yX11_scan : MethodName := ⟨RX11, "scan", "()V"⟩
abbrev cX11_begin : ByteArray := prog_13_method_9_code
def yX11_begin : MethodName := ⟨RX11, "begin", "()V"⟩
abbrev cX11_fails : ByteArray := prog_13_method_10_code
def yX11_fails : MethodName := ⟨RX11, "fails", "(I)Z"⟩
abbrev cX11_fault : ByteArray := prog_13_method_11_code
def yX11_fault : MethodName := ⟨RX11, "fault", "(I)I"⟩
abbrev cX11_isNext : ByteArray := prog_13_method_12_code
def yX11_isNext : MethodName := ⟨RX11, "isNext", "(III)Z"⟩
abbrev cX11_isLine : ByteArray := prog_13_method_13_code
def yX11_isLine : MethodName := ⟨RX11, "isLine", "(III)Z"⟩
abbrev cX11_linesOf : ByteArray := prog_13_method_14_code
def yX11_linesOf : MethodName := ⟨RX11, "linesOf", "(I)V"⟩
abbrev cX11_isBetween : ByteArray := prog_13_method_15_code
def yX11_isBetween : MethodName := ⟨RX11, "isBetween", "(IIII)Z"⟩
abbrev cX11_isCross : ByteArray := prog_13_method_16_code
def yX11_isCross : MethodName := ⟨RX11, "isCross", "(IIIII)Z"⟩
abbrev cX11_listFor : ByteArray := prog_13_method_17_code
def yX11_listFor : MethodName := ⟨RX11, "listFor", "(I)V"⟩
abbrev cX11_grow : ByteArray := prog_13_method_18_code
def yX11_grow : MethodName := ⟨RX11, "grow", "(IJII)V"⟩
abbrev cX11_placeOf : ByteArray := prog_13_method_19_code
def yX11_placeOf : MethodName := ⟨RX11, "placeOf", "(J)I"⟩
abbrev cX11_ownNumber : ByteArray := prog_13_method_20_code
def yX11_ownNumber : MethodName := ⟨RX11, "ownNumber", "()I"⟩
abbrev cX11_becomes : ByteArray := prog_13_method_21_code
def yX11_becomes : MethodName := ⟨RX11, "becomes", "(IJ)V"⟩
abbrev cX11_near : ByteArray := prog_13_method_22_code
def yX11_near : MethodName := ⟨RX11, "near", "(IJII)Z"⟩
abbrev cX11_readCorner : ByteArray := prog_13_method_23_code
def yX11_readCorner : MethodName := ⟨RX11, "readCorner", "()Z"⟩
abbrev cX11_readCut : ByteArray := prog_13_method_24_code
def yX11_readCut : MethodName := ⟨RX11, "readCut", "()Z"⟩
abbrev cX11_cut : ByteArray := prog_13_method_25_code
def yX11_cut : MethodName := ⟨RX11, "cut", "()I"⟩
abbrev cX11_take : ByteArray := prog_13_method_26_code
def yX11_take : MethodName := ⟨RX11, "take", "(II)I"⟩
abbrev cX11_told : ByteArray := prog_13_method_27_code
def yX11_told : MethodName := ⟨RX11, "told", "(I)I"⟩
abbrev cX11_isCorner : ByteArray := prog_13_method_28_code
def yX11_isCorner : MethodName := ⟨RX11, "isCorner", "(I)Z"⟩
abbrev cX11_trianglesOf : ByteArray := prog_13_method_29_code
def yX11_trianglesOf : MethodName := ⟨RX11, "trianglesOf", "(IJ)V"⟩
abbrev cX11_triangle : ByteArray := prog_13_method_30_code
def yX11_triangle : MethodName := ⟨RX11, "triangle", "(II)I"⟩
abbrev cX11_isAt : ByteArray := prog_13_method_31_code
def yX11_isAt : MethodName := ⟨RX11, "isAt", "(II)Z"⟩
abbrev cX11_entriesFrom : ByteArray := prog_13_method_32_code
def yX11_entriesFrom : MethodName := ⟨RX11, "entriesFrom", "(IJI)V"⟩
abbrev cX11_entryOf : ByteArray := prog_13_method_33_code
def yX11_entryOf : MethodName := ⟨RX11, "entryOf", "(IJII)I"⟩
abbrev cX11_entry : ByteArray := prog_13_method_34_code
def yX11_entry : MethodName := ⟨RX11, "entry", "(II)I"⟩
abbrev cX11_rowAt : ByteArray := prog_13_method_35_code
def yX11_rowAt : MethodName := ⟨RX11, "rowAt", "(IJI)I"⟩
abbrev cX11_row : ByteArray := prog_13_method_36_code
def yX11_row : MethodName := ⟨RX11, "row", "(I)I"⟩
abbrev cX11_isWay : ByteArray := prog_13_method_37_code
def yX11_isWay : MethodName := ⟨RX11, "isWay", "(IIII)Z"⟩
abbrev cX11_way : ByteArray := prog_13_method_38_code
def yX11_way : MethodName := ⟨RX11, "way", "(IIII)I"⟩
abbrev cX11_flipped : ByteArray := prog_13_method_39_code
def yX11_flipped : MethodName := ⟨RX11, "flipped", "(IJII)J"⟩
abbrev cX11_flip : ByteArray := prog_13_method_40_code
def yX11_flip : MethodName := ⟨RX11, "flip", "(II)I"⟩
abbrev cX11_spreadFrom : ByteArray := prog_13_method_41_code
def yX11_spreadFrom : MethodName := ⟨RX11, "spreadFrom", "(I)V"⟩
abbrev cX11_fewest : ByteArray := prog_13_method_42_code
def yX11_fewest : MethodName := ⟨RX11, "fewest", "(I)I"⟩
abbrev cX11_passed : ByteArray := prog_13_method_43_code
def yX11_passed : MethodName := ⟨RX11, "passed", "(I)I"⟩
abbrev cX11_farthest : ByteArray := prog_13_method_44_code
def yX11_farthest : MethodName := ⟨RX11, "farthest", "(I)I"⟩
abbrev cX11_turned : ByteArray := prog_13_method_45_code
def yX11_turned : MethodName := ⟨RX11, "turned", "(IJIZ)J"⟩
abbrev cX11_leastOf : ByteArray := prog_13_method_46_code
def yX11_leastOf : MethodName := ⟨RX11, "leastOf", "(IJZ)J"⟩
abbrev cX11_least : ByteArray := prog_13_method_47_code
def yX11_least : MethodName := ⟨RX11, "least", "(Z)I"⟩
abbrev cX11_kinds : ByteArray := prog_13_method_48_code
def yX11_kinds : MethodName := ⟨RX11, "kinds", "(IZ)I"⟩
abbrev cX11_readRow : ByteArray := prog_13_method_49_code
def yX11_readRow : MethodName := ⟨RX11, "readRow", "()I"⟩
abbrev cX11_apart : ByteArray := prog_13_method_50_code
def yX11_apart : MethodName := ⟨RX11, "apart", "(J)I"⟩
abbrev cX11_nearest : ByteArray := prog_13_method_51_code
def yX11_nearest : MethodName := ⟨RX11, "nearest", "()I"⟩
abbrev cX11_read : ByteArray := prog_13_method_52_code
def yX11_read : MethodName := ⟨RX11, "read", "()I"⟩
abbrev cX11_mend : ByteArray := prog_13_method_53_code
def yX11_mend : MethodName := ⟨RX11, "mend", "()I"⟩
abbrev cX11_mended : ByteArray := prog_13_method_54_code
def yX11_mended : MethodName := ⟨RX11, "mended", "()I"⟩
abbrev cX11_cross : ByteArray := prog_13_method_55_code
def yX11_cross : MethodName := ⟨RX11, "cross", "(II)V"⟩
abbrev cX11_crossed : ByteArray := prog_13_method_56_code
def yX11_crossed : MethodName := ⟨RX11, "crossed", "(III)I"⟩
abbrev cX11_side : ByteArray := prog_13_method_57_code
def yX11_side : MethodName := ⟨RX11, "side", "(III)I"⟩
abbrev cX11_greatest : ByteArray := prog_13_method_58_code
def yX11_greatest : MethodName := ⟨RX11, "greatest", "(II)I"⟩
abbrev cX11_spread : ByteArray := prog_13_method_59_code
def yX11_spread : MethodName := ⟨RX11, "spread", "(III)I"⟩
abbrev cX11_period : ByteArray := prog_13_method_60_code
def yX11_period : MethodName := ⟨RX11, "period", "()I"⟩
abbrev cX11_ofCut : ByteArray := prog_13_method_61_code
def yX11_ofCut : MethodName := ⟨RX11, "ofCut", "()I"⟩
abbrev cX11_of : ByteArray := prog_13_method_62_code
def yX11_of : MethodName := ⟨RX11, "of", "(I)I"⟩
abbrev cX11_alongOf : ByteArray := prog_13_method_63_code
def yX11_alongOf : MethodName := ⟨RX11, "alongOf", "(II)J"⟩
abbrev cX11_along : ByteArray := prog_13_method_64_code
def yX11_along : MethodName := ⟨RX11, "along", "(II)J"⟩
abbrev cX11_isAll : ByteArray := prog_13_method_65_code
def yX11_isAll : MethodName := ⟨RX11, "isAll", "(IJ)Z"⟩
abbrev cX11_breaks : ByteArray := prog_13_method_66_code
def yX11_breaks : MethodName := ⟨RX11, "breaks", "(I)I"⟩
abbrev cX11_growth : ByteArray := prog_13_method_67_code
def yX11_growth : MethodName := ⟨RX11, "growth", "()J"⟩
abbrev cX11_glue : ByteArray := prog_13_method_68_code
def yX11_glue : MethodName := ⟨RX11, "glue", "(I)I"⟩
abbrev cX11_isOff : ByteArray := prog_13_method_69_code
def yX11_isOff : MethodName := ⟨RX11, "isOff", "(I)Z"⟩
abbrev cX11_off : ByteArray := prog_13_method_70_code
def yX11_off : MethodName := ⟨RX11, "off", "(I)V"⟩
abbrev cX11_cutOff : ByteArray := prog_13_method_71_code
def yX11_cutOff : MethodName := ⟨RX11, "cutOff", "(I)I"⟩
abbrev cX11_core : ByteArray := prog_13_method_72_code
def yX11_core : MethodName := ⟨RX11, "core", "()I"⟩
abbrev cX11_see : ByteArray := prog_13_method_73_code
def yX11_see : MethodName := ⟨RX11, "see", "(IIII)I"⟩
abbrev cX11_right : ByteArray := prog_13_method_74_code
def yX11_right : MethodName := ⟨RX11, "right", "(III)I"⟩
abbrev cX11_isFit : ByteArray := prog_13_method_75_code
def yX11_isFit : MethodName := ⟨RX11, "isFit", "(JI)Z"⟩
abbrev cX11_makeFits : ByteArray := prog_13_method_76_code
def yX11_makeFits : MethodName := ⟨RX11, "makeFits", "(I)I"⟩
abbrev cX11_fit : ByteArray := prog_13_method_77_code
def yX11_fit : MethodName := ⟨RX11, "fit", "(II)I"⟩
abbrev cX11_surely : ByteArray := prog_13_method_78_code
def yX11_surely : MethodName := ⟨RX11, "surely", "(III)I"⟩
abbrev cX11_ask : ByteArray := prog_13_method_79_code
def yX11_ask : MethodName := ⟨RX11, "ask", "(I)I"⟩
abbrev cX11_count : ByteArray := prog_13_method_80_code
def yX11_count : MethodName := ⟨RX11, "count", "(I)I"⟩
def RJ6 : String := "java/lang/Integer"
def TJ6 : u_T := fun k => match k with
  | _ => ("", "", "", false)
def tyJ6 : Nat → FieldType := fun k => match k with
  | _ => .int
abbrev wsJ60 : List Cond := u_ws RJ6 TJ6 0
theorem nmJ6 : ∀ a, a < 0 → ∀ b, b < 0 → a ≠ b → (TJ6 a).2.1 ≠ (TJ6 b).2.1 := by decide +kernel
theorem tyJ6_ok : ∀ k, k < 0 → parseFieldDescriptor (TJ6 k).2.2.1 = some (tyJ6 k) := by decide +kernel
abbrev cJ6_bitCount_0f7a4 : ByteArray := prog_14_method_49_code
def yJ6_bitCount_0f7a4 : MethodName := ⟨RJ6, "bitCount", "(I)I"⟩
def RJ9 : String := "java/lang/Math"
def TJ9 : u_T := fun k => match k with
  | _ => ("", "", "", false)
def tyJ9 : Nat → FieldType := fun k => match k with
  | _ => .int
abbrev wsJ90 : List Cond := u_ws RJ9 TJ9 0
theorem nmJ9 : ∀ a, a < 0 → ∀ b, b < 0 → a ≠ b → (TJ9 a).2.1 ≠ (TJ9 b).2.1 := by decide +kernel
theorem tyJ9_ok : ∀ k, k < 0 → parseFieldDescriptor (TJ9 k).2.2.1 = some (tyJ9 k) := by decide +kernel
abbrev cJ9_floorMod_7cf53 : ByteArray := prog_15_method_50_code
def yJ9_floorMod_7cf53 : MethodName := ⟨RJ9, "floorMod", "(II)I"⟩
abbrev cJ9_abs_0f7a4 : ByteArray := prog_15_method_59_code
def yJ9_abs_0f7a4 : MethodName := ⟨RJ9, "abs", "(I)I"⟩
abbrev cJ9_max_7cf53 : ByteArray := prog_15_method_65_code
def yJ9_max_7cf53 : MethodName := ⟨RJ9, "max", "(II)I"⟩
abbrev cJ9_min_7cf53 : ByteArray := prog_15_method_69_code
def yJ9_min_7cf53 : MethodName := ⟨RJ9, "min", "(II)I"⟩
def RJ0 : String := "java/lang/String"
def TJ0 : u_T := fun k => match k with
  | _ => ("", "", "", false)
def tyJ0 : Nat → FieldType := fun k => match k with
  | _ => .int
abbrev wsJ00 : List Cond := u_ws RJ0 TJ0 0
theorem nmJ0 : ∀ a, a < 0 → ∀ b, b < 0 → a ≠ b → (TJ0 a).2.1 ≠ (TJ0 b).2.1 := by decide +kernel
theorem tyJ0_ok : ∀ k, k < 0 → parseFieldDescriptor (TJ0 k).2.2.1 = some (tyJ0 k) := by decide +kernel
abbrev cJ0_length_8abf5 : ByteArray := prog_16_method_54_code
def yJ0_length_8abf5 : MethodName := ⟨RJ0, "length", "()I"⟩
abbrev cJ0_charAt_5068e : ByteArray := prog_16_method_56_code
def yJ0_charAt_5068e : MethodName := ⟨RJ0, "charAt", "(I)C"⟩
abbrev cJ0_coder_7d493 : ByteArray := prog_16_method_152_code
def yJ0_coder_7d493 : MethodName := ⟨RJ0, "coder", "()B"⟩
abbrev cJ0_isLatin1_aae02 : ByteArray := prog_16_method_154_code
def yJ0_isLatin1_aae02 : MethodName := ⟨RJ0, "isLatin1", "()Z"⟩
abbrev cJ0_checkIndex_df160 : ByteArray := prog_16_method_155_code
def yJ0_checkIndex_df160 : MethodName := ⟨RJ0, "checkIndex", "(II)V"⟩
def RJ1 : String := "java/lang/StringLatin1"
def TJ1 : u_T := fun k => match k with
  | _ => ("", "", "", false)
def tyJ1 : Nat → FieldType := fun k => match k with
  | _ => .int
abbrev wsJ10 : List Cond := u_ws RJ1 TJ1 0
theorem nmJ1 : ∀ a, a < 0 → ∀ b, b < 0 → a ≠ b → (TJ1 a).2.1 ≠ (TJ1 b).2.1 := by decide +kernel
theorem tyJ1_ok : ∀ k, k < 0 → parseFieldDescriptor (TJ1 k).2.2.1 = some (tyJ1 k) := by decide +kernel
abbrev cJ1_charAt_3b067 : ByteArray := prog_17_method_2_code
def yJ1_charAt_3b067 : MethodName := ⟨RJ1, "charAt", "([BI)C"⟩
def RJ2 : String := "java/lang/StringUTF16"
def TJ2 : u_T := fun k => match k with
  | _ => ("", "", "", false)
def tyJ2 : Nat → FieldType := fun k => match k with
  | _ => .int
abbrev wsJ20 : List Cond := u_ws RJ2 TJ2 0
theorem nmJ2 : ∀ a, a < 0 → ∀ b, b < 0 → a ≠ b → (TJ2 a).2.1 ≠ (TJ2 b).2.1 := by decide +kernel
theorem tyJ2_ok : ∀ k, k < 0 → parseFieldDescriptor (TJ2 k).2.2.1 = some (tyJ2 k) := by decide +kernel
abbrev cJ2_getChar_3b067 : ByteArray := prog_18_method_5_code
def yJ2_getChar_3b067 : MethodName := ⟨RJ2, "getChar", "([BI)C"⟩
abbrev cJ2_length_9d52b : ByteArray := prog_18_method_6_code
def yJ2_length_9d52b : MethodName := ⟨RJ2, "length", "([B)I"⟩
abbrev cJ2_charAt_3b067 : ByteArray := prog_18_method_83_code
def yJ2_charAt_3b067 : MethodName := ⟨RJ2, "charAt", "([BI)C"⟩
abbrev cJ2_checkIndex_2214a : ByteArray := prog_18_method_91_code
def yJ2_checkIndex_2214a : MethodName := ⟨RJ2, "checkIndex", "(I[B)V"⟩
def RJ3 : String := "jdk/internal/util/Preconditions"
def TJ3 : u_T := fun k => match k with
  | _ => ("", "", "", false)
def tyJ3 : Nat → FieldType := fun k => match k with
  | _ => .int
abbrev wsJ30 : List Cond := u_ws RJ3 TJ3 0
theorem nmJ3 : ∀ a, a < 0 → ∀ b, b < 0 → a ≠ b → (TJ3 a).2.1 ≠ (TJ3 b).2.1 := by decide +kernel
theorem tyJ3_ok : ∀ k, k < 0 → parseFieldDescriptor (TJ3 k).2.2.1 = some (tyJ3 k) := by decide +kernel
abbrev cJ3_checkIndex_8e157 : ByteArray := prog_19_method_11_code
def yJ3_checkIndex_8e157 : MethodName := ⟨RJ3, "checkIndex", "(IILjava/util/function/BiFunction;)I"⟩
def RL : String := "DiamondRowsLaw"
abbrev cL_law : ByteArray := code
def yL_law : MethodName := ⟨RL, "law", "([I)Z"⟩
abbrev vwCl : List vw_C := [(RX0, TX0, 2), (RX1, TX1, 6), (RX2, TX2, 2), (RX3, TX3, 3), (RX4, TX4, 5), (RX5, TX5, 9), (RX6, TX6, 1), (RX7, TX7, 12), (RX8, TX8, 6), (RX9, TX9, 7), (RX10, TX10, 13), (RX11, TX11, 54)]
