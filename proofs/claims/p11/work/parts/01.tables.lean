section
-- ===== PART A: goes FIRST, ahead of the names: the tables' words, and 'selects' of the private methods out of them =====
/-- a private method of a class that the tables say can be made, by its rows of tables_1 -/
def lw_okq (q : MethodName × Nat) : Prop := (q.1.cls ≠ "java/lang/invoke/MethodHandle" ∧ q.1.cls ≠ "java/lang/invoke/VarHandle") ∧ Cond.instantiable q.1.cls q.2 ∈ tables_1 ∧ Cond.privateMethod q.1 ∈ tables_1 ∧ Cond.instanceMethod q.1 ∈ tables_1
theorem lw_p0 : lw_okq (⟨"DiamondRows$Polygon", "numberLines", "()V"⟩, 9) := ⟨⟨by decide +kernel, by decide +kernel⟩, List.mem_of_getElem? (i := 230) (by decide +kernel), List.mem_of_getElem? (i := 236) (by decide +kernel), List.mem_of_getElem? (i := 237) (by decide +kernel)⟩
theorem lw_p1 : lw_okq (⟨"DiamondRows$Polygon", "numberLine", "(II)V"⟩, 9) := ⟨⟨by decide +kernel, by decide +kernel⟩, List.mem_of_getElem? (i := 230) (by decide +kernel), List.mem_of_getElem? (i := 240) (by decide +kernel), List.mem_of_getElem? (i := 241) (by decide +kernel)⟩
theorem lw_p2 : lw_okq (⟨"DiamondRows$Polygon", "findCrossers", "()V"⟩, 9) := ⟨⟨by decide +kernel, by decide +kernel⟩, List.mem_of_getElem? (i := 230) (by decide +kernel), List.mem_of_getElem? (i := 244) (by decide +kernel), List.mem_of_getElem? (i := 245) (by decide +kernel)⟩
theorem lw_p3 : lw_okq (⟨"DiamondRows$Polygon", "gatherCuts", "(IIII)V"⟩, 9) := ⟨⟨by decide +kernel, by decide +kernel⟩, List.mem_of_getElem? (i := 230) (by decide +kernel), List.mem_of_getElem? (i := 251) (by decide +kernel), List.mem_of_getElem? (i := 252) (by decide +kernel)⟩
theorem lw_p4 : lw_okq (⟨"DiamondRows$Polygon", "keepCut", "(I)V"⟩, 9) := ⟨⟨by decide +kernel, by decide +kernel⟩, List.mem_of_getElem? (i := 230) (by decide +kernel), List.mem_of_getElem? (i := 255) (by decide +kernel), List.mem_of_getElem? (i := 256) (by decide +kernel)⟩
theorem lw_p5 : lw_okq (⟨"DiamondRows$Tape", "readWord", "()V"⟩, 6) := ⟨⟨by decide +kernel, by decide +kernel⟩, List.mem_of_getElem? (i := 28) (by decide +kernel), List.mem_of_getElem? (i := 387) (by decide +kernel), List.mem_of_getElem? (i := 388) (by decide +kernel)⟩
theorem lw_p6 : lw_okq (⟨"DiamondRows$Tape", "readNumber", "()V"⟩, 6) := ⟨⟨by decide +kernel, by decide +kernel⟩, List.mem_of_getElem? (i := 28) (by decide +kernel), List.mem_of_getElem? (i := 394) (by decide +kernel), List.mem_of_getElem? (i := 395) (by decide +kernel)⟩
theorem lw_p7 : lw_okq (⟨"DiamondRows$CutText", "takeToken", "(LDiamondRows$Tape;LDiamondRows$Polygons;)I"⟩, 6) := ⟨⟨by decide +kernel, by decide +kernel⟩, List.mem_of_getElem? (i := 66) (by decide +kernel), List.mem_of_getElem? (i := 398) (by decide +kernel), List.mem_of_getElem? (i := 399) (by decide +kernel)⟩
theorem lw_p8 : lw_okq (⟨"DiamondRows$CutText", "takeFirst", "(LDiamondRows$Tape;)I"⟩, 6) := ⟨⟨by decide +kernel, by decide +kernel⟩, List.mem_of_getElem? (i := 66) (by decide +kernel), List.mem_of_getElem? (i := 464) (by decide +kernel), List.mem_of_getElem? (i := 465) (by decide +kernel)⟩
theorem lw_p9 : lw_okq (⟨"DiamondRows$CutText", "takeSecond", "(I)I"⟩, 6) := ⟨⟨by decide +kernel, by decide +kernel⟩, List.mem_of_getElem? (i := 66) (by decide +kernel), List.mem_of_getElem? (i := 477) (by decide +kernel), List.mem_of_getElem? (i := 478) (by decide +kernel)⟩
theorem lw_p10 : lw_okq (⟨"DiamondRows$Polygon", "hasLine", "(I)Z"⟩, 9) := ⟨⟨by decide +kernel, by decide +kernel⟩, List.mem_of_getElem? (i := 230) (by decide +kernel), List.mem_of_getElem? (i := 490) (by decide +kernel), List.mem_of_getElem? (i := 491) (by decide +kernel)⟩
theorem lw_p11 : lw_okq (⟨"DiamondRows", "become", "(LDiamondRows$Polygon;I)V"⟩, 13) := ⟨⟨by decide +kernel, by decide +kernel⟩, List.mem_of_getElem? (i := 20) (by decide +kernel), List.mem_of_getElem? (i := 510) (by decide +kernel), List.mem_of_getElem? (i := 511) (by decide +kernel)⟩
theorem lw_p12 : lw_okq (⟨"DiamondRows$Triangles", "gatherOn", "(LDiamondRows$Polygon;III)V"⟩, 7) := ⟨⟨by decide +kernel, by decide +kernel⟩, List.mem_of_getElem? (i := 91) (by decide +kernel), List.mem_of_getElem? (i := 574) (by decide +kernel), List.mem_of_getElem? (i := 575) (by decide +kernel)⟩
theorem lw_p13 : lw_okq (⟨"DiamondRows", "areCorners", "(II)Z"⟩, 13) := ⟨⟨by decide +kernel, by decide +kernel⟩, List.mem_of_getElem? (i := 20) (by decide +kernel), List.mem_of_getElem? (i := 586) (by decide +kernel), List.mem_of_getElem? (i := 587) (by decide +kernel)⟩
theorem lw_p14 : lw_okq (⟨"DiamondRows$Triangles", "choose", "(II)Z"⟩, 7) := ⟨⟨by decide +kernel, by decide +kernel⟩, List.mem_of_getElem? (i := 91) (by decide +kernel), List.mem_of_getElem? (i := 623) (by decide +kernel), List.mem_of_getElem? (i := 624) (by decide +kernel)⟩
theorem lw_p15 : lw_okq (⟨"DiamondRows$Triangles", "touches", "(II)Z"⟩, 7) := ⟨⟨by decide +kernel, by decide +kernel⟩, List.mem_of_getElem? (i := 91) (by decide +kernel), List.mem_of_getElem? (i := 627) (by decide +kernel), List.mem_of_getElem? (i := 628) (by decide +kernel)⟩
def lw_privs_1 : List (MethodName × Nat) := [(⟨"DiamondRows$Polygon", "numberLines", "()V"⟩, 9), (⟨"DiamondRows$Polygon", "numberLine", "(II)V"⟩, 9), (⟨"DiamondRows$Polygon", "findCrossers", "()V"⟩, 9), (⟨"DiamondRows$Polygon", "gatherCuts", "(IIII)V"⟩, 9), (⟨"DiamondRows$Polygon", "keepCut", "(I)V"⟩, 9), (⟨"DiamondRows$Tape", "readWord", "()V"⟩, 6), (⟨"DiamondRows$Tape", "readNumber", "()V"⟩, 6), (⟨"DiamondRows$CutText", "takeToken", "(LDiamondRows$Tape;LDiamondRows$Polygons;)I"⟩, 6), (⟨"DiamondRows$CutText", "takeFirst", "(LDiamondRows$Tape;)I"⟩, 6), (⟨"DiamondRows$CutText", "takeSecond", "(I)I"⟩, 6), (⟨"DiamondRows$Polygon", "hasLine", "(I)Z"⟩, 9), (⟨"DiamondRows", "become", "(LDiamondRows$Polygon;I)V"⟩, 13), (⟨"DiamondRows$Triangles", "gatherOn", "(LDiamondRows$Polygon;III)V"⟩, 7), (⟨"DiamondRows", "areCorners", "(II)Z"⟩, 13), (⟨"DiamondRows$Triangles", "choose", "(II)Z"⟩, 7), (⟨"DiamondRows$Triangles", "touches", "(II)Z"⟩, 7)]
theorem lw_r1 : ∀ q ∈ lw_privs_1, lw_okq q := List.forall_mem_cons.mpr ⟨lw_p0, List.forall_mem_cons.mpr ⟨lw_p1, List.forall_mem_cons.mpr ⟨lw_p2, List.forall_mem_cons.mpr ⟨lw_p3, List.forall_mem_cons.mpr ⟨lw_p4, List.forall_mem_cons.mpr ⟨lw_p5, List.forall_mem_cons.mpr ⟨lw_p6, List.forall_mem_cons.mpr ⟨lw_p7, List.forall_mem_cons.mpr ⟨lw_p8, List.forall_mem_cons.mpr ⟨lw_p9, List.forall_mem_cons.mpr ⟨lw_p10, List.forall_mem_cons.mpr ⟨lw_p11, List.forall_mem_cons.mpr ⟨lw_p12, List.forall_mem_cons.mpr ⟨lw_p13, List.forall_mem_cons.mpr ⟨lw_p14, List.forall_mem_cons.mpr ⟨lw_p15, fun _ h => absurd h List.not_mem_nil⟩⟩⟩⟩⟩⟩⟩⟩⟩⟩⟩⟩⟩⟩⟩⟩
theorem lw_p16 : lw_okq (⟨"DiamondRows$Flips", "comeTo", "(II)V"⟩, 5) := ⟨⟨by decide +kernel, by decide +kernel⟩, List.mem_of_getElem? (i := 133) (by decide +kernel), List.mem_of_getElem? (i := 658) (by decide +kernel), List.mem_of_getElem? (i := 659) (by decide +kernel)⟩
theorem lw_p17 : lw_okq (⟨"DiamondRows$Flips", "stepsTo", "(I)I"⟩, 5) := ⟨⟨by decide +kernel, by decide +kernel⟩, List.mem_of_getElem? (i := 133) (by decide +kernel), List.mem_of_getElem? (i := 673) (by decide +kernel), List.mem_of_getElem? (i := 674) (by decide +kernel)⟩
theorem lw_p18 : lw_okq (⟨"DiamondRows$Flips", "leastNearer", "(LDiamondRows$Polygon;I)I"⟩, 5) := ⟨⟨by decide +kernel, by decide +kernel⟩, List.mem_of_getElem? (i := 133) (by decide +kernel), List.mem_of_getElem? (i := 677) (by decide +kernel), List.mem_of_getElem? (i := 678) (by decide +kernel)⟩
theorem lw_p19 : lw_okq (⟨"DiamondRows$Polygon", "leastTurned", "(I)I"⟩, 9) := ⟨⟨by decide +kernel, by decide +kernel⟩, List.mem_of_getElem? (i := 230) (by decide +kernel), List.mem_of_getElem? (i := 712) (by decide +kernel), List.mem_of_getElem? (i := 713) (by decide +kernel)⟩
theorem lw_p20 : lw_okq (⟨"DiamondRows$Polygon", "moved", "(IZ)I"⟩, 9) := ⟨⟨by decide +kernel, by decide +kernel⟩, List.mem_of_getElem? (i := 230) (by decide +kernel), List.mem_of_getElem? (i := 716) (by decide +kernel), List.mem_of_getElem? (i := 717) (by decide +kernel)⟩
theorem lw_p21 : lw_okq (⟨"DiamondRows$Polygon", "movedCorner", "(IZ)I"⟩, 9) := ⟨⟨by decide +kernel, by decide +kernel⟩, List.mem_of_getElem? (i := 230) (by decide +kernel), List.mem_of_getElem? (i := 720) (by decide +kernel), List.mem_of_getElem? (i := 721) (by decide +kernel)⟩
theorem lw_p22 : lw_okq (⟨"DiamondRows$Polygon", "neverTurnsBelow", "(II)Z"⟩, 9) := ⟨⟨by decide +kernel, by decide +kernel⟩, List.mem_of_getElem? (i := 230) (by decide +kernel), List.mem_of_getElem? (i := 732) (by decide +kernel), List.mem_of_getElem? (i := 733) (by decide +kernel)⟩
theorem lw_p23 : lw_okq (⟨"DiamondRows", "takeRow", "()Z"⟩, 13) := ⟨⟨by decide +kernel, by decide +kernel⟩, List.mem_of_getElem? (i := 20) (by decide +kernel), List.mem_of_getElem? (i := 740) (by decide +kernel), List.mem_of_getElem? (i := 741) (by decide +kernel)⟩
theorem lw_p24 : lw_okq (⟨"DiamondRows$Polygon", "greatestFrom", "(II)I"⟩, 9) := ⟨⟨by decide +kernel, by decide +kernel⟩, List.mem_of_getElem? (i := 230) (by decide +kernel), List.mem_of_getElem? (i := 823) (by decide +kernel), List.mem_of_getElem? (i := 824) (by decide +kernel)⟩
theorem lw_p25 : lw_okq (⟨"DiamondRows$Endless", "wrapped", "(I)I"⟩, 2) := ⟨⟨by decide +kernel, by decide +kernel⟩, List.mem_of_getElem? (i := 155) (by decide +kernel), List.mem_of_getElem? (i := 866) (by decide +kernel), List.mem_of_getElem? (i := 867) (by decide +kernel)⟩
theorem lw_p26 : lw_okq (⟨"DiamondRows$Endless", "allAre", "(IJ)Z"⟩, 2) := ⟨⟨by decide +kernel, by decide +kernel⟩, List.mem_of_getElem? (i := 155) (by decide +kernel), List.mem_of_getElem? (i := 901) (by decide +kernel), List.mem_of_getElem? (i := 902) (by decide +kernel)⟩
theorem lw_p27 : lw_okq (⟨"DiamondRows$Endless", "firstOne", "()I"⟩, 2) := ⟨⟨by decide +kernel, by decide +kernel⟩, List.mem_of_getElem? (i := 155) (by decide +kernel), List.mem_of_getElem? (i := 949) (by decide +kernel), List.mem_of_getElem? (i := 950) (by decide +kernel)⟩
theorem lw_p28 : lw_okq (⟨"DiamondRows$Sightings", "has", "(I)Z"⟩, 12) := ⟨⟨by decide +kernel, by decide +kernel⟩, List.mem_of_getElem? (i := 168) (by decide +kernel), List.mem_of_getElem? (i := 977) (by decide +kernel), List.mem_of_getElem? (i := 978) (by decide +kernel)⟩
theorem lw_p29 : lw_okq (⟨"DiamondRows$Fitting", "mostAgreeing", "(LDiamondRows$Polygon;II)I"⟩, 3) := ⟨⟨by decide +kernel, by decide +kernel⟩, List.mem_of_getElem? (i := 211) (by decide +kernel), List.mem_of_getElem? (i := 1035) (by decide +kernel), List.mem_of_getElem? (i := 1036) (by decide +kernel)⟩
theorem lw_p30 : lw_okq (⟨"DiamondRowsModel", "listFor", "(I)V"⟩, 54) := ⟨⟨by decide +kernel, by decide +kernel⟩, List.mem_of_getElem? (i := 1054) (by decide +kernel), List.mem_of_getElem? (i := 1060) (by decide +kernel), List.mem_of_getElem? (i := 1061) (by decide +kernel)⟩
theorem lw_p31 : lw_okq (⟨"DiamondRowsModel", "linesOf", "(I)V"⟩, 54) := ⟨⟨by decide +kernel, by decide +kernel⟩, List.mem_of_getElem? (i := 1054) (by decide +kernel), List.mem_of_getElem? (i := 1064) (by decide +kernel), List.mem_of_getElem? (i := 1065) (by decide +kernel)⟩
def lw_privs_2 : List (MethodName × Nat) := [(⟨"DiamondRows$Flips", "comeTo", "(II)V"⟩, 5), (⟨"DiamondRows$Flips", "stepsTo", "(I)I"⟩, 5), (⟨"DiamondRows$Flips", "leastNearer", "(LDiamondRows$Polygon;I)I"⟩, 5), (⟨"DiamondRows$Polygon", "leastTurned", "(I)I"⟩, 9), (⟨"DiamondRows$Polygon", "moved", "(IZ)I"⟩, 9), (⟨"DiamondRows$Polygon", "movedCorner", "(IZ)I"⟩, 9), (⟨"DiamondRows$Polygon", "neverTurnsBelow", "(II)Z"⟩, 9), (⟨"DiamondRows", "takeRow", "()Z"⟩, 13), (⟨"DiamondRows$Polygon", "greatestFrom", "(II)I"⟩, 9), (⟨"DiamondRows$Endless", "wrapped", "(I)I"⟩, 2), (⟨"DiamondRows$Endless", "allAre", "(IJ)Z"⟩, 2), (⟨"DiamondRows$Endless", "firstOne", "()I"⟩, 2), (⟨"DiamondRows$Sightings", "has", "(I)Z"⟩, 12), (⟨"DiamondRows$Fitting", "mostAgreeing", "(LDiamondRows$Polygon;II)I"⟩, 3), (⟨"DiamondRowsModel", "listFor", "(I)V"⟩, 54), (⟨"DiamondRowsModel", "linesOf", "(I)V"⟩, 54)]
theorem lw_r2 : ∀ q ∈ lw_privs_2, lw_okq q := List.forall_mem_cons.mpr ⟨lw_p16, List.forall_mem_cons.mpr ⟨lw_p17, List.forall_mem_cons.mpr ⟨lw_p18, List.forall_mem_cons.mpr ⟨lw_p19, List.forall_mem_cons.mpr ⟨lw_p20, List.forall_mem_cons.mpr ⟨lw_p21, List.forall_mem_cons.mpr ⟨lw_p22, List.forall_mem_cons.mpr ⟨lw_p23, List.forall_mem_cons.mpr ⟨lw_p24, List.forall_mem_cons.mpr ⟨lw_p25, List.forall_mem_cons.mpr ⟨lw_p26, List.forall_mem_cons.mpr ⟨lw_p27, List.forall_mem_cons.mpr ⟨lw_p28, List.forall_mem_cons.mpr ⟨lw_p29, List.forall_mem_cons.mpr ⟨lw_p30, List.forall_mem_cons.mpr ⟨lw_p31, fun _ h => absurd h List.not_mem_nil⟩⟩⟩⟩⟩⟩⟩⟩⟩⟩⟩⟩⟩⟩⟩⟩
theorem lw_p32 : lw_okq (⟨"DiamondRowsModel", "grow", "(IJII)V"⟩, 54) := ⟨⟨by decide +kernel, by decide +kernel⟩, List.mem_of_getElem? (i := 1054) (by decide +kernel), List.mem_of_getElem? (i := 1074) (by decide +kernel), List.mem_of_getElem? (i := 1075) (by decide +kernel)⟩
theorem lw_p33 : lw_okq (⟨"DiamondRowsModel", "begin", "()V"⟩, 54) := ⟨⟨by decide +kernel, by decide +kernel⟩, List.mem_of_getElem? (i := 1054) (by decide +kernel), List.mem_of_getElem? (i := 1265) (by decide +kernel), List.mem_of_getElem? (i := 1266) (by decide +kernel)⟩
theorem lw_p34 : lw_okq (⟨"DiamondRowsModel", "scan", "()V"⟩, 54) := ⟨⟨by decide +kernel, by decide +kernel⟩, List.mem_of_getElem? (i := 1054) (by decide +kernel), List.mem_of_getElem? (i := 1269) (by decide +kernel), List.mem_of_getElem? (i := 1270) (by decide +kernel)⟩
theorem lw_p35 : lw_okq (⟨"DiamondRowsModel", "byteAt", "(I)I"⟩, 54) := ⟨⟨by decide +kernel, by decide +kernel⟩, List.mem_of_getElem? (i := 1054) (by decide +kernel), List.mem_of_getElem? (i := 1273) (by decide +kernel), List.mem_of_getElem? (i := 1274) (by decide +kernel)⟩
theorem lw_p36 : lw_okq (⟨"DiamondRowsModel", "readCut", "()Z"⟩, 54) := ⟨⟨by decide +kernel, by decide +kernel⟩, List.mem_of_getElem? (i := 1054) (by decide +kernel), List.mem_of_getElem? (i := 1285) (by decide +kernel), List.mem_of_getElem? (i := 1286) (by decide +kernel)⟩
theorem lw_p37 : lw_okq (⟨"DiamondRowsModel", "fails", "(I)Z"⟩, 54) := ⟨⟨by decide +kernel, by decide +kernel⟩, List.mem_of_getElem? (i := 1054) (by decide +kernel), List.mem_of_getElem? (i := 1290) (by decide +kernel), List.mem_of_getElem? (i := 1291) (by decide +kernel)⟩
theorem lw_p38 : lw_okq (⟨"DiamondRowsModel", "readCorner", "()Z"⟩, 54) := ⟨⟨by decide +kernel, by decide +kernel⟩, List.mem_of_getElem? (i := 1054) (by decide +kernel), List.mem_of_getElem? (i := 1297) (by decide +kernel), List.mem_of_getElem? (i := 1298) (by decide +kernel)⟩
theorem lw_p39 : lw_okq (⟨"DiamondRowsModel", "becomes", "(IJ)V"⟩, 54) := ⟨⟨by decide +kernel, by decide +kernel⟩, List.mem_of_getElem? (i := 1054) (by decide +kernel), List.mem_of_getElem? (i := 1301) (by decide +kernel), List.mem_of_getElem? (i := 1302) (by decide +kernel)⟩
theorem lw_p40 : lw_okq (⟨"DiamondRowsModel", "ownNumber", "()I"⟩, 54) := ⟨⟨by decide +kernel, by decide +kernel⟩, List.mem_of_getElem? (i := 1054) (by decide +kernel), List.mem_of_getElem? (i := 1305) (by decide +kernel), List.mem_of_getElem? (i := 1306) (by decide +kernel)⟩
theorem lw_p41 : lw_okq (⟨"DiamondRowsModel", "placeOf", "(J)I"⟩, 54) := ⟨⟨by decide +kernel, by decide +kernel⟩, List.mem_of_getElem? (i := 1054) (by decide +kernel), List.mem_of_getElem? (i := 1309) (by decide +kernel), List.mem_of_getElem? (i := 1310) (by decide +kernel)⟩
theorem lw_p42 : lw_okq (⟨"DiamondRowsModel", "trianglesOf", "(IJ)V"⟩, 54) := ⟨⟨by decide +kernel, by decide +kernel⟩, List.mem_of_getElem? (i := 1054) (by decide +kernel), List.mem_of_getElem? (i := 1325) (by decide +kernel), List.mem_of_getElem? (i := 1326) (by decide +kernel)⟩
theorem lw_p43 : lw_okq (⟨"DiamondRowsModel", "near", "(IJII)Z"⟩, 54) := ⟨⟨by decide +kernel, by decide +kernel⟩, List.mem_of_getElem? (i := 1054) (by decide +kernel), List.mem_of_getElem? (i := 1329) (by decide +kernel), List.mem_of_getElem? (i := 1330) (by decide +kernel)⟩
theorem lw_p44 : lw_okq (⟨"DiamondRowsModel", "isCorner", "(I)Z"⟩, 54) := ⟨⟨by decide +kernel, by decide +kernel⟩, List.mem_of_getElem? (i := 1054) (by decide +kernel), List.mem_of_getElem? (i := 1337) (by decide +kernel), List.mem_of_getElem? (i := 1338) (by decide +kernel)⟩
theorem lw_p45 : lw_okq (⟨"DiamondRowsModel", "entryOf", "(IJII)I"⟩, 54) := ⟨⟨by decide +kernel, by decide +kernel⟩, List.mem_of_getElem? (i := 1054) (by decide +kernel), List.mem_of_getElem? (i := 1341) (by decide +kernel), List.mem_of_getElem? (i := 1342) (by decide +kernel)⟩
theorem lw_p46 : lw_okq (⟨"DiamondRowsModel", "entriesFrom", "(IJI)V"⟩, 54) := ⟨⟨by decide +kernel, by decide +kernel⟩, List.mem_of_getElem? (i := 1054) (by decide +kernel), List.mem_of_getElem? (i := 1345) (by decide +kernel), List.mem_of_getElem? (i := 1346) (by decide +kernel)⟩
theorem lw_p47 : lw_okq (⟨"DiamondRowsModel", "rowAt", "(IJI)I"⟩, 54) := ⟨⟨by decide +kernel, by decide +kernel⟩, List.mem_of_getElem? (i := 1054) (by decide +kernel), List.mem_of_getElem? (i := 1353) (by decide +kernel), List.mem_of_getElem? (i := 1354) (by decide +kernel)⟩
def lw_privs_3 : List (MethodName × Nat) := [(⟨"DiamondRowsModel", "grow", "(IJII)V"⟩, 54), (⟨"DiamondRowsModel", "begin", "()V"⟩, 54), (⟨"DiamondRowsModel", "scan", "()V"⟩, 54), (⟨"DiamondRowsModel", "byteAt", "(I)I"⟩, 54), (⟨"DiamondRowsModel", "readCut", "()Z"⟩, 54), (⟨"DiamondRowsModel", "fails", "(I)Z"⟩, 54), (⟨"DiamondRowsModel", "readCorner", "()Z"⟩, 54), (⟨"DiamondRowsModel", "becomes", "(IJ)V"⟩, 54), (⟨"DiamondRowsModel", "ownNumber", "()I"⟩, 54), (⟨"DiamondRowsModel", "placeOf", "(J)I"⟩, 54), (⟨"DiamondRowsModel", "trianglesOf", "(IJ)V"⟩, 54), (⟨"DiamondRowsModel", "near", "(IJII)Z"⟩, 54), (⟨"DiamondRowsModel", "isCorner", "(I)Z"⟩, 54), (⟨"DiamondRowsModel", "entryOf", "(IJII)I"⟩, 54), (⟨"DiamondRowsModel", "entriesFrom", "(IJI)V"⟩, 54), (⟨"DiamondRowsModel", "rowAt", "(IJI)I"⟩, 54)]
theorem lw_r3 : ∀ q ∈ lw_privs_3, lw_okq q := List.forall_mem_cons.mpr ⟨lw_p32, List.forall_mem_cons.mpr ⟨lw_p33, List.forall_mem_cons.mpr ⟨lw_p34, List.forall_mem_cons.mpr ⟨lw_p35, List.forall_mem_cons.mpr ⟨lw_p36, List.forall_mem_cons.mpr ⟨lw_p37, List.forall_mem_cons.mpr ⟨lw_p38, List.forall_mem_cons.mpr ⟨lw_p39, List.forall_mem_cons.mpr ⟨lw_p40, List.forall_mem_cons.mpr ⟨lw_p41, List.forall_mem_cons.mpr ⟨lw_p42, List.forall_mem_cons.mpr ⟨lw_p43, List.forall_mem_cons.mpr ⟨lw_p44, List.forall_mem_cons.mpr ⟨lw_p45, List.forall_mem_cons.mpr ⟨lw_p46, List.forall_mem_cons.mpr ⟨lw_p47, fun _ h => absurd h List.not_mem_nil⟩⟩⟩⟩⟩⟩⟩⟩⟩⟩⟩⟩⟩⟩⟩⟩
theorem lw_p48 : lw_okq (⟨"DiamondRowsModel", "isWay", "(IIII)Z"⟩, 54) := ⟨⟨by decide +kernel, by decide +kernel⟩, List.mem_of_getElem? (i := 1054) (by decide +kernel), List.mem_of_getElem? (i := 1361) (by decide +kernel), List.mem_of_getElem? (i := 1362) (by decide +kernel)⟩
theorem lw_p49 : lw_okq (⟨"DiamondRowsModel", "isAt", "(II)Z"⟩, 54) := ⟨⟨by decide +kernel, by decide +kernel⟩, List.mem_of_getElem? (i := 1054) (by decide +kernel), List.mem_of_getElem? (i := 1365) (by decide +kernel), List.mem_of_getElem? (i := 1366) (by decide +kernel)⟩
theorem lw_p50 : lw_okq (⟨"DiamondRowsModel", "flipped", "(IJII)J"⟩, 54) := ⟨⟨by decide +kernel, by decide +kernel⟩, List.mem_of_getElem? (i := 1054) (by decide +kernel), List.mem_of_getElem? (i := 1373) (by decide +kernel), List.mem_of_getElem? (i := 1374) (by decide +kernel)⟩
theorem lw_p51 : lw_okq (⟨"DiamondRowsModel", "spreadFrom", "(I)V"⟩, 54) := ⟨⟨by decide +kernel, by decide +kernel⟩, List.mem_of_getElem? (i := 1054) (by decide +kernel), List.mem_of_getElem? (i := 1382) (by decide +kernel), List.mem_of_getElem? (i := 1383) (by decide +kernel)⟩
theorem lw_p52 : lw_okq (⟨"DiamondRowsModel", "leastOf", "(IJZ)J"⟩, 54) := ⟨⟨by decide +kernel, by decide +kernel⟩, List.mem_of_getElem? (i := 1054) (by decide +kernel), List.mem_of_getElem? (i := 1398) (by decide +kernel), List.mem_of_getElem? (i := 1399) (by decide +kernel)⟩
theorem lw_p53 : lw_okq (⟨"DiamondRowsModel", "turned", "(IJIZ)J"⟩, 54) := ⟨⟨by decide +kernel, by decide +kernel⟩, List.mem_of_getElem? (i := 1054) (by decide +kernel), List.mem_of_getElem? (i := 1402) (by decide +kernel), List.mem_of_getElem? (i := 1403) (by decide +kernel)⟩
theorem lw_p54 : lw_okq (⟨"DiamondRowsModel", "readRow", "()I"⟩, 54) := ⟨⟨by decide +kernel, by decide +kernel⟩, List.mem_of_getElem? (i := 1054) (by decide +kernel), List.mem_of_getElem? (i := 1414) (by decide +kernel), List.mem_of_getElem? (i := 1415) (by decide +kernel)⟩
theorem lw_p55 : lw_okq (⟨"DiamondRowsModel", "nearest", "()I"⟩, 54) := ⟨⟨by decide +kernel, by decide +kernel⟩, List.mem_of_getElem? (i := 1054) (by decide +kernel), List.mem_of_getElem? (i := 1418) (by decide +kernel), List.mem_of_getElem? (i := 1419) (by decide +kernel)⟩
theorem lw_p56 : lw_okq (⟨"DiamondRowsModel", "apart", "(J)I"⟩, 54) := ⟨⟨by decide +kernel, by decide +kernel⟩, List.mem_of_getElem? (i := 1054) (by decide +kernel), List.mem_of_getElem? (i := 1422) (by decide +kernel), List.mem_of_getElem? (i := 1423) (by decide +kernel)⟩
theorem lw_p57 : lw_okq (⟨"DiamondRowsModel", "cross", "(II)V"⟩, 54) := ⟨⟨by decide +kernel, by decide +kernel⟩, List.mem_of_getElem? (i := 1054) (by decide +kernel), List.mem_of_getElem? (i := 1438) (by decide +kernel), List.mem_of_getElem? (i := 1439) (by decide +kernel)⟩
theorem lw_p58 : lw_okq (⟨"DiamondRowsModel", "alongOf", "(II)J"⟩, 54) := ⟨⟨by decide +kernel, by decide +kernel⟩, List.mem_of_getElem? (i := 1054) (by decide +kernel), List.mem_of_getElem? (i := 1470) (by decide +kernel), List.mem_of_getElem? (i := 1471) (by decide +kernel)⟩
theorem lw_p59 : lw_okq (⟨"DiamondRowsModel", "isAll", "(IJ)Z"⟩, 54) := ⟨⟨by decide +kernel, by decide +kernel⟩, List.mem_of_getElem? (i := 1054) (by decide +kernel), List.mem_of_getElem? (i := 1479) (by decide +kernel), List.mem_of_getElem? (i := 1480) (by decide +kernel)⟩
theorem lw_p60 : lw_okq (⟨"DiamondRowsModel", "isOff", "(I)Z"⟩, 54) := ⟨⟨by decide +kernel, by decide +kernel⟩, List.mem_of_getElem? (i := 1054) (by decide +kernel), List.mem_of_getElem? (i := 1495) (by decide +kernel), List.mem_of_getElem? (i := 1496) (by decide +kernel)⟩
theorem lw_p61 : lw_okq (⟨"DiamondRowsModel", "off", "(I)V"⟩, 54) := ⟨⟨by decide +kernel, by decide +kernel⟩, List.mem_of_getElem? (i := 1054) (by decide +kernel), List.mem_of_getElem? (i := 1499) (by decide +kernel), List.mem_of_getElem? (i := 1500) (by decide +kernel)⟩
theorem lw_p62 : lw_okq (⟨"DiamondRowsModel", "makeFits", "(I)I"⟩, 54) := ⟨⟨by decide +kernel, by decide +kernel⟩, List.mem_of_getElem? (i := 1054) (by decide +kernel), List.mem_of_getElem? (i := 1519) (by decide +kernel), List.mem_of_getElem? (i := 1520) (by decide +kernel)⟩
theorem lw_p63 : lw_okq (⟨"DiamondRowsModel", "isFit", "(JI)Z"⟩, 54) := ⟨⟨by decide +kernel, by decide +kernel⟩, List.mem_of_getElem? (i := 1054) (by decide +kernel), List.mem_of_getElem? (i := 1523) (by decide +kernel), List.mem_of_getElem? (i := 1524) (by decide +kernel)⟩
def lw_privs_4 : List (MethodName × Nat) := [(⟨"DiamondRowsModel", "isWay", "(IIII)Z"⟩, 54), (⟨"DiamondRowsModel", "isAt", "(II)Z"⟩, 54), (⟨"DiamondRowsModel", "flipped", "(IJII)J"⟩, 54), (⟨"DiamondRowsModel", "spreadFrom", "(I)V"⟩, 54), (⟨"DiamondRowsModel", "leastOf", "(IJZ)J"⟩, 54), (⟨"DiamondRowsModel", "turned", "(IJIZ)J"⟩, 54), (⟨"DiamondRowsModel", "readRow", "()I"⟩, 54), (⟨"DiamondRowsModel", "nearest", "()I"⟩, 54), (⟨"DiamondRowsModel", "apart", "(J)I"⟩, 54), (⟨"DiamondRowsModel", "cross", "(II)V"⟩, 54), (⟨"DiamondRowsModel", "alongOf", "(II)J"⟩, 54), (⟨"DiamondRowsModel", "isAll", "(IJ)Z"⟩, 54), (⟨"DiamondRowsModel", "isOff", "(I)Z"⟩, 54), (⟨"DiamondRowsModel", "off", "(I)V"⟩, 54), (⟨"DiamondRowsModel", "makeFits", "(I)I"⟩, 54), (⟨"DiamondRowsModel", "isFit", "(JI)Z"⟩, 54)]
theorem lw_r4 : ∀ q ∈ lw_privs_4, lw_okq q := List.forall_mem_cons.mpr ⟨lw_p48, List.forall_mem_cons.mpr ⟨lw_p49, List.forall_mem_cons.mpr ⟨lw_p50, List.forall_mem_cons.mpr ⟨lw_p51, List.forall_mem_cons.mpr ⟨lw_p52, List.forall_mem_cons.mpr ⟨lw_p53, List.forall_mem_cons.mpr ⟨lw_p54, List.forall_mem_cons.mpr ⟨lw_p55, List.forall_mem_cons.mpr ⟨lw_p56, List.forall_mem_cons.mpr ⟨lw_p57, List.forall_mem_cons.mpr ⟨lw_p58, List.forall_mem_cons.mpr ⟨lw_p59, List.forall_mem_cons.mpr ⟨lw_p60, List.forall_mem_cons.mpr ⟨lw_p61, List.forall_mem_cons.mpr ⟨lw_p62, List.forall_mem_cons.mpr ⟨lw_p63, fun _ h => absurd h List.not_mem_nil⟩⟩⟩⟩⟩⟩⟩⟩⟩⟩⟩⟩⟩⟩⟩⟩
def lw_privs : List (MethodName × Nat) := lw_privs_1 ++ (lw_privs_2 ++ (lw_privs_3 ++ (lw_privs_4)))
def lw_tbl : List Cond := k2_sels lw_privs ++ tables_1
theorem lw_privs_ok : ∀ q ∈ lw_privs, lw_okq q := by
  show ∀ q ∈ lw_privs_1 ++ (lw_privs_2 ++ (lw_privs_3 ++ (lw_privs_4))), lw_okq q
  exact List.forall_mem_append.mpr ⟨lw_r1, List.forall_mem_append.mpr ⟨lw_r2, List.forall_mem_append.mpr ⟨lw_r3, lw_r4⟩⟩⟩

/-! ===== BEGIN words of one list among another's, by their places ===== -/
theorem goodIn_r {big : List Cond} (ws : List Cond) (ps : List Nat) (hp : ws = ps.filterMap (fun i => big[i]?)) (h : ws.all goodWord = true) : GoodIn big ws := by
  intro w hw
  have h1 := List.all_eq_true.mp h w hw
  rw [hp] at hw
  obtain ⟨i, -, hi⟩ := List.mem_filterMap.mp hw
  have hm : w ∈ big := by first | exact List.mem_of_getElem? hi | exact List.getElem?_mem hi
  exact ⟨hm, good_of_word h1⟩
theorem goodIn_app {big a b : List Cond} (ha : GoodIn big a) (hb : GoodIn big b) : GoodIn big (a ++ b) := fun w h => (List.mem_append.mp h).elim (ha w) (hb w)
theorem goodIn_ca {big a b : List Cond} {c : Cond} (ha : GoodIn big (c :: a)) (hb : GoodIn big b) : GoodIn big (c :: (a ++ b)) := fun w h => (List.mem_cons.mp h).elim (fun e => ha w (List.mem_cons.mpr (Or.inl e))) (fun h => (List.mem_append.mp h).elim (fun h => ha w (List.mem_cons.mpr (Or.inr h))) (hb w))
theorem goodIn_sub {big ws : List Cond} (hm : ∀ w ∈ ws, w ∈ big) (h : ws.all goodWord = true) : GoodIn big ws := fun w hw => ⟨hm w hw, good_of_word (List.all_eq_true.mp h w hw)⟩
/-! ===== END ===== -/

/-! ===== BEGIN printed: names, fields, word lists, decode rows ===== -/
def RX0 : String := "DiamondRows$CrossedLines"
def TX0 : u_T := fun k => match k with
  | 0 => ("DiamondRows$CrossedLines", "lines", "[I", true)
  | _ => ("DiamondRows$CrossedLines", "size", "I", false)
def tyX0 : Nat → FieldType := fun k => match k with
  | 0 => .array .int
  | _ => .int
abbrev wsX00 : List Cond := u_ws RX0 TX0 2
theorem nmX0 : ∀ a, a < 2 → ∀ b, b < 2 → a ≠ b → (TX0 a).2.1 ≠ (TX0 b).2.1 := by decide +kernel
theorem tyX0_ok : ∀ k, k < 2 → parseFieldDescriptor (TX0 k).2.2.1 = some (tyX0 k) := by decide +kernel
abbrev cX0_init : ByteArray := prog_2_method_1_code
def yX0_init : MethodName := ⟨RX0, "<init>", "()V"⟩
abbrev cX0_size : ByteArray := prog_2_method_2_code
def yX0_size : MethodName := ⟨RX0, "size", "()I"⟩
abbrev cX0_gather : ByteArray := prog_2_method_3_code
def yX0_gather : MethodName := ⟨RX0, "gather", "(LDiamondRows$Polygon;III)V"⟩
abbrev cX0_spanFrom : ByteArray := prog_2_method_4_code
def yX0_spanFrom : MethodName := ⟨RX0, "spanFrom", "(LDiamondRows$Polygon;II)I"⟩
abbrev cX0_pairAt : ByteArray := prog_2_method_5_code
def yX0_pairAt : MethodName := ⟨RX0, "pairAt", "(LDiamondRows$Polygon;I)I"⟩
abbrev cX0_sharedWithNext : ByteArray := prog_2_method_6_code
def yX0_sharedWithNext : MethodName := ⟨RX0, "sharedWithNext", "(LDiamondRows$Polygon;I)I"⟩
def RX1 : String := "DiamondRows$CutText"
def TX1 : u_T := fun k => match k with
  | 0 => ("DiamondRows$CutText", "faultKind", "I", false)
  | 1 => ("DiamondRows$CutText", "faultPlace", "I", false)
  | 2 => ("DiamondRows$CutText", "expected", "I", false)
  | 3 => ("DiamondRows$CutText", "first", "I", false)
  | 4 => ("DiamondRows$CutText", "polygon", "LDiamondRows$Polygon;", false)
  | _ => ("DiamondRows$CutText", "bits", "I", false)
def tyX1 : Nat → FieldType := fun k => match k with
  | 0 => .int
  | 1 => .int
  | 2 => .int
  | 3 => .int
  | 4 => .object "DiamondRows$Polygon"
  | _ => .int
abbrev wsX10 : List Cond := u_ws RX1 TX1 6
theorem nmX1 : ∀ a, a < 6 → ∀ b, b < 6 → a ≠ b → (TX1 a).2.1 ≠ (TX1 b).2.1 := by decide +kernel
theorem tyX1_ok : ∀ k, k < 6 → parseFieldDescriptor (TX1 k).2.2.1 = some (tyX1 k) := by decide +kernel
abbrev cX1_init : ByteArray := prog_3_method_1_code
def yX1_init : MethodName := ⟨RX1, "<init>", "()V"⟩
abbrev cX1_faultKind : ByteArray := prog_3_method_2_code
def yX1_faultKind : MethodName := ⟨RX1, "faultKind", "()I"⟩
abbrev cX1_faultPlace : ByteArray := prog_3_method_3_code
def yX1_faultPlace : MethodName := ⟨RX1, "faultPlace", "()I"⟩
abbrev cX1_polygon : ByteArray := prog_3_method_4_code
def yX1_polygon : MethodName := ⟨RX1, "polygon", "()LDiamondRows$Polygon;"⟩
abbrev cX1_bits : ByteArray := prog_3_method_5_code
def yX1_bits : MethodName := ⟨RX1, "bits", "()I"⟩
abbrev cX1_understand : ByteArray := prog_3_method_6_code
def yX1_understand : MethodName := ⟨RX1, "understand", "(LDiamondRows$Tape;LDiamondRows$Polygons;)Z"⟩
abbrev cX1_takeToken : ByteArray := prog_3_method_7_code
def yX1_takeToken : MethodName := ⟨RX1, "takeToken", "(LDiamondRows$Tape;LDiamondRows$Polygons;)I"⟩
abbrev cX1_takeFirst : ByteArray := prog_3_method_8_code
def yX1_takeFirst : MethodName := ⟨RX1, "takeFirst", "(LDiamondRows$Tape;)I"⟩
abbrev cX1_takeSecond : ByteArray := prog_3_method_9_code
def yX1_takeSecond : MethodName := ⟨RX1, "takeSecond", "(I)I"⟩
def RX2 : String := "DiamondRows$Endless"
def TX2 : u_T := fun k => match k with
  | 0 => ("DiamondRows$Endless", "numbers", "[I", true)
  | _ => ("DiamondRows$Endless", "size", "I", false)
def tyX2 : Nat → FieldType := fun k => match k with
  | 0 => .array .int
  | _ => .int
abbrev wsX20 : List Cond := u_ws RX2 TX2 2
theorem nmX2 : ∀ a, a < 2 → ∀ b, b < 2 → a ≠ b → (TX2 a).2.1 ≠ (TX2 b).2.1 := by decide +kernel
theorem tyX2_ok : ∀ k, k < 2 → parseFieldDescriptor (TX2 k).2.2.1 = some (tyX2 k) := by decide +kernel
abbrev cX2_init : ByteArray := prog_4_method_1_code
def yX2_init : MethodName := ⟨RX2, "<init>", "()V"⟩
abbrev cX2_size : ByteArray := prog_4_method_2_code
def yX2_size : MethodName := ⟨RX2, "size", "()I"⟩
abbrev cX2_hasPlace : ByteArray := prog_4_method_3_code
def yX2_hasPlace : MethodName := ⟨RX2, "hasPlace", "(I)Z"⟩
abbrev cX2_accepts : ByteArray := prog_4_method_4_code
def yX2_accepts : MethodName := ⟨RX2, "accepts", "([II)Z"⟩
abbrev cX2_become : ByteArray := prog_4_method_5_code
def yX2_become : MethodName := ⟨RX2, "become", "([II)I"⟩
abbrev cX2_at : ByteArray := prog_4_method_6_code
def yX2_at : MethodName := ⟨RX2, "at", "(I)I"⟩
abbrev cX2_wrapped : ByteArray := prog_4_method_7_code
def yX2_wrapped : MethodName := ⟨RX2, "wrapped", "(I)I"⟩
abbrev cX2_entryAt : ByteArray := prog_4_method_8_code
def yX2_entryAt : MethodName := ⟨RX2, "entryAt", "(II)J"⟩
abbrev cX2_breakLength : ByteArray := prog_4_method_9_code
def yX2_breakLength : MethodName := ⟨RX2, "breakLength", "()I"⟩
abbrev cX2_breakPlace : ByteArray := prog_4_method_10_code
def yX2_breakPlace : MethodName := ⟨RX2, "breakPlace", "(I)I"⟩
abbrev cX2_comesBack : ByteArray := prog_4_method_11_code
def yX2_comesBack : MethodName := ⟨RX2, "comesBack", "(I)Z"⟩
abbrev cX2_allAre : ByteArray := prog_4_method_12_code
def yX2_allAre : MethodName := ⟨RX2, "allAre", "(IJ)Z"⟩
abbrev cX2_growthOfRound : ByteArray := prog_4_method_13_code
def yX2_growthOfRound : MethodName := ⟨RX2, "growthOfRound", "()J"⟩
abbrev cX2_canGlue : ByteArray := prog_4_method_14_code
def yX2_canGlue : MethodName := ⟨RX2, "canGlue", "(I)Z"⟩
abbrev cX2_glueBehind : ByteArray := prog_4_method_15_code
def yX2_glueBehind : MethodName := ⟨RX2, "glueBehind", "(I)I"⟩
abbrev cX2_canLose : ByteArray := prog_4_method_16_code
def yX2_canLose : MethodName := ⟨RX2, "canLose", "(I)Z"⟩
abbrev cX2_lose : ByteArray := prog_4_method_17_code
def yX2_lose : MethodName := ⟨RX2, "lose", "(I)I"⟩
abbrev cX2_loseAll : ByteArray := prog_4_method_18_code
def yX2_loseAll : MethodName := ⟨RX2, "loseAll", "()I"⟩
abbrev cX2_firstOne : ByteArray := prog_4_method_19_code
def yX2_firstOne : MethodName := ⟨RX2, "firstOne", "()I"⟩
def RX3 : String := "DiamondRows$Fitting"
def TX3 : u_T := fun k => match k with
  | 0 => ("DiamondRows$Fitting", "numbers", "[I", true)
  | 1 => ("DiamondRows$Fitting", "tally", "[I", true)
  | _ => ("DiamondRows$Fitting", "size", "I", false)
def tyX3 : Nat → FieldType := fun k => match k with
  | 0 => .array .int
  | 1 => .array .int
  | _ => .int
abbrev wsX30 : List Cond := u_ws RX3 TX3 3
theorem nmX3 : ∀ a, a < 3 → ∀ b, b < 3 → a ≠ b → (TX3 a).2.1 ≠ (TX3 b).2.1 := by decide +kernel
theorem tyX3_ok : ∀ k, k < 3 → parseFieldDescriptor (TX3 k).2.2.1 = some (tyX3 k) := by decide +kernel
abbrev cX3_init : ByteArray := prog_5_method_1_code
def yX3_init : MethodName := ⟨RX3, "<init>", "()V"⟩
abbrev cX3_size : ByteArray := prog_5_method_2_code
def yX3_size : MethodName := ⟨RX3, "size", "()I"⟩
abbrev cX3_gather : ByteArray := prog_5_method_3_code
def yX3_gather : MethodName := ⟨RX3, "gather", "(LDiamondRows$Polygon;LDiamondRows$Sightings;I)V"⟩
abbrev cX3_leastNumber : ByteArray := prog_5_method_4_code
def yX3_leastNumber : MethodName := ⟨RX3, "leastNumber", "()I"⟩
abbrev cX3_howSure : ByteArray := prog_5_method_5_code
def yX3_howSure : MethodName := ⟨RX3, "howSure", "(LDiamondRows$Polygon;I)I"⟩
abbrev cX3_bestQuestion : ByteArray := prog_5_method_6_code
def yX3_bestQuestion : MethodName := ⟨RX3, "bestQuestion", "(LDiamondRows$Polygon;)I"⟩
abbrev cX3_mostAgreeing : ByteArray := prog_5_method_7_code
def yX3_mostAgreeing : MethodName := ⟨RX3, "mostAgreeing", "(LDiamondRows$Polygon;II)I"⟩
def RX4 : String := "DiamondRows$Flips"
def TX4 : u_T := fun k => match k with
  | 0 => ("DiamondRows$Flips", "steps", "[I", true)
  | 1 => ("DiamondRows$Flips", "queue", "[I", true)
  | 2 => ("DiamondRows$Flips", "way", "[I", true)
  | 3 => ("DiamondRows$Flips", "wayLength", "I", false)
  | _ => ("DiamondRows$Flips", "queued", "I", false)
def tyX4 : Nat → FieldType := fun k => match k with
  | 0 => .array .int
  | 1 => .array .int
  | 2 => .array .int
  | 3 => .int
  | _ => .int
abbrev wsX40 : List Cond := u_ws RX4 TX4 5
theorem nmX4 : ∀ a, a < 5 → ∀ b, b < 5 → a ≠ b → (TX4 a).2.1 ≠ (TX4 b).2.1 := by decide +kernel
theorem tyX4_ok : ∀ k, k < 5 → parseFieldDescriptor (TX4 k).2.2.1 = some (tyX4 k) := by decide +kernel
abbrev cX4_init : ByteArray := prog_6_method_1_code
def yX4_init : MethodName := ⟨RX4, "<init>", "()V"⟩
abbrev cX4_measure : ByteArray := prog_6_method_2_code
def yX4_measure : MethodName := ⟨RX4, "measure", "(LDiamondRows$Polygon;I)V"⟩
abbrev cX4_comeTo : ByteArray := prog_6_method_3_code
def yX4_comeTo : MethodName := ⟨RX4, "comeTo", "(II)V"⟩
abbrev cX4_stepsTo : ByteArray := prog_6_method_4_code
def yX4_stepsTo : MethodName := ⟨RX4, "stepsTo", "(I)I"⟩
abbrev cX4_mostSteps : ByteArray := prog_6_method_5_code
def yX4_mostSteps : MethodName := ⟨RX4, "mostSteps", "(LDiamondRows$Polygon;)I"⟩
abbrev cX4_howManyAt : ByteArray := prog_6_method_6_code
def yX4_howManyAt : MethodName := ⟨RX4, "howManyAt", "(LDiamondRows$Polygon;I)I"⟩
abbrev cX4_layWay : ByteArray := prog_6_method_7_code
def yX4_layWay : MethodName := ⟨RX4, "layWay", "(LDiamondRows$Polygon;II)I"⟩
abbrev cX4_leastNearer : ByteArray := prog_6_method_8_code
def yX4_leastNearer : MethodName := ⟨RX4, "leastNearer", "(LDiamondRows$Polygon;I)I"⟩
abbrev cX4_onWay : ByteArray := prog_6_method_9_code
def yX4_onWay : MethodName := ⟨RX4, "onWay", "(I)I"⟩
def RX5 : String := "DiamondRows$Polygon"
def TX5 : u_T := fun k => match k with
  | 0 => ("DiamondRows$Polygon", "corners", "I", true)
  | 1 => ("DiamondRows$Polygon", "lesser", "[I", true)
  | 2 => ("DiamondRows$Polygon", "greater", "[I", true)
  | 3 => ("DiamondRows$Polygon", "numberOfLine", "[I", true)
  | 4 => ("DiamondRows$Polygon", "crossers", "[I", true)
  | 5 => ("DiamondRows$Polygon", "linesAt", "[I", true)
  | 6 => ("DiamondRows$Polygon", "cuts", "[I", true)
  | 7 => ("DiamondRows$Polygon", "lineCount", "I", false)
  | _ => ("DiamondRows$Polygon", "cutCount", "I", false)
def tyX5 : Nat → FieldType := fun k => match k with
  | 0 => .int
  | 1 => .array .int
  | 2 => .array .int
  | 3 => .array .int
  | 4 => .array .int
  | 5 => .array .int
  | 6 => .array .int
  | 7 => .int
  | _ => .int
abbrev wsX50 : List Cond := u_ws RX5 TX5 9
theorem nmX5 : ∀ a, a < 9 → ∀ b, b < 9 → a ≠ b → (TX5 a).2.1 ≠ (TX5 b).2.1 := by decide +kernel
theorem tyX5_ok : ∀ k, k < 9 → parseFieldDescriptor (TX5 k).2.2.1 = some (tyX5 k) := by decide +kernel
abbrev cX5_init : ByteArray := prog_7_method_1_code
def yX5_init : MethodName := ⟨RX5, "<init>", "(I)V"⟩
abbrev cX5_numberLines : ByteArray := prog_7_method_2_code
def yX5_numberLines : MethodName := ⟨RX5, "numberLines", "()V"⟩
abbrev cX5_numberLine : ByteArray := prog_7_method_3_code
def yX5_numberLine : MethodName := ⟨RX5, "numberLine", "(II)V"⟩
abbrev cX5_findCrossers : ByteArray := prog_7_method_4_code
def yX5_findCrossers : MethodName := ⟨RX5, "findCrossers", "()V"⟩
abbrev cX5_cross : ByteArray := prog_7_method_5_code
def yX5_cross : MethodName := ⟨RX5, "cross", "(IIII)Z"⟩
abbrev cX5_gatherCuts : ByteArray := prog_7_method_6_code
def yX5_gatherCuts : MethodName := ⟨RX5, "gatherCuts", "(IIII)V"⟩
abbrev cX5_keepCut : ByteArray := prog_7_method_7_code
def yX5_keepCut : MethodName := ⟨RX5, "keepCut", "(I)V"⟩
abbrev cX5_corners : ByteArray := prog_7_method_8_code
def yX5_corners : MethodName := ⟨RX5, "corners", "()I"⟩
abbrev cX5_lineCount : ByteArray := prog_7_method_9_code
def yX5_lineCount : MethodName := ⟨RX5, "lineCount", "()I"⟩
abbrev cX5_cutCount : ByteArray := prog_7_method_10_code
def yX5_cutCount : MethodName := ⟨RX5, "cutCount", "()I"⟩
abbrev cX5_hasCorner : ByteArray := prog_7_method_11_code
def yX5_hasCorner : MethodName := ⟨RX5, "hasCorner", "(I)Z"⟩
abbrev cX5_hasCut : ByteArray := prog_7_method_12_code
def yX5_hasCut : MethodName := ⟨RX5, "hasCut", "(I)Z"⟩
abbrev cX5_cutAt : ByteArray := prog_7_method_13_code
def yX5_cutAt : MethodName := ⟨RX5, "cutAt", "(I)I"⟩
abbrev cX5_numberOf : ByteArray := prog_7_method_14_code
def yX5_numberOf : MethodName := ⟨RX5, "numberOf", "(I)I"⟩
abbrev cX5_areNext : ByteArray := prog_7_method_15_code
def yX5_areNext : MethodName := ⟨RX5, "areNext", "(II)Z"⟩
abbrev cX5_lineOf : ByteArray := prog_7_method_16_code
def yX5_lineOf : MethodName := ⟨RX5, "lineOf", "(II)I"⟩
abbrev cX5_pairOf : ByteArray := prog_7_method_17_code
def yX5_pairOf : MethodName := ⟨RX5, "pairOf", "(I)I"⟩
abbrev cX5_lesserOf : ByteArray := prog_7_method_18_code
def yX5_lesserOf : MethodName := ⟨RX5, "lesserOf", "(I)I"⟩
abbrev cX5_greaterOf : ByteArray := prog_7_method_19_code
def yX5_greaterOf : MethodName := ⟨RX5, "greaterOf", "(I)I"⟩
abbrev cX5_crossersOf : ByteArray := prog_7_method_20_code
def yX5_crossersOf : MethodName := ⟨RX5, "crossersOf", "(I)I"⟩
abbrev cX5_hasLine : ByteArray := prog_7_method_21_code
def yX5_hasLine : MethodName := ⟨RX5, "hasLine", "(I)Z"⟩
abbrev cX5_has : ByteArray := prog_7_method_22_code
def yX5_has : MethodName := ⟨RX5, "has", "(II)Z"⟩
abbrev cX5_areJoined : ByteArray := prog_7_method_23_code
def yX5_areJoined : MethodName := ⟨RX5, "areJoined", "(III)Z"⟩
abbrev cX5_ahead : ByteArray := prog_7_method_24_code
def yX5_ahead : MethodName := ⟨RX5, "ahead", "(II)I"⟩
abbrev cX5_trianglesAt : ByteArray := prog_7_method_25_code
def yX5_trianglesAt : MethodName := ⟨RX5, "trianglesAt", "(II)I"⟩
abbrev cX5_entryOf : ByteArray := prog_7_method_26_code
def yX5_entryOf : MethodName := ⟨RX5, "entryOf", "(III)I"⟩
abbrev cX5_otherLine : ByteArray := prog_7_method_27_code
def yX5_otherLine : MethodName := ⟨RX5, "otherLine", "(II)I"⟩
abbrev cX5_neighbourWith : ByteArray := prog_7_method_28_code
def yX5_neighbourWith : MethodName := ⟨RX5, "neighbourWith", "(II)I"⟩
abbrev cX5_moved : ByteArray := prog_7_method_29_code
def yX5_moved : MethodName := ⟨RX5, "moved", "(IZ)I"⟩
abbrev cX5_movedCorner : ByteArray := prog_7_method_30_code
def yX5_movedCorner : MethodName := ⟨RX5, "movedCorner", "(IZ)I"⟩
abbrev cX5_leastTurned : ByteArray := prog_7_method_31_code
def yX5_leastTurned : MethodName := ⟨RX5, "leastTurned", "(I)I"⟩
abbrev cX5_leastAlike : ByteArray := prog_7_method_32_code
def yX5_leastAlike : MethodName := ⟨RX5, "leastAlike", "(IZ)I"⟩
abbrev cX5_countKinds : ByteArray := prog_7_method_33_code
def yX5_countKinds : MethodName := ⟨RX5, "countKinds", "(Z)I"⟩
abbrev cX5_neverTurnsBelow : ByteArray := prog_7_method_34_code
def yX5_neverTurnsBelow : MethodName := ⟨RX5, "neverTurnsBelow", "(II)Z"⟩
abbrev cX5_differenceFrom : ByteArray := prog_7_method_35_code
def yX5_differenceFrom : MethodName := ⟨RX5, "differenceFrom", "([II)I"⟩
abbrev cX5_nearestTo : ByteArray := prog_7_method_36_code
def yX5_nearestTo : MethodName := ⟨RX5, "nearestTo", "([I)I"⟩
abbrev cX5_greatestIn : ByteArray := prog_7_method_37_code
def yX5_greatestIn : MethodName := ⟨RX5, "greatestIn", "(I)I"⟩
abbrev cX5_greatestFrom : ByteArray := prog_7_method_38_code
def yX5_greatestFrom : MethodName := ⟨RX5, "greatestFrom", "(II)I"⟩
abbrev cX5_numberOfGreatest : ByteArray := prog_7_method_39_code
def yX5_numberOfGreatest : MethodName := ⟨RX5, "numberOfGreatest", "()I"⟩
abbrev cX5_countWith : ByteArray := prog_7_method_40_code
def yX5_countWith : MethodName := ⟨RX5, "countWith", "(III)I"⟩
def RX6 : String := "DiamondRows$Polygons"
def TX6 : u_T := fun k => match k with
  | _ => ("DiamondRows$Polygons", "made", "[LDiamondRows$Polygon;", true)
def tyX6 : Nat → FieldType := fun k => match k with
  | _ => .array (.object "DiamondRows$Polygon")
abbrev wsX60 : List Cond := u_ws RX6 TX6 1
theorem nmX6 : ∀ a, a < 1 → ∀ b, b < 1 → a ≠ b → (TX6 a).2.1 ≠ (TX6 b).2.1 := by decide +kernel
theorem tyX6_ok : ∀ k, k < 1 → parseFieldDescriptor (TX6 k).2.2.1 = some (tyX6 k) := by decide +kernel
abbrev cX6_init : ByteArray := prog_8_method_1_code
def yX6_init : MethodName := ⟨RX6, "<init>", "()V"⟩
abbrev cX6_withCorners : ByteArray := prog_8_method_2_code
def yX6_withCorners : MethodName := ⟨RX6, "withCorners", "(I)LDiamondRows$Polygon;"⟩
def RX7 : String := "DiamondRows$Sightings"
def TX7 : u_T := fun k => match k with
  | 0 => ("DiamondRows$Sightings", "seenStep", "[I", true)
  | 1 => ("DiamondRows$Sightings", "seenFrom", "[I", true)
  | 2 => ("DiamondRows$Sightings", "seenTo", "[I", true)
  | 3 => ("DiamondRows$Sightings", "seenValue", "[I", true)
  | 4 => ("DiamondRows$Sightings", "timesRight", "[I", true)
  | 5 => ("DiamondRows$Sightings", "rightStep", "[I", true)
  | 6 => ("DiamondRows$Sightings", "rightOf", "[I", true)
  | 7 => ("DiamondRows$Sightings", "rightValue", "[I", true)
  | 8 => ("DiamondRows$Sightings", "knownValue", "[I", true)
  | 9 => ("DiamondRows$Sightings", "size", "I", false)
  | 10 => ("DiamondRows$Sightings", "rights", "I", false)
  | _ => ("DiamondRows$Sightings", "latest", "I", false)
def tyX7 : Nat → FieldType := fun k => match k with
  | 0 => .array .int
  | 1 => .array .int
  | 2 => .array .int
  | 3 => .array .int
  | 4 => .array .int
  | 5 => .array .int
  | 6 => .array .int
  | 7 => .array .int
  | 8 => .array .int
  | 9 => .int
  | 10 => .int
  | _ => .int
abbrev wsX70 : List Cond := u_ws RX7 TX7 12
theorem nmX7 : ∀ a, a < 12 → ∀ b, b < 12 → a ≠ b → (TX7 a).2.1 ≠ (TX7 b).2.1 := by decide +kernel
theorem tyX7_ok : ∀ k, k < 12 → parseFieldDescriptor (TX7 k).2.2.1 = some (tyX7 k) := by decide +kernel
abbrev cX7_init : ByteArray := prog_9_method_1_code
def yX7_init : MethodName := ⟨RX7, "<init>", "()V"⟩
abbrev cX7_size : ByteArray := prog_9_method_2_code
def yX7_size : MethodName := ⟨RX7, "size", "()I"⟩
abbrev cX7_rights : ByteArray := prog_9_method_3_code
def yX7_rights : MethodName := ⟨RX7, "rights", "()I"⟩
abbrev cX7_has : ByteArray := prog_9_method_4_code
def yX7_has : MethodName := ⟨RX7, "has", "(I)Z"⟩
abbrev cX7_wasSeenBefore : ByteArray := prog_9_method_5_code
def yX7_wasSeenBefore : MethodName := ⟨RX7, "wasSeenBefore", "(II)Z"⟩
abbrev cX7_canTell : ByteArray := prog_9_method_6_code
def yX7_canTell : MethodName := ⟨RX7, "canTell", "(I)Z"⟩
abbrev cX7_forget : ByteArray := prog_9_method_7_code
def yX7_forget : MethodName := ⟨RX7, "forget", "()V"⟩
abbrev cX7_add : ByteArray := prog_9_method_8_code
def yX7_add : MethodName := ⟨RX7, "add", "(IIII)I"⟩
abbrev cX7_putRight : ByteArray := prog_9_method_9_code
def yX7_putRight : MethodName := ⟨RX7, "putRight", "(III)I"⟩
abbrev cX7_recall : ByteArray := prog_9_method_10_code
def yX7_recall : MethodName := ⟨RX7, "recall", "(I)V"⟩
abbrev cX7_agreeWith : ByteArray := prog_9_method_11_code
def yX7_agreeWith : MethodName := ⟨RX7, "agreeWith", "(LDiamondRows$Polygon;I)Z"⟩
def RX8 : String := "DiamondRows$Tape"
def TX8 : u_T := fun k => match k with
  | 0 => ("DiamondRows$Tape", "bytes", "[B", true)
  | 1 => ("DiamondRows$Tape", "length", "I", false)
  | 2 => ("DiamondRows$Tape", "next", "I", false)
  | 3 => ("DiamondRows$Tape", "kind", "I", false)
  | 4 => ("DiamondRows$Tape", "place", "I", false)
  | _ => ("DiamondRows$Tape", "value", "I", false)
def tyX8 : Nat → FieldType := fun k => match k with
  | 0 => .array .byte
  | 1 => .int
  | 2 => .int
  | 3 => .int
  | 4 => .int
  | _ => .int
abbrev wsX80 : List Cond := u_ws RX8 TX8 6
theorem nmX8 : ∀ a, a < 6 → ∀ b, b < 6 → a ≠ b → (TX8 a).2.1 ≠ (TX8 b).2.1 := by decide +kernel
theorem tyX8_ok : ∀ k, k < 6 → parseFieldDescriptor (TX8 k).2.2.1 = some (tyX8 k) := by decide +kernel
abbrev cX8_init : ByteArray := prog_10_method_1_code
def yX8_init : MethodName := ⟨RX8, "<init>", "()V"⟩
abbrev cX8_size : ByteArray := prog_10_method_2_code
def yX8_size : MethodName := ⟨RX8, "size", "()I"⟩
abbrev cX8_kind : ByteArray := prog_10_method_3_code
def yX8_kind : MethodName := ⟨RX8, "kind", "()I"⟩
abbrev cX8_place : ByteArray := prog_10_method_4_code
def yX8_place : MethodName := ⟨RX8, "place", "()I"⟩
abbrev cX8_value : ByteArray := prog_10_method_5_code
def yX8_value : MethodName := ⟨RX8, "value", "()I"⟩
abbrev cX8_hasRoomForTwenty : ByteArray := prog_10_method_6_code
def yX8_hasRoomForTwenty : MethodName := ⟨RX8, "hasRoomForTwenty", "()Z"⟩
abbrev cX8_append : ByteArray := prog_10_method_7_code
def yX8_append : MethodName := ⟨RX8, "append", "(I)V"⟩
abbrev cX8_shorten : ByteArray := prog_10_method_8_code
def yX8_shorten : MethodName := ⟨RX8, "shorten", "(I)V"⟩
abbrev cX8_rewind : ByteArray := prog_10_method_9_code
def yX8_rewind : MethodName := ⟨RX8, "rewind", "()V"⟩
abbrev cX8_readToken : ByteArray := prog_10_method_10_code
def yX8_readToken : MethodName := ⟨RX8, "readToken", "()V"⟩
abbrev cX8_readWord : ByteArray := prog_10_method_11_code
def yX8_readWord : MethodName := ⟨RX8, "readWord", "()V"⟩
abbrev cX8_readNumber : ByteArray := prog_10_method_12_code
def yX8_readNumber : MethodName := ⟨RX8, "readNumber", "()V"⟩
abbrev cX8_isWord : ByteArray := prog_10_method_13_code
def yX8_isWord : MethodName := ⟨RX8, "isWord", "(Ljava/lang/String;)Z"⟩
abbrev cX8_readNumbers : ByteArray := prog_10_method_14_code
def yX8_readNumbers : MethodName := ⟨RX8, "readNumbers", "([I)I"⟩
abbrev cX8_isBlank : ByteArray := prog_10_method_15_code
def yX8_isBlank : MethodName := ⟨RX8, "isBlank", "(I)Z"⟩
abbrev cX8_isLetter : ByteArray := prog_10_method_16_code
def yX8_isLetter : MethodName := ⟨RX8, "isLetter", "(I)Z"⟩
abbrev cX8_isDigit : ByteArray := prog_10_method_17_code
def yX8_isDigit : MethodName := ⟨RX8, "isDigit", "(I)Z"⟩
def RX9 : String := "DiamondRows$Triangles"
def TX9 : u_T := fun k => match k with
  | 0 => ("DiamondRows$Triangles", "cornersOf", "[I", true)
  | 1 => ("DiamondRows$Triangles", "chosen", "[I", true)
  | 2 => ("DiamondRows$Triangles", "count", "I", false)
  | 3 => ("DiamondRows$Triangles", "polygon", "LDiamondRows$Polygon;", false)
  | 4 => ("DiamondRows$Triangles", "from", "I", false)
  | 5 => ("DiamondRows$Triangles", "length", "I", false)
  | _ => ("DiamondRows$Triangles", "waysAhead", "I", false)
def tyX9 : Nat → FieldType := fun k => match k with
  | 0 => .array .int
  | 1 => .array .int
  | 2 => .int
  | 3 => .object "DiamondRows$Polygon"
  | 4 => .int
  | 5 => .int
  | _ => .int
abbrev wsX90 : List Cond := u_ws RX9 TX9 7
theorem nmX9 : ∀ a, a < 7 → ∀ b, b < 7 → a ≠ b → (TX9 a).2.1 ≠ (TX9 b).2.1 := by decide +kernel
theorem tyX9_ok : ∀ k, k < 7 → parseFieldDescriptor (TX9 k).2.2.1 = some (tyX9 k) := by decide +kernel
abbrev cX9_init : ByteArray := prog_11_method_1_code
def yX9_init : MethodName := ⟨RX9, "<init>", "()V"⟩
abbrev cX9_gather : ByteArray := prog_11_method_2_code
def yX9_gather : MethodName := ⟨RX9, "gather", "(LDiamondRows$Polygon;I)V"⟩
abbrev cX9_gatherOn : ByteArray := prog_11_method_3_code
def yX9_gatherOn : MethodName := ⟨RX9, "gatherOn", "(LDiamondRows$Polygon;III)V"⟩
abbrev cX9_cornerOf : ByteArray := prog_11_method_4_code
def yX9_cornerOf : MethodName := ⟨RX9, "cornerOf", "(II)I"⟩
abbrev cX9_touches : ByteArray := prog_11_method_5_code
def yX9_touches : MethodName := ⟨RX9, "touches", "(II)Z"⟩
abbrev cX9_onWay : ByteArray := prog_11_method_6_code
def yX9_onWay : MethodName := ⟨RX9, "onWay", "(LDiamondRows$Polygon;IIII)I"⟩
abbrev cX9_choose : ByteArray := prog_11_method_7_code
def yX9_choose : MethodName := ⟨RX9, "choose", "(II)Z"⟩
def RX10 : String := "DiamondRows"
def TX10 : u_T := fun k => match k with
  | 0 => ("DiamondRows", "tape", "LDiamondRows$Tape;", true)
  | 1 => ("DiamondRows", "polygons", "LDiamondRows$Polygons;", true)
  | 2 => ("DiamondRows", "text", "LDiamondRows$CutText;", true)
  | 3 => ("DiamondRows", "triangles", "LDiamondRows$Triangles;", true)
  | 4 => ("DiamondRows", "crossedLines", "LDiamondRows$CrossedLines;", true)
  | 5 => ("DiamondRows", "flips", "LDiamondRows$Flips;", true)
  | 6 => ("DiamondRows", "endless", "LDiamondRows$Endless;", true)
  | 7 => ("DiamondRows", "sightings", "LDiamondRows$Sightings;", true)
  | 8 => ("DiamondRows", "fitting", "LDiamondRows$Fitting;", true)
  | 9 => ("DiamondRows", "toldRow", "[I", true)
  | 10 => ("DiamondRows", "polygon", "LDiamondRows$Polygon;", false)
  | 11 => ("DiamondRows", "bits", "I", false)
  | _ => ("DiamondRows", "mendedNumber", "I", false)
def tyX10 : Nat → FieldType := fun k => match k with
  | 0 => .object "DiamondRows$Tape"
  | 1 => .object "DiamondRows$Polygons"
  | 2 => .object "DiamondRows$CutText"
  | 3 => .object "DiamondRows$Triangles"
  | 4 => .object "DiamondRows$CrossedLines"
  | 5 => .object "DiamondRows$Flips"
  | 6 => .object "DiamondRows$Endless"
  | 7 => .object "DiamondRows$Sightings"
  | 8 => .object "DiamondRows$Fitting"
  | 9 => .array .int
  | 10 => .object "DiamondRows$Polygon"
  | 11 => .int
  | _ => .int
abbrev wsX100 : List Cond := u_ws RX10 TX10 13
theorem nmX10 : ∀ a, a < 13 → ∀ b, b < 13 → a ≠ b → (TX10 a).2.1 ≠ (TX10 b).2.1 := by decide +kernel
theorem tyX10_ok : ∀ k, k < 13 → parseFieldDescriptor (TX10 k).2.2.1 = some (tyX10 k) := by decide +kernel
abbrev cX10_init : ByteArray := prog_1_method_1_code
def yX10_init : MethodName := ⟨RX10, "<init>", "()V"⟩
abbrev cX10_feed : ByteArray := prog_1_method_2_code
def yX10_feed : MethodName := ⟨RX10, "feed", "(IIIII)I"⟩
abbrev cX10_end : ByteArray := prog_1_method_3_code
def yX10_end : MethodName := ⟨RX10, "end", "(I)I"⟩
abbrev cX10_cut : ByteArray := prog_1_method_4_code
def yX10_cut : MethodName := ⟨RX10, "cut", "()I"⟩
abbrev cX10_fault : ByteArray := prog_1_method_5_code
def yX10_fault : MethodName := ⟨RX10, "fault", "(I)I"⟩
abbrev cX10_take : ByteArray := prog_1_method_6_code
def yX10_take : MethodName := ⟨RX10, "take", "(II)I"⟩
abbrev cX10_told : ByteArray := prog_1_method_7_code
def yX10_told : MethodName := ⟨RX10, "told", "(I)I"⟩
abbrev cX10_triangle : ByteArray := prog_1_method_8_code
def yX10_triangle : MethodName := ⟨RX10, "triangle", "(II)I"⟩
abbrev cX10_entry : ByteArray := prog_1_method_9_code
def yX10_entry : MethodName := ⟨RX10, "entry", "(II)I"⟩
abbrev cX10_row : ByteArray := prog_1_method_10_code
def yX10_row : MethodName := ⟨RX10, "row", "(I)I"⟩
abbrev cX10_way : ByteArray := prog_1_method_11_code
def yX10_way : MethodName := ⟨RX10, "way", "(IIII)I"⟩
abbrev cX10_flip : ByteArray := prog_1_method_12_code
def yX10_flip : MethodName := ⟨RX10, "flip", "(II)I"⟩
abbrev cX10_fewest : ByteArray := prog_1_method_13_code
def yX10_fewest : MethodName := ⟨RX10, "fewest", "(I)I"⟩
abbrev cX10_passed : ByteArray := prog_1_method_14_code
def yX10_passed : MethodName := ⟨RX10, "passed", "(I)I"⟩
abbrev cX10_farthest : ByteArray := prog_1_method_15_code
def yX10_farthest : MethodName := ⟨RX10, "farthest", "(I)I"⟩
abbrev cX10_least : ByteArray := prog_1_method_16_code
def yX10_least : MethodName := ⟨RX10, "least", "(Z)I"⟩
abbrev cX10_kinds : ByteArray := prog_1_method_17_code
def yX10_kinds : MethodName := ⟨RX10, "kinds", "(IZ)I"⟩
abbrev cX10_read : ByteArray := prog_1_method_18_code
def yX10_read : MethodName := ⟨RX10, "read", "()I"⟩
abbrev cX10_mend : ByteArray := prog_1_method_19_code
def yX10_mend : MethodName := ⟨RX10, "mend", "()I"⟩
abbrev cX10_mended : ByteArray := prog_1_method_20_code
def yX10_mended : MethodName := ⟨RX10, "mended", "()I"⟩
abbrev cX10_crossed : ByteArray := prog_1_method_21_code
def yX10_crossed : MethodName := ⟨RX10, "crossed", "(III)I"⟩
abbrev cX10_side : ByteArray := prog_1_method_22_code
def yX10_side : MethodName := ⟨RX10, "side", "(III)I"⟩
abbrev cX10_greatest : ByteArray := prog_1_method_23_code
def yX10_greatest : MethodName := ⟨RX10, "greatest", "(II)I"⟩
abbrev cX10_spread : ByteArray := prog_1_method_24_code
def yX10_spread : MethodName := ⟨RX10, "spread", "(III)I"⟩
abbrev cX10_period : ByteArray := prog_1_method_25_code
def yX10_period : MethodName := ⟨RX10, "period", "()I"⟩
abbrev cX10_ofCut : ByteArray := prog_1_method_26_code
def yX10_ofCut : MethodName := ⟨RX10, "ofCut", "()I"⟩
abbrev cX10_of : ByteArray := prog_1_method_27_code
def yX10_of : MethodName := ⟨RX10, "of", "(I)I"⟩
abbrev cX10_along : ByteArray := prog_1_method_28_code
def yX10_along : MethodName := ⟨RX10, "along", "(II)J"⟩
abbrev cX10_breaks : ByteArray := prog_1_method_29_code
def yX10_breaks : MethodName := ⟨RX10, "breaks", "(I)I"⟩
abbrev cX10_growth : ByteArray := prog_1_method_30_code
def yX10_growth : MethodName := ⟨RX10, "growth", "()J"⟩
abbrev cX10_glue : ByteArray := prog_1_method_31_code
def yX10_glue : MethodName := ⟨RX10, "glue", "(I)I"⟩
abbrev cX10_cutOff : ByteArray := prog_1_method_32_code
def yX10_cutOff : MethodName := ⟨RX10, "cutOff", "(I)I"⟩
abbrev cX10_core : ByteArray := prog_1_method_33_code
def yX10_core : MethodName := ⟨RX10, "core", "()I"⟩
abbrev cX10_see : ByteArray := prog_1_method_34_code
def yX10_see : MethodName := ⟨RX10, "see", "(IIII)I"⟩
abbrev cX10_right : ByteArray := prog_1_method_35_code
def yX10_right : MethodName := ⟨RX10, "right", "(III)I"⟩
abbrev cX10_fit : ByteArray := prog_1_method_36_code
def yX10_fit : MethodName := ⟨RX10, "fit", "(II)I"⟩
abbrev cX10_surely : ByteArray := prog_1_method_37_code
def yX10_surely : MethodName := ⟨RX10, "surely", "(III)I"⟩
abbrev cX10_ask : ByteArray := prog_1_method_38_code
def yX10_ask : MethodName := ⟨RX10, "ask", "(I)I"⟩
abbrev cX10_count : ByteArray := prog_1_method_39_code
def yX10_count : MethodName := ⟨RX10, "count", "(I)I"⟩
abbrev cX10_become : ByteArray := prog_1_method_40_code
def yX10_become : MethodName := ⟨RX10, "become", "(LDiamondRows$Polygon;I)V"⟩
abbrev cX10_areCorners : ByteArray := prog_1_method_41_code
def yX10_areCorners : MethodName := ⟨RX10, "areCorners", "(II)Z"⟩
abbrev cX10_takeRow : ByteArray := prog_1_method_42_code
def yX10_takeRow : MethodName := ⟨RX10, "takeRow", "()Z"⟩
abbrev cX10_isStep : ByteArray := prog_1_method_43_code
def yX10_isStep : MethodName := ⟨RX10, "isStep", "(I)Z"⟩
abbrev cX10_isValue : ByteArray := prog_1_method_44_code
def yX10_isValue : MethodName := ⟨RX10, "isValue", "(I)Z"⟩
def RX11 : String := "DiamondRowsModel"
def TX11 : u_T := fun k => match k with
  | 0 => ("DiamondRowsModel", "tape", "[B", true)
  | 1 => ("DiamondRowsModel", "taped", "I", false)
  | 2 => ("DiamondRowsModel", "size", "I", false)
  | 3 => ("DiamondRowsModel", "sort", "I", false)
  | 4 => ("DiamondRowsModel", "at", "I", false)
  | 5 => ("DiamondRowsModel", "end", "I", false)
  | 6 => ("DiamondRowsModel", "number", "I", false)
  | 7 => ("DiamondRowsModel", "faultKind", "I", false)
  | 8 => ("DiamondRowsModel", "faultPlace", "I", false)
  | 9 => ("DiamondRowsModel", "word", "J", false)
  | 10 => ("DiamondRowsModel", "corners", "I", false)
  | 11 => ("DiamondRowsModel", "numberOf", "[I", true)
  | 12 => ("DiamondRowsModel", "lesser", "[I", true)
  | 13 => ("DiamondRowsModel", "greater", "[I", true)
  | 14 => ("DiamondRowsModel", "lines", "I", false)
  | 15 => ("DiamondRowsModel", "linesFor", "I", false)
  | 16 => ("DiamondRowsModel", "list", "[J", true)
  | 17 => ("DiamondRowsModel", "listMany", "I", false)
  | 18 => ("DiamondRowsModel", "listCorners", "I", false)
  | 19 => ("DiamondRowsModel", "own", "J", false)
  | 20 => ("DiamondRowsModel", "newCorners", "I", false)
  | 21 => ("DiamondRowsModel", "newCut", "J", false)
  | 22 => ("DiamondRowsModel", "tA", "[I", true)
  | 23 => ("DiamondRowsModel", "tB", "[I", true)
  | 24 => ("DiamondRowsModel", "tC", "[I", true)
  | 25 => ("DiamondRowsModel", "from", "[I", true)
  | 26 => ("DiamondRowsModel", "wayLeft", "I", false)
  | 27 => ("DiamondRowsModel", "wayAt", "[I", true)
  | 28 => ("DiamondRowsModel", "flipOne", "I", false)
  | 29 => ("DiamondRowsModel", "flipTwo", "I", false)
  | 30 => ("DiamondRowsModel", "far", "[I", true)
  | 31 => ("DiamondRowsModel", "queue", "[I", true)
  | 32 => ("DiamondRowsModel", "passedMany", "I", false)
  | 33 => ("DiamondRowsModel", "passedBy", "[I", true)
  | 34 => ("DiamondRowsModel", "rowMany", "I", false)
  | 35 => ("DiamondRowsModel", "told", "[I", true)
  | 36 => ("DiamondRowsModel", "mendedBy", "I", false)
  | 37 => ("DiamondRowsModel", "crossMany", "I", false)
  | 38 => ("DiamondRowsModel", "crossLine", "[I", true)
  | 39 => ("DiamondRowsModel", "crossFar", "[I", true)
  | 40 => ("DiamondRowsModel", "periodMany", "I", false)
  | 41 => ("DiamondRowsModel", "period", "[I", true)
  | 42 => ("DiamondRowsModel", "seenMany", "I", false)
  | 43 => ("DiamondRowsModel", "rightMany", "I", false)
  | 44 => ("DiamondRowsModel", "lastTold", "I", false)
  | 45 => ("DiamondRowsModel", "sTold", "[I", true)
  | 46 => ("DiamondRowsModel", "sOne", "[I", true)
  | 47 => ("DiamondRowsModel", "sTwo", "[I", true)
  | 48 => ("DiamondRowsModel", "sEntry", "[I", true)
  | 49 => ("DiamondRowsModel", "rTold", "[I", true)
  | 50 => ("DiamondRowsModel", "rOf", "[I", true)
  | 51 => ("DiamondRowsModel", "rEntry", "[I", true)
  | 52 => ("DiamondRowsModel", "fits", "[Z", true)
  | _ => ("DiamondRowsModel", "heaps", "[I", true)
def tyX11 : Nat → FieldType := fun k => match k with
  | 0 => .array .byte
  | 1 => .int
  | 2 => .int
  | 3 => .int
  | 4 => .int
  | 5 => .int
  | 6 => .int
  | 7 => .int
  | 8 => .int
  | 9 => .long
  | 10 => .int
  | 11 => .array .int
  | 12 => .array .int
  | 13 => .array .int
  | 14 => .int
  | 15 => .int
  | 16 => .array .long
  | 17 => .int
  | 18 => .int
  | 19 => .long
  | 20 => .int
  | 21 => .long
  | 22 => .array .int
  | 23 => .array .int
  | 24 => .array .int
  | 25 => .array .int
  | 26 => .int
  | 27 => .array .int
  | 28 => .int
  | 29 => .int
  | 30 => .array .int
  | 31 => .array .int
  | 32 => .int
  | 33 => .array .int
  | 34 => .int
  | 35 => .array .int
  | 36 => .int
  | 37 => .int
  | 38 => .array .int
  | 39 => .array .int
  | 40 => .int
  | 41 => .array .int
  | 42 => .int
  | 43 => .int
  | 44 => .int
  | 45 => .array .int
  | 46 => .array .int
  | 47 => .array .int
  | 48 => .array .int
  | 49 => .array .int
  | 50 => .array .int
  | 51 => .array .int
  | 52 => .array .boolean
  | _ => .array .int
abbrev wsX110 : List Cond := u_ws RX11 TX11 54
theorem nmX11 : ∀ a, a < 54 → ∀ b, b < 54 → a ≠ b → (TX11 a).2.1 ≠ (TX11 b).2.1 := by decide +kernel
theorem tyX11_ok : ∀ k, k < 54 → parseFieldDescriptor (TX11 k).2.2.1 = some (tyX11 k) := by decide +kernel
abbrev cX11_init : ByteArray := prog_13_method_1_code
def yX11_init : MethodName := ⟨RX11, "<init>", "()V"⟩
abbrev cX11_in : ByteArray := prog_13_method_2_code
def yX11_in : MethodName := ⟨RX11, "in", "(III)Z"⟩
abbrev cX11_feed : ByteArray := prog_13_method_3_code
def yX11_feed : MethodName := ⟨RX11, "feed", "(IIIII)I"⟩
abbrev cX11_end : ByteArray := prog_13_method_4_code
def yX11_end : MethodName := ⟨RX11, "end", "(I)I"⟩
abbrev cX11_byteAt : ByteArray := prog_13_method_5_code
def yX11_byteAt : MethodName := ⟨RX11, "byteAt", "(I)I"⟩
abbrev cX11_isSmall : ByteArray := prog_13_method_6_code
def yX11_isSmall : MethodName := ⟨RX11, "isSmall", "(I)Z"⟩
abbrev cX11_isDigit : ByteArray := prog_13_method_7_code
def yX11_isDigit : MethodName := ⟨RX11, "isDigit", "(I)Z"⟩
abbrev cX11_scan : ByteArray := prog_13_method_8_code
def yX11_scan : MethodName := ⟨RX11, "scan", "()V"⟩
abbrev cX11_begin : ByteArray := prog_13_method_9_code
def yX11_begin : MethodName := ⟨RX11, "begin", "()V"⟩
abbrev cX11_fails : ByteArray := prog_13_method_10_code
def yX11_fails : MethodName := ⟨RX11, "fails", "(I)Z"⟩
abbrev cX11_fault : ByteArray := prog_13_method_11_code
def yX11_fault : MethodName := ⟨RX11, "fault", "(I)I"⟩
abbrev cX11_isNext : ByteArray := prog_13_method_12_code
def yX11_isNext : MethodName := ⟨RX11, "isNext", "(III)Z"⟩
abbrev cX11_isLine : ByteArray := prog_13_method_13_code
def yX11_isLine : MethodName := ⟨RX11, "isLine", "(III)Z"⟩
abbrev cX11_linesOf : ByteArray := prog_13_method_14_code
def yX11_linesOf : MethodName := ⟨RX11, "linesOf", "(I)V"⟩
abbrev cX11_isBetween : ByteArray := prog_13_method_15_code
def yX11_isBetween : MethodName := ⟨RX11, "isBetween", "(IIII)Z"⟩
abbrev cX11_isCross : ByteArray := prog_13_method_16_code
def yX11_isCross : MethodName := ⟨RX11, "isCross", "(IIIII)Z"⟩
abbrev cX11_listFor : ByteArray := prog_13_method_17_code
def yX11_listFor : MethodName := ⟨RX11, "listFor", "(I)V"⟩
abbrev cX11_grow : ByteArray := prog_13_method_18_code
def yX11_grow : MethodName := ⟨RX11, "grow", "(IJII)V"⟩
abbrev cX11_placeOf : ByteArray := prog_13_method_19_code
def yX11_placeOf : MethodName := ⟨RX11, "placeOf", "(J)I"⟩
abbrev cX11_ownNumber : ByteArray := prog_13_method_20_code
def yX11_ownNumber : MethodName := ⟨RX11, "ownNumber", "()I"⟩
abbrev cX11_becomes : ByteArray := prog_13_method_21_code
def yX11_becomes : MethodName := ⟨RX11, "becomes", "(IJ)V"⟩
abbrev cX11_near : ByteArray := prog_13_method_22_code
def yX11_near : MethodName := ⟨RX11, "near", "(IJII)Z"⟩
abbrev cX11_readCorner : ByteArray := prog_13_method_23_code
def yX11_readCorner : MethodName := ⟨RX11, "readCorner", "()Z"⟩
abbrev cX11_readCut : ByteArray := prog_13_method_24_code
def yX11_readCut : MethodName := ⟨RX11, "readCut", "()Z"⟩
abbrev cX11_cut : ByteArray := prog_13_method_25_code
def yX11_cut : MethodName := ⟨RX11, "cut", "()I"⟩
abbrev cX11_take : ByteArray := prog_13_method_26_code
def yX11_take : MethodName := ⟨RX11, "take", "(II)I"⟩
abbrev cX11_told : ByteArray := prog_13_method_27_code
def yX11_told : MethodName := ⟨RX11, "told", "(I)I"⟩
abbrev cX11_isCorner : ByteArray := prog_13_method_28_code
def yX11_isCorner : MethodName := ⟨RX11, "isCorner", "(I)Z"⟩
abbrev cX11_trianglesOf : ByteArray := prog_13_method_29_code
def yX11_trianglesOf : MethodName := ⟨RX11, "trianglesOf", "(IJ)V"⟩
abbrev cX11_triangle : ByteArray := prog_13_method_30_code
def yX11_triangle : MethodName := ⟨RX11, "triangle", "(II)I"⟩
abbrev cX11_isAt : ByteArray := prog_13_method_31_code
def yX11_isAt : MethodName := ⟨RX11, "isAt", "(II)Z"⟩
abbrev cX11_entriesFrom : ByteArray := prog_13_method_32_code
def yX11_entriesFrom : MethodName := ⟨RX11, "entriesFrom", "(IJI)V"⟩
abbrev cX11_entryOf : ByteArray := prog_13_method_33_code
def yX11_entryOf : MethodName := ⟨RX11, "entryOf", "(IJII)I"⟩
abbrev cX11_entry : ByteArray := prog_13_method_34_code
def yX11_entry : MethodName := ⟨RX11, "entry", "(II)I"⟩
abbrev cX11_rowAt : ByteArray := prog_13_method_35_code
def yX11_rowAt : MethodName := ⟨RX11, "rowAt", "(IJI)I"⟩
abbrev cX11_row : ByteArray := prog_13_method_36_code
def yX11_row : MethodName := ⟨RX11, "row", "(I)I"⟩
abbrev cX11_isWay : ByteArray := prog_13_method_37_code
def yX11_isWay : MethodName := ⟨RX11, "isWay", "(IIII)Z"⟩
abbrev cX11_way : ByteArray := prog_13_method_38_code
def yX11_way : MethodName := ⟨RX11, "way", "(IIII)I"⟩
abbrev cX11_flipped : ByteArray := prog_13_method_39_code
def yX11_flipped : MethodName := ⟨RX11, "flipped", "(IJII)J"⟩
abbrev cX11_flip : ByteArray := prog_13_method_40_code
def yX11_flip : MethodName := ⟨RX11, "flip", "(II)I"⟩
abbrev cX11_spreadFrom : ByteArray := prog_13_method_41_code
def yX11_spreadFrom : MethodName := ⟨RX11, "spreadFrom", "(I)V"⟩
abbrev cX11_fewest : ByteArray := prog_13_method_42_code
def yX11_fewest : MethodName := ⟨RX11, "fewest", "(I)I"⟩
abbrev cX11_passed : ByteArray := prog_13_method_43_code
def yX11_passed : MethodName := ⟨RX11, "passed", "(I)I"⟩
abbrev cX11_farthest : ByteArray := prog_13_method_44_code
def yX11_farthest : MethodName := ⟨RX11, "farthest", "(I)I"⟩
abbrev cX11_turned : ByteArray := prog_13_method_45_code
def yX11_turned : MethodName := ⟨RX11, "turned", "(IJIZ)J"⟩
abbrev cX11_leastOf : ByteArray := prog_13_method_46_code
def yX11_leastOf : MethodName := ⟨RX11, "leastOf", "(IJZ)J"⟩
abbrev cX11_least : ByteArray := prog_13_method_47_code
def yX11_least : MethodName := ⟨RX11, "least", "(Z)I"⟩
abbrev cX11_kinds : ByteArray := prog_13_method_48_code
def yX11_kinds : MethodName := ⟨RX11, "kinds", "(IZ)I"⟩
abbrev cX11_readRow : ByteArray := prog_13_method_49_code
def yX11_readRow : MethodName := ⟨RX11, "readRow", "()I"⟩
abbrev cX11_apart : ByteArray := prog_13_method_50_code
def yX11_apart : MethodName := ⟨RX11, "apart", "(J)I"⟩
abbrev cX11_nearest : ByteArray := prog_13_method_51_code
def yX11_nearest : MethodName := ⟨RX11, "nearest", "()I"⟩
abbrev cX11_read : ByteArray := prog_13_method_52_code
def yX11_read : MethodName := ⟨RX11, "read", "()I"⟩
abbrev cX11_mend : ByteArray := prog_13_method_53_code
def yX11_mend : MethodName := ⟨RX11, "mend", "()I"⟩
abbrev cX11_mended : ByteArray := prog_13_method_54_code
def yX11_mended : MethodName := ⟨RX11, "mended", "()I"⟩
abbrev cX11_cross : ByteArray := prog_13_method_55_code
def yX11_cross : MethodName := ⟨RX11, "cross", "(II)V"⟩
abbrev cX11_crossed : ByteArray := prog_13_method_56_code
def yX11_crossed : MethodName := ⟨RX11, "crossed", "(III)I"⟩
abbrev cX11_side : ByteArray := prog_13_method_57_code
def yX11_side : MethodName := ⟨RX11, "side", "(III)I"⟩
abbrev cX11_greatest : ByteArray := prog_13_method_58_code
def yX11_greatest : MethodName := ⟨RX11, "greatest", "(II)I"⟩
abbrev cX11_spread : ByteArray := prog_13_method_59_code
def yX11_spread : MethodName := ⟨RX11, "spread", "(III)I"⟩
abbrev cX11_period : ByteArray := prog_13_method_60_code
def yX11_period : MethodName := ⟨RX11, "period", "()I"⟩
abbrev cX11_ofCut : ByteArray := prog_13_method_61_code
def yX11_ofCut : MethodName := ⟨RX11, "ofCut", "()I"⟩
abbrev cX11_of : ByteArray := prog_13_method_62_code
def yX11_of : MethodName := ⟨RX11, "of", "(I)I"⟩
abbrev cX11_alongOf : ByteArray := prog_13_method_63_code
def yX11_alongOf : MethodName := ⟨RX11, "alongOf", "(II)J"⟩
abbrev cX11_along : ByteArray := prog_13_method_64_code
def yX11_along : MethodName := ⟨RX11, "along", "(II)J"⟩
abbrev cX11_isAll : ByteArray := prog_13_method_65_code
def yX11_isAll : MethodName := ⟨RX11, "isAll", "(IJ)Z"⟩
abbrev cX11_breaks : ByteArray := prog_13_method_66_code
def yX11_breaks : MethodName := ⟨RX11, "breaks", "(I)I"⟩
abbrev cX11_growth : ByteArray := prog_13_method_67_code
def yX11_growth : MethodName := ⟨RX11, "growth", "()J"⟩
abbrev cX11_glue : ByteArray := prog_13_method_68_code
def yX11_glue : MethodName := ⟨RX11, "glue", "(I)I"⟩
abbrev cX11_isOff : ByteArray := prog_13_method_69_code
def yX11_isOff : MethodName := ⟨RX11, "isOff", "(I)Z"⟩
abbrev cX11_off : ByteArray := prog_13_method_70_code
def yX11_off : MethodName := ⟨RX11, "off", "(I)V"⟩
abbrev cX11_cutOff : ByteArray := prog_13_method_71_code
def yX11_cutOff : MethodName := ⟨RX11, "cutOff", "(I)I"⟩
abbrev cX11_core : ByteArray := prog_13_method_72_code
def yX11_core : MethodName := ⟨RX11, "core", "()I"⟩
abbrev cX11_see : ByteArray := prog_13_method_73_code
def yX11_see : MethodName := ⟨RX11, "see", "(IIII)I"⟩
abbrev cX11_right : ByteArray := prog_13_method_74_code
def yX11_right : MethodName := ⟨RX11, "right", "(III)I"⟩
abbrev cX11_isFit : ByteArray := prog_13_method_75_code
def yX11_isFit : MethodName := ⟨RX11, "isFit", "(JI)Z"⟩
abbrev cX11_makeFits : ByteArray := prog_13_method_76_code
def yX11_makeFits : MethodName := ⟨RX11, "makeFits", "(I)I"⟩
abbrev cX11_fit : ByteArray := prog_13_method_77_code
def yX11_fit : MethodName := ⟨RX11, "fit", "(II)I"⟩
abbrev cX11_surely : ByteArray := prog_13_method_78_code
def yX11_surely : MethodName := ⟨RX11, "surely", "(III)I"⟩
abbrev cX11_ask : ByteArray := prog_13_method_79_code
def yX11_ask : MethodName := ⟨RX11, "ask", "(I)I"⟩
abbrev cX11_count : ByteArray := prog_13_method_80_code
def yX11_count : MethodName := ⟨RX11, "count", "(I)I"⟩
def RJ6 : String := "java/lang/Integer"
def TJ6 : u_T := fun k => match k with
  | _ => ("", "", "", false)
def tyJ6 : Nat → FieldType := fun k => match k with
  | _ => .int
abbrev wsJ60 : List Cond := u_ws RJ6 TJ6 0
theorem nmJ6 : ∀ a, a < 0 → ∀ b, b < 0 → a ≠ b → (TJ6 a).2.1 ≠ (TJ6 b).2.1 := by decide +kernel
theorem tyJ6_ok : ∀ k, k < 0 → parseFieldDescriptor (TJ6 k).2.2.1 = some (tyJ6 k) := by decide +kernel
abbrev cJ6_bitCount_0f7a4 : ByteArray := prog_14_method_49_code
def yJ6_bitCount_0f7a4 : MethodName := ⟨RJ6, "bitCount", "(I)I"⟩
def RJ9 : String := "java/lang/Math"
def TJ9 : u_T := fun k => match k with
  | _ => ("", "", "", false)
def tyJ9 : Nat → FieldType := fun k => match k with
  | _ => .int
abbrev wsJ90 : List Cond := u_ws RJ9 TJ9 0
theorem nmJ9 : ∀ a, a < 0 → ∀ b, b < 0 → a ≠ b → (TJ9 a).2.1 ≠ (TJ9 b).2.1 := by decide +kernel
theorem tyJ9_ok : ∀ k, k < 0 → parseFieldDescriptor (TJ9 k).2.2.1 = some (tyJ9 k) := by decide +kernel
abbrev cJ9_floorMod_7cf53 : ByteArray := prog_15_method_50_code
def yJ9_floorMod_7cf53 : MethodName := ⟨RJ9, "floorMod", "(II)I"⟩
abbrev cJ9_abs_0f7a4 : ByteArray := prog_15_method_59_code
def yJ9_abs_0f7a4 : MethodName := ⟨RJ9, "abs", "(I)I"⟩
abbrev cJ9_max_7cf53 : ByteArray := prog_15_method_65_code
def yJ9_max_7cf53 : MethodName := ⟨RJ9, "max", "(II)I"⟩
abbrev cJ9_min_7cf53 : ByteArray := prog_15_method_69_code
def yJ9_min_7cf53 : MethodName := ⟨RJ9, "min", "(II)I"⟩
def RJ0 : String := "java/lang/String"
def TJ0 : u_T := fun k => match k with
  | _ => ("", "", "", false)
def tyJ0 : Nat → FieldType := fun k => match k with
  | _ => .int
abbrev wsJ00 : List Cond := u_ws RJ0 TJ0 0
theorem nmJ0 : ∀ a, a < 0 → ∀ b, b < 0 → a ≠ b → (TJ0 a).2.1 ≠ (TJ0 b).2.1 := by decide +kernel
theorem tyJ0_ok : ∀ k, k < 0 → parseFieldDescriptor (TJ0 k).2.2.1 = some (tyJ0 k) := by decide +kernel
abbrev cJ0_length_8abf5 : ByteArray := prog_16_method_54_code
def yJ0_length_8abf5 : MethodName := ⟨RJ0, "length", "()I"⟩
abbrev cJ0_charAt_5068e : ByteArray := prog_16_method_56_code
def yJ0_charAt_5068e : MethodName := ⟨RJ0, "charAt", "(I)C"⟩
abbrev cJ0_coder_7d493 : ByteArray := prog_16_method_152_code
def yJ0_coder_7d493 : MethodName := ⟨RJ0, "coder", "()B"⟩
abbrev cJ0_isLatin1_aae02 : ByteArray := prog_16_method_154_code
def yJ0_isLatin1_aae02 : MethodName := ⟨RJ0, "isLatin1", "()Z"⟩
abbrev cJ0_checkIndex_df160 : ByteArray := prog_16_method_155_code
def yJ0_checkIndex_df160 : MethodName := ⟨RJ0, "checkIndex", "(II)V"⟩
def RJ1 : String := "java/lang/StringLatin1"
def TJ1 : u_T := fun k => match k with
  | _ => ("", "", "", false)
def tyJ1 : Nat → FieldType := fun k => match k with
  | _ => .int
abbrev wsJ10 : List Cond := u_ws RJ1 TJ1 0
theorem nmJ1 : ∀ a, a < 0 → ∀ b, b < 0 → a ≠ b → (TJ1 a).2.1 ≠ (TJ1 b).2.1 := by decide +kernel
theorem tyJ1_ok : ∀ k, k < 0 → parseFieldDescriptor (TJ1 k).2.2.1 = some (tyJ1 k) := by decide +kernel
abbrev cJ1_charAt_3b067 : ByteArray := prog_17_method_2_code
def yJ1_charAt_3b067 : MethodName := ⟨RJ1, "charAt", "([BI)C"⟩
def RJ2 : String := "java/lang/StringUTF16"
def TJ2 : u_T := fun k => match k with
  | _ => ("", "", "", false)
def tyJ2 : Nat → FieldType := fun k => match k with
  | _ => .int
abbrev wsJ20 : List Cond := u_ws RJ2 TJ2 0
theorem nmJ2 : ∀ a, a < 0 → ∀ b, b < 0 → a ≠ b → (TJ2 a).2.1 ≠ (TJ2 b).2.1 := by decide +kernel
theorem tyJ2_ok : ∀ k, k < 0 → parseFieldDescriptor (TJ2 k).2.2.1 = some (tyJ2 k) := by decide +kernel
abbrev cJ2_getChar_3b067 : ByteArray := prog_18_method_5_code
def yJ2_getChar_3b067 : MethodName := ⟨RJ2, "getChar", "([BI)C"⟩
abbrev cJ2_length_9d52b : ByteArray := prog_18_method_6_code
def yJ2_length_9d52b : MethodName := ⟨RJ2, "length", "([B)I"⟩
abbrev cJ2_charAt_3b067 : ByteArray := prog_18_method_83_code
def yJ2_charAt_3b067 : MethodName := ⟨RJ2, "charAt", "([BI)C"⟩
abbrev cJ2_checkIndex_2214a : ByteArray := prog_18_method_91_code
def yJ2_checkIndex_2214a : MethodName := ⟨RJ2, "checkIndex", "(I[B)V"⟩
def RJ3 : String := "jdk/internal/util/Preconditions"
def TJ3 : u_T := fun k => match k with
  | _ => ("", "", "", false)
def tyJ3 : Nat → FieldType := fun k => match k with
  | _ => .int
abbrev wsJ30 : List Cond := u_ws RJ3 TJ3 0
theorem nmJ3 : ∀ a, a < 0 → ∀ b, b < 0 → a ≠ b → (TJ3 a).2.1 ≠ (TJ3 b).2.1 := by decide +kernel
theorem tyJ3_ok : ∀ k, k < 0 → parseFieldDescriptor (TJ3 k).2.2.1 = some (tyJ3 k) := by decide +kernel
abbrev cJ3_checkIndex_8e157 : ByteArray := prog_19_method_11_code
def yJ3_checkIndex_8e157 : MethodName := ⟨RJ3, "checkIndex", "(IILjava/util/function/BiFunction;)I"⟩
def RL : String := "DiamondRowsLaw"
abbrev cL_law : ByteArray := code
def yL_law : MethodName := ⟨RL, "law", "([I)Z"⟩
abbrev vwCl : List vw_C := [(RX0, TX0, 2), (RX1, TX1, 6), (RX2, TX2, 2), (RX3, TX3, 3), (RX4, TX4, 5), (RX5, TX5, 9), (RX6, TX6, 1), (RX7, TX7, 12), (RX8, TX8, 6), (RX9, TX9, 7), (RX10, TX10, 13), (RX11, TX11, 54)]
end

section
/-! bytes, packed, and what they are decoded to -/
noncomputable def unp (N : Nat) (n : Nat) : Nat → List UInt8 := Nat.rec (motive := fun _ => Nat → List UInt8) (fun _ => []) (fun _ ih off => UInt8.ofNat ((N >>> (8 * off)) % 256) :: ih (off + 1)) n
theorem unp_at (N : Nat) : ∀ (n off i : Nat), i < n → (unp N n off)[i]? = some (UInt8.ofNat ((N >>> (8 * (off + i))) % 256)) := by
  intro n
  induction n with
  | zero => intro off i h; omega
  | succ n ih =>
    intro off i h
    show (UInt8.ofNat ((N >>> (8 * off)) % 256) :: unp N n (off + 1))[i]? = _
    cases i with
    | zero => rfl
    | succ i => rw [List.getElem?_cons_succ, ih (off + 1) i (by omega), show off + 1 + i = off + (i + 1) by omega]
def By (c : ByteArray) (p b : Nat) : Prop := ∃ h : p < c.size, c[p].toNat = b
theorem by_of {c : ByteArray} {p : Nat} {x : UInt8} (h : c.data.toList[p]? = some x) : By c p x.toNat := by
  cases c with
  | mk a =>
    obtain ⟨h1, h2⟩ := List.getElem?_eq_some_iff.mp h
    have h1 : p < a.toList.length := h1
    have h2 : a.toList[p] = x := h2
    rw [Array.length_toList] at h1
    refine ⟨h1, ?_⟩
    show (a[p]).toNat = x.toNat
    rw [← h2, Array.getElem_toList]
def tb (N n p b : Nat) : Bool := Nat.ble (p + 1) n && Nat.beq ((N >>> (8 * p)) % 256) b
theorem lb1 {c : ByteArray} {N n : Nat} (l : c.data.toList = unp N n 0) {p b : Nat} (h : tb N n p b = true) : By c p b := by
  unfold tb at h
  rw [Bool.and_eq_true] at h
  obtain ⟨h1, h2⟩ := h
  have h1 : p < n := Nat.le_of_ble_eq_true h1
  have h2 : (N >>> (8 * p)) % 256 = b := Nat.eq_of_beq_eq_true h2
  have q := unp_at N n 0 p h1
  rw [← l, Nat.zero_add, h2] at q
  have r := by_of q
  have lt : b < 256 := by
    rw [← h2]
    exact Nat.mod_lt _ (by decide)
  have e : (UInt8.ofNat b).toNat = b % 256 := rfl
  rw [e, Nat.mod_eq_of_lt lt] at r
  exact r
def t2u (N n p o v : Nat) : Bool := tb N n p o && tb N n (p + 1) v
def t3u (N n p o a b v : Nat) : Bool := tb N n p o && (tb N n (p + 1) a && (tb N n (p + 2) b && Nat.beq (a * 256 + b) v))
def t2s (N n p o a : Nat) (v : Int) : Bool := tb N n p o && (tb N n (p + 1) a && decide (Reader.signed 8 a = v))
def t3s (N n p o a b : Nat) (v : Int) : Bool := tb N n p o && (tb N n (p + 1) a && (tb N n (p + 2) b && decide (Reader.signed 16 (a * 256 + b) = v)))
def t3i (N n p o x b : Nat) (v : Int) : Bool := tb N n p o && (tb N n (p + 1) x && (tb N n (p + 2) b && decide (Reader.signed 8 b = v)))
theorem b2u {c : ByteArray} {N n p o v : Nat} (l : c.data.toList = unp N n 0) (h : t2u N n p o v = true) : By c p o ∧ By c (p + 1) v := by
  unfold t2u at h
  rw [Bool.and_eq_true] at h
  exact ⟨lb1 l h.1, lb1 l h.2⟩
theorem b3u {c : ByteArray} {N n p o a b v : Nat} (l : c.data.toList = unp N n 0) (h : t3u N n p o a b v = true) : By c p o ∧ By c (p + 1) a ∧ By c (p + 2) b ∧ a * 256 + b = v := by
  unfold t3u at h
  rw [Bool.and_eq_true, Bool.and_eq_true, Bool.and_eq_true] at h
  exact ⟨lb1 l h.1, lb1 l h.2.1, lb1 l h.2.2.1, Nat.eq_of_beq_eq_true h.2.2.2⟩
theorem b2s {c : ByteArray} {N n p o a : Nat} {v : Int} (l : c.data.toList = unp N n 0) (h : t2s N n p o a v = true) : By c p o ∧ By c (p + 1) a ∧ Reader.signed 8 a = v := by
  unfold t2s at h
  rw [Bool.and_eq_true, Bool.and_eq_true] at h
  exact ⟨lb1 l h.1, lb1 l h.2.1, of_decide_eq_true h.2.2⟩
theorem b3s {c : ByteArray} {N n p o a b : Nat} {v : Int} (l : c.data.toList = unp N n 0) (h : t3s N n p o a b v = true) : By c p o ∧ By c (p + 1) a ∧ By c (p + 2) b ∧ Reader.signed 16 (a * 256 + b) = v := by
  unfold t3s at h
  rw [Bool.and_eq_true, Bool.and_eq_true, Bool.and_eq_true] at h
  exact ⟨lb1 l h.1, lb1 l h.2.1, lb1 l h.2.2.1, of_decide_eq_true h.2.2.2⟩
theorem b3i {c : ByteArray} {N n p o x b : Nat} {v : Int} (l : c.data.toList = unp N n 0) (h : t3i N n p o x b v = true) : By c p o ∧ By c (p + 1) x ∧ By c (p + 2) b ∧ Reader.signed 8 b = v := by
  unfold t3i at h
  rw [Bool.and_eq_true, Bool.and_eq_true, Bool.and_eq_true] at h
  exact ⟨lb1 l h.1, lb1 l h.2.1, lb1 l h.2.2.1, of_decide_eq_true h.2.2.2⟩
theorem u1_by {c : ByteArray} {p b : Nat} (h : By c p b) : (Reader.u1 : Decoder Nat) c p = .ok (b, p + 1) := by
  obtain ⟨h1, h2⟩ := h
  show (dite (p < c.size) _ _ : Decoder Nat) c p = _
  rw [dif_pos h1, ← h2]
  rfl
theorem u2_by {c : ByteArray} {p a b : Nat} (h : By c p a) (h' : By c (p + 1) b) : (Reader.u2 : Decoder Nat) c p = .ok (a * 256 + b, p + 2) := by
  show Except.bind ((Reader.u1 : Decoder Nat) c p) (fun r => Except.bind ((Reader.u1 : Decoder Nat) c r.2) (fun r' => .ok (r.1 * 256 + r'.1, r'.2))) = _
  rw [u1_by h]
  show Except.bind ((Reader.u1 : Decoder Nat) c (p + 1)) (fun r' => .ok (a * 256 + r'.1, r'.2)) = _
  rw [u1_by h']
  rfl
theorem s1_by {c : ByteArray} {p b : Nat} (h : By c p b) : (Reader.s1 : Decoder Int) c p = .ok (Reader.signed 8 b, p + 1) := by
  show Except.bind ((Reader.u1 : Decoder Nat) c p) (fun r => .ok (Reader.signed 8 r.1, r.2)) = _
  rw [u1_by h]
  rfl
theorem s2_by {c : ByteArray} {p a b : Nat} (h : By c p a) (h' : By c (p + 1) b) : (Reader.s2 : Decoder Int) c p = .ok (Reader.signed 16 (a * 256 + b), p + 2) := by
  show Except.bind ((Reader.u2 : Decoder Nat) c p) (fun r => .ok (Reader.signed 16 r.1, r.2)) = _
  rw [u2_by h h']
  rfl
theorem dec_k {c : ByteArray} {p b q : Nat} {x : Instr} (K : Nat → Decoder Instr) (hK : Decoder.instr p = Reader.u1 >>= K) (h : By c p b) (hx : K b c (p + 1) = .ok (x, q)) : decode c p = .ok (x, q - p) := by
  have e : Reader.runAt (Decoder.instr p) c p = .ok (x, q) := by
    rw [hK]
    show Except.bind ((Reader.u1 : Decoder Nat) c p) (fun r => K r.1 c r.2) = _
    rw [u1_by h]
    exact hx
  unfold decode
  rw [e]
  rfl

theorem op_1 {c : ByteArray} {N n p : Nat} (l : c.data.toList = unp N n 0) (h : tb N n p 1 = true) : decode c p = .ok (.aconst_null, 1) := by
  have t := dec_k (x := .aconst_null) (q := p + 1) _ rfl (lb1 l h) rfl
  rw [show p + 1 - p = 1 by omega] at t
  exact t
theorem op_2 {c : ByteArray} {N n p : Nat} (l : c.data.toList = unp N n 0) (h : tb N n p 2 = true) : decode c p = .ok (.iconst (-1), 1) := by
  have t := dec_k (x := .iconst (-1)) (q := p + 1) _ rfl (lb1 l h) rfl
  rw [show p + 1 - p = 1 by omega] at t
  exact t
theorem op_3 {c : ByteArray} {N n p : Nat} (l : c.data.toList = unp N n 0) (h : tb N n p 3 = true) : decode c p = .ok (.iconst 0, 1) := by
  have t := dec_k (x := .iconst 0) (q := p + 1) _ rfl (lb1 l h) rfl
  rw [show p + 1 - p = 1 by omega] at t
  exact t
theorem op_4 {c : ByteArray} {N n p : Nat} (l : c.data.toList = unp N n 0) (h : tb N n p 4 = true) : decode c p = .ok (.iconst 1, 1) := by
  have t := dec_k (x := .iconst 1) (q := p + 1) _ rfl (lb1 l h) rfl
  rw [show p + 1 - p = 1 by omega] at t
  exact t
theorem op_5 {c : ByteArray} {N n p : Nat} (l : c.data.toList = unp N n 0) (h : tb N n p 5 = true) : decode c p = .ok (.iconst 2, 1) := by
  have t := dec_k (x := .iconst 2) (q := p + 1) _ rfl (lb1 l h) rfl
  rw [show p + 1 - p = 1 by omega] at t
  exact t
theorem op_6 {c : ByteArray} {N n p : Nat} (l : c.data.toList = unp N n 0) (h : tb N n p 6 = true) : decode c p = .ok (.iconst 3, 1) := by
  have t := dec_k (x := .iconst 3) (q := p + 1) _ rfl (lb1 l h) rfl
  rw [show p + 1 - p = 1 by omega] at t
  exact t
theorem op_7 {c : ByteArray} {N n p : Nat} (l : c.data.toList = unp N n 0) (h : tb N n p 7 = true) : decode c p = .ok (.iconst 4, 1) := by
  have t := dec_k (x := .iconst 4) (q := p + 1) _ rfl (lb1 l h) rfl
  rw [show p + 1 - p = 1 by omega] at t
  exact t
theorem op_8 {c : ByteArray} {N n p : Nat} (l : c.data.toList = unp N n 0) (h : tb N n p 8 = true) : decode c p = .ok (.iconst 5, 1) := by
  have t := dec_k (x := .iconst 5) (q := p + 1) _ rfl (lb1 l h) rfl
  rw [show p + 1 - p = 1 by omega] at t
  exact t
theorem op_9 {c : ByteArray} {N n p : Nat} (l : c.data.toList = unp N n 0) (h : tb N n p 9 = true) : decode c p = .ok (.lconst 0, 1) := by
  have t := dec_k (x := .lconst 0) (q := p + 1) _ rfl (lb1 l h) rfl
  rw [show p + 1 - p = 1 by omega] at t
  exact t
theorem op_10 {c : ByteArray} {N n p : Nat} (l : c.data.toList = unp N n 0) (h : tb N n p 10 = true) : decode c p = .ok (.lconst 1, 1) := by
  have t := dec_k (x := .lconst 1) (q := p + 1) _ rfl (lb1 l h) rfl
  rw [show p + 1 - p = 1 by omega] at t
  exact t
theorem op_16 {c : ByteArray} {N n p : Nat} (l : c.data.toList = unp N n 0) (a : Nat) {v : Int} (h : t2s N n p 16 a v = true) : decode c p = .ok (.bipush v, 2) := by
  obtain ⟨h0, h1, e⟩ := b2s l h
  subst e
  have t := dec_k (x := .bipush (Reader.signed 8 a)) (q := p + 2) _ rfl h0 (by
    show Except.bind ((Reader.s1 : Decoder Int) c (p + 1)) (fun r => .ok (Instr.bipush r.1, r.2)) = _
    rw [s1_by h1]
    rfl)
  rw [show p + 2 - p = 2 by omega] at t
  exact t
theorem op_17 {c : ByteArray} {N n p : Nat} (l : c.data.toList = unp N n 0) (a b : Nat) {v : Int} (h : t3s N n p 17 a b v = true) : decode c p = .ok (.sipush v, 3) := by
  obtain ⟨h0, h1, h2, e⟩ := b3s l h
  subst e
  have t := dec_k (x := .sipush (Reader.signed 16 (a * 256 + b))) (q := p + 3) _ rfl h0 (by
    show Except.bind ((Reader.s2 : Decoder Int) c (p + 1)) (fun r => .ok (Instr.sipush r.1, r.2)) = _
    rw [s2_by h1 h2]
    rfl)
  rw [show p + 3 - p = 3 by omega] at t
  exact t
theorem op_18 {c : ByteArray} {N n p : Nat} (l : c.data.toList = unp N n 0) {v : Nat} (h : t2u N n p 18 v = true) : decode c p = .ok (.ldc v, 2) := by
  obtain ⟨h0, h1⟩ := b2u l h
  have t := dec_k (x := .ldc v) (q := p + 2) _ rfl h0 (by
    show Except.bind ((Reader.u1 : Decoder Nat) c (p + 1)) (fun r => .ok (Instr.ldc r.1, r.2)) = _
    rw [u1_by h1]
    rfl)
  rw [show p + 2 - p = 2 by omega] at t
  exact t
theorem op_19 {c : ByteArray} {N n p : Nat} (l : c.data.toList = unp N n 0) (a b : Nat) {v : Nat} (h : t3u N n p 19 a b v = true) : decode c p = .ok (.ldc_w v, 3) := by
  obtain ⟨h0, h1, h2, e⟩ := b3u l h
  subst e
  have t := dec_k (x := .ldc_w (a * 256 + b)) (q := p + 3) _ rfl h0 (by
    show Except.bind ((Reader.u2 : Decoder Nat) c (p + 1)) (fun r => .ok (Instr.ldc_w r.1, r.2)) = _
    rw [u2_by h1 h2]
    rfl)
  rw [show p + 3 - p = 3 by omega] at t
  exact t
theorem op_20 {c : ByteArray} {N n p : Nat} (l : c.data.toList = unp N n 0) (a b : Nat) {v : Nat} (h : t3u N n p 20 a b v = true) : decode c p = .ok (.ldc2_w v, 3) := by
  obtain ⟨h0, h1, h2, e⟩ := b3u l h
  subst e
  have t := dec_k (x := .ldc2_w (a * 256 + b)) (q := p + 3) _ rfl h0 (by
    show Except.bind ((Reader.u2 : Decoder Nat) c (p + 1)) (fun r => .ok (Instr.ldc2_w r.1, r.2)) = _
    rw [u2_by h1 h2]
    rfl)
  rw [show p + 3 - p = 3 by omega] at t
  exact t
theorem op_21 {c : ByteArray} {N n p : Nat} (l : c.data.toList = unp N n 0) {v : Nat} (h : t2u N n p 21 v = true) : decode c p = .ok (.iload v, 2) := by
  obtain ⟨h0, h1⟩ := b2u l h
  have t := dec_k (x := .iload v) (q := p + 2) _ rfl h0 (by
    show Except.bind ((Reader.u1 : Decoder Nat) c (p + 1)) (fun r => .ok (Instr.iload r.1, r.2)) = _
    rw [u1_by h1]
    rfl)
  rw [show p + 2 - p = 2 by omega] at t
  exact t
theorem op_22 {c : ByteArray} {N n p : Nat} (l : c.data.toList = unp N n 0) {v : Nat} (h : t2u N n p 22 v = true) : decode c p = .ok (.lload v, 2) := by
  obtain ⟨h0, h1⟩ := b2u l h
  have t := dec_k (x := .lload v) (q := p + 2) _ rfl h0 (by
    show Except.bind ((Reader.u1 : Decoder Nat) c (p + 1)) (fun r => .ok (Instr.lload r.1, r.2)) = _
    rw [u1_by h1]
    rfl)
  rw [show p + 2 - p = 2 by omega] at t
  exact t
theorem op_26 {c : ByteArray} {N n p : Nat} (l : c.data.toList = unp N n 0) (h : tb N n p 26 = true) : decode c p = .ok (.iload_n 0, 1) := by
  have t := dec_k (x := .iload_n 0) (q := p + 1) _ rfl (lb1 l h) rfl
  rw [show p + 1 - p = 1 by omega] at t
  exact t
theorem op_27 {c : ByteArray} {N n p : Nat} (l : c.data.toList = unp N n 0) (h : tb N n p 27 = true) : decode c p = .ok (.iload_n 1, 1) := by
  have t := dec_k (x := .iload_n 1) (q := p + 1) _ rfl (lb1 l h) rfl
  rw [show p + 1 - p = 1 by omega] at t
  exact t
theorem op_28 {c : ByteArray} {N n p : Nat} (l : c.data.toList = unp N n 0) (h : tb N n p 28 = true) : decode c p = .ok (.iload_n 2, 1) := by
  have t := dec_k (x := .iload_n 2) (q := p + 1) _ rfl (lb1 l h) rfl
  rw [show p + 1 - p = 1 by omega] at t
  exact t
theorem op_29 {c : ByteArray} {N n p : Nat} (l : c.data.toList = unp N n 0) (h : tb N n p 29 = true) : decode c p = .ok (.iload_n 3, 1) := by
  have t := dec_k (x := .iload_n 3) (q := p + 1) _ rfl (lb1 l h) rfl
  rw [show p + 1 - p = 1 by omega] at t
  exact t
theorem op_31 {c : ByteArray} {N n p : Nat} (l : c.data.toList = unp N n 0) (h : tb N n p 31 = true) : decode c p = .ok (.lload_n 1, 1) := by
  have t := dec_k (x := .lload_n 1) (q := p + 1) _ rfl (lb1 l h) rfl
  rw [show p + 1 - p = 1 by omega] at t
  exact t
theorem op_32 {c : ByteArray} {N n p : Nat} (l : c.data.toList = unp N n 0) (h : tb N n p 32 = true) : decode c p = .ok (.lload_n 2, 1) := by
  have t := dec_k (x := .lload_n 2) (q := p + 1) _ rfl (lb1 l h) rfl
  rw [show p + 1 - p = 1 by omega] at t
  exact t
theorem op_33 {c : ByteArray} {N n p : Nat} (l : c.data.toList = unp N n 0) (h : tb N n p 33 = true) : decode c p = .ok (.lload_n 3, 1) := by
  have t := dec_k (x := .lload_n 3) (q := p + 1) _ rfl (lb1 l h) rfl
  rw [show p + 1 - p = 1 by omega] at t
  exact t
theorem op_42 {c : ByteArray} {N n p : Nat} (l : c.data.toList = unp N n 0) (h : tb N n p 42 = true) : decode c p = .ok (.aload_n 0, 1) := by
  have t := dec_k (x := .aload_n 0) (q := p + 1) _ rfl (lb1 l h) rfl
  rw [show p + 1 - p = 1 by omega] at t
  exact t
theorem op_43 {c : ByteArray} {N n p : Nat} (l : c.data.toList = unp N n 0) (h : tb N n p 43 = true) : decode c p = .ok (.aload_n 1, 1) := by
  have t := dec_k (x := .aload_n 1) (q := p + 1) _ rfl (lb1 l h) rfl
  rw [show p + 1 - p = 1 by omega] at t
  exact t
theorem op_44 {c : ByteArray} {N n p : Nat} (l : c.data.toList = unp N n 0) (h : tb N n p 44 = true) : decode c p = .ok (.aload_n 2, 1) := by
  have t := dec_k (x := .aload_n 2) (q := p + 1) _ rfl (lb1 l h) rfl
  rw [show p + 1 - p = 1 by omega] at t
  exact t
theorem op_45 {c : ByteArray} {N n p : Nat} (l : c.data.toList = unp N n 0) (h : tb N n p 45 = true) : decode c p = .ok (.aload_n 3, 1) := by
  have t := dec_k (x := .aload_n 3) (q := p + 1) _ rfl (lb1 l h) rfl
  rw [show p + 1 - p = 1 by omega] at t
  exact t
theorem op_46 {c : ByteArray} {N n p : Nat} (l : c.data.toList = unp N n 0) (h : tb N n p 46 = true) : decode c p = .ok (.iaload, 1) := by
  have t := dec_k (x := .iaload) (q := p + 1) _ rfl (lb1 l h) rfl
  rw [show p + 1 - p = 1 by omega] at t
  exact t
theorem op_47 {c : ByteArray} {N n p : Nat} (l : c.data.toList = unp N n 0) (h : tb N n p 47 = true) : decode c p = .ok (.laload, 1) := by
  have t := dec_k (x := .laload) (q := p + 1) _ rfl (lb1 l h) rfl
  rw [show p + 1 - p = 1 by omega] at t
  exact t
theorem op_50 {c : ByteArray} {N n p : Nat} (l : c.data.toList = unp N n 0) (h : tb N n p 50 = true) : decode c p = .ok (.aaload, 1) := by
  have t := dec_k (x := .aaload) (q := p + 1) _ rfl (lb1 l h) rfl
  rw [show p + 1 - p = 1 by omega] at t
  exact t
theorem op_51 {c : ByteArray} {N n p : Nat} (l : c.data.toList = unp N n 0) (h : tb N n p 51 = true) : decode c p = .ok (.baload, 1) := by
  have t := dec_k (x := .baload) (q := p + 1) _ rfl (lb1 l h) rfl
  rw [show p + 1 - p = 1 by omega] at t
  exact t
theorem op_54 {c : ByteArray} {N n p : Nat} (l : c.data.toList = unp N n 0) {v : Nat} (h : t2u N n p 54 v = true) : decode c p = .ok (.istore v, 2) := by
  obtain ⟨h0, h1⟩ := b2u l h
  have t := dec_k (x := .istore v) (q := p + 2) _ rfl h0 (by
    show Except.bind ((Reader.u1 : Decoder Nat) c (p + 1)) (fun r => .ok (Instr.istore r.1, r.2)) = _
    rw [u1_by h1]
    rfl)
  rw [show p + 2 - p = 2 by omega] at t
  exact t
theorem op_55 {c : ByteArray} {N n p : Nat} (l : c.data.toList = unp N n 0) {v : Nat} (h : t2u N n p 55 v = true) : decode c p = .ok (.lstore v, 2) := by
  obtain ⟨h0, h1⟩ := b2u l h
  have t := dec_k (x := .lstore v) (q := p + 2) _ rfl h0 (by
    show Except.bind ((Reader.u1 : Decoder Nat) c (p + 1)) (fun r => .ok (Instr.lstore r.1, r.2)) = _
    rw [u1_by h1]
    rfl)
  rw [show p + 2 - p = 2 by omega] at t
  exact t
theorem op_59 {c : ByteArray} {N n p : Nat} (l : c.data.toList = unp N n 0) (h : tb N n p 59 = true) : decode c p = .ok (.istore_n 0, 1) := by
  have t := dec_k (x := .istore_n 0) (q := p + 1) _ rfl (lb1 l h) rfl
  rw [show p + 1 - p = 1 by omega] at t
  exact t
theorem op_60 {c : ByteArray} {N n p : Nat} (l : c.data.toList = unp N n 0) (h : tb N n p 60 = true) : decode c p = .ok (.istore_n 1, 1) := by
  have t := dec_k (x := .istore_n 1) (q := p + 1) _ rfl (lb1 l h) rfl
  rw [show p + 1 - p = 1 by omega] at t
  exact t
theorem op_61 {c : ByteArray} {N n p : Nat} (l : c.data.toList = unp N n 0) (h : tb N n p 61 = true) : decode c p = .ok (.istore_n 2, 1) := by
  have t := dec_k (x := .istore_n 2) (q := p + 1) _ rfl (lb1 l h) rfl
  rw [show p + 1 - p = 1 by omega] at t
  exact t
theorem op_62 {c : ByteArray} {N n p : Nat} (l : c.data.toList = unp N n 0) (h : tb N n p 62 = true) : decode c p = .ok (.istore_n 3, 1) := by
  have t := dec_k (x := .istore_n 3) (q := p + 1) _ rfl (lb1 l h) rfl
  rw [show p + 1 - p = 1 by omega] at t
  exact t
theorem op_66 {c : ByteArray} {N n p : Nat} (l : c.data.toList = unp N n 0) (h : tb N n p 66 = true) : decode c p = .ok (.lstore_n 3, 1) := by
  have t := dec_k (x := .lstore_n 3) (q := p + 1) _ rfl (lb1 l h) rfl
  rw [show p + 1 - p = 1 by omega] at t
  exact t
theorem op_76 {c : ByteArray} {N n p : Nat} (l : c.data.toList = unp N n 0) (h : tb N n p 76 = true) : decode c p = .ok (.astore_n 1, 1) := by
  have t := dec_k (x := .astore_n 1) (q := p + 1) _ rfl (lb1 l h) rfl
  rw [show p + 1 - p = 1 by omega] at t
  exact t
theorem op_77 {c : ByteArray} {N n p : Nat} (l : c.data.toList = unp N n 0) (h : tb N n p 77 = true) : decode c p = .ok (.astore_n 2, 1) := by
  have t := dec_k (x := .astore_n 2) (q := p + 1) _ rfl (lb1 l h) rfl
  rw [show p + 1 - p = 1 by omega] at t
  exact t
theorem op_78 {c : ByteArray} {N n p : Nat} (l : c.data.toList = unp N n 0) (h : tb N n p 78 = true) : decode c p = .ok (.astore_n 3, 1) := by
  have t := dec_k (x := .astore_n 3) (q := p + 1) _ rfl (lb1 l h) rfl
  rw [show p + 1 - p = 1 by omega] at t
  exact t
theorem op_79 {c : ByteArray} {N n p : Nat} (l : c.data.toList = unp N n 0) (h : tb N n p 79 = true) : decode c p = .ok (.iastore, 1) := by
  have t := dec_k (x := .iastore) (q := p + 1) _ rfl (lb1 l h) rfl
  rw [show p + 1 - p = 1 by omega] at t
  exact t
theorem op_80 {c : ByteArray} {N n p : Nat} (l : c.data.toList = unp N n 0) (h : tb N n p 80 = true) : decode c p = .ok (.lastore, 1) := by
  have t := dec_k (x := .lastore) (q := p + 1) _ rfl (lb1 l h) rfl
  rw [show p + 1 - p = 1 by omega] at t
  exact t
theorem op_83 {c : ByteArray} {N n p : Nat} (l : c.data.toList = unp N n 0) (h : tb N n p 83 = true) : decode c p = .ok (.aastore, 1) := by
  have t := dec_k (x := .aastore) (q := p + 1) _ rfl (lb1 l h) rfl
  rw [show p + 1 - p = 1 by omega] at t
  exact t
theorem op_84 {c : ByteArray} {N n p : Nat} (l : c.data.toList = unp N n 0) (h : tb N n p 84 = true) : decode c p = .ok (.bastore, 1) := by
  have t := dec_k (x := .bastore) (q := p + 1) _ rfl (lb1 l h) rfl
  rw [show p + 1 - p = 1 by omega] at t
  exact t
theorem op_87 {c : ByteArray} {N n p : Nat} (l : c.data.toList = unp N n 0) (h : tb N n p 87 = true) : decode c p = .ok (.pop, 1) := by
  have t := dec_k (x := .pop) (q := p + 1) _ rfl (lb1 l h) rfl
  rw [show p + 1 - p = 1 by omega] at t
  exact t
theorem op_88 {c : ByteArray} {N n p : Nat} (l : c.data.toList = unp N n 0) (h : tb N n p 88 = true) : decode c p = .ok (.pop2, 1) := by
  have t := dec_k (x := .pop2) (q := p + 1) _ rfl (lb1 l h) rfl
  rw [show p + 1 - p = 1 by omega] at t
  exact t
theorem op_89 {c : ByteArray} {N n p : Nat} (l : c.data.toList = unp N n 0) (h : tb N n p 89 = true) : decode c p = .ok (.dup, 1) := by
  have t := dec_k (x := .dup) (q := p + 1) _ rfl (lb1 l h) rfl
  rw [show p + 1 - p = 1 by omega] at t
  exact t
theorem op_92 {c : ByteArray} {N n p : Nat} (l : c.data.toList = unp N n 0) (h : tb N n p 92 = true) : decode c p = .ok (.dup2, 1) := by
  have t := dec_k (x := .dup2) (q := p + 1) _ rfl (lb1 l h) rfl
  rw [show p + 1 - p = 1 by omega] at t
  exact t
theorem op_96 {c : ByteArray} {N n p : Nat} (l : c.data.toList = unp N n 0) (h : tb N n p 96 = true) : decode c p = .ok (.iadd, 1) := by
  have t := dec_k (x := .iadd) (q := p + 1) _ rfl (lb1 l h) rfl
  rw [show p + 1 - p = 1 by omega] at t
  exact t
theorem op_97 {c : ByteArray} {N n p : Nat} (l : c.data.toList = unp N n 0) (h : tb N n p 97 = true) : decode c p = .ok (.ladd, 1) := by
  have t := dec_k (x := .ladd) (q := p + 1) _ rfl (lb1 l h) rfl
  rw [show p + 1 - p = 1 by omega] at t
  exact t
theorem op_100 {c : ByteArray} {N n p : Nat} (l : c.data.toList = unp N n 0) (h : tb N n p 100 = true) : decode c p = .ok (.isub, 1) := by
  have t := dec_k (x := .isub) (q := p + 1) _ rfl (lb1 l h) rfl
  rw [show p + 1 - p = 1 by omega] at t
  exact t
theorem op_101 {c : ByteArray} {N n p : Nat} (l : c.data.toList = unp N n 0) (h : tb N n p 101 = true) : decode c p = .ok (.lsub, 1) := by
  have t := dec_k (x := .lsub) (q := p + 1) _ rfl (lb1 l h) rfl
  rw [show p + 1 - p = 1 by omega] at t
  exact t
theorem op_104 {c : ByteArray} {N n p : Nat} (l : c.data.toList = unp N n 0) (h : tb N n p 104 = true) : decode c p = .ok (.imul, 1) := by
  have t := dec_k (x := .imul) (q := p + 1) _ rfl (lb1 l h) rfl
  rw [show p + 1 - p = 1 by omega] at t
  exact t
theorem op_105 {c : ByteArray} {N n p : Nat} (l : c.data.toList = unp N n 0) (h : tb N n p 105 = true) : decode c p = .ok (.lmul, 1) := by
  have t := dec_k (x := .lmul) (q := p + 1) _ rfl (lb1 l h) rfl
  rw [show p + 1 - p = 1 by omega] at t
  exact t
theorem op_108 {c : ByteArray} {N n p : Nat} (l : c.data.toList = unp N n 0) (h : tb N n p 108 = true) : decode c p = .ok (.idiv, 1) := by
  have t := dec_k (x := .idiv) (q := p + 1) _ rfl (lb1 l h) rfl
  rw [show p + 1 - p = 1 by omega] at t
  exact t
theorem op_112 {c : ByteArray} {N n p : Nat} (l : c.data.toList = unp N n 0) (h : tb N n p 112 = true) : decode c p = .ok (.irem, 1) := by
  have t := dec_k (x := .irem) (q := p + 1) _ rfl (lb1 l h) rfl
  rw [show p + 1 - p = 1 by omega] at t
  exact t
theorem op_116 {c : ByteArray} {N n p : Nat} (l : c.data.toList = unp N n 0) (h : tb N n p 116 = true) : decode c p = .ok (.ineg, 1) := by
  have t := dec_k (x := .ineg) (q := p + 1) _ rfl (lb1 l h) rfl
  rw [show p + 1 - p = 1 by omega] at t
  exact t
theorem op_120 {c : ByteArray} {N n p : Nat} (l : c.data.toList = unp N n 0) (h : tb N n p 120 = true) : decode c p = .ok (.ishl, 1) := by
  have t := dec_k (x := .ishl) (q := p + 1) _ rfl (lb1 l h) rfl
  rw [show p + 1 - p = 1 by omega] at t
  exact t
theorem op_121 {c : ByteArray} {N n p : Nat} (l : c.data.toList = unp N n 0) (h : tb N n p 121 = true) : decode c p = .ok (.lshl, 1) := by
  have t := dec_k (x := .lshl) (q := p + 1) _ rfl (lb1 l h) rfl
  rw [show p + 1 - p = 1 by omega] at t
  exact t
theorem op_122 {c : ByteArray} {N n p : Nat} (l : c.data.toList = unp N n 0) (h : tb N n p 122 = true) : decode c p = .ok (.ishr, 1) := by
  have t := dec_k (x := .ishr) (q := p + 1) _ rfl (lb1 l h) rfl
  rw [show p + 1 - p = 1 by omega] at t
  exact t
theorem op_123 {c : ByteArray} {N n p : Nat} (l : c.data.toList = unp N n 0) (h : tb N n p 123 = true) : decode c p = .ok (.lshr, 1) := by
  have t := dec_k (x := .lshr) (q := p + 1) _ rfl (lb1 l h) rfl
  rw [show p + 1 - p = 1 by omega] at t
  exact t
theorem op_124 {c : ByteArray} {N n p : Nat} (l : c.data.toList = unp N n 0) (h : tb N n p 124 = true) : decode c p = .ok (.iushr, 1) := by
  have t := dec_k (x := .iushr) (q := p + 1) _ rfl (lb1 l h) rfl
  rw [show p + 1 - p = 1 by omega] at t
  exact t
theorem op_126 {c : ByteArray} {N n p : Nat} (l : c.data.toList = unp N n 0) (h : tb N n p 126 = true) : decode c p = .ok (.iand, 1) := by
  have t := dec_k (x := .iand) (q := p + 1) _ rfl (lb1 l h) rfl
  rw [show p + 1 - p = 1 by omega] at t
  exact t
theorem op_127 {c : ByteArray} {N n p : Nat} (l : c.data.toList = unp N n 0) (h : tb N n p 127 = true) : decode c p = .ok (.land, 1) := by
  have t := dec_k (x := .land) (q := p + 1) _ rfl (lb1 l h) rfl
  rw [show p + 1 - p = 1 by omega] at t
  exact t
theorem op_128 {c : ByteArray} {N n p : Nat} (l : c.data.toList = unp N n 0) (h : tb N n p 128 = true) : decode c p = .ok (.ior, 1) := by
  have t := dec_k (x := .ior) (q := p + 1) _ rfl (lb1 l h) rfl
  rw [show p + 1 - p = 1 by omega] at t
  exact t
theorem op_129 {c : ByteArray} {N n p : Nat} (l : c.data.toList = unp N n 0) (h : tb N n p 129 = true) : decode c p = .ok (.lor, 1) := by
  have t := dec_k (x := .lor) (q := p + 1) _ rfl (lb1 l h) rfl
  rw [show p + 1 - p = 1 by omega] at t
  exact t
theorem op_130 {c : ByteArray} {N n p : Nat} (l : c.data.toList = unp N n 0) (h : tb N n p 130 = true) : decode c p = .ok (.ixor, 1) := by
  have t := dec_k (x := .ixor) (q := p + 1) _ rfl (lb1 l h) rfl
  rw [show p + 1 - p = 1 by omega] at t
  exact t
theorem op_131 {c : ByteArray} {N n p : Nat} (l : c.data.toList = unp N n 0) (h : tb N n p 131 = true) : decode c p = .ok (.lxor, 1) := by
  have t := dec_k (x := .lxor) (q := p + 1) _ rfl (lb1 l h) rfl
  rw [show p + 1 - p = 1 by omega] at t
  exact t
theorem op_132 {c : ByteArray} {N n p : Nat} (l : c.data.toList = unp N n 0) (b : Nat) {x : Nat} {v : Int} (h : t3i N n p 132 x b v = true) : decode c p = .ok (.iinc x v, 3) := by
  obtain ⟨h0, h1, h2, e⟩ := b3i l h
  subst e
  have t := dec_k (x := .iinc x (Reader.signed 8 b)) (q := p + 3) _ rfl h0 (by
    show Except.bind ((Reader.u1 : Decoder Nat) c (p + 1)) (fun r => Except.bind ((Reader.s1 : Decoder Int) c r.2) (fun r' => .ok (Instr.iinc r.1 r'.1, r'.2))) = _
    rw [u1_by h1]
    show Except.bind ((Reader.s1 : Decoder Int) c (p + 2)) (fun r' => .ok (Instr.iinc x r'.1, r'.2)) = _
    rw [s1_by h2]
    rfl)
  rw [show p + 3 - p = 3 by omega] at t
  exact t
theorem op_133 {c : ByteArray} {N n p : Nat} (l : c.data.toList = unp N n 0) (h : tb N n p 133 = true) : decode c p = .ok (.i2l, 1) := by
  have t := dec_k (x := .i2l) (q := p + 1) _ rfl (lb1 l h) rfl
  rw [show p + 1 - p = 1 by omega] at t
  exact t
theorem op_145 {c : ByteArray} {N n p : Nat} (l : c.data.toList = unp N n 0) (h : tb N n p 145 = true) : decode c p = .ok (.i2b, 1) := by
  have t := dec_k (x := .i2b) (q := p + 1) _ rfl (lb1 l h) rfl
  rw [show p + 1 - p = 1 by omega] at t
  exact t
theorem op_146 {c : ByteArray} {N n p : Nat} (l : c.data.toList = unp N n 0) (h : tb N n p 146 = true) : decode c p = .ok (.i2c, 1) := by
  have t := dec_k (x := .i2c) (q := p + 1) _ rfl (lb1 l h) rfl
  rw [show p + 1 - p = 1 by omega] at t
  exact t
theorem op_148 {c : ByteArray} {N n p : Nat} (l : c.data.toList = unp N n 0) (h : tb N n p 148 = true) : decode c p = .ok (.lcmp, 1) := by
  have t := dec_k (x := .lcmp) (q := p + 1) _ rfl (lb1 l h) rfl
  rw [show p + 1 - p = 1 by omega] at t
  exact t
theorem op_153 {c : ByteArray} {N n p : Nat} (l : c.data.toList = unp N n 0) (a b : Nat) {v : Int} (h : t3s N n p 153 a b v = true) : decode c p = .ok (.ifCond .eq v, 3) := by
  obtain ⟨h0, h1, h2, e⟩ := b3s l h
  subst e
  have t := dec_k (x := .ifCond .eq (Reader.signed 16 (a * 256 + b))) (q := p + 3) _ rfl h0 (by
    show Except.bind ((Reader.s2 : Decoder Int) c (p + 1)) (fun r => .ok (Instr.ifCond .eq r.1, r.2)) = _
    rw [s2_by h1 h2]
    rfl)
  rw [show p + 3 - p = 3 by omega] at t
  exact t
theorem op_154 {c : ByteArray} {N n p : Nat} (l : c.data.toList = unp N n 0) (a b : Nat) {v : Int} (h : t3s N n p 154 a b v = true) : decode c p = .ok (.ifCond .ne v, 3) := by
  obtain ⟨h0, h1, h2, e⟩ := b3s l h
  subst e
  have t := dec_k (x := .ifCond .ne (Reader.signed 16 (a * 256 + b))) (q := p + 3) _ rfl h0 (by
    show Except.bind ((Reader.s2 : Decoder Int) c (p + 1)) (fun r => .ok (Instr.ifCond .ne r.1, r.2)) = _
    rw [s2_by h1 h2]
    rfl)
  rw [show p + 3 - p = 3 by omega] at t
  exact t
theorem op_155 {c : ByteArray} {N n p : Nat} (l : c.data.toList = unp N n 0) (a b : Nat) {v : Int} (h : t3s N n p 155 a b v = true) : decode c p = .ok (.ifCond .lt v, 3) := by
  obtain ⟨h0, h1, h2, e⟩ := b3s l h
  subst e
  have t := dec_k (x := .ifCond .lt (Reader.signed 16 (a * 256 + b))) (q := p + 3) _ rfl h0 (by
    show Except.bind ((Reader.s2 : Decoder Int) c (p + 1)) (fun r => .ok (Instr.ifCond .lt r.1, r.2)) = _
    rw [s2_by h1 h2]
    rfl)
  rw [show p + 3 - p = 3 by omega] at t
  exact t
theorem op_156 {c : ByteArray} {N n p : Nat} (l : c.data.toList = unp N n 0) (a b : Nat) {v : Int} (h : t3s N n p 156 a b v = true) : decode c p = .ok (.ifCond .ge v, 3) := by
  obtain ⟨h0, h1, h2, e⟩ := b3s l h
  subst e
  have t := dec_k (x := .ifCond .ge (Reader.signed 16 (a * 256 + b))) (q := p + 3) _ rfl h0 (by
    show Except.bind ((Reader.s2 : Decoder Int) c (p + 1)) (fun r => .ok (Instr.ifCond .ge r.1, r.2)) = _
    rw [s2_by h1 h2]
    rfl)
  rw [show p + 3 - p = 3 by omega] at t
  exact t
theorem op_157 {c : ByteArray} {N n p : Nat} (l : c.data.toList = unp N n 0) (a b : Nat) {v : Int} (h : t3s N n p 157 a b v = true) : decode c p = .ok (.ifCond .gt v, 3) := by
  obtain ⟨h0, h1, h2, e⟩ := b3s l h
  subst e
  have t := dec_k (x := .ifCond .gt (Reader.signed 16 (a * 256 + b))) (q := p + 3) _ rfl h0 (by
    show Except.bind ((Reader.s2 : Decoder Int) c (p + 1)) (fun r => .ok (Instr.ifCond .gt r.1, r.2)) = _
    rw [s2_by h1 h2]
    rfl)
  rw [show p + 3 - p = 3 by omega] at t
  exact t
theorem op_158 {c : ByteArray} {N n p : Nat} (l : c.data.toList = unp N n 0) (a b : Nat) {v : Int} (h : t3s N n p 158 a b v = true) : decode c p = .ok (.ifCond .le v, 3) := by
  obtain ⟨h0, h1, h2, e⟩ := b3s l h
  subst e
  have t := dec_k (x := .ifCond .le (Reader.signed 16 (a * 256 + b))) (q := p + 3) _ rfl h0 (by
    show Except.bind ((Reader.s2 : Decoder Int) c (p + 1)) (fun r => .ok (Instr.ifCond .le r.1, r.2)) = _
    rw [s2_by h1 h2]
    rfl)
  rw [show p + 3 - p = 3 by omega] at t
  exact t
theorem op_159 {c : ByteArray} {N n p : Nat} (l : c.data.toList = unp N n 0) (a b : Nat) {v : Int} (h : t3s N n p 159 a b v = true) : decode c p = .ok (.if_icmp .eq v, 3) := by
  obtain ⟨h0, h1, h2, e⟩ := b3s l h
  subst e
  have t := dec_k (x := .if_icmp .eq (Reader.signed 16 (a * 256 + b))) (q := p + 3) _ rfl h0 (by
    show Except.bind ((Reader.s2 : Decoder Int) c (p + 1)) (fun r => .ok (Instr.if_icmp .eq r.1, r.2)) = _
    rw [s2_by h1 h2]
    rfl)
  rw [show p + 3 - p = 3 by omega] at t
  exact t
theorem op_160 {c : ByteArray} {N n p : Nat} (l : c.data.toList = unp N n 0) (a b : Nat) {v : Int} (h : t3s N n p 160 a b v = true) : decode c p = .ok (.if_icmp .ne v, 3) := by
  obtain ⟨h0, h1, h2, e⟩ := b3s l h
  subst e
  have t := dec_k (x := .if_icmp .ne (Reader.signed 16 (a * 256 + b))) (q := p + 3) _ rfl h0 (by
    show Except.bind ((Reader.s2 : Decoder Int) c (p + 1)) (fun r => .ok (Instr.if_icmp .ne r.1, r.2)) = _
    rw [s2_by h1 h2]
    rfl)
  rw [show p + 3 - p = 3 by omega] at t
  exact t
theorem op_161 {c : ByteArray} {N n p : Nat} (l : c.data.toList = unp N n 0) (a b : Nat) {v : Int} (h : t3s N n p 161 a b v = true) : decode c p = .ok (.if_icmp .lt v, 3) := by
  obtain ⟨h0, h1, h2, e⟩ := b3s l h
  subst e
  have t := dec_k (x := .if_icmp .lt (Reader.signed 16 (a * 256 + b))) (q := p + 3) _ rfl h0 (by
    show Except.bind ((Reader.s2 : Decoder Int) c (p + 1)) (fun r => .ok (Instr.if_icmp .lt r.1, r.2)) = _
    rw [s2_by h1 h2]
    rfl)
  rw [show p + 3 - p = 3 by omega] at t
  exact t
theorem op_162 {c : ByteArray} {N n p : Nat} (l : c.data.toList = unp N n 0) (a b : Nat) {v : Int} (h : t3s N n p 162 a b v = true) : decode c p = .ok (.if_icmp .ge v, 3) := by
  obtain ⟨h0, h1, h2, e⟩ := b3s l h
  subst e
  have t := dec_k (x := .if_icmp .ge (Reader.signed 16 (a * 256 + b))) (q := p + 3) _ rfl h0 (by
    show Except.bind ((Reader.s2 : Decoder Int) c (p + 1)) (fun r => .ok (Instr.if_icmp .ge r.1, r.2)) = _
    rw [s2_by h1 h2]
    rfl)
  rw [show p + 3 - p = 3 by omega] at t
  exact t
theorem op_163 {c : ByteArray} {N n p : Nat} (l : c.data.toList = unp N n 0) (a b : Nat) {v : Int} (h : t3s N n p 163 a b v = true) : decode c p = .ok (.if_icmp .gt v, 3) := by
  obtain ⟨h0, h1, h2, e⟩ := b3s l h
  subst e
  have t := dec_k (x := .if_icmp .gt (Reader.signed 16 (a * 256 + b))) (q := p + 3) _ rfl h0 (by
    show Except.bind ((Reader.s2 : Decoder Int) c (p + 1)) (fun r => .ok (Instr.if_icmp .gt r.1, r.2)) = _
    rw [s2_by h1 h2]
    rfl)
  rw [show p + 3 - p = 3 by omega] at t
  exact t
theorem op_164 {c : ByteArray} {N n p : Nat} (l : c.data.toList = unp N n 0) (a b : Nat) {v : Int} (h : t3s N n p 164 a b v = true) : decode c p = .ok (.if_icmp .le v, 3) := by
  obtain ⟨h0, h1, h2, e⟩ := b3s l h
  subst e
  have t := dec_k (x := .if_icmp .le (Reader.signed 16 (a * 256 + b))) (q := p + 3) _ rfl h0 (by
    show Except.bind ((Reader.s2 : Decoder Int) c (p + 1)) (fun r => .ok (Instr.if_icmp .le r.1, r.2)) = _
    rw [s2_by h1 h2]
    rfl)
  rw [show p + 3 - p = 3 by omega] at t
  exact t
theorem op_167 {c : ByteArray} {N n p : Nat} (l : c.data.toList = unp N n 0) (a b : Nat) {v : Int} (h : t3s N n p 167 a b v = true) : decode c p = .ok (.goto v, 3) := by
  obtain ⟨h0, h1, h2, e⟩ := b3s l h
  subst e
  have t := dec_k (x := .goto (Reader.signed 16 (a * 256 + b))) (q := p + 3) _ rfl h0 (by
    show Except.bind ((Reader.s2 : Decoder Int) c (p + 1)) (fun r => .ok (Instr.goto r.1, r.2)) = _
    rw [s2_by h1 h2]
    rfl)
  rw [show p + 3 - p = 3 by omega] at t
  exact t
theorem op_172 {c : ByteArray} {N n p : Nat} (l : c.data.toList = unp N n 0) (h : tb N n p 172 = true) : decode c p = .ok (.ireturn, 1) := by
  have t := dec_k (x := .ireturn) (q := p + 1) _ rfl (lb1 l h) rfl
  rw [show p + 1 - p = 1 by omega] at t
  exact t
theorem op_173 {c : ByteArray} {N n p : Nat} (l : c.data.toList = unp N n 0) (h : tb N n p 173 = true) : decode c p = .ok (.lreturn, 1) := by
  have t := dec_k (x := .lreturn) (q := p + 1) _ rfl (lb1 l h) rfl
  rw [show p + 1 - p = 1 by omega] at t
  exact t
theorem op_176 {c : ByteArray} {N n p : Nat} (l : c.data.toList = unp N n 0) (h : tb N n p 176 = true) : decode c p = .ok (.areturn, 1) := by
  have t := dec_k (x := .areturn) (q := p + 1) _ rfl (lb1 l h) rfl
  rw [show p + 1 - p = 1 by omega] at t
  exact t
theorem op_177 {c : ByteArray} {N n p : Nat} (l : c.data.toList = unp N n 0) (h : tb N n p 177 = true) : decode c p = .ok (.return_, 1) := by
  have t := dec_k (x := .return_) (q := p + 1) _ rfl (lb1 l h) rfl
  rw [show p + 1 - p = 1 by omega] at t
  exact t
theorem op_178 {c : ByteArray} {N n p : Nat} (l : c.data.toList = unp N n 0) (a b : Nat) {v : Nat} (h : t3u N n p 178 a b v = true) : decode c p = .ok (.getstatic v, 3) := by
  obtain ⟨h0, h1, h2, e⟩ := b3u l h
  subst e
  have t := dec_k (x := .getstatic (a * 256 + b)) (q := p + 3) _ rfl h0 (by
    show Except.bind ((Reader.u2 : Decoder Nat) c (p + 1)) (fun r => .ok (Instr.getstatic r.1, r.2)) = _
    rw [u2_by h1 h2]
    rfl)
  rw [show p + 3 - p = 3 by omega] at t
  exact t
theorem op_180 {c : ByteArray} {N n p : Nat} (l : c.data.toList = unp N n 0) (a b : Nat) {v : Nat} (h : t3u N n p 180 a b v = true) : decode c p = .ok (.getfield v, 3) := by
  obtain ⟨h0, h1, h2, e⟩ := b3u l h
  subst e
  have t := dec_k (x := .getfield (a * 256 + b)) (q := p + 3) _ rfl h0 (by
    show Except.bind ((Reader.u2 : Decoder Nat) c (p + 1)) (fun r => .ok (Instr.getfield r.1, r.2)) = _
    rw [u2_by h1 h2]
    rfl)
  rw [show p + 3 - p = 3 by omega] at t
  exact t
theorem op_181 {c : ByteArray} {N n p : Nat} (l : c.data.toList = unp N n 0) (a b : Nat) {v : Nat} (h : t3u N n p 181 a b v = true) : decode c p = .ok (.putfield v, 3) := by
  obtain ⟨h0, h1, h2, e⟩ := b3u l h
  subst e
  have t := dec_k (x := .putfield (a * 256 + b)) (q := p + 3) _ rfl h0 (by
    show Except.bind ((Reader.u2 : Decoder Nat) c (p + 1)) (fun r => .ok (Instr.putfield r.1, r.2)) = _
    rw [u2_by h1 h2]
    rfl)
  rw [show p + 3 - p = 3 by omega] at t
  exact t
theorem op_182 {c : ByteArray} {N n p : Nat} (l : c.data.toList = unp N n 0) (a b : Nat) {v : Nat} (h : t3u N n p 182 a b v = true) : decode c p = .ok (.invokevirtual v, 3) := by
  obtain ⟨h0, h1, h2, e⟩ := b3u l h
  subst e
  have t := dec_k (x := .invokevirtual (a * 256 + b)) (q := p + 3) _ rfl h0 (by
    show Except.bind ((Reader.u2 : Decoder Nat) c (p + 1)) (fun r => .ok (Instr.invokevirtual r.1, r.2)) = _
    rw [u2_by h1 h2]
    rfl)
  rw [show p + 3 - p = 3 by omega] at t
  exact t
theorem op_183 {c : ByteArray} {N n p : Nat} (l : c.data.toList = unp N n 0) (a b : Nat) {v : Nat} (h : t3u N n p 183 a b v = true) : decode c p = .ok (.invokespecial v, 3) := by
  obtain ⟨h0, h1, h2, e⟩ := b3u l h
  subst e
  have t := dec_k (x := .invokespecial (a * 256 + b)) (q := p + 3) _ rfl h0 (by
    show Except.bind ((Reader.u2 : Decoder Nat) c (p + 1)) (fun r => .ok (Instr.invokespecial r.1, r.2)) = _
    rw [u2_by h1 h2]
    rfl)
  rw [show p + 3 - p = 3 by omega] at t
  exact t
theorem op_184 {c : ByteArray} {N n p : Nat} (l : c.data.toList = unp N n 0) (a b : Nat) {v : Nat} (h : t3u N n p 184 a b v = true) : decode c p = .ok (.invokestatic v, 3) := by
  obtain ⟨h0, h1, h2, e⟩ := b3u l h
  subst e
  have t := dec_k (x := .invokestatic (a * 256 + b)) (q := p + 3) _ rfl h0 (by
    show Except.bind ((Reader.u2 : Decoder Nat) c (p + 1)) (fun r => .ok (Instr.invokestatic r.1, r.2)) = _
    rw [u2_by h1 h2]
    rfl)
  rw [show p + 3 - p = 3 by omega] at t
  exact t
theorem op_187 {c : ByteArray} {N n p : Nat} (l : c.data.toList = unp N n 0) (a b : Nat) {v : Nat} (h : t3u N n p 187 a b v = true) : decode c p = .ok (.new v, 3) := by
  obtain ⟨h0, h1, h2, e⟩ := b3u l h
  subst e
  have t := dec_k (x := .new (a * 256 + b)) (q := p + 3) _ rfl h0 (by
    show Except.bind ((Reader.u2 : Decoder Nat) c (p + 1)) (fun r => .ok (Instr.new r.1, r.2)) = _
    rw [u2_by h1 h2]
    rfl)
  rw [show p + 3 - p = 3 by omega] at t
  exact t
theorem op_189 {c : ByteArray} {N n p : Nat} (l : c.data.toList = unp N n 0) (a b : Nat) {v : Nat} (h : t3u N n p 189 a b v = true) : decode c p = .ok (.anewarray v, 3) := by
  obtain ⟨h0, h1, h2, e⟩ := b3u l h
  subst e
  have t := dec_k (x := .anewarray (a * 256 + b)) (q := p + 3) _ rfl h0 (by
    show Except.bind ((Reader.u2 : Decoder Nat) c (p + 1)) (fun r => .ok (Instr.anewarray r.1, r.2)) = _
    rw [u2_by h1 h2]
    rfl)
  rw [show p + 3 - p = 3 by omega] at t
  exact t
theorem op_190 {c : ByteArray} {N n p : Nat} (l : c.data.toList = unp N n 0) (h : tb N n p 190 = true) : decode c p = .ok (.arraylength, 1) := by
  have t := dec_k (x := .arraylength) (q := p + 1) _ rfl (lb1 l h) rfl
  rw [show p + 1 - p = 1 by omega] at t
  exact t
theorem op_191 {c : ByteArray} {N n p : Nat} (l : c.data.toList = unp N n 0) (h : tb N n p 191 = true) : decode c p = .ok (.athrow, 1) := by
  have t := dec_k (x := .athrow) (q := p + 1) _ rfl (lb1 l h) rfl
  rw [show p + 1 - p = 1 by omega] at t
  exact t
theorem op_198 {c : ByteArray} {N n p : Nat} (l : c.data.toList = unp N n 0) (a b : Nat) {v : Int} (h : t3s N n p 198 a b v = true) : decode c p = .ok (.ifnull v, 3) := by
  obtain ⟨h0, h1, h2, e⟩ := b3s l h
  subst e
  have t := dec_k (x := .ifnull (Reader.signed 16 (a * 256 + b))) (q := p + 3) _ rfl h0 (by
    show Except.bind ((Reader.s2 : Decoder Int) c (p + 1)) (fun r => .ok (Instr.ifnull r.1, r.2)) = _
    rw [s2_by h1 h2]
    rfl)
  rw [show p + 3 - p = 3 by omega] at t
  exact t
theorem op_199 {c : ByteArray} {N n p : Nat} (l : c.data.toList = unp N n 0) (a b : Nat) {v : Int} (h : t3s N n p 199 a b v = true) : decode c p = .ok (.ifnonnull v, 3) := by
  obtain ⟨h0, h1, h2, e⟩ := b3s l h
  subst e
  have t := dec_k (x := .ifnonnull (Reader.signed 16 (a * 256 + b))) (q := p + 3) _ rfl h0 (by
    show Except.bind ((Reader.s2 : Decoder Int) c (p + 1)) (fun r => .ok (Instr.ifnonnull r.1, r.2)) = _
    rw [s2_by h1 h2]
    rfl)
  rw [show p + 3 - p = 3 by omega] at t
  exact t
end

section
def nJ0_length_8abf5 : Nat := 0xac7a4f01b62abe0900b42a
theorem lJ0_length_8abf5 : cJ0_length_8abf5.data.toList = unp nJ0_length_8abf5 11 0 := by decide +kernel
theorem dJ0_length_8abf5_0 : decode cJ0_length_8abf5 0 = .ok (.aload_n 0, 1) := op_42 lJ0_length_8abf5 (by decide +kernel)
theorem dJ0_length_8abf5_1 : decode cJ0_length_8abf5 1 = .ok (.getfield 9, 3) := op_180 lJ0_length_8abf5 0 9 (by decide +kernel)
theorem dJ0_length_8abf5_4 : decode cJ0_length_8abf5 4 = .ok (.arraylength, 1) := op_190 lJ0_length_8abf5 (by decide +kernel)
theorem dJ0_length_8abf5_5 : decode cJ0_length_8abf5 5 = .ok (.aload_n 0, 1) := op_42 lJ0_length_8abf5 (by decide +kernel)
theorem dJ0_length_8abf5_6 : decode cJ0_length_8abf5 6 = .ok (.invokevirtual 335, 3) := op_182 lJ0_length_8abf5 1 79 (by decide +kernel)
theorem dJ0_length_8abf5_9 : decode cJ0_length_8abf5 9 = .ok (.ishr, 1) := op_122 lJ0_length_8abf5 (by decide +kernel)
theorem dJ0_length_8abf5_10 : decode cJ0_length_8abf5 10 = .ok (.ireturn, 1) := op_172 lJ0_length_8abf5 (by decide +kernel)
def nJ0_charAt_5068e : Nat := 0xacf201b81b0900b42aacef01b81b0900b42a0c0099ec01b62a
theorem lJ0_charAt_5068e : cJ0_charAt_5068e.data.toList = unp nJ0_charAt_5068e 25 0 := by decide +kernel
theorem dJ0_charAt_5068e_0 : decode cJ0_charAt_5068e 0 = .ok (.aload_n 0, 1) := op_42 lJ0_charAt_5068e (by decide +kernel)
theorem dJ0_charAt_5068e_1 : decode cJ0_charAt_5068e 1 = .ok (.invokevirtual 492, 3) := op_182 lJ0_charAt_5068e 1 236 (by decide +kernel)
theorem dJ0_charAt_5068e_4 : decode cJ0_charAt_5068e 4 = .ok (.ifCond .eq 12, 3) := op_153 lJ0_charAt_5068e 0 12 (by decide +kernel)
theorem dJ0_charAt_5068e_7 : decode cJ0_charAt_5068e 7 = .ok (.aload_n 0, 1) := op_42 lJ0_charAt_5068e (by decide +kernel)
theorem dJ0_charAt_5068e_8 : decode cJ0_charAt_5068e 8 = .ok (.getfield 9, 3) := op_180 lJ0_charAt_5068e 0 9 (by decide +kernel)
theorem dJ0_charAt_5068e_11 : decode cJ0_charAt_5068e 11 = .ok (.iload_n 1, 1) := op_27 lJ0_charAt_5068e (by decide +kernel)
theorem dJ0_charAt_5068e_12 : decode cJ0_charAt_5068e 12 = .ok (.invokestatic 495, 3) := op_184 lJ0_charAt_5068e 1 239 (by decide +kernel)
theorem dJ0_charAt_5068e_15 : decode cJ0_charAt_5068e 15 = .ok (.ireturn, 1) := op_172 lJ0_charAt_5068e (by decide +kernel)
theorem dJ0_charAt_5068e_16 : decode cJ0_charAt_5068e 16 = .ok (.aload_n 0, 1) := op_42 lJ0_charAt_5068e (by decide +kernel)
theorem dJ0_charAt_5068e_17 : decode cJ0_charAt_5068e 17 = .ok (.getfield 9, 3) := op_180 lJ0_charAt_5068e 0 9 (by decide +kernel)
theorem dJ0_charAt_5068e_20 : decode cJ0_charAt_5068e 20 = .ok (.iload_n 1, 1) := op_27 lJ0_charAt_5068e (by decide +kernel)
theorem dJ0_charAt_5068e_21 : decode cJ0_charAt_5068e 21 = .ok (.invokestatic 498, 3) := op_184 lJ0_charAt_5068e 1 242 (by decide +kernel)
theorem dJ0_charAt_5068e_24 : decode cJ0_charAt_5068e 24 = .ok (.ireturn, 1) := op_172 lJ0_charAt_5068e (by decide +kernel)
def nJ0_coder_7d493 : Nat := 0xac040400a70f00b42a0a00992600b2
theorem lJ0_coder_7d493 : cJ0_coder_7d493.data.toList = unp nJ0_coder_7d493 15 0 := by decide +kernel
theorem dJ0_coder_7d493_0 : decode cJ0_coder_7d493 0 = .ok (.getstatic 38, 3) := op_178 lJ0_coder_7d493 0 38 (by decide +kernel)
theorem dJ0_coder_7d493_3 : decode cJ0_coder_7d493 3 = .ok (.ifCond .eq 10, 3) := op_153 lJ0_coder_7d493 0 10 (by decide +kernel)
theorem dJ0_coder_7d493_6 : decode cJ0_coder_7d493 6 = .ok (.aload_n 0, 1) := op_42 lJ0_coder_7d493 (by decide +kernel)
theorem dJ0_coder_7d493_7 : decode cJ0_coder_7d493 7 = .ok (.getfield 15, 3) := op_180 lJ0_coder_7d493 0 15 (by decide +kernel)
theorem dJ0_coder_7d493_10 : decode cJ0_coder_7d493 10 = .ok (.goto 4, 3) := op_167 lJ0_coder_7d493 0 4 (by decide +kernel)
theorem dJ0_coder_7d493_13 : decode cJ0_coder_7d493 13 = .ok (.iconst 1, 1) := op_4 lJ0_coder_7d493 (by decide +kernel)
theorem dJ0_coder_7d493_14 : decode cJ0_coder_7d493 14 = .ok (.ireturn, 1) := op_172 lJ0_coder_7d493 (by decide +kernel)
def nJ0_isLatin1_aae02 : Nat := 0xac030400a70407009a0f00b42a0e00992600b2
theorem lJ0_isLatin1_aae02 : cJ0_isLatin1_aae02.data.toList = unp nJ0_isLatin1_aae02 19 0 := by decide +kernel
theorem dJ0_isLatin1_aae02_0 : decode cJ0_isLatin1_aae02 0 = .ok (.getstatic 38, 3) := op_178 lJ0_isLatin1_aae02 0 38 (by decide +kernel)
theorem dJ0_isLatin1_aae02_3 : decode cJ0_isLatin1_aae02 3 = .ok (.ifCond .eq 14, 3) := op_153 lJ0_isLatin1_aae02 0 14 (by decide +kernel)
theorem dJ0_isLatin1_aae02_6 : decode cJ0_isLatin1_aae02 6 = .ok (.aload_n 0, 1) := op_42 lJ0_isLatin1_aae02 (by decide +kernel)
theorem dJ0_isLatin1_aae02_7 : decode cJ0_isLatin1_aae02 7 = .ok (.getfield 15, 3) := op_180 lJ0_isLatin1_aae02 0 15 (by decide +kernel)
theorem dJ0_isLatin1_aae02_10 : decode cJ0_isLatin1_aae02 10 = .ok (.ifCond .ne 7, 3) := op_154 lJ0_isLatin1_aae02 0 7 (by decide +kernel)
theorem dJ0_isLatin1_aae02_13 : decode cJ0_isLatin1_aae02 13 = .ok (.iconst 1, 1) := op_4 lJ0_isLatin1_aae02 (by decide +kernel)
theorem dJ0_isLatin1_aae02_14 : decode cJ0_isLatin1_aae02 14 = .ok (.goto 4, 3) := op_167 lJ0_isLatin1_aae02 0 4 (by decide +kernel)
theorem dJ0_isLatin1_aae02_17 : decode cJ0_isLatin1_aae02 17 = .ok (.iconst 0, 1) := op_3 lJ0_isLatin1_aae02 (by decide +kernel)
theorem dJ0_isLatin1_aae02_18 : decode cJ0_isLatin1_aae02 18 = .ok (.ireturn, 1) := op_172 lJ0_isLatin1_aae02 (by decide +kernel)
def nJ0_checkIndex_df160 : Nat := 0xb1572304b81d04b21b1a
theorem lJ0_checkIndex_df160 : cJ0_checkIndex_df160.data.toList = unp nJ0_checkIndex_df160 10 0 := by decide +kernel
theorem dJ0_checkIndex_df160_0 : decode cJ0_checkIndex_df160 0 = .ok (.iload_n 0, 1) := op_26 lJ0_checkIndex_df160 (by decide +kernel)
theorem dJ0_checkIndex_df160_1 : decode cJ0_checkIndex_df160 1 = .ok (.iload_n 1, 1) := op_27 lJ0_checkIndex_df160 (by decide +kernel)
theorem dJ0_checkIndex_df160_2 : decode cJ0_checkIndex_df160 2 = .ok (.getstatic 1053, 3) := op_178 lJ0_checkIndex_df160 4 29 (by decide +kernel)
theorem dJ0_checkIndex_df160_5 : decode cJ0_checkIndex_df160 5 = .ok (.invokestatic 1059, 3) := op_184 lJ0_checkIndex_df160 4 35 (by decide +kernel)
theorem dJ0_checkIndex_df160_8 : decode cJ0_checkIndex_df160 8 = .ok (.pop, 1) := op_87 lJ0_checkIndex_df160 (by decide +kernel)
theorem dJ0_checkIndex_df160_9 : decode cJ0_checkIndex_df160 9 = .ok (.return_, 1) := op_177 lJ0_checkIndex_df160 (by decide +kernel)
end

section
def nJ1_charAt_3b067 : Nat := 0xac927eff0011331b2a0900b8be2a1b
theorem lJ1_charAt_3b067 : cJ1_charAt_3b067.data.toList = unp nJ1_charAt_3b067 15 0 := by decide +kernel
theorem dJ1_charAt_3b067_0 : decode cJ1_charAt_3b067 0 = .ok (.iload_n 1, 1) := op_27 lJ1_charAt_3b067 (by decide +kernel)
theorem dJ1_charAt_3b067_1 : decode cJ1_charAt_3b067 1 = .ok (.aload_n 0, 1) := op_42 lJ1_charAt_3b067 (by decide +kernel)
theorem dJ1_charAt_3b067_2 : decode cJ1_charAt_3b067 2 = .ok (.arraylength, 1) := op_190 lJ1_charAt_3b067 (by decide +kernel)
theorem dJ1_charAt_3b067_3 : decode cJ1_charAt_3b067 3 = .ok (.invokestatic 9, 3) := op_184 lJ1_charAt_3b067 0 9 (by decide +kernel)
theorem dJ1_charAt_3b067_6 : decode cJ1_charAt_3b067 6 = .ok (.aload_n 0, 1) := op_42 lJ1_charAt_3b067 (by decide +kernel)
theorem dJ1_charAt_3b067_7 : decode cJ1_charAt_3b067 7 = .ok (.iload_n 1, 1) := op_27 lJ1_charAt_3b067 (by decide +kernel)
theorem dJ1_charAt_3b067_8 : decode cJ1_charAt_3b067 8 = .ok (.baload, 1) := op_51 lJ1_charAt_3b067 (by decide +kernel)
theorem dJ1_charAt_3b067_9 : decode cJ1_charAt_3b067 9 = .ok (.sipush 255, 3) := op_17 lJ1_charAt_3b067 0 255 (by decide +kernel)
theorem dJ1_charAt_3b067_12 : decode cJ1_charAt_3b067 12 = .ok (.iand, 1) := op_126 lJ1_charAt_3b067 (by decide +kernel)
theorem dJ1_charAt_3b067_13 : decode cJ1_charAt_3b067 13 = .ok (.i2c, 1) := op_146 lJ1_charAt_3b067 (by decide +kernel)
theorem dJ1_charAt_3b067_14 : decode cJ1_charAt_3b067 14 = .ok (.ireturn, 1) := op_172 lJ1_charAt_3b067 (by decide +kernel)
end

section
def nJ2_getChar_3b067 : Nat := 0xac9280783f00b27eff0011331b2a783b00b27eff0011330101841b2a3c78041bbf3800b73612593400bb0d00a13000b82a1b0b009b1b19009a2c00b2
theorem lJ2_getChar_3b067 : cJ2_getChar_3b067.data.toList = unp nJ2_getChar_3b067 60 0 := by decide +kernel
theorem dJ2_getChar_3b067_0 : decode cJ2_getChar_3b067 0 = .ok (.getstatic 44, 3) := op_178 lJ2_getChar_3b067 0 44 (by decide +kernel)
theorem dJ2_getChar_3b067_3 : decode cJ2_getChar_3b067 3 = .ok (.ifCond .ne 25, 3) := op_154 lJ2_getChar_3b067 0 25 (by decide +kernel)
theorem dJ2_getChar_3b067_6 : decode cJ2_getChar_3b067 6 = .ok (.iload_n 1, 1) := op_27 lJ2_getChar_3b067 (by decide +kernel)
theorem dJ2_getChar_3b067_7 : decode cJ2_getChar_3b067 7 = .ok (.ifCond .lt 11, 3) := op_155 lJ2_getChar_3b067 0 11 (by decide +kernel)
theorem dJ2_getChar_3b067_10 : decode cJ2_getChar_3b067 10 = .ok (.iload_n 1, 1) := op_27 lJ2_getChar_3b067 (by decide +kernel)
theorem dJ2_getChar_3b067_11 : decode cJ2_getChar_3b067 11 = .ok (.aload_n 0, 1) := op_42 lJ2_getChar_3b067 (by decide +kernel)
theorem dJ2_getChar_3b067_12 : decode cJ2_getChar_3b067 12 = .ok (.invokestatic 48, 3) := op_184 lJ2_getChar_3b067 0 48 (by decide +kernel)
theorem dJ2_getChar_3b067_15 : decode cJ2_getChar_3b067 15 = .ok (.if_icmp .lt 13, 3) := op_161 lJ2_getChar_3b067 0 13 (by decide +kernel)
theorem dJ2_getChar_3b067_18 : decode cJ2_getChar_3b067 18 = .ok (.new 52, 3) := op_187 lJ2_getChar_3b067 0 52 (by decide +kernel)
theorem dJ2_getChar_3b067_21 : decode cJ2_getChar_3b067 21 = .ok (.dup, 1) := op_89 lJ2_getChar_3b067 (by decide +kernel)
theorem dJ2_getChar_3b067_22 : decode cJ2_getChar_3b067 22 = .ok (.ldc 54, 2) := op_18 lJ2_getChar_3b067 (by decide +kernel)
theorem dJ2_getChar_3b067_24 : decode cJ2_getChar_3b067 24 = .ok (.invokespecial 56, 3) := op_183 lJ2_getChar_3b067 0 56 (by decide +kernel)
theorem dJ2_getChar_3b067_27 : decode cJ2_getChar_3b067 27 = .ok (.athrow, 1) := op_191 lJ2_getChar_3b067 (by decide +kernel)
theorem dJ2_getChar_3b067_28 : decode cJ2_getChar_3b067 28 = .ok (.iload_n 1, 1) := op_27 lJ2_getChar_3b067 (by decide +kernel)
theorem dJ2_getChar_3b067_29 : decode cJ2_getChar_3b067 29 = .ok (.iconst 1, 1) := op_4 lJ2_getChar_3b067 (by decide +kernel)
theorem dJ2_getChar_3b067_30 : decode cJ2_getChar_3b067 30 = .ok (.ishl, 1) := op_120 lJ2_getChar_3b067 (by decide +kernel)
theorem dJ2_getChar_3b067_31 : decode cJ2_getChar_3b067 31 = .ok (.istore_n 1, 1) := op_60 lJ2_getChar_3b067 (by decide +kernel)
theorem dJ2_getChar_3b067_32 : decode cJ2_getChar_3b067 32 = .ok (.aload_n 0, 1) := op_42 lJ2_getChar_3b067 (by decide +kernel)
theorem dJ2_getChar_3b067_33 : decode cJ2_getChar_3b067 33 = .ok (.iload_n 1, 1) := op_27 lJ2_getChar_3b067 (by decide +kernel)
theorem dJ2_getChar_3b067_34 : decode cJ2_getChar_3b067 34 = .ok (.iinc 1 1, 3) := op_132 lJ2_getChar_3b067 1 (by decide +kernel)
theorem dJ2_getChar_3b067_37 : decode cJ2_getChar_3b067 37 = .ok (.baload, 1) := op_51 lJ2_getChar_3b067 (by decide +kernel)
theorem dJ2_getChar_3b067_38 : decode cJ2_getChar_3b067 38 = .ok (.sipush 255, 3) := op_17 lJ2_getChar_3b067 0 255 (by decide +kernel)
theorem dJ2_getChar_3b067_41 : decode cJ2_getChar_3b067 41 = .ok (.iand, 1) := op_126 lJ2_getChar_3b067 (by decide +kernel)
theorem dJ2_getChar_3b067_42 : decode cJ2_getChar_3b067 42 = .ok (.getstatic 59, 3) := op_178 lJ2_getChar_3b067 0 59 (by decide +kernel)
theorem dJ2_getChar_3b067_45 : decode cJ2_getChar_3b067 45 = .ok (.ishl, 1) := op_120 lJ2_getChar_3b067 (by decide +kernel)
theorem dJ2_getChar_3b067_46 : decode cJ2_getChar_3b067 46 = .ok (.aload_n 0, 1) := op_42 lJ2_getChar_3b067 (by decide +kernel)
theorem dJ2_getChar_3b067_47 : decode cJ2_getChar_3b067 47 = .ok (.iload_n 1, 1) := op_27 lJ2_getChar_3b067 (by decide +kernel)
theorem dJ2_getChar_3b067_48 : decode cJ2_getChar_3b067 48 = .ok (.baload, 1) := op_51 lJ2_getChar_3b067 (by decide +kernel)
theorem dJ2_getChar_3b067_49 : decode cJ2_getChar_3b067 49 = .ok (.sipush 255, 3) := op_17 lJ2_getChar_3b067 0 255 (by decide +kernel)
theorem dJ2_getChar_3b067_52 : decode cJ2_getChar_3b067 52 = .ok (.iand, 1) := op_126 lJ2_getChar_3b067 (by decide +kernel)
theorem dJ2_getChar_3b067_53 : decode cJ2_getChar_3b067 53 = .ok (.getstatic 63, 3) := op_178 lJ2_getChar_3b067 0 63 (by decide +kernel)
theorem dJ2_getChar_3b067_56 : decode cJ2_getChar_3b067 56 = .ok (.ishl, 1) := op_120 lJ2_getChar_3b067 (by decide +kernel)
theorem dJ2_getChar_3b067_57 : decode cJ2_getChar_3b067 57 = .ok (.ior, 1) := op_128 lJ2_getChar_3b067 (by decide +kernel)
theorem dJ2_getChar_3b067_58 : decode cJ2_getChar_3b067 58 = .ok (.i2c, 1) := op_146 lJ2_getChar_3b067 (by decide +kernel)
theorem dJ2_getChar_3b067_59 : decode cJ2_getChar_3b067 59 = .ok (.ireturn, 1) := op_172 lJ2_getChar_3b067 (by decide +kernel)
def nJ2_length_9d52b : Nat := 0xac7a04be2a
theorem lJ2_length_9d52b : cJ2_length_9d52b.data.toList = unp nJ2_length_9d52b 5 0 := by decide +kernel
theorem dJ2_length_9d52b_0 : decode cJ2_length_9d52b 0 = .ok (.aload_n 0, 1) := op_42 lJ2_length_9d52b (by decide +kernel)
theorem dJ2_length_9d52b_1 : decode cJ2_length_9d52b 1 = .ok (.arraylength, 1) := op_190 lJ2_length_9d52b (by decide +kernel)
theorem dJ2_length_9d52b_2 : decode cJ2_length_9d52b 2 = .ok (.iconst 1, 1) := op_4 lJ2_length_9d52b (by decide +kernel)
theorem dJ2_length_9d52b_3 : decode cJ2_length_9d52b 3 = .ok (.ishr, 1) := op_122 lJ2_length_9d52b (by decide +kernel)
theorem dJ2_length_9d52b_4 : decode cJ2_length_9d52b 4 = .ok (.ireturn, 1) := op_172 lJ2_length_9d52b (by decide +kernel)
def nJ2_charAt_3b067 : Nat := 0xac4700b81b2a4300b82a1b
theorem lJ2_charAt_3b067 : cJ2_charAt_3b067.data.toList = unp nJ2_charAt_3b067 11 0 := by decide +kernel
theorem dJ2_charAt_3b067_0 : decode cJ2_charAt_3b067 0 = .ok (.iload_n 1, 1) := op_27 lJ2_charAt_3b067 (by decide +kernel)
theorem dJ2_charAt_3b067_1 : decode cJ2_charAt_3b067 1 = .ok (.aload_n 0, 1) := op_42 lJ2_charAt_3b067 (by decide +kernel)
theorem dJ2_charAt_3b067_2 : decode cJ2_charAt_3b067 2 = .ok (.invokestatic 67, 3) := op_184 lJ2_charAt_3b067 0 67 (by decide +kernel)
theorem dJ2_charAt_3b067_5 : decode cJ2_charAt_3b067 5 = .ok (.aload_n 0, 1) := op_42 lJ2_charAt_3b067 (by decide +kernel)
theorem dJ2_charAt_3b067_6 : decode cJ2_charAt_3b067 6 = .ok (.iload_n 1, 1) := op_27 lJ2_charAt_3b067 (by decide +kernel)
theorem dJ2_charAt_3b067_7 : decode cJ2_charAt_3b067 7 = .ok (.invokestatic 71, 3) := op_184 lJ2_charAt_3b067 0 71 (by decide +kernel)
theorem dJ2_charAt_3b067_10 : decode cJ2_charAt_3b067 10 = .ok (.ireturn, 1) := op_172 lJ2_charAt_3b067 (by decide +kernel)
def nJ2_checkIndex_2214a : Nat := 0xb19e01b83000b82b1a
theorem lJ2_checkIndex_2214a : cJ2_checkIndex_2214a.data.toList = unp nJ2_checkIndex_2214a 9 0 := by decide +kernel
theorem dJ2_checkIndex_2214a_0 : decode cJ2_checkIndex_2214a 0 = .ok (.iload_n 0, 1) := op_26 lJ2_checkIndex_2214a (by decide +kernel)
theorem dJ2_checkIndex_2214a_1 : decode cJ2_checkIndex_2214a 1 = .ok (.aload_n 1, 1) := op_43 lJ2_checkIndex_2214a (by decide +kernel)
theorem dJ2_checkIndex_2214a_2 : decode cJ2_checkIndex_2214a 2 = .ok (.invokestatic 48, 3) := op_184 lJ2_checkIndex_2214a 0 48 (by decide +kernel)
theorem dJ2_checkIndex_2214a_5 : decode cJ2_checkIndex_2214a 5 = .ok (.invokestatic 414, 3) := op_184 lJ2_checkIndex_2214a 1 158 (by decide +kernel)
theorem dJ2_checkIndex_2214a_8 : decode cJ2_checkIndex_2214a 8 = .ok (.return_, 1) := op_177 lJ2_checkIndex_2214a (by decide +kernel)
end

section
def nJ3_checkIndex_8e157 : Nat := 0xac1abf5f00b81b1a2c0a00a11b1a08009b1a
theorem lJ3_checkIndex_8e157 : cJ3_checkIndex_8e157.data.toList = unp nJ3_checkIndex_8e157 18 0 := by decide +kernel
theorem dJ3_checkIndex_8e157_0 : decode cJ3_checkIndex_8e157 0 = .ok (.iload_n 0, 1) := op_26 lJ3_checkIndex_8e157 (by decide +kernel)
theorem dJ3_checkIndex_8e157_1 : decode cJ3_checkIndex_8e157 1 = .ok (.ifCond .lt 8, 3) := op_155 lJ3_checkIndex_8e157 0 8 (by decide +kernel)
theorem dJ3_checkIndex_8e157_4 : decode cJ3_checkIndex_8e157 4 = .ok (.iload_n 0, 1) := op_26 lJ3_checkIndex_8e157 (by decide +kernel)
theorem dJ3_checkIndex_8e157_5 : decode cJ3_checkIndex_8e157 5 = .ok (.iload_n 1, 1) := op_27 lJ3_checkIndex_8e157 (by decide +kernel)
theorem dJ3_checkIndex_8e157_6 : decode cJ3_checkIndex_8e157 6 = .ok (.if_icmp .lt 10, 3) := op_161 lJ3_checkIndex_8e157 0 10 (by decide +kernel)
theorem dJ3_checkIndex_8e157_9 : decode cJ3_checkIndex_8e157 9 = .ok (.aload_n 2, 1) := op_44 lJ3_checkIndex_8e157 (by decide +kernel)
theorem dJ3_checkIndex_8e157_10 : decode cJ3_checkIndex_8e157 10 = .ok (.iload_n 0, 1) := op_26 lJ3_checkIndex_8e157 (by decide +kernel)
theorem dJ3_checkIndex_8e157_11 : decode cJ3_checkIndex_8e157 11 = .ok (.iload_n 1, 1) := op_27 lJ3_checkIndex_8e157 (by decide +kernel)
theorem dJ3_checkIndex_8e157_12 : decode cJ3_checkIndex_8e157 12 = .ok (.invokestatic 95, 3) := op_184 lJ3_checkIndex_8e157 0 95 (by decide +kernel)
theorem dJ3_checkIndex_8e157_15 : decode cJ3_checkIndex_8e157 15 = .ok (.athrow, 1) := op_191 lJ3_checkIndex_8e157 (by decide +kernel)
theorem dJ3_checkIndex_8e157_16 : decode cJ3_checkIndex_8e157 16 = .ok (.iload_n 0, 1) := op_26 lJ3_checkIndex_8e157 (by decide +kernel)
theorem dJ3_checkIndex_8e157_17 : decode cJ3_checkIndex_8e157 17 = .ok (.ireturn, 1) := op_172 lJ3_checkIndex_8e157 (by decide +kernel)
end

section
def nJ6_bitCount_0f7a4 : Nat := 0xac7e3f101a3b607c10101a1a3b607c08101a1a3b7e0b0113607c071a1a3b607e0a01137c051a7e0a01131a3b647e0901137c041a1a
theorem lJ6_bitCount_0f7a4 : cJ6_bitCount_0f7a4.data.toList = unp nJ6_bitCount_0f7a4 53 0 := by decide +kernel
theorem dJ6_bitCount_0f7a4_0 : decode cJ6_bitCount_0f7a4 0 = .ok (.iload_n 0, 1) := op_26 lJ6_bitCount_0f7a4 (by decide +kernel)
theorem dJ6_bitCount_0f7a4_1 : decode cJ6_bitCount_0f7a4 1 = .ok (.iload_n 0, 1) := op_26 lJ6_bitCount_0f7a4 (by decide +kernel)
theorem dJ6_bitCount_0f7a4_2 : decode cJ6_bitCount_0f7a4 2 = .ok (.iconst 1, 1) := op_4 lJ6_bitCount_0f7a4 (by decide +kernel)
theorem dJ6_bitCount_0f7a4_3 : decode cJ6_bitCount_0f7a4 3 = .ok (.iushr, 1) := op_124 lJ6_bitCount_0f7a4 (by decide +kernel)
theorem dJ6_bitCount_0f7a4_4 : decode cJ6_bitCount_0f7a4 4 = .ok (.ldc_w 265, 3) := op_19 lJ6_bitCount_0f7a4 1 9 (by decide +kernel)
theorem dJ6_bitCount_0f7a4_7 : decode cJ6_bitCount_0f7a4 7 = .ok (.iand, 1) := op_126 lJ6_bitCount_0f7a4 (by decide +kernel)
theorem dJ6_bitCount_0f7a4_8 : decode cJ6_bitCount_0f7a4 8 = .ok (.isub, 1) := op_100 lJ6_bitCount_0f7a4 (by decide +kernel)
theorem dJ6_bitCount_0f7a4_9 : decode cJ6_bitCount_0f7a4 9 = .ok (.istore_n 0, 1) := op_59 lJ6_bitCount_0f7a4 (by decide +kernel)
theorem dJ6_bitCount_0f7a4_10 : decode cJ6_bitCount_0f7a4 10 = .ok (.iload_n 0, 1) := op_26 lJ6_bitCount_0f7a4 (by decide +kernel)
theorem dJ6_bitCount_0f7a4_11 : decode cJ6_bitCount_0f7a4 11 = .ok (.ldc_w 266, 3) := op_19 lJ6_bitCount_0f7a4 1 10 (by decide +kernel)
theorem dJ6_bitCount_0f7a4_14 : decode cJ6_bitCount_0f7a4 14 = .ok (.iand, 1) := op_126 lJ6_bitCount_0f7a4 (by decide +kernel)
theorem dJ6_bitCount_0f7a4_15 : decode cJ6_bitCount_0f7a4 15 = .ok (.iload_n 0, 1) := op_26 lJ6_bitCount_0f7a4 (by decide +kernel)
theorem dJ6_bitCount_0f7a4_16 : decode cJ6_bitCount_0f7a4 16 = .ok (.iconst 2, 1) := op_5 lJ6_bitCount_0f7a4 (by decide +kernel)
theorem dJ6_bitCount_0f7a4_17 : decode cJ6_bitCount_0f7a4 17 = .ok (.iushr, 1) := op_124 lJ6_bitCount_0f7a4 (by decide +kernel)
theorem dJ6_bitCount_0f7a4_18 : decode cJ6_bitCount_0f7a4 18 = .ok (.ldc_w 266, 3) := op_19 lJ6_bitCount_0f7a4 1 10 (by decide +kernel)
theorem dJ6_bitCount_0f7a4_21 : decode cJ6_bitCount_0f7a4 21 = .ok (.iand, 1) := op_126 lJ6_bitCount_0f7a4 (by decide +kernel)
theorem dJ6_bitCount_0f7a4_22 : decode cJ6_bitCount_0f7a4 22 = .ok (.iadd, 1) := op_96 lJ6_bitCount_0f7a4 (by decide +kernel)
theorem dJ6_bitCount_0f7a4_23 : decode cJ6_bitCount_0f7a4 23 = .ok (.istore_n 0, 1) := op_59 lJ6_bitCount_0f7a4 (by decide +kernel)
theorem dJ6_bitCount_0f7a4_24 : decode cJ6_bitCount_0f7a4 24 = .ok (.iload_n 0, 1) := op_26 lJ6_bitCount_0f7a4 (by decide +kernel)
theorem dJ6_bitCount_0f7a4_25 : decode cJ6_bitCount_0f7a4 25 = .ok (.iload_n 0, 1) := op_26 lJ6_bitCount_0f7a4 (by decide +kernel)
theorem dJ6_bitCount_0f7a4_26 : decode cJ6_bitCount_0f7a4 26 = .ok (.iconst 4, 1) := op_7 lJ6_bitCount_0f7a4 (by decide +kernel)
theorem dJ6_bitCount_0f7a4_27 : decode cJ6_bitCount_0f7a4 27 = .ok (.iushr, 1) := op_124 lJ6_bitCount_0f7a4 (by decide +kernel)
theorem dJ6_bitCount_0f7a4_28 : decode cJ6_bitCount_0f7a4 28 = .ok (.iadd, 1) := op_96 lJ6_bitCount_0f7a4 (by decide +kernel)
theorem dJ6_bitCount_0f7a4_29 : decode cJ6_bitCount_0f7a4 29 = .ok (.ldc_w 267, 3) := op_19 lJ6_bitCount_0f7a4 1 11 (by decide +kernel)
theorem dJ6_bitCount_0f7a4_32 : decode cJ6_bitCount_0f7a4 32 = .ok (.iand, 1) := op_126 lJ6_bitCount_0f7a4 (by decide +kernel)
theorem dJ6_bitCount_0f7a4_33 : decode cJ6_bitCount_0f7a4 33 = .ok (.istore_n 0, 1) := op_59 lJ6_bitCount_0f7a4 (by decide +kernel)
theorem dJ6_bitCount_0f7a4_34 : decode cJ6_bitCount_0f7a4 34 = .ok (.iload_n 0, 1) := op_26 lJ6_bitCount_0f7a4 (by decide +kernel)
theorem dJ6_bitCount_0f7a4_35 : decode cJ6_bitCount_0f7a4 35 = .ok (.iload_n 0, 1) := op_26 lJ6_bitCount_0f7a4 (by decide +kernel)
theorem dJ6_bitCount_0f7a4_36 : decode cJ6_bitCount_0f7a4 36 = .ok (.bipush 8, 2) := op_16 lJ6_bitCount_0f7a4 8 (by decide +kernel)
theorem dJ6_bitCount_0f7a4_38 : decode cJ6_bitCount_0f7a4 38 = .ok (.iushr, 1) := op_124 lJ6_bitCount_0f7a4 (by decide +kernel)
theorem dJ6_bitCount_0f7a4_39 : decode cJ6_bitCount_0f7a4 39 = .ok (.iadd, 1) := op_96 lJ6_bitCount_0f7a4 (by decide +kernel)
theorem dJ6_bitCount_0f7a4_40 : decode cJ6_bitCount_0f7a4 40 = .ok (.istore_n 0, 1) := op_59 lJ6_bitCount_0f7a4 (by decide +kernel)
theorem dJ6_bitCount_0f7a4_41 : decode cJ6_bitCount_0f7a4 41 = .ok (.iload_n 0, 1) := op_26 lJ6_bitCount_0f7a4 (by decide +kernel)
theorem dJ6_bitCount_0f7a4_42 : decode cJ6_bitCount_0f7a4 42 = .ok (.iload_n 0, 1) := op_26 lJ6_bitCount_0f7a4 (by decide +kernel)
theorem dJ6_bitCount_0f7a4_43 : decode cJ6_bitCount_0f7a4 43 = .ok (.bipush 16, 2) := op_16 lJ6_bitCount_0f7a4 16 (by decide +kernel)
theorem dJ6_bitCount_0f7a4_45 : decode cJ6_bitCount_0f7a4 45 = .ok (.iushr, 1) := op_124 lJ6_bitCount_0f7a4 (by decide +kernel)
theorem dJ6_bitCount_0f7a4_46 : decode cJ6_bitCount_0f7a4 46 = .ok (.iadd, 1) := op_96 lJ6_bitCount_0f7a4 (by decide +kernel)
theorem dJ6_bitCount_0f7a4_47 : decode cJ6_bitCount_0f7a4 47 = .ok (.istore_n 0, 1) := op_59 lJ6_bitCount_0f7a4 (by decide +kernel)
theorem dJ6_bitCount_0f7a4_48 : decode cJ6_bitCount_0f7a4 48 = .ok (.iload_n 0, 1) := op_26 lJ6_bitCount_0f7a4 (by decide +kernel)
theorem dJ6_bitCount_0f7a4_49 : decode cJ6_bitCount_0f7a4 49 = .ok (.bipush 63, 2) := op_16 lJ6_bitCount_0f7a4 63 (by decide +kernel)
theorem dJ6_bitCount_0f7a4_51 : decode cJ6_bitCount_0f7a4 51 = .ok (.iand, 1) := op_126 lJ6_bitCount_0f7a4 (by decide +kernel)
theorem dJ6_bitCount_0f7a4_52 : decode cJ6_bitCount_0f7a4 52 = .ok (.ireturn, 1) := op_172 lJ6_bitCount_0f7a4 (by decide +kernel)
end

section
def nJ9_floorMod_7cf53 : Nat := 0xac1cac601b1c0700991c0b009c821b1a3d701b1a
theorem lJ9_floorMod_7cf53 : cJ9_floorMod_7cf53.data.toList = unp nJ9_floorMod_7cf53 20 0 := by decide +kernel
theorem dJ9_floorMod_7cf53_0 : decode cJ9_floorMod_7cf53 0 = .ok (.iload_n 0, 1) := op_26 lJ9_floorMod_7cf53 (by decide +kernel)
theorem dJ9_floorMod_7cf53_1 : decode cJ9_floorMod_7cf53 1 = .ok (.iload_n 1, 1) := op_27 lJ9_floorMod_7cf53 (by decide +kernel)
theorem dJ9_floorMod_7cf53_2 : decode cJ9_floorMod_7cf53 2 = .ok (.irem, 1) := op_112 lJ9_floorMod_7cf53 (by decide +kernel)
theorem dJ9_floorMod_7cf53_3 : decode cJ9_floorMod_7cf53 3 = .ok (.istore_n 2, 1) := op_61 lJ9_floorMod_7cf53 (by decide +kernel)
theorem dJ9_floorMod_7cf53_4 : decode cJ9_floorMod_7cf53 4 = .ok (.iload_n 0, 1) := op_26 lJ9_floorMod_7cf53 (by decide +kernel)
theorem dJ9_floorMod_7cf53_5 : decode cJ9_floorMod_7cf53 5 = .ok (.iload_n 1, 1) := op_27 lJ9_floorMod_7cf53 (by decide +kernel)
theorem dJ9_floorMod_7cf53_6 : decode cJ9_floorMod_7cf53 6 = .ok (.ixor, 1) := op_130 lJ9_floorMod_7cf53 (by decide +kernel)
theorem dJ9_floorMod_7cf53_7 : decode cJ9_floorMod_7cf53 7 = .ok (.ifCond .ge 11, 3) := op_156 lJ9_floorMod_7cf53 0 11 (by decide +kernel)
theorem dJ9_floorMod_7cf53_10 : decode cJ9_floorMod_7cf53 10 = .ok (.iload_n 2, 1) := op_28 lJ9_floorMod_7cf53 (by decide +kernel)
theorem dJ9_floorMod_7cf53_11 : decode cJ9_floorMod_7cf53 11 = .ok (.ifCond .eq 7, 3) := op_153 lJ9_floorMod_7cf53 0 7 (by decide +kernel)
theorem dJ9_floorMod_7cf53_14 : decode cJ9_floorMod_7cf53 14 = .ok (.iload_n 2, 1) := op_28 lJ9_floorMod_7cf53 (by decide +kernel)
theorem dJ9_floorMod_7cf53_15 : decode cJ9_floorMod_7cf53 15 = .ok (.iload_n 1, 1) := op_27 lJ9_floorMod_7cf53 (by decide +kernel)
theorem dJ9_floorMod_7cf53_16 : decode cJ9_floorMod_7cf53 16 = .ok (.iadd, 1) := op_96 lJ9_floorMod_7cf53 (by decide +kernel)
theorem dJ9_floorMod_7cf53_17 : decode cJ9_floorMod_7cf53 17 = .ok (.ireturn, 1) := op_172 lJ9_floorMod_7cf53 (by decide +kernel)
theorem dJ9_floorMod_7cf53_18 : decode cJ9_floorMod_7cf53 18 = .ok (.iload_n 2, 1) := op_28 lJ9_floorMod_7cf53 (by decide +kernel)
theorem dJ9_floorMod_7cf53_19 : decode cJ9_floorMod_7cf53 19 = .ok (.ireturn, 1) := op_172 lJ9_floorMod_7cf53 (by decide +kernel)
def nJ9_abs_0f7a4 : Nat := 0xac1a0400a7741a08009c1a
theorem lJ9_abs_0f7a4 : cJ9_abs_0f7a4.data.toList = unp nJ9_abs_0f7a4 11 0 := by decide +kernel
theorem dJ9_abs_0f7a4_0 : decode cJ9_abs_0f7a4 0 = .ok (.iload_n 0, 1) := op_26 lJ9_abs_0f7a4 (by decide +kernel)
theorem dJ9_abs_0f7a4_1 : decode cJ9_abs_0f7a4 1 = .ok (.ifCond .ge 8, 3) := op_156 lJ9_abs_0f7a4 0 8 (by decide +kernel)
theorem dJ9_abs_0f7a4_4 : decode cJ9_abs_0f7a4 4 = .ok (.iload_n 0, 1) := op_26 lJ9_abs_0f7a4 (by decide +kernel)
theorem dJ9_abs_0f7a4_5 : decode cJ9_abs_0f7a4 5 = .ok (.ineg, 1) := op_116 lJ9_abs_0f7a4 (by decide +kernel)
theorem dJ9_abs_0f7a4_6 : decode cJ9_abs_0f7a4 6 = .ok (.goto 4, 3) := op_167 lJ9_abs_0f7a4 0 4 (by decide +kernel)
theorem dJ9_abs_0f7a4_9 : decode cJ9_abs_0f7a4 9 = .ok (.iload_n 0, 1) := op_26 lJ9_abs_0f7a4 (by decide +kernel)
theorem dJ9_abs_0f7a4_10 : decode cJ9_abs_0f7a4 10 = .ok (.ireturn, 1) := op_172 lJ9_abs_0f7a4 (by decide +kernel)
def nJ9_max_7cf53 : Nat := 0xac1b0400a71a0700a11b1a
theorem lJ9_max_7cf53 : cJ9_max_7cf53.data.toList = unp nJ9_max_7cf53 11 0 := by decide +kernel
theorem dJ9_max_7cf53_0 : decode cJ9_max_7cf53 0 = .ok (.iload_n 0, 1) := op_26 lJ9_max_7cf53 (by decide +kernel)
theorem dJ9_max_7cf53_1 : decode cJ9_max_7cf53 1 = .ok (.iload_n 1, 1) := op_27 lJ9_max_7cf53 (by decide +kernel)
theorem dJ9_max_7cf53_2 : decode cJ9_max_7cf53 2 = .ok (.if_icmp .lt 7, 3) := op_161 lJ9_max_7cf53 0 7 (by decide +kernel)
theorem dJ9_max_7cf53_5 : decode cJ9_max_7cf53 5 = .ok (.iload_n 0, 1) := op_26 lJ9_max_7cf53 (by decide +kernel)
theorem dJ9_max_7cf53_6 : decode cJ9_max_7cf53 6 = .ok (.goto 4, 3) := op_167 lJ9_max_7cf53 0 4 (by decide +kernel)
theorem dJ9_max_7cf53_9 : decode cJ9_max_7cf53 9 = .ok (.iload_n 1, 1) := op_27 lJ9_max_7cf53 (by decide +kernel)
theorem dJ9_max_7cf53_10 : decode cJ9_max_7cf53 10 = .ok (.ireturn, 1) := op_172 lJ9_max_7cf53 (by decide +kernel)
def nJ9_min_7cf53 : Nat := 0xac1b0400a71a0700a31b1a
theorem lJ9_min_7cf53 : cJ9_min_7cf53.data.toList = unp nJ9_min_7cf53 11 0 := by decide +kernel
theorem dJ9_min_7cf53_0 : decode cJ9_min_7cf53 0 = .ok (.iload_n 0, 1) := op_26 lJ9_min_7cf53 (by decide +kernel)
theorem dJ9_min_7cf53_1 : decode cJ9_min_7cf53 1 = .ok (.iload_n 1, 1) := op_27 lJ9_min_7cf53 (by decide +kernel)
theorem dJ9_min_7cf53_2 : decode cJ9_min_7cf53 2 = .ok (.if_icmp .gt 7, 3) := op_163 lJ9_min_7cf53 0 7 (by decide +kernel)
theorem dJ9_min_7cf53_5 : decode cJ9_min_7cf53 5 = .ok (.iload_n 0, 1) := op_26 lJ9_min_7cf53 (by decide +kernel)
theorem dJ9_min_7cf53_6 : decode cJ9_min_7cf53 6 = .ok (.goto 4, 3) := op_167 lJ9_min_7cf53 0 4 (by decide +kernel)
theorem dJ9_min_7cf53_9 : decode cJ9_min_7cf53 9 = .ok (.iload_n 1, 1) := op_27 lJ9_min_7cf53 (by decide +kernel)
theorem dJ9_min_7cf53_10 : decode cJ9_min_7cf53 10 = .ok (.ireturn, 1) := op_172 lJ9_min_7cf53 (by decide +kernel)
end

section
def nX0_init : Nat := 0xb10900b50abc1b102a0300b72a
theorem lX0_init : cX0_init.data.toList = unp nX0_init 13 0 := by decide +kernel
theorem dX0_init_0 : decode cX0_init 0 = .ok (.aload_n 0, 1) := op_42 lX0_init (by decide +kernel)
theorem dX0_init_1 : decode cX0_init 1 = .ok (.invokespecial 3, 3) := op_183 lX0_init 0 3 (by decide +kernel)
theorem dX0_init_4 : decode cX0_init 4 = .ok (.aload_n 0, 1) := op_42 lX0_init (by decide +kernel)
theorem dX0_init_5 : decode cX0_init 5 = .ok (.bipush 27, 2) := op_16 lX0_init 27 (by decide +kernel)
theorem dX0_init_7 : decode cX0_init 7 = .ok (.newarray .int, 2) := by decide +kernel
theorem dX0_init_9 : decode cX0_init 9 = .ok (.putfield 9, 3) := op_181 lX0_init 0 9 (by decide +kernel)
theorem dX0_init_12 : decode cX0_init 12 = .ok (.return_, 1) := op_177 lX0_init (by decide +kernel)
def nX0_size : Nat := 0xac0f00b42a
theorem lX0_size : cX0_size.data.toList = unp nX0_size 5 0 := by decide +kernel
theorem dX0_size_0 : decode cX0_size 0 = .ok (.aload_n 0, 1) := op_42 lX0_size (by decide +kernel)
theorem dX0_size_1 : decode cX0_size 1 = .ok (.getfield 15, 3) := op_180 lX0_size 0 15 (by decide +kernel)
theorem dX0_size_4 : decode cX0_size 4 = .ok (.ireturn, 1) := op_172 lX0_size (by decide +kernel)
def nX0_gather : Nat := 0xb1b1ffa7ff0684bfffa70107840f00b560040f00b4592a4f07150f00b42a0900b42a1800a21b100f00b42a2100a006152800b807151d2b2d00992400b6071505152b3e00a22100b62b071507360350009e0615063664041d00b62b0f00b5032a05367e1c1900b61300b604151d2b2b
theorem lX0_gather : cX0_gather.data.toList = unp nX0_gather 111 0 := by decide +kernel
theorem dX0_gather_0 : decode cX0_gather 0 = .ok (.aload_n 1, 1) := op_43 lX0_gather (by decide +kernel)
theorem dX0_gather_1 : decode cX0_gather 1 = .ok (.aload_n 1, 1) := op_43 lX0_gather (by decide +kernel)
theorem dX0_gather_2 : decode cX0_gather 2 = .ok (.iload_n 3, 1) := op_29 lX0_gather (by decide +kernel)
theorem dX0_gather_3 : decode cX0_gather 3 = .ok (.iload 4, 2) := op_21 lX0_gather (by decide +kernel)
theorem dX0_gather_5 : decode cX0_gather 5 = .ok (.invokevirtual 19, 3) := op_182 lX0_gather 0 19 (by decide +kernel)
theorem dX0_gather_8 : decode cX0_gather 8 = .ok (.invokevirtual 25, 3) := op_182 lX0_gather 0 25 (by decide +kernel)
theorem dX0_gather_11 : decode cX0_gather 11 = .ok (.iload_n 2, 1) := op_28 lX0_gather (by decide +kernel)
theorem dX0_gather_12 : decode cX0_gather 12 = .ok (.iand, 1) := op_126 lX0_gather (by decide +kernel)
theorem dX0_gather_13 : decode cX0_gather 13 = .ok (.istore 5, 2) := op_54 lX0_gather (by decide +kernel)
theorem dX0_gather_15 : decode cX0_gather 15 = .ok (.aload_n 0, 1) := op_42 lX0_gather (by decide +kernel)
theorem dX0_gather_16 : decode cX0_gather 16 = .ok (.iconst 0, 1) := op_3 lX0_gather (by decide +kernel)
theorem dX0_gather_17 : decode cX0_gather 17 = .ok (.putfield 15, 3) := op_181 lX0_gather 0 15 (by decide +kernel)
theorem dX0_gather_20 : decode cX0_gather 20 = .ok (.aload_n 1, 1) := op_43 lX0_gather (by decide +kernel)
theorem dX0_gather_21 : decode cX0_gather 21 = .ok (.invokevirtual 29, 3) := op_182 lX0_gather 0 29 (by decide +kernel)
theorem dX0_gather_24 : decode cX0_gather 24 = .ok (.iconst 1, 1) := op_4 lX0_gather (by decide +kernel)
theorem dX0_gather_25 : decode cX0_gather 25 = .ok (.isub, 1) := op_100 lX0_gather (by decide +kernel)
theorem dX0_gather_26 : decode cX0_gather 26 = .ok (.istore 6, 2) := op_54 lX0_gather (by decide +kernel)
theorem dX0_gather_28 : decode cX0_gather 28 = .ok (.iload 6, 2) := op_21 lX0_gather (by decide +kernel)
theorem dX0_gather_30 : decode cX0_gather 30 = .ok (.ifCond .le 80, 3) := op_158 lX0_gather 0 80 (by decide +kernel)
theorem dX0_gather_33 : decode cX0_gather 33 = .ok (.iconst 0, 1) := op_3 lX0_gather (by decide +kernel)
theorem dX0_gather_34 : decode cX0_gather 34 = .ok (.istore 7, 2) := op_54 lX0_gather (by decide +kernel)
theorem dX0_gather_36 : decode cX0_gather 36 = .ok (.iload 7, 2) := op_21 lX0_gather (by decide +kernel)
theorem dX0_gather_38 : decode cX0_gather 38 = .ok (.aload_n 1, 1) := op_43 lX0_gather (by decide +kernel)
theorem dX0_gather_39 : decode cX0_gather 39 = .ok (.invokevirtual 33, 3) := op_182 lX0_gather 0 33 (by decide +kernel)
theorem dX0_gather_42 : decode cX0_gather 42 = .ok (.if_icmp .ge 62, 3) := op_162 lX0_gather 0 62 (by decide +kernel)
theorem dX0_gather_45 : decode cX0_gather 45 = .ok (.aload_n 1, 1) := op_43 lX0_gather (by decide +kernel)
theorem dX0_gather_46 : decode cX0_gather 46 = .ok (.iload 5, 2) := op_21 lX0_gather (by decide +kernel)
theorem dX0_gather_48 : decode cX0_gather 48 = .ok (.iload 7, 2) := op_21 lX0_gather (by decide +kernel)
theorem dX0_gather_50 : decode cX0_gather 50 = .ok (.invokevirtual 36, 3) := op_182 lX0_gather 0 36 (by decide +kernel)
theorem dX0_gather_53 : decode cX0_gather 53 = .ok (.ifCond .eq 45, 3) := op_153 lX0_gather 0 45 (by decide +kernel)
theorem dX0_gather_56 : decode cX0_gather 56 = .ok (.aload_n 1, 1) := op_43 lX0_gather (by decide +kernel)
theorem dX0_gather_57 : decode cX0_gather 57 = .ok (.iload_n 3, 1) := op_29 lX0_gather (by decide +kernel)
theorem dX0_gather_58 : decode cX0_gather 58 = .ok (.iload 7, 2) := op_21 lX0_gather (by decide +kernel)
theorem dX0_gather_60 : decode cX0_gather 60 = .ok (.invokestatic 40, 3) := op_184 lX0_gather 0 40 (by decide +kernel)
theorem dX0_gather_63 : decode cX0_gather 63 = .ok (.iload 6, 2) := op_21 lX0_gather (by decide +kernel)
theorem dX0_gather_65 : decode cX0_gather 65 = .ok (.if_icmp .ne 33, 3) := op_160 lX0_gather 0 33 (by decide +kernel)
theorem dX0_gather_68 : decode cX0_gather 68 = .ok (.aload_n 0, 1) := op_42 lX0_gather (by decide +kernel)
theorem dX0_gather_69 : decode cX0_gather 69 = .ok (.getfield 15, 3) := op_180 lX0_gather 0 15 (by decide +kernel)
theorem dX0_gather_72 : decode cX0_gather 72 = .ok (.bipush 27, 2) := op_16 lX0_gather 27 (by decide +kernel)
theorem dX0_gather_74 : decode cX0_gather 74 = .ok (.if_icmp .ge 24, 3) := op_162 lX0_gather 0 24 (by decide +kernel)
theorem dX0_gather_77 : decode cX0_gather 77 = .ok (.aload_n 0, 1) := op_42 lX0_gather (by decide +kernel)
theorem dX0_gather_78 : decode cX0_gather 78 = .ok (.getfield 9, 3) := op_180 lX0_gather 0 9 (by decide +kernel)
theorem dX0_gather_81 : decode cX0_gather 81 = .ok (.aload_n 0, 1) := op_42 lX0_gather (by decide +kernel)
theorem dX0_gather_82 : decode cX0_gather 82 = .ok (.getfield 15, 3) := op_180 lX0_gather 0 15 (by decide +kernel)
theorem dX0_gather_85 : decode cX0_gather 85 = .ok (.iload 7, 2) := op_21 lX0_gather (by decide +kernel)
theorem dX0_gather_87 : decode cX0_gather 87 = .ok (.iastore, 1) := op_79 lX0_gather (by decide +kernel)
theorem dX0_gather_88 : decode cX0_gather 88 = .ok (.aload_n 0, 1) := op_42 lX0_gather (by decide +kernel)
theorem dX0_gather_89 : decode cX0_gather 89 = .ok (.dup, 1) := op_89 lX0_gather (by decide +kernel)
theorem dX0_gather_90 : decode cX0_gather 90 = .ok (.getfield 15, 3) := op_180 lX0_gather 0 15 (by decide +kernel)
theorem dX0_gather_93 : decode cX0_gather 93 = .ok (.iconst 1, 1) := op_4 lX0_gather (by decide +kernel)
theorem dX0_gather_94 : decode cX0_gather 94 = .ok (.iadd, 1) := op_96 lX0_gather (by decide +kernel)
theorem dX0_gather_95 : decode cX0_gather 95 = .ok (.putfield 15, 3) := op_181 lX0_gather 0 15 (by decide +kernel)
theorem dX0_gather_98 : decode cX0_gather 98 = .ok (.iinc 7 1, 3) := op_132 lX0_gather 1 (by decide +kernel)
theorem dX0_gather_101 : decode cX0_gather 101 = .ok (.goto (-65), 3) := op_167 lX0_gather 255 191 (by decide +kernel)
theorem dX0_gather_104 : decode cX0_gather 104 = .ok (.iinc 6 (-1), 3) := op_132 lX0_gather 255 (by decide +kernel)
theorem dX0_gather_107 : decode cX0_gather 107 = .ok (.goto (-79), 3) := op_167 lX0_gather 255 177 (by decide +kernel)
theorem dX0_gather_110 : decode cX0_gather 110 = .ok (.return_, 1) := op_177 lX0_gather (by decide +kernel)
def nX0_spanFrom : Nat := 0xac3500b86404151d04362f00b63200b61c2a1b2a3e2f00b62c00b61c2a1b2a
theorem lX0_spanFrom : cX0_spanFrom.data.toList = unp nX0_spanFrom 31 0 := by decide +kernel
theorem dX0_spanFrom_0 : decode cX0_spanFrom 0 = .ok (.aload_n 0, 1) := op_42 lX0_spanFrom (by decide +kernel)
theorem dX0_spanFrom_1 : decode cX0_spanFrom 1 = .ok (.iload_n 1, 1) := op_27 lX0_spanFrom (by decide +kernel)
theorem dX0_spanFrom_2 : decode cX0_spanFrom 2 = .ok (.aload_n 0, 1) := op_42 lX0_spanFrom (by decide +kernel)
theorem dX0_spanFrom_3 : decode cX0_spanFrom 3 = .ok (.iload_n 2, 1) := op_28 lX0_spanFrom (by decide +kernel)
theorem dX0_spanFrom_4 : decode cX0_spanFrom 4 = .ok (.invokevirtual 44, 3) := op_182 lX0_spanFrom 0 44 (by decide +kernel)
theorem dX0_spanFrom_7 : decode cX0_spanFrom 7 = .ok (.invokevirtual 47, 3) := op_182 lX0_spanFrom 0 47 (by decide +kernel)
theorem dX0_spanFrom_10 : decode cX0_spanFrom 10 = .ok (.istore_n 3, 1) := op_62 lX0_spanFrom (by decide +kernel)
theorem dX0_spanFrom_11 : decode cX0_spanFrom 11 = .ok (.aload_n 0, 1) := op_42 lX0_spanFrom (by decide +kernel)
theorem dX0_spanFrom_12 : decode cX0_spanFrom 12 = .ok (.iload_n 1, 1) := op_27 lX0_spanFrom (by decide +kernel)
theorem dX0_spanFrom_13 : decode cX0_spanFrom 13 = .ok (.aload_n 0, 1) := op_42 lX0_spanFrom (by decide +kernel)
theorem dX0_spanFrom_14 : decode cX0_spanFrom 14 = .ok (.iload_n 2, 1) := op_28 lX0_spanFrom (by decide +kernel)
theorem dX0_spanFrom_15 : decode cX0_spanFrom 15 = .ok (.invokevirtual 50, 3) := op_182 lX0_spanFrom 0 50 (by decide +kernel)
theorem dX0_spanFrom_18 : decode cX0_spanFrom 18 = .ok (.invokevirtual 47, 3) := op_182 lX0_spanFrom 0 47 (by decide +kernel)
theorem dX0_spanFrom_21 : decode cX0_spanFrom 21 = .ok (.istore 4, 2) := op_54 lX0_spanFrom (by decide +kernel)
theorem dX0_spanFrom_23 : decode cX0_spanFrom 23 = .ok (.iload_n 3, 1) := op_29 lX0_spanFrom (by decide +kernel)
theorem dX0_spanFrom_24 : decode cX0_spanFrom 24 = .ok (.iload 4, 2) := op_21 lX0_spanFrom (by decide +kernel)
theorem dX0_spanFrom_26 : decode cX0_spanFrom 26 = .ok (.isub, 1) := op_100 lX0_spanFrom (by decide +kernel)
theorem dX0_spanFrom_27 : decode cX0_spanFrom 27 = .ok (.invokestatic 53, 3) := op_184 lX0_spanFrom 0 53 (by decide +kernel)
theorem dX0_spanFrom_30 : decode cX0_spanFrom 30 = .ok (.ireturn, 1) := op_172 lX0_spanFrom (by decide +kernel)
def nX0_pairAt : Nat := 0xac3a00b62e1c0900b42a2b0d00a7020700a10f00b42a1c0b009b1c
theorem lX0_pairAt : cX0_pairAt.data.toList = unp nX0_pairAt 27 0 := by decide +kernel
theorem dX0_pairAt_0 : decode cX0_pairAt 0 = .ok (.iload_n 2, 1) := op_28 lX0_pairAt (by decide +kernel)
theorem dX0_pairAt_1 : decode cX0_pairAt 1 = .ok (.ifCond .lt 11, 3) := op_155 lX0_pairAt 0 11 (by decide +kernel)
theorem dX0_pairAt_4 : decode cX0_pairAt 4 = .ok (.iload_n 2, 1) := op_28 lX0_pairAt (by decide +kernel)
theorem dX0_pairAt_5 : decode cX0_pairAt 5 = .ok (.aload_n 0, 1) := op_42 lX0_pairAt (by decide +kernel)
theorem dX0_pairAt_6 : decode cX0_pairAt 6 = .ok (.getfield 15, 3) := op_180 lX0_pairAt 0 15 (by decide +kernel)
theorem dX0_pairAt_9 : decode cX0_pairAt 9 = .ok (.if_icmp .lt 7, 3) := op_161 lX0_pairAt 0 7 (by decide +kernel)
theorem dX0_pairAt_12 : decode cX0_pairAt 12 = .ok (.iconst (-1), 1) := op_2 lX0_pairAt (by decide +kernel)
theorem dX0_pairAt_13 : decode cX0_pairAt 13 = .ok (.goto 13, 3) := op_167 lX0_pairAt 0 13 (by decide +kernel)
theorem dX0_pairAt_16 : decode cX0_pairAt 16 = .ok (.aload_n 1, 1) := op_43 lX0_pairAt (by decide +kernel)
theorem dX0_pairAt_17 : decode cX0_pairAt 17 = .ok (.aload_n 0, 1) := op_42 lX0_pairAt (by decide +kernel)
theorem dX0_pairAt_18 : decode cX0_pairAt 18 = .ok (.getfield 9, 3) := op_180 lX0_pairAt 0 9 (by decide +kernel)
theorem dX0_pairAt_21 : decode cX0_pairAt 21 = .ok (.iload_n 2, 1) := op_28 lX0_pairAt (by decide +kernel)
theorem dX0_pairAt_22 : decode cX0_pairAt 22 = .ok (.iaload, 1) := op_46 lX0_pairAt (by decide +kernel)
theorem dX0_pairAt_23 : decode cX0_pairAt 23 = .ok (.invokevirtual 58, 3) := op_182 lX0_pairAt 0 58 (by decide +kernel)
theorem dX0_pairAt_26 : decode cX0_pairAt 26 = .ok (.ireturn, 1) := op_172 lX0_pairAt (by decide +kernel)
def nX0_sharedWithNext : Nat := 0xac3200b62e1c0900b42a2b0d00a71d0700a005151d09009f04151d05363200b62e60041c0900b42a2b04362c00b62e60041c0900b42a2b3e2c00b62e1c0900b42a2bac020500a164040f00b42a1c0d009b1c
theorem lX0_sharedWithNext : cX0_sharedWithNext.data.toList = unp nX0_sharedWithNext 82 0 := by decide +kernel
theorem dX0_sharedWithNext_0 : decode cX0_sharedWithNext 0 = .ok (.iload_n 2, 1) := op_28 lX0_sharedWithNext (by decide +kernel)
theorem dX0_sharedWithNext_1 : decode cX0_sharedWithNext 1 = .ok (.ifCond .lt 13, 3) := op_155 lX0_sharedWithNext 0 13 (by decide +kernel)
theorem dX0_sharedWithNext_4 : decode cX0_sharedWithNext 4 = .ok (.iload_n 2, 1) := op_28 lX0_sharedWithNext (by decide +kernel)
theorem dX0_sharedWithNext_5 : decode cX0_sharedWithNext 5 = .ok (.aload_n 0, 1) := op_42 lX0_sharedWithNext (by decide +kernel)
theorem dX0_sharedWithNext_6 : decode cX0_sharedWithNext 6 = .ok (.getfield 15, 3) := op_180 lX0_sharedWithNext 0 15 (by decide +kernel)
theorem dX0_sharedWithNext_9 : decode cX0_sharedWithNext 9 = .ok (.iconst 1, 1) := op_4 lX0_sharedWithNext (by decide +kernel)
theorem dX0_sharedWithNext_10 : decode cX0_sharedWithNext 10 = .ok (.isub, 1) := op_100 lX0_sharedWithNext (by decide +kernel)
theorem dX0_sharedWithNext_11 : decode cX0_sharedWithNext 11 = .ok (.if_icmp .lt 5, 3) := op_161 lX0_sharedWithNext 0 5 (by decide +kernel)
theorem dX0_sharedWithNext_14 : decode cX0_sharedWithNext 14 = .ok (.iconst (-1), 1) := op_2 lX0_sharedWithNext (by decide +kernel)
theorem dX0_sharedWithNext_15 : decode cX0_sharedWithNext 15 = .ok (.ireturn, 1) := op_172 lX0_sharedWithNext (by decide +kernel)
theorem dX0_sharedWithNext_16 : decode cX0_sharedWithNext 16 = .ok (.aload_n 1, 1) := op_43 lX0_sharedWithNext (by decide +kernel)
theorem dX0_sharedWithNext_17 : decode cX0_sharedWithNext 17 = .ok (.aload_n 0, 1) := op_42 lX0_sharedWithNext (by decide +kernel)
theorem dX0_sharedWithNext_18 : decode cX0_sharedWithNext 18 = .ok (.getfield 9, 3) := op_180 lX0_sharedWithNext 0 9 (by decide +kernel)
theorem dX0_sharedWithNext_21 : decode cX0_sharedWithNext 21 = .ok (.iload_n 2, 1) := op_28 lX0_sharedWithNext (by decide +kernel)
theorem dX0_sharedWithNext_22 : decode cX0_sharedWithNext 22 = .ok (.iaload, 1) := op_46 lX0_sharedWithNext (by decide +kernel)
theorem dX0_sharedWithNext_23 : decode cX0_sharedWithNext 23 = .ok (.invokevirtual 44, 3) := op_182 lX0_sharedWithNext 0 44 (by decide +kernel)
theorem dX0_sharedWithNext_26 : decode cX0_sharedWithNext 26 = .ok (.istore_n 3, 1) := op_62 lX0_sharedWithNext (by decide +kernel)
theorem dX0_sharedWithNext_27 : decode cX0_sharedWithNext 27 = .ok (.aload_n 1, 1) := op_43 lX0_sharedWithNext (by decide +kernel)
theorem dX0_sharedWithNext_28 : decode cX0_sharedWithNext 28 = .ok (.aload_n 0, 1) := op_42 lX0_sharedWithNext (by decide +kernel)
theorem dX0_sharedWithNext_29 : decode cX0_sharedWithNext 29 = .ok (.getfield 9, 3) := op_180 lX0_sharedWithNext 0 9 (by decide +kernel)
theorem dX0_sharedWithNext_32 : decode cX0_sharedWithNext 32 = .ok (.iload_n 2, 1) := op_28 lX0_sharedWithNext (by decide +kernel)
theorem dX0_sharedWithNext_33 : decode cX0_sharedWithNext 33 = .ok (.iconst 1, 1) := op_4 lX0_sharedWithNext (by decide +kernel)
theorem dX0_sharedWithNext_34 : decode cX0_sharedWithNext 34 = .ok (.iadd, 1) := op_96 lX0_sharedWithNext (by decide +kernel)
theorem dX0_sharedWithNext_35 : decode cX0_sharedWithNext 35 = .ok (.iaload, 1) := op_46 lX0_sharedWithNext (by decide +kernel)
theorem dX0_sharedWithNext_36 : decode cX0_sharedWithNext 36 = .ok (.invokevirtual 44, 3) := op_182 lX0_sharedWithNext 0 44 (by decide +kernel)
theorem dX0_sharedWithNext_39 : decode cX0_sharedWithNext 39 = .ok (.istore 4, 2) := op_54 lX0_sharedWithNext (by decide +kernel)
theorem dX0_sharedWithNext_41 : decode cX0_sharedWithNext 41 = .ok (.aload_n 1, 1) := op_43 lX0_sharedWithNext (by decide +kernel)
theorem dX0_sharedWithNext_42 : decode cX0_sharedWithNext 42 = .ok (.aload_n 0, 1) := op_42 lX0_sharedWithNext (by decide +kernel)
theorem dX0_sharedWithNext_43 : decode cX0_sharedWithNext 43 = .ok (.getfield 9, 3) := op_180 lX0_sharedWithNext 0 9 (by decide +kernel)
theorem dX0_sharedWithNext_46 : decode cX0_sharedWithNext 46 = .ok (.iload_n 2, 1) := op_28 lX0_sharedWithNext (by decide +kernel)
theorem dX0_sharedWithNext_47 : decode cX0_sharedWithNext 47 = .ok (.iconst 1, 1) := op_4 lX0_sharedWithNext (by decide +kernel)
theorem dX0_sharedWithNext_48 : decode cX0_sharedWithNext 48 = .ok (.iadd, 1) := op_96 lX0_sharedWithNext (by decide +kernel)
theorem dX0_sharedWithNext_49 : decode cX0_sharedWithNext 49 = .ok (.iaload, 1) := op_46 lX0_sharedWithNext (by decide +kernel)
theorem dX0_sharedWithNext_50 : decode cX0_sharedWithNext 50 = .ok (.invokevirtual 50, 3) := op_182 lX0_sharedWithNext 0 50 (by decide +kernel)
theorem dX0_sharedWithNext_53 : decode cX0_sharedWithNext 53 = .ok (.istore 5, 2) := op_54 lX0_sharedWithNext (by decide +kernel)
theorem dX0_sharedWithNext_55 : decode cX0_sharedWithNext 55 = .ok (.iload_n 3, 1) := op_29 lX0_sharedWithNext (by decide +kernel)
theorem dX0_sharedWithNext_56 : decode cX0_sharedWithNext 56 = .ok (.iload 4, 2) := op_21 lX0_sharedWithNext (by decide +kernel)
theorem dX0_sharedWithNext_58 : decode cX0_sharedWithNext 58 = .ok (.if_icmp .eq 9, 3) := op_159 lX0_sharedWithNext 0 9 (by decide +kernel)
theorem dX0_sharedWithNext_61 : decode cX0_sharedWithNext 61 = .ok (.iload_n 3, 1) := op_29 lX0_sharedWithNext (by decide +kernel)
theorem dX0_sharedWithNext_62 : decode cX0_sharedWithNext 62 = .ok (.iload 5, 2) := op_21 lX0_sharedWithNext (by decide +kernel)
theorem dX0_sharedWithNext_64 : decode cX0_sharedWithNext 64 = .ok (.if_icmp .ne 7, 3) := op_160 lX0_sharedWithNext 0 7 (by decide +kernel)
theorem dX0_sharedWithNext_67 : decode cX0_sharedWithNext 67 = .ok (.iload_n 3, 1) := op_29 lX0_sharedWithNext (by decide +kernel)
theorem dX0_sharedWithNext_68 : decode cX0_sharedWithNext 68 = .ok (.goto 13, 3) := op_167 lX0_sharedWithNext 0 13 (by decide +kernel)
theorem dX0_sharedWithNext_71 : decode cX0_sharedWithNext 71 = .ok (.aload_n 1, 1) := op_43 lX0_sharedWithNext (by decide +kernel)
theorem dX0_sharedWithNext_72 : decode cX0_sharedWithNext 72 = .ok (.aload_n 0, 1) := op_42 lX0_sharedWithNext (by decide +kernel)
theorem dX0_sharedWithNext_73 : decode cX0_sharedWithNext 73 = .ok (.getfield 9, 3) := op_180 lX0_sharedWithNext 0 9 (by decide +kernel)
theorem dX0_sharedWithNext_76 : decode cX0_sharedWithNext 76 = .ok (.iload_n 2, 1) := op_28 lX0_sharedWithNext (by decide +kernel)
theorem dX0_sharedWithNext_77 : decode cX0_sharedWithNext 77 = .ok (.iaload, 1) := op_46 lX0_sharedWithNext (by decide +kernel)
theorem dX0_sharedWithNext_78 : decode cX0_sharedWithNext 78 = .ok (.invokevirtual 50, 3) := op_182 lX0_sharedWithNext 0 50 (by decide +kernel)
theorem dX0_sharedWithNext_81 : decode cX0_sharedWithNext 81 = .ok (.ireturn, 1) := op_172 lX0_sharedWithNext (by decide +kernel)
end

section
def nX1_init : Nat := 0xb10900b5022a0300b72a
theorem lX1_init : cX1_init.data.toList = unp nX1_init 10 0 := by decide +kernel
theorem dX1_init_0 : decode cX1_init 0 = .ok (.aload_n 0, 1) := op_42 lX1_init (by decide +kernel)
theorem dX1_init_1 : decode cX1_init 1 = .ok (.invokespecial 3, 3) := op_183 lX1_init 0 3 (by decide +kernel)
theorem dX1_init_4 : decode cX1_init 4 = .ok (.aload_n 0, 1) := op_42 lX1_init (by decide +kernel)
theorem dX1_init_5 : decode cX1_init 5 = .ok (.iconst (-1), 1) := op_2 lX1_init (by decide +kernel)
theorem dX1_init_6 : decode cX1_init 6 = .ok (.putfield 9, 3) := op_181 lX1_init 0 9 (by decide +kernel)
theorem dX1_init_9 : decode cX1_init 9 = .ok (.return_, 1) := op_177 lX1_init (by decide +kernel)
def nX1_faultKind : Nat := 0xac0f00b42a
theorem lX1_faultKind : cX1_faultKind.data.toList = unp nX1_faultKind 5 0 := by decide +kernel
theorem dX1_faultKind_0 : decode cX1_faultKind 0 = .ok (.aload_n 0, 1) := op_42 lX1_faultKind (by decide +kernel)
theorem dX1_faultKind_1 : decode cX1_faultKind 1 = .ok (.getfield 15, 3) := op_180 lX1_faultKind 0 15 (by decide +kernel)
theorem dX1_faultKind_4 : decode cX1_faultKind 4 = .ok (.ireturn, 1) := op_172 lX1_faultKind (by decide +kernel)
def nX1_faultPlace : Nat := 0xac0900b42a
theorem lX1_faultPlace : cX1_faultPlace.data.toList = unp nX1_faultPlace 5 0 := by decide +kernel
theorem dX1_faultPlace_0 : decode cX1_faultPlace 0 = .ok (.aload_n 0, 1) := op_42 lX1_faultPlace (by decide +kernel)
theorem dX1_faultPlace_1 : decode cX1_faultPlace 1 = .ok (.getfield 9, 3) := op_180 lX1_faultPlace 0 9 (by decide +kernel)
theorem dX1_faultPlace_4 : decode cX1_faultPlace 4 = .ok (.ireturn, 1) := op_172 lX1_faultPlace (by decide +kernel)
def nX1_polygon : Nat := 0xb01200b42a
theorem lX1_polygon : cX1_polygon.data.toList = unp nX1_polygon 5 0 := by decide +kernel
theorem dX1_polygon_0 : decode cX1_polygon 0 = .ok (.aload_n 0, 1) := op_42 lX1_polygon (by decide +kernel)
theorem dX1_polygon_1 : decode cX1_polygon 1 = .ok (.getfield 18, 3) := op_180 lX1_polygon 0 18 (by decide +kernel)
theorem dX1_polygon_4 : decode cX1_polygon 4 = .ok (.areturn, 1) := op_176 lX1_polygon (by decide +kernel)
def nX1_bits : Nat := 0xac1600b42a
theorem lX1_bits : cX1_bits.data.toList = unp nX1_bits 5 0 := by decide +kernel
theorem dX1_bits_0 : decode cX1_bits 0 = .ok (.aload_n 0, 1) := op_42 lX1_bits (by decide +kernel)
theorem dX1_bits_1 : decode cX1_bits 1 = .ok (.getfield 22, 3) := op_180 lX1_bits 0 22 (by decide +kernel)
theorem dX1_bits_4 : decode cX1_bits 4 = .ok (.ireturn, 1) := op_172 lX1_bits (by decide +kernel)
def nX1_understand : Nat := 0xac030400a7040700c61200b42acdffa70103840900a706009a2c00b62bac030900b52800b62b2a0d00990f00b42a0f00b52400b62c2b2a2a2100b62b3200a32c01111d3e031c00b62b1600b5032a1200b5012a1900b5032a0900b5022a0f00b5032a
theorem lX1_understand : cX1_understand.data.toList = unp nX1_understand 98 0 := by decide +kernel
theorem dX1_understand_0 : decode cX1_understand 0 = .ok (.aload_n 0, 1) := op_42 lX1_understand (by decide +kernel)
theorem dX1_understand_1 : decode cX1_understand 1 = .ok (.iconst 0, 1) := op_3 lX1_understand (by decide +kernel)
theorem dX1_understand_2 : decode cX1_understand 2 = .ok (.putfield 15, 3) := op_181 lX1_understand 0 15 (by decide +kernel)
theorem dX1_understand_5 : decode cX1_understand 5 = .ok (.aload_n 0, 1) := op_42 lX1_understand (by decide +kernel)
theorem dX1_understand_6 : decode cX1_understand 6 = .ok (.iconst (-1), 1) := op_2 lX1_understand (by decide +kernel)
theorem dX1_understand_7 : decode cX1_understand 7 = .ok (.putfield 9, 3) := op_181 lX1_understand 0 9 (by decide +kernel)
theorem dX1_understand_10 : decode cX1_understand 10 = .ok (.aload_n 0, 1) := op_42 lX1_understand (by decide +kernel)
theorem dX1_understand_11 : decode cX1_understand 11 = .ok (.iconst 0, 1) := op_3 lX1_understand (by decide +kernel)
theorem dX1_understand_12 : decode cX1_understand 12 = .ok (.putfield 25, 3) := op_181 lX1_understand 0 25 (by decide +kernel)
theorem dX1_understand_15 : decode cX1_understand 15 = .ok (.aload_n 0, 1) := op_42 lX1_understand (by decide +kernel)
theorem dX1_understand_16 : decode cX1_understand 16 = .ok (.aconst_null, 1) := op_1 lX1_understand (by decide +kernel)
theorem dX1_understand_17 : decode cX1_understand 17 = .ok (.putfield 18, 3) := op_181 lX1_understand 0 18 (by decide +kernel)
theorem dX1_understand_20 : decode cX1_understand 20 = .ok (.aload_n 0, 1) := op_42 lX1_understand (by decide +kernel)
theorem dX1_understand_21 : decode cX1_understand 21 = .ok (.iconst 0, 1) := op_3 lX1_understand (by decide +kernel)
theorem dX1_understand_22 : decode cX1_understand 22 = .ok (.putfield 22, 3) := op_181 lX1_understand 0 22 (by decide +kernel)
theorem dX1_understand_25 : decode cX1_understand 25 = .ok (.aload_n 1, 1) := op_43 lX1_understand (by decide +kernel)
theorem dX1_understand_26 : decode cX1_understand 26 = .ok (.invokevirtual 28, 3) := op_182 lX1_understand 0 28 (by decide +kernel)
theorem dX1_understand_29 : decode cX1_understand 29 = .ok (.iconst 0, 1) := op_3 lX1_understand (by decide +kernel)
theorem dX1_understand_30 : decode cX1_understand 30 = .ok (.istore_n 3, 1) := op_62 lX1_understand (by decide +kernel)
theorem dX1_understand_31 : decode cX1_understand 31 = .ok (.iload_n 3, 1) := op_29 lX1_understand (by decide +kernel)
theorem dX1_understand_32 : decode cX1_understand 32 = .ok (.sipush 300, 3) := op_17 lX1_understand 1 44 (by decide +kernel)
theorem dX1_understand_35 : decode cX1_understand 35 = .ok (.if_icmp .gt 50, 3) := op_163 lX1_understand 0 50 (by decide +kernel)
theorem dX1_understand_38 : decode cX1_understand 38 = .ok (.aload_n 1, 1) := op_43 lX1_understand (by decide +kernel)
theorem dX1_understand_39 : decode cX1_understand 39 = .ok (.invokevirtual 33, 3) := op_182 lX1_understand 0 33 (by decide +kernel)
theorem dX1_understand_42 : decode cX1_understand 42 = .ok (.aload_n 0, 1) := op_42 lX1_understand (by decide +kernel)
theorem dX1_understand_43 : decode cX1_understand 43 = .ok (.aload_n 0, 1) := op_42 lX1_understand (by decide +kernel)
theorem dX1_understand_44 : decode cX1_understand 44 = .ok (.aload_n 1, 1) := op_43 lX1_understand (by decide +kernel)
theorem dX1_understand_45 : decode cX1_understand 45 = .ok (.aload_n 2, 1) := op_44 lX1_understand (by decide +kernel)
theorem dX1_understand_46 : decode cX1_understand 46 = .ok (.invokevirtual 36, 3) := op_182 lX1_understand 0 36 (by decide +kernel)
theorem dX1_understand_49 : decode cX1_understand 49 = .ok (.putfield 15, 3) := op_181 lX1_understand 0 15 (by decide +kernel)
theorem dX1_understand_52 : decode cX1_understand 52 = .ok (.aload_n 0, 1) := op_42 lX1_understand (by decide +kernel)
theorem dX1_understand_53 : decode cX1_understand 53 = .ok (.getfield 15, 3) := op_180 lX1_understand 0 15 (by decide +kernel)
theorem dX1_understand_56 : decode cX1_understand 56 = .ok (.ifCond .eq 13, 3) := op_153 lX1_understand 0 13 (by decide +kernel)
theorem dX1_understand_59 : decode cX1_understand 59 = .ok (.aload_n 0, 1) := op_42 lX1_understand (by decide +kernel)
theorem dX1_understand_60 : decode cX1_understand 60 = .ok (.aload_n 1, 1) := op_43 lX1_understand (by decide +kernel)
theorem dX1_understand_61 : decode cX1_understand 61 = .ok (.invokevirtual 40, 3) := op_182 lX1_understand 0 40 (by decide +kernel)
theorem dX1_understand_64 : decode cX1_understand 64 = .ok (.putfield 9, 3) := op_181 lX1_understand 0 9 (by decide +kernel)
theorem dX1_understand_67 : decode cX1_understand 67 = .ok (.iconst 0, 1) := op_3 lX1_understand (by decide +kernel)
theorem dX1_understand_68 : decode cX1_understand 68 = .ok (.ireturn, 1) := op_172 lX1_understand (by decide +kernel)
theorem dX1_understand_69 : decode cX1_understand 69 = .ok (.aload_n 1, 1) := op_43 lX1_understand (by decide +kernel)
theorem dX1_understand_70 : decode cX1_understand 70 = .ok (.invokevirtual 44, 3) := op_182 lX1_understand 0 44 (by decide +kernel)
theorem dX1_understand_73 : decode cX1_understand 73 = .ok (.ifCond .ne 6, 3) := op_154 lX1_understand 0 6 (by decide +kernel)
theorem dX1_understand_76 : decode cX1_understand 76 = .ok (.goto 9, 3) := op_167 lX1_understand 0 9 (by decide +kernel)
theorem dX1_understand_79 : decode cX1_understand 79 = .ok (.iinc 3 1, 3) := op_132 lX1_understand 1 (by decide +kernel)
theorem dX1_understand_82 : decode cX1_understand 82 = .ok (.goto (-51), 3) := op_167 lX1_understand 255 205 (by decide +kernel)
theorem dX1_understand_85 : decode cX1_understand 85 = .ok (.aload_n 0, 1) := op_42 lX1_understand (by decide +kernel)
theorem dX1_understand_86 : decode cX1_understand 86 = .ok (.getfield 18, 3) := op_180 lX1_understand 0 18 (by decide +kernel)
theorem dX1_understand_89 : decode cX1_understand 89 = .ok (.ifnull 7, 3) := op_198 lX1_understand 0 7 (by decide +kernel)
theorem dX1_understand_92 : decode cX1_understand 92 = .ok (.iconst 1, 1) := op_4 lX1_understand (by decide +kernel)
theorem dX1_understand_93 : decode cX1_understand 93 = .ok (.goto 4, 3) := op_167 lX1_understand 0 4 (by decide +kernel)
theorem dX1_understand_96 : decode cX1_understand 96 = .ok (.iconst 0, 1) := op_3 lX1_understand (by decide +kernel)
theorem dX1_understand_97 : decode cX1_understand 97 = .ok (.ireturn, 1) := op_172 lX1_understand (by decide +kernel)
def nX1_takeToken : Nat := 0xac040400a7030700a0062c00b62b1900b5052aac040400a74200b63500b62b2a0e00a0052c00b62b1900b5072aac3e00b62b2a1900b5062aac030400a7050700c71200b42a1200b53800b63500b62b2c2aac0405009f052c00b62b1900b5072aac040400a7030700993100b62f122b1900b5042a670000005c0000003400000020000000030000000000000081000000000000aa1900b42a
theorem lX1_takeToken : cX1_takeToken.data.toList = unp nX1_takeToken 152 0 := by decide +kernel
theorem dX1_takeToken_0 : decode cX1_takeToken 0 = .ok (.aload_n 0, 1) := op_42 lX1_takeToken (by decide +kernel)
theorem dX1_takeToken_1 : decode cX1_takeToken 1 = .ok (.getfield 25, 3) := op_180 lX1_takeToken 0 25 (by decide +kernel)
theorem dX1_takeToken_4 : decode cX1_takeToken 4 = .ok (.tableswitch 129 0 3 #[32, 52, 92, 103], 32) := by decide +kernel
theorem dX1_takeToken_36 : decode cX1_takeToken 36 = .ok (.aload_n 0, 1) := op_42 lX1_takeToken (by decide +kernel)
theorem dX1_takeToken_37 : decode cX1_takeToken 37 = .ok (.iconst 1, 1) := op_4 lX1_takeToken (by decide +kernel)
theorem dX1_takeToken_38 : decode cX1_takeToken 38 = .ok (.putfield 25, 3) := op_181 lX1_takeToken 0 25 (by decide +kernel)
theorem dX1_takeToken_41 : decode cX1_takeToken 41 = .ok (.aload_n 1, 1) := op_43 lX1_takeToken (by decide +kernel)
theorem dX1_takeToken_42 : decode cX1_takeToken 42 = .ok (.ldc 47, 2) := op_18 lX1_takeToken (by decide +kernel)
theorem dX1_takeToken_44 : decode cX1_takeToken 44 = .ok (.invokevirtual 49, 3) := op_182 lX1_takeToken 0 49 (by decide +kernel)
theorem dX1_takeToken_47 : decode cX1_takeToken 47 = .ok (.ifCond .eq 7, 3) := op_153 lX1_takeToken 0 7 (by decide +kernel)
theorem dX1_takeToken_50 : decode cX1_takeToken 50 = .ok (.iconst 0, 1) := op_3 lX1_takeToken (by decide +kernel)
theorem dX1_takeToken_51 : decode cX1_takeToken 51 = .ok (.goto 4, 3) := op_167 lX1_takeToken 0 4 (by decide +kernel)
theorem dX1_takeToken_54 : decode cX1_takeToken 54 = .ok (.iconst 1, 1) := op_4 lX1_takeToken (by decide +kernel)
theorem dX1_takeToken_55 : decode cX1_takeToken 55 = .ok (.ireturn, 1) := op_172 lX1_takeToken (by decide +kernel)
theorem dX1_takeToken_56 : decode cX1_takeToken 56 = .ok (.aload_n 0, 1) := op_42 lX1_takeToken (by decide +kernel)
theorem dX1_takeToken_57 : decode cX1_takeToken 57 = .ok (.iconst 4, 1) := op_7 lX1_takeToken (by decide +kernel)
theorem dX1_takeToken_58 : decode cX1_takeToken 58 = .ok (.putfield 25, 3) := op_181 lX1_takeToken 0 25 (by decide +kernel)
theorem dX1_takeToken_61 : decode cX1_takeToken 61 = .ok (.aload_n 1, 1) := op_43 lX1_takeToken (by decide +kernel)
theorem dX1_takeToken_62 : decode cX1_takeToken 62 = .ok (.invokevirtual 44, 3) := op_182 lX1_takeToken 0 44 (by decide +kernel)
theorem dX1_takeToken_65 : decode cX1_takeToken 65 = .ok (.iconst 2, 1) := op_5 lX1_takeToken (by decide +kernel)
theorem dX1_takeToken_66 : decode cX1_takeToken 66 = .ok (.if_icmp .eq 5, 3) := op_159 lX1_takeToken 0 5 (by decide +kernel)
theorem dX1_takeToken_69 : decode cX1_takeToken 69 = .ok (.iconst 1, 1) := op_4 lX1_takeToken (by decide +kernel)
theorem dX1_takeToken_70 : decode cX1_takeToken 70 = .ok (.ireturn, 1) := op_172 lX1_takeToken (by decide +kernel)
theorem dX1_takeToken_71 : decode cX1_takeToken 71 = .ok (.aload_n 0, 1) := op_42 lX1_takeToken (by decide +kernel)
theorem dX1_takeToken_72 : decode cX1_takeToken 72 = .ok (.aload_n 2, 1) := op_44 lX1_takeToken (by decide +kernel)
theorem dX1_takeToken_73 : decode cX1_takeToken 73 = .ok (.aload_n 1, 1) := op_43 lX1_takeToken (by decide +kernel)
theorem dX1_takeToken_74 : decode cX1_takeToken 74 = .ok (.invokevirtual 53, 3) := op_182 lX1_takeToken 0 53 (by decide +kernel)
theorem dX1_takeToken_77 : decode cX1_takeToken 77 = .ok (.invokevirtual 56, 3) := op_182 lX1_takeToken 0 56 (by decide +kernel)
theorem dX1_takeToken_80 : decode cX1_takeToken 80 = .ok (.putfield 18, 3) := op_181 lX1_takeToken 0 18 (by decide +kernel)
theorem dX1_takeToken_83 : decode cX1_takeToken 83 = .ok (.aload_n 0, 1) := op_42 lX1_takeToken (by decide +kernel)
theorem dX1_takeToken_84 : decode cX1_takeToken 84 = .ok (.getfield 18, 3) := op_180 lX1_takeToken 0 18 (by decide +kernel)
theorem dX1_takeToken_87 : decode cX1_takeToken 87 = .ok (.ifnonnull 7, 3) := op_199 lX1_takeToken 0 7 (by decide +kernel)
theorem dX1_takeToken_90 : decode cX1_takeToken 90 = .ok (.iconst 2, 1) := op_5 lX1_takeToken (by decide +kernel)
theorem dX1_takeToken_91 : decode cX1_takeToken 91 = .ok (.goto 4, 3) := op_167 lX1_takeToken 0 4 (by decide +kernel)
theorem dX1_takeToken_94 : decode cX1_takeToken 94 = .ok (.iconst 0, 1) := op_3 lX1_takeToken (by decide +kernel)
theorem dX1_takeToken_95 : decode cX1_takeToken 95 = .ok (.ireturn, 1) := op_172 lX1_takeToken (by decide +kernel)
theorem dX1_takeToken_96 : decode cX1_takeToken 96 = .ok (.aload_n 0, 1) := op_42 lX1_takeToken (by decide +kernel)
theorem dX1_takeToken_97 : decode cX1_takeToken 97 = .ok (.iconst 3, 1) := op_6 lX1_takeToken (by decide +kernel)
theorem dX1_takeToken_98 : decode cX1_takeToken 98 = .ok (.putfield 25, 3) := op_181 lX1_takeToken 0 25 (by decide +kernel)
theorem dX1_takeToken_101 : decode cX1_takeToken 101 = .ok (.aload_n 0, 1) := op_42 lX1_takeToken (by decide +kernel)
theorem dX1_takeToken_102 : decode cX1_takeToken 102 = .ok (.aload_n 1, 1) := op_43 lX1_takeToken (by decide +kernel)
theorem dX1_takeToken_103 : decode cX1_takeToken 103 = .ok (.invokevirtual 62, 3) := op_182 lX1_takeToken 0 62 (by decide +kernel)
theorem dX1_takeToken_106 : decode cX1_takeToken 106 = .ok (.ireturn, 1) := op_172 lX1_takeToken (by decide +kernel)
theorem dX1_takeToken_107 : decode cX1_takeToken 107 = .ok (.aload_n 0, 1) := op_42 lX1_takeToken (by decide +kernel)
theorem dX1_takeToken_108 : decode cX1_takeToken 108 = .ok (.iconst 4, 1) := op_7 lX1_takeToken (by decide +kernel)
theorem dX1_takeToken_109 : decode cX1_takeToken 109 = .ok (.putfield 25, 3) := op_181 lX1_takeToken 0 25 (by decide +kernel)
theorem dX1_takeToken_112 : decode cX1_takeToken 112 = .ok (.aload_n 1, 1) := op_43 lX1_takeToken (by decide +kernel)
theorem dX1_takeToken_113 : decode cX1_takeToken 113 = .ok (.invokevirtual 44, 3) := op_182 lX1_takeToken 0 44 (by decide +kernel)
theorem dX1_takeToken_116 : decode cX1_takeToken 116 = .ok (.iconst 2, 1) := op_5 lX1_takeToken (by decide +kernel)
theorem dX1_takeToken_117 : decode cX1_takeToken 117 = .ok (.if_icmp .ne 14, 3) := op_160 lX1_takeToken 0 14 (by decide +kernel)
theorem dX1_takeToken_120 : decode cX1_takeToken 120 = .ok (.aload_n 0, 1) := op_42 lX1_takeToken (by decide +kernel)
theorem dX1_takeToken_121 : decode cX1_takeToken 121 = .ok (.aload_n 1, 1) := op_43 lX1_takeToken (by decide +kernel)
theorem dX1_takeToken_122 : decode cX1_takeToken 122 = .ok (.invokevirtual 53, 3) := op_182 lX1_takeToken 0 53 (by decide +kernel)
theorem dX1_takeToken_125 : decode cX1_takeToken 125 = .ok (.invokevirtual 66, 3) := op_182 lX1_takeToken 0 66 (by decide +kernel)
theorem dX1_takeToken_128 : decode cX1_takeToken 128 = .ok (.goto 4, 3) := op_167 lX1_takeToken 0 4 (by decide +kernel)
theorem dX1_takeToken_131 : decode cX1_takeToken 131 = .ok (.iconst 1, 1) := op_4 lX1_takeToken (by decide +kernel)
theorem dX1_takeToken_132 : decode cX1_takeToken 132 = .ok (.ireturn, 1) := op_172 lX1_takeToken (by decide +kernel)
theorem dX1_takeToken_133 : decode cX1_takeToken 133 = .ok (.aload_n 0, 1) := op_42 lX1_takeToken (by decide +kernel)
theorem dX1_takeToken_134 : decode cX1_takeToken 134 = .ok (.iconst 2, 1) := op_5 lX1_takeToken (by decide +kernel)
theorem dX1_takeToken_135 : decode cX1_takeToken 135 = .ok (.putfield 25, 3) := op_181 lX1_takeToken 0 25 (by decide +kernel)
theorem dX1_takeToken_138 : decode cX1_takeToken 138 = .ok (.aload_n 1, 1) := op_43 lX1_takeToken (by decide +kernel)
theorem dX1_takeToken_139 : decode cX1_takeToken 139 = .ok (.invokevirtual 44, 3) := op_182 lX1_takeToken 0 44 (by decide +kernel)
theorem dX1_takeToken_142 : decode cX1_takeToken 142 = .ok (.iconst 3, 1) := op_6 lX1_takeToken (by decide +kernel)
theorem dX1_takeToken_143 : decode cX1_takeToken 143 = .ok (.if_icmp .ne 7, 3) := op_160 lX1_takeToken 0 7 (by decide +kernel)
theorem dX1_takeToken_146 : decode cX1_takeToken 146 = .ok (.iconst 0, 1) := op_3 lX1_takeToken (by decide +kernel)
theorem dX1_takeToken_147 : decode cX1_takeToken 147 = .ok (.goto 4, 3) := op_167 lX1_takeToken 0 4 (by decide +kernel)
theorem dX1_takeToken_150 : decode cX1_takeToken 150 = .ok (.iconst 1, 1) := op_4 lX1_takeToken (by decide +kernel)
theorem dX1_takeToken_151 : decode cX1_takeToken 151 = .ok (.ireturn, 1) := op_172 lX1_takeToken (by decide +kernel)
def nX1_takeFirst : Nat := 0xac050400a7030700995200b64f00b42a1200b42aac0405009f052c00b62b4f00b53500b62b2aac030400a706100800a264064b00b61200b42a4600b81600b42a1d009a2c00b62bac040500c71200b42a
theorem lX1_takeFirst : cX1_takeFirst.data.toList = unp nX1_takeFirst 80 0 := by decide +kernel
theorem dX1_takeFirst_0 : decode cX1_takeFirst 0 = .ok (.aload_n 0, 1) := op_42 lX1_takeFirst (by decide +kernel)
theorem dX1_takeFirst_1 : decode cX1_takeFirst 1 = .ok (.getfield 18, 3) := op_180 lX1_takeFirst 0 18 (by decide +kernel)
theorem dX1_takeFirst_4 : decode cX1_takeFirst 4 = .ok (.ifnonnull 5, 3) := op_199 lX1_takeFirst 0 5 (by decide +kernel)
theorem dX1_takeFirst_7 : decode cX1_takeFirst 7 = .ok (.iconst 1, 1) := op_4 lX1_takeFirst (by decide +kernel)
theorem dX1_takeFirst_8 : decode cX1_takeFirst 8 = .ok (.ireturn, 1) := op_172 lX1_takeFirst (by decide +kernel)
theorem dX1_takeFirst_9 : decode cX1_takeFirst 9 = .ok (.aload_n 1, 1) := op_43 lX1_takeFirst (by decide +kernel)
theorem dX1_takeFirst_10 : decode cX1_takeFirst 10 = .ok (.invokevirtual 44, 3) := op_182 lX1_takeFirst 0 44 (by decide +kernel)
theorem dX1_takeFirst_13 : decode cX1_takeFirst 13 = .ok (.ifCond .ne 29, 3) := op_154 lX1_takeFirst 0 29 (by decide +kernel)
theorem dX1_takeFirst_16 : decode cX1_takeFirst 16 = .ok (.aload_n 0, 1) := op_42 lX1_takeFirst (by decide +kernel)
theorem dX1_takeFirst_17 : decode cX1_takeFirst 17 = .ok (.getfield 22, 3) := op_180 lX1_takeFirst 0 22 (by decide +kernel)
theorem dX1_takeFirst_20 : decode cX1_takeFirst 20 = .ok (.invokestatic 70, 3) := op_184 lX1_takeFirst 0 70 (by decide +kernel)
theorem dX1_takeFirst_23 : decode cX1_takeFirst 23 = .ok (.aload_n 0, 1) := op_42 lX1_takeFirst (by decide +kernel)
theorem dX1_takeFirst_24 : decode cX1_takeFirst 24 = .ok (.getfield 18, 3) := op_180 lX1_takeFirst 0 18 (by decide +kernel)
theorem dX1_takeFirst_27 : decode cX1_takeFirst 27 = .ok (.invokevirtual 75, 3) := op_182 lX1_takeFirst 0 75 (by decide +kernel)
theorem dX1_takeFirst_30 : decode cX1_takeFirst 30 = .ok (.iconst 3, 1) := op_6 lX1_takeFirst (by decide +kernel)
theorem dX1_takeFirst_31 : decode cX1_takeFirst 31 = .ok (.isub, 1) := op_100 lX1_takeFirst (by decide +kernel)
theorem dX1_takeFirst_32 : decode cX1_takeFirst 32 = .ok (.if_icmp .ge 8, 3) := op_162 lX1_takeFirst 0 8 (by decide +kernel)
theorem dX1_takeFirst_35 : decode cX1_takeFirst 35 = .ok (.bipush 6, 2) := op_16 lX1_takeFirst 6 (by decide +kernel)
theorem dX1_takeFirst_37 : decode cX1_takeFirst 37 = .ok (.goto 4, 3) := op_167 lX1_takeFirst 0 4 (by decide +kernel)
theorem dX1_takeFirst_40 : decode cX1_takeFirst 40 = .ok (.iconst 0, 1) := op_3 lX1_takeFirst (by decide +kernel)
theorem dX1_takeFirst_41 : decode cX1_takeFirst 41 = .ok (.ireturn, 1) := op_172 lX1_takeFirst (by decide +kernel)
theorem dX1_takeFirst_42 : decode cX1_takeFirst 42 = .ok (.aload_n 0, 1) := op_42 lX1_takeFirst (by decide +kernel)
theorem dX1_takeFirst_43 : decode cX1_takeFirst 43 = .ok (.aload_n 1, 1) := op_43 lX1_takeFirst (by decide +kernel)
theorem dX1_takeFirst_44 : decode cX1_takeFirst 44 = .ok (.invokevirtual 53, 3) := op_182 lX1_takeFirst 0 53 (by decide +kernel)
theorem dX1_takeFirst_47 : decode cX1_takeFirst 47 = .ok (.putfield 79, 3) := op_181 lX1_takeFirst 0 79 (by decide +kernel)
theorem dX1_takeFirst_50 : decode cX1_takeFirst 50 = .ok (.aload_n 1, 1) := op_43 lX1_takeFirst (by decide +kernel)
theorem dX1_takeFirst_51 : decode cX1_takeFirst 51 = .ok (.invokevirtual 44, 3) := op_182 lX1_takeFirst 0 44 (by decide +kernel)
theorem dX1_takeFirst_54 : decode cX1_takeFirst 54 = .ok (.iconst 2, 1) := op_5 lX1_takeFirst (by decide +kernel)
theorem dX1_takeFirst_55 : decode cX1_takeFirst 55 = .ok (.if_icmp .eq 5, 3) := op_159 lX1_takeFirst 0 5 (by decide +kernel)
theorem dX1_takeFirst_58 : decode cX1_takeFirst 58 = .ok (.iconst 1, 1) := op_4 lX1_takeFirst (by decide +kernel)
theorem dX1_takeFirst_59 : decode cX1_takeFirst 59 = .ok (.ireturn, 1) := op_172 lX1_takeFirst (by decide +kernel)
theorem dX1_takeFirst_60 : decode cX1_takeFirst 60 = .ok (.aload_n 0, 1) := op_42 lX1_takeFirst (by decide +kernel)
theorem dX1_takeFirst_61 : decode cX1_takeFirst 61 = .ok (.getfield 18, 3) := op_180 lX1_takeFirst 0 18 (by decide +kernel)
theorem dX1_takeFirst_64 : decode cX1_takeFirst 64 = .ok (.aload_n 0, 1) := op_42 lX1_takeFirst (by decide +kernel)
theorem dX1_takeFirst_65 : decode cX1_takeFirst 65 = .ok (.getfield 79, 3) := op_180 lX1_takeFirst 0 79 (by decide +kernel)
theorem dX1_takeFirst_68 : decode cX1_takeFirst 68 = .ok (.invokevirtual 82, 3) := op_182 lX1_takeFirst 0 82 (by decide +kernel)
theorem dX1_takeFirst_71 : decode cX1_takeFirst 71 = .ok (.ifCond .eq 7, 3) := op_153 lX1_takeFirst 0 7 (by decide +kernel)
theorem dX1_takeFirst_74 : decode cX1_takeFirst 74 = .ok (.iconst 0, 1) := op_3 lX1_takeFirst (by decide +kernel)
theorem dX1_takeFirst_75 : decode cX1_takeFirst 75 = .ok (.goto 4, 3) := op_167 lX1_takeFirst 0 4 (by decide +kernel)
theorem dX1_takeFirst_78 : decode cX1_takeFirst 78 = .ok (.iconst 2, 1) := op_5 lX1_takeFirst (by decide +kernel)
theorem dX1_takeFirst_79 : decode cX1_takeFirst 79 = .ok (.ireturn, 1) := op_172 lX1_takeFirst (by decide +kernel)
def nX1_takeSecond : Nat := 0xac031600b580781c041600b4592aac080500997e1600b42a5e00b61c1200b42aac060500995a00b61c1600b42a1200b42aac070500a0021c3d5600b61b4f00b42a1200b42aac0505009a5200b61b1200b42a0e00c61200b42a
theorem lX1_takeSecond : cX1_takeSecond.data.toList = unp nX1_takeSecond 89 0 := by decide +kernel
theorem dX1_takeSecond_0 : decode cX1_takeSecond 0 = .ok (.aload_n 0, 1) := op_42 lX1_takeSecond (by decide +kernel)
theorem dX1_takeSecond_1 : decode cX1_takeSecond 1 = .ok (.getfield 18, 3) := op_180 lX1_takeSecond 0 18 (by decide +kernel)
theorem dX1_takeSecond_4 : decode cX1_takeSecond 4 = .ok (.ifnull 14, 3) := op_198 lX1_takeSecond 0 14 (by decide +kernel)
theorem dX1_takeSecond_7 : decode cX1_takeSecond 7 = .ok (.aload_n 0, 1) := op_42 lX1_takeSecond (by decide +kernel)
theorem dX1_takeSecond_8 : decode cX1_takeSecond 8 = .ok (.getfield 18, 3) := op_180 lX1_takeSecond 0 18 (by decide +kernel)
theorem dX1_takeSecond_11 : decode cX1_takeSecond 11 = .ok (.iload_n 1, 1) := op_27 lX1_takeSecond (by decide +kernel)
theorem dX1_takeSecond_12 : decode cX1_takeSecond 12 = .ok (.invokevirtual 82, 3) := op_182 lX1_takeSecond 0 82 (by decide +kernel)
theorem dX1_takeSecond_15 : decode cX1_takeSecond 15 = .ok (.ifCond .ne 5, 3) := op_154 lX1_takeSecond 0 5 (by decide +kernel)
theorem dX1_takeSecond_18 : decode cX1_takeSecond 18 = .ok (.iconst 2, 1) := op_5 lX1_takeSecond (by decide +kernel)
theorem dX1_takeSecond_19 : decode cX1_takeSecond 19 = .ok (.ireturn, 1) := op_172 lX1_takeSecond (by decide +kernel)
theorem dX1_takeSecond_20 : decode cX1_takeSecond 20 = .ok (.aload_n 0, 1) := op_42 lX1_takeSecond (by decide +kernel)
theorem dX1_takeSecond_21 : decode cX1_takeSecond 21 = .ok (.getfield 18, 3) := op_180 lX1_takeSecond 0 18 (by decide +kernel)
theorem dX1_takeSecond_24 : decode cX1_takeSecond 24 = .ok (.aload_n 0, 1) := op_42 lX1_takeSecond (by decide +kernel)
theorem dX1_takeSecond_25 : decode cX1_takeSecond 25 = .ok (.getfield 79, 3) := op_180 lX1_takeSecond 0 79 (by decide +kernel)
theorem dX1_takeSecond_28 : decode cX1_takeSecond 28 = .ok (.iload_n 1, 1) := op_27 lX1_takeSecond (by decide +kernel)
theorem dX1_takeSecond_29 : decode cX1_takeSecond 29 = .ok (.invokevirtual 86, 3) := op_182 lX1_takeSecond 0 86 (by decide +kernel)
theorem dX1_takeSecond_32 : decode cX1_takeSecond 32 = .ok (.istore_n 2, 1) := op_61 lX1_takeSecond (by decide +kernel)
theorem dX1_takeSecond_33 : decode cX1_takeSecond 33 = .ok (.iload_n 2, 1) := op_28 lX1_takeSecond (by decide +kernel)
theorem dX1_takeSecond_34 : decode cX1_takeSecond 34 = .ok (.iconst (-1), 1) := op_2 lX1_takeSecond (by decide +kernel)
theorem dX1_takeSecond_35 : decode cX1_takeSecond 35 = .ok (.if_icmp .ne 5, 3) := op_160 lX1_takeSecond 0 5 (by decide +kernel)
theorem dX1_takeSecond_38 : decode cX1_takeSecond 38 = .ok (.iconst 4, 1) := op_7 lX1_takeSecond (by decide +kernel)
theorem dX1_takeSecond_39 : decode cX1_takeSecond 39 = .ok (.ireturn, 1) := op_172 lX1_takeSecond (by decide +kernel)
theorem dX1_takeSecond_40 : decode cX1_takeSecond 40 = .ok (.aload_n 0, 1) := op_42 lX1_takeSecond (by decide +kernel)
theorem dX1_takeSecond_41 : decode cX1_takeSecond 41 = .ok (.getfield 18, 3) := op_180 lX1_takeSecond 0 18 (by decide +kernel)
theorem dX1_takeSecond_44 : decode cX1_takeSecond 44 = .ok (.aload_n 0, 1) := op_42 lX1_takeSecond (by decide +kernel)
theorem dX1_takeSecond_45 : decode cX1_takeSecond 45 = .ok (.getfield 22, 3) := op_180 lX1_takeSecond 0 22 (by decide +kernel)
theorem dX1_takeSecond_48 : decode cX1_takeSecond 48 = .ok (.iload_n 2, 1) := op_28 lX1_takeSecond (by decide +kernel)
theorem dX1_takeSecond_49 : decode cX1_takeSecond 49 = .ok (.invokevirtual 90, 3) := op_182 lX1_takeSecond 0 90 (by decide +kernel)
theorem dX1_takeSecond_52 : decode cX1_takeSecond 52 = .ok (.ifCond .eq 5, 3) := op_153 lX1_takeSecond 0 5 (by decide +kernel)
theorem dX1_takeSecond_55 : decode cX1_takeSecond 55 = .ok (.iconst 3, 1) := op_6 lX1_takeSecond (by decide +kernel)
theorem dX1_takeSecond_56 : decode cX1_takeSecond 56 = .ok (.ireturn, 1) := op_172 lX1_takeSecond (by decide +kernel)
theorem dX1_takeSecond_57 : decode cX1_takeSecond 57 = .ok (.aload_n 0, 1) := op_42 lX1_takeSecond (by decide +kernel)
theorem dX1_takeSecond_58 : decode cX1_takeSecond 58 = .ok (.getfield 18, 3) := op_180 lX1_takeSecond 0 18 (by decide +kernel)
theorem dX1_takeSecond_61 : decode cX1_takeSecond 61 = .ok (.iload_n 2, 1) := op_28 lX1_takeSecond (by decide +kernel)
theorem dX1_takeSecond_62 : decode cX1_takeSecond 62 = .ok (.invokevirtual 94, 3) := op_182 lX1_takeSecond 0 94 (by decide +kernel)
theorem dX1_takeSecond_65 : decode cX1_takeSecond 65 = .ok (.aload_n 0, 1) := op_42 lX1_takeSecond (by decide +kernel)
theorem dX1_takeSecond_66 : decode cX1_takeSecond 66 = .ok (.getfield 22, 3) := op_180 lX1_takeSecond 0 22 (by decide +kernel)
theorem dX1_takeSecond_69 : decode cX1_takeSecond 69 = .ok (.iand, 1) := op_126 lX1_takeSecond (by decide +kernel)
theorem dX1_takeSecond_70 : decode cX1_takeSecond 70 = .ok (.ifCond .eq 5, 3) := op_153 lX1_takeSecond 0 5 (by decide +kernel)
theorem dX1_takeSecond_73 : decode cX1_takeSecond 73 = .ok (.iconst 5, 1) := op_8 lX1_takeSecond (by decide +kernel)
theorem dX1_takeSecond_74 : decode cX1_takeSecond 74 = .ok (.ireturn, 1) := op_172 lX1_takeSecond (by decide +kernel)
theorem dX1_takeSecond_75 : decode cX1_takeSecond 75 = .ok (.aload_n 0, 1) := op_42 lX1_takeSecond (by decide +kernel)
theorem dX1_takeSecond_76 : decode cX1_takeSecond 76 = .ok (.dup, 1) := op_89 lX1_takeSecond (by decide +kernel)
theorem dX1_takeSecond_77 : decode cX1_takeSecond 77 = .ok (.getfield 22, 3) := op_180 lX1_takeSecond 0 22 (by decide +kernel)
theorem dX1_takeSecond_80 : decode cX1_takeSecond 80 = .ok (.iconst 1, 1) := op_4 lX1_takeSecond (by decide +kernel)
theorem dX1_takeSecond_81 : decode cX1_takeSecond 81 = .ok (.iload_n 2, 1) := op_28 lX1_takeSecond (by decide +kernel)
theorem dX1_takeSecond_82 : decode cX1_takeSecond 82 = .ok (.ishl, 1) := op_120 lX1_takeSecond (by decide +kernel)
theorem dX1_takeSecond_83 : decode cX1_takeSecond 83 = .ok (.ior, 1) := op_128 lX1_takeSecond (by decide +kernel)
theorem dX1_takeSecond_84 : decode cX1_takeSecond 84 = .ok (.putfield 22, 3) := op_181 lX1_takeSecond 0 22 (by decide +kernel)
theorem dX1_takeSecond_87 : decode cX1_takeSecond 87 = .ok (.iconst 0, 1) := op_3 lX1_takeSecond (by decide +kernel)
theorem dX1_takeSecond_88 : decode cX1_takeSecond 88 = .ok (.ireturn, 1) := op_172 lX1_takeSecond (by decide +kernel)
end

section
def nX2_init : Nat := 0xb14f04030b00b42a0f00b5042a0b00b50abc0a102a0300b72a
theorem lX2_init : cX2_init.data.toList = unp nX2_init 25 0 := by decide +kernel
theorem dX2_init_0 : decode cX2_init 0 = .ok (.aload_n 0, 1) := op_42 lX2_init (by decide +kernel)
theorem dX2_init_1 : decode cX2_init 1 = .ok (.invokespecial 3, 3) := op_183 lX2_init 0 3 (by decide +kernel)
theorem dX2_init_4 : decode cX2_init 4 = .ok (.aload_n 0, 1) := op_42 lX2_init (by decide +kernel)
theorem dX2_init_5 : decode cX2_init 5 = .ok (.bipush 10, 2) := op_16 lX2_init 10 (by decide +kernel)
theorem dX2_init_7 : decode cX2_init 7 = .ok (.newarray .int, 2) := by decide +kernel
theorem dX2_init_9 : decode cX2_init 9 = .ok (.putfield 11, 3) := op_181 lX2_init 0 11 (by decide +kernel)
theorem dX2_init_12 : decode cX2_init 12 = .ok (.aload_n 0, 1) := op_42 lX2_init (by decide +kernel)
theorem dX2_init_13 : decode cX2_init 13 = .ok (.iconst 1, 1) := op_4 lX2_init (by decide +kernel)
theorem dX2_init_14 : decode cX2_init 14 = .ok (.putfield 15, 3) := op_181 lX2_init 0 15 (by decide +kernel)
theorem dX2_init_17 : decode cX2_init 17 = .ok (.aload_n 0, 1) := op_42 lX2_init (by decide +kernel)
theorem dX2_init_18 : decode cX2_init 18 = .ok (.getfield 11, 3) := op_180 lX2_init 0 11 (by decide +kernel)
theorem dX2_init_21 : decode cX2_init 21 = .ok (.iconst 0, 1) := op_3 lX2_init (by decide +kernel)
theorem dX2_init_22 : decode cX2_init 22 = .ok (.iconst 1, 1) := op_4 lX2_init (by decide +kernel)
theorem dX2_init_23 : decode cX2_init 23 = .ok (.iastore, 1) := op_79 lX2_init (by decide +kernel)
theorem dX2_init_24 : decode cX2_init 24 = .ok (.return_, 1) := op_177 lX2_init (by decide +kernel)
def nX2_size : Nat := 0xac0f00b42a
theorem lX2_size : cX2_size.data.toList = unp nX2_size 5 0 := by decide +kernel
theorem dX2_size_0 : decode cX2_size 0 = .ok (.aload_n 0, 1) := op_42 lX2_size (by decide +kernel)
theorem dX2_size_1 : decode cX2_size 1 = .ok (.getfield 15, 3) := op_180 lX2_size 0 15 (by decide +kernel)
theorem dX2_size_4 : decode cX2_size 4 = .ok (.ireturn, 1) := op_172 lX2_size (by decide +kernel)
def nX2_hasPlace : Nat := 0xac030400a7040700a20f00b42a1b0f009b1b
theorem lX2_hasPlace : cX2_hasPlace.data.toList = unp nX2_hasPlace 18 0 := by decide +kernel
theorem dX2_hasPlace_0 : decode cX2_hasPlace 0 = .ok (.iload_n 1, 1) := op_27 lX2_hasPlace (by decide +kernel)
theorem dX2_hasPlace_1 : decode cX2_hasPlace 1 = .ok (.ifCond .lt 15, 3) := op_155 lX2_hasPlace 0 15 (by decide +kernel)
theorem dX2_hasPlace_4 : decode cX2_hasPlace 4 = .ok (.iload_n 1, 1) := op_27 lX2_hasPlace (by decide +kernel)
theorem dX2_hasPlace_5 : decode cX2_hasPlace 5 = .ok (.aload_n 0, 1) := op_42 lX2_hasPlace (by decide +kernel)
theorem dX2_hasPlace_6 : decode cX2_hasPlace 6 = .ok (.getfield 15, 3) := op_180 lX2_hasPlace 0 15 (by decide +kernel)
theorem dX2_hasPlace_9 : decode cX2_hasPlace 9 = .ok (.if_icmp .ge 7, 3) := op_162 lX2_hasPlace 0 7 (by decide +kernel)
theorem dX2_hasPlace_12 : decode cX2_hasPlace 12 = .ok (.iconst 1, 1) := op_4 lX2_hasPlace (by decide +kernel)
theorem dX2_hasPlace_13 : decode cX2_hasPlace 13 = .ok (.goto 4, 3) := op_167 lX2_hasPlace 0 4 (by decide +kernel)
theorem dX2_hasPlace_16 : decode cX2_hasPlace 16 = .ok (.iconst 0, 1) := op_3 lX2_hasPlace (by decide +kernel)
theorem dX2_hasPlace_17 : decode cX2_hasPlace 17 = .ok (.ireturn, 1) := op_172 lX2_hasPlace (by decide +kernel)
def nX2_accepts : Nat := 0xac04e7ffa7010384ac030500a414102e1d2b0b00a1042e1d2b1a00a21c1d3e03ac030500a4be2b1c0900a30a101c0f00a1041c
theorem lX2_accepts : cX2_accepts.data.toList = unp nX2_accepts 51 0 := by decide +kernel
theorem dX2_accepts_0 : decode cX2_accepts 0 = .ok (.iload_n 2, 1) := op_28 lX2_accepts (by decide +kernel)
theorem dX2_accepts_1 : decode cX2_accepts 1 = .ok (.iconst 1, 1) := op_4 lX2_accepts (by decide +kernel)
theorem dX2_accepts_2 : decode cX2_accepts 2 = .ok (.if_icmp .lt 15, 3) := op_161 lX2_accepts 0 15 (by decide +kernel)
theorem dX2_accepts_5 : decode cX2_accepts 5 = .ok (.iload_n 2, 1) := op_28 lX2_accepts (by decide +kernel)
theorem dX2_accepts_6 : decode cX2_accepts 6 = .ok (.bipush 10, 2) := op_16 lX2_accepts 10 (by decide +kernel)
theorem dX2_accepts_8 : decode cX2_accepts 8 = .ok (.if_icmp .gt 9, 3) := op_163 lX2_accepts 0 9 (by decide +kernel)
theorem dX2_accepts_11 : decode cX2_accepts 11 = .ok (.iload_n 2, 1) := op_28 lX2_accepts (by decide +kernel)
theorem dX2_accepts_12 : decode cX2_accepts 12 = .ok (.aload_n 1, 1) := op_43 lX2_accepts (by decide +kernel)
theorem dX2_accepts_13 : decode cX2_accepts 13 = .ok (.arraylength, 1) := op_190 lX2_accepts (by decide +kernel)
theorem dX2_accepts_14 : decode cX2_accepts 14 = .ok (.if_icmp .le 5, 3) := op_164 lX2_accepts 0 5 (by decide +kernel)
theorem dX2_accepts_17 : decode cX2_accepts 17 = .ok (.iconst 0, 1) := op_3 lX2_accepts (by decide +kernel)
theorem dX2_accepts_18 : decode cX2_accepts 18 = .ok (.ireturn, 1) := op_172 lX2_accepts (by decide +kernel)
theorem dX2_accepts_19 : decode cX2_accepts 19 = .ok (.iconst 0, 1) := op_3 lX2_accepts (by decide +kernel)
theorem dX2_accepts_20 : decode cX2_accepts 20 = .ok (.istore_n 3, 1) := op_62 lX2_accepts (by decide +kernel)
theorem dX2_accepts_21 : decode cX2_accepts 21 = .ok (.iload_n 3, 1) := op_29 lX2_accepts (by decide +kernel)
theorem dX2_accepts_22 : decode cX2_accepts 22 = .ok (.iload_n 2, 1) := op_28 lX2_accepts (by decide +kernel)
theorem dX2_accepts_23 : decode cX2_accepts 23 = .ok (.if_icmp .ge 26, 3) := op_162 lX2_accepts 0 26 (by decide +kernel)
theorem dX2_accepts_26 : decode cX2_accepts 26 = .ok (.aload_n 1, 1) := op_43 lX2_accepts (by decide +kernel)
theorem dX2_accepts_27 : decode cX2_accepts 27 = .ok (.iload_n 3, 1) := op_29 lX2_accepts (by decide +kernel)
theorem dX2_accepts_28 : decode cX2_accepts 28 = .ok (.iaload, 1) := op_46 lX2_accepts (by decide +kernel)
theorem dX2_accepts_29 : decode cX2_accepts 29 = .ok (.iconst 1, 1) := op_4 lX2_accepts (by decide +kernel)
theorem dX2_accepts_30 : decode cX2_accepts 30 = .ok (.if_icmp .lt 11, 3) := op_161 lX2_accepts 0 11 (by decide +kernel)
theorem dX2_accepts_33 : decode cX2_accepts 33 = .ok (.aload_n 1, 1) := op_43 lX2_accepts (by decide +kernel)
theorem dX2_accepts_34 : decode cX2_accepts 34 = .ok (.iload_n 3, 1) := op_29 lX2_accepts (by decide +kernel)
theorem dX2_accepts_35 : decode cX2_accepts 35 = .ok (.iaload, 1) := op_46 lX2_accepts (by decide +kernel)
theorem dX2_accepts_36 : decode cX2_accepts 36 = .ok (.bipush 20, 2) := op_16 lX2_accepts 20 (by decide +kernel)
theorem dX2_accepts_38 : decode cX2_accepts 38 = .ok (.if_icmp .le 5, 3) := op_164 lX2_accepts 0 5 (by decide +kernel)
theorem dX2_accepts_41 : decode cX2_accepts 41 = .ok (.iconst 0, 1) := op_3 lX2_accepts (by decide +kernel)
theorem dX2_accepts_42 : decode cX2_accepts 42 = .ok (.ireturn, 1) := op_172 lX2_accepts (by decide +kernel)
theorem dX2_accepts_43 : decode cX2_accepts 43 = .ok (.iinc 3 1, 3) := op_132 lX2_accepts 1 (by decide +kernel)
theorem dX2_accepts_46 : decode cX2_accepts 46 = .ok (.goto (-25), 3) := op_167 lX2_accepts 255 231 (by decide +kernel)
theorem dX2_accepts_49 : decode cX2_accepts 49 = .ok (.iconst 1, 1) := op_4 lX2_accepts (by decide +kernel)
theorem dX2_accepts_50 : decode cX2_accepts 50 = .ok (.ireturn, 1) := op_172 lX2_accepts (by decide +kernel)
def nX2_become : Nat := 0xac0f00b42ae6ffa70103844f2e1d2b1d0b00b42a1200a2be2b1d1800a20f00b42a1d3e030f00b51300b80a101c2a
theorem lX2_become : cX2_become.data.toList = unp nX2_become 46 0 := by decide +kernel
theorem dX2_become_0 : decode cX2_become 0 = .ok (.aload_n 0, 1) := op_42 lX2_become (by decide +kernel)
theorem dX2_become_1 : decode cX2_become 1 = .ok (.iload_n 2, 1) := op_28 lX2_become (by decide +kernel)
theorem dX2_become_2 : decode cX2_become 2 = .ok (.bipush 10, 2) := op_16 lX2_become 10 (by decide +kernel)
theorem dX2_become_4 : decode cX2_become 4 = .ok (.invokestatic 19, 3) := op_184 lX2_become 0 19 (by decide +kernel)
theorem dX2_become_7 : decode cX2_become 7 = .ok (.putfield 15, 3) := op_181 lX2_become 0 15 (by decide +kernel)
theorem dX2_become_10 : decode cX2_become 10 = .ok (.iconst 0, 1) := op_3 lX2_become (by decide +kernel)
theorem dX2_become_11 : decode cX2_become 11 = .ok (.istore_n 3, 1) := op_62 lX2_become (by decide +kernel)
theorem dX2_become_12 : decode cX2_become 12 = .ok (.iload_n 3, 1) := op_29 lX2_become (by decide +kernel)
theorem dX2_become_13 : decode cX2_become 13 = .ok (.aload_n 0, 1) := op_42 lX2_become (by decide +kernel)
theorem dX2_become_14 : decode cX2_become 14 = .ok (.getfield 15, 3) := op_180 lX2_become 0 15 (by decide +kernel)
theorem dX2_become_17 : decode cX2_become 17 = .ok (.if_icmp .ge 24, 3) := op_162 lX2_become 0 24 (by decide +kernel)
theorem dX2_become_20 : decode cX2_become 20 = .ok (.iload_n 3, 1) := op_29 lX2_become (by decide +kernel)
theorem dX2_become_21 : decode cX2_become 21 = .ok (.aload_n 1, 1) := op_43 lX2_become (by decide +kernel)
theorem dX2_become_22 : decode cX2_become 22 = .ok (.arraylength, 1) := op_190 lX2_become (by decide +kernel)
theorem dX2_become_23 : decode cX2_become 23 = .ok (.if_icmp .ge 18, 3) := op_162 lX2_become 0 18 (by decide +kernel)
theorem dX2_become_26 : decode cX2_become 26 = .ok (.aload_n 0, 1) := op_42 lX2_become (by decide +kernel)
theorem dX2_become_27 : decode cX2_become 27 = .ok (.getfield 11, 3) := op_180 lX2_become 0 11 (by decide +kernel)
theorem dX2_become_30 : decode cX2_become 30 = .ok (.iload_n 3, 1) := op_29 lX2_become (by decide +kernel)
theorem dX2_become_31 : decode cX2_become 31 = .ok (.aload_n 1, 1) := op_43 lX2_become (by decide +kernel)
theorem dX2_become_32 : decode cX2_become 32 = .ok (.iload_n 3, 1) := op_29 lX2_become (by decide +kernel)
theorem dX2_become_33 : decode cX2_become 33 = .ok (.iaload, 1) := op_46 lX2_become (by decide +kernel)
theorem dX2_become_34 : decode cX2_become 34 = .ok (.iastore, 1) := op_79 lX2_become (by decide +kernel)
theorem dX2_become_35 : decode cX2_become 35 = .ok (.iinc 3 1, 3) := op_132 lX2_become 1 (by decide +kernel)
theorem dX2_become_38 : decode cX2_become 38 = .ok (.goto (-26), 3) := op_167 lX2_become 255 230 (by decide +kernel)
theorem dX2_become_41 : decode cX2_become 41 = .ok (.aload_n 0, 1) := op_42 lX2_become (by decide +kernel)
theorem dX2_become_42 : decode cX2_become 42 = .ok (.getfield 15, 3) := op_180 lX2_become 0 15 (by decide +kernel)
theorem dX2_become_45 : decode cX2_become 45 = .ok (.ireturn, 1) := op_172 lX2_become (by decide +kernel)
def nX2_at : Nat := 0xac2e1900b61b2a0b00b42a
theorem lX2_at : cX2_at.data.toList = unp nX2_at 11 0 := by decide +kernel
theorem dX2_at_0 : decode cX2_at 0 = .ok (.aload_n 0, 1) := op_42 lX2_at (by decide +kernel)
theorem dX2_at_1 : decode cX2_at 1 = .ok (.getfield 11, 3) := op_180 lX2_at 0 11 (by decide +kernel)
theorem dX2_at_4 : decode cX2_at 4 = .ok (.aload_n 0, 1) := op_42 lX2_at (by decide +kernel)
theorem dX2_at_5 : decode cX2_at 5 = .ok (.iload_n 1, 1) := op_27 lX2_at (by decide +kernel)
theorem dX2_at_6 : decode cX2_at 6 = .ok (.invokevirtual 25, 3) := op_182 lX2_at 0 25 (by decide +kernel)
theorem dX2_at_9 : decode cX2_at 9 = .ok (.iaload, 1) := op_46 lX2_at (by decide +kernel)
theorem dX2_at_10 : decode cX2_at 10 = .ok (.ireturn, 1) := op_172 lX2_at (by decide +kernel)
def nX2_wrapped : Nat := 0xac030400a71d00b80f00b42a1b0e009e0f00b42a
theorem lX2_wrapped : cX2_wrapped.data.toList = unp nX2_wrapped 20 0 := by decide +kernel
theorem dX2_wrapped_0 : decode cX2_wrapped 0 = .ok (.aload_n 0, 1) := op_42 lX2_wrapped (by decide +kernel)
theorem dX2_wrapped_1 : decode cX2_wrapped 1 = .ok (.getfield 15, 3) := op_180 lX2_wrapped 0 15 (by decide +kernel)
theorem dX2_wrapped_4 : decode cX2_wrapped 4 = .ok (.ifCond .le 14, 3) := op_158 lX2_wrapped 0 14 (by decide +kernel)
theorem dX2_wrapped_7 : decode cX2_wrapped 7 = .ok (.iload_n 1, 1) := op_27 lX2_wrapped (by decide +kernel)
theorem dX2_wrapped_8 : decode cX2_wrapped 8 = .ok (.aload_n 0, 1) := op_42 lX2_wrapped (by decide +kernel)
theorem dX2_wrapped_9 : decode cX2_wrapped 9 = .ok (.getfield 15, 3) := op_180 lX2_wrapped 0 15 (by decide +kernel)
theorem dX2_wrapped_12 : decode cX2_wrapped 12 = .ok (.invokestatic 29, 3) := op_184 lX2_wrapped 0 29 (by decide +kernel)
theorem dX2_wrapped_15 : decode cX2_wrapped 15 = .ok (.goto 4, 3) := op_167 lX2_wrapped 0 4 (by decide +kernel)
theorem dX2_wrapped_18 : decode cX2_wrapped 18 = .ok (.iconst 0, 1) := op_3 lX2_wrapped (by decide +kernel)
theorem dX2_wrapped_19 : decode cX2_wrapped 19 = .ok (.ireturn, 1) := op_172 lX2_wrapped (by decide +kernel)
def nX2_entryAt : Nat := 0xad0516d9ffa70107840537081642051608376521690516852000b66007151b2a2000a20c1007152700a21c071507360405370a4209ad0905009d1c
theorem lX2_entryAt : cX2_entryAt.data.toList = unp nX2_entryAt 59 0 := by decide +kernel
theorem dX2_entryAt_0 : decode cX2_entryAt 0 = .ok (.iload_n 2, 1) := op_28 lX2_entryAt (by decide +kernel)
theorem dX2_entryAt_1 : decode cX2_entryAt 1 = .ok (.ifCond .gt 5, 3) := op_157 lX2_entryAt 0 5 (by decide +kernel)
theorem dX2_entryAt_4 : decode cX2_entryAt 4 = .ok (.lconst 0, 1) := op_9 lX2_entryAt (by decide +kernel)
theorem dX2_entryAt_5 : decode cX2_entryAt 5 = .ok (.lreturn, 1) := op_173 lX2_entryAt (by decide +kernel)
theorem dX2_entryAt_6 : decode cX2_entryAt 6 = .ok (.lconst 0, 1) := op_9 lX2_entryAt (by decide +kernel)
theorem dX2_entryAt_7 : decode cX2_entryAt 7 = .ok (.lstore_n 3, 1) := op_66 lX2_entryAt (by decide +kernel)
theorem dX2_entryAt_8 : decode cX2_entryAt 8 = .ok (.lconst 1, 1) := op_10 lX2_entryAt (by decide +kernel)
theorem dX2_entryAt_9 : decode cX2_entryAt 9 = .ok (.lstore 5, 2) := op_55 lX2_entryAt (by decide +kernel)
theorem dX2_entryAt_11 : decode cX2_entryAt 11 = .ok (.iconst 1, 1) := op_4 lX2_entryAt (by decide +kernel)
theorem dX2_entryAt_12 : decode cX2_entryAt 12 = .ok (.istore 7, 2) := op_54 lX2_entryAt (by decide +kernel)
theorem dX2_entryAt_14 : decode cX2_entryAt 14 = .ok (.iload 7, 2) := op_21 lX2_entryAt (by decide +kernel)
theorem dX2_entryAt_16 : decode cX2_entryAt 16 = .ok (.iload_n 2, 1) := op_28 lX2_entryAt (by decide +kernel)
theorem dX2_entryAt_17 : decode cX2_entryAt 17 = .ok (.if_icmp .ge 39, 3) := op_162 lX2_entryAt 0 39 (by decide +kernel)
theorem dX2_entryAt_20 : decode cX2_entryAt 20 = .ok (.iload 7, 2) := op_21 lX2_entryAt (by decide +kernel)
theorem dX2_entryAt_22 : decode cX2_entryAt 22 = .ok (.bipush 12, 2) := op_16 lX2_entryAt 12 (by decide +kernel)
theorem dX2_entryAt_24 : decode cX2_entryAt 24 = .ok (.if_icmp .ge 32, 3) := op_162 lX2_entryAt 0 32 (by decide +kernel)
theorem dX2_entryAt_27 : decode cX2_entryAt 27 = .ok (.aload_n 0, 1) := op_42 lX2_entryAt (by decide +kernel)
theorem dX2_entryAt_28 : decode cX2_entryAt 28 = .ok (.iload_n 1, 1) := op_27 lX2_entryAt (by decide +kernel)
theorem dX2_entryAt_29 : decode cX2_entryAt 29 = .ok (.iload 7, 2) := op_21 lX2_entryAt (by decide +kernel)
theorem dX2_entryAt_31 : decode cX2_entryAt 31 = .ok (.iadd, 1) := op_96 lX2_entryAt (by decide +kernel)
theorem dX2_entryAt_32 : decode cX2_entryAt 32 = .ok (.invokevirtual 32, 3) := op_182 lX2_entryAt 0 32 (by decide +kernel)
theorem dX2_entryAt_35 : decode cX2_entryAt 35 = .ok (.i2l, 1) := op_133 lX2_entryAt (by decide +kernel)
theorem dX2_entryAt_36 : decode cX2_entryAt 36 = .ok (.lload 5, 2) := op_22 lX2_entryAt (by decide +kernel)
theorem dX2_entryAt_38 : decode cX2_entryAt 38 = .ok (.lmul, 1) := op_105 lX2_entryAt (by decide +kernel)
theorem dX2_entryAt_39 : decode cX2_entryAt 39 = .ok (.lload_n 3, 1) := op_33 lX2_entryAt (by decide +kernel)
theorem dX2_entryAt_40 : decode cX2_entryAt 40 = .ok (.lsub, 1) := op_101 lX2_entryAt (by decide +kernel)
theorem dX2_entryAt_41 : decode cX2_entryAt 41 = .ok (.lstore 8, 2) := op_55 lX2_entryAt (by decide +kernel)
theorem dX2_entryAt_43 : decode cX2_entryAt 43 = .ok (.lload 5, 2) := op_22 lX2_entryAt (by decide +kernel)
theorem dX2_entryAt_45 : decode cX2_entryAt 45 = .ok (.lstore_n 3, 1) := op_66 lX2_entryAt (by decide +kernel)
theorem dX2_entryAt_46 : decode cX2_entryAt 46 = .ok (.lload 8, 2) := op_22 lX2_entryAt (by decide +kernel)
theorem dX2_entryAt_48 : decode cX2_entryAt 48 = .ok (.lstore 5, 2) := op_55 lX2_entryAt (by decide +kernel)
theorem dX2_entryAt_50 : decode cX2_entryAt 50 = .ok (.iinc 7 1, 3) := op_132 lX2_entryAt 1 (by decide +kernel)
theorem dX2_entryAt_53 : decode cX2_entryAt 53 = .ok (.goto (-39), 3) := op_167 lX2_entryAt 255 217 (by decide +kernel)
theorem dX2_entryAt_56 : decode cX2_entryAt 56 = .ok (.lload 5, 2) := op_22 lX2_entryAt (by decide +kernel)
theorem dX2_entryAt_58 : decode cX2_entryAt 58 = .ok (.lreturn, 1) := op_173 lX2_entryAt (by decide +kernel)
def nX2_breakLength : Nat := 0xac02ecffa7010184ac1b05009f022300b61b2a1400a30c101b3c05
theorem lX2_breakLength : cX2_breakLength.data.toList = unp nX2_breakLength 27 0 := by decide +kernel
theorem dX2_breakLength_0 : decode cX2_breakLength 0 = .ok (.iconst 2, 1) := op_5 lX2_breakLength (by decide +kernel)
theorem dX2_breakLength_1 : decode cX2_breakLength 1 = .ok (.istore_n 1, 1) := op_60 lX2_breakLength (by decide +kernel)
theorem dX2_breakLength_2 : decode cX2_breakLength 2 = .ok (.iload_n 1, 1) := op_27 lX2_breakLength (by decide +kernel)
theorem dX2_breakLength_3 : decode cX2_breakLength 3 = .ok (.bipush 12, 2) := op_16 lX2_breakLength 12 (by decide +kernel)
theorem dX2_breakLength_5 : decode cX2_breakLength 5 = .ok (.if_icmp .gt 20, 3) := op_163 lX2_breakLength 0 20 (by decide +kernel)
theorem dX2_breakLength_8 : decode cX2_breakLength 8 = .ok (.aload_n 0, 1) := op_42 lX2_breakLength (by decide +kernel)
theorem dX2_breakLength_9 : decode cX2_breakLength 9 = .ok (.iload_n 1, 1) := op_27 lX2_breakLength (by decide +kernel)
theorem dX2_breakLength_10 : decode cX2_breakLength 10 = .ok (.invokevirtual 35, 3) := op_182 lX2_breakLength 0 35 (by decide +kernel)
theorem dX2_breakLength_13 : decode cX2_breakLength 13 = .ok (.iconst (-1), 1) := op_2 lX2_breakLength (by decide +kernel)
theorem dX2_breakLength_14 : decode cX2_breakLength 14 = .ok (.if_icmp .eq 5, 3) := op_159 lX2_breakLength 0 5 (by decide +kernel)
theorem dX2_breakLength_17 : decode cX2_breakLength 17 = .ok (.iload_n 1, 1) := op_27 lX2_breakLength (by decide +kernel)
theorem dX2_breakLength_18 : decode cX2_breakLength 18 = .ok (.ireturn, 1) := op_172 lX2_breakLength (by decide +kernel)
theorem dX2_breakLength_19 : decode cX2_breakLength 19 = .ok (.iinc 1 1, 3) := op_132 lX2_breakLength 1 (by decide +kernel)
theorem dX2_breakLength_22 : decode cX2_breakLength 22 = .ok (.goto (-20), 3) := op_167 lX2_breakLength 255 236 (by decide +kernel)
theorem dX2_breakLength_25 : decode cX2_breakLength 25 = .ok (.iconst (-1), 1) := op_2 lX2_breakLength (by decide +kernel)
theorem dX2_breakLength_26 : decode cX2_breakLength 26 = .ok (.ireturn, 1) := op_172 lX2_breakLength (by decide +kernel)
def nX2_breakPlace : Nat := 0xac02e8ffa7010284ac1c05009d94092600b61b1c2a1600a20f00b42a1c3d03
theorem lX2_breakPlace : cX2_breakPlace.data.toList = unp nX2_breakPlace 31 0 := by decide +kernel
theorem dX2_breakPlace_0 : decode cX2_breakPlace 0 = .ok (.iconst 0, 1) := op_3 lX2_breakPlace (by decide +kernel)
theorem dX2_breakPlace_1 : decode cX2_breakPlace 1 = .ok (.istore_n 2, 1) := op_61 lX2_breakPlace (by decide +kernel)
theorem dX2_breakPlace_2 : decode cX2_breakPlace 2 = .ok (.iload_n 2, 1) := op_28 lX2_breakPlace (by decide +kernel)
theorem dX2_breakPlace_3 : decode cX2_breakPlace 3 = .ok (.aload_n 0, 1) := op_42 lX2_breakPlace (by decide +kernel)
theorem dX2_breakPlace_4 : decode cX2_breakPlace 4 = .ok (.getfield 15, 3) := op_180 lX2_breakPlace 0 15 (by decide +kernel)
theorem dX2_breakPlace_7 : decode cX2_breakPlace 7 = .ok (.if_icmp .ge 22, 3) := op_162 lX2_breakPlace 0 22 (by decide +kernel)
theorem dX2_breakPlace_10 : decode cX2_breakPlace 10 = .ok (.aload_n 0, 1) := op_42 lX2_breakPlace (by decide +kernel)
theorem dX2_breakPlace_11 : decode cX2_breakPlace 11 = .ok (.iload_n 2, 1) := op_28 lX2_breakPlace (by decide +kernel)
theorem dX2_breakPlace_12 : decode cX2_breakPlace 12 = .ok (.iload_n 1, 1) := op_27 lX2_breakPlace (by decide +kernel)
theorem dX2_breakPlace_13 : decode cX2_breakPlace 13 = .ok (.invokevirtual 38, 3) := op_182 lX2_breakPlace 0 38 (by decide +kernel)
theorem dX2_breakPlace_16 : decode cX2_breakPlace 16 = .ok (.lconst 0, 1) := op_9 lX2_breakPlace (by decide +kernel)
theorem dX2_breakPlace_17 : decode cX2_breakPlace 17 = .ok (.lcmp, 1) := op_148 lX2_breakPlace (by decide +kernel)
theorem dX2_breakPlace_18 : decode cX2_breakPlace 18 = .ok (.ifCond .gt 5, 3) := op_157 lX2_breakPlace 0 5 (by decide +kernel)
theorem dX2_breakPlace_21 : decode cX2_breakPlace 21 = .ok (.iload_n 2, 1) := op_28 lX2_breakPlace (by decide +kernel)
theorem dX2_breakPlace_22 : decode cX2_breakPlace 22 = .ok (.ireturn, 1) := op_172 lX2_breakPlace (by decide +kernel)
theorem dX2_breakPlace_23 : decode cX2_breakPlace 23 = .ok (.iinc 2 1, 3) := op_132 lX2_breakPlace 1 (by decide +kernel)
theorem dX2_breakPlace_26 : decode cX2_breakPlace 26 = .ok (.goto (-24), 3) := op_167 lX2_breakPlace 255 232 (by decide +kernel)
theorem dX2_breakPlace_29 : decode cX2_breakPlace 29 = .ok (.iconst (-1), 1) := op_2 lX2_breakPlace (by decide +kernel)
theorem dX2_breakPlace_30 : decode cX2_breakPlace 30 = .ok (.ireturn, 1) := op_172 lX2_breakPlace (by decide +kernel)
def nX2_comesBack : Nat := 0xac030400a7040700992a00b62e001460041b2a10009f0c101b1a00992a00b6091b2a
theorem lX2_comesBack : cX2_comesBack.data.toList = unp nX2_comesBack 34 0 := by decide +kernel
theorem dX2_comesBack_0 : decode cX2_comesBack 0 = .ok (.aload_n 0, 1) := op_42 lX2_comesBack (by decide +kernel)
theorem dX2_comesBack_1 : decode cX2_comesBack 1 = .ok (.iload_n 1, 1) := op_27 lX2_comesBack (by decide +kernel)
theorem dX2_comesBack_2 : decode cX2_comesBack 2 = .ok (.lconst 0, 1) := op_9 lX2_comesBack (by decide +kernel)
theorem dX2_comesBack_3 : decode cX2_comesBack 3 = .ok (.invokevirtual 42, 3) := op_182 lX2_comesBack 0 42 (by decide +kernel)
theorem dX2_comesBack_6 : decode cX2_comesBack 6 = .ok (.ifCond .eq 26, 3) := op_153 lX2_comesBack 0 26 (by decide +kernel)
theorem dX2_comesBack_9 : decode cX2_comesBack 9 = .ok (.iload_n 1, 1) := op_27 lX2_comesBack (by decide +kernel)
theorem dX2_comesBack_10 : decode cX2_comesBack 10 = .ok (.bipush 12, 2) := op_16 lX2_comesBack 12 (by decide +kernel)
theorem dX2_comesBack_12 : decode cX2_comesBack 12 = .ok (.if_icmp .eq 16, 3) := op_159 lX2_comesBack 0 16 (by decide +kernel)
theorem dX2_comesBack_15 : decode cX2_comesBack 15 = .ok (.aload_n 0, 1) := op_42 lX2_comesBack (by decide +kernel)
theorem dX2_comesBack_16 : decode cX2_comesBack 16 = .ok (.iload_n 1, 1) := op_27 lX2_comesBack (by decide +kernel)
theorem dX2_comesBack_17 : decode cX2_comesBack 17 = .ok (.iconst 1, 1) := op_4 lX2_comesBack (by decide +kernel)
theorem dX2_comesBack_18 : decode cX2_comesBack 18 = .ok (.iadd, 1) := op_96 lX2_comesBack (by decide +kernel)
theorem dX2_comesBack_19 : decode cX2_comesBack 19 = .ok (.ldc2_w 46, 3) := op_20 lX2_comesBack 0 46 (by decide +kernel)
theorem dX2_comesBack_22 : decode cX2_comesBack 22 = .ok (.invokevirtual 42, 3) := op_182 lX2_comesBack 0 42 (by decide +kernel)
theorem dX2_comesBack_25 : decode cX2_comesBack 25 = .ok (.ifCond .eq 7, 3) := op_153 lX2_comesBack 0 7 (by decide +kernel)
theorem dX2_comesBack_28 : decode cX2_comesBack 28 = .ok (.iconst 1, 1) := op_4 lX2_comesBack (by decide +kernel)
theorem dX2_comesBack_29 : decode cX2_comesBack 29 = .ok (.goto 4, 3) := op_167 lX2_comesBack 0 4 (by decide +kernel)
theorem dX2_comesBack_32 : decode cX2_comesBack 32 = .ok (.iconst 0, 1) := op_3 lX2_comesBack (by decide +kernel)
theorem dX2_comesBack_33 : decode cX2_comesBack 33 = .ok (.ireturn, 1) := op_172 lX2_comesBack (by decide +kernel)
def nX2_allAre : Nat := 0xac04e6ffa7010484ac0305009994202600b61b04152a1700a20f00b42a0415043603
theorem lX2_allAre : cX2_allAre.data.toList = unp nX2_allAre 34 0 := by decide +kernel
theorem dX2_allAre_0 : decode cX2_allAre 0 = .ok (.iconst 0, 1) := op_3 lX2_allAre (by decide +kernel)
theorem dX2_allAre_1 : decode cX2_allAre 1 = .ok (.istore 4, 2) := op_54 lX2_allAre (by decide +kernel)
theorem dX2_allAre_3 : decode cX2_allAre 3 = .ok (.iload 4, 2) := op_21 lX2_allAre (by decide +kernel)
theorem dX2_allAre_5 : decode cX2_allAre 5 = .ok (.aload_n 0, 1) := op_42 lX2_allAre (by decide +kernel)
theorem dX2_allAre_6 : decode cX2_allAre 6 = .ok (.getfield 15, 3) := op_180 lX2_allAre 0 15 (by decide +kernel)
theorem dX2_allAre_9 : decode cX2_allAre 9 = .ok (.if_icmp .ge 23, 3) := op_162 lX2_allAre 0 23 (by decide +kernel)
theorem dX2_allAre_12 : decode cX2_allAre 12 = .ok (.aload_n 0, 1) := op_42 lX2_allAre (by decide +kernel)
theorem dX2_allAre_13 : decode cX2_allAre 13 = .ok (.iload 4, 2) := op_21 lX2_allAre (by decide +kernel)
theorem dX2_allAre_15 : decode cX2_allAre 15 = .ok (.iload_n 1, 1) := op_27 lX2_allAre (by decide +kernel)
theorem dX2_allAre_16 : decode cX2_allAre 16 = .ok (.invokevirtual 38, 3) := op_182 lX2_allAre 0 38 (by decide +kernel)
theorem dX2_allAre_19 : decode cX2_allAre 19 = .ok (.lload_n 2, 1) := op_32 lX2_allAre (by decide +kernel)
theorem dX2_allAre_20 : decode cX2_allAre 20 = .ok (.lcmp, 1) := op_148 lX2_allAre (by decide +kernel)
theorem dX2_allAre_21 : decode cX2_allAre 21 = .ok (.ifCond .eq 5, 3) := op_153 lX2_allAre 0 5 (by decide +kernel)
theorem dX2_allAre_24 : decode cX2_allAre 24 = .ok (.iconst 0, 1) := op_3 lX2_allAre (by decide +kernel)
theorem dX2_allAre_25 : decode cX2_allAre 25 = .ok (.ireturn, 1) := op_172 lX2_allAre (by decide +kernel)
theorem dX2_allAre_26 : decode cX2_allAre 26 = .ok (.iinc 4 1, 3) := op_132 lX2_allAre 1 (by decide +kernel)
theorem dX2_allAre_29 : decode cX2_allAre 29 = .ok (.goto (-26), 3) := op_167 lX2_allAre 255 230 (by decide +kernel)
theorem dX2_allAre_32 : decode cX2_allAre 32 = .ok (.iconst 1, 1) := op_4 lX2_allAre (by decide +kernel)
theorem dX2_allAre_33 : decode cX2_allAre 33 = .ok (.ireturn, 1) := op_172 lX2_allAre (by decide +kernel)
def nX2_growthOfRound : Nat := 0xad652600b664040f00b42a042a2600b660040f00b42a032a
theorem lX2_growthOfRound : cX2_growthOfRound.data.toList = unp nX2_growthOfRound 24 0 := by decide +kernel
theorem dX2_growthOfRound_0 : decode cX2_growthOfRound 0 = .ok (.aload_n 0, 1) := op_42 lX2_growthOfRound (by decide +kernel)
theorem dX2_growthOfRound_1 : decode cX2_growthOfRound 1 = .ok (.iconst 0, 1) := op_3 lX2_growthOfRound (by decide +kernel)
theorem dX2_growthOfRound_2 : decode cX2_growthOfRound 2 = .ok (.aload_n 0, 1) := op_42 lX2_growthOfRound (by decide +kernel)
theorem dX2_growthOfRound_3 : decode cX2_growthOfRound 3 = .ok (.getfield 15, 3) := op_180 lX2_growthOfRound 0 15 (by decide +kernel)
theorem dX2_growthOfRound_6 : decode cX2_growthOfRound 6 = .ok (.iconst 1, 1) := op_4 lX2_growthOfRound (by decide +kernel)
theorem dX2_growthOfRound_7 : decode cX2_growthOfRound 7 = .ok (.iadd, 1) := op_96 lX2_growthOfRound (by decide +kernel)
theorem dX2_growthOfRound_8 : decode cX2_growthOfRound 8 = .ok (.invokevirtual 38, 3) := op_182 lX2_growthOfRound 0 38 (by decide +kernel)
theorem dX2_growthOfRound_11 : decode cX2_growthOfRound 11 = .ok (.aload_n 0, 1) := op_42 lX2_growthOfRound (by decide +kernel)
theorem dX2_growthOfRound_12 : decode cX2_growthOfRound 12 = .ok (.iconst 1, 1) := op_4 lX2_growthOfRound (by decide +kernel)
theorem dX2_growthOfRound_13 : decode cX2_growthOfRound 13 = .ok (.aload_n 0, 1) := op_42 lX2_growthOfRound (by decide +kernel)
theorem dX2_growthOfRound_14 : decode cX2_growthOfRound 14 = .ok (.getfield 15, 3) := op_180 lX2_growthOfRound 0 15 (by decide +kernel)
theorem dX2_growthOfRound_17 : decode cX2_growthOfRound 17 = .ok (.iconst 1, 1) := op_4 lX2_growthOfRound (by decide +kernel)
theorem dX2_growthOfRound_18 : decode cX2_growthOfRound 18 = .ok (.isub, 1) := op_100 lX2_growthOfRound (by decide +kernel)
theorem dX2_growthOfRound_19 : decode cX2_growthOfRound 19 = .ok (.invokevirtual 38, 3) := op_182 lX2_growthOfRound 0 38 (by decide +kernel)
theorem dX2_growthOfRound_22 : decode cX2_growthOfRound 22 = .ok (.lsub, 1) := op_101 lX2_growthOfRound (by decide +kernel)
theorem dX2_growthOfRound_23 : decode cX2_growthOfRound 23 = .ok (.lreturn, 1) := op_173 lX2_growthOfRound (by decide +kernel)
def nX2_canGlue : Nat := 0xac030400a7040700a31410601c2000b660041b2a1500a31410601c2000b61b2a3d040400a7050700a0040f00b42aac030500a10a100f00b42a
theorem lX2_canGlue : cX2_canGlue.data.toList = unp nX2_canGlue 57 0 := by decide +kernel
theorem dX2_canGlue_0 : decode cX2_canGlue 0 = .ok (.aload_n 0, 1) := op_42 lX2_canGlue (by decide +kernel)
theorem dX2_canGlue_1 : decode cX2_canGlue 1 = .ok (.getfield 15, 3) := op_180 lX2_canGlue 0 15 (by decide +kernel)
theorem dX2_canGlue_4 : decode cX2_canGlue 4 = .ok (.bipush 10, 2) := op_16 lX2_canGlue 10 (by decide +kernel)
theorem dX2_canGlue_6 : decode cX2_canGlue 6 = .ok (.if_icmp .lt 5, 3) := op_161 lX2_canGlue 0 5 (by decide +kernel)
theorem dX2_canGlue_9 : decode cX2_canGlue 9 = .ok (.iconst 0, 1) := op_3 lX2_canGlue (by decide +kernel)
theorem dX2_canGlue_10 : decode cX2_canGlue 10 = .ok (.ireturn, 1) := op_172 lX2_canGlue (by decide +kernel)
theorem dX2_canGlue_11 : decode cX2_canGlue 11 = .ok (.aload_n 0, 1) := op_42 lX2_canGlue (by decide +kernel)
theorem dX2_canGlue_12 : decode cX2_canGlue 12 = .ok (.getfield 15, 3) := op_180 lX2_canGlue 0 15 (by decide +kernel)
theorem dX2_canGlue_15 : decode cX2_canGlue 15 = .ok (.iconst 1, 1) := op_4 lX2_canGlue (by decide +kernel)
theorem dX2_canGlue_16 : decode cX2_canGlue 16 = .ok (.if_icmp .ne 7, 3) := op_160 lX2_canGlue 0 7 (by decide +kernel)
theorem dX2_canGlue_19 : decode cX2_canGlue 19 = .ok (.iconst 2, 1) := op_5 lX2_canGlue (by decide +kernel)
theorem dX2_canGlue_20 : decode cX2_canGlue 20 = .ok (.goto 4, 3) := op_167 lX2_canGlue 0 4 (by decide +kernel)
theorem dX2_canGlue_23 : decode cX2_canGlue 23 = .ok (.iconst 1, 1) := op_4 lX2_canGlue (by decide +kernel)
theorem dX2_canGlue_24 : decode cX2_canGlue 24 = .ok (.istore_n 2, 1) := op_61 lX2_canGlue (by decide +kernel)
theorem dX2_canGlue_25 : decode cX2_canGlue 25 = .ok (.aload_n 0, 1) := op_42 lX2_canGlue (by decide +kernel)
theorem dX2_canGlue_26 : decode cX2_canGlue 26 = .ok (.iload_n 1, 1) := op_27 lX2_canGlue (by decide +kernel)
theorem dX2_canGlue_27 : decode cX2_canGlue 27 = .ok (.invokevirtual 32, 3) := op_182 lX2_canGlue 0 32 (by decide +kernel)
theorem dX2_canGlue_30 : decode cX2_canGlue 30 = .ok (.iload_n 2, 1) := op_28 lX2_canGlue (by decide +kernel)
theorem dX2_canGlue_31 : decode cX2_canGlue 31 = .ok (.iadd, 1) := op_96 lX2_canGlue (by decide +kernel)
theorem dX2_canGlue_32 : decode cX2_canGlue 32 = .ok (.bipush 20, 2) := op_16 lX2_canGlue 20 (by decide +kernel)
theorem dX2_canGlue_34 : decode cX2_canGlue 34 = .ok (.if_icmp .gt 21, 3) := op_163 lX2_canGlue 0 21 (by decide +kernel)
theorem dX2_canGlue_37 : decode cX2_canGlue 37 = .ok (.aload_n 0, 1) := op_42 lX2_canGlue (by decide +kernel)
theorem dX2_canGlue_38 : decode cX2_canGlue 38 = .ok (.iload_n 1, 1) := op_27 lX2_canGlue (by decide +kernel)
theorem dX2_canGlue_39 : decode cX2_canGlue 39 = .ok (.iconst 1, 1) := op_4 lX2_canGlue (by decide +kernel)
theorem dX2_canGlue_40 : decode cX2_canGlue 40 = .ok (.iadd, 1) := op_96 lX2_canGlue (by decide +kernel)
theorem dX2_canGlue_41 : decode cX2_canGlue 41 = .ok (.invokevirtual 32, 3) := op_182 lX2_canGlue 0 32 (by decide +kernel)
theorem dX2_canGlue_44 : decode cX2_canGlue 44 = .ok (.iload_n 2, 1) := op_28 lX2_canGlue (by decide +kernel)
theorem dX2_canGlue_45 : decode cX2_canGlue 45 = .ok (.iadd, 1) := op_96 lX2_canGlue (by decide +kernel)
theorem dX2_canGlue_46 : decode cX2_canGlue 46 = .ok (.bipush 20, 2) := op_16 lX2_canGlue 20 (by decide +kernel)
theorem dX2_canGlue_48 : decode cX2_canGlue 48 = .ok (.if_icmp .gt 7, 3) := op_163 lX2_canGlue 0 7 (by decide +kernel)
theorem dX2_canGlue_51 : decode cX2_canGlue 51 = .ok (.iconst 1, 1) := op_4 lX2_canGlue (by decide +kernel)
theorem dX2_canGlue_52 : decode cX2_canGlue 52 = .ok (.goto 4, 3) := op_167 lX2_canGlue 0 4 (by decide +kernel)
theorem dX2_canGlue_55 : decode cX2_canGlue 55 = .ok (.iconst 0, 1) := op_3 lX2_canGlue (by decide +kernel)
theorem dX2_canGlue_56 : decode cX2_canGlue 56 = .ok (.ireturn, 1) := op_172 lX2_canGlue (by decide +kernel)
def nX2_glueBehind : Nat := 0xac0f00b42a0f00b560040f00b4592a4f0460041b0b00b42ae8ffa7ff02844f2e64041c0b00b42a1c0b00b42a1700a460041b1c3d0f00b42a4f60042e5c1900b660041b2a0b00b42a4f60042e5c1b0b00b42aac0f00b42a08009a3400b61b2a0b00993000b61b2a
theorem lX2_glueBehind : cX2_glueBehind.data.toList = unp nX2_glueBehind 103 0 := by decide +kernel
theorem dX2_glueBehind_0 : decode cX2_glueBehind 0 = .ok (.aload_n 0, 1) := op_42 lX2_glueBehind (by decide +kernel)
theorem dX2_glueBehind_1 : decode cX2_glueBehind 1 = .ok (.iload_n 1, 1) := op_27 lX2_glueBehind (by decide +kernel)
theorem dX2_glueBehind_2 : decode cX2_glueBehind 2 = .ok (.invokevirtual 48, 3) := op_182 lX2_glueBehind 0 48 (by decide +kernel)
theorem dX2_glueBehind_5 : decode cX2_glueBehind 5 = .ok (.ifCond .eq 11, 3) := op_153 lX2_glueBehind 0 11 (by decide +kernel)
theorem dX2_glueBehind_8 : decode cX2_glueBehind 8 = .ok (.aload_n 0, 1) := op_42 lX2_glueBehind (by decide +kernel)
theorem dX2_glueBehind_9 : decode cX2_glueBehind 9 = .ok (.iload_n 1, 1) := op_27 lX2_glueBehind (by decide +kernel)
theorem dX2_glueBehind_10 : decode cX2_glueBehind 10 = .ok (.invokevirtual 52, 3) := op_182 lX2_glueBehind 0 52 (by decide +kernel)
theorem dX2_glueBehind_13 : decode cX2_glueBehind 13 = .ok (.ifCond .ne 8, 3) := op_154 lX2_glueBehind 0 8 (by decide +kernel)
theorem dX2_glueBehind_16 : decode cX2_glueBehind 16 = .ok (.aload_n 0, 1) := op_42 lX2_glueBehind (by decide +kernel)
theorem dX2_glueBehind_17 : decode cX2_glueBehind 17 = .ok (.getfield 15, 3) := op_180 lX2_glueBehind 0 15 (by decide +kernel)
theorem dX2_glueBehind_20 : decode cX2_glueBehind 20 = .ok (.ireturn, 1) := op_172 lX2_glueBehind (by decide +kernel)
theorem dX2_glueBehind_21 : decode cX2_glueBehind 21 = .ok (.aload_n 0, 1) := op_42 lX2_glueBehind (by decide +kernel)
theorem dX2_glueBehind_22 : decode cX2_glueBehind 22 = .ok (.getfield 11, 3) := op_180 lX2_glueBehind 0 11 (by decide +kernel)
theorem dX2_glueBehind_25 : decode cX2_glueBehind 25 = .ok (.iload_n 1, 1) := op_27 lX2_glueBehind (by decide +kernel)
theorem dX2_glueBehind_26 : decode cX2_glueBehind 26 = .ok (.dup2, 1) := op_92 lX2_glueBehind (by decide +kernel)
theorem dX2_glueBehind_27 : decode cX2_glueBehind 27 = .ok (.iaload, 1) := op_46 lX2_glueBehind (by decide +kernel)
theorem dX2_glueBehind_28 : decode cX2_glueBehind 28 = .ok (.iconst 1, 1) := op_4 lX2_glueBehind (by decide +kernel)
theorem dX2_glueBehind_29 : decode cX2_glueBehind 29 = .ok (.iadd, 1) := op_96 lX2_glueBehind (by decide +kernel)
theorem dX2_glueBehind_30 : decode cX2_glueBehind 30 = .ok (.iastore, 1) := op_79 lX2_glueBehind (by decide +kernel)
theorem dX2_glueBehind_31 : decode cX2_glueBehind 31 = .ok (.aload_n 0, 1) := op_42 lX2_glueBehind (by decide +kernel)
theorem dX2_glueBehind_32 : decode cX2_glueBehind 32 = .ok (.getfield 11, 3) := op_180 lX2_glueBehind 0 11 (by decide +kernel)
theorem dX2_glueBehind_35 : decode cX2_glueBehind 35 = .ok (.aload_n 0, 1) := op_42 lX2_glueBehind (by decide +kernel)
theorem dX2_glueBehind_36 : decode cX2_glueBehind 36 = .ok (.iload_n 1, 1) := op_27 lX2_glueBehind (by decide +kernel)
theorem dX2_glueBehind_37 : decode cX2_glueBehind 37 = .ok (.iconst 1, 1) := op_4 lX2_glueBehind (by decide +kernel)
theorem dX2_glueBehind_38 : decode cX2_glueBehind 38 = .ok (.iadd, 1) := op_96 lX2_glueBehind (by decide +kernel)
theorem dX2_glueBehind_39 : decode cX2_glueBehind 39 = .ok (.invokevirtual 25, 3) := op_182 lX2_glueBehind 0 25 (by decide +kernel)
theorem dX2_glueBehind_42 : decode cX2_glueBehind 42 = .ok (.dup2, 1) := op_92 lX2_glueBehind (by decide +kernel)
theorem dX2_glueBehind_43 : decode cX2_glueBehind 43 = .ok (.iaload, 1) := op_46 lX2_glueBehind (by decide +kernel)
theorem dX2_glueBehind_44 : decode cX2_glueBehind 44 = .ok (.iconst 1, 1) := op_4 lX2_glueBehind (by decide +kernel)
theorem dX2_glueBehind_45 : decode cX2_glueBehind 45 = .ok (.iadd, 1) := op_96 lX2_glueBehind (by decide +kernel)
theorem dX2_glueBehind_46 : decode cX2_glueBehind 46 = .ok (.iastore, 1) := op_79 lX2_glueBehind (by decide +kernel)
theorem dX2_glueBehind_47 : decode cX2_glueBehind 47 = .ok (.aload_n 0, 1) := op_42 lX2_glueBehind (by decide +kernel)
theorem dX2_glueBehind_48 : decode cX2_glueBehind 48 = .ok (.getfield 15, 3) := op_180 lX2_glueBehind 0 15 (by decide +kernel)
theorem dX2_glueBehind_51 : decode cX2_glueBehind 51 = .ok (.istore_n 2, 1) := op_61 lX2_glueBehind (by decide +kernel)
theorem dX2_glueBehind_52 : decode cX2_glueBehind 52 = .ok (.iload_n 2, 1) := op_28 lX2_glueBehind (by decide +kernel)
theorem dX2_glueBehind_53 : decode cX2_glueBehind 53 = .ok (.iload_n 1, 1) := op_27 lX2_glueBehind (by decide +kernel)
theorem dX2_glueBehind_54 : decode cX2_glueBehind 54 = .ok (.iconst 1, 1) := op_4 lX2_glueBehind (by decide +kernel)
theorem dX2_glueBehind_55 : decode cX2_glueBehind 55 = .ok (.iadd, 1) := op_96 lX2_glueBehind (by decide +kernel)
theorem dX2_glueBehind_56 : decode cX2_glueBehind 56 = .ok (.if_icmp .le 23, 3) := op_164 lX2_glueBehind 0 23 (by decide +kernel)
theorem dX2_glueBehind_59 : decode cX2_glueBehind 59 = .ok (.aload_n 0, 1) := op_42 lX2_glueBehind (by decide +kernel)
theorem dX2_glueBehind_60 : decode cX2_glueBehind 60 = .ok (.getfield 11, 3) := op_180 lX2_glueBehind 0 11 (by decide +kernel)
theorem dX2_glueBehind_63 : decode cX2_glueBehind 63 = .ok (.iload_n 2, 1) := op_28 lX2_glueBehind (by decide +kernel)
theorem dX2_glueBehind_64 : decode cX2_glueBehind 64 = .ok (.aload_n 0, 1) := op_42 lX2_glueBehind (by decide +kernel)
theorem dX2_glueBehind_65 : decode cX2_glueBehind 65 = .ok (.getfield 11, 3) := op_180 lX2_glueBehind 0 11 (by decide +kernel)
theorem dX2_glueBehind_68 : decode cX2_glueBehind 68 = .ok (.iload_n 2, 1) := op_28 lX2_glueBehind (by decide +kernel)
theorem dX2_glueBehind_69 : decode cX2_glueBehind 69 = .ok (.iconst 1, 1) := op_4 lX2_glueBehind (by decide +kernel)
theorem dX2_glueBehind_70 : decode cX2_glueBehind 70 = .ok (.isub, 1) := op_100 lX2_glueBehind (by decide +kernel)
theorem dX2_glueBehind_71 : decode cX2_glueBehind 71 = .ok (.iaload, 1) := op_46 lX2_glueBehind (by decide +kernel)
theorem dX2_glueBehind_72 : decode cX2_glueBehind 72 = .ok (.iastore, 1) := op_79 lX2_glueBehind (by decide +kernel)
theorem dX2_glueBehind_73 : decode cX2_glueBehind 73 = .ok (.iinc 2 (-1), 3) := op_132 lX2_glueBehind 255 (by decide +kernel)
theorem dX2_glueBehind_76 : decode cX2_glueBehind 76 = .ok (.goto (-24), 3) := op_167 lX2_glueBehind 255 232 (by decide +kernel)
theorem dX2_glueBehind_79 : decode cX2_glueBehind 79 = .ok (.aload_n 0, 1) := op_42 lX2_glueBehind (by decide +kernel)
theorem dX2_glueBehind_80 : decode cX2_glueBehind 80 = .ok (.getfield 11, 3) := op_180 lX2_glueBehind 0 11 (by decide +kernel)
theorem dX2_glueBehind_83 : decode cX2_glueBehind 83 = .ok (.iload_n 1, 1) := op_27 lX2_glueBehind (by decide +kernel)
theorem dX2_glueBehind_84 : decode cX2_glueBehind 84 = .ok (.iconst 1, 1) := op_4 lX2_glueBehind (by decide +kernel)
theorem dX2_glueBehind_85 : decode cX2_glueBehind 85 = .ok (.iadd, 1) := op_96 lX2_glueBehind (by decide +kernel)
theorem dX2_glueBehind_86 : decode cX2_glueBehind 86 = .ok (.iconst 1, 1) := op_4 lX2_glueBehind (by decide +kernel)
theorem dX2_glueBehind_87 : decode cX2_glueBehind 87 = .ok (.iastore, 1) := op_79 lX2_glueBehind (by decide +kernel)
theorem dX2_glueBehind_88 : decode cX2_glueBehind 88 = .ok (.aload_n 0, 1) := op_42 lX2_glueBehind (by decide +kernel)
theorem dX2_glueBehind_89 : decode cX2_glueBehind 89 = .ok (.dup, 1) := op_89 lX2_glueBehind (by decide +kernel)
theorem dX2_glueBehind_90 : decode cX2_glueBehind 90 = .ok (.getfield 15, 3) := op_180 lX2_glueBehind 0 15 (by decide +kernel)
theorem dX2_glueBehind_93 : decode cX2_glueBehind 93 = .ok (.iconst 1, 1) := op_4 lX2_glueBehind (by decide +kernel)
theorem dX2_glueBehind_94 : decode cX2_glueBehind 94 = .ok (.iadd, 1) := op_96 lX2_glueBehind (by decide +kernel)
theorem dX2_glueBehind_95 : decode cX2_glueBehind 95 = .ok (.putfield 15, 3) := op_181 lX2_glueBehind 0 15 (by decide +kernel)
theorem dX2_glueBehind_98 : decode cX2_glueBehind 98 = .ok (.aload_n 0, 1) := op_42 lX2_glueBehind (by decide +kernel)
theorem dX2_glueBehind_99 : decode cX2_glueBehind 99 = .ok (.getfield 15, 3) := op_180 lX2_glueBehind 0 15 (by decide +kernel)
theorem dX2_glueBehind_102 : decode cX2_glueBehind 102 = .ok (.ireturn, 1) := op_172 lX2_glueBehind (by decide +kernel)
def nX2_canLose : Nat := 0xac030400a7040700a4042000b660041b2a1200a4042000b664041b2a1d00a0042000b61b2a2600a1060f00b42a
theorem lX2_canLose : cX2_canLose.data.toList = unp nX2_canLose 45 0 := by decide +kernel
theorem dX2_canLose_0 : decode cX2_canLose 0 = .ok (.aload_n 0, 1) := op_42 lX2_canLose (by decide +kernel)
theorem dX2_canLose_1 : decode cX2_canLose 1 = .ok (.getfield 15, 3) := op_180 lX2_canLose 0 15 (by decide +kernel)
theorem dX2_canLose_4 : decode cX2_canLose 4 = .ok (.iconst 3, 1) := op_6 lX2_canLose (by decide +kernel)
theorem dX2_canLose_5 : decode cX2_canLose 5 = .ok (.if_icmp .lt 38, 3) := op_161 lX2_canLose 0 38 (by decide +kernel)
theorem dX2_canLose_8 : decode cX2_canLose 8 = .ok (.aload_n 0, 1) := op_42 lX2_canLose (by decide +kernel)
theorem dX2_canLose_9 : decode cX2_canLose 9 = .ok (.iload_n 1, 1) := op_27 lX2_canLose (by decide +kernel)
theorem dX2_canLose_10 : decode cX2_canLose 10 = .ok (.invokevirtual 32, 3) := op_182 lX2_canLose 0 32 (by decide +kernel)
theorem dX2_canLose_13 : decode cX2_canLose 13 = .ok (.iconst 1, 1) := op_4 lX2_canLose (by decide +kernel)
theorem dX2_canLose_14 : decode cX2_canLose 14 = .ok (.if_icmp .ne 29, 3) := op_160 lX2_canLose 0 29 (by decide +kernel)
theorem dX2_canLose_17 : decode cX2_canLose 17 = .ok (.aload_n 0, 1) := op_42 lX2_canLose (by decide +kernel)
theorem dX2_canLose_18 : decode cX2_canLose 18 = .ok (.iload_n 1, 1) := op_27 lX2_canLose (by decide +kernel)
theorem dX2_canLose_19 : decode cX2_canLose 19 = .ok (.iconst 1, 1) := op_4 lX2_canLose (by decide +kernel)
theorem dX2_canLose_20 : decode cX2_canLose 20 = .ok (.isub, 1) := op_100 lX2_canLose (by decide +kernel)
theorem dX2_canLose_21 : decode cX2_canLose 21 = .ok (.invokevirtual 32, 3) := op_182 lX2_canLose 0 32 (by decide +kernel)
theorem dX2_canLose_24 : decode cX2_canLose 24 = .ok (.iconst 1, 1) := op_4 lX2_canLose (by decide +kernel)
theorem dX2_canLose_25 : decode cX2_canLose 25 = .ok (.if_icmp .le 18, 3) := op_164 lX2_canLose 0 18 (by decide +kernel)
theorem dX2_canLose_28 : decode cX2_canLose 28 = .ok (.aload_n 0, 1) := op_42 lX2_canLose (by decide +kernel)
theorem dX2_canLose_29 : decode cX2_canLose 29 = .ok (.iload_n 1, 1) := op_27 lX2_canLose (by decide +kernel)
theorem dX2_canLose_30 : decode cX2_canLose 30 = .ok (.iconst 1, 1) := op_4 lX2_canLose (by decide +kernel)
theorem dX2_canLose_31 : decode cX2_canLose 31 = .ok (.iadd, 1) := op_96 lX2_canLose (by decide +kernel)
theorem dX2_canLose_32 : decode cX2_canLose 32 = .ok (.invokevirtual 32, 3) := op_182 lX2_canLose 0 32 (by decide +kernel)
theorem dX2_canLose_35 : decode cX2_canLose 35 = .ok (.iconst 1, 1) := op_4 lX2_canLose (by decide +kernel)
theorem dX2_canLose_36 : decode cX2_canLose 36 = .ok (.if_icmp .le 7, 3) := op_164 lX2_canLose 0 7 (by decide +kernel)
theorem dX2_canLose_39 : decode cX2_canLose 39 = .ok (.iconst 1, 1) := op_4 lX2_canLose (by decide +kernel)
theorem dX2_canLose_40 : decode cX2_canLose 40 = .ok (.goto 4, 3) := op_167 lX2_canLose 0 4 (by decide +kernel)
theorem dX2_canLose_43 : decode cX2_canLose 43 = .ok (.iconst 0, 1) := op_3 lX2_canLose (by decide +kernel)
theorem dX2_canLose_44 : decode cX2_canLose 44 = .ok (.ireturn, 1) := op_172 lX2_canLose (by decide +kernel)
def nX2_lose : Nat := 0xac0f00b42a0f00b564040f00b4592ae5ffa70102844f2e60041c0b00b42a1c0b00b42a1700a20f00b42a60041c3d1b4f64042e5c1900b660041b2a0b00b42a4f64042e5c1900b664041b2a0b00b42aac0f00b42a08009a3700b61b2a0b00993000b61b2a
theorem lX2_lose : cX2_lose.data.toList = unp nX2_lose 100 0 := by decide +kernel
theorem dX2_lose_0 : decode cX2_lose 0 = .ok (.aload_n 0, 1) := op_42 lX2_lose (by decide +kernel)
theorem dX2_lose_1 : decode cX2_lose 1 = .ok (.iload_n 1, 1) := op_27 lX2_lose (by decide +kernel)
theorem dX2_lose_2 : decode cX2_lose 2 = .ok (.invokevirtual 48, 3) := op_182 lX2_lose 0 48 (by decide +kernel)
theorem dX2_lose_5 : decode cX2_lose 5 = .ok (.ifCond .eq 11, 3) := op_153 lX2_lose 0 11 (by decide +kernel)
theorem dX2_lose_8 : decode cX2_lose 8 = .ok (.aload_n 0, 1) := op_42 lX2_lose (by decide +kernel)
theorem dX2_lose_9 : decode cX2_lose 9 = .ok (.iload_n 1, 1) := op_27 lX2_lose (by decide +kernel)
theorem dX2_lose_10 : decode cX2_lose 10 = .ok (.invokevirtual 55, 3) := op_182 lX2_lose 0 55 (by decide +kernel)
theorem dX2_lose_13 : decode cX2_lose 13 = .ok (.ifCond .ne 8, 3) := op_154 lX2_lose 0 8 (by decide +kernel)
theorem dX2_lose_16 : decode cX2_lose 16 = .ok (.aload_n 0, 1) := op_42 lX2_lose (by decide +kernel)
theorem dX2_lose_17 : decode cX2_lose 17 = .ok (.getfield 15, 3) := op_180 lX2_lose 0 15 (by decide +kernel)
theorem dX2_lose_20 : decode cX2_lose 20 = .ok (.ireturn, 1) := op_172 lX2_lose (by decide +kernel)
theorem dX2_lose_21 : decode cX2_lose 21 = .ok (.aload_n 0, 1) := op_42 lX2_lose (by decide +kernel)
theorem dX2_lose_22 : decode cX2_lose 22 = .ok (.getfield 11, 3) := op_180 lX2_lose 0 11 (by decide +kernel)
theorem dX2_lose_25 : decode cX2_lose 25 = .ok (.aload_n 0, 1) := op_42 lX2_lose (by decide +kernel)
theorem dX2_lose_26 : decode cX2_lose 26 = .ok (.iload_n 1, 1) := op_27 lX2_lose (by decide +kernel)
theorem dX2_lose_27 : decode cX2_lose 27 = .ok (.iconst 1, 1) := op_4 lX2_lose (by decide +kernel)
theorem dX2_lose_28 : decode cX2_lose 28 = .ok (.isub, 1) := op_100 lX2_lose (by decide +kernel)
theorem dX2_lose_29 : decode cX2_lose 29 = .ok (.invokevirtual 25, 3) := op_182 lX2_lose 0 25 (by decide +kernel)
theorem dX2_lose_32 : decode cX2_lose 32 = .ok (.dup2, 1) := op_92 lX2_lose (by decide +kernel)
theorem dX2_lose_33 : decode cX2_lose 33 = .ok (.iaload, 1) := op_46 lX2_lose (by decide +kernel)
theorem dX2_lose_34 : decode cX2_lose 34 = .ok (.iconst 1, 1) := op_4 lX2_lose (by decide +kernel)
theorem dX2_lose_35 : decode cX2_lose 35 = .ok (.isub, 1) := op_100 lX2_lose (by decide +kernel)
theorem dX2_lose_36 : decode cX2_lose 36 = .ok (.iastore, 1) := op_79 lX2_lose (by decide +kernel)
theorem dX2_lose_37 : decode cX2_lose 37 = .ok (.aload_n 0, 1) := op_42 lX2_lose (by decide +kernel)
theorem dX2_lose_38 : decode cX2_lose 38 = .ok (.getfield 11, 3) := op_180 lX2_lose 0 11 (by decide +kernel)
theorem dX2_lose_41 : decode cX2_lose 41 = .ok (.aload_n 0, 1) := op_42 lX2_lose (by decide +kernel)
theorem dX2_lose_42 : decode cX2_lose 42 = .ok (.iload_n 1, 1) := op_27 lX2_lose (by decide +kernel)
theorem dX2_lose_43 : decode cX2_lose 43 = .ok (.iconst 1, 1) := op_4 lX2_lose (by decide +kernel)
theorem dX2_lose_44 : decode cX2_lose 44 = .ok (.iadd, 1) := op_96 lX2_lose (by decide +kernel)
theorem dX2_lose_45 : decode cX2_lose 45 = .ok (.invokevirtual 25, 3) := op_182 lX2_lose 0 25 (by decide +kernel)
theorem dX2_lose_48 : decode cX2_lose 48 = .ok (.dup2, 1) := op_92 lX2_lose (by decide +kernel)
theorem dX2_lose_49 : decode cX2_lose 49 = .ok (.iaload, 1) := op_46 lX2_lose (by decide +kernel)
theorem dX2_lose_50 : decode cX2_lose 50 = .ok (.iconst 1, 1) := op_4 lX2_lose (by decide +kernel)
theorem dX2_lose_51 : decode cX2_lose 51 = .ok (.isub, 1) := op_100 lX2_lose (by decide +kernel)
theorem dX2_lose_52 : decode cX2_lose 52 = .ok (.iastore, 1) := op_79 lX2_lose (by decide +kernel)
theorem dX2_lose_53 : decode cX2_lose 53 = .ok (.iload_n 1, 1) := op_27 lX2_lose (by decide +kernel)
theorem dX2_lose_54 : decode cX2_lose 54 = .ok (.istore_n 2, 1) := op_61 lX2_lose (by decide +kernel)
theorem dX2_lose_55 : decode cX2_lose 55 = .ok (.iload_n 2, 1) := op_28 lX2_lose (by decide +kernel)
theorem dX2_lose_56 : decode cX2_lose 56 = .ok (.iconst 1, 1) := op_4 lX2_lose (by decide +kernel)
theorem dX2_lose_57 : decode cX2_lose 57 = .ok (.iadd, 1) := op_96 lX2_lose (by decide +kernel)
theorem dX2_lose_58 : decode cX2_lose 58 = .ok (.aload_n 0, 1) := op_42 lX2_lose (by decide +kernel)
theorem dX2_lose_59 : decode cX2_lose 59 = .ok (.getfield 15, 3) := op_180 lX2_lose 0 15 (by decide +kernel)
theorem dX2_lose_62 : decode cX2_lose 62 = .ok (.if_icmp .ge 23, 3) := op_162 lX2_lose 0 23 (by decide +kernel)
theorem dX2_lose_65 : decode cX2_lose 65 = .ok (.aload_n 0, 1) := op_42 lX2_lose (by decide +kernel)
theorem dX2_lose_66 : decode cX2_lose 66 = .ok (.getfield 11, 3) := op_180 lX2_lose 0 11 (by decide +kernel)
theorem dX2_lose_69 : decode cX2_lose 69 = .ok (.iload_n 2, 1) := op_28 lX2_lose (by decide +kernel)
theorem dX2_lose_70 : decode cX2_lose 70 = .ok (.aload_n 0, 1) := op_42 lX2_lose (by decide +kernel)
theorem dX2_lose_71 : decode cX2_lose 71 = .ok (.getfield 11, 3) := op_180 lX2_lose 0 11 (by decide +kernel)
theorem dX2_lose_74 : decode cX2_lose 74 = .ok (.iload_n 2, 1) := op_28 lX2_lose (by decide +kernel)
theorem dX2_lose_75 : decode cX2_lose 75 = .ok (.iconst 1, 1) := op_4 lX2_lose (by decide +kernel)
theorem dX2_lose_76 : decode cX2_lose 76 = .ok (.iadd, 1) := op_96 lX2_lose (by decide +kernel)
theorem dX2_lose_77 : decode cX2_lose 77 = .ok (.iaload, 1) := op_46 lX2_lose (by decide +kernel)
theorem dX2_lose_78 : decode cX2_lose 78 = .ok (.iastore, 1) := op_79 lX2_lose (by decide +kernel)
theorem dX2_lose_79 : decode cX2_lose 79 = .ok (.iinc 2 1, 3) := op_132 lX2_lose 1 (by decide +kernel)
theorem dX2_lose_82 : decode cX2_lose 82 = .ok (.goto (-27), 3) := op_167 lX2_lose 255 229 (by decide +kernel)
theorem dX2_lose_85 : decode cX2_lose 85 = .ok (.aload_n 0, 1) := op_42 lX2_lose (by decide +kernel)
theorem dX2_lose_86 : decode cX2_lose 86 = .ok (.dup, 1) := op_89 lX2_lose (by decide +kernel)
theorem dX2_lose_87 : decode cX2_lose 87 = .ok (.getfield 15, 3) := op_180 lX2_lose 0 15 (by decide +kernel)
theorem dX2_lose_90 : decode cX2_lose 90 = .ok (.iconst 1, 1) := op_4 lX2_lose (by decide +kernel)
theorem dX2_lose_91 : decode cX2_lose 91 = .ok (.isub, 1) := op_100 lX2_lose (by decide +kernel)
theorem dX2_lose_92 : decode cX2_lose 92 = .ok (.putfield 15, 3) := op_181 lX2_lose 0 15 (by decide +kernel)
theorem dX2_lose_95 : decode cX2_lose 95 = .ok (.aload_n 0, 1) := op_42 lX2_lose (by decide +kernel)
theorem dX2_lose_96 : decode cX2_lose 96 = .ok (.getfield 15, 3) := op_180 lX2_lose 0 15 (by decide +kernel)
theorem dX2_lose_99 : decode cX2_lose 99 = .ok (.ireturn, 1) := op_172 lX2_lose (by decide +kernel)
def nX2_loseAll : Nat := 0xac1bd9ffa7010284010184573e00b61d2a1200a706009a3700b61d2a1d009f021d3e3a00b62a2700a20a101c3d033c03
theorem lX2_loseAll : cX2_loseAll.data.toList = unp nX2_loseAll 48 0 := by decide +kernel
theorem dX2_loseAll_0 : decode cX2_loseAll 0 = .ok (.iconst 0, 1) := op_3 lX2_loseAll (by decide +kernel)
theorem dX2_loseAll_1 : decode cX2_loseAll 1 = .ok (.istore_n 1, 1) := op_60 lX2_loseAll (by decide +kernel)
theorem dX2_loseAll_2 : decode cX2_loseAll 2 = .ok (.iconst 0, 1) := op_3 lX2_loseAll (by decide +kernel)
theorem dX2_loseAll_3 : decode cX2_loseAll 3 = .ok (.istore_n 2, 1) := op_61 lX2_loseAll (by decide +kernel)
theorem dX2_loseAll_4 : decode cX2_loseAll 4 = .ok (.iload_n 2, 1) := op_28 lX2_loseAll (by decide +kernel)
theorem dX2_loseAll_5 : decode cX2_loseAll 5 = .ok (.bipush 10, 2) := op_16 lX2_loseAll 10 (by decide +kernel)
theorem dX2_loseAll_7 : decode cX2_loseAll 7 = .ok (.if_icmp .ge 39, 3) := op_162 lX2_loseAll 0 39 (by decide +kernel)
theorem dX2_loseAll_10 : decode cX2_loseAll 10 = .ok (.aload_n 0, 1) := op_42 lX2_loseAll (by decide +kernel)
theorem dX2_loseAll_11 : decode cX2_loseAll 11 = .ok (.invokevirtual 58, 3) := op_182 lX2_loseAll 0 58 (by decide +kernel)
theorem dX2_loseAll_14 : decode cX2_loseAll 14 = .ok (.istore_n 3, 1) := op_62 lX2_loseAll (by decide +kernel)
theorem dX2_loseAll_15 : decode cX2_loseAll 15 = .ok (.iload_n 3, 1) := op_29 lX2_loseAll (by decide +kernel)
theorem dX2_loseAll_16 : decode cX2_loseAll 16 = .ok (.iconst (-1), 1) := op_2 lX2_loseAll (by decide +kernel)
theorem dX2_loseAll_17 : decode cX2_loseAll 17 = .ok (.if_icmp .eq 29, 3) := op_159 lX2_loseAll 0 29 (by decide +kernel)
theorem dX2_loseAll_20 : decode cX2_loseAll 20 = .ok (.aload_n 0, 1) := op_42 lX2_loseAll (by decide +kernel)
theorem dX2_loseAll_21 : decode cX2_loseAll 21 = .ok (.iload_n 3, 1) := op_29 lX2_loseAll (by decide +kernel)
theorem dX2_loseAll_22 : decode cX2_loseAll 22 = .ok (.invokevirtual 55, 3) := op_182 lX2_loseAll 0 55 (by decide +kernel)
theorem dX2_loseAll_25 : decode cX2_loseAll 25 = .ok (.ifCond .ne 6, 3) := op_154 lX2_loseAll 0 6 (by decide +kernel)
theorem dX2_loseAll_28 : decode cX2_loseAll 28 = .ok (.goto 18, 3) := op_167 lX2_loseAll 0 18 (by decide +kernel)
theorem dX2_loseAll_31 : decode cX2_loseAll 31 = .ok (.aload_n 0, 1) := op_42 lX2_loseAll (by decide +kernel)
theorem dX2_loseAll_32 : decode cX2_loseAll 32 = .ok (.iload_n 3, 1) := op_29 lX2_loseAll (by decide +kernel)
theorem dX2_loseAll_33 : decode cX2_loseAll 33 = .ok (.invokevirtual 62, 3) := op_182 lX2_loseAll 0 62 (by decide +kernel)
theorem dX2_loseAll_36 : decode cX2_loseAll 36 = .ok (.pop, 1) := op_87 lX2_loseAll (by decide +kernel)
theorem dX2_loseAll_37 : decode cX2_loseAll 37 = .ok (.iinc 1 1, 3) := op_132 lX2_loseAll 1 (by decide +kernel)
theorem dX2_loseAll_40 : decode cX2_loseAll 40 = .ok (.iinc 2 1, 3) := op_132 lX2_loseAll 1 (by decide +kernel)
theorem dX2_loseAll_43 : decode cX2_loseAll 43 = .ok (.goto (-39), 3) := op_167 lX2_loseAll 255 217 (by decide +kernel)
theorem dX2_loseAll_46 : decode cX2_loseAll 46 = .ok (.iload_n 1, 1) := op_27 lX2_loseAll (by decide +kernel)
theorem dX2_loseAll_47 : decode cX2_loseAll 47 = .ok (.ireturn, 1) := op_172 lX2_loseAll (by decide +kernel)
def nX2_firstOne : Nat := 0xac02e9ffa7010184ac1b0500a0042e1b0b00b42a1500a20f00b42a1b3c03
theorem lX2_firstOne : cX2_firstOne.data.toList = unp nX2_firstOne 30 0 := by decide +kernel
theorem dX2_firstOne_0 : decode cX2_firstOne 0 = .ok (.iconst 0, 1) := op_3 lX2_firstOne (by decide +kernel)
theorem dX2_firstOne_1 : decode cX2_firstOne 1 = .ok (.istore_n 1, 1) := op_60 lX2_firstOne (by decide +kernel)
theorem dX2_firstOne_2 : decode cX2_firstOne 2 = .ok (.iload_n 1, 1) := op_27 lX2_firstOne (by decide +kernel)
theorem dX2_firstOne_3 : decode cX2_firstOne 3 = .ok (.aload_n 0, 1) := op_42 lX2_firstOne (by decide +kernel)
theorem dX2_firstOne_4 : decode cX2_firstOne 4 = .ok (.getfield 15, 3) := op_180 lX2_firstOne 0 15 (by decide +kernel)
theorem dX2_firstOne_7 : decode cX2_firstOne 7 = .ok (.if_icmp .ge 21, 3) := op_162 lX2_firstOne 0 21 (by decide +kernel)
theorem dX2_firstOne_10 : decode cX2_firstOne 10 = .ok (.aload_n 0, 1) := op_42 lX2_firstOne (by decide +kernel)
theorem dX2_firstOne_11 : decode cX2_firstOne 11 = .ok (.getfield 11, 3) := op_180 lX2_firstOne 0 11 (by decide +kernel)
theorem dX2_firstOne_14 : decode cX2_firstOne 14 = .ok (.iload_n 1, 1) := op_27 lX2_firstOne (by decide +kernel)
theorem dX2_firstOne_15 : decode cX2_firstOne 15 = .ok (.iaload, 1) := op_46 lX2_firstOne (by decide +kernel)
theorem dX2_firstOne_16 : decode cX2_firstOne 16 = .ok (.iconst 1, 1) := op_4 lX2_firstOne (by decide +kernel)
theorem dX2_firstOne_17 : decode cX2_firstOne 17 = .ok (.if_icmp .ne 5, 3) := op_160 lX2_firstOne 0 5 (by decide +kernel)
theorem dX2_firstOne_20 : decode cX2_firstOne 20 = .ok (.iload_n 1, 1) := op_27 lX2_firstOne (by decide +kernel)
theorem dX2_firstOne_21 : decode cX2_firstOne 21 = .ok (.ireturn, 1) := op_172 lX2_firstOne (by decide +kernel)
theorem dX2_firstOne_22 : decode cX2_firstOne 22 = .ok (.iinc 1 1, 3) := op_132 lX2_firstOne 1 (by decide +kernel)
theorem dX2_firstOne_25 : decode cX2_firstOne 25 = .ok (.goto (-23), 3) := op_167 lX2_firstOne 255 233 (by decide +kernel)
theorem dX2_firstOne_28 : decode cX2_firstOne 28 = .ok (.iconst (-1), 1) := op_2 lX2_firstOne (by decide +kernel)
theorem dX2_firstOne_29 : decode cX2_firstOne 29 = .ok (.ireturn, 1) := op_172 lX2_firstOne (by decide +kernel)
end

section
def nX3_init : Nat := 0xb10f00b50abc16102a0900b50abcad01112a0300b72a
theorem lX3_init : cX3_init.data.toList = unp nX3_init 22 0 := by decide +kernel
theorem dX3_init_0 : decode cX3_init 0 = .ok (.aload_n 0, 1) := op_42 lX3_init (by decide +kernel)
theorem dX3_init_1 : decode cX3_init 1 = .ok (.invokespecial 3, 3) := op_183 lX3_init 0 3 (by decide +kernel)
theorem dX3_init_4 : decode cX3_init 4 = .ok (.aload_n 0, 1) := op_42 lX3_init (by decide +kernel)
theorem dX3_init_5 : decode cX3_init 5 = .ok (.sipush 429, 3) := op_17 lX3_init 1 173 (by decide +kernel)
theorem dX3_init_8 : decode cX3_init 8 = .ok (.newarray .int, 2) := by decide +kernel
theorem dX3_init_10 : decode cX3_init 10 = .ok (.putfield 9, 3) := op_181 lX3_init 0 9 (by decide +kernel)
theorem dX3_init_13 : decode cX3_init 13 = .ok (.aload_n 0, 1) := op_42 lX3_init (by decide +kernel)
theorem dX3_init_14 : decode cX3_init 14 = .ok (.bipush 22, 2) := op_16 lX3_init 22 (by decide +kernel)
theorem dX3_init_16 : decode cX3_init 16 = .ok (.newarray .int, 2) := by decide +kernel
theorem dX3_init_18 : decode cX3_init 18 = .ok (.putfield 15, 3) := op_181 lX3_init 0 15 (by decide +kernel)
theorem dX3_init_21 : decode cX3_init 21 = .ok (.return_, 1) := op_177 lX3_init (by decide +kernel)
def nX3_size : Nat := 0xac1200b42a
theorem lX3_size : cX3_size.data.toList = unp nX3_size 5 0 := by decide +kernel
theorem dX3_size_0 : decode cX3_size 0 = .ok (.aload_n 0, 1) := op_42 lX3_size (by decide +kernel)
theorem dX3_size_1 : decode cX3_size 1 = .ok (.getfield 18, 3) := op_180 lX3_size 0 18 (by decide +kernel)
theorem dX3_size_4 : decode cX3_size 4 = .ok (.ireturn, 1) := op_172 lX3_size (by decide +kernel)
def nX3_gather : Nat := 0xb1c9ffa70104841200b560041200b4592a4f04151200b42a0900b42a1800992600b62200b604152b2b2c2c00a2ad011104153400a21c00b62b04150436031200b5032a1600b61d2c
theorem lX3_gather : cX3_gather.data.toList = unp nX3_gather 72 0 := by decide +kernel
theorem dX3_gather_0 : decode cX3_gather 0 = .ok (.aload_n 2, 1) := op_44 lX3_gather (by decide +kernel)
theorem dX3_gather_1 : decode cX3_gather 1 = .ok (.iload_n 3, 1) := op_29 lX3_gather (by decide +kernel)
theorem dX3_gather_2 : decode cX3_gather 2 = .ok (.invokevirtual 22, 3) := op_182 lX3_gather 0 22 (by decide +kernel)
theorem dX3_gather_5 : decode cX3_gather 5 = .ok (.aload_n 0, 1) := op_42 lX3_gather (by decide +kernel)
theorem dX3_gather_6 : decode cX3_gather 6 = .ok (.iconst 0, 1) := op_3 lX3_gather (by decide +kernel)
theorem dX3_gather_7 : decode cX3_gather 7 = .ok (.putfield 18, 3) := op_181 lX3_gather 0 18 (by decide +kernel)
theorem dX3_gather_10 : decode cX3_gather 10 = .ok (.iconst 0, 1) := op_3 lX3_gather (by decide +kernel)
theorem dX3_gather_11 : decode cX3_gather 11 = .ok (.istore 4, 2) := op_54 lX3_gather (by decide +kernel)
theorem dX3_gather_13 : decode cX3_gather 13 = .ok (.iload 4, 2) := op_21 lX3_gather (by decide +kernel)
theorem dX3_gather_15 : decode cX3_gather 15 = .ok (.aload_n 1, 1) := op_43 lX3_gather (by decide +kernel)
theorem dX3_gather_16 : decode cX3_gather 16 = .ok (.invokevirtual 28, 3) := op_182 lX3_gather 0 28 (by decide +kernel)
theorem dX3_gather_19 : decode cX3_gather 19 = .ok (.if_icmp .ge 52, 3) := op_162 lX3_gather 0 52 (by decide +kernel)
theorem dX3_gather_22 : decode cX3_gather 22 = .ok (.iload 4, 2) := op_21 lX3_gather (by decide +kernel)
theorem dX3_gather_24 : decode cX3_gather 24 = .ok (.sipush 429, 3) := op_17 lX3_gather 1 173 (by decide +kernel)
theorem dX3_gather_27 : decode cX3_gather 27 = .ok (.if_icmp .ge 44, 3) := op_162 lX3_gather 0 44 (by decide +kernel)
theorem dX3_gather_30 : decode cX3_gather 30 = .ok (.aload_n 2, 1) := op_44 lX3_gather (by decide +kernel)
theorem dX3_gather_31 : decode cX3_gather 31 = .ok (.aload_n 1, 1) := op_43 lX3_gather (by decide +kernel)
theorem dX3_gather_32 : decode cX3_gather 32 = .ok (.aload_n 1, 1) := op_43 lX3_gather (by decide +kernel)
theorem dX3_gather_33 : decode cX3_gather 33 = .ok (.iload 4, 2) := op_21 lX3_gather (by decide +kernel)
theorem dX3_gather_35 : decode cX3_gather 35 = .ok (.invokevirtual 34, 3) := op_182 lX3_gather 0 34 (by decide +kernel)
theorem dX3_gather_38 : decode cX3_gather 38 = .ok (.invokevirtual 38, 3) := op_182 lX3_gather 0 38 (by decide +kernel)
theorem dX3_gather_41 : decode cX3_gather 41 = .ok (.ifCond .eq 24, 3) := op_153 lX3_gather 0 24 (by decide +kernel)
theorem dX3_gather_44 : decode cX3_gather 44 = .ok (.aload_n 0, 1) := op_42 lX3_gather (by decide +kernel)
theorem dX3_gather_45 : decode cX3_gather 45 = .ok (.getfield 9, 3) := op_180 lX3_gather 0 9 (by decide +kernel)
theorem dX3_gather_48 : decode cX3_gather 48 = .ok (.aload_n 0, 1) := op_42 lX3_gather (by decide +kernel)
theorem dX3_gather_49 : decode cX3_gather 49 = .ok (.getfield 18, 3) := op_180 lX3_gather 0 18 (by decide +kernel)
theorem dX3_gather_52 : decode cX3_gather 52 = .ok (.iload 4, 2) := op_21 lX3_gather (by decide +kernel)
theorem dX3_gather_54 : decode cX3_gather 54 = .ok (.iastore, 1) := op_79 lX3_gather (by decide +kernel)
theorem dX3_gather_55 : decode cX3_gather 55 = .ok (.aload_n 0, 1) := op_42 lX3_gather (by decide +kernel)
theorem dX3_gather_56 : decode cX3_gather 56 = .ok (.dup, 1) := op_89 lX3_gather (by decide +kernel)
theorem dX3_gather_57 : decode cX3_gather 57 = .ok (.getfield 18, 3) := op_180 lX3_gather 0 18 (by decide +kernel)
theorem dX3_gather_60 : decode cX3_gather 60 = .ok (.iconst 1, 1) := op_4 lX3_gather (by decide +kernel)
theorem dX3_gather_61 : decode cX3_gather 61 = .ok (.iadd, 1) := op_96 lX3_gather (by decide +kernel)
theorem dX3_gather_62 : decode cX3_gather 62 = .ok (.putfield 18, 3) := op_181 lX3_gather 0 18 (by decide +kernel)
theorem dX3_gather_65 : decode cX3_gather 65 = .ok (.iinc 4 1, 3) := op_132 lX3_gather 1 (by decide +kernel)
theorem dX3_gather_68 : decode cX3_gather 68 = .ok (.goto (-55), 3) := op_167 lX3_gather 255 201 (by decide +kernel)
theorem dX3_gather_71 : decode cX3_gather 71 = .ok (.return_, 1) := op_177 lX3_gather (by decide +kernel)
def nX3_leastNumber : Nat := 0xac020400a72e030900b42a0c009e1200b42a
theorem lX3_leastNumber : cX3_leastNumber.data.toList = unp nX3_leastNumber 18 0 := by decide +kernel
theorem dX3_leastNumber_0 : decode cX3_leastNumber 0 = .ok (.aload_n 0, 1) := op_42 lX3_leastNumber (by decide +kernel)
theorem dX3_leastNumber_1 : decode cX3_leastNumber 1 = .ok (.getfield 18, 3) := op_180 lX3_leastNumber 0 18 (by decide +kernel)
theorem dX3_leastNumber_4 : decode cX3_leastNumber 4 = .ok (.ifCond .le 12, 3) := op_158 lX3_leastNumber 0 12 (by decide +kernel)
theorem dX3_leastNumber_7 : decode cX3_leastNumber 7 = .ok (.aload_n 0, 1) := op_42 lX3_leastNumber (by decide +kernel)
theorem dX3_leastNumber_8 : decode cX3_leastNumber 8 = .ok (.getfield 9, 3) := op_180 lX3_leastNumber 0 9 (by decide +kernel)
theorem dX3_leastNumber_11 : decode cX3_leastNumber 11 = .ok (.iconst 0, 1) := op_3 lX3_leastNumber (by decide +kernel)
theorem dX3_leastNumber_12 : decode cX3_leastNumber 12 = .ok (.iaload, 1) := op_46 lX3_leastNumber (by decide +kernel)
theorem dX3_leastNumber_13 : decode cX3_leastNumber 13 = .ok (.goto 4, 3) := op_167 lX3_leastNumber 0 4 (by decide +kernel)
theorem dX3_leastNumber_16 : decode cX3_leastNumber 16 = .ok (.iconst (-1), 1) := op_2 lX3_leastNumber (by decide +kernel)
theorem dX3_leastNumber_17 : decode cX3_leastNumber 17 = .ok (.ireturn, 1) := op_172 lX3_leastNumber (by decide +kernel)
def nX3_howSure : Nat := 0xac050400a70307009a1d0c00a7040700a01200b42a1dac0205009a1200b42adeffa70104840103840600992a00b61c2200b62e04150900b42a2b2b1f00a21200b42a04150436033e03
theorem lX3_howSure : cX3_howSure.data.toList = unp nX3_howSure 73 0 := by decide +kernel
theorem dX3_howSure_0 : decode cX3_howSure 0 = .ok (.iconst 0, 1) := op_3 lX3_howSure (by decide +kernel)
theorem dX3_howSure_1 : decode cX3_howSure 1 = .ok (.istore_n 3, 1) := op_62 lX3_howSure (by decide +kernel)
theorem dX3_howSure_2 : decode cX3_howSure 2 = .ok (.iconst 0, 1) := op_3 lX3_howSure (by decide +kernel)
theorem dX3_howSure_3 : decode cX3_howSure 3 = .ok (.istore 4, 2) := op_54 lX3_howSure (by decide +kernel)
theorem dX3_howSure_5 : decode cX3_howSure 5 = .ok (.iload 4, 2) := op_21 lX3_howSure (by decide +kernel)
theorem dX3_howSure_7 : decode cX3_howSure 7 = .ok (.aload_n 0, 1) := op_42 lX3_howSure (by decide +kernel)
theorem dX3_howSure_8 : decode cX3_howSure 8 = .ok (.getfield 18, 3) := op_180 lX3_howSure 0 18 (by decide +kernel)
theorem dX3_howSure_11 : decode cX3_howSure 11 = .ok (.if_icmp .ge 31, 3) := op_162 lX3_howSure 0 31 (by decide +kernel)
theorem dX3_howSure_14 : decode cX3_howSure 14 = .ok (.aload_n 1, 1) := op_43 lX3_howSure (by decide +kernel)
theorem dX3_howSure_15 : decode cX3_howSure 15 = .ok (.aload_n 1, 1) := op_43 lX3_howSure (by decide +kernel)
theorem dX3_howSure_16 : decode cX3_howSure 16 = .ok (.aload_n 0, 1) := op_42 lX3_howSure (by decide +kernel)
theorem dX3_howSure_17 : decode cX3_howSure 17 = .ok (.getfield 9, 3) := op_180 lX3_howSure 0 9 (by decide +kernel)
theorem dX3_howSure_20 : decode cX3_howSure 20 = .ok (.iload 4, 2) := op_21 lX3_howSure (by decide +kernel)
theorem dX3_howSure_22 : decode cX3_howSure 22 = .ok (.iaload, 1) := op_46 lX3_howSure (by decide +kernel)
theorem dX3_howSure_23 : decode cX3_howSure 23 = .ok (.invokevirtual 34, 3) := op_182 lX3_howSure 0 34 (by decide +kernel)
theorem dX3_howSure_26 : decode cX3_howSure 26 = .ok (.iload_n 2, 1) := op_28 lX3_howSure (by decide +kernel)
theorem dX3_howSure_27 : decode cX3_howSure 27 = .ok (.invokevirtual 42, 3) := op_182 lX3_howSure 0 42 (by decide +kernel)
theorem dX3_howSure_30 : decode cX3_howSure 30 = .ok (.ifCond .eq 6, 3) := op_153 lX3_howSure 0 6 (by decide +kernel)
theorem dX3_howSure_33 : decode cX3_howSure 33 = .ok (.iinc 3 1, 3) := op_132 lX3_howSure 1 (by decide +kernel)
theorem dX3_howSure_36 : decode cX3_howSure 36 = .ok (.iinc 4 1, 3) := op_132 lX3_howSure 1 (by decide +kernel)
theorem dX3_howSure_39 : decode cX3_howSure 39 = .ok (.goto (-34), 3) := op_167 lX3_howSure 255 222 (by decide +kernel)
theorem dX3_howSure_42 : decode cX3_howSure 42 = .ok (.aload_n 0, 1) := op_42 lX3_howSure (by decide +kernel)
theorem dX3_howSure_43 : decode cX3_howSure 43 = .ok (.getfield 18, 3) := op_180 lX3_howSure 0 18 (by decide +kernel)
theorem dX3_howSure_46 : decode cX3_howSure 46 = .ok (.ifCond .ne 5, 3) := op_154 lX3_howSure 0 5 (by decide +kernel)
theorem dX3_howSure_49 : decode cX3_howSure 49 = .ok (.iconst (-1), 1) := op_2 lX3_howSure (by decide +kernel)
theorem dX3_howSure_50 : decode cX3_howSure 50 = .ok (.ireturn, 1) := op_172 lX3_howSure (by decide +kernel)
theorem dX3_howSure_51 : decode cX3_howSure 51 = .ok (.iload_n 3, 1) := op_29 lX3_howSure (by decide +kernel)
theorem dX3_howSure_52 : decode cX3_howSure 52 = .ok (.aload_n 0, 1) := op_42 lX3_howSure (by decide +kernel)
theorem dX3_howSure_53 : decode cX3_howSure 53 = .ok (.getfield 18, 3) := op_180 lX3_howSure 0 18 (by decide +kernel)
theorem dX3_howSure_56 : decode cX3_howSure 56 = .ok (.if_icmp .ne 7, 3) := op_160 lX3_howSure 0 7 (by decide +kernel)
theorem dX3_howSure_59 : decode cX3_howSure 59 = .ok (.iconst 1, 1) := op_4 lX3_howSure (by decide +kernel)
theorem dX3_howSure_60 : decode cX3_howSure 60 = .ok (.goto 12, 3) := op_167 lX3_howSure 0 12 (by decide +kernel)
theorem dX3_howSure_63 : decode cX3_howSure 63 = .ok (.iload_n 3, 1) := op_29 lX3_howSure (by decide +kernel)
theorem dX3_howSure_64 : decode cX3_howSure 64 = .ok (.ifCond .ne 7, 3) := op_154 lX3_howSure 0 7 (by decide +kernel)
theorem dX3_howSure_67 : decode cX3_howSure 67 = .ok (.iconst 0, 1) := op_3 lX3_howSure (by decide +kernel)
theorem dX3_howSure_68 : decode cX3_howSure 68 = .ok (.goto 4, 3) := op_167 lX3_howSure 0 4 (by decide +kernel)
theorem dX3_howSure_71 : decode cX3_howSure 71 = .ok (.iconst 2, 1) := op_5 lX3_howSure (by decide +kernel)
theorem dX3_howSure_72 : decode cX3_howSure 72 = .ok (.ireturn, 1) := op_172 lX3_howSure (by decide +kernel)
def nX3_bestQuestion : Nat := 0xac1cd1ffa70104843d3b00b604152b3e05150d00a21d051505363700b63400b604152b3100b604152b2b2a2c00a22e00b62b04150436033e1200b42a3d02
theorem lX3_bestQuestion : cX3_bestQuestion.data.toList = unp nX3_bestQuestion 62 0 := by decide +kernel
theorem dX3_bestQuestion_0 : decode cX3_bestQuestion 0 = .ok (.iconst (-1), 1) := op_2 lX3_bestQuestion (by decide +kernel)
theorem dX3_bestQuestion_1 : decode cX3_bestQuestion 1 = .ok (.istore_n 2, 1) := op_61 lX3_bestQuestion (by decide +kernel)
theorem dX3_bestQuestion_2 : decode cX3_bestQuestion 2 = .ok (.aload_n 0, 1) := op_42 lX3_bestQuestion (by decide +kernel)
theorem dX3_bestQuestion_3 : decode cX3_bestQuestion 3 = .ok (.getfield 18, 3) := op_180 lX3_bestQuestion 0 18 (by decide +kernel)
theorem dX3_bestQuestion_6 : decode cX3_bestQuestion 6 = .ok (.istore_n 3, 1) := op_62 lX3_bestQuestion (by decide +kernel)
theorem dX3_bestQuestion_7 : decode cX3_bestQuestion 7 = .ok (.iconst 0, 1) := op_3 lX3_bestQuestion (by decide +kernel)
theorem dX3_bestQuestion_8 : decode cX3_bestQuestion 8 = .ok (.istore 4, 2) := op_54 lX3_bestQuestion (by decide +kernel)
theorem dX3_bestQuestion_10 : decode cX3_bestQuestion 10 = .ok (.iload 4, 2) := op_21 lX3_bestQuestion (by decide +kernel)
theorem dX3_bestQuestion_12 : decode cX3_bestQuestion 12 = .ok (.aload_n 1, 1) := op_43 lX3_bestQuestion (by decide +kernel)
theorem dX3_bestQuestion_13 : decode cX3_bestQuestion 13 = .ok (.invokevirtual 46, 3) := op_182 lX3_bestQuestion 0 46 (by decide +kernel)
theorem dX3_bestQuestion_16 : decode cX3_bestQuestion 16 = .ok (.if_icmp .ge 44, 3) := op_162 lX3_bestQuestion 0 44 (by decide +kernel)
theorem dX3_bestQuestion_19 : decode cX3_bestQuestion 19 = .ok (.aload_n 0, 1) := op_42 lX3_bestQuestion (by decide +kernel)
theorem dX3_bestQuestion_20 : decode cX3_bestQuestion 20 = .ok (.aload_n 1, 1) := op_43 lX3_bestQuestion (by decide +kernel)
theorem dX3_bestQuestion_21 : decode cX3_bestQuestion 21 = .ok (.aload_n 1, 1) := op_43 lX3_bestQuestion (by decide +kernel)
theorem dX3_bestQuestion_22 : decode cX3_bestQuestion 22 = .ok (.iload 4, 2) := op_21 lX3_bestQuestion (by decide +kernel)
theorem dX3_bestQuestion_24 : decode cX3_bestQuestion 24 = .ok (.invokevirtual 49, 3) := op_182 lX3_bestQuestion 0 49 (by decide +kernel)
theorem dX3_bestQuestion_27 : decode cX3_bestQuestion 27 = .ok (.aload_n 1, 1) := op_43 lX3_bestQuestion (by decide +kernel)
theorem dX3_bestQuestion_28 : decode cX3_bestQuestion 28 = .ok (.iload 4, 2) := op_21 lX3_bestQuestion (by decide +kernel)
theorem dX3_bestQuestion_30 : decode cX3_bestQuestion 30 = .ok (.invokevirtual 52, 3) := op_182 lX3_bestQuestion 0 52 (by decide +kernel)
theorem dX3_bestQuestion_33 : decode cX3_bestQuestion 33 = .ok (.invokevirtual 55, 3) := op_182 lX3_bestQuestion 0 55 (by decide +kernel)
theorem dX3_bestQuestion_36 : decode cX3_bestQuestion 36 = .ok (.istore 5, 2) := op_54 lX3_bestQuestion (by decide +kernel)
theorem dX3_bestQuestion_38 : decode cX3_bestQuestion 38 = .ok (.iload 5, 2) := op_21 lX3_bestQuestion (by decide +kernel)
theorem dX3_bestQuestion_40 : decode cX3_bestQuestion 40 = .ok (.iload_n 3, 1) := op_29 lX3_bestQuestion (by decide +kernel)
theorem dX3_bestQuestion_41 : decode cX3_bestQuestion 41 = .ok (.if_icmp .ge 13, 3) := op_162 lX3_bestQuestion 0 13 (by decide +kernel)
theorem dX3_bestQuestion_44 : decode cX3_bestQuestion 44 = .ok (.iload 5, 2) := op_21 lX3_bestQuestion (by decide +kernel)
theorem dX3_bestQuestion_46 : decode cX3_bestQuestion 46 = .ok (.istore_n 3, 1) := op_62 lX3_bestQuestion (by decide +kernel)
theorem dX3_bestQuestion_47 : decode cX3_bestQuestion 47 = .ok (.aload_n 1, 1) := op_43 lX3_bestQuestion (by decide +kernel)
theorem dX3_bestQuestion_48 : decode cX3_bestQuestion 48 = .ok (.iload 4, 2) := op_21 lX3_bestQuestion (by decide +kernel)
theorem dX3_bestQuestion_50 : decode cX3_bestQuestion 50 = .ok (.invokevirtual 59, 3) := op_182 lX3_bestQuestion 0 59 (by decide +kernel)
theorem dX3_bestQuestion_53 : decode cX3_bestQuestion 53 = .ok (.istore_n 2, 1) := op_61 lX3_bestQuestion (by decide +kernel)
theorem dX3_bestQuestion_54 : decode cX3_bestQuestion 54 = .ok (.iinc 4 1, 3) := op_132 lX3_bestQuestion 1 (by decide +kernel)
theorem dX3_bestQuestion_57 : decode cX3_bestQuestion 57 = .ok (.goto (-47), 3) := op_167 lX3_bestQuestion 255 209 (by decide +kernel)
theorem dX3_bestQuestion_60 : decode cX3_bestQuestion 60 = .ok (.iload_n 2, 1) := op_28 lX3_bestQuestion (by decide +kernel)
theorem dX3_bestQuestion_61 : decode cX3_bestQuestion 61 = .ok (.ireturn, 1) := op_172 lX3_bestQuestion (by decide +kernel)
def nX3_mostAgreeing : Nat := 0xac0415bcffa701058404364200b82e06150f00b42a04154f60042e5c06150f00b42a1c00a31510061523009b061506363e00b61d1c2200b62e05150900b42a2b2b4100a21200b42a0515053603043603eeffa70104844f0304150f00b42a1100a315100415043603
theorem lX3_mostAgreeing : cX3_mostAgreeing.data.toList = unp nX3_mostAgreeing 104 0 := by decide +kernel
theorem dX3_mostAgreeing_0 : decode cX3_mostAgreeing 0 = .ok (.iconst 0, 1) := op_3 lX3_mostAgreeing (by decide +kernel)
theorem dX3_mostAgreeing_1 : decode cX3_mostAgreeing 1 = .ok (.istore 4, 2) := op_54 lX3_mostAgreeing (by decide +kernel)
theorem dX3_mostAgreeing_3 : decode cX3_mostAgreeing 3 = .ok (.iload 4, 2) := op_21 lX3_mostAgreeing (by decide +kernel)
theorem dX3_mostAgreeing_5 : decode cX3_mostAgreeing 5 = .ok (.bipush 21, 2) := op_16 lX3_mostAgreeing 21 (by decide +kernel)
theorem dX3_mostAgreeing_7 : decode cX3_mostAgreeing 7 = .ok (.if_icmp .gt 17, 3) := op_163 lX3_mostAgreeing 0 17 (by decide +kernel)
theorem dX3_mostAgreeing_10 : decode cX3_mostAgreeing 10 = .ok (.aload_n 0, 1) := op_42 lX3_mostAgreeing (by decide +kernel)
theorem dX3_mostAgreeing_11 : decode cX3_mostAgreeing 11 = .ok (.getfield 15, 3) := op_180 lX3_mostAgreeing 0 15 (by decide +kernel)
theorem dX3_mostAgreeing_14 : decode cX3_mostAgreeing 14 = .ok (.iload 4, 2) := op_21 lX3_mostAgreeing (by decide +kernel)
theorem dX3_mostAgreeing_16 : decode cX3_mostAgreeing 16 = .ok (.iconst 0, 1) := op_3 lX3_mostAgreeing (by decide +kernel)
theorem dX3_mostAgreeing_17 : decode cX3_mostAgreeing 17 = .ok (.iastore, 1) := op_79 lX3_mostAgreeing (by decide +kernel)
theorem dX3_mostAgreeing_18 : decode cX3_mostAgreeing 18 = .ok (.iinc 4 1, 3) := op_132 lX3_mostAgreeing 1 (by decide +kernel)
theorem dX3_mostAgreeing_21 : decode cX3_mostAgreeing 21 = .ok (.goto (-18), 3) := op_167 lX3_mostAgreeing 255 238 (by decide +kernel)
theorem dX3_mostAgreeing_24 : decode cX3_mostAgreeing 24 = .ok (.iconst 0, 1) := op_3 lX3_mostAgreeing (by decide +kernel)
theorem dX3_mostAgreeing_25 : decode cX3_mostAgreeing 25 = .ok (.istore 4, 2) := op_54 lX3_mostAgreeing (by decide +kernel)
theorem dX3_mostAgreeing_27 : decode cX3_mostAgreeing 27 = .ok (.iconst 0, 1) := op_3 lX3_mostAgreeing (by decide +kernel)
theorem dX3_mostAgreeing_28 : decode cX3_mostAgreeing 28 = .ok (.istore 5, 2) := op_54 lX3_mostAgreeing (by decide +kernel)
theorem dX3_mostAgreeing_30 : decode cX3_mostAgreeing 30 = .ok (.iload 5, 2) := op_21 lX3_mostAgreeing (by decide +kernel)
theorem dX3_mostAgreeing_32 : decode cX3_mostAgreeing 32 = .ok (.aload_n 0, 1) := op_42 lX3_mostAgreeing (by decide +kernel)
theorem dX3_mostAgreeing_33 : decode cX3_mostAgreeing 33 = .ok (.getfield 18, 3) := op_180 lX3_mostAgreeing 0 18 (by decide +kernel)
theorem dX3_mostAgreeing_36 : decode cX3_mostAgreeing 36 = .ok (.if_icmp .ge 65, 3) := op_162 lX3_mostAgreeing 0 65 (by decide +kernel)
theorem dX3_mostAgreeing_39 : decode cX3_mostAgreeing 39 = .ok (.aload_n 1, 1) := op_43 lX3_mostAgreeing (by decide +kernel)
theorem dX3_mostAgreeing_40 : decode cX3_mostAgreeing 40 = .ok (.aload_n 1, 1) := op_43 lX3_mostAgreeing (by decide +kernel)
theorem dX3_mostAgreeing_41 : decode cX3_mostAgreeing 41 = .ok (.aload_n 0, 1) := op_42 lX3_mostAgreeing (by decide +kernel)
theorem dX3_mostAgreeing_42 : decode cX3_mostAgreeing 42 = .ok (.getfield 9, 3) := op_180 lX3_mostAgreeing 0 9 (by decide +kernel)
theorem dX3_mostAgreeing_45 : decode cX3_mostAgreeing 45 = .ok (.iload 5, 2) := op_21 lX3_mostAgreeing (by decide +kernel)
theorem dX3_mostAgreeing_47 : decode cX3_mostAgreeing 47 = .ok (.iaload, 1) := op_46 lX3_mostAgreeing (by decide +kernel)
theorem dX3_mostAgreeing_48 : decode cX3_mostAgreeing 48 = .ok (.invokevirtual 34, 3) := op_182 lX3_mostAgreeing 0 34 (by decide +kernel)
theorem dX3_mostAgreeing_51 : decode cX3_mostAgreeing 51 = .ok (.iload_n 2, 1) := op_28 lX3_mostAgreeing (by decide +kernel)
theorem dX3_mostAgreeing_52 : decode cX3_mostAgreeing 52 = .ok (.iload_n 3, 1) := op_29 lX3_mostAgreeing (by decide +kernel)
theorem dX3_mostAgreeing_53 : decode cX3_mostAgreeing 53 = .ok (.invokevirtual 62, 3) := op_182 lX3_mostAgreeing 0 62 (by decide +kernel)
theorem dX3_mostAgreeing_56 : decode cX3_mostAgreeing 56 = .ok (.istore 6, 2) := op_54 lX3_mostAgreeing (by decide +kernel)
theorem dX3_mostAgreeing_58 : decode cX3_mostAgreeing 58 = .ok (.iload 6, 2) := op_21 lX3_mostAgreeing (by decide +kernel)
theorem dX3_mostAgreeing_60 : decode cX3_mostAgreeing 60 = .ok (.ifCond .lt 35, 3) := op_155 lX3_mostAgreeing 0 35 (by decide +kernel)
theorem dX3_mostAgreeing_63 : decode cX3_mostAgreeing 63 = .ok (.iload 6, 2) := op_21 lX3_mostAgreeing (by decide +kernel)
theorem dX3_mostAgreeing_65 : decode cX3_mostAgreeing 65 = .ok (.bipush 21, 2) := op_16 lX3_mostAgreeing 21 (by decide +kernel)
theorem dX3_mostAgreeing_67 : decode cX3_mostAgreeing 67 = .ok (.if_icmp .gt 28, 3) := op_163 lX3_mostAgreeing 0 28 (by decide +kernel)
theorem dX3_mostAgreeing_70 : decode cX3_mostAgreeing 70 = .ok (.aload_n 0, 1) := op_42 lX3_mostAgreeing (by decide +kernel)
theorem dX3_mostAgreeing_71 : decode cX3_mostAgreeing 71 = .ok (.getfield 15, 3) := op_180 lX3_mostAgreeing 0 15 (by decide +kernel)
theorem dX3_mostAgreeing_74 : decode cX3_mostAgreeing 74 = .ok (.iload 6, 2) := op_21 lX3_mostAgreeing (by decide +kernel)
theorem dX3_mostAgreeing_76 : decode cX3_mostAgreeing 76 = .ok (.dup2, 1) := op_92 lX3_mostAgreeing (by decide +kernel)
theorem dX3_mostAgreeing_77 : decode cX3_mostAgreeing 77 = .ok (.iaload, 1) := op_46 lX3_mostAgreeing (by decide +kernel)
theorem dX3_mostAgreeing_78 : decode cX3_mostAgreeing 78 = .ok (.iconst 1, 1) := op_4 lX3_mostAgreeing (by decide +kernel)
theorem dX3_mostAgreeing_79 : decode cX3_mostAgreeing 79 = .ok (.iadd, 1) := op_96 lX3_mostAgreeing (by decide +kernel)
theorem dX3_mostAgreeing_80 : decode cX3_mostAgreeing 80 = .ok (.iastore, 1) := op_79 lX3_mostAgreeing (by decide +kernel)
theorem dX3_mostAgreeing_81 : decode cX3_mostAgreeing 81 = .ok (.iload 4, 2) := op_21 lX3_mostAgreeing (by decide +kernel)
theorem dX3_mostAgreeing_83 : decode cX3_mostAgreeing 83 = .ok (.aload_n 0, 1) := op_42 lX3_mostAgreeing (by decide +kernel)
theorem dX3_mostAgreeing_84 : decode cX3_mostAgreeing 84 = .ok (.getfield 15, 3) := op_180 lX3_mostAgreeing 0 15 (by decide +kernel)
theorem dX3_mostAgreeing_87 : decode cX3_mostAgreeing 87 = .ok (.iload 6, 2) := op_21 lX3_mostAgreeing (by decide +kernel)
theorem dX3_mostAgreeing_89 : decode cX3_mostAgreeing 89 = .ok (.iaload, 1) := op_46 lX3_mostAgreeing (by decide +kernel)
theorem dX3_mostAgreeing_90 : decode cX3_mostAgreeing 90 = .ok (.invokestatic 66, 3) := op_184 lX3_mostAgreeing 0 66 (by decide +kernel)
theorem dX3_mostAgreeing_93 : decode cX3_mostAgreeing 93 = .ok (.istore 4, 2) := op_54 lX3_mostAgreeing (by decide +kernel)
theorem dX3_mostAgreeing_95 : decode cX3_mostAgreeing 95 = .ok (.iinc 5 1, 3) := op_132 lX3_mostAgreeing 1 (by decide +kernel)
theorem dX3_mostAgreeing_98 : decode cX3_mostAgreeing 98 = .ok (.goto (-68), 3) := op_167 lX3_mostAgreeing 255 188 (by decide +kernel)
theorem dX3_mostAgreeing_101 : decode cX3_mostAgreeing 101 = .ok (.iload 4, 2) := op_21 lX3_mostAgreeing (by decide +kernel)
theorem dX3_mostAgreeing_103 : decode cX3_mostAgreeing 103 = .ok (.ireturn, 1) := op_172 lX3_mostAgreeing (by decide +kernel)
end

section
def nX4_init : Nat := 0xb11200b50abcad01112a0f00b50abcad01112a0900b50abcad01112a0300b72a
theorem lX4_init : cX4_init.data.toList = unp nX4_init 32 0 := by decide +kernel
theorem dX4_init_0 : decode cX4_init 0 = .ok (.aload_n 0, 1) := op_42 lX4_init (by decide +kernel)
theorem dX4_init_1 : decode cX4_init 1 = .ok (.invokespecial 3, 3) := op_183 lX4_init 0 3 (by decide +kernel)
theorem dX4_init_4 : decode cX4_init 4 = .ok (.aload_n 0, 1) := op_42 lX4_init (by decide +kernel)
theorem dX4_init_5 : decode cX4_init 5 = .ok (.sipush 429, 3) := op_17 lX4_init 1 173 (by decide +kernel)
theorem dX4_init_8 : decode cX4_init 8 = .ok (.newarray .int, 2) := by decide +kernel
theorem dX4_init_10 : decode cX4_init 10 = .ok (.putfield 9, 3) := op_181 lX4_init 0 9 (by decide +kernel)
theorem dX4_init_13 : decode cX4_init 13 = .ok (.aload_n 0, 1) := op_42 lX4_init (by decide +kernel)
theorem dX4_init_14 : decode cX4_init 14 = .ok (.sipush 429, 3) := op_17 lX4_init 1 173 (by decide +kernel)
theorem dX4_init_17 : decode cX4_init 17 = .ok (.newarray .int, 2) := by decide +kernel
theorem dX4_init_19 : decode cX4_init 19 = .ok (.putfield 15, 3) := op_181 lX4_init 0 15 (by decide +kernel)
theorem dX4_init_22 : decode cX4_init 22 = .ok (.aload_n 0, 1) := op_42 lX4_init (by decide +kernel)
theorem dX4_init_23 : decode cX4_init 23 = .ok (.sipush 429, 3) := op_17 lX4_init 1 173 (by decide +kernel)
theorem dX4_init_26 : decode cX4_init 26 = .ok (.newarray .int, 2) := by decide +kernel
theorem dX4_init_28 : decode cX4_init 28 = .ok (.putfield 18, 3) := op_181 lX4_init 0 18 (by decide +kernel)
theorem dX4_init_31 : decode cX4_init 31 = .ok (.return_, 1) := op_177 lX4_init (by decide +kernel)
def nX4_measure : Nat := 0xb1b8ffa7010384dcffa70105841900b660042b00b62e1d0f00b42a2a2700b6051504152b2a2100a22300b62b051505360304361d00b62e1d0f00b42a2b3f00a2ad01111d4600a21500b42a1d3e031900b6031c2a1500b5032aefffa70103844f021d0900b42a1000a2ad01111d3e03
theorem lX4_measure : cX4_measure.data.toList = unp nX4_measure 111 0 := by decide +kernel
theorem dX4_measure_0 : decode cX4_measure 0 = .ok (.iconst 0, 1) := op_3 lX4_measure (by decide +kernel)
theorem dX4_measure_1 : decode cX4_measure 1 = .ok (.istore_n 3, 1) := op_62 lX4_measure (by decide +kernel)
theorem dX4_measure_2 : decode cX4_measure 2 = .ok (.iload_n 3, 1) := op_29 lX4_measure (by decide +kernel)
theorem dX4_measure_3 : decode cX4_measure 3 = .ok (.sipush 429, 3) := op_17 lX4_measure 1 173 (by decide +kernel)
theorem dX4_measure_6 : decode cX4_measure 6 = .ok (.if_icmp .ge 16, 3) := op_162 lX4_measure 0 16 (by decide +kernel)
theorem dX4_measure_9 : decode cX4_measure 9 = .ok (.aload_n 0, 1) := op_42 lX4_measure (by decide +kernel)
theorem dX4_measure_10 : decode cX4_measure 10 = .ok (.getfield 9, 3) := op_180 lX4_measure 0 9 (by decide +kernel)
theorem dX4_measure_13 : decode cX4_measure 13 = .ok (.iload_n 3, 1) := op_29 lX4_measure (by decide +kernel)
theorem dX4_measure_14 : decode cX4_measure 14 = .ok (.iconst (-1), 1) := op_2 lX4_measure (by decide +kernel)
theorem dX4_measure_15 : decode cX4_measure 15 = .ok (.iastore, 1) := op_79 lX4_measure (by decide +kernel)
theorem dX4_measure_16 : decode cX4_measure 16 = .ok (.iinc 3 1, 3) := op_132 lX4_measure 1 (by decide +kernel)
theorem dX4_measure_19 : decode cX4_measure 19 = .ok (.goto (-17), 3) := op_167 lX4_measure 255 239 (by decide +kernel)
theorem dX4_measure_22 : decode cX4_measure 22 = .ok (.aload_n 0, 1) := op_42 lX4_measure (by decide +kernel)
theorem dX4_measure_23 : decode cX4_measure 23 = .ok (.iconst 0, 1) := op_3 lX4_measure (by decide +kernel)
theorem dX4_measure_24 : decode cX4_measure 24 = .ok (.putfield 21, 3) := op_181 lX4_measure 0 21 (by decide +kernel)
theorem dX4_measure_27 : decode cX4_measure 27 = .ok (.aload_n 0, 1) := op_42 lX4_measure (by decide +kernel)
theorem dX4_measure_28 : decode cX4_measure 28 = .ok (.iload_n 2, 1) := op_28 lX4_measure (by decide +kernel)
theorem dX4_measure_29 : decode cX4_measure 29 = .ok (.iconst 0, 1) := op_3 lX4_measure (by decide +kernel)
theorem dX4_measure_30 : decode cX4_measure 30 = .ok (.invokevirtual 25, 3) := op_182 lX4_measure 0 25 (by decide +kernel)
theorem dX4_measure_33 : decode cX4_measure 33 = .ok (.iconst 0, 1) := op_3 lX4_measure (by decide +kernel)
theorem dX4_measure_34 : decode cX4_measure 34 = .ok (.istore_n 3, 1) := op_62 lX4_measure (by decide +kernel)
theorem dX4_measure_35 : decode cX4_measure 35 = .ok (.iload_n 3, 1) := op_29 lX4_measure (by decide +kernel)
theorem dX4_measure_36 : decode cX4_measure 36 = .ok (.aload_n 0, 1) := op_42 lX4_measure (by decide +kernel)
theorem dX4_measure_37 : decode cX4_measure 37 = .ok (.getfield 21, 3) := op_180 lX4_measure 0 21 (by decide +kernel)
theorem dX4_measure_40 : decode cX4_measure 40 = .ok (.if_icmp .ge 70, 3) := op_162 lX4_measure 0 70 (by decide +kernel)
theorem dX4_measure_43 : decode cX4_measure 43 = .ok (.iload_n 3, 1) := op_29 lX4_measure (by decide +kernel)
theorem dX4_measure_44 : decode cX4_measure 44 = .ok (.sipush 429, 3) := op_17 lX4_measure 1 173 (by decide +kernel)
theorem dX4_measure_47 : decode cX4_measure 47 = .ok (.if_icmp .ge 63, 3) := op_162 lX4_measure 0 63 (by decide +kernel)
theorem dX4_measure_50 : decode cX4_measure 50 = .ok (.aload_n 1, 1) := op_43 lX4_measure (by decide +kernel)
theorem dX4_measure_51 : decode cX4_measure 51 = .ok (.aload_n 0, 1) := op_42 lX4_measure (by decide +kernel)
theorem dX4_measure_52 : decode cX4_measure 52 = .ok (.getfield 15, 3) := op_180 lX4_measure 0 15 (by decide +kernel)
theorem dX4_measure_55 : decode cX4_measure 55 = .ok (.iload_n 3, 1) := op_29 lX4_measure (by decide +kernel)
theorem dX4_measure_56 : decode cX4_measure 56 = .ok (.iaload, 1) := op_46 lX4_measure (by decide +kernel)
theorem dX4_measure_57 : decode cX4_measure 57 = .ok (.invokevirtual 29, 3) := op_182 lX4_measure 0 29 (by decide +kernel)
theorem dX4_measure_60 : decode cX4_measure 60 = .ok (.istore 4, 2) := op_54 lX4_measure (by decide +kernel)
theorem dX4_measure_62 : decode cX4_measure 62 = .ok (.iconst 0, 1) := op_3 lX4_measure (by decide +kernel)
theorem dX4_measure_63 : decode cX4_measure 63 = .ok (.istore 5, 2) := op_54 lX4_measure (by decide +kernel)
theorem dX4_measure_65 : decode cX4_measure 65 = .ok (.iload 5, 2) := op_21 lX4_measure (by decide +kernel)
theorem dX4_measure_67 : decode cX4_measure 67 = .ok (.aload_n 1, 1) := op_43 lX4_measure (by decide +kernel)
theorem dX4_measure_68 : decode cX4_measure 68 = .ok (.invokevirtual 35, 3) := op_182 lX4_measure 0 35 (by decide +kernel)
theorem dX4_measure_71 : decode cX4_measure 71 = .ok (.if_icmp .ge 33, 3) := op_162 lX4_measure 0 33 (by decide +kernel)
theorem dX4_measure_74 : decode cX4_measure 74 = .ok (.aload_n 0, 1) := op_42 lX4_measure (by decide +kernel)
theorem dX4_measure_75 : decode cX4_measure 75 = .ok (.aload_n 1, 1) := op_43 lX4_measure (by decide +kernel)
theorem dX4_measure_76 : decode cX4_measure 76 = .ok (.iload 4, 2) := op_21 lX4_measure (by decide +kernel)
theorem dX4_measure_78 : decode cX4_measure 78 = .ok (.iload 5, 2) := op_21 lX4_measure (by decide +kernel)
theorem dX4_measure_80 : decode cX4_measure 80 = .ok (.invokevirtual 39, 3) := op_182 lX4_measure 0 39 (by decide +kernel)
theorem dX4_measure_83 : decode cX4_measure 83 = .ok (.aload_n 0, 1) := op_42 lX4_measure (by decide +kernel)
theorem dX4_measure_84 : decode cX4_measure 84 = .ok (.aload_n 0, 1) := op_42 lX4_measure (by decide +kernel)
theorem dX4_measure_85 : decode cX4_measure 85 = .ok (.getfield 15, 3) := op_180 lX4_measure 0 15 (by decide +kernel)
theorem dX4_measure_88 : decode cX4_measure 88 = .ok (.iload_n 3, 1) := op_29 lX4_measure (by decide +kernel)
theorem dX4_measure_89 : decode cX4_measure 89 = .ok (.iaload, 1) := op_46 lX4_measure (by decide +kernel)
theorem dX4_measure_90 : decode cX4_measure 90 = .ok (.invokevirtual 43, 3) := op_182 lX4_measure 0 43 (by decide +kernel)
theorem dX4_measure_93 : decode cX4_measure 93 = .ok (.iconst 1, 1) := op_4 lX4_measure (by decide +kernel)
theorem dX4_measure_94 : decode cX4_measure 94 = .ok (.iadd, 1) := op_96 lX4_measure (by decide +kernel)
theorem dX4_measure_95 : decode cX4_measure 95 = .ok (.invokevirtual 25, 3) := op_182 lX4_measure 0 25 (by decide +kernel)
theorem dX4_measure_98 : decode cX4_measure 98 = .ok (.iinc 5 1, 3) := op_132 lX4_measure 1 (by decide +kernel)
theorem dX4_measure_101 : decode cX4_measure 101 = .ok (.goto (-36), 3) := op_167 lX4_measure 255 220 (by decide +kernel)
theorem dX4_measure_104 : decode cX4_measure 104 = .ok (.iinc 3 1, 3) := op_132 lX4_measure 1 (by decide +kernel)
theorem dX4_measure_107 : decode cX4_measure 107 = .ok (.goto (-72), 3) := op_167 lX4_measure 255 184 (by decide +kernel)
theorem dX4_measure_110 : decode cX4_measure 110 = .ok (.return_, 1) := op_177 lX4_measure (by decide +kernel)
def nX4_comeTo : Nat := 0xb11500b560041500b4592a4f1b1500b42a0f00b42a4f1c1b0900b42a1e00a2ad01111500b42a2800a0022e1b0900b42a3200a2ad01111b39009b1b
theorem lX4_comeTo : cX4_comeTo.data.toList = unp nX4_comeTo 59 0 := by decide +kernel
theorem dX4_comeTo_0 : decode cX4_comeTo 0 = .ok (.iload_n 1, 1) := op_27 lX4_comeTo (by decide +kernel)
theorem dX4_comeTo_1 : decode cX4_comeTo 1 = .ok (.ifCond .lt 57, 3) := op_155 lX4_comeTo 0 57 (by decide +kernel)
theorem dX4_comeTo_4 : decode cX4_comeTo 4 = .ok (.iload_n 1, 1) := op_27 lX4_comeTo (by decide +kernel)
theorem dX4_comeTo_5 : decode cX4_comeTo 5 = .ok (.sipush 429, 3) := op_17 lX4_comeTo 1 173 (by decide +kernel)
theorem dX4_comeTo_8 : decode cX4_comeTo 8 = .ok (.if_icmp .ge 50, 3) := op_162 lX4_comeTo 0 50 (by decide +kernel)
theorem dX4_comeTo_11 : decode cX4_comeTo 11 = .ok (.aload_n 0, 1) := op_42 lX4_comeTo (by decide +kernel)
theorem dX4_comeTo_12 : decode cX4_comeTo 12 = .ok (.getfield 9, 3) := op_180 lX4_comeTo 0 9 (by decide +kernel)
theorem dX4_comeTo_15 : decode cX4_comeTo 15 = .ok (.iload_n 1, 1) := op_27 lX4_comeTo (by decide +kernel)
theorem dX4_comeTo_16 : decode cX4_comeTo 16 = .ok (.iaload, 1) := op_46 lX4_comeTo (by decide +kernel)
theorem dX4_comeTo_17 : decode cX4_comeTo 17 = .ok (.iconst (-1), 1) := op_2 lX4_comeTo (by decide +kernel)
theorem dX4_comeTo_18 : decode cX4_comeTo 18 = .ok (.if_icmp .ne 40, 3) := op_160 lX4_comeTo 0 40 (by decide +kernel)
theorem dX4_comeTo_21 : decode cX4_comeTo 21 = .ok (.aload_n 0, 1) := op_42 lX4_comeTo (by decide +kernel)
theorem dX4_comeTo_22 : decode cX4_comeTo 22 = .ok (.getfield 21, 3) := op_180 lX4_comeTo 0 21 (by decide +kernel)
theorem dX4_comeTo_25 : decode cX4_comeTo 25 = .ok (.sipush 429, 3) := op_17 lX4_comeTo 1 173 (by decide +kernel)
theorem dX4_comeTo_28 : decode cX4_comeTo 28 = .ok (.if_icmp .ge 30, 3) := op_162 lX4_comeTo 0 30 (by decide +kernel)
theorem dX4_comeTo_31 : decode cX4_comeTo 31 = .ok (.aload_n 0, 1) := op_42 lX4_comeTo (by decide +kernel)
theorem dX4_comeTo_32 : decode cX4_comeTo 32 = .ok (.getfield 9, 3) := op_180 lX4_comeTo 0 9 (by decide +kernel)
theorem dX4_comeTo_35 : decode cX4_comeTo 35 = .ok (.iload_n 1, 1) := op_27 lX4_comeTo (by decide +kernel)
theorem dX4_comeTo_36 : decode cX4_comeTo 36 = .ok (.iload_n 2, 1) := op_28 lX4_comeTo (by decide +kernel)
theorem dX4_comeTo_37 : decode cX4_comeTo 37 = .ok (.iastore, 1) := op_79 lX4_comeTo (by decide +kernel)
theorem dX4_comeTo_38 : decode cX4_comeTo 38 = .ok (.aload_n 0, 1) := op_42 lX4_comeTo (by decide +kernel)
theorem dX4_comeTo_39 : decode cX4_comeTo 39 = .ok (.getfield 15, 3) := op_180 lX4_comeTo 0 15 (by decide +kernel)
theorem dX4_comeTo_42 : decode cX4_comeTo 42 = .ok (.aload_n 0, 1) := op_42 lX4_comeTo (by decide +kernel)
theorem dX4_comeTo_43 : decode cX4_comeTo 43 = .ok (.getfield 21, 3) := op_180 lX4_comeTo 0 21 (by decide +kernel)
theorem dX4_comeTo_46 : decode cX4_comeTo 46 = .ok (.iload_n 1, 1) := op_27 lX4_comeTo (by decide +kernel)
theorem dX4_comeTo_47 : decode cX4_comeTo 47 = .ok (.iastore, 1) := op_79 lX4_comeTo (by decide +kernel)
theorem dX4_comeTo_48 : decode cX4_comeTo 48 = .ok (.aload_n 0, 1) := op_42 lX4_comeTo (by decide +kernel)
theorem dX4_comeTo_49 : decode cX4_comeTo 49 = .ok (.dup, 1) := op_89 lX4_comeTo (by decide +kernel)
theorem dX4_comeTo_50 : decode cX4_comeTo 50 = .ok (.getfield 21, 3) := op_180 lX4_comeTo 0 21 (by decide +kernel)
theorem dX4_comeTo_53 : decode cX4_comeTo 53 = .ok (.iconst 1, 1) := op_4 lX4_comeTo (by decide +kernel)
theorem dX4_comeTo_54 : decode cX4_comeTo 54 = .ok (.iadd, 1) := op_96 lX4_comeTo (by decide +kernel)
theorem dX4_comeTo_55 : decode cX4_comeTo 55 = .ok (.putfield 21, 3) := op_181 lX4_comeTo 0 21 (by decide +kernel)
theorem dX4_comeTo_58 : decode cX4_comeTo 58 = .ok (.return_, 1) := op_177 lX4_comeTo (by decide +kernel)
def nX4_stepsTo : Nat := 0xac020400a72e1b0900b42a0c00a2ad01111b13009b1b
theorem lX4_stepsTo : cX4_stepsTo.data.toList = unp nX4_stepsTo 22 0 := by decide +kernel
theorem dX4_stepsTo_0 : decode cX4_stepsTo 0 = .ok (.iload_n 1, 1) := op_27 lX4_stepsTo (by decide +kernel)
theorem dX4_stepsTo_1 : decode cX4_stepsTo 1 = .ok (.ifCond .lt 19, 3) := op_155 lX4_stepsTo 0 19 (by decide +kernel)
theorem dX4_stepsTo_4 : decode cX4_stepsTo 4 = .ok (.iload_n 1, 1) := op_27 lX4_stepsTo (by decide +kernel)
theorem dX4_stepsTo_5 : decode cX4_stepsTo 5 = .ok (.sipush 429, 3) := op_17 lX4_stepsTo 1 173 (by decide +kernel)
theorem dX4_stepsTo_8 : decode cX4_stepsTo 8 = .ok (.if_icmp .ge 12, 3) := op_162 lX4_stepsTo 0 12 (by decide +kernel)
theorem dX4_stepsTo_11 : decode cX4_stepsTo 11 = .ok (.aload_n 0, 1) := op_42 lX4_stepsTo (by decide +kernel)
theorem dX4_stepsTo_12 : decode cX4_stepsTo 12 = .ok (.getfield 9, 3) := op_180 lX4_stepsTo 0 9 (by decide +kernel)
theorem dX4_stepsTo_15 : decode cX4_stepsTo 15 = .ok (.iload_n 1, 1) := op_27 lX4_stepsTo (by decide +kernel)
theorem dX4_stepsTo_16 : decode cX4_stepsTo 16 = .ok (.iaload, 1) := op_46 lX4_stepsTo (by decide +kernel)
theorem dX4_stepsTo_17 : decode cX4_stepsTo 17 = .ok (.goto 4, 3) := op_167 lX4_stepsTo 0 4 (by decide +kernel)
theorem dX4_stepsTo_20 : decode cX4_stepsTo 20 = .ok (.iconst (-1), 1) := op_2 lX4_stepsTo (by decide +kernel)
theorem dX4_stepsTo_21 : decode cX4_stepsTo 21 = .ok (.ireturn, 1) := op_172 lX4_stepsTo (by decide +kernel)
def nX4_mostSteps : Nat := 0xac1cebffa70103843d3100b82b00b61d2a1c1300a22e00b62b1d3e033d03
theorem lX4_mostSteps : cX4_mostSteps.data.toList = unp nX4_mostSteps 30 0 := by decide +kernel
theorem dX4_mostSteps_0 : decode cX4_mostSteps 0 = .ok (.iconst 0, 1) := op_3 lX4_mostSteps (by decide +kernel)
theorem dX4_mostSteps_1 : decode cX4_mostSteps 1 = .ok (.istore_n 2, 1) := op_61 lX4_mostSteps (by decide +kernel)
theorem dX4_mostSteps_2 : decode cX4_mostSteps 2 = .ok (.iconst 0, 1) := op_3 lX4_mostSteps (by decide +kernel)
theorem dX4_mostSteps_3 : decode cX4_mostSteps 3 = .ok (.istore_n 3, 1) := op_62 lX4_mostSteps (by decide +kernel)
theorem dX4_mostSteps_4 : decode cX4_mostSteps 4 = .ok (.iload_n 3, 1) := op_29 lX4_mostSteps (by decide +kernel)
theorem dX4_mostSteps_5 : decode cX4_mostSteps 5 = .ok (.aload_n 1, 1) := op_43 lX4_mostSteps (by decide +kernel)
theorem dX4_mostSteps_6 : decode cX4_mostSteps 6 = .ok (.invokevirtual 46, 3) := op_182 lX4_mostSteps 0 46 (by decide +kernel)
theorem dX4_mostSteps_9 : decode cX4_mostSteps 9 = .ok (.if_icmp .ge 19, 3) := op_162 lX4_mostSteps 0 19 (by decide +kernel)
theorem dX4_mostSteps_12 : decode cX4_mostSteps 12 = .ok (.iload_n 2, 1) := op_28 lX4_mostSteps (by decide +kernel)
theorem dX4_mostSteps_13 : decode cX4_mostSteps 13 = .ok (.aload_n 0, 1) := op_42 lX4_mostSteps (by decide +kernel)
theorem dX4_mostSteps_14 : decode cX4_mostSteps 14 = .ok (.iload_n 3, 1) := op_29 lX4_mostSteps (by decide +kernel)
theorem dX4_mostSteps_15 : decode cX4_mostSteps 15 = .ok (.invokevirtual 43, 3) := op_182 lX4_mostSteps 0 43 (by decide +kernel)
theorem dX4_mostSteps_18 : decode cX4_mostSteps 18 = .ok (.invokestatic 49, 3) := op_184 lX4_mostSteps 0 49 (by decide +kernel)
theorem dX4_mostSteps_21 : decode cX4_mostSteps 21 = .ok (.istore_n 2, 1) := op_61 lX4_mostSteps (by decide +kernel)
theorem dX4_mostSteps_22 : decode cX4_mostSteps 22 = .ok (.iinc 3 1, 3) := op_132 lX4_mostSteps 1 (by decide +kernel)
theorem dX4_mostSteps_25 : decode cX4_mostSteps 25 = .ok (.goto (-21), 3) := op_167 lX4_mostSteps 255 235 (by decide +kernel)
theorem dX4_mostSteps_28 : decode cX4_mostSteps 28 = .ok (.iload_n 2, 1) := op_28 lX4_mostSteps (by decide +kernel)
theorem dX4_mostSteps_29 : decode cX4_mostSteps 29 = .ok (.ireturn, 1) := op_172 lX4_mostSteps (by decide +kernel)
def nX4_howManyAt : Nat := 0xac1de7ffa70104840103840600a01c2b00b604152a1600a22e00b62b04150436033e03
theorem lX4_howManyAt : cX4_howManyAt.data.toList = unp nX4_howManyAt 35 0 := by decide +kernel
theorem dX4_howManyAt_0 : decode cX4_howManyAt 0 = .ok (.iconst 0, 1) := op_3 lX4_howManyAt (by decide +kernel)
theorem dX4_howManyAt_1 : decode cX4_howManyAt 1 = .ok (.istore_n 3, 1) := op_62 lX4_howManyAt (by decide +kernel)
theorem dX4_howManyAt_2 : decode cX4_howManyAt 2 = .ok (.iconst 0, 1) := op_3 lX4_howManyAt (by decide +kernel)
theorem dX4_howManyAt_3 : decode cX4_howManyAt 3 = .ok (.istore 4, 2) := op_54 lX4_howManyAt (by decide +kernel)
theorem dX4_howManyAt_5 : decode cX4_howManyAt 5 = .ok (.iload 4, 2) := op_21 lX4_howManyAt (by decide +kernel)
theorem dX4_howManyAt_7 : decode cX4_howManyAt 7 = .ok (.aload_n 1, 1) := op_43 lX4_howManyAt (by decide +kernel)
theorem dX4_howManyAt_8 : decode cX4_howManyAt 8 = .ok (.invokevirtual 46, 3) := op_182 lX4_howManyAt 0 46 (by decide +kernel)
theorem dX4_howManyAt_11 : decode cX4_howManyAt 11 = .ok (.if_icmp .ge 22, 3) := op_162 lX4_howManyAt 0 22 (by decide +kernel)
theorem dX4_howManyAt_14 : decode cX4_howManyAt 14 = .ok (.aload_n 0, 1) := op_42 lX4_howManyAt (by decide +kernel)
theorem dX4_howManyAt_15 : decode cX4_howManyAt 15 = .ok (.iload 4, 2) := op_21 lX4_howManyAt (by decide +kernel)
theorem dX4_howManyAt_17 : decode cX4_howManyAt 17 = .ok (.invokevirtual 43, 3) := op_182 lX4_howManyAt 0 43 (by decide +kernel)
theorem dX4_howManyAt_20 : decode cX4_howManyAt 20 = .ok (.iload_n 2, 1) := op_28 lX4_howManyAt (by decide +kernel)
theorem dX4_howManyAt_21 : decode cX4_howManyAt 21 = .ok (.if_icmp .ne 6, 3) := op_160 lX4_howManyAt 0 6 (by decide +kernel)
theorem dX4_howManyAt_24 : decode cX4_howManyAt 24 = .ok (.iinc 3 1, 3) := op_132 lX4_howManyAt 1 (by decide +kernel)
theorem dX4_howManyAt_27 : decode cX4_howManyAt 27 = .ok (.iinc 4 1, 3) := op_132 lX4_howManyAt 1 (by decide +kernel)
theorem dX4_howManyAt_30 : decode cX4_howManyAt 30 = .ok (.goto (-25), 3) := op_167 lX4_howManyAt 255 231 (by decide +kernel)
theorem dX4_howManyAt_33 : decode cX4_howManyAt 33 = .ok (.iload_n 3, 1) := op_29 lX4_howManyAt (by decide +kernel)
theorem dX4_howManyAt_34 : decode cX4_howManyAt 34 = .ok (.ireturn, 1) := op_172 lX4_howManyAt (by decide +kernel)
def nX4_layWay : Nat := 0xac0415d2ffa701068405363d00b605152b2a3a00b560043a00b4592a4f051506151200b42a2500a2ad011106152d00a3041506150636033a00b5032a05361c04362b00b61c2a3600b61d2b2a
theorem lX4_layWay : cX4_layWay.data.toList = unp nX4_layWay 76 0 := by decide +kernel
theorem dX4_layWay_0 : decode cX4_layWay 0 = .ok (.aload_n 0, 1) := op_42 lX4_layWay (by decide +kernel)
theorem dX4_layWay_1 : decode cX4_layWay 1 = .ok (.aload_n 1, 1) := op_43 lX4_layWay (by decide +kernel)
theorem dX4_layWay_2 : decode cX4_layWay 2 = .ok (.iload_n 3, 1) := op_29 lX4_layWay (by decide +kernel)
theorem dX4_layWay_3 : decode cX4_layWay 3 = .ok (.invokevirtual 54, 3) := op_182 lX4_layWay 0 54 (by decide +kernel)
theorem dX4_layWay_6 : decode cX4_layWay 6 = .ok (.aload_n 0, 1) := op_42 lX4_layWay (by decide +kernel)
theorem dX4_layWay_7 : decode cX4_layWay 7 = .ok (.iload_n 2, 1) := op_28 lX4_layWay (by decide +kernel)
theorem dX4_layWay_8 : decode cX4_layWay 8 = .ok (.invokevirtual 43, 3) := op_182 lX4_layWay 0 43 (by decide +kernel)
theorem dX4_layWay_11 : decode cX4_layWay 11 = .ok (.istore 4, 2) := op_54 lX4_layWay (by decide +kernel)
theorem dX4_layWay_13 : decode cX4_layWay 13 = .ok (.iload_n 2, 1) := op_28 lX4_layWay (by decide +kernel)
theorem dX4_layWay_14 : decode cX4_layWay 14 = .ok (.istore 5, 2) := op_54 lX4_layWay (by decide +kernel)
theorem dX4_layWay_16 : decode cX4_layWay 16 = .ok (.aload_n 0, 1) := op_42 lX4_layWay (by decide +kernel)
theorem dX4_layWay_17 : decode cX4_layWay 17 = .ok (.iconst 0, 1) := op_3 lX4_layWay (by decide +kernel)
theorem dX4_layWay_18 : decode cX4_layWay 18 = .ok (.putfield 58, 3) := op_181 lX4_layWay 0 58 (by decide +kernel)
theorem dX4_layWay_21 : decode cX4_layWay 21 = .ok (.iconst 0, 1) := op_3 lX4_layWay (by decide +kernel)
theorem dX4_layWay_22 : decode cX4_layWay 22 = .ok (.istore 6, 2) := op_54 lX4_layWay (by decide +kernel)
theorem dX4_layWay_24 : decode cX4_layWay 24 = .ok (.iload 6, 2) := op_21 lX4_layWay (by decide +kernel)
theorem dX4_layWay_26 : decode cX4_layWay 26 = .ok (.iload 4, 2) := op_21 lX4_layWay (by decide +kernel)
theorem dX4_layWay_28 : decode cX4_layWay 28 = .ok (.if_icmp .gt 45, 3) := op_163 lX4_layWay 0 45 (by decide +kernel)
theorem dX4_layWay_31 : decode cX4_layWay 31 = .ok (.iload 6, 2) := op_21 lX4_layWay (by decide +kernel)
theorem dX4_layWay_33 : decode cX4_layWay 33 = .ok (.sipush 429, 3) := op_17 lX4_layWay 1 173 (by decide +kernel)
theorem dX4_layWay_36 : decode cX4_layWay 36 = .ok (.if_icmp .ge 37, 3) := op_162 lX4_layWay 0 37 (by decide +kernel)
theorem dX4_layWay_39 : decode cX4_layWay 39 = .ok (.aload_n 0, 1) := op_42 lX4_layWay (by decide +kernel)
theorem dX4_layWay_40 : decode cX4_layWay 40 = .ok (.getfield 18, 3) := op_180 lX4_layWay 0 18 (by decide +kernel)
theorem dX4_layWay_43 : decode cX4_layWay 43 = .ok (.iload 6, 2) := op_21 lX4_layWay (by decide +kernel)
theorem dX4_layWay_45 : decode cX4_layWay 45 = .ok (.iload 5, 2) := op_21 lX4_layWay (by decide +kernel)
theorem dX4_layWay_47 : decode cX4_layWay 47 = .ok (.iastore, 1) := op_79 lX4_layWay (by decide +kernel)
theorem dX4_layWay_48 : decode cX4_layWay 48 = .ok (.aload_n 0, 1) := op_42 lX4_layWay (by decide +kernel)
theorem dX4_layWay_49 : decode cX4_layWay 49 = .ok (.dup, 1) := op_89 lX4_layWay (by decide +kernel)
theorem dX4_layWay_50 : decode cX4_layWay 50 = .ok (.getfield 58, 3) := op_180 lX4_layWay 0 58 (by decide +kernel)
theorem dX4_layWay_53 : decode cX4_layWay 53 = .ok (.iconst 1, 1) := op_4 lX4_layWay (by decide +kernel)
theorem dX4_layWay_54 : decode cX4_layWay 54 = .ok (.iadd, 1) := op_96 lX4_layWay (by decide +kernel)
theorem dX4_layWay_55 : decode cX4_layWay 55 = .ok (.putfield 58, 3) := op_181 lX4_layWay 0 58 (by decide +kernel)
theorem dX4_layWay_58 : decode cX4_layWay 58 = .ok (.aload_n 0, 1) := op_42 lX4_layWay (by decide +kernel)
theorem dX4_layWay_59 : decode cX4_layWay 59 = .ok (.aload_n 1, 1) := op_43 lX4_layWay (by decide +kernel)
theorem dX4_layWay_60 : decode cX4_layWay 60 = .ok (.iload 5, 2) := op_21 lX4_layWay (by decide +kernel)
theorem dX4_layWay_62 : decode cX4_layWay 62 = .ok (.invokevirtual 61, 3) := op_182 lX4_layWay 0 61 (by decide +kernel)
theorem dX4_layWay_65 : decode cX4_layWay 65 = .ok (.istore 5, 2) := op_54 lX4_layWay (by decide +kernel)
theorem dX4_layWay_67 : decode cX4_layWay 67 = .ok (.iinc 6 1, 3) := op_132 lX4_layWay 1 (by decide +kernel)
theorem dX4_layWay_70 : decode cX4_layWay 70 = .ok (.goto (-46), 3) := op_167 lX4_layWay 255 210 (by decide +kernel)
theorem dX4_layWay_73 : decode cX4_layWay 73 = .ok (.iload 4, 2) := op_21 lX4_layWay (by decide +kernel)
theorem dX4_layWay_75 : decode cX4_layWay 75 = .ok (.ireturn, 1) := op_172 lX4_layWay (by decide +kernel)
def nX4_leastNearer : Nat := 0xac0415b8ffa7010584043606150700a2041506150a009f02041514009907150736030400a7040700a064042b00b61c2a2b00b606152a17009f02061506362700b605151d2b4500a22300b62b05150536030436023e1d00b61c2b
theorem lX4_leastNearer : cX4_leastNearer.data.toList = unp nX4_leastNearer 90 0 := by decide +kernel
theorem dX4_leastNearer_0 : decode cX4_leastNearer 0 = .ok (.aload_n 1, 1) := op_43 lX4_leastNearer (by decide +kernel)
theorem dX4_leastNearer_1 : decode cX4_leastNearer 1 = .ok (.iload_n 2, 1) := op_28 lX4_leastNearer (by decide +kernel)
theorem dX4_leastNearer_2 : decode cX4_leastNearer 2 = .ok (.invokevirtual 29, 3) := op_182 lX4_leastNearer 0 29 (by decide +kernel)
theorem dX4_leastNearer_5 : decode cX4_leastNearer 5 = .ok (.istore_n 3, 1) := op_62 lX4_leastNearer (by decide +kernel)
theorem dX4_leastNearer_6 : decode cX4_leastNearer 6 = .ok (.iconst (-1), 1) := op_2 lX4_leastNearer (by decide +kernel)
theorem dX4_leastNearer_7 : decode cX4_leastNearer 7 = .ok (.istore 4, 2) := op_54 lX4_leastNearer (by decide +kernel)
theorem dX4_leastNearer_9 : decode cX4_leastNearer 9 = .ok (.iconst 0, 1) := op_3 lX4_leastNearer (by decide +kernel)
theorem dX4_leastNearer_10 : decode cX4_leastNearer 10 = .ok (.istore 5, 2) := op_54 lX4_leastNearer (by decide +kernel)
theorem dX4_leastNearer_12 : decode cX4_leastNearer 12 = .ok (.iload 5, 2) := op_21 lX4_leastNearer (by decide +kernel)
theorem dX4_leastNearer_14 : decode cX4_leastNearer 14 = .ok (.aload_n 1, 1) := op_43 lX4_leastNearer (by decide +kernel)
theorem dX4_leastNearer_15 : decode cX4_leastNearer 15 = .ok (.invokevirtual 35, 3) := op_182 lX4_leastNearer 0 35 (by decide +kernel)
theorem dX4_leastNearer_18 : decode cX4_leastNearer 18 = .ok (.if_icmp .ge 69, 3) := op_162 lX4_leastNearer 0 69 (by decide +kernel)
theorem dX4_leastNearer_21 : decode cX4_leastNearer 21 = .ok (.aload_n 1, 1) := op_43 lX4_leastNearer (by decide +kernel)
theorem dX4_leastNearer_22 : decode cX4_leastNearer 22 = .ok (.iload_n 3, 1) := op_29 lX4_leastNearer (by decide +kernel)
theorem dX4_leastNearer_23 : decode cX4_leastNearer 23 = .ok (.iload 5, 2) := op_21 lX4_leastNearer (by decide +kernel)
theorem dX4_leastNearer_25 : decode cX4_leastNearer 25 = .ok (.invokevirtual 39, 3) := op_182 lX4_leastNearer 0 39 (by decide +kernel)
theorem dX4_leastNearer_28 : decode cX4_leastNearer 28 = .ok (.istore 6, 2) := op_54 lX4_leastNearer (by decide +kernel)
theorem dX4_leastNearer_30 : decode cX4_leastNearer 30 = .ok (.iload 6, 2) := op_21 lX4_leastNearer (by decide +kernel)
theorem dX4_leastNearer_32 : decode cX4_leastNearer 32 = .ok (.iconst (-1), 1) := op_2 lX4_leastNearer (by decide +kernel)
theorem dX4_leastNearer_33 : decode cX4_leastNearer 33 = .ok (.if_icmp .eq 23, 3) := op_159 lX4_leastNearer 0 23 (by decide +kernel)
theorem dX4_leastNearer_36 : decode cX4_leastNearer 36 = .ok (.aload_n 0, 1) := op_42 lX4_leastNearer (by decide +kernel)
theorem dX4_leastNearer_37 : decode cX4_leastNearer 37 = .ok (.iload 6, 2) := op_21 lX4_leastNearer (by decide +kernel)
theorem dX4_leastNearer_39 : decode cX4_leastNearer 39 = .ok (.invokevirtual 43, 3) := op_182 lX4_leastNearer 0 43 (by decide +kernel)
theorem dX4_leastNearer_42 : decode cX4_leastNearer 42 = .ok (.aload_n 0, 1) := op_42 lX4_leastNearer (by decide +kernel)
theorem dX4_leastNearer_43 : decode cX4_leastNearer 43 = .ok (.iload_n 2, 1) := op_28 lX4_leastNearer (by decide +kernel)
theorem dX4_leastNearer_44 : decode cX4_leastNearer 44 = .ok (.invokevirtual 43, 3) := op_182 lX4_leastNearer 0 43 (by decide +kernel)
theorem dX4_leastNearer_47 : decode cX4_leastNearer 47 = .ok (.iconst 1, 1) := op_4 lX4_leastNearer (by decide +kernel)
theorem dX4_leastNearer_48 : decode cX4_leastNearer 48 = .ok (.isub, 1) := op_100 lX4_leastNearer (by decide +kernel)
theorem dX4_leastNearer_49 : decode cX4_leastNearer 49 = .ok (.if_icmp .ne 7, 3) := op_160 lX4_leastNearer 0 7 (by decide +kernel)
theorem dX4_leastNearer_52 : decode cX4_leastNearer 52 = .ok (.iconst 1, 1) := op_4 lX4_leastNearer (by decide +kernel)
theorem dX4_leastNearer_53 : decode cX4_leastNearer 53 = .ok (.goto 4, 3) := op_167 lX4_leastNearer 0 4 (by decide +kernel)
theorem dX4_leastNearer_56 : decode cX4_leastNearer 56 = .ok (.iconst 0, 1) := op_3 lX4_leastNearer (by decide +kernel)
theorem dX4_leastNearer_57 : decode cX4_leastNearer 57 = .ok (.istore 7, 2) := op_54 lX4_leastNearer (by decide +kernel)
theorem dX4_leastNearer_59 : decode cX4_leastNearer 59 = .ok (.iload 7, 2) := op_21 lX4_leastNearer (by decide +kernel)
theorem dX4_leastNearer_61 : decode cX4_leastNearer 61 = .ok (.ifCond .eq 20, 3) := op_153 lX4_leastNearer 0 20 (by decide +kernel)
theorem dX4_leastNearer_64 : decode cX4_leastNearer 64 = .ok (.iload 4, 2) := op_21 lX4_leastNearer (by decide +kernel)
theorem dX4_leastNearer_66 : decode cX4_leastNearer 66 = .ok (.iconst (-1), 1) := op_2 lX4_leastNearer (by decide +kernel)
theorem dX4_leastNearer_67 : decode cX4_leastNearer 67 = .ok (.if_icmp .eq 10, 3) := op_159 lX4_leastNearer 0 10 (by decide +kernel)
theorem dX4_leastNearer_70 : decode cX4_leastNearer 70 = .ok (.iload 6, 2) := op_21 lX4_leastNearer (by decide +kernel)
theorem dX4_leastNearer_72 : decode cX4_leastNearer 72 = .ok (.iload 4, 2) := op_21 lX4_leastNearer (by decide +kernel)
theorem dX4_leastNearer_74 : decode cX4_leastNearer 74 = .ok (.if_icmp .ge 7, 3) := op_162 lX4_leastNearer 0 7 (by decide +kernel)
theorem dX4_leastNearer_77 : decode cX4_leastNearer 77 = .ok (.iload 6, 2) := op_21 lX4_leastNearer (by decide +kernel)
theorem dX4_leastNearer_79 : decode cX4_leastNearer 79 = .ok (.istore 4, 2) := op_54 lX4_leastNearer (by decide +kernel)
theorem dX4_leastNearer_81 : decode cX4_leastNearer 81 = .ok (.iinc 5 1, 3) := op_132 lX4_leastNearer 1 (by decide +kernel)
theorem dX4_leastNearer_84 : decode cX4_leastNearer 84 = .ok (.goto (-72), 3) := op_167 lX4_leastNearer 255 184 (by decide +kernel)
theorem dX4_leastNearer_87 : decode cX4_leastNearer 87 = .ok (.iload 4, 2) := op_21 lX4_leastNearer (by decide +kernel)
theorem dX4_leastNearer_89 : decode cX4_leastNearer 89 = .ok (.ireturn, 1) := op_172 lX4_leastNearer (by decide +kernel)
def nX4_onWay : Nat := 0xac020400a72e1b1200b42a0c00a23a00b42a1b14009b1b
theorem lX4_onWay : cX4_onWay.data.toList = unp nX4_onWay 23 0 := by decide +kernel
theorem dX4_onWay_0 : decode cX4_onWay 0 = .ok (.iload_n 1, 1) := op_27 lX4_onWay (by decide +kernel)
theorem dX4_onWay_1 : decode cX4_onWay 1 = .ok (.ifCond .lt 20, 3) := op_155 lX4_onWay 0 20 (by decide +kernel)
theorem dX4_onWay_4 : decode cX4_onWay 4 = .ok (.iload_n 1, 1) := op_27 lX4_onWay (by decide +kernel)
theorem dX4_onWay_5 : decode cX4_onWay 5 = .ok (.aload_n 0, 1) := op_42 lX4_onWay (by decide +kernel)
theorem dX4_onWay_6 : decode cX4_onWay 6 = .ok (.getfield 58, 3) := op_180 lX4_onWay 0 58 (by decide +kernel)
theorem dX4_onWay_9 : decode cX4_onWay 9 = .ok (.if_icmp .ge 12, 3) := op_162 lX4_onWay 0 12 (by decide +kernel)
theorem dX4_onWay_12 : decode cX4_onWay 12 = .ok (.aload_n 0, 1) := op_42 lX4_onWay (by decide +kernel)
theorem dX4_onWay_13 : decode cX4_onWay 13 = .ok (.getfield 18, 3) := op_180 lX4_onWay 0 18 (by decide +kernel)
theorem dX4_onWay_16 : decode cX4_onWay 16 = .ok (.iload_n 1, 1) := op_27 lX4_onWay (by decide +kernel)
theorem dX4_onWay_17 : decode cX4_onWay 17 = .ok (.iaload, 1) := op_46 lX4_onWay (by decide +kernel)
theorem dX4_onWay_18 : decode cX4_onWay 18 = .ok (.goto 4, 3) := op_167 lX4_onWay 0 4 (by decide +kernel)
theorem dX4_onWay_21 : decode cX4_onWay 21 = .ok (.iconst (-1), 1) := op_2 lX4_onWay (by decide +kernel)
theorem dX4_onWay_22 : decode cX4_onWay 22 = .ok (.ireturn, 1) := op_172 lX4_onWay (by decide +kernel)
end

section
def nX5_init : Nat := 0xb12b00b664061b6404782800b42a040364042800b42a2a2500b62a2200b62a1e00b51b2a1b00b50abcad01112a1800b50abc09102a1500b50abc1b102a1200b50abc51102a0f00b50abc1b102a0900b50abc1b102a0300b72a
theorem lX5_init : cX5_init.data.toList = unp nX5_init 89 0 := by decide +kernel
theorem dX5_init_0 : decode cX5_init 0 = .ok (.aload_n 0, 1) := op_42 lX5_init (by decide +kernel)
theorem dX5_init_1 : decode cX5_init 1 = .ok (.invokespecial 3, 3) := op_183 lX5_init 0 3 (by decide +kernel)
theorem dX5_init_4 : decode cX5_init 4 = .ok (.aload_n 0, 1) := op_42 lX5_init (by decide +kernel)
theorem dX5_init_5 : decode cX5_init 5 = .ok (.bipush 27, 2) := op_16 lX5_init 27 (by decide +kernel)
theorem dX5_init_7 : decode cX5_init 7 = .ok (.newarray .int, 2) := by decide +kernel
theorem dX5_init_9 : decode cX5_init 9 = .ok (.putfield 9, 3) := op_181 lX5_init 0 9 (by decide +kernel)
theorem dX5_init_12 : decode cX5_init 12 = .ok (.aload_n 0, 1) := op_42 lX5_init (by decide +kernel)
theorem dX5_init_13 : decode cX5_init 13 = .ok (.bipush 27, 2) := op_16 lX5_init 27 (by decide +kernel)
theorem dX5_init_15 : decode cX5_init 15 = .ok (.newarray .int, 2) := by decide +kernel
theorem dX5_init_17 : decode cX5_init 17 = .ok (.putfield 15, 3) := op_181 lX5_init 0 15 (by decide +kernel)
theorem dX5_init_20 : decode cX5_init 20 = .ok (.aload_n 0, 1) := op_42 lX5_init (by decide +kernel)
theorem dX5_init_21 : decode cX5_init 21 = .ok (.bipush 81, 2) := op_16 lX5_init 81 (by decide +kernel)
theorem dX5_init_23 : decode cX5_init 23 = .ok (.newarray .int, 2) := by decide +kernel
theorem dX5_init_25 : decode cX5_init 25 = .ok (.putfield 18, 3) := op_181 lX5_init 0 18 (by decide +kernel)
theorem dX5_init_28 : decode cX5_init 28 = .ok (.aload_n 0, 1) := op_42 lX5_init (by decide +kernel)
theorem dX5_init_29 : decode cX5_init 29 = .ok (.bipush 27, 2) := op_16 lX5_init 27 (by decide +kernel)
theorem dX5_init_31 : decode cX5_init 31 = .ok (.newarray .int, 2) := by decide +kernel
theorem dX5_init_33 : decode cX5_init 33 = .ok (.putfield 21, 3) := op_181 lX5_init 0 21 (by decide +kernel)
theorem dX5_init_36 : decode cX5_init 36 = .ok (.aload_n 0, 1) := op_42 lX5_init (by decide +kernel)
theorem dX5_init_37 : decode cX5_init 37 = .ok (.bipush 9, 2) := op_16 lX5_init 9 (by decide +kernel)
theorem dX5_init_39 : decode cX5_init 39 = .ok (.newarray .int, 2) := by decide +kernel
theorem dX5_init_41 : decode cX5_init 41 = .ok (.putfield 24, 3) := op_181 lX5_init 0 24 (by decide +kernel)
theorem dX5_init_44 : decode cX5_init 44 = .ok (.aload_n 0, 1) := op_42 lX5_init (by decide +kernel)
theorem dX5_init_45 : decode cX5_init 45 = .ok (.sipush 429, 3) := op_17 lX5_init 1 173 (by decide +kernel)
theorem dX5_init_48 : decode cX5_init 48 = .ok (.newarray .int, 2) := by decide +kernel
theorem dX5_init_50 : decode cX5_init 50 = .ok (.putfield 27, 3) := op_181 lX5_init 0 27 (by decide +kernel)
theorem dX5_init_53 : decode cX5_init 53 = .ok (.aload_n 0, 1) := op_42 lX5_init (by decide +kernel)
theorem dX5_init_54 : decode cX5_init 54 = .ok (.iload_n 1, 1) := op_27 lX5_init (by decide +kernel)
theorem dX5_init_55 : decode cX5_init 55 = .ok (.putfield 30, 3) := op_181 lX5_init 0 30 (by decide +kernel)
theorem dX5_init_58 : decode cX5_init 58 = .ok (.aload_n 0, 1) := op_42 lX5_init (by decide +kernel)
theorem dX5_init_59 : decode cX5_init 59 = .ok (.invokevirtual 34, 3) := op_182 lX5_init 0 34 (by decide +kernel)
theorem dX5_init_62 : decode cX5_init 62 = .ok (.aload_n 0, 1) := op_42 lX5_init (by decide +kernel)
theorem dX5_init_63 : decode cX5_init 63 = .ok (.invokevirtual 37, 3) := op_182 lX5_init 0 37 (by decide +kernel)
theorem dX5_init_66 : decode cX5_init 66 = .ok (.aload_n 0, 1) := op_42 lX5_init (by decide +kernel)
theorem dX5_init_67 : decode cX5_init 67 = .ok (.aload_n 0, 1) := op_42 lX5_init (by decide +kernel)
theorem dX5_init_68 : decode cX5_init 68 = .ok (.getfield 40, 3) := op_180 lX5_init 0 40 (by decide +kernel)
theorem dX5_init_71 : decode cX5_init 71 = .ok (.iconst 1, 1) := op_4 lX5_init (by decide +kernel)
theorem dX5_init_72 : decode cX5_init 72 = .ok (.isub, 1) := op_100 lX5_init (by decide +kernel)
theorem dX5_init_73 : decode cX5_init 73 = .ok (.iconst 0, 1) := op_3 lX5_init (by decide +kernel)
theorem dX5_init_74 : decode cX5_init 74 = .ok (.iconst 1, 1) := op_4 lX5_init (by decide +kernel)
theorem dX5_init_75 : decode cX5_init 75 = .ok (.aload_n 0, 1) := op_42 lX5_init (by decide +kernel)
theorem dX5_init_76 : decode cX5_init 76 = .ok (.getfield 40, 3) := op_180 lX5_init 0 40 (by decide +kernel)
theorem dX5_init_79 : decode cX5_init 79 = .ok (.ishl, 1) := op_120 lX5_init (by decide +kernel)
theorem dX5_init_80 : decode cX5_init 80 = .ok (.iconst 1, 1) := op_4 lX5_init (by decide +kernel)
theorem dX5_init_81 : decode cX5_init 81 = .ok (.isub, 1) := op_100 lX5_init (by decide +kernel)
theorem dX5_init_82 : decode cX5_init 82 = .ok (.iload_n 1, 1) := op_27 lX5_init (by decide +kernel)
theorem dX5_init_83 : decode cX5_init 83 = .ok (.iconst 3, 1) := op_6 lX5_init (by decide +kernel)
theorem dX5_init_84 : decode cX5_init 84 = .ok (.isub, 1) := op_100 lX5_init (by decide +kernel)
theorem dX5_init_85 : decode cX5_init 85 = .ok (.invokevirtual 43, 3) := op_182 lX5_init 0 43 (by decide +kernel)
theorem dX5_init_88 : decode cX5_init 88 = .ok (.return_, 1) := op_177 lX5_init (by decide +kernel)
def nX5_numberLines : Nat := 0xb1ceffa7010184f2ffa70103842f00b61d1b2a0f00a21c1d3e60051b3d1e00b42a0700a764041e00b42a0c009a1b3000a21e00b42a1b3c03d9ffa7010184e9ffa70102844f02601c6809101b1200b42a1500a21e00b42a1c3d032500a21e00b42a1b3c03
theorem lX5_numberLines : cX5_numberLines.data.toList = unp nX5_numberLines 100 0 := by decide +kernel
theorem dX5_numberLines_0 : decode cX5_numberLines 0 = .ok (.iconst 0, 1) := op_3 lX5_numberLines (by decide +kernel)
theorem dX5_numberLines_1 : decode cX5_numberLines 1 = .ok (.istore_n 1, 1) := op_60 lX5_numberLines (by decide +kernel)
theorem dX5_numberLines_2 : decode cX5_numberLines 2 = .ok (.iload_n 1, 1) := op_27 lX5_numberLines (by decide +kernel)
theorem dX5_numberLines_3 : decode cX5_numberLines 3 = .ok (.aload_n 0, 1) := op_42 lX5_numberLines (by decide +kernel)
theorem dX5_numberLines_4 : decode cX5_numberLines 4 = .ok (.getfield 30, 3) := op_180 lX5_numberLines 0 30 (by decide +kernel)
theorem dX5_numberLines_7 : decode cX5_numberLines 7 = .ok (.if_icmp .ge 37, 3) := op_162 lX5_numberLines 0 37 (by decide +kernel)
theorem dX5_numberLines_10 : decode cX5_numberLines 10 = .ok (.iconst 0, 1) := op_3 lX5_numberLines (by decide +kernel)
theorem dX5_numberLines_11 : decode cX5_numberLines 11 = .ok (.istore_n 2, 1) := op_61 lX5_numberLines (by decide +kernel)
theorem dX5_numberLines_12 : decode cX5_numberLines 12 = .ok (.iload_n 2, 1) := op_28 lX5_numberLines (by decide +kernel)
theorem dX5_numberLines_13 : decode cX5_numberLines 13 = .ok (.aload_n 0, 1) := op_42 lX5_numberLines (by decide +kernel)
theorem dX5_numberLines_14 : decode cX5_numberLines 14 = .ok (.getfield 30, 3) := op_180 lX5_numberLines 0 30 (by decide +kernel)
theorem dX5_numberLines_17 : decode cX5_numberLines 17 = .ok (.if_icmp .ge 21, 3) := op_162 lX5_numberLines 0 21 (by decide +kernel)
theorem dX5_numberLines_20 : decode cX5_numberLines 20 = .ok (.aload_n 0, 1) := op_42 lX5_numberLines (by decide +kernel)
theorem dX5_numberLines_21 : decode cX5_numberLines 21 = .ok (.getfield 18, 3) := op_180 lX5_numberLines 0 18 (by decide +kernel)
theorem dX5_numberLines_24 : decode cX5_numberLines 24 = .ok (.iload_n 1, 1) := op_27 lX5_numberLines (by decide +kernel)
theorem dX5_numberLines_25 : decode cX5_numberLines 25 = .ok (.bipush 9, 2) := op_16 lX5_numberLines 9 (by decide +kernel)
theorem dX5_numberLines_27 : decode cX5_numberLines 27 = .ok (.imul, 1) := op_104 lX5_numberLines (by decide +kernel)
theorem dX5_numberLines_28 : decode cX5_numberLines 28 = .ok (.iload_n 2, 1) := op_28 lX5_numberLines (by decide +kernel)
theorem dX5_numberLines_29 : decode cX5_numberLines 29 = .ok (.iadd, 1) := op_96 lX5_numberLines (by decide +kernel)
theorem dX5_numberLines_30 : decode cX5_numberLines 30 = .ok (.iconst (-1), 1) := op_2 lX5_numberLines (by decide +kernel)
theorem dX5_numberLines_31 : decode cX5_numberLines 31 = .ok (.iastore, 1) := op_79 lX5_numberLines (by decide +kernel)
theorem dX5_numberLines_32 : decode cX5_numberLines 32 = .ok (.iinc 2 1, 3) := op_132 lX5_numberLines 1 (by decide +kernel)
theorem dX5_numberLines_35 : decode cX5_numberLines 35 = .ok (.goto (-23), 3) := op_167 lX5_numberLines 255 233 (by decide +kernel)
theorem dX5_numberLines_38 : decode cX5_numberLines 38 = .ok (.iinc 1 1, 3) := op_132 lX5_numberLines 1 (by decide +kernel)
theorem dX5_numberLines_41 : decode cX5_numberLines 41 = .ok (.goto (-39), 3) := op_167 lX5_numberLines 255 217 (by decide +kernel)
theorem dX5_numberLines_44 : decode cX5_numberLines 44 = .ok (.iconst 0, 1) := op_3 lX5_numberLines (by decide +kernel)
theorem dX5_numberLines_45 : decode cX5_numberLines 45 = .ok (.istore_n 1, 1) := op_60 lX5_numberLines (by decide +kernel)
theorem dX5_numberLines_46 : decode cX5_numberLines 46 = .ok (.iload_n 1, 1) := op_27 lX5_numberLines (by decide +kernel)
theorem dX5_numberLines_47 : decode cX5_numberLines 47 = .ok (.aload_n 0, 1) := op_42 lX5_numberLines (by decide +kernel)
theorem dX5_numberLines_48 : decode cX5_numberLines 48 = .ok (.getfield 30, 3) := op_180 lX5_numberLines 0 30 (by decide +kernel)
theorem dX5_numberLines_51 : decode cX5_numberLines 51 = .ok (.if_icmp .ge 48, 3) := op_162 lX5_numberLines 0 48 (by decide +kernel)
theorem dX5_numberLines_54 : decode cX5_numberLines 54 = .ok (.iload_n 1, 1) := op_27 lX5_numberLines (by decide +kernel)
theorem dX5_numberLines_55 : decode cX5_numberLines 55 = .ok (.ifCond .ne 12, 3) := op_154 lX5_numberLines 0 12 (by decide +kernel)
theorem dX5_numberLines_58 : decode cX5_numberLines 58 = .ok (.aload_n 0, 1) := op_42 lX5_numberLines (by decide +kernel)
theorem dX5_numberLines_59 : decode cX5_numberLines 59 = .ok (.getfield 30, 3) := op_180 lX5_numberLines 0 30 (by decide +kernel)
theorem dX5_numberLines_62 : decode cX5_numberLines 62 = .ok (.iconst 1, 1) := op_4 lX5_numberLines (by decide +kernel)
theorem dX5_numberLines_63 : decode cX5_numberLines 63 = .ok (.isub, 1) := op_100 lX5_numberLines (by decide +kernel)
theorem dX5_numberLines_64 : decode cX5_numberLines 64 = .ok (.goto 7, 3) := op_167 lX5_numberLines 0 7 (by decide +kernel)
theorem dX5_numberLines_67 : decode cX5_numberLines 67 = .ok (.aload_n 0, 1) := op_42 lX5_numberLines (by decide +kernel)
theorem dX5_numberLines_68 : decode cX5_numberLines 68 = .ok (.getfield 30, 3) := op_180 lX5_numberLines 0 30 (by decide +kernel)
theorem dX5_numberLines_71 : decode cX5_numberLines 71 = .ok (.istore_n 2, 1) := op_61 lX5_numberLines (by decide +kernel)
theorem dX5_numberLines_72 : decode cX5_numberLines 72 = .ok (.iload_n 1, 1) := op_27 lX5_numberLines (by decide +kernel)
theorem dX5_numberLines_73 : decode cX5_numberLines 73 = .ok (.iconst 2, 1) := op_5 lX5_numberLines (by decide +kernel)
theorem dX5_numberLines_74 : decode cX5_numberLines 74 = .ok (.iadd, 1) := op_96 lX5_numberLines (by decide +kernel)
theorem dX5_numberLines_75 : decode cX5_numberLines 75 = .ok (.istore_n 3, 1) := op_62 lX5_numberLines (by decide +kernel)
theorem dX5_numberLines_76 : decode cX5_numberLines 76 = .ok (.iload_n 3, 1) := op_29 lX5_numberLines (by decide +kernel)
theorem dX5_numberLines_77 : decode cX5_numberLines 77 = .ok (.iload_n 2, 1) := op_28 lX5_numberLines (by decide +kernel)
theorem dX5_numberLines_78 : decode cX5_numberLines 78 = .ok (.if_icmp .ge 15, 3) := op_162 lX5_numberLines 0 15 (by decide +kernel)
theorem dX5_numberLines_81 : decode cX5_numberLines 81 = .ok (.aload_n 0, 1) := op_42 lX5_numberLines (by decide +kernel)
theorem dX5_numberLines_82 : decode cX5_numberLines 82 = .ok (.iload_n 1, 1) := op_27 lX5_numberLines (by decide +kernel)
theorem dX5_numberLines_83 : decode cX5_numberLines 83 = .ok (.iload_n 3, 1) := op_29 lX5_numberLines (by decide +kernel)
theorem dX5_numberLines_84 : decode cX5_numberLines 84 = .ok (.invokevirtual 47, 3) := op_182 lX5_numberLines 0 47 (by decide +kernel)
theorem dX5_numberLines_87 : decode cX5_numberLines 87 = .ok (.iinc 3 1, 3) := op_132 lX5_numberLines 1 (by decide +kernel)
theorem dX5_numberLines_90 : decode cX5_numberLines 90 = .ok (.goto (-14), 3) := op_167 lX5_numberLines 255 242 (by decide +kernel)
theorem dX5_numberLines_93 : decode cX5_numberLines 93 = .ok (.iinc 1 1, 3) := op_132 lX5_numberLines 1 (by decide +kernel)
theorem dX5_numberLines_96 : decode cX5_numberLines 96 = .ok (.goto (-50), 3) := op_167 lX5_numberLines 255 206 (by decide +kernel)
theorem dX5_numberLines_99 : decode cX5_numberLines 99 = .ok (.return_, 1) := op_177 lX5_numberLines (by decide +kernel)
def nX5_numberLine : Nat := 0xb12800b560042800b4592a4f80782800b42a042e5c1c1800b42a4f80782800b42a042e5c1b1800b42a4f2800b42a601b6809101c1200b42a4f2800b42a601c6809101b1200b42a4f1c2800b42a0f00b42a4f1b2800b42a0900b42ab10400a11b102800b42a
theorem lX5_numberLine : cX5_numberLine.data.toList = unp nX5_numberLine 101 0 := by decide +kernel
theorem dX5_numberLine_0 : decode cX5_numberLine 0 = .ok (.aload_n 0, 1) := op_42 lX5_numberLine (by decide +kernel)
theorem dX5_numberLine_1 : decode cX5_numberLine 1 = .ok (.getfield 40, 3) := op_180 lX5_numberLine 0 40 (by decide +kernel)
theorem dX5_numberLine_4 : decode cX5_numberLine 4 = .ok (.bipush 27, 2) := op_16 lX5_numberLine 27 (by decide +kernel)
theorem dX5_numberLine_6 : decode cX5_numberLine 6 = .ok (.if_icmp .lt 4, 3) := op_161 lX5_numberLine 0 4 (by decide +kernel)
theorem dX5_numberLine_9 : decode cX5_numberLine 9 = .ok (.return_, 1) := op_177 lX5_numberLine (by decide +kernel)
theorem dX5_numberLine_10 : decode cX5_numberLine 10 = .ok (.aload_n 0, 1) := op_42 lX5_numberLine (by decide +kernel)
theorem dX5_numberLine_11 : decode cX5_numberLine 11 = .ok (.getfield 9, 3) := op_180 lX5_numberLine 0 9 (by decide +kernel)
theorem dX5_numberLine_14 : decode cX5_numberLine 14 = .ok (.aload_n 0, 1) := op_42 lX5_numberLine (by decide +kernel)
theorem dX5_numberLine_15 : decode cX5_numberLine 15 = .ok (.getfield 40, 3) := op_180 lX5_numberLine 0 40 (by decide +kernel)
theorem dX5_numberLine_18 : decode cX5_numberLine 18 = .ok (.iload_n 1, 1) := op_27 lX5_numberLine (by decide +kernel)
theorem dX5_numberLine_19 : decode cX5_numberLine 19 = .ok (.iastore, 1) := op_79 lX5_numberLine (by decide +kernel)
theorem dX5_numberLine_20 : decode cX5_numberLine 20 = .ok (.aload_n 0, 1) := op_42 lX5_numberLine (by decide +kernel)
theorem dX5_numberLine_21 : decode cX5_numberLine 21 = .ok (.getfield 15, 3) := op_180 lX5_numberLine 0 15 (by decide +kernel)
theorem dX5_numberLine_24 : decode cX5_numberLine 24 = .ok (.aload_n 0, 1) := op_42 lX5_numberLine (by decide +kernel)
theorem dX5_numberLine_25 : decode cX5_numberLine 25 = .ok (.getfield 40, 3) := op_180 lX5_numberLine 0 40 (by decide +kernel)
theorem dX5_numberLine_28 : decode cX5_numberLine 28 = .ok (.iload_n 2, 1) := op_28 lX5_numberLine (by decide +kernel)
theorem dX5_numberLine_29 : decode cX5_numberLine 29 = .ok (.iastore, 1) := op_79 lX5_numberLine (by decide +kernel)
theorem dX5_numberLine_30 : decode cX5_numberLine 30 = .ok (.aload_n 0, 1) := op_42 lX5_numberLine (by decide +kernel)
theorem dX5_numberLine_31 : decode cX5_numberLine 31 = .ok (.getfield 18, 3) := op_180 lX5_numberLine 0 18 (by decide +kernel)
theorem dX5_numberLine_34 : decode cX5_numberLine 34 = .ok (.iload_n 1, 1) := op_27 lX5_numberLine (by decide +kernel)
theorem dX5_numberLine_35 : decode cX5_numberLine 35 = .ok (.bipush 9, 2) := op_16 lX5_numberLine 9 (by decide +kernel)
theorem dX5_numberLine_37 : decode cX5_numberLine 37 = .ok (.imul, 1) := op_104 lX5_numberLine (by decide +kernel)
theorem dX5_numberLine_38 : decode cX5_numberLine 38 = .ok (.iload_n 2, 1) := op_28 lX5_numberLine (by decide +kernel)
theorem dX5_numberLine_39 : decode cX5_numberLine 39 = .ok (.iadd, 1) := op_96 lX5_numberLine (by decide +kernel)
theorem dX5_numberLine_40 : decode cX5_numberLine 40 = .ok (.aload_n 0, 1) := op_42 lX5_numberLine (by decide +kernel)
theorem dX5_numberLine_41 : decode cX5_numberLine 41 = .ok (.getfield 40, 3) := op_180 lX5_numberLine 0 40 (by decide +kernel)
theorem dX5_numberLine_44 : decode cX5_numberLine 44 = .ok (.iastore, 1) := op_79 lX5_numberLine (by decide +kernel)
theorem dX5_numberLine_45 : decode cX5_numberLine 45 = .ok (.aload_n 0, 1) := op_42 lX5_numberLine (by decide +kernel)
theorem dX5_numberLine_46 : decode cX5_numberLine 46 = .ok (.getfield 18, 3) := op_180 lX5_numberLine 0 18 (by decide +kernel)
theorem dX5_numberLine_49 : decode cX5_numberLine 49 = .ok (.iload_n 2, 1) := op_28 lX5_numberLine (by decide +kernel)
theorem dX5_numberLine_50 : decode cX5_numberLine 50 = .ok (.bipush 9, 2) := op_16 lX5_numberLine 9 (by decide +kernel)
theorem dX5_numberLine_52 : decode cX5_numberLine 52 = .ok (.imul, 1) := op_104 lX5_numberLine (by decide +kernel)
theorem dX5_numberLine_53 : decode cX5_numberLine 53 = .ok (.iload_n 1, 1) := op_27 lX5_numberLine (by decide +kernel)
theorem dX5_numberLine_54 : decode cX5_numberLine 54 = .ok (.iadd, 1) := op_96 lX5_numberLine (by decide +kernel)
theorem dX5_numberLine_55 : decode cX5_numberLine 55 = .ok (.aload_n 0, 1) := op_42 lX5_numberLine (by decide +kernel)
theorem dX5_numberLine_56 : decode cX5_numberLine 56 = .ok (.getfield 40, 3) := op_180 lX5_numberLine 0 40 (by decide +kernel)
theorem dX5_numberLine_59 : decode cX5_numberLine 59 = .ok (.iastore, 1) := op_79 lX5_numberLine (by decide +kernel)
theorem dX5_numberLine_60 : decode cX5_numberLine 60 = .ok (.aload_n 0, 1) := op_42 lX5_numberLine (by decide +kernel)
theorem dX5_numberLine_61 : decode cX5_numberLine 61 = .ok (.getfield 24, 3) := op_180 lX5_numberLine 0 24 (by decide +kernel)
theorem dX5_numberLine_64 : decode cX5_numberLine 64 = .ok (.iload_n 1, 1) := op_27 lX5_numberLine (by decide +kernel)
theorem dX5_numberLine_65 : decode cX5_numberLine 65 = .ok (.dup2, 1) := op_92 lX5_numberLine (by decide +kernel)
theorem dX5_numberLine_66 : decode cX5_numberLine 66 = .ok (.iaload, 1) := op_46 lX5_numberLine (by decide +kernel)
theorem dX5_numberLine_67 : decode cX5_numberLine 67 = .ok (.iconst 1, 1) := op_4 lX5_numberLine (by decide +kernel)
theorem dX5_numberLine_68 : decode cX5_numberLine 68 = .ok (.aload_n 0, 1) := op_42 lX5_numberLine (by decide +kernel)
theorem dX5_numberLine_69 : decode cX5_numberLine 69 = .ok (.getfield 40, 3) := op_180 lX5_numberLine 0 40 (by decide +kernel)
theorem dX5_numberLine_72 : decode cX5_numberLine 72 = .ok (.ishl, 1) := op_120 lX5_numberLine (by decide +kernel)
theorem dX5_numberLine_73 : decode cX5_numberLine 73 = .ok (.ior, 1) := op_128 lX5_numberLine (by decide +kernel)
theorem dX5_numberLine_74 : decode cX5_numberLine 74 = .ok (.iastore, 1) := op_79 lX5_numberLine (by decide +kernel)
theorem dX5_numberLine_75 : decode cX5_numberLine 75 = .ok (.aload_n 0, 1) := op_42 lX5_numberLine (by decide +kernel)
theorem dX5_numberLine_76 : decode cX5_numberLine 76 = .ok (.getfield 24, 3) := op_180 lX5_numberLine 0 24 (by decide +kernel)
theorem dX5_numberLine_79 : decode cX5_numberLine 79 = .ok (.iload_n 2, 1) := op_28 lX5_numberLine (by decide +kernel)
theorem dX5_numberLine_80 : decode cX5_numberLine 80 = .ok (.dup2, 1) := op_92 lX5_numberLine (by decide +kernel)
theorem dX5_numberLine_81 : decode cX5_numberLine 81 = .ok (.iaload, 1) := op_46 lX5_numberLine (by decide +kernel)
theorem dX5_numberLine_82 : decode cX5_numberLine 82 = .ok (.iconst 1, 1) := op_4 lX5_numberLine (by decide +kernel)
theorem dX5_numberLine_83 : decode cX5_numberLine 83 = .ok (.aload_n 0, 1) := op_42 lX5_numberLine (by decide +kernel)
theorem dX5_numberLine_84 : decode cX5_numberLine 84 = .ok (.getfield 40, 3) := op_180 lX5_numberLine 0 40 (by decide +kernel)
theorem dX5_numberLine_87 : decode cX5_numberLine 87 = .ok (.ishl, 1) := op_120 lX5_numberLine (by decide +kernel)
theorem dX5_numberLine_88 : decode cX5_numberLine 88 = .ok (.ior, 1) := op_128 lX5_numberLine (by decide +kernel)
theorem dX5_numberLine_89 : decode cX5_numberLine 89 = .ok (.iastore, 1) := op_79 lX5_numberLine (by decide +kernel)
theorem dX5_numberLine_90 : decode cX5_numberLine 90 = .ok (.aload_n 0, 1) := op_42 lX5_numberLine (by decide +kernel)
theorem dX5_numberLine_91 : decode cX5_numberLine 91 = .ok (.dup, 1) := op_89 lX5_numberLine (by decide +kernel)
theorem dX5_numberLine_92 : decode cX5_numberLine 92 = .ok (.getfield 40, 3) := op_180 lX5_numberLine 0 40 (by decide +kernel)
theorem dX5_numberLine_95 : decode cX5_numberLine 95 = .ok (.iconst 1, 1) := op_4 lX5_numberLine (by decide +kernel)
theorem dX5_numberLine_96 : decode cX5_numberLine 96 = .ok (.iadd, 1) := op_96 lX5_numberLine (by decide +kernel)
theorem dX5_numberLine_97 : decode cX5_numberLine 97 = .ok (.putfield 40, 3) := op_181 lX5_numberLine 0 40 (by decide +kernel)
theorem dX5_numberLine_100 : decode cX5_numberLine 100 = .ok (.return_, 1) := op_177 lX5_numberLine (by decide +kernel)
def nX5_findCrossers : Nat := 0xb1bbffa7010184cbffa70102844f80781c042e5c1b1500b42a0f00993300b82e1c0f00b42a2e1c0900b42a2e1b0f00b42a2e1b0900b42a3300a22800b42a1c3d034300a22800b42a1b3c03
theorem lX5_findCrossers : cX5_findCrossers.data.toList = unp nX5_findCrossers 75 0 := by decide +kernel
theorem dX5_findCrossers_0 : decode cX5_findCrossers 0 = .ok (.iconst 0, 1) := op_3 lX5_findCrossers (by decide +kernel)
theorem dX5_findCrossers_1 : decode cX5_findCrossers 1 = .ok (.istore_n 1, 1) := op_60 lX5_findCrossers (by decide +kernel)
theorem dX5_findCrossers_2 : decode cX5_findCrossers 2 = .ok (.iload_n 1, 1) := op_27 lX5_findCrossers (by decide +kernel)
theorem dX5_findCrossers_3 : decode cX5_findCrossers 3 = .ok (.aload_n 0, 1) := op_42 lX5_findCrossers (by decide +kernel)
theorem dX5_findCrossers_4 : decode cX5_findCrossers 4 = .ok (.getfield 40, 3) := op_180 lX5_findCrossers 0 40 (by decide +kernel)
theorem dX5_findCrossers_7 : decode cX5_findCrossers 7 = .ok (.if_icmp .ge 67, 3) := op_162 lX5_findCrossers 0 67 (by decide +kernel)
theorem dX5_findCrossers_10 : decode cX5_findCrossers 10 = .ok (.iconst 0, 1) := op_3 lX5_findCrossers (by decide +kernel)
theorem dX5_findCrossers_11 : decode cX5_findCrossers 11 = .ok (.istore_n 2, 1) := op_61 lX5_findCrossers (by decide +kernel)
theorem dX5_findCrossers_12 : decode cX5_findCrossers 12 = .ok (.iload_n 2, 1) := op_28 lX5_findCrossers (by decide +kernel)
theorem dX5_findCrossers_13 : decode cX5_findCrossers 13 = .ok (.aload_n 0, 1) := op_42 lX5_findCrossers (by decide +kernel)
theorem dX5_findCrossers_14 : decode cX5_findCrossers 14 = .ok (.getfield 40, 3) := op_180 lX5_findCrossers 0 40 (by decide +kernel)
theorem dX5_findCrossers_17 : decode cX5_findCrossers 17 = .ok (.if_icmp .ge 51, 3) := op_162 lX5_findCrossers 0 51 (by decide +kernel)
theorem dX5_findCrossers_20 : decode cX5_findCrossers 20 = .ok (.aload_n 0, 1) := op_42 lX5_findCrossers (by decide +kernel)
theorem dX5_findCrossers_21 : decode cX5_findCrossers 21 = .ok (.getfield 9, 3) := op_180 lX5_findCrossers 0 9 (by decide +kernel)
theorem dX5_findCrossers_24 : decode cX5_findCrossers 24 = .ok (.iload_n 1, 1) := op_27 lX5_findCrossers (by decide +kernel)
theorem dX5_findCrossers_25 : decode cX5_findCrossers 25 = .ok (.iaload, 1) := op_46 lX5_findCrossers (by decide +kernel)
theorem dX5_findCrossers_26 : decode cX5_findCrossers 26 = .ok (.aload_n 0, 1) := op_42 lX5_findCrossers (by decide +kernel)
theorem dX5_findCrossers_27 : decode cX5_findCrossers 27 = .ok (.getfield 15, 3) := op_180 lX5_findCrossers 0 15 (by decide +kernel)
theorem dX5_findCrossers_30 : decode cX5_findCrossers 30 = .ok (.iload_n 1, 1) := op_27 lX5_findCrossers (by decide +kernel)
theorem dX5_findCrossers_31 : decode cX5_findCrossers 31 = .ok (.iaload, 1) := op_46 lX5_findCrossers (by decide +kernel)
theorem dX5_findCrossers_32 : decode cX5_findCrossers 32 = .ok (.aload_n 0, 1) := op_42 lX5_findCrossers (by decide +kernel)
theorem dX5_findCrossers_33 : decode cX5_findCrossers 33 = .ok (.getfield 9, 3) := op_180 lX5_findCrossers 0 9 (by decide +kernel)
theorem dX5_findCrossers_36 : decode cX5_findCrossers 36 = .ok (.iload_n 2, 1) := op_28 lX5_findCrossers (by decide +kernel)
theorem dX5_findCrossers_37 : decode cX5_findCrossers 37 = .ok (.iaload, 1) := op_46 lX5_findCrossers (by decide +kernel)
theorem dX5_findCrossers_38 : decode cX5_findCrossers 38 = .ok (.aload_n 0, 1) := op_42 lX5_findCrossers (by decide +kernel)
theorem dX5_findCrossers_39 : decode cX5_findCrossers 39 = .ok (.getfield 15, 3) := op_180 lX5_findCrossers 0 15 (by decide +kernel)
theorem dX5_findCrossers_42 : decode cX5_findCrossers 42 = .ok (.iload_n 2, 1) := op_28 lX5_findCrossers (by decide +kernel)
theorem dX5_findCrossers_43 : decode cX5_findCrossers 43 = .ok (.iaload, 1) := op_46 lX5_findCrossers (by decide +kernel)
theorem dX5_findCrossers_44 : decode cX5_findCrossers 44 = .ok (.invokestatic 51, 3) := op_184 lX5_findCrossers 0 51 (by decide +kernel)
theorem dX5_findCrossers_47 : decode cX5_findCrossers 47 = .ok (.ifCond .eq 15, 3) := op_153 lX5_findCrossers 0 15 (by decide +kernel)
theorem dX5_findCrossers_50 : decode cX5_findCrossers 50 = .ok (.aload_n 0, 1) := op_42 lX5_findCrossers (by decide +kernel)
theorem dX5_findCrossers_51 : decode cX5_findCrossers 51 = .ok (.getfield 21, 3) := op_180 lX5_findCrossers 0 21 (by decide +kernel)
theorem dX5_findCrossers_54 : decode cX5_findCrossers 54 = .ok (.iload_n 1, 1) := op_27 lX5_findCrossers (by decide +kernel)
theorem dX5_findCrossers_55 : decode cX5_findCrossers 55 = .ok (.dup2, 1) := op_92 lX5_findCrossers (by decide +kernel)
theorem dX5_findCrossers_56 : decode cX5_findCrossers 56 = .ok (.iaload, 1) := op_46 lX5_findCrossers (by decide +kernel)
theorem dX5_findCrossers_57 : decode cX5_findCrossers 57 = .ok (.iconst 1, 1) := op_4 lX5_findCrossers (by decide +kernel)
theorem dX5_findCrossers_58 : decode cX5_findCrossers 58 = .ok (.iload_n 2, 1) := op_28 lX5_findCrossers (by decide +kernel)
theorem dX5_findCrossers_59 : decode cX5_findCrossers 59 = .ok (.ishl, 1) := op_120 lX5_findCrossers (by decide +kernel)
theorem dX5_findCrossers_60 : decode cX5_findCrossers 60 = .ok (.ior, 1) := op_128 lX5_findCrossers (by decide +kernel)
theorem dX5_findCrossers_61 : decode cX5_findCrossers 61 = .ok (.iastore, 1) := op_79 lX5_findCrossers (by decide +kernel)
theorem dX5_findCrossers_62 : decode cX5_findCrossers 62 = .ok (.iinc 2 1, 3) := op_132 lX5_findCrossers 1 (by decide +kernel)
theorem dX5_findCrossers_65 : decode cX5_findCrossers 65 = .ok (.goto (-53), 3) := op_167 lX5_findCrossers 255 203 (by decide +kernel)
theorem dX5_findCrossers_68 : decode cX5_findCrossers 68 = .ok (.iinc 1 1, 3) := op_132 lX5_findCrossers 1 (by decide +kernel)
theorem dX5_findCrossers_71 : decode cX5_findCrossers 71 = .ok (.goto (-69), 3) := op_167 lX5_findCrossers 255 187 (by decide +kernel)
theorem dX5_findCrossers_74 : decode cX5_findCrossers 74 = .ok (.return_, 1) := op_177 lX5_findCrossers (by decide +kernel)
def nX5_cross : Nat := 0xac030400a7040700a21b1d0c00a21d1a1100a21a1c1200a11d1b0800a21b1c0d00a21c1a
theorem lX5_cross : cX5_cross.data.toList = unp nX5_cross 36 0 := by decide +kernel
theorem dX5_cross_0 : decode cX5_cross 0 = .ok (.iload_n 0, 1) := op_26 lX5_cross (by decide +kernel)
theorem dX5_cross_1 : decode cX5_cross 1 = .ok (.iload_n 2, 1) := op_28 lX5_cross (by decide +kernel)
theorem dX5_cross_2 : decode cX5_cross 2 = .ok (.if_icmp .ge 13, 3) := op_162 lX5_cross 0 13 (by decide +kernel)
theorem dX5_cross_5 : decode cX5_cross 5 = .ok (.iload_n 2, 1) := op_28 lX5_cross (by decide +kernel)
theorem dX5_cross_6 : decode cX5_cross 6 = .ok (.iload_n 1, 1) := op_27 lX5_cross (by decide +kernel)
theorem dX5_cross_7 : decode cX5_cross 7 = .ok (.if_icmp .ge 8, 3) := op_162 lX5_cross 0 8 (by decide +kernel)
theorem dX5_cross_10 : decode cX5_cross 10 = .ok (.iload_n 1, 1) := op_27 lX5_cross (by decide +kernel)
theorem dX5_cross_11 : decode cX5_cross 11 = .ok (.iload_n 3, 1) := op_29 lX5_cross (by decide +kernel)
theorem dX5_cross_12 : decode cX5_cross 12 = .ok (.if_icmp .lt 18, 3) := op_161 lX5_cross 0 18 (by decide +kernel)
theorem dX5_cross_15 : decode cX5_cross 15 = .ok (.iload_n 2, 1) := op_28 lX5_cross (by decide +kernel)
theorem dX5_cross_16 : decode cX5_cross 16 = .ok (.iload_n 0, 1) := op_26 lX5_cross (by decide +kernel)
theorem dX5_cross_17 : decode cX5_cross 17 = .ok (.if_icmp .ge 17, 3) := op_162 lX5_cross 0 17 (by decide +kernel)
theorem dX5_cross_20 : decode cX5_cross 20 = .ok (.iload_n 0, 1) := op_26 lX5_cross (by decide +kernel)
theorem dX5_cross_21 : decode cX5_cross 21 = .ok (.iload_n 3, 1) := op_29 lX5_cross (by decide +kernel)
theorem dX5_cross_22 : decode cX5_cross 22 = .ok (.if_icmp .ge 12, 3) := op_162 lX5_cross 0 12 (by decide +kernel)
theorem dX5_cross_25 : decode cX5_cross 25 = .ok (.iload_n 3, 1) := op_29 lX5_cross (by decide +kernel)
theorem dX5_cross_26 : decode cX5_cross 26 = .ok (.iload_n 1, 1) := op_27 lX5_cross (by decide +kernel)
theorem dX5_cross_27 : decode cX5_cross 27 = .ok (.if_icmp .ge 7, 3) := op_162 lX5_cross 0 7 (by decide +kernel)
theorem dX5_cross_30 : decode cX5_cross 30 = .ok (.iconst 1, 1) := op_4 lX5_cross (by decide +kernel)
theorem dX5_cross_31 : decode cX5_cross 31 = .ok (.goto 4, 3) := op_167 lX5_cross 0 4 (by decide +kernel)
theorem dX5_cross_34 : decode cX5_cross 34 = .ok (.iconst 0, 1) := op_3 lX5_cross (by decide +kernel)
theorem dX5_cross_35 : decode cX5_cross 35 = .ok (.ireturn, 1) := op_172 lX5_cross (by decide +kernel)
def nX5_gatherCuts : Nat := 0xb12b00b6640404157e82022e1b1500b42a06158005151c64041b2a1d00997e05151d2b00b6041506151c64041b2a06367e820205151d0536781b04b10400a204153b00b81d0c009b1bb13700b61c2a09009a0415
theorem lX5_gatherCuts : cX5_gatherCuts.data.toList = unp nX5_gatherCuts 84 0 := by decide +kernel
theorem dX5_gatherCuts_0 : decode cX5_gatherCuts 0 = .ok (.iload 4, 2) := op_21 lX5_gatherCuts (by decide +kernel)
theorem dX5_gatherCuts_2 : decode cX5_gatherCuts 2 = .ok (.ifCond .ne 9, 3) := op_154 lX5_gatherCuts 0 9 (by decide +kernel)
theorem dX5_gatherCuts_5 : decode cX5_gatherCuts 5 = .ok (.aload_n 0, 1) := op_42 lX5_gatherCuts (by decide +kernel)
theorem dX5_gatherCuts_6 : decode cX5_gatherCuts 6 = .ok (.iload_n 2, 1) := op_28 lX5_gatherCuts (by decide +kernel)
theorem dX5_gatherCuts_7 : decode cX5_gatherCuts 7 = .ok (.invokevirtual 55, 3) := op_182 lX5_gatherCuts 0 55 (by decide +kernel)
theorem dX5_gatherCuts_10 : decode cX5_gatherCuts 10 = .ok (.return_, 1) := op_177 lX5_gatherCuts (by decide +kernel)
theorem dX5_gatherCuts_11 : decode cX5_gatherCuts 11 = .ok (.iload_n 1, 1) := op_27 lX5_gatherCuts (by decide +kernel)
theorem dX5_gatherCuts_12 : decode cX5_gatherCuts 12 = .ok (.ifCond .lt 12, 3) := op_155 lX5_gatherCuts 0 12 (by decide +kernel)
theorem dX5_gatherCuts_15 : decode cX5_gatherCuts 15 = .ok (.iload_n 3, 1) := op_29 lX5_gatherCuts (by decide +kernel)
theorem dX5_gatherCuts_16 : decode cX5_gatherCuts 16 = .ok (.invokestatic 59, 3) := op_184 lX5_gatherCuts 0 59 (by decide +kernel)
theorem dX5_gatherCuts_19 : decode cX5_gatherCuts 19 = .ok (.iload 4, 2) := op_21 lX5_gatherCuts (by decide +kernel)
theorem dX5_gatherCuts_21 : decode cX5_gatherCuts 21 = .ok (.if_icmp .ge 4, 3) := op_162 lX5_gatherCuts 0 4 (by decide +kernel)
theorem dX5_gatherCuts_24 : decode cX5_gatherCuts 24 = .ok (.return_, 1) := op_177 lX5_gatherCuts (by decide +kernel)
theorem dX5_gatherCuts_25 : decode cX5_gatherCuts 25 = .ok (.iconst 1, 1) := op_4 lX5_gatherCuts (by decide +kernel)
theorem dX5_gatherCuts_26 : decode cX5_gatherCuts 26 = .ok (.iload_n 1, 1) := op_27 lX5_gatherCuts (by decide +kernel)
theorem dX5_gatherCuts_27 : decode cX5_gatherCuts 27 = .ok (.ishl, 1) := op_120 lX5_gatherCuts (by decide +kernel)
theorem dX5_gatherCuts_28 : decode cX5_gatherCuts 28 = .ok (.istore 5, 2) := op_54 lX5_gatherCuts (by decide +kernel)
theorem dX5_gatherCuts_30 : decode cX5_gatherCuts 30 = .ok (.iload_n 3, 1) := op_29 lX5_gatherCuts (by decide +kernel)
theorem dX5_gatherCuts_31 : decode cX5_gatherCuts 31 = .ok (.iload 5, 2) := op_21 lX5_gatherCuts (by decide +kernel)
theorem dX5_gatherCuts_33 : decode cX5_gatherCuts 33 = .ok (.iconst (-1), 1) := op_2 lX5_gatherCuts (by decide +kernel)
theorem dX5_gatherCuts_34 : decode cX5_gatherCuts 34 = .ok (.ixor, 1) := op_130 lX5_gatherCuts (by decide +kernel)
theorem dX5_gatherCuts_35 : decode cX5_gatherCuts 35 = .ok (.iand, 1) := op_126 lX5_gatherCuts (by decide +kernel)
theorem dX5_gatherCuts_36 : decode cX5_gatherCuts 36 = .ok (.istore 6, 2) := op_54 lX5_gatherCuts (by decide +kernel)
theorem dX5_gatherCuts_38 : decode cX5_gatherCuts 38 = .ok (.aload_n 0, 1) := op_42 lX5_gatherCuts (by decide +kernel)
theorem dX5_gatherCuts_39 : decode cX5_gatherCuts 39 = .ok (.iload_n 1, 1) := op_27 lX5_gatherCuts (by decide +kernel)
theorem dX5_gatherCuts_40 : decode cX5_gatherCuts 40 = .ok (.iconst 1, 1) := op_4 lX5_gatherCuts (by decide +kernel)
theorem dX5_gatherCuts_41 : decode cX5_gatherCuts 41 = .ok (.isub, 1) := op_100 lX5_gatherCuts (by decide +kernel)
theorem dX5_gatherCuts_42 : decode cX5_gatherCuts 42 = .ok (.iload_n 2, 1) := op_28 lX5_gatherCuts (by decide +kernel)
theorem dX5_gatherCuts_43 : decode cX5_gatherCuts 43 = .ok (.iload 6, 2) := op_21 lX5_gatherCuts (by decide +kernel)
theorem dX5_gatherCuts_45 : decode cX5_gatherCuts 45 = .ok (.iload 4, 2) := op_21 lX5_gatherCuts (by decide +kernel)
theorem dX5_gatherCuts_47 : decode cX5_gatherCuts 47 = .ok (.invokevirtual 43, 3) := op_182 lX5_gatherCuts 0 43 (by decide +kernel)
theorem dX5_gatherCuts_50 : decode cX5_gatherCuts 50 = .ok (.iload_n 3, 1) := op_29 lX5_gatherCuts (by decide +kernel)
theorem dX5_gatherCuts_51 : decode cX5_gatherCuts 51 = .ok (.iload 5, 2) := op_21 lX5_gatherCuts (by decide +kernel)
theorem dX5_gatherCuts_53 : decode cX5_gatherCuts 53 = .ok (.iand, 1) := op_126 lX5_gatherCuts (by decide +kernel)
theorem dX5_gatherCuts_54 : decode cX5_gatherCuts 54 = .ok (.ifCond .eq 29, 3) := op_153 lX5_gatherCuts 0 29 (by decide +kernel)
theorem dX5_gatherCuts_57 : decode cX5_gatherCuts 57 = .ok (.aload_n 0, 1) := op_42 lX5_gatherCuts (by decide +kernel)
theorem dX5_gatherCuts_58 : decode cX5_gatherCuts 58 = .ok (.iload_n 1, 1) := op_27 lX5_gatherCuts (by decide +kernel)
theorem dX5_gatherCuts_59 : decode cX5_gatherCuts 59 = .ok (.iconst 1, 1) := op_4 lX5_gatherCuts (by decide +kernel)
theorem dX5_gatherCuts_60 : decode cX5_gatherCuts 60 = .ok (.isub, 1) := op_100 lX5_gatherCuts (by decide +kernel)
theorem dX5_gatherCuts_61 : decode cX5_gatherCuts 61 = .ok (.iload_n 2, 1) := op_28 lX5_gatherCuts (by decide +kernel)
theorem dX5_gatherCuts_62 : decode cX5_gatherCuts 62 = .ok (.iload 5, 2) := op_21 lX5_gatherCuts (by decide +kernel)
theorem dX5_gatherCuts_64 : decode cX5_gatherCuts 64 = .ok (.ior, 1) := op_128 lX5_gatherCuts (by decide +kernel)
theorem dX5_gatherCuts_65 : decode cX5_gatherCuts 65 = .ok (.iload 6, 2) := op_21 lX5_gatherCuts (by decide +kernel)
theorem dX5_gatherCuts_67 : decode cX5_gatherCuts 67 = .ok (.aload_n 0, 1) := op_42 lX5_gatherCuts (by decide +kernel)
theorem dX5_gatherCuts_68 : decode cX5_gatherCuts 68 = .ok (.getfield 21, 3) := op_180 lX5_gatherCuts 0 21 (by decide +kernel)
theorem dX5_gatherCuts_71 : decode cX5_gatherCuts 71 = .ok (.iload_n 1, 1) := op_27 lX5_gatherCuts (by decide +kernel)
theorem dX5_gatherCuts_72 : decode cX5_gatherCuts 72 = .ok (.iaload, 1) := op_46 lX5_gatherCuts (by decide +kernel)
theorem dX5_gatherCuts_73 : decode cX5_gatherCuts 73 = .ok (.iconst (-1), 1) := op_2 lX5_gatherCuts (by decide +kernel)
theorem dX5_gatherCuts_74 : decode cX5_gatherCuts 74 = .ok (.ixor, 1) := op_130 lX5_gatherCuts (by decide +kernel)
theorem dX5_gatherCuts_75 : decode cX5_gatherCuts 75 = .ok (.iand, 1) := op_126 lX5_gatherCuts (by decide +kernel)
theorem dX5_gatherCuts_76 : decode cX5_gatherCuts 76 = .ok (.iload 4, 2) := op_21 lX5_gatherCuts (by decide +kernel)
theorem dX5_gatherCuts_78 : decode cX5_gatherCuts 78 = .ok (.iconst 1, 1) := op_4 lX5_gatherCuts (by decide +kernel)
theorem dX5_gatherCuts_79 : decode cX5_gatherCuts 79 = .ok (.isub, 1) := op_100 lX5_gatherCuts (by decide +kernel)
theorem dX5_gatherCuts_80 : decode cX5_gatherCuts 80 = .ok (.invokevirtual 43, 3) := op_182 lX5_gatherCuts 0 43 (by decide +kernel)
theorem dX5_gatherCuts_83 : decode cX5_gatherCuts 83 = .ok (.return_, 1) := op_177 lX5_gatherCuts (by decide +kernel)
def nX5_keepCut : Nat := 0xb14100b560044100b4592a4f1b4100b42a1b00b42a1700a2ad01114100b42a
theorem lX5_keepCut : cX5_keepCut.data.toList = unp nX5_keepCut 31 0 := by decide +kernel
theorem dX5_keepCut_0 : decode cX5_keepCut 0 = .ok (.aload_n 0, 1) := op_42 lX5_keepCut (by decide +kernel)
theorem dX5_keepCut_1 : decode cX5_keepCut 1 = .ok (.getfield 65, 3) := op_180 lX5_keepCut 0 65 (by decide +kernel)
theorem dX5_keepCut_4 : decode cX5_keepCut 4 = .ok (.sipush 429, 3) := op_17 lX5_keepCut 1 173 (by decide +kernel)
theorem dX5_keepCut_7 : decode cX5_keepCut 7 = .ok (.if_icmp .ge 23, 3) := op_162 lX5_keepCut 0 23 (by decide +kernel)
theorem dX5_keepCut_10 : decode cX5_keepCut 10 = .ok (.aload_n 0, 1) := op_42 lX5_keepCut (by decide +kernel)
theorem dX5_keepCut_11 : decode cX5_keepCut 11 = .ok (.getfield 27, 3) := op_180 lX5_keepCut 0 27 (by decide +kernel)
theorem dX5_keepCut_14 : decode cX5_keepCut 14 = .ok (.aload_n 0, 1) := op_42 lX5_keepCut (by decide +kernel)
theorem dX5_keepCut_15 : decode cX5_keepCut 15 = .ok (.getfield 65, 3) := op_180 lX5_keepCut 0 65 (by decide +kernel)
theorem dX5_keepCut_18 : decode cX5_keepCut 18 = .ok (.iload_n 1, 1) := op_27 lX5_keepCut (by decide +kernel)
theorem dX5_keepCut_19 : decode cX5_keepCut 19 = .ok (.iastore, 1) := op_79 lX5_keepCut (by decide +kernel)
theorem dX5_keepCut_20 : decode cX5_keepCut 20 = .ok (.aload_n 0, 1) := op_42 lX5_keepCut (by decide +kernel)
theorem dX5_keepCut_21 : decode cX5_keepCut 21 = .ok (.dup, 1) := op_89 lX5_keepCut (by decide +kernel)
theorem dX5_keepCut_22 : decode cX5_keepCut 22 = .ok (.getfield 65, 3) := op_180 lX5_keepCut 0 65 (by decide +kernel)
theorem dX5_keepCut_25 : decode cX5_keepCut 25 = .ok (.iconst 1, 1) := op_4 lX5_keepCut (by decide +kernel)
theorem dX5_keepCut_26 : decode cX5_keepCut 26 = .ok (.iadd, 1) := op_96 lX5_keepCut (by decide +kernel)
theorem dX5_keepCut_27 : decode cX5_keepCut 27 = .ok (.putfield 65, 3) := op_181 lX5_keepCut 0 65 (by decide +kernel)
theorem dX5_keepCut_30 : decode cX5_keepCut 30 = .ok (.return_, 1) := op_177 lX5_keepCut (by decide +kernel)
def nX5_corners : Nat := 0xac1e00b42a
theorem lX5_corners : cX5_corners.data.toList = unp nX5_corners 5 0 := by decide +kernel
theorem dX5_corners_0 : decode cX5_corners 0 = .ok (.aload_n 0, 1) := op_42 lX5_corners (by decide +kernel)
theorem dX5_corners_1 : decode cX5_corners 1 = .ok (.getfield 30, 3) := op_180 lX5_corners 0 30 (by decide +kernel)
theorem dX5_corners_4 : decode cX5_corners 4 = .ok (.ireturn, 1) := op_172 lX5_corners (by decide +kernel)
def nX5_lineCount : Nat := 0xac2800b42a
theorem lX5_lineCount : cX5_lineCount.data.toList = unp nX5_lineCount 5 0 := by decide +kernel
theorem dX5_lineCount_0 : decode cX5_lineCount 0 = .ok (.aload_n 0, 1) := op_42 lX5_lineCount (by decide +kernel)
theorem dX5_lineCount_1 : decode cX5_lineCount 1 = .ok (.getfield 40, 3) := op_180 lX5_lineCount 0 40 (by decide +kernel)
theorem dX5_lineCount_4 : decode cX5_lineCount 4 = .ok (.ireturn, 1) := op_172 lX5_lineCount (by decide +kernel)
def nX5_cutCount : Nat := 0xac4100b42a
theorem lX5_cutCount : cX5_cutCount.data.toList = unp nX5_cutCount 5 0 := by decide +kernel
theorem dX5_cutCount_0 : decode cX5_cutCount 0 = .ok (.aload_n 0, 1) := op_42 lX5_cutCount (by decide +kernel)
theorem dX5_cutCount_1 : decode cX5_cutCount 1 = .ok (.getfield 65, 3) := op_180 lX5_cutCount 0 65 (by decide +kernel)
theorem dX5_cutCount_4 : decode cX5_cutCount 4 = .ok (.ireturn, 1) := op_172 lX5_cutCount (by decide +kernel)
def nX5_hasCorner : Nat := 0xac030400a7040700a21e00b42a1b0f009b1b
theorem lX5_hasCorner : cX5_hasCorner.data.toList = unp nX5_hasCorner 18 0 := by decide +kernel
theorem dX5_hasCorner_0 : decode cX5_hasCorner 0 = .ok (.iload_n 1, 1) := op_27 lX5_hasCorner (by decide +kernel)
theorem dX5_hasCorner_1 : decode cX5_hasCorner 1 = .ok (.ifCond .lt 15, 3) := op_155 lX5_hasCorner 0 15 (by decide +kernel)
theorem dX5_hasCorner_4 : decode cX5_hasCorner 4 = .ok (.iload_n 1, 1) := op_27 lX5_hasCorner (by decide +kernel)
theorem dX5_hasCorner_5 : decode cX5_hasCorner 5 = .ok (.aload_n 0, 1) := op_42 lX5_hasCorner (by decide +kernel)
theorem dX5_hasCorner_6 : decode cX5_hasCorner 6 = .ok (.getfield 30, 3) := op_180 lX5_hasCorner 0 30 (by decide +kernel)
theorem dX5_hasCorner_9 : decode cX5_hasCorner 9 = .ok (.if_icmp .ge 7, 3) := op_162 lX5_hasCorner 0 7 (by decide +kernel)
theorem dX5_hasCorner_12 : decode cX5_hasCorner 12 = .ok (.iconst 1, 1) := op_4 lX5_hasCorner (by decide +kernel)
theorem dX5_hasCorner_13 : decode cX5_hasCorner 13 = .ok (.goto 4, 3) := op_167 lX5_hasCorner 0 4 (by decide +kernel)
theorem dX5_hasCorner_16 : decode cX5_hasCorner 16 = .ok (.iconst 0, 1) := op_3 lX5_hasCorner (by decide +kernel)
theorem dX5_hasCorner_17 : decode cX5_hasCorner 17 = .ok (.ireturn, 1) := op_172 lX5_hasCorner (by decide +kernel)
def nX5_hasCut : Nat := 0xac030400a7040700a24100b42a1b0f009b1b
theorem lX5_hasCut : cX5_hasCut.data.toList = unp nX5_hasCut 18 0 := by decide +kernel
theorem dX5_hasCut_0 : decode cX5_hasCut 0 = .ok (.iload_n 1, 1) := op_27 lX5_hasCut (by decide +kernel)
theorem dX5_hasCut_1 : decode cX5_hasCut 1 = .ok (.ifCond .lt 15, 3) := op_155 lX5_hasCut 0 15 (by decide +kernel)
theorem dX5_hasCut_4 : decode cX5_hasCut 4 = .ok (.iload_n 1, 1) := op_27 lX5_hasCut (by decide +kernel)
theorem dX5_hasCut_5 : decode cX5_hasCut 5 = .ok (.aload_n 0, 1) := op_42 lX5_hasCut (by decide +kernel)
theorem dX5_hasCut_6 : decode cX5_hasCut 6 = .ok (.getfield 65, 3) := op_180 lX5_hasCut 0 65 (by decide +kernel)
theorem dX5_hasCut_9 : decode cX5_hasCut 9 = .ok (.if_icmp .ge 7, 3) := op_162 lX5_hasCut 0 7 (by decide +kernel)
theorem dX5_hasCut_12 : decode cX5_hasCut 12 = .ok (.iconst 1, 1) := op_4 lX5_hasCut (by decide +kernel)
theorem dX5_hasCut_13 : decode cX5_hasCut 13 = .ok (.goto 4, 3) := op_167 lX5_hasCut 0 4 (by decide +kernel)
theorem dX5_hasCut_16 : decode cX5_hasCut 16 = .ok (.iconst 0, 1) := op_3 lX5_hasCut (by decide +kernel)
theorem dX5_hasCut_17 : decode cX5_hasCut 17 = .ok (.ireturn, 1) := op_172 lX5_hasCut (by decide +kernel)
def nX5_cutAt : Nat := 0xac020400a72e1b1b00b42a0c00994400b61b2a
theorem lX5_cutAt : cX5_cutAt.data.toList = unp nX5_cutAt 19 0 := by decide +kernel
theorem dX5_cutAt_0 : decode cX5_cutAt 0 = .ok (.aload_n 0, 1) := op_42 lX5_cutAt (by decide +kernel)
theorem dX5_cutAt_1 : decode cX5_cutAt 1 = .ok (.iload_n 1, 1) := op_27 lX5_cutAt (by decide +kernel)
theorem dX5_cutAt_2 : decode cX5_cutAt 2 = .ok (.invokevirtual 68, 3) := op_182 lX5_cutAt 0 68 (by decide +kernel)
theorem dX5_cutAt_5 : decode cX5_cutAt 5 = .ok (.ifCond .eq 12, 3) := op_153 lX5_cutAt 0 12 (by decide +kernel)
theorem dX5_cutAt_8 : decode cX5_cutAt 8 = .ok (.aload_n 0, 1) := op_42 lX5_cutAt (by decide +kernel)
theorem dX5_cutAt_9 : decode cX5_cutAt 9 = .ok (.getfield 27, 3) := op_180 lX5_cutAt 0 27 (by decide +kernel)
theorem dX5_cutAt_12 : decode cX5_cutAt 12 = .ok (.iload_n 1, 1) := op_27 lX5_cutAt (by decide +kernel)
theorem dX5_cutAt_13 : decode cX5_cutAt 13 = .ok (.iaload, 1) := op_46 lX5_cutAt (by decide +kernel)
theorem dX5_cutAt_14 : decode cX5_cutAt 14 = .ok (.goto 4, 3) := op_167 lX5_cutAt 0 4 (by decide +kernel)
theorem dX5_cutAt_17 : decode cX5_cutAt 17 = .ok (.iconst (-1), 1) := op_2 lX5_cutAt (by decide +kernel)
theorem dX5_cutAt_18 : decode cX5_cutAt 18 = .ok (.ireturn, 1) := op_172 lX5_cutAt (by decide +kernel)
def nX5_numberOf : Nat := 0xac02c3ffa70104843e640405150800a73d600405150b00a21b2e05151b00b42aac05150600a01b2e05151b00b42a05367a04601d1c3600a31d1c3b00a2ad011104150436033e64044100b42a3d03
theorem lX5_numberOf : cX5_numberOf.data.toList = unp nX5_numberOf 78 0 := by decide +kernel
theorem dX5_numberOf_0 : decode cX5_numberOf 0 = .ok (.iconst 0, 1) := op_3 lX5_numberOf (by decide +kernel)
theorem dX5_numberOf_1 : decode cX5_numberOf 1 = .ok (.istore_n 2, 1) := op_61 lX5_numberOf (by decide +kernel)
theorem dX5_numberOf_2 : decode cX5_numberOf 2 = .ok (.aload_n 0, 1) := op_42 lX5_numberOf (by decide +kernel)
theorem dX5_numberOf_3 : decode cX5_numberOf 3 = .ok (.getfield 65, 3) := op_180 lX5_numberOf 0 65 (by decide +kernel)
theorem dX5_numberOf_6 : decode cX5_numberOf 6 = .ok (.iconst 1, 1) := op_4 lX5_numberOf (by decide +kernel)
theorem dX5_numberOf_7 : decode cX5_numberOf 7 = .ok (.isub, 1) := op_100 lX5_numberOf (by decide +kernel)
theorem dX5_numberOf_8 : decode cX5_numberOf 8 = .ok (.istore_n 3, 1) := op_62 lX5_numberOf (by decide +kernel)
theorem dX5_numberOf_9 : decode cX5_numberOf 9 = .ok (.iconst 0, 1) := op_3 lX5_numberOf (by decide +kernel)
theorem dX5_numberOf_10 : decode cX5_numberOf 10 = .ok (.istore 4, 2) := op_54 lX5_numberOf (by decide +kernel)
theorem dX5_numberOf_12 : decode cX5_numberOf 12 = .ok (.iload 4, 2) := op_21 lX5_numberOf (by decide +kernel)
theorem dX5_numberOf_14 : decode cX5_numberOf 14 = .ok (.sipush 429, 3) := op_17 lX5_numberOf 1 173 (by decide +kernel)
theorem dX5_numberOf_17 : decode cX5_numberOf 17 = .ok (.if_icmp .ge 59, 3) := op_162 lX5_numberOf 0 59 (by decide +kernel)
theorem dX5_numberOf_20 : decode cX5_numberOf 20 = .ok (.iload_n 2, 1) := op_28 lX5_numberOf (by decide +kernel)
theorem dX5_numberOf_21 : decode cX5_numberOf 21 = .ok (.iload_n 3, 1) := op_29 lX5_numberOf (by decide +kernel)
theorem dX5_numberOf_22 : decode cX5_numberOf 22 = .ok (.if_icmp .gt 54, 3) := op_163 lX5_numberOf 0 54 (by decide +kernel)
theorem dX5_numberOf_25 : decode cX5_numberOf 25 = .ok (.iload_n 2, 1) := op_28 lX5_numberOf (by decide +kernel)
theorem dX5_numberOf_26 : decode cX5_numberOf 26 = .ok (.iload_n 3, 1) := op_29 lX5_numberOf (by decide +kernel)
theorem dX5_numberOf_27 : decode cX5_numberOf 27 = .ok (.iadd, 1) := op_96 lX5_numberOf (by decide +kernel)
theorem dX5_numberOf_28 : decode cX5_numberOf 28 = .ok (.iconst 1, 1) := op_4 lX5_numberOf (by decide +kernel)
theorem dX5_numberOf_29 : decode cX5_numberOf 29 = .ok (.ishr, 1) := op_122 lX5_numberOf (by decide +kernel)
theorem dX5_numberOf_30 : decode cX5_numberOf 30 = .ok (.istore 5, 2) := op_54 lX5_numberOf (by decide +kernel)
theorem dX5_numberOf_32 : decode cX5_numberOf 32 = .ok (.aload_n 0, 1) := op_42 lX5_numberOf (by decide +kernel)
theorem dX5_numberOf_33 : decode cX5_numberOf 33 = .ok (.getfield 27, 3) := op_180 lX5_numberOf 0 27 (by decide +kernel)
theorem dX5_numberOf_36 : decode cX5_numberOf 36 = .ok (.iload 5, 2) := op_21 lX5_numberOf (by decide +kernel)
theorem dX5_numberOf_38 : decode cX5_numberOf 38 = .ok (.iaload, 1) := op_46 lX5_numberOf (by decide +kernel)
theorem dX5_numberOf_39 : decode cX5_numberOf 39 = .ok (.iload_n 1, 1) := op_27 lX5_numberOf (by decide +kernel)
theorem dX5_numberOf_40 : decode cX5_numberOf 40 = .ok (.if_icmp .ne 6, 3) := op_160 lX5_numberOf 0 6 (by decide +kernel)
theorem dX5_numberOf_43 : decode cX5_numberOf 43 = .ok (.iload 5, 2) := op_21 lX5_numberOf (by decide +kernel)
theorem dX5_numberOf_45 : decode cX5_numberOf 45 = .ok (.ireturn, 1) := op_172 lX5_numberOf (by decide +kernel)
theorem dX5_numberOf_46 : decode cX5_numberOf 46 = .ok (.aload_n 0, 1) := op_42 lX5_numberOf (by decide +kernel)
theorem dX5_numberOf_47 : decode cX5_numberOf 47 = .ok (.getfield 27, 3) := op_180 lX5_numberOf 0 27 (by decide +kernel)
theorem dX5_numberOf_50 : decode cX5_numberOf 50 = .ok (.iload 5, 2) := op_21 lX5_numberOf (by decide +kernel)
theorem dX5_numberOf_52 : decode cX5_numberOf 52 = .ok (.iaload, 1) := op_46 lX5_numberOf (by decide +kernel)
theorem dX5_numberOf_53 : decode cX5_numberOf 53 = .ok (.iload_n 1, 1) := op_27 lX5_numberOf (by decide +kernel)
theorem dX5_numberOf_54 : decode cX5_numberOf 54 = .ok (.if_icmp .ge 11, 3) := op_162 lX5_numberOf 0 11 (by decide +kernel)
theorem dX5_numberOf_57 : decode cX5_numberOf 57 = .ok (.iload 5, 2) := op_21 lX5_numberOf (by decide +kernel)
theorem dX5_numberOf_59 : decode cX5_numberOf 59 = .ok (.iconst 1, 1) := op_4 lX5_numberOf (by decide +kernel)
theorem dX5_numberOf_60 : decode cX5_numberOf 60 = .ok (.iadd, 1) := op_96 lX5_numberOf (by decide +kernel)
theorem dX5_numberOf_61 : decode cX5_numberOf 61 = .ok (.istore_n 2, 1) := op_61 lX5_numberOf (by decide +kernel)
theorem dX5_numberOf_62 : decode cX5_numberOf 62 = .ok (.goto 8, 3) := op_167 lX5_numberOf 0 8 (by decide +kernel)
theorem dX5_numberOf_65 : decode cX5_numberOf 65 = .ok (.iload 5, 2) := op_21 lX5_numberOf (by decide +kernel)
theorem dX5_numberOf_67 : decode cX5_numberOf 67 = .ok (.iconst 1, 1) := op_4 lX5_numberOf (by decide +kernel)
theorem dX5_numberOf_68 : decode cX5_numberOf 68 = .ok (.isub, 1) := op_100 lX5_numberOf (by decide +kernel)
theorem dX5_numberOf_69 : decode cX5_numberOf 69 = .ok (.istore_n 3, 1) := op_62 lX5_numberOf (by decide +kernel)
theorem dX5_numberOf_70 : decode cX5_numberOf 70 = .ok (.iinc 4 1, 3) := op_132 lX5_numberOf 1 (by decide +kernel)
theorem dX5_numberOf_73 : decode cX5_numberOf 73 = .ok (.goto (-61), 3) := op_167 lX5_numberOf 255 195 (by decide +kernel)
theorem dX5_numberOf_76 : decode cX5_numberOf 76 = .ok (.iconst (-1), 1) := op_2 lX5_numberOf (by decide +kernel)
theorem dX5_numberOf_77 : decode cX5_numberOf 77 = .ok (.ireturn, 1) := op_172 lX5_numberOf (by decide +kernel)
def nX5_areNext : Nat := 0xac030400a7040700a064041e00b42a1d0d009f041d3e4800b8641c1b
theorem lX5_areNext : cX5_areNext.data.toList = unp nX5_areNext 28 0 := by decide +kernel
theorem dX5_areNext_0 : decode cX5_areNext 0 = .ok (.iload_n 1, 1) := op_27 lX5_areNext (by decide +kernel)
theorem dX5_areNext_1 : decode cX5_areNext 1 = .ok (.iload_n 2, 1) := op_28 lX5_areNext (by decide +kernel)
theorem dX5_areNext_2 : decode cX5_areNext 2 = .ok (.isub, 1) := op_100 lX5_areNext (by decide +kernel)
theorem dX5_areNext_3 : decode cX5_areNext 3 = .ok (.invokestatic 72, 3) := op_184 lX5_areNext 0 72 (by decide +kernel)
theorem dX5_areNext_6 : decode cX5_areNext 6 = .ok (.istore_n 3, 1) := op_62 lX5_areNext (by decide +kernel)
theorem dX5_areNext_7 : decode cX5_areNext 7 = .ok (.iload_n 3, 1) := op_29 lX5_areNext (by decide +kernel)
theorem dX5_areNext_8 : decode cX5_areNext 8 = .ok (.iconst 1, 1) := op_4 lX5_areNext (by decide +kernel)
theorem dX5_areNext_9 : decode cX5_areNext 9 = .ok (.if_icmp .eq 13, 3) := op_159 lX5_areNext 0 13 (by decide +kernel)
theorem dX5_areNext_12 : decode cX5_areNext 12 = .ok (.iload_n 3, 1) := op_29 lX5_areNext (by decide +kernel)
theorem dX5_areNext_13 : decode cX5_areNext 13 = .ok (.aload_n 0, 1) := op_42 lX5_areNext (by decide +kernel)
theorem dX5_areNext_14 : decode cX5_areNext 14 = .ok (.getfield 30, 3) := op_180 lX5_areNext 0 30 (by decide +kernel)
theorem dX5_areNext_17 : decode cX5_areNext 17 = .ok (.iconst 1, 1) := op_4 lX5_areNext (by decide +kernel)
theorem dX5_areNext_18 : decode cX5_areNext 18 = .ok (.isub, 1) := op_100 lX5_areNext (by decide +kernel)
theorem dX5_areNext_19 : decode cX5_areNext 19 = .ok (.if_icmp .ne 7, 3) := op_160 lX5_areNext 0 7 (by decide +kernel)
theorem dX5_areNext_22 : decode cX5_areNext 22 = .ok (.iconst 1, 1) := op_4 lX5_areNext (by decide +kernel)
theorem dX5_areNext_23 : decode cX5_areNext 23 = .ok (.goto 4, 3) := op_167 lX5_areNext 0 4 (by decide +kernel)
theorem dX5_areNext_26 : decode cX5_areNext 26 = .ok (.iconst 0, 1) := op_3 lX5_areNext (by decide +kernel)
theorem dX5_areNext_27 : decode cX5_areNext 27 = .ok (.ireturn, 1) := op_172 lX5_areNext (by decide +kernel)
def nX5_lineOf : Nat := 0xac020400a72e601c6809101b1200b42a1100994d00b61c2a1900994d00b61b2a
theorem lX5_lineOf : cX5_lineOf.data.toList = unp nX5_lineOf 32 0 := by decide +kernel
theorem dX5_lineOf_0 : decode cX5_lineOf 0 = .ok (.aload_n 0, 1) := op_42 lX5_lineOf (by decide +kernel)
theorem dX5_lineOf_1 : decode cX5_lineOf 1 = .ok (.iload_n 1, 1) := op_27 lX5_lineOf (by decide +kernel)
theorem dX5_lineOf_2 : decode cX5_lineOf 2 = .ok (.invokevirtual 77, 3) := op_182 lX5_lineOf 0 77 (by decide +kernel)
theorem dX5_lineOf_5 : decode cX5_lineOf 5 = .ok (.ifCond .eq 25, 3) := op_153 lX5_lineOf 0 25 (by decide +kernel)
theorem dX5_lineOf_8 : decode cX5_lineOf 8 = .ok (.aload_n 0, 1) := op_42 lX5_lineOf (by decide +kernel)
theorem dX5_lineOf_9 : decode cX5_lineOf 9 = .ok (.iload_n 2, 1) := op_28 lX5_lineOf (by decide +kernel)
theorem dX5_lineOf_10 : decode cX5_lineOf 10 = .ok (.invokevirtual 77, 3) := op_182 lX5_lineOf 0 77 (by decide +kernel)
theorem dX5_lineOf_13 : decode cX5_lineOf 13 = .ok (.ifCond .eq 17, 3) := op_153 lX5_lineOf 0 17 (by decide +kernel)
theorem dX5_lineOf_16 : decode cX5_lineOf 16 = .ok (.aload_n 0, 1) := op_42 lX5_lineOf (by decide +kernel)
theorem dX5_lineOf_17 : decode cX5_lineOf 17 = .ok (.getfield 18, 3) := op_180 lX5_lineOf 0 18 (by decide +kernel)
theorem dX5_lineOf_20 : decode cX5_lineOf 20 = .ok (.iload_n 1, 1) := op_27 lX5_lineOf (by decide +kernel)
theorem dX5_lineOf_21 : decode cX5_lineOf 21 = .ok (.bipush 9, 2) := op_16 lX5_lineOf 9 (by decide +kernel)
theorem dX5_lineOf_23 : decode cX5_lineOf 23 = .ok (.imul, 1) := op_104 lX5_lineOf (by decide +kernel)
theorem dX5_lineOf_24 : decode cX5_lineOf 24 = .ok (.iload_n 2, 1) := op_28 lX5_lineOf (by decide +kernel)
theorem dX5_lineOf_25 : decode cX5_lineOf 25 = .ok (.iadd, 1) := op_96 lX5_lineOf (by decide +kernel)
theorem dX5_lineOf_26 : decode cX5_lineOf 26 = .ok (.iaload, 1) := op_46 lX5_lineOf (by decide +kernel)
theorem dX5_lineOf_27 : decode cX5_lineOf 27 = .ok (.goto 4, 3) := op_167 lX5_lineOf 0 4 (by decide +kernel)
theorem dX5_lineOf_30 : decode cX5_lineOf 30 = .ok (.iconst (-1), 1) := op_2 lX5_lineOf (by decide +kernel)
theorem dX5_lineOf_31 : decode cX5_lineOf 31 = .ok (.ireturn, 1) := op_172 lX5_lineOf (by decide +kernel)
def nX5_pairOf : Nat := 0xac020400a7602e1b0f00b42a682e1b0900b42a10101600995000b61b2a
theorem lX5_pairOf : cX5_pairOf.data.toList = unp nX5_pairOf 29 0 := by decide +kernel
theorem dX5_pairOf_0 : decode cX5_pairOf 0 = .ok (.aload_n 0, 1) := op_42 lX5_pairOf (by decide +kernel)
theorem dX5_pairOf_1 : decode cX5_pairOf 1 = .ok (.iload_n 1, 1) := op_27 lX5_pairOf (by decide +kernel)
theorem dX5_pairOf_2 : decode cX5_pairOf 2 = .ok (.invokevirtual 80, 3) := op_182 lX5_pairOf 0 80 (by decide +kernel)
theorem dX5_pairOf_5 : decode cX5_pairOf 5 = .ok (.ifCond .eq 22, 3) := op_153 lX5_pairOf 0 22 (by decide +kernel)
theorem dX5_pairOf_8 : decode cX5_pairOf 8 = .ok (.bipush 16, 2) := op_16 lX5_pairOf 16 (by decide +kernel)
theorem dX5_pairOf_10 : decode cX5_pairOf 10 = .ok (.aload_n 0, 1) := op_42 lX5_pairOf (by decide +kernel)
theorem dX5_pairOf_11 : decode cX5_pairOf 11 = .ok (.getfield 9, 3) := op_180 lX5_pairOf 0 9 (by decide +kernel)
theorem dX5_pairOf_14 : decode cX5_pairOf 14 = .ok (.iload_n 1, 1) := op_27 lX5_pairOf (by decide +kernel)
theorem dX5_pairOf_15 : decode cX5_pairOf 15 = .ok (.iaload, 1) := op_46 lX5_pairOf (by decide +kernel)
theorem dX5_pairOf_16 : decode cX5_pairOf 16 = .ok (.imul, 1) := op_104 lX5_pairOf (by decide +kernel)
theorem dX5_pairOf_17 : decode cX5_pairOf 17 = .ok (.aload_n 0, 1) := op_42 lX5_pairOf (by decide +kernel)
theorem dX5_pairOf_18 : decode cX5_pairOf 18 = .ok (.getfield 15, 3) := op_180 lX5_pairOf 0 15 (by decide +kernel)
theorem dX5_pairOf_21 : decode cX5_pairOf 21 = .ok (.iload_n 1, 1) := op_27 lX5_pairOf (by decide +kernel)
theorem dX5_pairOf_22 : decode cX5_pairOf 22 = .ok (.iaload, 1) := op_46 lX5_pairOf (by decide +kernel)
theorem dX5_pairOf_23 : decode cX5_pairOf 23 = .ok (.iadd, 1) := op_96 lX5_pairOf (by decide +kernel)
theorem dX5_pairOf_24 : decode cX5_pairOf 24 = .ok (.goto 4, 3) := op_167 lX5_pairOf 0 4 (by decide +kernel)
theorem dX5_pairOf_27 : decode cX5_pairOf 27 = .ok (.iconst (-1), 1) := op_2 lX5_pairOf (by decide +kernel)
theorem dX5_pairOf_28 : decode cX5_pairOf 28 = .ok (.ireturn, 1) := op_172 lX5_pairOf (by decide +kernel)
def nX5_lesserOf : Nat := 0xac020400a72e1b0900b42a0c00995000b61b2a
theorem lX5_lesserOf : cX5_lesserOf.data.toList = unp nX5_lesserOf 19 0 := by decide +kernel
theorem dX5_lesserOf_0 : decode cX5_lesserOf 0 = .ok (.aload_n 0, 1) := op_42 lX5_lesserOf (by decide +kernel)
theorem dX5_lesserOf_1 : decode cX5_lesserOf 1 = .ok (.iload_n 1, 1) := op_27 lX5_lesserOf (by decide +kernel)
theorem dX5_lesserOf_2 : decode cX5_lesserOf 2 = .ok (.invokevirtual 80, 3) := op_182 lX5_lesserOf 0 80 (by decide +kernel)
theorem dX5_lesserOf_5 : decode cX5_lesserOf 5 = .ok (.ifCond .eq 12, 3) := op_153 lX5_lesserOf 0 12 (by decide +kernel)
theorem dX5_lesserOf_8 : decode cX5_lesserOf 8 = .ok (.aload_n 0, 1) := op_42 lX5_lesserOf (by decide +kernel)
theorem dX5_lesserOf_9 : decode cX5_lesserOf 9 = .ok (.getfield 9, 3) := op_180 lX5_lesserOf 0 9 (by decide +kernel)
theorem dX5_lesserOf_12 : decode cX5_lesserOf 12 = .ok (.iload_n 1, 1) := op_27 lX5_lesserOf (by decide +kernel)
theorem dX5_lesserOf_13 : decode cX5_lesserOf 13 = .ok (.iaload, 1) := op_46 lX5_lesserOf (by decide +kernel)
theorem dX5_lesserOf_14 : decode cX5_lesserOf 14 = .ok (.goto 4, 3) := op_167 lX5_lesserOf 0 4 (by decide +kernel)
theorem dX5_lesserOf_17 : decode cX5_lesserOf 17 = .ok (.iconst (-1), 1) := op_2 lX5_lesserOf (by decide +kernel)
theorem dX5_lesserOf_18 : decode cX5_lesserOf 18 = .ok (.ireturn, 1) := op_172 lX5_lesserOf (by decide +kernel)
def nX5_greaterOf : Nat := 0xac020400a72e1b0f00b42a0c00995000b61b2a
theorem lX5_greaterOf : cX5_greaterOf.data.toList = unp nX5_greaterOf 19 0 := by decide +kernel
theorem dX5_greaterOf_0 : decode cX5_greaterOf 0 = .ok (.aload_n 0, 1) := op_42 lX5_greaterOf (by decide +kernel)
theorem dX5_greaterOf_1 : decode cX5_greaterOf 1 = .ok (.iload_n 1, 1) := op_27 lX5_greaterOf (by decide +kernel)
theorem dX5_greaterOf_2 : decode cX5_greaterOf 2 = .ok (.invokevirtual 80, 3) := op_182 lX5_greaterOf 0 80 (by decide +kernel)
theorem dX5_greaterOf_5 : decode cX5_greaterOf 5 = .ok (.ifCond .eq 12, 3) := op_153 lX5_greaterOf 0 12 (by decide +kernel)
theorem dX5_greaterOf_8 : decode cX5_greaterOf 8 = .ok (.aload_n 0, 1) := op_42 lX5_greaterOf (by decide +kernel)
theorem dX5_greaterOf_9 : decode cX5_greaterOf 9 = .ok (.getfield 15, 3) := op_180 lX5_greaterOf 0 15 (by decide +kernel)
theorem dX5_greaterOf_12 : decode cX5_greaterOf 12 = .ok (.iload_n 1, 1) := op_27 lX5_greaterOf (by decide +kernel)
theorem dX5_greaterOf_13 : decode cX5_greaterOf 13 = .ok (.iaload, 1) := op_46 lX5_greaterOf (by decide +kernel)
theorem dX5_greaterOf_14 : decode cX5_greaterOf 14 = .ok (.goto 4, 3) := op_167 lX5_greaterOf 0 4 (by decide +kernel)
theorem dX5_greaterOf_17 : decode cX5_greaterOf 17 = .ok (.iconst (-1), 1) := op_2 lX5_greaterOf (by decide +kernel)
theorem dX5_greaterOf_18 : decode cX5_greaterOf 18 = .ok (.ireturn, 1) := op_172 lX5_greaterOf (by decide +kernel)
def nX5_crossersOf : Nat := 0xac030400a72e1b1500b42a0c00995000b61b2a
theorem lX5_crossersOf : cX5_crossersOf.data.toList = unp nX5_crossersOf 19 0 := by decide +kernel
theorem dX5_crossersOf_0 : decode cX5_crossersOf 0 = .ok (.aload_n 0, 1) := op_42 lX5_crossersOf (by decide +kernel)
theorem dX5_crossersOf_1 : decode cX5_crossersOf 1 = .ok (.iload_n 1, 1) := op_27 lX5_crossersOf (by decide +kernel)
theorem dX5_crossersOf_2 : decode cX5_crossersOf 2 = .ok (.invokevirtual 80, 3) := op_182 lX5_crossersOf 0 80 (by decide +kernel)
theorem dX5_crossersOf_5 : decode cX5_crossersOf 5 = .ok (.ifCond .eq 12, 3) := op_153 lX5_crossersOf 0 12 (by decide +kernel)
theorem dX5_crossersOf_8 : decode cX5_crossersOf 8 = .ok (.aload_n 0, 1) := op_42 lX5_crossersOf (by decide +kernel)
theorem dX5_crossersOf_9 : decode cX5_crossersOf 9 = .ok (.getfield 21, 3) := op_180 lX5_crossersOf 0 21 (by decide +kernel)
theorem dX5_crossersOf_12 : decode cX5_crossersOf 12 = .ok (.iload_n 1, 1) := op_27 lX5_crossersOf (by decide +kernel)
theorem dX5_crossersOf_13 : decode cX5_crossersOf 13 = .ok (.iaload, 1) := op_46 lX5_crossersOf (by decide +kernel)
theorem dX5_crossersOf_14 : decode cX5_crossersOf 14 = .ok (.goto 4, 3) := op_167 lX5_crossersOf 0 4 (by decide +kernel)
theorem dX5_crossersOf_17 : decode cX5_crossersOf 17 = .ok (.iconst 0, 1) := op_3 lX5_crossersOf (by decide +kernel)
theorem dX5_crossersOf_18 : decode cX5_crossersOf 18 = .ok (.ireturn, 1) := op_172 lX5_crossersOf (by decide +kernel)
def nX5_hasLine : Nat := 0xac030400a7040700a22800b42a1b0f009b1b
theorem lX5_hasLine : cX5_hasLine.data.toList = unp nX5_hasLine 18 0 := by decide +kernel
theorem dX5_hasLine_0 : decode cX5_hasLine 0 = .ok (.iload_n 1, 1) := op_27 lX5_hasLine (by decide +kernel)
theorem dX5_hasLine_1 : decode cX5_hasLine 1 = .ok (.ifCond .lt 15, 3) := op_155 lX5_hasLine 0 15 (by decide +kernel)
theorem dX5_hasLine_4 : decode cX5_hasLine 4 = .ok (.iload_n 1, 1) := op_27 lX5_hasLine (by decide +kernel)
theorem dX5_hasLine_5 : decode cX5_hasLine 5 = .ok (.aload_n 0, 1) := op_42 lX5_hasLine (by decide +kernel)
theorem dX5_hasLine_6 : decode cX5_hasLine 6 = .ok (.getfield 40, 3) := op_180 lX5_hasLine 0 40 (by decide +kernel)
theorem dX5_hasLine_9 : decode cX5_hasLine 9 = .ok (.if_icmp .ge 7, 3) := op_162 lX5_hasLine 0 7 (by decide +kernel)
theorem dX5_hasLine_12 : decode cX5_hasLine 12 = .ok (.iconst 1, 1) := op_4 lX5_hasLine (by decide +kernel)
theorem dX5_hasLine_13 : decode cX5_hasLine 13 = .ok (.goto 4, 3) := op_167 lX5_hasLine 0 4 (by decide +kernel)
theorem dX5_hasLine_16 : decode cX5_hasLine 16 = .ok (.iconst 0, 1) := op_3 lX5_hasLine (by decide +kernel)
theorem dX5_hasLine_17 : decode cX5_hasLine 17 = .ok (.ireturn, 1) := op_172 lX5_hasLine (by decide +kernel)
def nX5_has : Nat := 0xac030400a7040700997e047a1c1b0f00995000b61c2a
theorem lX5_has : cX5_has.data.toList = unp nX5_has 22 0 := by decide +kernel
theorem dX5_has_0 : decode cX5_has 0 = .ok (.aload_n 0, 1) := op_42 lX5_has (by decide +kernel)
theorem dX5_has_1 : decode cX5_has 1 = .ok (.iload_n 2, 1) := op_28 lX5_has (by decide +kernel)
theorem dX5_has_2 : decode cX5_has 2 = .ok (.invokevirtual 80, 3) := op_182 lX5_has 0 80 (by decide +kernel)
theorem dX5_has_5 : decode cX5_has 5 = .ok (.ifCond .eq 15, 3) := op_153 lX5_has 0 15 (by decide +kernel)
theorem dX5_has_8 : decode cX5_has 8 = .ok (.iload_n 1, 1) := op_27 lX5_has (by decide +kernel)
theorem dX5_has_9 : decode cX5_has 9 = .ok (.iload_n 2, 1) := op_28 lX5_has (by decide +kernel)
theorem dX5_has_10 : decode cX5_has 10 = .ok (.ishr, 1) := op_122 lX5_has (by decide +kernel)
theorem dX5_has_11 : decode cX5_has 11 = .ok (.iconst 1, 1) := op_4 lX5_has (by decide +kernel)
theorem dX5_has_12 : decode cX5_has 12 = .ok (.iand, 1) := op_126 lX5_has (by decide +kernel)
theorem dX5_has_13 : decode cX5_has 13 = .ok (.ifCond .eq 7, 3) := op_153 lX5_has 0 7 (by decide +kernel)
theorem dX5_has_16 : decode cX5_has 16 = .ok (.iconst 1, 1) := op_4 lX5_has (by decide +kernel)
theorem dX5_has_17 : decode cX5_has 17 = .ok (.goto 4, 3) := op_167 lX5_has 0 4 (by decide +kernel)
theorem dX5_has_20 : decode cX5_has 20 = .ok (.iconst 0, 1) := op_3 lX5_has (by decide +kernel)
theorem dX5_has_21 : decode cX5_has 21 = .ok (.ireturn, 1) := op_172 lX5_has (by decide +kernel)
def nX5_areJoined : Nat := 0xac030400a7040700995b00b65700b61d1c2a1b2a11009a5300b61d1c2a
theorem lX5_areJoined : cX5_areJoined.data.toList = unp nX5_areJoined 29 0 := by decide +kernel
theorem dX5_areJoined_0 : decode cX5_areJoined 0 = .ok (.aload_n 0, 1) := op_42 lX5_areJoined (by decide +kernel)
theorem dX5_areJoined_1 : decode cX5_areJoined 1 = .ok (.iload_n 2, 1) := op_28 lX5_areJoined (by decide +kernel)
theorem dX5_areJoined_2 : decode cX5_areJoined 2 = .ok (.iload_n 3, 1) := op_29 lX5_areJoined (by decide +kernel)
theorem dX5_areJoined_3 : decode cX5_areJoined 3 = .ok (.invokevirtual 83, 3) := op_182 lX5_areJoined 0 83 (by decide +kernel)
theorem dX5_areJoined_6 : decode cX5_areJoined 6 = .ok (.ifCond .ne 17, 3) := op_154 lX5_areJoined 0 17 (by decide +kernel)
theorem dX5_areJoined_9 : decode cX5_areJoined 9 = .ok (.aload_n 0, 1) := op_42 lX5_areJoined (by decide +kernel)
theorem dX5_areJoined_10 : decode cX5_areJoined 10 = .ok (.iload_n 1, 1) := op_27 lX5_areJoined (by decide +kernel)
theorem dX5_areJoined_11 : decode cX5_areJoined 11 = .ok (.aload_n 0, 1) := op_42 lX5_areJoined (by decide +kernel)
theorem dX5_areJoined_12 : decode cX5_areJoined 12 = .ok (.iload_n 2, 1) := op_28 lX5_areJoined (by decide +kernel)
theorem dX5_areJoined_13 : decode cX5_areJoined 13 = .ok (.iload_n 3, 1) := op_29 lX5_areJoined (by decide +kernel)
theorem dX5_areJoined_14 : decode cX5_areJoined 14 = .ok (.invokevirtual 87, 3) := op_182 lX5_areJoined 0 87 (by decide +kernel)
theorem dX5_areJoined_17 : decode cX5_areJoined 17 = .ok (.invokevirtual 91, 3) := op_182 lX5_areJoined 0 91 (by decide +kernel)
theorem dX5_areJoined_20 : decode cX5_areJoined 20 = .ok (.ifCond .eq 7, 3) := op_153 lX5_areJoined 0 7 (by decide +kernel)
theorem dX5_areJoined_23 : decode cX5_areJoined 23 = .ok (.iconst 1, 1) := op_4 lX5_areJoined (by decide +kernel)
theorem dX5_areJoined_24 : decode cX5_areJoined 24 = .ok (.goto 4, 3) := op_167 lX5_areJoined 0 4 (by decide +kernel)
theorem dX5_areJoined_27 : decode cX5_areJoined 27 = .ok (.iconst 0, 1) := op_3 lX5_areJoined (by decide +kernel)
theorem dX5_areJoined_28 : decode cX5_areJoined 28 = .ok (.ireturn, 1) := op_172 lX5_areJoined (by decide +kernel)
def nX5_ahead : Nat := 0xac601e00b42a641b1c0b00a7641b1c0900a11b1c
theorem lX5_ahead : cX5_ahead.data.toList = unp nX5_ahead 20 0 := by decide +kernel
theorem dX5_ahead_0 : decode cX5_ahead 0 = .ok (.iload_n 2, 1) := op_28 lX5_ahead (by decide +kernel)
theorem dX5_ahead_1 : decode cX5_ahead 1 = .ok (.iload_n 1, 1) := op_27 lX5_ahead (by decide +kernel)
theorem dX5_ahead_2 : decode cX5_ahead 2 = .ok (.if_icmp .lt 9, 3) := op_161 lX5_ahead 0 9 (by decide +kernel)
theorem dX5_ahead_5 : decode cX5_ahead 5 = .ok (.iload_n 2, 1) := op_28 lX5_ahead (by decide +kernel)
theorem dX5_ahead_6 : decode cX5_ahead 6 = .ok (.iload_n 1, 1) := op_27 lX5_ahead (by decide +kernel)
theorem dX5_ahead_7 : decode cX5_ahead 7 = .ok (.isub, 1) := op_100 lX5_ahead (by decide +kernel)
theorem dX5_ahead_8 : decode cX5_ahead 8 = .ok (.goto 11, 3) := op_167 lX5_ahead 0 11 (by decide +kernel)
theorem dX5_ahead_11 : decode cX5_ahead 11 = .ok (.iload_n 2, 1) := op_28 lX5_ahead (by decide +kernel)
theorem dX5_ahead_12 : decode cX5_ahead 12 = .ok (.iload_n 1, 1) := op_27 lX5_ahead (by decide +kernel)
theorem dX5_ahead_13 : decode cX5_ahead 13 = .ok (.isub, 1) := op_100 lX5_ahead (by decide +kernel)
theorem dX5_ahead_14 : decode cX5_ahead 14 = .ok (.aload_n 0, 1) := op_42 lX5_ahead (by decide +kernel)
theorem dX5_ahead_15 : decode cX5_ahead 15 = .ok (.getfield 30, 3) := op_180 lX5_ahead 0 30 (by decide +kernel)
theorem dX5_ahead_18 : decode cX5_ahead 18 = .ok (.iadd, 1) := op_96 lX5_ahead (by decide +kernel)
theorem dX5_ahead_19 : decode cX5_ahead 19 = .ok (.ireturn, 1) := op_172 lX5_ahead (by decide +kernel)
def nX5_trianglesAt : Nat := 0xac030400a7603b00b87e2e1c1800b42a1b041300994d00b61c2a
theorem lX5_trianglesAt : cX5_trianglesAt.data.toList = unp nX5_trianglesAt 26 0 := by decide +kernel
theorem dX5_trianglesAt_0 : decode cX5_trianglesAt 0 = .ok (.aload_n 0, 1) := op_42 lX5_trianglesAt (by decide +kernel)
theorem dX5_trianglesAt_1 : decode cX5_trianglesAt 1 = .ok (.iload_n 2, 1) := op_28 lX5_trianglesAt (by decide +kernel)
theorem dX5_trianglesAt_2 : decode cX5_trianglesAt 2 = .ok (.invokevirtual 77, 3) := op_182 lX5_trianglesAt 0 77 (by decide +kernel)
theorem dX5_trianglesAt_5 : decode cX5_trianglesAt 5 = .ok (.ifCond .eq 19, 3) := op_153 lX5_trianglesAt 0 19 (by decide +kernel)
theorem dX5_trianglesAt_8 : decode cX5_trianglesAt 8 = .ok (.iconst 1, 1) := op_4 lX5_trianglesAt (by decide +kernel)
theorem dX5_trianglesAt_9 : decode cX5_trianglesAt 9 = .ok (.iload_n 1, 1) := op_27 lX5_trianglesAt (by decide +kernel)
theorem dX5_trianglesAt_10 : decode cX5_trianglesAt 10 = .ok (.aload_n 0, 1) := op_42 lX5_trianglesAt (by decide +kernel)
theorem dX5_trianglesAt_11 : decode cX5_trianglesAt 11 = .ok (.getfield 24, 3) := op_180 lX5_trianglesAt 0 24 (by decide +kernel)
theorem dX5_trianglesAt_14 : decode cX5_trianglesAt 14 = .ok (.iload_n 2, 1) := op_28 lX5_trianglesAt (by decide +kernel)
theorem dX5_trianglesAt_15 : decode cX5_trianglesAt 15 = .ok (.iaload, 1) := op_46 lX5_trianglesAt (by decide +kernel)
theorem dX5_trianglesAt_16 : decode cX5_trianglesAt 16 = .ok (.iand, 1) := op_126 lX5_trianglesAt (by decide +kernel)
theorem dX5_trianglesAt_17 : decode cX5_trianglesAt 17 = .ok (.invokestatic 59, 3) := op_184 lX5_trianglesAt 0 59 (by decide +kernel)
theorem dX5_trianglesAt_20 : decode cX5_trianglesAt 20 = .ok (.iadd, 1) := op_96 lX5_trianglesAt (by decide +kernel)
theorem dX5_trianglesAt_21 : decode cX5_trianglesAt 21 = .ok (.goto 4, 3) := op_167 lX5_trianglesAt 0 4 (by decide +kernel)
theorem dX5_trianglesAt_24 : decode cX5_trianglesAt 24 = .ok (.iconst 0, 1) := op_3 lX5_trianglesAt (by decide +kernel)
theorem dX5_trianglesAt_25 : decode cX5_trianglesAt 25 = .ok (.ireturn, 1) := op_172 lX5_trianglesAt (by decide +kernel)
def nX5_entryOf : Nat := 0xac0515dcffa7010684053607150436051507366404156805156400b606151b2a2000a26100b81d1c0615063660045e00b81d1c053604043603ac030500a01d1c
theorem lX5_entryOf : cX5_entryOf.data.toList = unp nX5_entryOf 64 0 := by decide +kernel
theorem dX5_entryOf_0 : decode cX5_entryOf 0 = .ok (.iload_n 2, 1) := op_28 lX5_entryOf (by decide +kernel)
theorem dX5_entryOf_1 : decode cX5_entryOf 1 = .ok (.iload_n 3, 1) := op_29 lX5_entryOf (by decide +kernel)
theorem dX5_entryOf_2 : decode cX5_entryOf 2 = .ok (.if_icmp .ne 5, 3) := op_160 lX5_entryOf 0 5 (by decide +kernel)
theorem dX5_entryOf_5 : decode cX5_entryOf 5 = .ok (.iconst 0, 1) := op_3 lX5_entryOf (by decide +kernel)
theorem dX5_entryOf_6 : decode cX5_entryOf 6 = .ok (.ireturn, 1) := op_172 lX5_entryOf (by decide +kernel)
theorem dX5_entryOf_7 : decode cX5_entryOf 7 = .ok (.iconst 0, 1) := op_3 lX5_entryOf (by decide +kernel)
theorem dX5_entryOf_8 : decode cX5_entryOf 8 = .ok (.istore 4, 2) := op_54 lX5_entryOf (by decide +kernel)
theorem dX5_entryOf_10 : decode cX5_entryOf 10 = .ok (.iconst 1, 1) := op_4 lX5_entryOf (by decide +kernel)
theorem dX5_entryOf_11 : decode cX5_entryOf 11 = .ok (.istore 5, 2) := op_54 lX5_entryOf (by decide +kernel)
theorem dX5_entryOf_13 : decode cX5_entryOf 13 = .ok (.iload_n 2, 1) := op_28 lX5_entryOf (by decide +kernel)
theorem dX5_entryOf_14 : decode cX5_entryOf 14 = .ok (.iload_n 3, 1) := op_29 lX5_entryOf (by decide +kernel)
theorem dX5_entryOf_15 : decode cX5_entryOf 15 = .ok (.invokestatic 94, 3) := op_184 lX5_entryOf 0 94 (by decide +kernel)
theorem dX5_entryOf_18 : decode cX5_entryOf 18 = .ok (.iconst 1, 1) := op_4 lX5_entryOf (by decide +kernel)
theorem dX5_entryOf_19 : decode cX5_entryOf 19 = .ok (.iadd, 1) := op_96 lX5_entryOf (by decide +kernel)
theorem dX5_entryOf_20 : decode cX5_entryOf 20 = .ok (.istore 6, 2) := op_54 lX5_entryOf (by decide +kernel)
theorem dX5_entryOf_22 : decode cX5_entryOf 22 = .ok (.iload 6, 2) := op_21 lX5_entryOf (by decide +kernel)
theorem dX5_entryOf_24 : decode cX5_entryOf 24 = .ok (.iload_n 2, 1) := op_28 lX5_entryOf (by decide +kernel)
theorem dX5_entryOf_25 : decode cX5_entryOf 25 = .ok (.iload_n 3, 1) := op_29 lX5_entryOf (by decide +kernel)
theorem dX5_entryOf_26 : decode cX5_entryOf 26 = .ok (.invokestatic 97, 3) := op_184 lX5_entryOf 0 97 (by decide +kernel)
theorem dX5_entryOf_29 : decode cX5_entryOf 29 = .ok (.if_icmp .ge 32, 3) := op_162 lX5_entryOf 0 32 (by decide +kernel)
theorem dX5_entryOf_32 : decode cX5_entryOf 32 = .ok (.aload_n 0, 1) := op_42 lX5_entryOf (by decide +kernel)
theorem dX5_entryOf_33 : decode cX5_entryOf 33 = .ok (.iload_n 1, 1) := op_27 lX5_entryOf (by decide +kernel)
theorem dX5_entryOf_34 : decode cX5_entryOf 34 = .ok (.iload 6, 2) := op_21 lX5_entryOf (by decide +kernel)
theorem dX5_entryOf_36 : decode cX5_entryOf 36 = .ok (.invokevirtual 100, 3) := op_182 lX5_entryOf 0 100 (by decide +kernel)
theorem dX5_entryOf_39 : decode cX5_entryOf 39 = .ok (.iload 5, 2) := op_21 lX5_entryOf (by decide +kernel)
theorem dX5_entryOf_41 : decode cX5_entryOf 41 = .ok (.imul, 1) := op_104 lX5_entryOf (by decide +kernel)
theorem dX5_entryOf_42 : decode cX5_entryOf 42 = .ok (.iload 4, 2) := op_21 lX5_entryOf (by decide +kernel)
theorem dX5_entryOf_44 : decode cX5_entryOf 44 = .ok (.isub, 1) := op_100 lX5_entryOf (by decide +kernel)
theorem dX5_entryOf_45 : decode cX5_entryOf 45 = .ok (.istore 7, 2) := op_54 lX5_entryOf (by decide +kernel)
theorem dX5_entryOf_47 : decode cX5_entryOf 47 = .ok (.iload 5, 2) := op_21 lX5_entryOf (by decide +kernel)
theorem dX5_entryOf_49 : decode cX5_entryOf 49 = .ok (.istore 4, 2) := op_54 lX5_entryOf (by decide +kernel)
theorem dX5_entryOf_51 : decode cX5_entryOf 51 = .ok (.iload 7, 2) := op_21 lX5_entryOf (by decide +kernel)
theorem dX5_entryOf_53 : decode cX5_entryOf 53 = .ok (.istore 5, 2) := op_54 lX5_entryOf (by decide +kernel)
theorem dX5_entryOf_55 : decode cX5_entryOf 55 = .ok (.iinc 6 1, 3) := op_132 lX5_entryOf 1 (by decide +kernel)
theorem dX5_entryOf_58 : decode cX5_entryOf 58 = .ok (.goto (-36), 3) := op_167 lX5_entryOf 255 220 (by decide +kernel)
theorem dX5_entryOf_61 : decode cX5_entryOf 61 = .ok (.iload 5, 2) := op_21 lX5_entryOf (by decide +kernel)
theorem dX5_entryOf_63 : decode cX5_entryOf 63 = .ok (.ireturn, 1) := op_172 lX5_entryOf (by decide +kernel)
def nX5_otherLine : Nat := 0xac02e5ffa7010384ac1d0500a0781c047e1b2e1d1500b42a1900a22800b42a1d3e03
theorem lX5_otherLine : cX5_otherLine.data.toList = unp nX5_otherLine 34 0 := by decide +kernel
theorem dX5_otherLine_0 : decode cX5_otherLine 0 = .ok (.iconst 0, 1) := op_3 lX5_otherLine (by decide +kernel)
theorem dX5_otherLine_1 : decode cX5_otherLine 1 = .ok (.istore_n 3, 1) := op_62 lX5_otherLine (by decide +kernel)
theorem dX5_otherLine_2 : decode cX5_otherLine 2 = .ok (.iload_n 3, 1) := op_29 lX5_otherLine (by decide +kernel)
theorem dX5_otherLine_3 : decode cX5_otherLine 3 = .ok (.aload_n 0, 1) := op_42 lX5_otherLine (by decide +kernel)
theorem dX5_otherLine_4 : decode cX5_otherLine 4 = .ok (.getfield 40, 3) := op_180 lX5_otherLine 0 40 (by decide +kernel)
theorem dX5_otherLine_7 : decode cX5_otherLine 7 = .ok (.if_icmp .ge 25, 3) := op_162 lX5_otherLine 0 25 (by decide +kernel)
theorem dX5_otherLine_10 : decode cX5_otherLine 10 = .ok (.aload_n 0, 1) := op_42 lX5_otherLine (by decide +kernel)
theorem dX5_otherLine_11 : decode cX5_otherLine 11 = .ok (.getfield 21, 3) := op_180 lX5_otherLine 0 21 (by decide +kernel)
theorem dX5_otherLine_14 : decode cX5_otherLine 14 = .ok (.iload_n 3, 1) := op_29 lX5_otherLine (by decide +kernel)
theorem dX5_otherLine_15 : decode cX5_otherLine 15 = .ok (.iaload, 1) := op_46 lX5_otherLine (by decide +kernel)
theorem dX5_otherLine_16 : decode cX5_otherLine 16 = .ok (.iload_n 1, 1) := op_27 lX5_otherLine (by decide +kernel)
theorem dX5_otherLine_17 : decode cX5_otherLine 17 = .ok (.iand, 1) := op_126 lX5_otherLine (by decide +kernel)
theorem dX5_otherLine_18 : decode cX5_otherLine 18 = .ok (.iconst 1, 1) := op_4 lX5_otherLine (by decide +kernel)
theorem dX5_otherLine_19 : decode cX5_otherLine 19 = .ok (.iload_n 2, 1) := op_28 lX5_otherLine (by decide +kernel)
theorem dX5_otherLine_20 : decode cX5_otherLine 20 = .ok (.ishl, 1) := op_120 lX5_otherLine (by decide +kernel)
theorem dX5_otherLine_21 : decode cX5_otherLine 21 = .ok (.if_icmp .ne 5, 3) := op_160 lX5_otherLine 0 5 (by decide +kernel)
theorem dX5_otherLine_24 : decode cX5_otherLine 24 = .ok (.iload_n 3, 1) := op_29 lX5_otherLine (by decide +kernel)
theorem dX5_otherLine_25 : decode cX5_otherLine 25 = .ok (.ireturn, 1) := op_172 lX5_otherLine (by decide +kernel)
theorem dX5_otherLine_26 : decode cX5_otherLine 26 = .ok (.iinc 3 1, 3) := op_132 lX5_otherLine 1 (by decide +kernel)
theorem dX5_otherLine_29 : decode cX5_otherLine 29 = .ok (.goto (-27), 3) := op_167 lX5_otherLine 255 229 (by decide +kernel)
theorem dX5_otherLine_32 : decode cX5_otherLine 32 = .ok (.iconst (-1), 1) := op_2 lX5_otherLine (by decide +kernel)
theorem dX5_otherLine_33 : decode cX5_otherLine 33 = .ok (.ireturn, 1) := op_172 lX5_otherLine (by decide +kernel)
def nX5_neighbourWith : Nat := 0xac020400a76a00b680781c04821d1b2a1100a0043b00b81d3e7e1b6700b61c2a
theorem lX5_neighbourWith : cX5_neighbourWith.data.toList = unp nX5_neighbourWith 32 0 := by decide +kernel
theorem dX5_neighbourWith_0 : decode cX5_neighbourWith 0 = .ok (.aload_n 0, 1) := op_42 lX5_neighbourWith (by decide +kernel)
theorem dX5_neighbourWith_1 : decode cX5_neighbourWith 1 = .ok (.iload_n 2, 1) := op_28 lX5_neighbourWith (by decide +kernel)
theorem dX5_neighbourWith_2 : decode cX5_neighbourWith 2 = .ok (.invokevirtual 103, 3) := op_182 lX5_neighbourWith 0 103 (by decide +kernel)
theorem dX5_neighbourWith_5 : decode cX5_neighbourWith 5 = .ok (.iload_n 1, 1) := op_27 lX5_neighbourWith (by decide +kernel)
theorem dX5_neighbourWith_6 : decode cX5_neighbourWith 6 = .ok (.iand, 1) := op_126 lX5_neighbourWith (by decide +kernel)
theorem dX5_neighbourWith_7 : decode cX5_neighbourWith 7 = .ok (.istore_n 3, 1) := op_62 lX5_neighbourWith (by decide +kernel)
theorem dX5_neighbourWith_8 : decode cX5_neighbourWith 8 = .ok (.iload_n 3, 1) := op_29 lX5_neighbourWith (by decide +kernel)
theorem dX5_neighbourWith_9 : decode cX5_neighbourWith 9 = .ok (.invokestatic 59, 3) := op_184 lX5_neighbourWith 0 59 (by decide +kernel)
theorem dX5_neighbourWith_12 : decode cX5_neighbourWith 12 = .ok (.iconst 1, 1) := op_4 lX5_neighbourWith (by decide +kernel)
theorem dX5_neighbourWith_13 : decode cX5_neighbourWith 13 = .ok (.if_icmp .ne 17, 3) := op_160 lX5_neighbourWith 0 17 (by decide +kernel)
theorem dX5_neighbourWith_16 : decode cX5_neighbourWith 16 = .ok (.aload_n 0, 1) := op_42 lX5_neighbourWith (by decide +kernel)
theorem dX5_neighbourWith_17 : decode cX5_neighbourWith 17 = .ok (.iload_n 1, 1) := op_27 lX5_neighbourWith (by decide +kernel)
theorem dX5_neighbourWith_18 : decode cX5_neighbourWith 18 = .ok (.iload_n 3, 1) := op_29 lX5_neighbourWith (by decide +kernel)
theorem dX5_neighbourWith_19 : decode cX5_neighbourWith 19 = .ok (.ixor, 1) := op_130 lX5_neighbourWith (by decide +kernel)
theorem dX5_neighbourWith_20 : decode cX5_neighbourWith 20 = .ok (.iconst 1, 1) := op_4 lX5_neighbourWith (by decide +kernel)
theorem dX5_neighbourWith_21 : decode cX5_neighbourWith 21 = .ok (.iload_n 2, 1) := op_28 lX5_neighbourWith (by decide +kernel)
theorem dX5_neighbourWith_22 : decode cX5_neighbourWith 22 = .ok (.ishl, 1) := op_120 lX5_neighbourWith (by decide +kernel)
theorem dX5_neighbourWith_23 : decode cX5_neighbourWith 23 = .ok (.ior, 1) := op_128 lX5_neighbourWith (by decide +kernel)
theorem dX5_neighbourWith_24 : decode cX5_neighbourWith 24 = .ok (.invokevirtual 106, 3) := op_182 lX5_neighbourWith 0 106 (by decide +kernel)
theorem dX5_neighbourWith_27 : decode cX5_neighbourWith 27 = .ok (.goto 4, 3) := op_167 lX5_neighbourWith 0 4 (by decide +kernel)
theorem dX5_neighbourWith_30 : decode cX5_neighbourWith 30 = .ok (.iconst (-1), 1) := op_2 lX5_neighbourWith (by decide +kernel)
theorem dX5_neighbourWith_31 : decode cX5_neighbourWith 31 = .ok (.ireturn, 1) := op_172 lX5_neighbourWith (by decide +kernel)
def nX5_moved : Nat := 0xac1dc1ffa70104843e80785700b6061505152a041d06366d00b61c2e04150f00b42a2a05366d00b61c2e04150900b42a2a2c00995b00b604151b2a3c00a22800b42a04150436033e03
theorem lX5_moved : cX5_moved.data.toList = unp nX5_moved 73 0 := by decide +kernel
theorem dX5_moved_0 : decode cX5_moved 0 = .ok (.iconst 0, 1) := op_3 lX5_moved (by decide +kernel)
theorem dX5_moved_1 : decode cX5_moved 1 = .ok (.istore_n 3, 1) := op_62 lX5_moved (by decide +kernel)
theorem dX5_moved_2 : decode cX5_moved 2 = .ok (.iconst 0, 1) := op_3 lX5_moved (by decide +kernel)
theorem dX5_moved_3 : decode cX5_moved 3 = .ok (.istore 4, 2) := op_54 lX5_moved (by decide +kernel)
theorem dX5_moved_5 : decode cX5_moved 5 = .ok (.iload 4, 2) := op_21 lX5_moved (by decide +kernel)
theorem dX5_moved_7 : decode cX5_moved 7 = .ok (.aload_n 0, 1) := op_42 lX5_moved (by decide +kernel)
theorem dX5_moved_8 : decode cX5_moved 8 = .ok (.getfield 40, 3) := op_180 lX5_moved 0 40 (by decide +kernel)
theorem dX5_moved_11 : decode cX5_moved 11 = .ok (.if_icmp .ge 60, 3) := op_162 lX5_moved 0 60 (by decide +kernel)
theorem dX5_moved_14 : decode cX5_moved 14 = .ok (.aload_n 0, 1) := op_42 lX5_moved (by decide +kernel)
theorem dX5_moved_15 : decode cX5_moved 15 = .ok (.iload_n 1, 1) := op_27 lX5_moved (by decide +kernel)
theorem dX5_moved_16 : decode cX5_moved 16 = .ok (.iload 4, 2) := op_21 lX5_moved (by decide +kernel)
theorem dX5_moved_18 : decode cX5_moved 18 = .ok (.invokevirtual 91, 3) := op_182 lX5_moved 0 91 (by decide +kernel)
theorem dX5_moved_21 : decode cX5_moved 21 = .ok (.ifCond .eq 44, 3) := op_153 lX5_moved 0 44 (by decide +kernel)
theorem dX5_moved_24 : decode cX5_moved 24 = .ok (.aload_n 0, 1) := op_42 lX5_moved (by decide +kernel)
theorem dX5_moved_25 : decode cX5_moved 25 = .ok (.aload_n 0, 1) := op_42 lX5_moved (by decide +kernel)
theorem dX5_moved_26 : decode cX5_moved 26 = .ok (.getfield 9, 3) := op_180 lX5_moved 0 9 (by decide +kernel)
theorem dX5_moved_29 : decode cX5_moved 29 = .ok (.iload 4, 2) := op_21 lX5_moved (by decide +kernel)
theorem dX5_moved_31 : decode cX5_moved 31 = .ok (.iaload, 1) := op_46 lX5_moved (by decide +kernel)
theorem dX5_moved_32 : decode cX5_moved 32 = .ok (.iload_n 2, 1) := op_28 lX5_moved (by decide +kernel)
theorem dX5_moved_33 : decode cX5_moved 33 = .ok (.invokevirtual 109, 3) := op_182 lX5_moved 0 109 (by decide +kernel)
theorem dX5_moved_36 : decode cX5_moved 36 = .ok (.istore 5, 2) := op_54 lX5_moved (by decide +kernel)
theorem dX5_moved_38 : decode cX5_moved 38 = .ok (.aload_n 0, 1) := op_42 lX5_moved (by decide +kernel)
theorem dX5_moved_39 : decode cX5_moved 39 = .ok (.aload_n 0, 1) := op_42 lX5_moved (by decide +kernel)
theorem dX5_moved_40 : decode cX5_moved 40 = .ok (.getfield 15, 3) := op_180 lX5_moved 0 15 (by decide +kernel)
theorem dX5_moved_43 : decode cX5_moved 43 = .ok (.iload 4, 2) := op_21 lX5_moved (by decide +kernel)
theorem dX5_moved_45 : decode cX5_moved 45 = .ok (.iaload, 1) := op_46 lX5_moved (by decide +kernel)
theorem dX5_moved_46 : decode cX5_moved 46 = .ok (.iload_n 2, 1) := op_28 lX5_moved (by decide +kernel)
theorem dX5_moved_47 : decode cX5_moved 47 = .ok (.invokevirtual 109, 3) := op_182 lX5_moved 0 109 (by decide +kernel)
theorem dX5_moved_50 : decode cX5_moved 50 = .ok (.istore 6, 2) := op_54 lX5_moved (by decide +kernel)
theorem dX5_moved_52 : decode cX5_moved 52 = .ok (.iload_n 3, 1) := op_29 lX5_moved (by decide +kernel)
theorem dX5_moved_53 : decode cX5_moved 53 = .ok (.iconst 1, 1) := op_4 lX5_moved (by decide +kernel)
theorem dX5_moved_54 : decode cX5_moved 54 = .ok (.aload_n 0, 1) := op_42 lX5_moved (by decide +kernel)
theorem dX5_moved_55 : decode cX5_moved 55 = .ok (.iload 5, 2) := op_21 lX5_moved (by decide +kernel)
theorem dX5_moved_57 : decode cX5_moved 57 = .ok (.iload 6, 2) := op_21 lX5_moved (by decide +kernel)
theorem dX5_moved_59 : decode cX5_moved 59 = .ok (.invokevirtual 87, 3) := op_182 lX5_moved 0 87 (by decide +kernel)
theorem dX5_moved_62 : decode cX5_moved 62 = .ok (.ishl, 1) := op_120 lX5_moved (by decide +kernel)
theorem dX5_moved_63 : decode cX5_moved 63 = .ok (.ior, 1) := op_128 lX5_moved (by decide +kernel)
theorem dX5_moved_64 : decode cX5_moved 64 = .ok (.istore_n 3, 1) := op_62 lX5_moved (by decide +kernel)
theorem dX5_moved_65 : decode cX5_moved 65 = .ok (.iinc 4 1, 3) := op_132 lX5_moved 1 (by decide +kernel)
theorem dX5_moved_68 : decode cX5_moved 68 = .ok (.goto (-63), 3) := op_167 lX5_moved 255 193 (by decide +kernel)
theorem dX5_moved_71 : decode cX5_moved 71 = .ok (.iload_n 3, 1) := op_29 lX5_moved (by decide +kernel)
theorem dX5_moved_72 : decode cX5_moved 72 = .ok (.ireturn, 1) := op_172 lX5_moved (by decide +kernel)
def nX5_movedCorner : Nat := 0xac60041b0600a7030700a01e00b42a60041bac641b64041e00b42a0c00991c
theorem lX5_movedCorner : cX5_movedCorner.data.toList = unp nX5_movedCorner 31 0 := by decide +kernel
theorem dX5_movedCorner_0 : decode cX5_movedCorner 0 = .ok (.iload_n 2, 1) := op_28 lX5_movedCorner (by decide +kernel)
theorem dX5_movedCorner_1 : decode cX5_movedCorner 1 = .ok (.ifCond .eq 12, 3) := op_153 lX5_movedCorner 0 12 (by decide +kernel)
theorem dX5_movedCorner_4 : decode cX5_movedCorner 4 = .ok (.aload_n 0, 1) := op_42 lX5_movedCorner (by decide +kernel)
theorem dX5_movedCorner_5 : decode cX5_movedCorner 5 = .ok (.getfield 30, 3) := op_180 lX5_movedCorner 0 30 (by decide +kernel)
theorem dX5_movedCorner_8 : decode cX5_movedCorner 8 = .ok (.iconst 1, 1) := op_4 lX5_movedCorner (by decide +kernel)
theorem dX5_movedCorner_9 : decode cX5_movedCorner 9 = .ok (.isub, 1) := op_100 lX5_movedCorner (by decide +kernel)
theorem dX5_movedCorner_10 : decode cX5_movedCorner 10 = .ok (.iload_n 1, 1) := op_27 lX5_movedCorner (by decide +kernel)
theorem dX5_movedCorner_11 : decode cX5_movedCorner 11 = .ok (.isub, 1) := op_100 lX5_movedCorner (by decide +kernel)
theorem dX5_movedCorner_12 : decode cX5_movedCorner 12 = .ok (.ireturn, 1) := op_172 lX5_movedCorner (by decide +kernel)
theorem dX5_movedCorner_13 : decode cX5_movedCorner 13 = .ok (.iload_n 1, 1) := op_27 lX5_movedCorner (by decide +kernel)
theorem dX5_movedCorner_14 : decode cX5_movedCorner 14 = .ok (.iconst 1, 1) := op_4 lX5_movedCorner (by decide +kernel)
theorem dX5_movedCorner_15 : decode cX5_movedCorner 15 = .ok (.iadd, 1) := op_96 lX5_movedCorner (by decide +kernel)
theorem dX5_movedCorner_16 : decode cX5_movedCorner 16 = .ok (.aload_n 0, 1) := op_42 lX5_movedCorner (by decide +kernel)
theorem dX5_movedCorner_17 : decode cX5_movedCorner 17 = .ok (.getfield 30, 3) := op_180 lX5_movedCorner 0 30 (by decide +kernel)
theorem dX5_movedCorner_20 : decode cX5_movedCorner 20 = .ok (.if_icmp .ne 7, 3) := op_160 lX5_movedCorner 0 7 (by decide +kernel)
theorem dX5_movedCorner_23 : decode cX5_movedCorner 23 = .ok (.iconst 0, 1) := op_3 lX5_movedCorner (by decide +kernel)
theorem dX5_movedCorner_24 : decode cX5_movedCorner 24 = .ok (.goto 6, 3) := op_167 lX5_movedCorner 0 6 (by decide +kernel)
theorem dX5_movedCorner_27 : decode cX5_movedCorner 27 = .ok (.iload_n 1, 1) := op_27 lX5_movedCorner (by decide +kernel)
theorem dX5_movedCorner_28 : decode cX5_movedCorner 28 = .ok (.iconst 1, 1) := op_4 lX5_movedCorner (by decide +kernel)
theorem dX5_movedCorner_29 : decode cX5_movedCorner 29 = .ok (.iadd, 1) := op_96 lX5_movedCorner (by decide +kernel)
theorem dX5_movedCorner_30 : decode cX5_movedCorner 30 = .ok (.ireturn, 1) := op_172 lX5_movedCorner (by decide +kernel)
def nX5_leastTurned : Nat := 0xac1ce7ffa70104843d5e00b81d1c3e7100b6031d2a1600a21e00b42a04150436043e1b3d1b
theorem lX5_leastTurned : cX5_leastTurned.data.toList = unp nX5_leastTurned 37 0 := by decide +kernel
theorem dX5_leastTurned_0 : decode cX5_leastTurned 0 = .ok (.iload_n 1, 1) := op_27 lX5_leastTurned (by decide +kernel)
theorem dX5_leastTurned_1 : decode cX5_leastTurned 1 = .ok (.istore_n 2, 1) := op_61 lX5_leastTurned (by decide +kernel)
theorem dX5_leastTurned_2 : decode cX5_leastTurned 2 = .ok (.iload_n 1, 1) := op_27 lX5_leastTurned (by decide +kernel)
theorem dX5_leastTurned_3 : decode cX5_leastTurned 3 = .ok (.istore_n 3, 1) := op_62 lX5_leastTurned (by decide +kernel)
theorem dX5_leastTurned_4 : decode cX5_leastTurned 4 = .ok (.iconst 1, 1) := op_4 lX5_leastTurned (by decide +kernel)
theorem dX5_leastTurned_5 : decode cX5_leastTurned 5 = .ok (.istore 4, 2) := op_54 lX5_leastTurned (by decide +kernel)
theorem dX5_leastTurned_7 : decode cX5_leastTurned 7 = .ok (.iload 4, 2) := op_21 lX5_leastTurned (by decide +kernel)
theorem dX5_leastTurned_9 : decode cX5_leastTurned 9 = .ok (.aload_n 0, 1) := op_42 lX5_leastTurned (by decide +kernel)
theorem dX5_leastTurned_10 : decode cX5_leastTurned 10 = .ok (.getfield 30, 3) := op_180 lX5_leastTurned 0 30 (by decide +kernel)
theorem dX5_leastTurned_13 : decode cX5_leastTurned 13 = .ok (.if_icmp .ge 22, 3) := op_162 lX5_leastTurned 0 22 (by decide +kernel)
theorem dX5_leastTurned_16 : decode cX5_leastTurned 16 = .ok (.aload_n 0, 1) := op_42 lX5_leastTurned (by decide +kernel)
theorem dX5_leastTurned_17 : decode cX5_leastTurned 17 = .ok (.iload_n 3, 1) := op_29 lX5_leastTurned (by decide +kernel)
theorem dX5_leastTurned_18 : decode cX5_leastTurned 18 = .ok (.iconst 0, 1) := op_3 lX5_leastTurned (by decide +kernel)
theorem dX5_leastTurned_19 : decode cX5_leastTurned 19 = .ok (.invokevirtual 113, 3) := op_182 lX5_leastTurned 0 113 (by decide +kernel)
theorem dX5_leastTurned_22 : decode cX5_leastTurned 22 = .ok (.istore_n 3, 1) := op_62 lX5_leastTurned (by decide +kernel)
theorem dX5_leastTurned_23 : decode cX5_leastTurned 23 = .ok (.iload_n 2, 1) := op_28 lX5_leastTurned (by decide +kernel)
theorem dX5_leastTurned_24 : decode cX5_leastTurned 24 = .ok (.iload_n 3, 1) := op_29 lX5_leastTurned (by decide +kernel)
theorem dX5_leastTurned_25 : decode cX5_leastTurned 25 = .ok (.invokestatic 94, 3) := op_184 lX5_leastTurned 0 94 (by decide +kernel)
theorem dX5_leastTurned_28 : decode cX5_leastTurned 28 = .ok (.istore_n 2, 1) := op_61 lX5_leastTurned (by decide +kernel)
theorem dX5_leastTurned_29 : decode cX5_leastTurned 29 = .ok (.iinc 4 1, 3) := op_132 lX5_leastTurned 1 (by decide +kernel)
theorem dX5_leastTurned_32 : decode cX5_leastTurned 32 = .ok (.goto (-25), 3) := op_167 lX5_leastTurned 255 231 (by decide +kernel)
theorem dX5_leastTurned_35 : decode cX5_leastTurned 35 = .ok (.iload_n 2, 1) := op_28 lX5_leastTurned (by decide +kernel)
theorem dX5_leastTurned_36 : decode cX5_leastTurned 36 = .ok (.ireturn, 1) := op_172 lX5_leastTurned (by decide +kernel)
def nX5_leastAlike : Nat := 0xac1d0400a75e00b87400b67100b6041b2a2a1d1400991c3e7400b61b2a
theorem lX5_leastAlike : cX5_leastAlike.data.toList = unp nX5_leastAlike 29 0 := by decide +kernel
theorem dX5_leastAlike_0 : decode cX5_leastAlike 0 = .ok (.aload_n 0, 1) := op_42 lX5_leastAlike (by decide +kernel)
theorem dX5_leastAlike_1 : decode cX5_leastAlike 1 = .ok (.iload_n 1, 1) := op_27 lX5_leastAlike (by decide +kernel)
theorem dX5_leastAlike_2 : decode cX5_leastAlike 2 = .ok (.invokevirtual 116, 3) := op_182 lX5_leastAlike 0 116 (by decide +kernel)
theorem dX5_leastAlike_5 : decode cX5_leastAlike 5 = .ok (.istore_n 3, 1) := op_62 lX5_leastAlike (by decide +kernel)
theorem dX5_leastAlike_6 : decode cX5_leastAlike 6 = .ok (.iload_n 2, 1) := op_28 lX5_leastAlike (by decide +kernel)
theorem dX5_leastAlike_7 : decode cX5_leastAlike 7 = .ok (.ifCond .eq 20, 3) := op_153 lX5_leastAlike 0 20 (by decide +kernel)
theorem dX5_leastAlike_10 : decode cX5_leastAlike 10 = .ok (.iload_n 3, 1) := op_29 lX5_leastAlike (by decide +kernel)
theorem dX5_leastAlike_11 : decode cX5_leastAlike 11 = .ok (.aload_n 0, 1) := op_42 lX5_leastAlike (by decide +kernel)
theorem dX5_leastAlike_12 : decode cX5_leastAlike 12 = .ok (.aload_n 0, 1) := op_42 lX5_leastAlike (by decide +kernel)
theorem dX5_leastAlike_13 : decode cX5_leastAlike 13 = .ok (.iload_n 1, 1) := op_27 lX5_leastAlike (by decide +kernel)
theorem dX5_leastAlike_14 : decode cX5_leastAlike 14 = .ok (.iconst 1, 1) := op_4 lX5_leastAlike (by decide +kernel)
theorem dX5_leastAlike_15 : decode cX5_leastAlike 15 = .ok (.invokevirtual 113, 3) := op_182 lX5_leastAlike 0 113 (by decide +kernel)
theorem dX5_leastAlike_18 : decode cX5_leastAlike 18 = .ok (.invokevirtual 116, 3) := op_182 lX5_leastAlike 0 116 (by decide +kernel)
theorem dX5_leastAlike_21 : decode cX5_leastAlike 21 = .ok (.invokestatic 94, 3) := op_184 lX5_leastAlike 0 94 (by decide +kernel)
theorem dX5_leastAlike_24 : decode cX5_leastAlike 24 = .ok (.goto 4, 3) := op_167 lX5_leastAlike 0 4 (by decide +kernel)
theorem dX5_leastAlike_27 : decode cX5_leastAlike 27 = .ok (.iload_n 3, 1) := op_29 lX5_leastAlike (by decide +kernel)
theorem dX5_leastAlike_28 : decode cX5_leastAlike 28 = .ok (.ireturn, 1) := op_172 lX5_leastAlike (by decide +kernel)
def nX5_countKinds : Nat := 0xac1ccbffa70103840102840600997700b604157100b60404152a2a1300991b1a00997700b6041504152a04362e1d1b00b42a3300a24100b42a1d3e033d03
theorem lX5_countKinds : cX5_countKinds.data.toList = unp nX5_countKinds 62 0 := by decide +kernel
theorem dX5_countKinds_0 : decode cX5_countKinds 0 = .ok (.iconst 0, 1) := op_3 lX5_countKinds (by decide +kernel)
theorem dX5_countKinds_1 : decode cX5_countKinds 1 = .ok (.istore_n 2, 1) := op_61 lX5_countKinds (by decide +kernel)
theorem dX5_countKinds_2 : decode cX5_countKinds 2 = .ok (.iconst 0, 1) := op_3 lX5_countKinds (by decide +kernel)
theorem dX5_countKinds_3 : decode cX5_countKinds 3 = .ok (.istore_n 3, 1) := op_62 lX5_countKinds (by decide +kernel)
theorem dX5_countKinds_4 : decode cX5_countKinds 4 = .ok (.iload_n 3, 1) := op_29 lX5_countKinds (by decide +kernel)
theorem dX5_countKinds_5 : decode cX5_countKinds 5 = .ok (.aload_n 0, 1) := op_42 lX5_countKinds (by decide +kernel)
theorem dX5_countKinds_6 : decode cX5_countKinds 6 = .ok (.getfield 65, 3) := op_180 lX5_countKinds 0 65 (by decide +kernel)
theorem dX5_countKinds_9 : decode cX5_countKinds 9 = .ok (.if_icmp .ge 51, 3) := op_162 lX5_countKinds 0 51 (by decide +kernel)
theorem dX5_countKinds_12 : decode cX5_countKinds 12 = .ok (.aload_n 0, 1) := op_42 lX5_countKinds (by decide +kernel)
theorem dX5_countKinds_13 : decode cX5_countKinds 13 = .ok (.getfield 27, 3) := op_180 lX5_countKinds 0 27 (by decide +kernel)
theorem dX5_countKinds_16 : decode cX5_countKinds 16 = .ok (.iload_n 3, 1) := op_29 lX5_countKinds (by decide +kernel)
theorem dX5_countKinds_17 : decode cX5_countKinds 17 = .ok (.iaload, 1) := op_46 lX5_countKinds (by decide +kernel)
theorem dX5_countKinds_18 : decode cX5_countKinds 18 = .ok (.istore 4, 2) := op_54 lX5_countKinds (by decide +kernel)
theorem dX5_countKinds_20 : decode cX5_countKinds 20 = .ok (.aload_n 0, 1) := op_42 lX5_countKinds (by decide +kernel)
theorem dX5_countKinds_21 : decode cX5_countKinds 21 = .ok (.iload 4, 2) := op_21 lX5_countKinds (by decide +kernel)
theorem dX5_countKinds_23 : decode cX5_countKinds 23 = .ok (.iload 4, 2) := op_21 lX5_countKinds (by decide +kernel)
theorem dX5_countKinds_25 : decode cX5_countKinds 25 = .ok (.invokevirtual 119, 3) := op_182 lX5_countKinds 0 119 (by decide +kernel)
theorem dX5_countKinds_28 : decode cX5_countKinds 28 = .ok (.ifCond .eq 26, 3) := op_153 lX5_countKinds 0 26 (by decide +kernel)
theorem dX5_countKinds_31 : decode cX5_countKinds 31 = .ok (.iload_n 1, 1) := op_27 lX5_countKinds (by decide +kernel)
theorem dX5_countKinds_32 : decode cX5_countKinds 32 = .ok (.ifCond .eq 19, 3) := op_153 lX5_countKinds 0 19 (by decide +kernel)
theorem dX5_countKinds_35 : decode cX5_countKinds 35 = .ok (.aload_n 0, 1) := op_42 lX5_countKinds (by decide +kernel)
theorem dX5_countKinds_36 : decode cX5_countKinds 36 = .ok (.aload_n 0, 1) := op_42 lX5_countKinds (by decide +kernel)
theorem dX5_countKinds_37 : decode cX5_countKinds 37 = .ok (.iload 4, 2) := op_21 lX5_countKinds (by decide +kernel)
theorem dX5_countKinds_39 : decode cX5_countKinds 39 = .ok (.iconst 1, 1) := op_4 lX5_countKinds (by decide +kernel)
theorem dX5_countKinds_40 : decode cX5_countKinds 40 = .ok (.invokevirtual 113, 3) := op_182 lX5_countKinds 0 113 (by decide +kernel)
theorem dX5_countKinds_43 : decode cX5_countKinds 43 = .ok (.iload 4, 2) := op_21 lX5_countKinds (by decide +kernel)
theorem dX5_countKinds_45 : decode cX5_countKinds 45 = .ok (.invokevirtual 119, 3) := op_182 lX5_countKinds 0 119 (by decide +kernel)
theorem dX5_countKinds_48 : decode cX5_countKinds 48 = .ok (.ifCond .eq 6, 3) := op_153 lX5_countKinds 0 6 (by decide +kernel)
theorem dX5_countKinds_51 : decode cX5_countKinds 51 = .ok (.iinc 2 1, 3) := op_132 lX5_countKinds 1 (by decide +kernel)
theorem dX5_countKinds_54 : decode cX5_countKinds 54 = .ok (.iinc 3 1, 3) := op_132 lX5_countKinds 1 (by decide +kernel)
theorem dX5_countKinds_57 : decode cX5_countKinds 57 = .ok (.goto (-53), 3) := op_167 lX5_countKinds 255 203 (by decide +kernel)
theorem dX5_countKinds_60 : decode cX5_countKinds 60 = .ok (.iload_n 2, 1) := op_28 lX5_countKinds (by decide +kernel)
theorem dX5_countKinds_61 : decode cX5_countKinds 61 = .ok (.ireturn, 1) := op_172 lX5_countKinds (by decide +kernel)
def nX5_neverTurnsBelow : Nat := 0xac04e6ffa70104843e7100b6031d2aac030500a21c1d1700a21e00b42a04150436033e1b
theorem lX5_neverTurnsBelow : cX5_neverTurnsBelow.data.toList = unp nX5_neverTurnsBelow 36 0 := by decide +kernel
theorem dX5_neverTurnsBelow_0 : decode cX5_neverTurnsBelow 0 = .ok (.iload_n 1, 1) := op_27 lX5_neverTurnsBelow (by decide +kernel)
theorem dX5_neverTurnsBelow_1 : decode cX5_neverTurnsBelow 1 = .ok (.istore_n 3, 1) := op_62 lX5_neverTurnsBelow (by decide +kernel)
theorem dX5_neverTurnsBelow_2 : decode cX5_neverTurnsBelow 2 = .ok (.iconst 0, 1) := op_3 lX5_neverTurnsBelow (by decide +kernel)
theorem dX5_neverTurnsBelow_3 : decode cX5_neverTurnsBelow 3 = .ok (.istore 4, 2) := op_54 lX5_neverTurnsBelow (by decide +kernel)
theorem dX5_neverTurnsBelow_5 : decode cX5_neverTurnsBelow 5 = .ok (.iload 4, 2) := op_21 lX5_neverTurnsBelow (by decide +kernel)
theorem dX5_neverTurnsBelow_7 : decode cX5_neverTurnsBelow 7 = .ok (.aload_n 0, 1) := op_42 lX5_neverTurnsBelow (by decide +kernel)
theorem dX5_neverTurnsBelow_8 : decode cX5_neverTurnsBelow 8 = .ok (.getfield 30, 3) := op_180 lX5_neverTurnsBelow 0 30 (by decide +kernel)
theorem dX5_neverTurnsBelow_11 : decode cX5_neverTurnsBelow 11 = .ok (.if_icmp .ge 23, 3) := op_162 lX5_neverTurnsBelow 0 23 (by decide +kernel)
theorem dX5_neverTurnsBelow_14 : decode cX5_neverTurnsBelow 14 = .ok (.iload_n 3, 1) := op_29 lX5_neverTurnsBelow (by decide +kernel)
theorem dX5_neverTurnsBelow_15 : decode cX5_neverTurnsBelow 15 = .ok (.iload_n 2, 1) := op_28 lX5_neverTurnsBelow (by decide +kernel)
theorem dX5_neverTurnsBelow_16 : decode cX5_neverTurnsBelow 16 = .ok (.if_icmp .ge 5, 3) := op_162 lX5_neverTurnsBelow 0 5 (by decide +kernel)
theorem dX5_neverTurnsBelow_19 : decode cX5_neverTurnsBelow 19 = .ok (.iconst 0, 1) := op_3 lX5_neverTurnsBelow (by decide +kernel)
theorem dX5_neverTurnsBelow_20 : decode cX5_neverTurnsBelow 20 = .ok (.ireturn, 1) := op_172 lX5_neverTurnsBelow (by decide +kernel)
theorem dX5_neverTurnsBelow_21 : decode cX5_neverTurnsBelow 21 = .ok (.aload_n 0, 1) := op_42 lX5_neverTurnsBelow (by decide +kernel)
theorem dX5_neverTurnsBelow_22 : decode cX5_neverTurnsBelow 22 = .ok (.iload_n 3, 1) := op_29 lX5_neverTurnsBelow (by decide +kernel)
theorem dX5_neverTurnsBelow_23 : decode cX5_neverTurnsBelow 23 = .ok (.iconst 0, 1) := op_3 lX5_neverTurnsBelow (by decide +kernel)
theorem dX5_neverTurnsBelow_24 : decode cX5_neverTurnsBelow 24 = .ok (.invokevirtual 113, 3) := op_182 lX5_neverTurnsBelow 0 113 (by decide +kernel)
theorem dX5_neverTurnsBelow_27 : decode cX5_neverTurnsBelow 27 = .ok (.istore_n 3, 1) := op_62 lX5_neverTurnsBelow (by decide +kernel)
theorem dX5_neverTurnsBelow_28 : decode cX5_neverTurnsBelow 28 = .ok (.iinc 4 1, 3) := op_132 lX5_neverTurnsBelow 1 (by decide +kernel)
theorem dX5_neverTurnsBelow_31 : decode cX5_neverTurnsBelow 31 = .ok (.goto (-26), 3) := op_167 lX5_neverTurnsBelow 255 230 (by decide +kernel)
theorem dX5_neverTurnsBelow_34 : decode cX5_neverTurnsBelow 34 = .ok (.iconst 1, 1) := op_4 lX5_neverTurnsBelow (by decide +kernel)
theorem dX5_neverTurnsBelow_35 : decode cX5_neverTurnsBelow 35 = .ok (.ireturn, 1) := op_172 lX5_neverTurnsBelow (by decide +kernel)
def nX5_differenceFrom : Nat := 0xac1ddbffa70104843e604800b8646400b604151c2a2e04152b1d1b00a2be2b04152200a21e00b42a04150436033e03
theorem lX5_differenceFrom : cX5_differenceFrom.data.toList = unp nX5_differenceFrom 47 0 := by decide +kernel
theorem dX5_differenceFrom_0 : decode cX5_differenceFrom 0 = .ok (.iconst 0, 1) := op_3 lX5_differenceFrom (by decide +kernel)
theorem dX5_differenceFrom_1 : decode cX5_differenceFrom 1 = .ok (.istore_n 3, 1) := op_62 lX5_differenceFrom (by decide +kernel)
theorem dX5_differenceFrom_2 : decode cX5_differenceFrom 2 = .ok (.iconst 0, 1) := op_3 lX5_differenceFrom (by decide +kernel)
theorem dX5_differenceFrom_3 : decode cX5_differenceFrom 3 = .ok (.istore 4, 2) := op_54 lX5_differenceFrom (by decide +kernel)
theorem dX5_differenceFrom_5 : decode cX5_differenceFrom 5 = .ok (.iload 4, 2) := op_21 lX5_differenceFrom (by decide +kernel)
theorem dX5_differenceFrom_7 : decode cX5_differenceFrom 7 = .ok (.aload_n 0, 1) := op_42 lX5_differenceFrom (by decide +kernel)
theorem dX5_differenceFrom_8 : decode cX5_differenceFrom 8 = .ok (.getfield 30, 3) := op_180 lX5_differenceFrom 0 30 (by decide +kernel)
theorem dX5_differenceFrom_11 : decode cX5_differenceFrom 11 = .ok (.if_icmp .ge 34, 3) := op_162 lX5_differenceFrom 0 34 (by decide +kernel)
theorem dX5_differenceFrom_14 : decode cX5_differenceFrom 14 = .ok (.iload 4, 2) := op_21 lX5_differenceFrom (by decide +kernel)
theorem dX5_differenceFrom_16 : decode cX5_differenceFrom 16 = .ok (.aload_n 1, 1) := op_43 lX5_differenceFrom (by decide +kernel)
theorem dX5_differenceFrom_17 : decode cX5_differenceFrom 17 = .ok (.arraylength, 1) := op_190 lX5_differenceFrom (by decide +kernel)
theorem dX5_differenceFrom_18 : decode cX5_differenceFrom 18 = .ok (.if_icmp .ge 27, 3) := op_162 lX5_differenceFrom 0 27 (by decide +kernel)
theorem dX5_differenceFrom_21 : decode cX5_differenceFrom 21 = .ok (.iload_n 3, 1) := op_29 lX5_differenceFrom (by decide +kernel)
theorem dX5_differenceFrom_22 : decode cX5_differenceFrom 22 = .ok (.aload_n 1, 1) := op_43 lX5_differenceFrom (by decide +kernel)
theorem dX5_differenceFrom_23 : decode cX5_differenceFrom 23 = .ok (.iload 4, 2) := op_21 lX5_differenceFrom (by decide +kernel)
theorem dX5_differenceFrom_25 : decode cX5_differenceFrom 25 = .ok (.iaload, 1) := op_46 lX5_differenceFrom (by decide +kernel)
theorem dX5_differenceFrom_26 : decode cX5_differenceFrom 26 = .ok (.aload_n 0, 1) := op_42 lX5_differenceFrom (by decide +kernel)
theorem dX5_differenceFrom_27 : decode cX5_differenceFrom 27 = .ok (.iload_n 2, 1) := op_28 lX5_differenceFrom (by decide +kernel)
theorem dX5_differenceFrom_28 : decode cX5_differenceFrom 28 = .ok (.iload 4, 2) := op_21 lX5_differenceFrom (by decide +kernel)
theorem dX5_differenceFrom_30 : decode cX5_differenceFrom 30 = .ok (.invokevirtual 100, 3) := op_182 lX5_differenceFrom 0 100 (by decide +kernel)
theorem dX5_differenceFrom_33 : decode cX5_differenceFrom 33 = .ok (.isub, 1) := op_100 lX5_differenceFrom (by decide +kernel)
theorem dX5_differenceFrom_34 : decode cX5_differenceFrom 34 = .ok (.invokestatic 72, 3) := op_184 lX5_differenceFrom 0 72 (by decide +kernel)
theorem dX5_differenceFrom_37 : decode cX5_differenceFrom 37 = .ok (.iadd, 1) := op_96 lX5_differenceFrom (by decide +kernel)
theorem dX5_differenceFrom_38 : decode cX5_differenceFrom 38 = .ok (.istore_n 3, 1) := op_62 lX5_differenceFrom (by decide +kernel)
theorem dX5_differenceFrom_39 : decode cX5_differenceFrom 39 = .ok (.iinc 4 1, 3) := op_132 lX5_differenceFrom 1 (by decide +kernel)
theorem dX5_differenceFrom_42 : decode cX5_differenceFrom 42 = .ok (.goto (-37), 3) := op_167 lX5_differenceFrom 255 219 (by decide +kernel)
theorem dX5_differenceFrom_45 : decode cX5_differenceFrom 45 = .ok (.iload_n 3, 1) := op_29 lX5_differenceFrom (by decide +kernel)
theorem dX5_differenceFrom_46 : decode cX5_differenceFrom 46 = .ok (.ireturn, 1) := op_172 lX5_differenceFrom (by decide +kernel)
def nX5_nearestTo : Nat := 0xac1cd6ffa70104843d04153e05150900a21d051505367d00b62e04151b00b42a2b2a23009e1d2700a24100b42a04150436043e7d00b67a00b6032a2b2a3d03
theorem lX5_nearestTo : cX5_nearestTo.data.toList = unp nX5_nearestTo 63 0 := by decide +kernel
theorem dX5_nearestTo_0 : decode cX5_nearestTo 0 = .ok (.iconst 0, 1) := op_3 lX5_nearestTo (by decide +kernel)
theorem dX5_nearestTo_1 : decode cX5_nearestTo 1 = .ok (.istore_n 2, 1) := op_61 lX5_nearestTo (by decide +kernel)
theorem dX5_nearestTo_2 : decode cX5_nearestTo 2 = .ok (.aload_n 0, 1) := op_42 lX5_nearestTo (by decide +kernel)
theorem dX5_nearestTo_3 : decode cX5_nearestTo 3 = .ok (.aload_n 1, 1) := op_43 lX5_nearestTo (by decide +kernel)
theorem dX5_nearestTo_4 : decode cX5_nearestTo 4 = .ok (.aload_n 0, 1) := op_42 lX5_nearestTo (by decide +kernel)
theorem dX5_nearestTo_5 : decode cX5_nearestTo 5 = .ok (.iconst 0, 1) := op_3 lX5_nearestTo (by decide +kernel)
theorem dX5_nearestTo_6 : decode cX5_nearestTo 6 = .ok (.invokevirtual 122, 3) := op_182 lX5_nearestTo 0 122 (by decide +kernel)
theorem dX5_nearestTo_9 : decode cX5_nearestTo 9 = .ok (.invokevirtual 125, 3) := op_182 lX5_nearestTo 0 125 (by decide +kernel)
theorem dX5_nearestTo_12 : decode cX5_nearestTo 12 = .ok (.istore_n 3, 1) := op_62 lX5_nearestTo (by decide +kernel)
theorem dX5_nearestTo_13 : decode cX5_nearestTo 13 = .ok (.iconst 1, 1) := op_4 lX5_nearestTo (by decide +kernel)
theorem dX5_nearestTo_14 : decode cX5_nearestTo 14 = .ok (.istore 4, 2) := op_54 lX5_nearestTo (by decide +kernel)
theorem dX5_nearestTo_16 : decode cX5_nearestTo 16 = .ok (.iload 4, 2) := op_21 lX5_nearestTo (by decide +kernel)
theorem dX5_nearestTo_18 : decode cX5_nearestTo 18 = .ok (.aload_n 0, 1) := op_42 lX5_nearestTo (by decide +kernel)
theorem dX5_nearestTo_19 : decode cX5_nearestTo 19 = .ok (.getfield 65, 3) := op_180 lX5_nearestTo 0 65 (by decide +kernel)
theorem dX5_nearestTo_22 : decode cX5_nearestTo 22 = .ok (.if_icmp .ge 39, 3) := op_162 lX5_nearestTo 0 39 (by decide +kernel)
theorem dX5_nearestTo_25 : decode cX5_nearestTo 25 = .ok (.iload_n 3, 1) := op_29 lX5_nearestTo (by decide +kernel)
theorem dX5_nearestTo_26 : decode cX5_nearestTo 26 = .ok (.ifCond .le 35, 3) := op_158 lX5_nearestTo 0 35 (by decide +kernel)
theorem dX5_nearestTo_29 : decode cX5_nearestTo 29 = .ok (.aload_n 0, 1) := op_42 lX5_nearestTo (by decide +kernel)
theorem dX5_nearestTo_30 : decode cX5_nearestTo 30 = .ok (.aload_n 1, 1) := op_43 lX5_nearestTo (by decide +kernel)
theorem dX5_nearestTo_31 : decode cX5_nearestTo 31 = .ok (.aload_n 0, 1) := op_42 lX5_nearestTo (by decide +kernel)
theorem dX5_nearestTo_32 : decode cX5_nearestTo 32 = .ok (.getfield 27, 3) := op_180 lX5_nearestTo 0 27 (by decide +kernel)
theorem dX5_nearestTo_35 : decode cX5_nearestTo 35 = .ok (.iload 4, 2) := op_21 lX5_nearestTo (by decide +kernel)
theorem dX5_nearestTo_37 : decode cX5_nearestTo 37 = .ok (.iaload, 1) := op_46 lX5_nearestTo (by decide +kernel)
theorem dX5_nearestTo_38 : decode cX5_nearestTo 38 = .ok (.invokevirtual 125, 3) := op_182 lX5_nearestTo 0 125 (by decide +kernel)
theorem dX5_nearestTo_41 : decode cX5_nearestTo 41 = .ok (.istore 5, 2) := op_54 lX5_nearestTo (by decide +kernel)
theorem dX5_nearestTo_43 : decode cX5_nearestTo 43 = .ok (.iload 5, 2) := op_21 lX5_nearestTo (by decide +kernel)
theorem dX5_nearestTo_45 : decode cX5_nearestTo 45 = .ok (.iload_n 3, 1) := op_29 lX5_nearestTo (by decide +kernel)
theorem dX5_nearestTo_46 : decode cX5_nearestTo 46 = .ok (.if_icmp .ge 9, 3) := op_162 lX5_nearestTo 0 9 (by decide +kernel)
theorem dX5_nearestTo_49 : decode cX5_nearestTo 49 = .ok (.iload 5, 2) := op_21 lX5_nearestTo (by decide +kernel)
theorem dX5_nearestTo_51 : decode cX5_nearestTo 51 = .ok (.istore_n 3, 1) := op_62 lX5_nearestTo (by decide +kernel)
theorem dX5_nearestTo_52 : decode cX5_nearestTo 52 = .ok (.iload 4, 2) := op_21 lX5_nearestTo (by decide +kernel)
theorem dX5_nearestTo_54 : decode cX5_nearestTo 54 = .ok (.istore_n 2, 1) := op_61 lX5_nearestTo (by decide +kernel)
theorem dX5_nearestTo_55 : decode cX5_nearestTo 55 = .ok (.iinc 4 1, 3) := op_132 lX5_nearestTo 1 (by decide +kernel)
theorem dX5_nearestTo_58 : decode cX5_nearestTo 58 = .ok (.goto (-42), 3) := op_167 lX5_nearestTo 255 214 (by decide +kernel)
theorem dX5_nearestTo_61 : decode cX5_nearestTo 61 = .ok (.iload_n 2, 1) := op_28 lX5_nearestTo (by decide +kernel)
theorem dX5_nearestTo_62 : decode cX5_nearestTo 62 = .ok (.ireturn, 1) := op_172 lX5_nearestTo (by decide +kernel)
def nX5_greatestIn : Nat := 0xac1ceaffa70103843d6100b88100b61d1b2a1c1400a21e00b42a1d3e033d03
theorem lX5_greatestIn : cX5_greatestIn.data.toList = unp nX5_greatestIn 31 0 := by decide +kernel
theorem dX5_greatestIn_0 : decode cX5_greatestIn 0 = .ok (.iconst 0, 1) := op_3 lX5_greatestIn (by decide +kernel)
theorem dX5_greatestIn_1 : decode cX5_greatestIn 1 = .ok (.istore_n 2, 1) := op_61 lX5_greatestIn (by decide +kernel)
theorem dX5_greatestIn_2 : decode cX5_greatestIn 2 = .ok (.iconst 0, 1) := op_3 lX5_greatestIn (by decide +kernel)
theorem dX5_greatestIn_3 : decode cX5_greatestIn 3 = .ok (.istore_n 3, 1) := op_62 lX5_greatestIn (by decide +kernel)
theorem dX5_greatestIn_4 : decode cX5_greatestIn 4 = .ok (.iload_n 3, 1) := op_29 lX5_greatestIn (by decide +kernel)
theorem dX5_greatestIn_5 : decode cX5_greatestIn 5 = .ok (.aload_n 0, 1) := op_42 lX5_greatestIn (by decide +kernel)
theorem dX5_greatestIn_6 : decode cX5_greatestIn 6 = .ok (.getfield 30, 3) := op_180 lX5_greatestIn 0 30 (by decide +kernel)
theorem dX5_greatestIn_9 : decode cX5_greatestIn 9 = .ok (.if_icmp .ge 20, 3) := op_162 lX5_greatestIn 0 20 (by decide +kernel)
theorem dX5_greatestIn_12 : decode cX5_greatestIn 12 = .ok (.iload_n 2, 1) := op_28 lX5_greatestIn (by decide +kernel)
theorem dX5_greatestIn_13 : decode cX5_greatestIn 13 = .ok (.aload_n 0, 1) := op_42 lX5_greatestIn (by decide +kernel)
theorem dX5_greatestIn_14 : decode cX5_greatestIn 14 = .ok (.iload_n 1, 1) := op_27 lX5_greatestIn (by decide +kernel)
theorem dX5_greatestIn_15 : decode cX5_greatestIn 15 = .ok (.iload_n 3, 1) := op_29 lX5_greatestIn (by decide +kernel)
theorem dX5_greatestIn_16 : decode cX5_greatestIn 16 = .ok (.invokevirtual 129, 3) := op_182 lX5_greatestIn 0 129 (by decide +kernel)
theorem dX5_greatestIn_19 : decode cX5_greatestIn 19 = .ok (.invokestatic 97, 3) := op_184 lX5_greatestIn 0 97 (by decide +kernel)
theorem dX5_greatestIn_22 : decode cX5_greatestIn 22 = .ok (.istore_n 2, 1) := op_61 lX5_greatestIn (by decide +kernel)
theorem dX5_greatestIn_23 : decode cX5_greatestIn 23 = .ok (.iinc 3 1, 3) := op_132 lX5_greatestIn 1 (by decide +kernel)
theorem dX5_greatestIn_26 : decode cX5_greatestIn 26 = .ok (.goto (-22), 3) := op_167 lX5_greatestIn 255 234 (by decide +kernel)
theorem dX5_greatestIn_29 : decode cX5_greatestIn 29 = .ok (.iload_n 2, 1) := op_28 lX5_greatestIn (by decide +kernel)
theorem dX5_greatestIn_30 : decode cX5_greatestIn 30 = .ok (.ireturn, 1) := op_172 lX5_greatestIn (by decide +kernel)
def nX5_greatestFrom : Nat := 0xac1dd6ffa7010684053607150436051507366404156805156400b606151b2a3e6100b805151d2700a21e00b42a0615063660041c0536040436033e03
theorem lX5_greatestFrom : cX5_greatestFrom.data.toList = unp nX5_greatestFrom 60 0 := by decide +kernel
theorem dX5_greatestFrom_0 : decode cX5_greatestFrom 0 = .ok (.iconst 0, 1) := op_3 lX5_greatestFrom (by decide +kernel)
theorem dX5_greatestFrom_1 : decode cX5_greatestFrom 1 = .ok (.istore_n 3, 1) := op_62 lX5_greatestFrom (by decide +kernel)
theorem dX5_greatestFrom_2 : decode cX5_greatestFrom 2 = .ok (.iconst 0, 1) := op_3 lX5_greatestFrom (by decide +kernel)
theorem dX5_greatestFrom_3 : decode cX5_greatestFrom 3 = .ok (.istore 4, 2) := op_54 lX5_greatestFrom (by decide +kernel)
theorem dX5_greatestFrom_5 : decode cX5_greatestFrom 5 = .ok (.iconst 1, 1) := op_4 lX5_greatestFrom (by decide +kernel)
theorem dX5_greatestFrom_6 : decode cX5_greatestFrom 6 = .ok (.istore 5, 2) := op_54 lX5_greatestFrom (by decide +kernel)
theorem dX5_greatestFrom_8 : decode cX5_greatestFrom 8 = .ok (.iload_n 2, 1) := op_28 lX5_greatestFrom (by decide +kernel)
theorem dX5_greatestFrom_9 : decode cX5_greatestFrom 9 = .ok (.iconst 1, 1) := op_4 lX5_greatestFrom (by decide +kernel)
theorem dX5_greatestFrom_10 : decode cX5_greatestFrom 10 = .ok (.iadd, 1) := op_96 lX5_greatestFrom (by decide +kernel)
theorem dX5_greatestFrom_11 : decode cX5_greatestFrom 11 = .ok (.istore 6, 2) := op_54 lX5_greatestFrom (by decide +kernel)
theorem dX5_greatestFrom_13 : decode cX5_greatestFrom 13 = .ok (.iload 6, 2) := op_21 lX5_greatestFrom (by decide +kernel)
theorem dX5_greatestFrom_15 : decode cX5_greatestFrom 15 = .ok (.aload_n 0, 1) := op_42 lX5_greatestFrom (by decide +kernel)
theorem dX5_greatestFrom_16 : decode cX5_greatestFrom 16 = .ok (.getfield 30, 3) := op_180 lX5_greatestFrom 0 30 (by decide +kernel)
theorem dX5_greatestFrom_19 : decode cX5_greatestFrom 19 = .ok (.if_icmp .ge 39, 3) := op_162 lX5_greatestFrom 0 39 (by decide +kernel)
theorem dX5_greatestFrom_22 : decode cX5_greatestFrom 22 = .ok (.iload_n 3, 1) := op_29 lX5_greatestFrom (by decide +kernel)
theorem dX5_greatestFrom_23 : decode cX5_greatestFrom 23 = .ok (.iload 5, 2) := op_21 lX5_greatestFrom (by decide +kernel)
theorem dX5_greatestFrom_25 : decode cX5_greatestFrom 25 = .ok (.invokestatic 97, 3) := op_184 lX5_greatestFrom 0 97 (by decide +kernel)
theorem dX5_greatestFrom_28 : decode cX5_greatestFrom 28 = .ok (.istore_n 3, 1) := op_62 lX5_greatestFrom (by decide +kernel)
theorem dX5_greatestFrom_29 : decode cX5_greatestFrom 29 = .ok (.aload_n 0, 1) := op_42 lX5_greatestFrom (by decide +kernel)
end

section
theorem dX5_greatestFrom_30 : decode cX5_greatestFrom 30 = .ok (.iload_n 1, 1) := op_27 lX5_greatestFrom (by decide +kernel)
theorem dX5_greatestFrom_31 : decode cX5_greatestFrom 31 = .ok (.iload 6, 2) := op_21 lX5_greatestFrom (by decide +kernel)
theorem dX5_greatestFrom_33 : decode cX5_greatestFrom 33 = .ok (.invokevirtual 100, 3) := op_182 lX5_greatestFrom 0 100 (by decide +kernel)
theorem dX5_greatestFrom_36 : decode cX5_greatestFrom 36 = .ok (.iload 5, 2) := op_21 lX5_greatestFrom (by decide +kernel)
theorem dX5_greatestFrom_38 : decode cX5_greatestFrom 38 = .ok (.imul, 1) := op_104 lX5_greatestFrom (by decide +kernel)
theorem dX5_greatestFrom_39 : decode cX5_greatestFrom 39 = .ok (.iload 4, 2) := op_21 lX5_greatestFrom (by decide +kernel)
theorem dX5_greatestFrom_41 : decode cX5_greatestFrom 41 = .ok (.isub, 1) := op_100 lX5_greatestFrom (by decide +kernel)
theorem dX5_greatestFrom_42 : decode cX5_greatestFrom 42 = .ok (.istore 7, 2) := op_54 lX5_greatestFrom (by decide +kernel)
theorem dX5_greatestFrom_44 : decode cX5_greatestFrom 44 = .ok (.iload 5, 2) := op_21 lX5_greatestFrom (by decide +kernel)
theorem dX5_greatestFrom_46 : decode cX5_greatestFrom 46 = .ok (.istore 4, 2) := op_54 lX5_greatestFrom (by decide +kernel)
theorem dX5_greatestFrom_48 : decode cX5_greatestFrom 48 = .ok (.iload 7, 2) := op_21 lX5_greatestFrom (by decide +kernel)
theorem dX5_greatestFrom_50 : decode cX5_greatestFrom 50 = .ok (.istore 5, 2) := op_54 lX5_greatestFrom (by decide +kernel)
theorem dX5_greatestFrom_52 : decode cX5_greatestFrom 52 = .ok (.iinc 6 1, 3) := op_132 lX5_greatestFrom 1 (by decide +kernel)
theorem dX5_greatestFrom_55 : decode cX5_greatestFrom 55 = .ok (.goto (-42), 3) := op_167 lX5_greatestFrom 255 214 (by decide +kernel)
theorem dX5_greatestFrom_58 : decode cX5_greatestFrom 58 = .ok (.iload_n 3, 1) := op_29 lX5_greatestFrom (by decide +kernel)
theorem dX5_greatestFrom_59 : decode cX5_greatestFrom 59 = .ok (.ireturn, 1) := op_172 lX5_greatestFrom (by decide +kernel)
def nX5_numberOfGreatest : Nat := 0xac1bdeffa70103843c1d3d04150800a41c041504368400b62e1d1b00b42a2a2000a24100b42a1d3e033d033c03
theorem lX5_numberOfGreatest : cX5_numberOfGreatest.data.toList = unp nX5_numberOfGreatest 45 0 := by decide +kernel
theorem dX5_numberOfGreatest_0 : decode cX5_numberOfGreatest 0 = .ok (.iconst 0, 1) := op_3 lX5_numberOfGreatest (by decide +kernel)
theorem dX5_numberOfGreatest_1 : decode cX5_numberOfGreatest 1 = .ok (.istore_n 1, 1) := op_60 lX5_numberOfGreatest (by decide +kernel)
theorem dX5_numberOfGreatest_2 : decode cX5_numberOfGreatest 2 = .ok (.iconst 0, 1) := op_3 lX5_numberOfGreatest (by decide +kernel)
theorem dX5_numberOfGreatest_3 : decode cX5_numberOfGreatest 3 = .ok (.istore_n 2, 1) := op_61 lX5_numberOfGreatest (by decide +kernel)
theorem dX5_numberOfGreatest_4 : decode cX5_numberOfGreatest 4 = .ok (.iconst 0, 1) := op_3 lX5_numberOfGreatest (by decide +kernel)
theorem dX5_numberOfGreatest_5 : decode cX5_numberOfGreatest 5 = .ok (.istore_n 3, 1) := op_62 lX5_numberOfGreatest (by decide +kernel)
theorem dX5_numberOfGreatest_6 : decode cX5_numberOfGreatest 6 = .ok (.iload_n 3, 1) := op_29 lX5_numberOfGreatest (by decide +kernel)
theorem dX5_numberOfGreatest_7 : decode cX5_numberOfGreatest 7 = .ok (.aload_n 0, 1) := op_42 lX5_numberOfGreatest (by decide +kernel)
theorem dX5_numberOfGreatest_8 : decode cX5_numberOfGreatest 8 = .ok (.getfield 65, 3) := op_180 lX5_numberOfGreatest 0 65 (by decide +kernel)
theorem dX5_numberOfGreatest_11 : decode cX5_numberOfGreatest 11 = .ok (.if_icmp .ge 32, 3) := op_162 lX5_numberOfGreatest 0 32 (by decide +kernel)
theorem dX5_numberOfGreatest_14 : decode cX5_numberOfGreatest 14 = .ok (.aload_n 0, 1) := op_42 lX5_numberOfGreatest (by decide +kernel)
theorem dX5_numberOfGreatest_15 : decode cX5_numberOfGreatest 15 = .ok (.aload_n 0, 1) := op_42 lX5_numberOfGreatest (by decide +kernel)
theorem dX5_numberOfGreatest_16 : decode cX5_numberOfGreatest 16 = .ok (.getfield 27, 3) := op_180 lX5_numberOfGreatest 0 27 (by decide +kernel)
theorem dX5_numberOfGreatest_19 : decode cX5_numberOfGreatest 19 = .ok (.iload_n 3, 1) := op_29 lX5_numberOfGreatest (by decide +kernel)
theorem dX5_numberOfGreatest_20 : decode cX5_numberOfGreatest 20 = .ok (.iaload, 1) := op_46 lX5_numberOfGreatest (by decide +kernel)
theorem dX5_numberOfGreatest_21 : decode cX5_numberOfGreatest 21 = .ok (.invokevirtual 132, 3) := op_182 lX5_numberOfGreatest 0 132 (by decide +kernel)
theorem dX5_numberOfGreatest_24 : decode cX5_numberOfGreatest 24 = .ok (.istore 4, 2) := op_54 lX5_numberOfGreatest (by decide +kernel)
theorem dX5_numberOfGreatest_26 : decode cX5_numberOfGreatest 26 = .ok (.iload 4, 2) := op_21 lX5_numberOfGreatest (by decide +kernel)
theorem dX5_numberOfGreatest_28 : decode cX5_numberOfGreatest 28 = .ok (.iload_n 2, 1) := op_28 lX5_numberOfGreatest (by decide +kernel)
theorem dX5_numberOfGreatest_29 : decode cX5_numberOfGreatest 29 = .ok (.if_icmp .le 8, 3) := op_164 lX5_numberOfGreatest 0 8 (by decide +kernel)
theorem dX5_numberOfGreatest_32 : decode cX5_numberOfGreatest 32 = .ok (.iload 4, 2) := op_21 lX5_numberOfGreatest (by decide +kernel)
theorem dX5_numberOfGreatest_34 : decode cX5_numberOfGreatest 34 = .ok (.istore_n 2, 1) := op_61 lX5_numberOfGreatest (by decide +kernel)
theorem dX5_numberOfGreatest_35 : decode cX5_numberOfGreatest 35 = .ok (.iload_n 3, 1) := op_29 lX5_numberOfGreatest (by decide +kernel)
theorem dX5_numberOfGreatest_36 : decode cX5_numberOfGreatest 36 = .ok (.istore_n 1, 1) := op_60 lX5_numberOfGreatest (by decide +kernel)
theorem dX5_numberOfGreatest_37 : decode cX5_numberOfGreatest 37 = .ok (.iinc 3 1, 3) := op_132 lX5_numberOfGreatest 1 (by decide +kernel)
theorem dX5_numberOfGreatest_40 : decode cX5_numberOfGreatest 40 = .ok (.goto (-34), 3) := op_167 lX5_numberOfGreatest 255 222 (by decide +kernel)
theorem dX5_numberOfGreatest_43 : decode cX5_numberOfGreatest 43 = .ok (.iload_n 1, 1) := op_27 lX5_numberOfGreatest (by decide +kernel)
theorem dX5_numberOfGreatest_44 : decode cX5_numberOfGreatest 44 = .ok (.ireturn, 1) := op_172 lX5_numberOfGreatest (by decide +kernel)
def nX5_countWith : Nat := 0xac0415e0ffa70105840104840600a01d8700b61c1b2e05151b00b42a2a1d00a24100b42a0515053603043603
theorem lX5_countWith : cX5_countWith.data.toList = unp nX5_countWith 44 0 := by decide +kernel
theorem dX5_countWith_0 : decode cX5_countWith 0 = .ok (.iconst 0, 1) := op_3 lX5_countWith (by decide +kernel)
theorem dX5_countWith_1 : decode cX5_countWith 1 = .ok (.istore 4, 2) := op_54 lX5_countWith (by decide +kernel)
theorem dX5_countWith_3 : decode cX5_countWith 3 = .ok (.iconst 0, 1) := op_3 lX5_countWith (by decide +kernel)
theorem dX5_countWith_4 : decode cX5_countWith 4 = .ok (.istore 5, 2) := op_54 lX5_countWith (by decide +kernel)
theorem dX5_countWith_6 : decode cX5_countWith 6 = .ok (.iload 5, 2) := op_21 lX5_countWith (by decide +kernel)
theorem dX5_countWith_8 : decode cX5_countWith 8 = .ok (.aload_n 0, 1) := op_42 lX5_countWith (by decide +kernel)
theorem dX5_countWith_9 : decode cX5_countWith 9 = .ok (.getfield 65, 3) := op_180 lX5_countWith 0 65 (by decide +kernel)
theorem dX5_countWith_12 : decode cX5_countWith 12 = .ok (.if_icmp .ge 29, 3) := op_162 lX5_countWith 0 29 (by decide +kernel)
theorem dX5_countWith_15 : decode cX5_countWith 15 = .ok (.aload_n 0, 1) := op_42 lX5_countWith (by decide +kernel)
theorem dX5_countWith_16 : decode cX5_countWith 16 = .ok (.aload_n 0, 1) := op_42 lX5_countWith (by decide +kernel)
theorem dX5_countWith_17 : decode cX5_countWith 17 = .ok (.getfield 27, 3) := op_180 lX5_countWith 0 27 (by decide +kernel)
theorem dX5_countWith_20 : decode cX5_countWith 20 = .ok (.iload 5, 2) := op_21 lX5_countWith (by decide +kernel)
theorem dX5_countWith_22 : decode cX5_countWith 22 = .ok (.iaload, 1) := op_46 lX5_countWith (by decide +kernel)
theorem dX5_countWith_23 : decode cX5_countWith 23 = .ok (.iload_n 1, 1) := op_27 lX5_countWith (by decide +kernel)
theorem dX5_countWith_24 : decode cX5_countWith 24 = .ok (.iload_n 2, 1) := op_28 lX5_countWith (by decide +kernel)
theorem dX5_countWith_25 : decode cX5_countWith 25 = .ok (.invokevirtual 135, 3) := op_182 lX5_countWith 0 135 (by decide +kernel)
theorem dX5_countWith_28 : decode cX5_countWith 28 = .ok (.iload_n 3, 1) := op_29 lX5_countWith (by decide +kernel)
theorem dX5_countWith_29 : decode cX5_countWith 29 = .ok (.if_icmp .ne 6, 3) := op_160 lX5_countWith 0 6 (by decide +kernel)
theorem dX5_countWith_32 : decode cX5_countWith 32 = .ok (.iinc 4 1, 3) := op_132 lX5_countWith 1 (by decide +kernel)
theorem dX5_countWith_35 : decode cX5_countWith 35 = .ok (.iinc 5 1, 3) := op_132 lX5_countWith 1 (by decide +kernel)
theorem dX5_countWith_38 : decode cX5_countWith 38 = .ok (.goto (-32), 3) := op_167 lX5_countWith 255 224 (by decide +kernel)
theorem dX5_countWith_41 : decode cX5_countWith 41 = .ok (.iload 4, 2) := op_21 lX5_countWith (by decide +kernel)
theorem dX5_countWith_43 : decode cX5_countWith 43 = .ok (.ireturn, 1) := op_172 lX5_countWith (by decide +kernel)
end

section
def nX6_init : Nat := 0xb10b00b50900bd06102a0300b72a
theorem lX6_init : cX6_init.data.toList = unp nX6_init 14 0 := by decide +kernel
theorem dX6_init_0 : decode cX6_init 0 = .ok (.aload_n 0, 1) := op_42 lX6_init (by decide +kernel)
theorem dX6_init_1 : decode cX6_init 1 = .ok (.invokespecial 3, 3) := op_183 lX6_init 0 3 (by decide +kernel)
theorem dX6_init_4 : decode cX6_init 4 = .ok (.aload_n 0, 1) := op_42 lX6_init (by decide +kernel)
theorem dX6_init_5 : decode cX6_init 5 = .ok (.bipush 6, 2) := op_16 lX6_init 6 (by decide +kernel)
theorem dX6_init_7 : decode cX6_init 7 = .ok (.anewarray 9, 3) := op_189 lX6_init 0 9 (by decide +kernel)
theorem dX6_init_10 : decode cX6_init 10 = .ok (.putfield 11, 3) := op_181 lX6_init 0 11 (by decide +kernel)
theorem dX6_init_13 : decode cX6_init 13 = .ok (.return_, 1) := op_177 lX6_init (by decide +kernel)
def nX6_withCorners : Nat := 0xb0321c0b00b42a531100b71b590900bb1c0b00b42a1100c7321c0b00b42a3d64071bb0010500a409101b0900a1071b
theorem lX6_withCorners : cX6_withCorners.data.toList = unp nX6_withCorners 47 0 := by decide +kernel
theorem dX6_withCorners_0 : decode cX6_withCorners 0 = .ok (.iload_n 1, 1) := op_27 lX6_withCorners (by decide +kernel)
theorem dX6_withCorners_1 : decode cX6_withCorners 1 = .ok (.iconst 4, 1) := op_7 lX6_withCorners (by decide +kernel)
theorem dX6_withCorners_2 : decode cX6_withCorners 2 = .ok (.if_icmp .lt 9, 3) := op_161 lX6_withCorners 0 9 (by decide +kernel)
theorem dX6_withCorners_5 : decode cX6_withCorners 5 = .ok (.iload_n 1, 1) := op_27 lX6_withCorners (by decide +kernel)
theorem dX6_withCorners_6 : decode cX6_withCorners 6 = .ok (.bipush 9, 2) := op_16 lX6_withCorners 9 (by decide +kernel)
theorem dX6_withCorners_8 : decode cX6_withCorners 8 = .ok (.if_icmp .le 5, 3) := op_164 lX6_withCorners 0 5 (by decide +kernel)
theorem dX6_withCorners_11 : decode cX6_withCorners 11 = .ok (.aconst_null, 1) := op_1 lX6_withCorners (by decide +kernel)
theorem dX6_withCorners_12 : decode cX6_withCorners 12 = .ok (.areturn, 1) := op_176 lX6_withCorners (by decide +kernel)
theorem dX6_withCorners_13 : decode cX6_withCorners 13 = .ok (.iload_n 1, 1) := op_27 lX6_withCorners (by decide +kernel)
theorem dX6_withCorners_14 : decode cX6_withCorners 14 = .ok (.iconst 4, 1) := op_7 lX6_withCorners (by decide +kernel)
theorem dX6_withCorners_15 : decode cX6_withCorners 15 = .ok (.isub, 1) := op_100 lX6_withCorners (by decide +kernel)
theorem dX6_withCorners_16 : decode cX6_withCorners 16 = .ok (.istore_n 2, 1) := op_61 lX6_withCorners (by decide +kernel)
theorem dX6_withCorners_17 : decode cX6_withCorners 17 = .ok (.aload_n 0, 1) := op_42 lX6_withCorners (by decide +kernel)
theorem dX6_withCorners_18 : decode cX6_withCorners 18 = .ok (.getfield 11, 3) := op_180 lX6_withCorners 0 11 (by decide +kernel)
theorem dX6_withCorners_21 : decode cX6_withCorners 21 = .ok (.iload_n 2, 1) := op_28 lX6_withCorners (by decide +kernel)
theorem dX6_withCorners_22 : decode cX6_withCorners 22 = .ok (.aaload, 1) := op_50 lX6_withCorners (by decide +kernel)
theorem dX6_withCorners_23 : decode cX6_withCorners 23 = .ok (.ifnonnull 17, 3) := op_199 lX6_withCorners 0 17 (by decide +kernel)
theorem dX6_withCorners_26 : decode cX6_withCorners 26 = .ok (.aload_n 0, 1) := op_42 lX6_withCorners (by decide +kernel)
theorem dX6_withCorners_27 : decode cX6_withCorners 27 = .ok (.getfield 11, 3) := op_180 lX6_withCorners 0 11 (by decide +kernel)
theorem dX6_withCorners_30 : decode cX6_withCorners 30 = .ok (.iload_n 2, 1) := op_28 lX6_withCorners (by decide +kernel)
theorem dX6_withCorners_31 : decode cX6_withCorners 31 = .ok (.new 9, 3) := op_187 lX6_withCorners 0 9 (by decide +kernel)
theorem dX6_withCorners_34 : decode cX6_withCorners 34 = .ok (.dup, 1) := op_89 lX6_withCorners (by decide +kernel)
theorem dX6_withCorners_35 : decode cX6_withCorners 35 = .ok (.iload_n 1, 1) := op_27 lX6_withCorners (by decide +kernel)
theorem dX6_withCorners_36 : decode cX6_withCorners 36 = .ok (.invokespecial 17, 3) := op_183 lX6_withCorners 0 17 (by decide +kernel)
theorem dX6_withCorners_39 : decode cX6_withCorners 39 = .ok (.aastore, 1) := op_83 lX6_withCorners (by decide +kernel)
theorem dX6_withCorners_40 : decode cX6_withCorners 40 = .ok (.aload_n 0, 1) := op_42 lX6_withCorners (by decide +kernel)
theorem dX6_withCorners_41 : decode cX6_withCorners 41 = .ok (.getfield 11, 3) := op_180 lX6_withCorners 0 11 (by decide +kernel)
theorem dX6_withCorners_44 : decode cX6_withCorners 44 = .ok (.iload_n 2, 1) := op_28 lX6_withCorners (by decide +kernel)
theorem dX6_withCorners_45 : decode cX6_withCorners 45 = .ok (.aaload, 1) := op_50 lX6_withCorners (by decide +kernel)
theorem dX6_withCorners_46 : decode cX6_withCorners 46 = .ok (.areturn, 1) := op_176 lX6_withCorners (by decide +kernel)
end

section
def nX7_init : Nat := 0xb12400b50abc14102a2100b50abc14102a1e00b50abc14102a1b00b50abc14102a1800b50abc14102a1500b50abc14102a1200b50abc14102a0f00b50abc14102a0b00b50abc14102a0300b72a
theorem lX7_init : cX7_init.data.toList = unp nX7_init 77 0 := by decide +kernel
theorem dX7_init_0 : decode cX7_init 0 = .ok (.aload_n 0, 1) := op_42 lX7_init (by decide +kernel)
theorem dX7_init_1 : decode cX7_init 1 = .ok (.invokespecial 3, 3) := op_183 lX7_init 0 3 (by decide +kernel)
theorem dX7_init_4 : decode cX7_init 4 = .ok (.aload_n 0, 1) := op_42 lX7_init (by decide +kernel)
theorem dX7_init_5 : decode cX7_init 5 = .ok (.bipush 20, 2) := op_16 lX7_init 20 (by decide +kernel)
theorem dX7_init_7 : decode cX7_init 7 = .ok (.newarray .int, 2) := by decide +kernel
theorem dX7_init_9 : decode cX7_init 9 = .ok (.putfield 11, 3) := op_181 lX7_init 0 11 (by decide +kernel)
theorem dX7_init_12 : decode cX7_init 12 = .ok (.aload_n 0, 1) := op_42 lX7_init (by decide +kernel)
theorem dX7_init_13 : decode cX7_init 13 = .ok (.bipush 20, 2) := op_16 lX7_init 20 (by decide +kernel)
theorem dX7_init_15 : decode cX7_init 15 = .ok (.newarray .int, 2) := by decide +kernel
theorem dX7_init_17 : decode cX7_init 17 = .ok (.putfield 15, 3) := op_181 lX7_init 0 15 (by decide +kernel)
theorem dX7_init_20 : decode cX7_init 20 = .ok (.aload_n 0, 1) := op_42 lX7_init (by decide +kernel)
theorem dX7_init_21 : decode cX7_init 21 = .ok (.bipush 20, 2) := op_16 lX7_init 20 (by decide +kernel)
theorem dX7_init_23 : decode cX7_init 23 = .ok (.newarray .int, 2) := by decide +kernel
theorem dX7_init_25 : decode cX7_init 25 = .ok (.putfield 18, 3) := op_181 lX7_init 0 18 (by decide +kernel)
theorem dX7_init_28 : decode cX7_init 28 = .ok (.aload_n 0, 1) := op_42 lX7_init (by decide +kernel)
theorem dX7_init_29 : decode cX7_init 29 = .ok (.bipush 20, 2) := op_16 lX7_init 20 (by decide +kernel)
theorem dX7_init_31 : decode cX7_init 31 = .ok (.newarray .int, 2) := by decide +kernel
theorem dX7_init_33 : decode cX7_init 33 = .ok (.putfield 21, 3) := op_181 lX7_init 0 21 (by decide +kernel)
theorem dX7_init_36 : decode cX7_init 36 = .ok (.aload_n 0, 1) := op_42 lX7_init (by decide +kernel)
theorem dX7_init_37 : decode cX7_init 37 = .ok (.bipush 20, 2) := op_16 lX7_init 20 (by decide +kernel)
theorem dX7_init_39 : decode cX7_init 39 = .ok (.newarray .int, 2) := by decide +kernel
theorem dX7_init_41 : decode cX7_init 41 = .ok (.putfield 24, 3) := op_181 lX7_init 0 24 (by decide +kernel)
theorem dX7_init_44 : decode cX7_init 44 = .ok (.aload_n 0, 1) := op_42 lX7_init (by decide +kernel)
theorem dX7_init_45 : decode cX7_init 45 = .ok (.bipush 20, 2) := op_16 lX7_init 20 (by decide +kernel)
theorem dX7_init_47 : decode cX7_init 47 = .ok (.newarray .int, 2) := by decide +kernel
theorem dX7_init_49 : decode cX7_init 49 = .ok (.putfield 27, 3) := op_181 lX7_init 0 27 (by decide +kernel)
theorem dX7_init_52 : decode cX7_init 52 = .ok (.aload_n 0, 1) := op_42 lX7_init (by decide +kernel)
theorem dX7_init_53 : decode cX7_init 53 = .ok (.bipush 20, 2) := op_16 lX7_init 20 (by decide +kernel)
theorem dX7_init_55 : decode cX7_init 55 = .ok (.newarray .int, 2) := by decide +kernel
theorem dX7_init_57 : decode cX7_init 57 = .ok (.putfield 30, 3) := op_181 lX7_init 0 30 (by decide +kernel)
theorem dX7_init_60 : decode cX7_init 60 = .ok (.aload_n 0, 1) := op_42 lX7_init (by decide +kernel)
theorem dX7_init_61 : decode cX7_init 61 = .ok (.bipush 20, 2) := op_16 lX7_init 20 (by decide +kernel)
theorem dX7_init_63 : decode cX7_init 63 = .ok (.newarray .int, 2) := by decide +kernel
theorem dX7_init_65 : decode cX7_init 65 = .ok (.putfield 33, 3) := op_181 lX7_init 0 33 (by decide +kernel)
theorem dX7_init_68 : decode cX7_init 68 = .ok (.aload_n 0, 1) := op_42 lX7_init (by decide +kernel)
theorem dX7_init_69 : decode cX7_init 69 = .ok (.bipush 20, 2) := op_16 lX7_init 20 (by decide +kernel)
theorem dX7_init_71 : decode cX7_init 71 = .ok (.newarray .int, 2) := by decide +kernel
theorem dX7_init_73 : decode cX7_init 73 = .ok (.putfield 36, 3) := op_181 lX7_init 0 36 (by decide +kernel)
theorem dX7_init_76 : decode cX7_init 76 = .ok (.return_, 1) := op_177 lX7_init (by decide +kernel)
def nX7_size : Nat := 0xac2700b42a
theorem lX7_size : cX7_size.data.toList = unp nX7_size 5 0 := by decide +kernel
theorem dX7_size_0 : decode cX7_size 0 = .ok (.aload_n 0, 1) := op_42 lX7_size (by decide +kernel)
theorem dX7_size_1 : decode cX7_size 1 = .ok (.getfield 39, 3) := op_180 lX7_size 0 39 (by decide +kernel)
theorem dX7_size_4 : decode cX7_size 4 = .ok (.ireturn, 1) := op_172 lX7_size (by decide +kernel)
def nX7_rights : Nat := 0xac2b00b42a
theorem lX7_rights : cX7_rights.data.toList = unp nX7_rights 5 0 := by decide +kernel
theorem dX7_rights_0 : decode cX7_rights 0 = .ok (.aload_n 0, 1) := op_42 lX7_rights (by decide +kernel)
theorem dX7_rights_1 : decode cX7_rights 1 = .ok (.getfield 43, 3) := op_180 lX7_rights 0 43 (by decide +kernel)
theorem dX7_rights_4 : decode cX7_rights 4 = .ok (.ireturn, 1) := op_172 lX7_rights (by decide +kernel)
def nX7_has : Nat := 0xac030400a7040700a22700b42a1b0f009b1b
theorem lX7_has : cX7_has.data.toList = unp nX7_has 18 0 := by decide +kernel
theorem dX7_has_0 : decode cX7_has 0 = .ok (.iload_n 1, 1) := op_27 lX7_has (by decide +kernel)
theorem dX7_has_1 : decode cX7_has 1 = .ok (.ifCond .lt 15, 3) := op_155 lX7_has 0 15 (by decide +kernel)
theorem dX7_has_4 : decode cX7_has 4 = .ok (.iload_n 1, 1) := op_27 lX7_has (by decide +kernel)
theorem dX7_has_5 : decode cX7_has 5 = .ok (.aload_n 0, 1) := op_42 lX7_has (by decide +kernel)
theorem dX7_has_6 : decode cX7_has 6 = .ok (.getfield 39, 3) := op_180 lX7_has 0 39 (by decide +kernel)
theorem dX7_has_9 : decode cX7_has 9 = .ok (.if_icmp .ge 7, 3) := op_162 lX7_has 0 7 (by decide +kernel)
theorem dX7_has_12 : decode cX7_has 12 = .ok (.iconst 1, 1) := op_4 lX7_has (by decide +kernel)
theorem dX7_has_13 : decode cX7_has 13 = .ok (.goto 4, 3) := op_167 lX7_has 0 4 (by decide +kernel)
theorem dX7_has_16 : decode cX7_has 16 = .ok (.iconst 0, 1) := op_3 lX7_has (by decide +kernel)
theorem dX7_has_17 : decode cX7_has 17 = .ok (.ireturn, 1) := op_172 lX7_has (by decide +kernel)
def nX7_wasSeenBefore : Nat := 0xac030400a7040700a21b2e1c0b00b42a1100992e00b61c2a
theorem lX7_wasSeenBefore : cX7_wasSeenBefore.data.toList = unp nX7_wasSeenBefore 24 0 := by decide +kernel
theorem dX7_wasSeenBefore_0 : decode cX7_wasSeenBefore 0 = .ok (.aload_n 0, 1) := op_42 lX7_wasSeenBefore (by decide +kernel)
theorem dX7_wasSeenBefore_1 : decode cX7_wasSeenBefore 1 = .ok (.iload_n 2, 1) := op_28 lX7_wasSeenBefore (by decide +kernel)
theorem dX7_wasSeenBefore_2 : decode cX7_wasSeenBefore 2 = .ok (.invokevirtual 46, 3) := op_182 lX7_wasSeenBefore 0 46 (by decide +kernel)
theorem dX7_wasSeenBefore_5 : decode cX7_wasSeenBefore 5 = .ok (.ifCond .eq 17, 3) := op_153 lX7_wasSeenBefore 0 17 (by decide +kernel)
theorem dX7_wasSeenBefore_8 : decode cX7_wasSeenBefore 8 = .ok (.aload_n 0, 1) := op_42 lX7_wasSeenBefore (by decide +kernel)
theorem dX7_wasSeenBefore_9 : decode cX7_wasSeenBefore 9 = .ok (.getfield 11, 3) := op_180 lX7_wasSeenBefore 0 11 (by decide +kernel)
theorem dX7_wasSeenBefore_12 : decode cX7_wasSeenBefore 12 = .ok (.iload_n 2, 1) := op_28 lX7_wasSeenBefore (by decide +kernel)
theorem dX7_wasSeenBefore_13 : decode cX7_wasSeenBefore 13 = .ok (.iaload, 1) := op_46 lX7_wasSeenBefore (by decide +kernel)
theorem dX7_wasSeenBefore_14 : decode cX7_wasSeenBefore 14 = .ok (.iload_n 1, 1) := op_27 lX7_wasSeenBefore (by decide +kernel)
theorem dX7_wasSeenBefore_15 : decode cX7_wasSeenBefore 15 = .ok (.if_icmp .ge 7, 3) := op_162 lX7_wasSeenBefore 0 7 (by decide +kernel)
theorem dX7_wasSeenBefore_18 : decode cX7_wasSeenBefore 18 = .ok (.iconst 1, 1) := op_4 lX7_wasSeenBefore (by decide +kernel)
theorem dX7_wasSeenBefore_19 : decode cX7_wasSeenBefore 19 = .ok (.goto 4, 3) := op_167 lX7_wasSeenBefore 0 4 (by decide +kernel)
theorem dX7_wasSeenBefore_22 : decode cX7_wasSeenBefore 22 = .ok (.iconst 0, 1) := op_3 lX7_wasSeenBefore (by decide +kernel)
theorem dX7_wasSeenBefore_23 : decode cX7_wasSeenBefore 23 = .ok (.ireturn, 1) := op_172 lX7_wasSeenBefore (by decide +kernel)
def nX7_canTell : Nat := 0xac030400a7040700a3e703111b0e00a13200b42a1b
theorem lX7_canTell : cX7_canTell.data.toList = unp nX7_canTell 21 0 := by decide +kernel
theorem dX7_canTell_0 : decode cX7_canTell 0 = .ok (.iload_n 1, 1) := op_27 lX7_canTell (by decide +kernel)
theorem dX7_canTell_1 : decode cX7_canTell 1 = .ok (.aload_n 0, 1) := op_42 lX7_canTell (by decide +kernel)
theorem dX7_canTell_2 : decode cX7_canTell 2 = .ok (.getfield 50, 3) := op_180 lX7_canTell 0 50 (by decide +kernel)
theorem dX7_canTell_5 : decode cX7_canTell 5 = .ok (.if_icmp .lt 14, 3) := op_161 lX7_canTell 0 14 (by decide +kernel)
theorem dX7_canTell_8 : decode cX7_canTell 8 = .ok (.iload_n 1, 1) := op_27 lX7_canTell (by decide +kernel)
theorem dX7_canTell_9 : decode cX7_canTell 9 = .ok (.sipush 999, 3) := op_17 lX7_canTell 3 231 (by decide +kernel)
theorem dX7_canTell_12 : decode cX7_canTell 12 = .ok (.if_icmp .gt 7, 3) := op_163 lX7_canTell 0 7 (by decide +kernel)
theorem dX7_canTell_15 : decode cX7_canTell 15 = .ok (.iconst 1, 1) := op_4 lX7_canTell (by decide +kernel)
theorem dX7_canTell_16 : decode cX7_canTell 16 = .ok (.goto 4, 3) := op_167 lX7_canTell 0 4 (by decide +kernel)
theorem dX7_canTell_19 : decode cX7_canTell 19 = .ok (.iconst 0, 1) := op_3 lX7_canTell (by decide +kernel)
theorem dX7_canTell_20 : decode cX7_canTell 20 = .ok (.ireturn, 1) := op_172 lX7_canTell (by decide +kernel)
def nX7_forget : Nat := 0xb13200b5032a2b00b5032a2700b5032a
theorem lX7_forget : cX7_forget.data.toList = unp nX7_forget 16 0 := by decide +kernel
theorem dX7_forget_0 : decode cX7_forget 0 = .ok (.aload_n 0, 1) := op_42 lX7_forget (by decide +kernel)
theorem dX7_forget_1 : decode cX7_forget 1 = .ok (.iconst 0, 1) := op_3 lX7_forget (by decide +kernel)
theorem dX7_forget_2 : decode cX7_forget 2 = .ok (.putfield 39, 3) := op_181 lX7_forget 0 39 (by decide +kernel)
theorem dX7_forget_5 : decode cX7_forget 5 = .ok (.aload_n 0, 1) := op_42 lX7_forget (by decide +kernel)
theorem dX7_forget_6 : decode cX7_forget 6 = .ok (.iconst 0, 1) := op_3 lX7_forget (by decide +kernel)
theorem dX7_forget_7 : decode cX7_forget 7 = .ok (.putfield 43, 3) := op_181 lX7_forget 0 43 (by decide +kernel)
theorem dX7_forget_10 : decode cX7_forget 10 = .ok (.aload_n 0, 1) := op_42 lX7_forget (by decide +kernel)
theorem dX7_forget_11 : decode cX7_forget 11 = .ok (.iconst 0, 1) := op_3 lX7_forget (by decide +kernel)
theorem dX7_forget_12 : decode cX7_forget 12 = .ok (.putfield 50, 3) := op_181 lX7_forget 0 50 (by decide +kernel)
theorem dX7_forget_15 : decode cX7_forget 15 = .ok (.return_, 1) := op_177 lX7_forget (by decide +kernel)
def nX7_add : Nat := 0xac64042700b42a2700b560042700b4592a3200b51b2a4f032700b42a1800b42a4f04152700b42a1500b42a4f1d2700b42a1200b42a4f1c2700b42a0f00b42a4f1b2700b42a0b00b42aacfd100600a114102700b42a
theorem lX7_add : cX7_add.data.toList = unp nX7_add 85 0 := by decide +kernel
theorem dX7_add_0 : decode cX7_add 0 = .ok (.aload_n 0, 1) := op_42 lX7_add (by decide +kernel)
theorem dX7_add_1 : decode cX7_add 1 = .ok (.getfield 39, 3) := op_180 lX7_add 0 39 (by decide +kernel)
theorem dX7_add_4 : decode cX7_add 4 = .ok (.bipush 20, 2) := op_16 lX7_add 20 (by decide +kernel)
theorem dX7_add_6 : decode cX7_add 6 = .ok (.if_icmp .lt 6, 3) := op_161 lX7_add 0 6 (by decide +kernel)
theorem dX7_add_9 : decode cX7_add 9 = .ok (.bipush (-3), 2) := op_16 lX7_add 253 (by decide +kernel)
theorem dX7_add_11 : decode cX7_add 11 = .ok (.ireturn, 1) := op_172 lX7_add (by decide +kernel)
theorem dX7_add_12 : decode cX7_add 12 = .ok (.aload_n 0, 1) := op_42 lX7_add (by decide +kernel)
theorem dX7_add_13 : decode cX7_add 13 = .ok (.getfield 11, 3) := op_180 lX7_add 0 11 (by decide +kernel)
theorem dX7_add_16 : decode cX7_add 16 = .ok (.aload_n 0, 1) := op_42 lX7_add (by decide +kernel)
theorem dX7_add_17 : decode cX7_add 17 = .ok (.getfield 39, 3) := op_180 lX7_add 0 39 (by decide +kernel)
theorem dX7_add_20 : decode cX7_add 20 = .ok (.iload_n 1, 1) := op_27 lX7_add (by decide +kernel)
theorem dX7_add_21 : decode cX7_add 21 = .ok (.iastore, 1) := op_79 lX7_add (by decide +kernel)
theorem dX7_add_22 : decode cX7_add 22 = .ok (.aload_n 0, 1) := op_42 lX7_add (by decide +kernel)
theorem dX7_add_23 : decode cX7_add 23 = .ok (.getfield 15, 3) := op_180 lX7_add 0 15 (by decide +kernel)
theorem dX7_add_26 : decode cX7_add 26 = .ok (.aload_n 0, 1) := op_42 lX7_add (by decide +kernel)
theorem dX7_add_27 : decode cX7_add 27 = .ok (.getfield 39, 3) := op_180 lX7_add 0 39 (by decide +kernel)
theorem dX7_add_30 : decode cX7_add 30 = .ok (.iload_n 2, 1) := op_28 lX7_add (by decide +kernel)
theorem dX7_add_31 : decode cX7_add 31 = .ok (.iastore, 1) := op_79 lX7_add (by decide +kernel)
theorem dX7_add_32 : decode cX7_add 32 = .ok (.aload_n 0, 1) := op_42 lX7_add (by decide +kernel)
theorem dX7_add_33 : decode cX7_add 33 = .ok (.getfield 18, 3) := op_180 lX7_add 0 18 (by decide +kernel)
theorem dX7_add_36 : decode cX7_add 36 = .ok (.aload_n 0, 1) := op_42 lX7_add (by decide +kernel)
theorem dX7_add_37 : decode cX7_add 37 = .ok (.getfield 39, 3) := op_180 lX7_add 0 39 (by decide +kernel)
theorem dX7_add_40 : decode cX7_add 40 = .ok (.iload_n 3, 1) := op_29 lX7_add (by decide +kernel)
theorem dX7_add_41 : decode cX7_add 41 = .ok (.iastore, 1) := op_79 lX7_add (by decide +kernel)
theorem dX7_add_42 : decode cX7_add 42 = .ok (.aload_n 0, 1) := op_42 lX7_add (by decide +kernel)
theorem dX7_add_43 : decode cX7_add 43 = .ok (.getfield 21, 3) := op_180 lX7_add 0 21 (by decide +kernel)
theorem dX7_add_46 : decode cX7_add 46 = .ok (.aload_n 0, 1) := op_42 lX7_add (by decide +kernel)
theorem dX7_add_47 : decode cX7_add 47 = .ok (.getfield 39, 3) := op_180 lX7_add 0 39 (by decide +kernel)
theorem dX7_add_50 : decode cX7_add 50 = .ok (.iload 4, 2) := op_21 lX7_add (by decide +kernel)
theorem dX7_add_52 : decode cX7_add 52 = .ok (.iastore, 1) := op_79 lX7_add (by decide +kernel)
theorem dX7_add_53 : decode cX7_add 53 = .ok (.aload_n 0, 1) := op_42 lX7_add (by decide +kernel)
theorem dX7_add_54 : decode cX7_add 54 = .ok (.getfield 24, 3) := op_180 lX7_add 0 24 (by decide +kernel)
theorem dX7_add_57 : decode cX7_add 57 = .ok (.aload_n 0, 1) := op_42 lX7_add (by decide +kernel)
theorem dX7_add_58 : decode cX7_add 58 = .ok (.getfield 39, 3) := op_180 lX7_add 0 39 (by decide +kernel)
theorem dX7_add_61 : decode cX7_add 61 = .ok (.iconst 0, 1) := op_3 lX7_add (by decide +kernel)
theorem dX7_add_62 : decode cX7_add 62 = .ok (.iastore, 1) := op_79 lX7_add (by decide +kernel)
theorem dX7_add_63 : decode cX7_add 63 = .ok (.aload_n 0, 1) := op_42 lX7_add (by decide +kernel)
theorem dX7_add_64 : decode cX7_add 64 = .ok (.iload_n 1, 1) := op_27 lX7_add (by decide +kernel)
theorem dX7_add_65 : decode cX7_add 65 = .ok (.putfield 50, 3) := op_181 lX7_add 0 50 (by decide +kernel)
theorem dX7_add_68 : decode cX7_add 68 = .ok (.aload_n 0, 1) := op_42 lX7_add (by decide +kernel)
theorem dX7_add_69 : decode cX7_add 69 = .ok (.dup, 1) := op_89 lX7_add (by decide +kernel)
theorem dX7_add_70 : decode cX7_add 70 = .ok (.getfield 39, 3) := op_180 lX7_add 0 39 (by decide +kernel)
theorem dX7_add_73 : decode cX7_add 73 = .ok (.iconst 1, 1) := op_4 lX7_add (by decide +kernel)
theorem dX7_add_74 : decode cX7_add 74 = .ok (.iadd, 1) := op_96 lX7_add (by decide +kernel)
theorem dX7_add_75 : decode cX7_add 75 = .ok (.putfield 39, 3) := op_181 lX7_add 0 39 (by decide +kernel)
theorem dX7_add_78 : decode cX7_add 78 = .ok (.aload_n 0, 1) := op_42 lX7_add (by decide +kernel)
theorem dX7_add_79 : decode cX7_add 79 = .ok (.getfield 39, 3) := op_180 lX7_add 0 39 (by decide +kernel)
theorem dX7_add_82 : decode cX7_add 82 = .ok (.iconst 1, 1) := op_4 lX7_add (by decide +kernel)
theorem dX7_add_83 : decode cX7_add 83 = .ok (.isub, 1) := op_100 lX7_add (by decide +kernel)
theorem dX7_add_84 : decode cX7_add 84 = .ok (.ireturn, 1) := op_172 lX7_add (by decide +kernel)
def nX7_putRight : Nat := 0xac2e1c1800b42a4f60042e5c1c1800b42a2b00b560042b00b4592a3200b51b2a4f1d2b00b42a2100b42a4f1c2b00b42a1e00b42a4f1b2b00b42a1b00b42aacfd1006009a2e00b61c2a0b00a214102b00b42a
theorem lX7_putRight : cX7_putRight.data.toList = unp nX7_putRight 82 0 := by decide +kernel
theorem dX7_putRight_0 : decode cX7_putRight 0 = .ok (.aload_n 0, 1) := op_42 lX7_putRight (by decide +kernel)
theorem dX7_putRight_1 : decode cX7_putRight 1 = .ok (.getfield 43, 3) := op_180 lX7_putRight 0 43 (by decide +kernel)
theorem dX7_putRight_4 : decode cX7_putRight 4 = .ok (.bipush 20, 2) := op_16 lX7_putRight 20 (by decide +kernel)
theorem dX7_putRight_6 : decode cX7_putRight 6 = .ok (.if_icmp .ge 11, 3) := op_162 lX7_putRight 0 11 (by decide +kernel)
theorem dX7_putRight_9 : decode cX7_putRight 9 = .ok (.aload_n 0, 1) := op_42 lX7_putRight (by decide +kernel)
theorem dX7_putRight_10 : decode cX7_putRight 10 = .ok (.iload_n 2, 1) := op_28 lX7_putRight (by decide +kernel)
theorem dX7_putRight_11 : decode cX7_putRight 11 = .ok (.invokevirtual 46, 3) := op_182 lX7_putRight 0 46 (by decide +kernel)
theorem dX7_putRight_14 : decode cX7_putRight 14 = .ok (.ifCond .ne 6, 3) := op_154 lX7_putRight 0 6 (by decide +kernel)
theorem dX7_putRight_17 : decode cX7_putRight 17 = .ok (.bipush (-3), 2) := op_16 lX7_putRight 253 (by decide +kernel)
theorem dX7_putRight_19 : decode cX7_putRight 19 = .ok (.ireturn, 1) := op_172 lX7_putRight (by decide +kernel)
theorem dX7_putRight_20 : decode cX7_putRight 20 = .ok (.aload_n 0, 1) := op_42 lX7_putRight (by decide +kernel)
theorem dX7_putRight_21 : decode cX7_putRight 21 = .ok (.getfield 27, 3) := op_180 lX7_putRight 0 27 (by decide +kernel)
theorem dX7_putRight_24 : decode cX7_putRight 24 = .ok (.aload_n 0, 1) := op_42 lX7_putRight (by decide +kernel)
theorem dX7_putRight_25 : decode cX7_putRight 25 = .ok (.getfield 43, 3) := op_180 lX7_putRight 0 43 (by decide +kernel)
theorem dX7_putRight_28 : decode cX7_putRight 28 = .ok (.iload_n 1, 1) := op_27 lX7_putRight (by decide +kernel)
theorem dX7_putRight_29 : decode cX7_putRight 29 = .ok (.iastore, 1) := op_79 lX7_putRight (by decide +kernel)
theorem dX7_putRight_30 : decode cX7_putRight 30 = .ok (.aload_n 0, 1) := op_42 lX7_putRight (by decide +kernel)
theorem dX7_putRight_31 : decode cX7_putRight 31 = .ok (.getfield 30, 3) := op_180 lX7_putRight 0 30 (by decide +kernel)
theorem dX7_putRight_34 : decode cX7_putRight 34 = .ok (.aload_n 0, 1) := op_42 lX7_putRight (by decide +kernel)
theorem dX7_putRight_35 : decode cX7_putRight 35 = .ok (.getfield 43, 3) := op_180 lX7_putRight 0 43 (by decide +kernel)
theorem dX7_putRight_38 : decode cX7_putRight 38 = .ok (.iload_n 2, 1) := op_28 lX7_putRight (by decide +kernel)
theorem dX7_putRight_39 : decode cX7_putRight 39 = .ok (.iastore, 1) := op_79 lX7_putRight (by decide +kernel)
theorem dX7_putRight_40 : decode cX7_putRight 40 = .ok (.aload_n 0, 1) := op_42 lX7_putRight (by decide +kernel)
theorem dX7_putRight_41 : decode cX7_putRight 41 = .ok (.getfield 33, 3) := op_180 lX7_putRight 0 33 (by decide +kernel)
theorem dX7_putRight_44 : decode cX7_putRight 44 = .ok (.aload_n 0, 1) := op_42 lX7_putRight (by decide +kernel)
theorem dX7_putRight_45 : decode cX7_putRight 45 = .ok (.getfield 43, 3) := op_180 lX7_putRight 0 43 (by decide +kernel)
theorem dX7_putRight_48 : decode cX7_putRight 48 = .ok (.iload_n 3, 1) := op_29 lX7_putRight (by decide +kernel)
theorem dX7_putRight_49 : decode cX7_putRight 49 = .ok (.iastore, 1) := op_79 lX7_putRight (by decide +kernel)
theorem dX7_putRight_50 : decode cX7_putRight 50 = .ok (.aload_n 0, 1) := op_42 lX7_putRight (by decide +kernel)
theorem dX7_putRight_51 : decode cX7_putRight 51 = .ok (.iload_n 1, 1) := op_27 lX7_putRight (by decide +kernel)
theorem dX7_putRight_52 : decode cX7_putRight 52 = .ok (.putfield 50, 3) := op_181 lX7_putRight 0 50 (by decide +kernel)
theorem dX7_putRight_55 : decode cX7_putRight 55 = .ok (.aload_n 0, 1) := op_42 lX7_putRight (by decide +kernel)
theorem dX7_putRight_56 : decode cX7_putRight 56 = .ok (.dup, 1) := op_89 lX7_putRight (by decide +kernel)
theorem dX7_putRight_57 : decode cX7_putRight 57 = .ok (.getfield 43, 3) := op_180 lX7_putRight 0 43 (by decide +kernel)
theorem dX7_putRight_60 : decode cX7_putRight 60 = .ok (.iconst 1, 1) := op_4 lX7_putRight (by decide +kernel)
theorem dX7_putRight_61 : decode cX7_putRight 61 = .ok (.iadd, 1) := op_96 lX7_putRight (by decide +kernel)
theorem dX7_putRight_62 : decode cX7_putRight 62 = .ok (.putfield 43, 3) := op_181 lX7_putRight 0 43 (by decide +kernel)
theorem dX7_putRight_65 : decode cX7_putRight 65 = .ok (.aload_n 0, 1) := op_42 lX7_putRight (by decide +kernel)
theorem dX7_putRight_66 : decode cX7_putRight 66 = .ok (.getfield 24, 3) := op_180 lX7_putRight 0 24 (by decide +kernel)
theorem dX7_putRight_69 : decode cX7_putRight 69 = .ok (.iload_n 2, 1) := op_28 lX7_putRight (by decide +kernel)
theorem dX7_putRight_70 : decode cX7_putRight 70 = .ok (.dup2, 1) := op_92 lX7_putRight (by decide +kernel)
theorem dX7_putRight_71 : decode cX7_putRight 71 = .ok (.iaload, 1) := op_46 lX7_putRight (by decide +kernel)
theorem dX7_putRight_72 : decode cX7_putRight 72 = .ok (.iconst 1, 1) := op_4 lX7_putRight (by decide +kernel)
theorem dX7_putRight_73 : decode cX7_putRight 73 = .ok (.iadd, 1) := op_96 lX7_putRight (by decide +kernel)
theorem dX7_putRight_74 : decode cX7_putRight 74 = .ok (.iastore, 1) := op_79 lX7_putRight (by decide +kernel)
theorem dX7_putRight_75 : decode cX7_putRight 75 = .ok (.aload_n 0, 1) := op_42 lX7_putRight (by decide +kernel)
theorem dX7_putRight_76 : decode cX7_putRight 76 = .ok (.getfield 24, 3) := op_180 lX7_putRight 0 24 (by decide +kernel)
theorem dX7_putRight_79 : decode cX7_putRight 79 = .ok (.iload_n 2, 1) := op_28 lX7_putRight (by decide +kernel)
theorem dX7_putRight_80 : decode cX7_putRight 80 = .ok (.iaload, 1) := op_46 lX7_putRight (by decide +kernel)
theorem dX7_putRight_81 : decode cX7_putRight 81 = .ok (.ireturn, 1) := op_172 lX7_putRight (by decide +kernel)
def nX7_recall : Nat := 0xb1cdffa70102844f2e1c2100b42a2e1c1e00b42a2400b42a1400992e00b62e1c1e00b42a2a2100a31b2e1c1b00b42a3100a22b00b42a1c3d03dbffa70102844f020400a72e1c1500b42a0c00a31b2e1c0b00b42a1c2400b42a2300a22700b42a1c3d03
theorem lX7_recall : cX7_recall.data.toList = unp nX7_recall 99 0 := by decide +kernel
theorem dX7_recall_0 : decode cX7_recall 0 = .ok (.iconst 0, 1) := op_3 lX7_recall (by decide +kernel)
theorem dX7_recall_1 : decode cX7_recall 1 = .ok (.istore_n 2, 1) := op_61 lX7_recall (by decide +kernel)
theorem dX7_recall_2 : decode cX7_recall 2 = .ok (.iload_n 2, 1) := op_28 lX7_recall (by decide +kernel)
theorem dX7_recall_3 : decode cX7_recall 3 = .ok (.aload_n 0, 1) := op_42 lX7_recall (by decide +kernel)
theorem dX7_recall_4 : decode cX7_recall 4 = .ok (.getfield 39, 3) := op_180 lX7_recall 0 39 (by decide +kernel)
theorem dX7_recall_7 : decode cX7_recall 7 = .ok (.if_icmp .ge 35, 3) := op_162 lX7_recall 0 35 (by decide +kernel)
theorem dX7_recall_10 : decode cX7_recall 10 = .ok (.aload_n 0, 1) := op_42 lX7_recall (by decide +kernel)
theorem dX7_recall_11 : decode cX7_recall 11 = .ok (.getfield 36, 3) := op_180 lX7_recall 0 36 (by decide +kernel)
theorem dX7_recall_14 : decode cX7_recall 14 = .ok (.iload_n 2, 1) := op_28 lX7_recall (by decide +kernel)
theorem dX7_recall_15 : decode cX7_recall 15 = .ok (.aload_n 0, 1) := op_42 lX7_recall (by decide +kernel)
theorem dX7_recall_16 : decode cX7_recall 16 = .ok (.getfield 11, 3) := op_180 lX7_recall 0 11 (by decide +kernel)
theorem dX7_recall_19 : decode cX7_recall 19 = .ok (.iload_n 2, 1) := op_28 lX7_recall (by decide +kernel)
theorem dX7_recall_20 : decode cX7_recall 20 = .ok (.iaload, 1) := op_46 lX7_recall (by decide +kernel)
theorem dX7_recall_21 : decode cX7_recall 21 = .ok (.iload_n 1, 1) := op_27 lX7_recall (by decide +kernel)
theorem dX7_recall_22 : decode cX7_recall 22 = .ok (.if_icmp .gt 12, 3) := op_163 lX7_recall 0 12 (by decide +kernel)
theorem dX7_recall_25 : decode cX7_recall 25 = .ok (.aload_n 0, 1) := op_42 lX7_recall (by decide +kernel)
theorem dX7_recall_26 : decode cX7_recall 26 = .ok (.getfield 21, 3) := op_180 lX7_recall 0 21 (by decide +kernel)
theorem dX7_recall_29 : decode cX7_recall 29 = .ok (.iload_n 2, 1) := op_28 lX7_recall (by decide +kernel)
theorem dX7_recall_30 : decode cX7_recall 30 = .ok (.iaload, 1) := op_46 lX7_recall (by decide +kernel)
theorem dX7_recall_31 : decode cX7_recall 31 = .ok (.goto 4, 3) := op_167 lX7_recall 0 4 (by decide +kernel)
theorem dX7_recall_34 : decode cX7_recall 34 = .ok (.iconst (-1), 1) := op_2 lX7_recall (by decide +kernel)
theorem dX7_recall_35 : decode cX7_recall 35 = .ok (.iastore, 1) := op_79 lX7_recall (by decide +kernel)
theorem dX7_recall_36 : decode cX7_recall 36 = .ok (.iinc 2 1, 3) := op_132 lX7_recall 1 (by decide +kernel)
theorem dX7_recall_39 : decode cX7_recall 39 = .ok (.goto (-37), 3) := op_167 lX7_recall 255 219 (by decide +kernel)
theorem dX7_recall_42 : decode cX7_recall 42 = .ok (.iconst 0, 1) := op_3 lX7_recall (by decide +kernel)
theorem dX7_recall_43 : decode cX7_recall 43 = .ok (.istore_n 2, 1) := op_61 lX7_recall (by decide +kernel)
theorem dX7_recall_44 : decode cX7_recall 44 = .ok (.iload_n 2, 1) := op_28 lX7_recall (by decide +kernel)
theorem dX7_recall_45 : decode cX7_recall 45 = .ok (.aload_n 0, 1) := op_42 lX7_recall (by decide +kernel)
theorem dX7_recall_46 : decode cX7_recall 46 = .ok (.getfield 43, 3) := op_180 lX7_recall 0 43 (by decide +kernel)
theorem dX7_recall_49 : decode cX7_recall 49 = .ok (.if_icmp .ge 49, 3) := op_162 lX7_recall 0 49 (by decide +kernel)
theorem dX7_recall_52 : decode cX7_recall 52 = .ok (.aload_n 0, 1) := op_42 lX7_recall (by decide +kernel)
theorem dX7_recall_53 : decode cX7_recall 53 = .ok (.getfield 27, 3) := op_180 lX7_recall 0 27 (by decide +kernel)
theorem dX7_recall_56 : decode cX7_recall 56 = .ok (.iload_n 2, 1) := op_28 lX7_recall (by decide +kernel)
theorem dX7_recall_57 : decode cX7_recall 57 = .ok (.iaload, 1) := op_46 lX7_recall (by decide +kernel)
theorem dX7_recall_58 : decode cX7_recall 58 = .ok (.iload_n 1, 1) := op_27 lX7_recall (by decide +kernel)
theorem dX7_recall_59 : decode cX7_recall 59 = .ok (.if_icmp .gt 33, 3) := op_163 lX7_recall 0 33 (by decide +kernel)
theorem dX7_recall_62 : decode cX7_recall 62 = .ok (.aload_n 0, 1) := op_42 lX7_recall (by decide +kernel)
theorem dX7_recall_63 : decode cX7_recall 63 = .ok (.aload_n 0, 1) := op_42 lX7_recall (by decide +kernel)
theorem dX7_recall_64 : decode cX7_recall 64 = .ok (.getfield 30, 3) := op_180 lX7_recall 0 30 (by decide +kernel)
theorem dX7_recall_67 : decode cX7_recall 67 = .ok (.iload_n 2, 1) := op_28 lX7_recall (by decide +kernel)
theorem dX7_recall_68 : decode cX7_recall 68 = .ok (.iaload, 1) := op_46 lX7_recall (by decide +kernel)
theorem dX7_recall_69 : decode cX7_recall 69 = .ok (.invokevirtual 46, 3) := op_182 lX7_recall 0 46 (by decide +kernel)
theorem dX7_recall_72 : decode cX7_recall 72 = .ok (.ifCond .eq 20, 3) := op_153 lX7_recall 0 20 (by decide +kernel)
theorem dX7_recall_75 : decode cX7_recall 75 = .ok (.aload_n 0, 1) := op_42 lX7_recall (by decide +kernel)
theorem dX7_recall_76 : decode cX7_recall 76 = .ok (.getfield 36, 3) := op_180 lX7_recall 0 36 (by decide +kernel)
theorem dX7_recall_79 : decode cX7_recall 79 = .ok (.aload_n 0, 1) := op_42 lX7_recall (by decide +kernel)
theorem dX7_recall_80 : decode cX7_recall 80 = .ok (.getfield 30, 3) := op_180 lX7_recall 0 30 (by decide +kernel)
theorem dX7_recall_83 : decode cX7_recall 83 = .ok (.iload_n 2, 1) := op_28 lX7_recall (by decide +kernel)
theorem dX7_recall_84 : decode cX7_recall 84 = .ok (.iaload, 1) := op_46 lX7_recall (by decide +kernel)
theorem dX7_recall_85 : decode cX7_recall 85 = .ok (.aload_n 0, 1) := op_42 lX7_recall (by decide +kernel)
theorem dX7_recall_86 : decode cX7_recall 86 = .ok (.getfield 33, 3) := op_180 lX7_recall 0 33 (by decide +kernel)
theorem dX7_recall_89 : decode cX7_recall 89 = .ok (.iload_n 2, 1) := op_28 lX7_recall (by decide +kernel)
theorem dX7_recall_90 : decode cX7_recall 90 = .ok (.iaload, 1) := op_46 lX7_recall (by decide +kernel)
theorem dX7_recall_91 : decode cX7_recall 91 = .ok (.iastore, 1) := op_79 lX7_recall (by decide +kernel)
theorem dX7_recall_92 : decode cX7_recall 92 = .ok (.iinc 2 1, 3) := op_132 lX7_recall 1 (by decide +kernel)
theorem dX7_recall_95 : decode cX7_recall 95 = .ok (.goto (-51), 3) := op_167 lX7_recall 255 205 (by decide +kernel)
theorem dX7_recall_98 : decode cX7_recall 98 = .ok (.return_, 1) := op_177 lX7_recall (by decide +kernel)
def nX7_agreeWith : Nat := 0xac04c3ffa7010384ac0305009f2e1d2400b42a3500b62e1d1200b42a2e1d0f00b42a1c2b1f009904150436030400a70407009f022e1d2400b42a3b00a22700b42a1d3e03
theorem lX7_agreeWith : cX7_agreeWith.data.toList = unp nX7_agreeWith 68 0 := by decide +kernel
theorem dX7_agreeWith_0 : decode cX7_agreeWith 0 = .ok (.iconst 0, 1) := op_3 lX7_agreeWith (by decide +kernel)
theorem dX7_agreeWith_1 : decode cX7_agreeWith 1 = .ok (.istore_n 3, 1) := op_62 lX7_agreeWith (by decide +kernel)
theorem dX7_agreeWith_2 : decode cX7_agreeWith 2 = .ok (.iload_n 3, 1) := op_29 lX7_agreeWith (by decide +kernel)
theorem dX7_agreeWith_3 : decode cX7_agreeWith 3 = .ok (.aload_n 0, 1) := op_42 lX7_agreeWith (by decide +kernel)
theorem dX7_agreeWith_4 : decode cX7_agreeWith 4 = .ok (.getfield 39, 3) := op_180 lX7_agreeWith 0 39 (by decide +kernel)
theorem dX7_agreeWith_7 : decode cX7_agreeWith 7 = .ok (.if_icmp .ge 59, 3) := op_162 lX7_agreeWith 0 59 (by decide +kernel)
theorem dX7_agreeWith_10 : decode cX7_agreeWith 10 = .ok (.aload_n 0, 1) := op_42 lX7_agreeWith (by decide +kernel)
theorem dX7_agreeWith_11 : decode cX7_agreeWith 11 = .ok (.getfield 36, 3) := op_180 lX7_agreeWith 0 36 (by decide +kernel)
theorem dX7_agreeWith_14 : decode cX7_agreeWith 14 = .ok (.iload_n 3, 1) := op_29 lX7_agreeWith (by decide +kernel)
theorem dX7_agreeWith_15 : decode cX7_agreeWith 15 = .ok (.iaload, 1) := op_46 lX7_agreeWith (by decide +kernel)
theorem dX7_agreeWith_16 : decode cX7_agreeWith 16 = .ok (.iconst (-1), 1) := op_2 lX7_agreeWith (by decide +kernel)
theorem dX7_agreeWith_17 : decode cX7_agreeWith 17 = .ok (.if_icmp .eq 7, 3) := op_159 lX7_agreeWith 0 7 (by decide +kernel)
theorem dX7_agreeWith_20 : decode cX7_agreeWith 20 = .ok (.iconst 1, 1) := op_4 lX7_agreeWith (by decide +kernel)
theorem dX7_agreeWith_21 : decode cX7_agreeWith 21 = .ok (.goto 4, 3) := op_167 lX7_agreeWith 0 4 (by decide +kernel)
theorem dX7_agreeWith_24 : decode cX7_agreeWith 24 = .ok (.iconst 0, 1) := op_3 lX7_agreeWith (by decide +kernel)
theorem dX7_agreeWith_25 : decode cX7_agreeWith 25 = .ok (.istore 4, 2) := op_54 lX7_agreeWith (by decide +kernel)
theorem dX7_agreeWith_27 : decode cX7_agreeWith 27 = .ok (.iload 4, 2) := op_21 lX7_agreeWith (by decide +kernel)
theorem dX7_agreeWith_29 : decode cX7_agreeWith 29 = .ok (.ifCond .eq 31, 3) := op_153 lX7_agreeWith 0 31 (by decide +kernel)
theorem dX7_agreeWith_32 : decode cX7_agreeWith 32 = .ok (.aload_n 1, 1) := op_43 lX7_agreeWith (by decide +kernel)
theorem dX7_agreeWith_33 : decode cX7_agreeWith 33 = .ok (.iload_n 2, 1) := op_28 lX7_agreeWith (by decide +kernel)
theorem dX7_agreeWith_34 : decode cX7_agreeWith 34 = .ok (.aload_n 0, 1) := op_42 lX7_agreeWith (by decide +kernel)
theorem dX7_agreeWith_35 : decode cX7_agreeWith 35 = .ok (.getfield 15, 3) := op_180 lX7_agreeWith 0 15 (by decide +kernel)
theorem dX7_agreeWith_38 : decode cX7_agreeWith 38 = .ok (.iload_n 3, 1) := op_29 lX7_agreeWith (by decide +kernel)
theorem dX7_agreeWith_39 : decode cX7_agreeWith 39 = .ok (.iaload, 1) := op_46 lX7_agreeWith (by decide +kernel)
theorem dX7_agreeWith_40 : decode cX7_agreeWith 40 = .ok (.aload_n 0, 1) := op_42 lX7_agreeWith (by decide +kernel)
theorem dX7_agreeWith_41 : decode cX7_agreeWith 41 = .ok (.getfield 18, 3) := op_180 lX7_agreeWith 0 18 (by decide +kernel)
theorem dX7_agreeWith_44 : decode cX7_agreeWith 44 = .ok (.iload_n 3, 1) := op_29 lX7_agreeWith (by decide +kernel)
theorem dX7_agreeWith_45 : decode cX7_agreeWith 45 = .ok (.iaload, 1) := op_46 lX7_agreeWith (by decide +kernel)
theorem dX7_agreeWith_46 : decode cX7_agreeWith 46 = .ok (.invokevirtual 53, 3) := op_182 lX7_agreeWith 0 53 (by decide +kernel)
theorem dX7_agreeWith_49 : decode cX7_agreeWith 49 = .ok (.aload_n 0, 1) := op_42 lX7_agreeWith (by decide +kernel)
theorem dX7_agreeWith_50 : decode cX7_agreeWith 50 = .ok (.getfield 36, 3) := op_180 lX7_agreeWith 0 36 (by decide +kernel)
theorem dX7_agreeWith_53 : decode cX7_agreeWith 53 = .ok (.iload_n 3, 1) := op_29 lX7_agreeWith (by decide +kernel)
theorem dX7_agreeWith_54 : decode cX7_agreeWith 54 = .ok (.iaload, 1) := op_46 lX7_agreeWith (by decide +kernel)
theorem dX7_agreeWith_55 : decode cX7_agreeWith 55 = .ok (.if_icmp .eq 5, 3) := op_159 lX7_agreeWith 0 5 (by decide +kernel)
theorem dX7_agreeWith_58 : decode cX7_agreeWith 58 = .ok (.iconst 0, 1) := op_3 lX7_agreeWith (by decide +kernel)
theorem dX7_agreeWith_59 : decode cX7_agreeWith 59 = .ok (.ireturn, 1) := op_172 lX7_agreeWith (by decide +kernel)
theorem dX7_agreeWith_60 : decode cX7_agreeWith 60 = .ok (.iinc 3 1, 3) := op_132 lX7_agreeWith 1 (by decide +kernel)
theorem dX7_agreeWith_63 : decode cX7_agreeWith 63 = .ok (.goto (-61), 3) := op_167 lX7_agreeWith 255 195 (by decide +kernel)
theorem dX7_agreeWith_66 : decode cX7_agreeWith 66 = .ok (.iconst 1, 1) := op_4 lX7_agreeWith (by decide +kernel)
theorem dX7_agreeWith_67 : decode cX7_agreeWith 67 = .ok (.ireturn, 1) := op_172 lX7_agreeWith (by decide +kernel)
end

section
def nX8_init : Nat := 0xb10b00b508bc2c01112a0300b72a
theorem lX8_init : cX8_init.data.toList = unp nX8_init 14 0 := by decide +kernel
theorem dX8_init_0 : decode cX8_init 0 = .ok (.aload_n 0, 1) := op_42 lX8_init (by decide +kernel)
theorem dX8_init_1 : decode cX8_init 1 = .ok (.invokespecial 3, 3) := op_183 lX8_init 0 3 (by decide +kernel)
theorem dX8_init_4 : decode cX8_init 4 = .ok (.aload_n 0, 1) := op_42 lX8_init (by decide +kernel)
theorem dX8_init_5 : decode cX8_init 5 = .ok (.sipush 300, 3) := op_17 lX8_init 1 44 (by decide +kernel)
theorem dX8_init_8 : decode cX8_init 8 = .ok (.newarray .byte, 2) := by decide +kernel
theorem dX8_init_10 : decode cX8_init 10 = .ok (.putfield 11, 3) := op_181 lX8_init 0 11 (by decide +kernel)
theorem dX8_init_13 : decode cX8_init 13 = .ok (.return_, 1) := op_177 lX8_init (by decide +kernel)
def nX8_size : Nat := 0xac0f00b42a
theorem lX8_size : cX8_size.data.toList = unp nX8_size 5 0 := by decide +kernel
theorem dX8_size_0 : decode cX8_size 0 = .ok (.aload_n 0, 1) := op_42 lX8_size (by decide +kernel)
theorem dX8_size_1 : decode cX8_size 1 = .ok (.getfield 15, 3) := op_180 lX8_size 0 15 (by decide +kernel)
theorem dX8_size_4 : decode cX8_size 4 = .ok (.ireturn, 1) := op_172 lX8_size (by decide +kernel)
def nX8_kind : Nat := 0xac1300b42a
theorem lX8_kind : cX8_kind.data.toList = unp nX8_kind 5 0 := by decide +kernel
theorem dX8_kind_0 : decode cX8_kind 0 = .ok (.aload_n 0, 1) := op_42 lX8_kind (by decide +kernel)
theorem dX8_kind_1 : decode cX8_kind 1 = .ok (.getfield 19, 3) := op_180 lX8_kind 0 19 (by decide +kernel)
theorem dX8_kind_4 : decode cX8_kind 4 = .ok (.ireturn, 1) := op_172 lX8_kind (by decide +kernel)
def nX8_place : Nat := 0xac1600b42a
theorem lX8_place : cX8_place.data.toList = unp nX8_place 5 0 := by decide +kernel
theorem dX8_place_0 : decode cX8_place 0 = .ok (.aload_n 0, 1) := op_42 lX8_place (by decide +kernel)
theorem dX8_place_1 : decode cX8_place 1 = .ok (.getfield 22, 3) := op_180 lX8_place 0 22 (by decide +kernel)
theorem dX8_place_4 : decode cX8_place 4 = .ok (.ireturn, 1) := op_172 lX8_place (by decide +kernel)
def nX8_value : Nat := 0xac1900b42a
theorem lX8_value : cX8_value.data.toList = unp nX8_value 5 0 := by decide +kernel
theorem dX8_value_0 : decode cX8_value 0 = .ok (.aload_n 0, 1) := op_42 lX8_value (by decide +kernel)
theorem dX8_value_1 : decode cX8_value 1 = .ok (.getfield 25, 3) := op_180 lX8_value 0 25 (by decide +kernel)
theorem dX8_value_4 : decode cX8_value 4 = .ok (.ireturn, 1) := op_172 lX8_value (by decide +kernel)
def nX8_hasRoomForTwenty : Nat := 0xac030400a7040700a32c01116014100f00b42a
theorem lX8_hasRoomForTwenty : cX8_hasRoomForTwenty.data.toList = unp nX8_hasRoomForTwenty 19 0 := by decide +kernel
theorem dX8_hasRoomForTwenty_0 : decode cX8_hasRoomForTwenty 0 = .ok (.aload_n 0, 1) := op_42 lX8_hasRoomForTwenty (by decide +kernel)
theorem dX8_hasRoomForTwenty_1 : decode cX8_hasRoomForTwenty 1 = .ok (.getfield 15, 3) := op_180 lX8_hasRoomForTwenty 0 15 (by decide +kernel)
theorem dX8_hasRoomForTwenty_4 : decode cX8_hasRoomForTwenty 4 = .ok (.bipush 20, 2) := op_16 lX8_hasRoomForTwenty 20 (by decide +kernel)
theorem dX8_hasRoomForTwenty_6 : decode cX8_hasRoomForTwenty 6 = .ok (.iadd, 1) := op_96 lX8_hasRoomForTwenty (by decide +kernel)
theorem dX8_hasRoomForTwenty_7 : decode cX8_hasRoomForTwenty 7 = .ok (.sipush 300, 3) := op_17 lX8_hasRoomForTwenty 1 44 (by decide +kernel)
theorem dX8_hasRoomForTwenty_10 : decode cX8_hasRoomForTwenty 10 = .ok (.if_icmp .gt 7, 3) := op_163 lX8_hasRoomForTwenty 0 7 (by decide +kernel)
theorem dX8_hasRoomForTwenty_13 : decode cX8_hasRoomForTwenty 13 = .ok (.iconst 1, 1) := op_4 lX8_hasRoomForTwenty (by decide +kernel)
theorem dX8_hasRoomForTwenty_14 : decode cX8_hasRoomForTwenty 14 = .ok (.goto 4, 3) := op_167 lX8_hasRoomForTwenty 0 4 (by decide +kernel)
theorem dX8_hasRoomForTwenty_17 : decode cX8_hasRoomForTwenty 17 = .ok (.iconst 0, 1) := op_3 lX8_hasRoomForTwenty (by decide +kernel)
theorem dX8_hasRoomForTwenty_18 : decode cX8_hasRoomForTwenty 18 = .ok (.ireturn, 1) := op_172 lX8_hasRoomForTwenty (by decide +kernel)
def nX8_append : Nat := 0xb1d8ffa7f802840f00b560040f00b4592a54917a1c1b0f00b42a0b00b42a2000a22c01110f00b42a2a009b1c3d1810
theorem lX8_append : cX8_append.data.toList = unp nX8_append 47 0 := by decide +kernel
theorem dX8_append_0 : decode cX8_append 0 = .ok (.bipush 24, 2) := op_16 lX8_append 24 (by decide +kernel)
theorem dX8_append_2 : decode cX8_append 2 = .ok (.istore_n 2, 1) := op_61 lX8_append (by decide +kernel)
theorem dX8_append_3 : decode cX8_append 3 = .ok (.iload_n 2, 1) := op_28 lX8_append (by decide +kernel)
theorem dX8_append_4 : decode cX8_append 4 = .ok (.ifCond .lt 42, 3) := op_155 lX8_append 0 42 (by decide +kernel)
theorem dX8_append_7 : decode cX8_append 7 = .ok (.aload_n 0, 1) := op_42 lX8_append (by decide +kernel)
theorem dX8_append_8 : decode cX8_append 8 = .ok (.getfield 15, 3) := op_180 lX8_append 0 15 (by decide +kernel)
theorem dX8_append_11 : decode cX8_append 11 = .ok (.sipush 300, 3) := op_17 lX8_append 1 44 (by decide +kernel)
theorem dX8_append_14 : decode cX8_append 14 = .ok (.if_icmp .ge 32, 3) := op_162 lX8_append 0 32 (by decide +kernel)
theorem dX8_append_17 : decode cX8_append 17 = .ok (.aload_n 0, 1) := op_42 lX8_append (by decide +kernel)
theorem dX8_append_18 : decode cX8_append 18 = .ok (.getfield 11, 3) := op_180 lX8_append 0 11 (by decide +kernel)
theorem dX8_append_21 : decode cX8_append 21 = .ok (.aload_n 0, 1) := op_42 lX8_append (by decide +kernel)
theorem dX8_append_22 : decode cX8_append 22 = .ok (.getfield 15, 3) := op_180 lX8_append 0 15 (by decide +kernel)
theorem dX8_append_25 : decode cX8_append 25 = .ok (.iload_n 1, 1) := op_27 lX8_append (by decide +kernel)
theorem dX8_append_26 : decode cX8_append 26 = .ok (.iload_n 2, 1) := op_28 lX8_append (by decide +kernel)
theorem dX8_append_27 : decode cX8_append 27 = .ok (.ishr, 1) := op_122 lX8_append (by decide +kernel)
theorem dX8_append_28 : decode cX8_append 28 = .ok (.i2b, 1) := op_145 lX8_append (by decide +kernel)
theorem dX8_append_29 : decode cX8_append 29 = .ok (.bastore, 1) := op_84 lX8_append (by decide +kernel)
theorem dX8_append_30 : decode cX8_append 30 = .ok (.aload_n 0, 1) := op_42 lX8_append (by decide +kernel)
theorem dX8_append_31 : decode cX8_append 31 = .ok (.dup, 1) := op_89 lX8_append (by decide +kernel)
theorem dX8_append_32 : decode cX8_append 32 = .ok (.getfield 15, 3) := op_180 lX8_append 0 15 (by decide +kernel)
theorem dX8_append_35 : decode cX8_append 35 = .ok (.iconst 1, 1) := op_4 lX8_append (by decide +kernel)
theorem dX8_append_36 : decode cX8_append 36 = .ok (.iadd, 1) := op_96 lX8_append (by decide +kernel)
theorem dX8_append_37 : decode cX8_append 37 = .ok (.putfield 15, 3) := op_181 lX8_append 0 15 (by decide +kernel)
theorem dX8_append_40 : decode cX8_append 40 = .ok (.iinc 2 (-8), 3) := op_132 lX8_append 248 (by decide +kernel)
theorem dX8_append_43 : decode cX8_append 43 = .ok (.goto (-40), 3) := op_167 lX8_append 255 216 (by decide +kernel)
theorem dX8_append_46 : decode cX8_append 46 = .ok (.return_, 1) := op_177 lX8_append (by decide +kernel)
def nX8_shorten : Nat := 0xb10f00b51b2a0800a30f00b42a1b10009b1b
theorem lX8_shorten : cX8_shorten.data.toList = unp nX8_shorten 18 0 := by decide +kernel
theorem dX8_shorten_0 : decode cX8_shorten 0 = .ok (.iload_n 1, 1) := op_27 lX8_shorten (by decide +kernel)
theorem dX8_shorten_1 : decode cX8_shorten 1 = .ok (.ifCond .lt 16, 3) := op_155 lX8_shorten 0 16 (by decide +kernel)
theorem dX8_shorten_4 : decode cX8_shorten 4 = .ok (.iload_n 1, 1) := op_27 lX8_shorten (by decide +kernel)
theorem dX8_shorten_5 : decode cX8_shorten 5 = .ok (.aload_n 0, 1) := op_42 lX8_shorten (by decide +kernel)
theorem dX8_shorten_6 : decode cX8_shorten 6 = .ok (.getfield 15, 3) := op_180 lX8_shorten 0 15 (by decide +kernel)
theorem dX8_shorten_9 : decode cX8_shorten 9 = .ok (.if_icmp .gt 8, 3) := op_163 lX8_shorten 0 8 (by decide +kernel)
theorem dX8_shorten_12 : decode cX8_shorten 12 = .ok (.aload_n 0, 1) := op_42 lX8_shorten (by decide +kernel)
theorem dX8_shorten_13 : decode cX8_shorten 13 = .ok (.iload_n 1, 1) := op_27 lX8_shorten (by decide +kernel)
theorem dX8_shorten_14 : decode cX8_shorten 14 = .ok (.putfield 15, 3) := op_181 lX8_shorten 0 15 (by decide +kernel)
theorem dX8_shorten_17 : decode cX8_shorten 17 = .ok (.return_, 1) := op_177 lX8_shorten (by decide +kernel)
def nX8_rewind : Nat := 0xb11c00b5032a
theorem lX8_rewind : cX8_rewind.data.toList = unp nX8_rewind 6 0 := by decide +kernel
theorem dX8_rewind_0 : decode cX8_rewind 0 = .ok (.aload_n 0, 1) := op_42 lX8_rewind (by decide +kernel)
theorem dX8_rewind_1 : decode cX8_rewind 1 = .ok (.iconst 0, 1) := op_3 lX8_rewind (by decide +kernel)
theorem dX8_rewind_2 : decode cX8_rewind 2 = .ok (.putfield 28, 3) := op_181 lX8_rewind 0 28 (by decide +kernel)
theorem dX8_rewind_5 : decode cX8_rewind 5 = .ok (.return_, 1) := op_177 lX8_rewind (by decide +kernel)
def nX8_readToken : Nat := 0xb11c00b560041c00b4592a1300b5070400a7060700a03b10331c00b42a0b00b42a2a2400a72c00b62a0a00992900b8331c00b42a0b00b42a3a00a72600b62a0a00992300b8331c00b42a0b00b42a5000a71300b5032a0b00a10f00b42a1c00b42a1900b5032a1600b51c00b42a2adcffa71c00b560041c00b4592a1000991f00b8331c00b42a0b00b42a1f00a20f00b42a1c00b42a
theorem lX8_readToken : cX8_readToken.data.toList = unp nX8_readToken 149 0 := by decide +kernel
theorem dX8_readToken_0 : decode cX8_readToken 0 = .ok (.aload_n 0, 1) := op_42 lX8_readToken (by decide +kernel)
theorem dX8_readToken_1 : decode cX8_readToken 1 = .ok (.getfield 28, 3) := op_180 lX8_readToken 0 28 (by decide +kernel)
theorem dX8_readToken_4 : decode cX8_readToken 4 = .ok (.aload_n 0, 1) := op_42 lX8_readToken (by decide +kernel)
theorem dX8_readToken_5 : decode cX8_readToken 5 = .ok (.getfield 15, 3) := op_180 lX8_readToken 0 15 (by decide +kernel)
theorem dX8_readToken_8 : decode cX8_readToken 8 = .ok (.if_icmp .ge 31, 3) := op_162 lX8_readToken 0 31 (by decide +kernel)
theorem dX8_readToken_11 : decode cX8_readToken 11 = .ok (.aload_n 0, 1) := op_42 lX8_readToken (by decide +kernel)
theorem dX8_readToken_12 : decode cX8_readToken 12 = .ok (.getfield 11, 3) := op_180 lX8_readToken 0 11 (by decide +kernel)
theorem dX8_readToken_15 : decode cX8_readToken 15 = .ok (.aload_n 0, 1) := op_42 lX8_readToken (by decide +kernel)
theorem dX8_readToken_16 : decode cX8_readToken 16 = .ok (.getfield 28, 3) := op_180 lX8_readToken 0 28 (by decide +kernel)
theorem dX8_readToken_19 : decode cX8_readToken 19 = .ok (.baload, 1) := op_51 lX8_readToken (by decide +kernel)
theorem dX8_readToken_20 : decode cX8_readToken 20 = .ok (.invokestatic 31, 3) := op_184 lX8_readToken 0 31 (by decide +kernel)
theorem dX8_readToken_23 : decode cX8_readToken 23 = .ok (.ifCond .eq 16, 3) := op_153 lX8_readToken 0 16 (by decide +kernel)
theorem dX8_readToken_26 : decode cX8_readToken 26 = .ok (.aload_n 0, 1) := op_42 lX8_readToken (by decide +kernel)
theorem dX8_readToken_27 : decode cX8_readToken 27 = .ok (.dup, 1) := op_89 lX8_readToken (by decide +kernel)
theorem dX8_readToken_28 : decode cX8_readToken 28 = .ok (.getfield 28, 3) := op_180 lX8_readToken 0 28 (by decide +kernel)
theorem dX8_readToken_31 : decode cX8_readToken 31 = .ok (.iconst 1, 1) := op_4 lX8_readToken (by decide +kernel)
theorem dX8_readToken_32 : decode cX8_readToken 32 = .ok (.iadd, 1) := op_96 lX8_readToken (by decide +kernel)
theorem dX8_readToken_33 : decode cX8_readToken 33 = .ok (.putfield 28, 3) := op_181 lX8_readToken 0 28 (by decide +kernel)
theorem dX8_readToken_36 : decode cX8_readToken 36 = .ok (.goto (-36), 3) := op_167 lX8_readToken 255 220 (by decide +kernel)
theorem dX8_readToken_39 : decode cX8_readToken 39 = .ok (.aload_n 0, 1) := op_42 lX8_readToken (by decide +kernel)
theorem dX8_readToken_40 : decode cX8_readToken 40 = .ok (.aload_n 0, 1) := op_42 lX8_readToken (by decide +kernel)
theorem dX8_readToken_41 : decode cX8_readToken 41 = .ok (.getfield 28, 3) := op_180 lX8_readToken 0 28 (by decide +kernel)
theorem dX8_readToken_44 : decode cX8_readToken 44 = .ok (.putfield 22, 3) := op_181 lX8_readToken 0 22 (by decide +kernel)
theorem dX8_readToken_47 : decode cX8_readToken 47 = .ok (.aload_n 0, 1) := op_42 lX8_readToken (by decide +kernel)
theorem dX8_readToken_48 : decode cX8_readToken 48 = .ok (.iconst 0, 1) := op_3 lX8_readToken (by decide +kernel)
theorem dX8_readToken_49 : decode cX8_readToken 49 = .ok (.putfield 25, 3) := op_181 lX8_readToken 0 25 (by decide +kernel)
theorem dX8_readToken_52 : decode cX8_readToken 52 = .ok (.aload_n 0, 1) := op_42 lX8_readToken (by decide +kernel)
theorem dX8_readToken_53 : decode cX8_readToken 53 = .ok (.getfield 28, 3) := op_180 lX8_readToken 0 28 (by decide +kernel)
theorem dX8_readToken_56 : decode cX8_readToken 56 = .ok (.aload_n 0, 1) := op_42 lX8_readToken (by decide +kernel)
theorem dX8_readToken_57 : decode cX8_readToken 57 = .ok (.getfield 15, 3) := op_180 lX8_readToken 0 15 (by decide +kernel)
theorem dX8_readToken_60 : decode cX8_readToken 60 = .ok (.if_icmp .lt 11, 3) := op_161 lX8_readToken 0 11 (by decide +kernel)
theorem dX8_readToken_63 : decode cX8_readToken 63 = .ok (.aload_n 0, 1) := op_42 lX8_readToken (by decide +kernel)
theorem dX8_readToken_64 : decode cX8_readToken 64 = .ok (.iconst 0, 1) := op_3 lX8_readToken (by decide +kernel)
theorem dX8_readToken_65 : decode cX8_readToken 65 = .ok (.putfield 19, 3) := op_181 lX8_readToken 0 19 (by decide +kernel)
theorem dX8_readToken_68 : decode cX8_readToken 68 = .ok (.goto 80, 3) := op_167 lX8_readToken 0 80 (by decide +kernel)
theorem dX8_readToken_71 : decode cX8_readToken 71 = .ok (.aload_n 0, 1) := op_42 lX8_readToken (by decide +kernel)
theorem dX8_readToken_72 : decode cX8_readToken 72 = .ok (.getfield 11, 3) := op_180 lX8_readToken 0 11 (by decide +kernel)
theorem dX8_readToken_75 : decode cX8_readToken 75 = .ok (.aload_n 0, 1) := op_42 lX8_readToken (by decide +kernel)
theorem dX8_readToken_76 : decode cX8_readToken 76 = .ok (.getfield 28, 3) := op_180 lX8_readToken 0 28 (by decide +kernel)
theorem dX8_readToken_79 : decode cX8_readToken 79 = .ok (.baload, 1) := op_51 lX8_readToken (by decide +kernel)
theorem dX8_readToken_80 : decode cX8_readToken 80 = .ok (.invokestatic 35, 3) := op_184 lX8_readToken 0 35 (by decide +kernel)
theorem dX8_readToken_83 : decode cX8_readToken 83 = .ok (.ifCond .eq 10, 3) := op_153 lX8_readToken 0 10 (by decide +kernel)
theorem dX8_readToken_86 : decode cX8_readToken 86 = .ok (.aload_n 0, 1) := op_42 lX8_readToken (by decide +kernel)
theorem dX8_readToken_87 : decode cX8_readToken 87 = .ok (.invokevirtual 38, 3) := op_182 lX8_readToken 0 38 (by decide +kernel)
theorem dX8_readToken_90 : decode cX8_readToken 90 = .ok (.goto 58, 3) := op_167 lX8_readToken 0 58 (by decide +kernel)
theorem dX8_readToken_93 : decode cX8_readToken 93 = .ok (.aload_n 0, 1) := op_42 lX8_readToken (by decide +kernel)
theorem dX8_readToken_94 : decode cX8_readToken 94 = .ok (.getfield 11, 3) := op_180 lX8_readToken 0 11 (by decide +kernel)
theorem dX8_readToken_97 : decode cX8_readToken 97 = .ok (.aload_n 0, 1) := op_42 lX8_readToken (by decide +kernel)
theorem dX8_readToken_98 : decode cX8_readToken 98 = .ok (.getfield 28, 3) := op_180 lX8_readToken 0 28 (by decide +kernel)
theorem dX8_readToken_101 : decode cX8_readToken 101 = .ok (.baload, 1) := op_51 lX8_readToken (by decide +kernel)
theorem dX8_readToken_102 : decode cX8_readToken 102 = .ok (.invokestatic 41, 3) := op_184 lX8_readToken 0 41 (by decide +kernel)
theorem dX8_readToken_105 : decode cX8_readToken 105 = .ok (.ifCond .eq 10, 3) := op_153 lX8_readToken 0 10 (by decide +kernel)
theorem dX8_readToken_108 : decode cX8_readToken 108 = .ok (.aload_n 0, 1) := op_42 lX8_readToken (by decide +kernel)
theorem dX8_readToken_109 : decode cX8_readToken 109 = .ok (.invokevirtual 44, 3) := op_182 lX8_readToken 0 44 (by decide +kernel)
theorem dX8_readToken_112 : decode cX8_readToken 112 = .ok (.goto 36, 3) := op_167 lX8_readToken 0 36 (by decide +kernel)
theorem dX8_readToken_115 : decode cX8_readToken 115 = .ok (.aload_n 0, 1) := op_42 lX8_readToken (by decide +kernel)
theorem dX8_readToken_116 : decode cX8_readToken 116 = .ok (.aload_n 0, 1) := op_42 lX8_readToken (by decide +kernel)
theorem dX8_readToken_117 : decode cX8_readToken 117 = .ok (.getfield 11, 3) := op_180 lX8_readToken 0 11 (by decide +kernel)
theorem dX8_readToken_120 : decode cX8_readToken 120 = .ok (.aload_n 0, 1) := op_42 lX8_readToken (by decide +kernel)
theorem dX8_readToken_121 : decode cX8_readToken 121 = .ok (.getfield 28, 3) := op_180 lX8_readToken 0 28 (by decide +kernel)
theorem dX8_readToken_124 : decode cX8_readToken 124 = .ok (.baload, 1) := op_51 lX8_readToken (by decide +kernel)
theorem dX8_readToken_125 : decode cX8_readToken 125 = .ok (.bipush 59, 2) := op_16 lX8_readToken 59 (by decide +kernel)
theorem dX8_readToken_127 : decode cX8_readToken 127 = .ok (.if_icmp .ne 7, 3) := op_160 lX8_readToken 0 7 (by decide +kernel)
theorem dX8_readToken_130 : decode cX8_readToken 130 = .ok (.iconst 3, 1) := op_6 lX8_readToken (by decide +kernel)
theorem dX8_readToken_131 : decode cX8_readToken 131 = .ok (.goto 4, 3) := op_167 lX8_readToken 0 4 (by decide +kernel)
theorem dX8_readToken_134 : decode cX8_readToken 134 = .ok (.iconst 4, 1) := op_7 lX8_readToken (by decide +kernel)
theorem dX8_readToken_135 : decode cX8_readToken 135 = .ok (.putfield 19, 3) := op_181 lX8_readToken 0 19 (by decide +kernel)
theorem dX8_readToken_138 : decode cX8_readToken 138 = .ok (.aload_n 0, 1) := op_42 lX8_readToken (by decide +kernel)
theorem dX8_readToken_139 : decode cX8_readToken 139 = .ok (.dup, 1) := op_89 lX8_readToken (by decide +kernel)
theorem dX8_readToken_140 : decode cX8_readToken 140 = .ok (.getfield 28, 3) := op_180 lX8_readToken 0 28 (by decide +kernel)
theorem dX8_readToken_143 : decode cX8_readToken 143 = .ok (.iconst 1, 1) := op_4 lX8_readToken (by decide +kernel)
theorem dX8_readToken_144 : decode cX8_readToken 144 = .ok (.iadd, 1) := op_96 lX8_readToken (by decide +kernel)
theorem dX8_readToken_145 : decode cX8_readToken 145 = .ok (.putfield 28, 3) := op_181 lX8_readToken 0 28 (by decide +kernel)
theorem dX8_readToken_148 : decode cX8_readToken 148 = .ok (.return_, 1) := op_177 lX8_readToken (by decide +kernel)
def nX8_readWord : Nat := 0xb11300b5070400a7040700a30810641600b42a1c00b42a2adcffa71c00b560041c00b4592a1000992300b8331c00b42a0b00b42a1f00a20f00b42a1c00b42a
theorem lX8_readWord : cX8_readWord.data.toList = unp nX8_readWord 63 0 := by decide +kernel
theorem dX8_readWord_0 : decode cX8_readWord 0 = .ok (.aload_n 0, 1) := op_42 lX8_readWord (by decide +kernel)
theorem dX8_readWord_1 : decode cX8_readWord 1 = .ok (.getfield 28, 3) := op_180 lX8_readWord 0 28 (by decide +kernel)
theorem dX8_readWord_4 : decode cX8_readWord 4 = .ok (.aload_n 0, 1) := op_42 lX8_readWord (by decide +kernel)
theorem dX8_readWord_5 : decode cX8_readWord 5 = .ok (.getfield 15, 3) := op_180 lX8_readWord 0 15 (by decide +kernel)
theorem dX8_readWord_8 : decode cX8_readWord 8 = .ok (.if_icmp .ge 31, 3) := op_162 lX8_readWord 0 31 (by decide +kernel)
theorem dX8_readWord_11 : decode cX8_readWord 11 = .ok (.aload_n 0, 1) := op_42 lX8_readWord (by decide +kernel)
theorem dX8_readWord_12 : decode cX8_readWord 12 = .ok (.getfield 11, 3) := op_180 lX8_readWord 0 11 (by decide +kernel)
theorem dX8_readWord_15 : decode cX8_readWord 15 = .ok (.aload_n 0, 1) := op_42 lX8_readWord (by decide +kernel)
theorem dX8_readWord_16 : decode cX8_readWord 16 = .ok (.getfield 28, 3) := op_180 lX8_readWord 0 28 (by decide +kernel)
theorem dX8_readWord_19 : decode cX8_readWord 19 = .ok (.baload, 1) := op_51 lX8_readWord (by decide +kernel)
theorem dX8_readWord_20 : decode cX8_readWord 20 = .ok (.invokestatic 35, 3) := op_184 lX8_readWord 0 35 (by decide +kernel)
theorem dX8_readWord_23 : decode cX8_readWord 23 = .ok (.ifCond .eq 16, 3) := op_153 lX8_readWord 0 16 (by decide +kernel)
theorem dX8_readWord_26 : decode cX8_readWord 26 = .ok (.aload_n 0, 1) := op_42 lX8_readWord (by decide +kernel)
theorem dX8_readWord_27 : decode cX8_readWord 27 = .ok (.dup, 1) := op_89 lX8_readWord (by decide +kernel)
theorem dX8_readWord_28 : decode cX8_readWord 28 = .ok (.getfield 28, 3) := op_180 lX8_readWord 0 28 (by decide +kernel)
theorem dX8_readWord_31 : decode cX8_readWord 31 = .ok (.iconst 1, 1) := op_4 lX8_readWord (by decide +kernel)
theorem dX8_readWord_32 : decode cX8_readWord 32 = .ok (.iadd, 1) := op_96 lX8_readWord (by decide +kernel)
theorem dX8_readWord_33 : decode cX8_readWord 33 = .ok (.putfield 28, 3) := op_181 lX8_readWord 0 28 (by decide +kernel)
theorem dX8_readWord_36 : decode cX8_readWord 36 = .ok (.goto (-36), 3) := op_167 lX8_readWord 255 220 (by decide +kernel)
theorem dX8_readWord_39 : decode cX8_readWord 39 = .ok (.aload_n 0, 1) := op_42 lX8_readWord (by decide +kernel)
theorem dX8_readWord_40 : decode cX8_readWord 40 = .ok (.aload_n 0, 1) := op_42 lX8_readWord (by decide +kernel)
theorem dX8_readWord_41 : decode cX8_readWord 41 = .ok (.getfield 28, 3) := op_180 lX8_readWord 0 28 (by decide +kernel)
theorem dX8_readWord_44 : decode cX8_readWord 44 = .ok (.aload_n 0, 1) := op_42 lX8_readWord (by decide +kernel)
theorem dX8_readWord_45 : decode cX8_readWord 45 = .ok (.getfield 22, 3) := op_180 lX8_readWord 0 22 (by decide +kernel)
theorem dX8_readWord_48 : decode cX8_readWord 48 = .ok (.isub, 1) := op_100 lX8_readWord (by decide +kernel)
theorem dX8_readWord_49 : decode cX8_readWord 49 = .ok (.bipush 8, 2) := op_16 lX8_readWord 8 (by decide +kernel)
theorem dX8_readWord_51 : decode cX8_readWord 51 = .ok (.if_icmp .gt 7, 3) := op_163 lX8_readWord 0 7 (by decide +kernel)
theorem dX8_readWord_54 : decode cX8_readWord 54 = .ok (.iconst 1, 1) := op_4 lX8_readWord (by decide +kernel)
theorem dX8_readWord_55 : decode cX8_readWord 55 = .ok (.goto 4, 3) := op_167 lX8_readWord 0 4 (by decide +kernel)
theorem dX8_readWord_58 : decode cX8_readWord 58 = .ok (.iconst 4, 1) := op_7 lX8_readWord (by decide +kernel)
theorem dX8_readWord_59 : decode cX8_readWord 59 = .ok (.putfield 19, 3) := op_181 lX8_readWord 0 19 (by decide +kernel)
theorem dX8_readWord_62 : decode cX8_readWord 62 = .ok (.return_, 1) := op_177 lX8_readWord (by decide +kernel)
def nX8_readNumber : Nat := 0xb11300b5070400a7050700a306641600b42a1c00b42a2ac4ffa71c00b560041c00b4592a1900b564301060331c00b42a0b00b42a680a101900b42a2a2800992900b8331c00b42a0b00b42a3700a20f00b42a1c00b42a
theorem lX8_readNumber : cX8_readNumber.data.toList = unp nX8_readNumber 86 0 := by decide +kernel
theorem dX8_readNumber_0 : decode cX8_readNumber 0 = .ok (.aload_n 0, 1) := op_42 lX8_readNumber (by decide +kernel)
theorem dX8_readNumber_1 : decode cX8_readNumber 1 = .ok (.getfield 28, 3) := op_180 lX8_readNumber 0 28 (by decide +kernel)
theorem dX8_readNumber_4 : decode cX8_readNumber 4 = .ok (.aload_n 0, 1) := op_42 lX8_readNumber (by decide +kernel)
theorem dX8_readNumber_5 : decode cX8_readNumber 5 = .ok (.getfield 15, 3) := op_180 lX8_readNumber 0 15 (by decide +kernel)
theorem dX8_readNumber_8 : decode cX8_readNumber 8 = .ok (.if_icmp .ge 55, 3) := op_162 lX8_readNumber 0 55 (by decide +kernel)
theorem dX8_readNumber_11 : decode cX8_readNumber 11 = .ok (.aload_n 0, 1) := op_42 lX8_readNumber (by decide +kernel)
theorem dX8_readNumber_12 : decode cX8_readNumber 12 = .ok (.getfield 11, 3) := op_180 lX8_readNumber 0 11 (by decide +kernel)
theorem dX8_readNumber_15 : decode cX8_readNumber 15 = .ok (.aload_n 0, 1) := op_42 lX8_readNumber (by decide +kernel)
theorem dX8_readNumber_16 : decode cX8_readNumber 16 = .ok (.getfield 28, 3) := op_180 lX8_readNumber 0 28 (by decide +kernel)
theorem dX8_readNumber_19 : decode cX8_readNumber 19 = .ok (.baload, 1) := op_51 lX8_readNumber (by decide +kernel)
theorem dX8_readNumber_20 : decode cX8_readNumber 20 = .ok (.invokestatic 41, 3) := op_184 lX8_readNumber 0 41 (by decide +kernel)
theorem dX8_readNumber_23 : decode cX8_readNumber 23 = .ok (.ifCond .eq 40, 3) := op_153 lX8_readNumber 0 40 (by decide +kernel)
theorem dX8_readNumber_26 : decode cX8_readNumber 26 = .ok (.aload_n 0, 1) := op_42 lX8_readNumber (by decide +kernel)
theorem dX8_readNumber_27 : decode cX8_readNumber 27 = .ok (.aload_n 0, 1) := op_42 lX8_readNumber (by decide +kernel)
theorem dX8_readNumber_28 : decode cX8_readNumber 28 = .ok (.getfield 25, 3) := op_180 lX8_readNumber 0 25 (by decide +kernel)
theorem dX8_readNumber_31 : decode cX8_readNumber 31 = .ok (.bipush 10, 2) := op_16 lX8_readNumber 10 (by decide +kernel)
theorem dX8_readNumber_33 : decode cX8_readNumber 33 = .ok (.imul, 1) := op_104 lX8_readNumber (by decide +kernel)
theorem dX8_readNumber_34 : decode cX8_readNumber 34 = .ok (.aload_n 0, 1) := op_42 lX8_readNumber (by decide +kernel)
theorem dX8_readNumber_35 : decode cX8_readNumber 35 = .ok (.getfield 11, 3) := op_180 lX8_readNumber 0 11 (by decide +kernel)
theorem dX8_readNumber_38 : decode cX8_readNumber 38 = .ok (.aload_n 0, 1) := op_42 lX8_readNumber (by decide +kernel)
theorem dX8_readNumber_39 : decode cX8_readNumber 39 = .ok (.getfield 28, 3) := op_180 lX8_readNumber 0 28 (by decide +kernel)
theorem dX8_readNumber_42 : decode cX8_readNumber 42 = .ok (.baload, 1) := op_51 lX8_readNumber (by decide +kernel)
theorem dX8_readNumber_43 : decode cX8_readNumber 43 = .ok (.iadd, 1) := op_96 lX8_readNumber (by decide +kernel)
theorem dX8_readNumber_44 : decode cX8_readNumber 44 = .ok (.bipush 48, 2) := op_16 lX8_readNumber 48 (by decide +kernel)
theorem dX8_readNumber_46 : decode cX8_readNumber 46 = .ok (.isub, 1) := op_100 lX8_readNumber (by decide +kernel)
theorem dX8_readNumber_47 : decode cX8_readNumber 47 = .ok (.putfield 25, 3) := op_181 lX8_readNumber 0 25 (by decide +kernel)
theorem dX8_readNumber_50 : decode cX8_readNumber 50 = .ok (.aload_n 0, 1) := op_42 lX8_readNumber (by decide +kernel)
theorem dX8_readNumber_51 : decode cX8_readNumber 51 = .ok (.dup, 1) := op_89 lX8_readNumber (by decide +kernel)
theorem dX8_readNumber_52 : decode cX8_readNumber 52 = .ok (.getfield 28, 3) := op_180 lX8_readNumber 0 28 (by decide +kernel)
theorem dX8_readNumber_55 : decode cX8_readNumber 55 = .ok (.iconst 1, 1) := op_4 lX8_readNumber (by decide +kernel)
theorem dX8_readNumber_56 : decode cX8_readNumber 56 = .ok (.iadd, 1) := op_96 lX8_readNumber (by decide +kernel)
theorem dX8_readNumber_57 : decode cX8_readNumber 57 = .ok (.putfield 28, 3) := op_181 lX8_readNumber 0 28 (by decide +kernel)
theorem dX8_readNumber_60 : decode cX8_readNumber 60 = .ok (.goto (-60), 3) := op_167 lX8_readNumber 255 196 (by decide +kernel)
theorem dX8_readNumber_63 : decode cX8_readNumber 63 = .ok (.aload_n 0, 1) := op_42 lX8_readNumber (by decide +kernel)
theorem dX8_readNumber_64 : decode cX8_readNumber 64 = .ok (.aload_n 0, 1) := op_42 lX8_readNumber (by decide +kernel)
theorem dX8_readNumber_65 : decode cX8_readNumber 65 = .ok (.getfield 28, 3) := op_180 lX8_readNumber 0 28 (by decide +kernel)
theorem dX8_readNumber_68 : decode cX8_readNumber 68 = .ok (.aload_n 0, 1) := op_42 lX8_readNumber (by decide +kernel)
theorem dX8_readNumber_69 : decode cX8_readNumber 69 = .ok (.getfield 22, 3) := op_180 lX8_readNumber 0 22 (by decide +kernel)
theorem dX8_readNumber_72 : decode cX8_readNumber 72 = .ok (.isub, 1) := op_100 lX8_readNumber (by decide +kernel)
theorem dX8_readNumber_73 : decode cX8_readNumber 73 = .ok (.iconst 3, 1) := op_6 lX8_readNumber (by decide +kernel)
theorem dX8_readNumber_74 : decode cX8_readNumber 74 = .ok (.if_icmp .gt 7, 3) := op_163 lX8_readNumber 0 7 (by decide +kernel)
theorem dX8_readNumber_77 : decode cX8_readNumber 77 = .ok (.iconst 2, 1) := op_5 lX8_readNumber (by decide +kernel)
theorem dX8_readNumber_78 : decode cX8_readNumber 78 = .ok (.goto 4, 3) := op_167 lX8_readNumber 0 4 (by decide +kernel)
theorem dX8_readNumber_81 : decode cX8_readNumber 81 = .ok (.iconst 4, 1) := op_7 lX8_readNumber (by decide +kernel)
theorem dX8_readNumber_82 : decode cX8_readNumber 82 = .ok (.putfield 19, 3) := op_181 lX8_readNumber 0 19 (by decide +kernel)
theorem dX8_readNumber_85 : decode cX8_readNumber 85 = .ok (.return_, 1) := op_177 lX8_readNumber (by decide +kernel)
def nX8_isWord : Nat := 0xac04d3ffa7010284ac0305009f3400b61c2b33601c1600b42a0b00b42a1e00a20f00b42a601c1600b42a2b00a22f00b62b1c3d03ac0305009f2f00b62b641600b42a1c00b42a1300a0041300b42a
theorem lX8_isWord : cX8_isWord.data.toList = unp nX8_isWord 78 0 := by decide +kernel
theorem dX8_isWord_0 : decode cX8_isWord 0 = .ok (.aload_n 0, 1) := op_42 lX8_isWord (by decide +kernel)
theorem dX8_isWord_1 : decode cX8_isWord 1 = .ok (.getfield 19, 3) := op_180 lX8_isWord 0 19 (by decide +kernel)
theorem dX8_isWord_4 : decode cX8_isWord 4 = .ok (.iconst 1, 1) := op_4 lX8_isWord (by decide +kernel)
theorem dX8_isWord_5 : decode cX8_isWord 5 = .ok (.if_icmp .ne 19, 3) := op_160 lX8_isWord 0 19 (by decide +kernel)
theorem dX8_isWord_8 : decode cX8_isWord 8 = .ok (.aload_n 0, 1) := op_42 lX8_isWord (by decide +kernel)
theorem dX8_isWord_9 : decode cX8_isWord 9 = .ok (.getfield 28, 3) := op_180 lX8_isWord 0 28 (by decide +kernel)
theorem dX8_isWord_12 : decode cX8_isWord 12 = .ok (.aload_n 0, 1) := op_42 lX8_isWord (by decide +kernel)
theorem dX8_isWord_13 : decode cX8_isWord 13 = .ok (.getfield 22, 3) := op_180 lX8_isWord 0 22 (by decide +kernel)
theorem dX8_isWord_16 : decode cX8_isWord 16 = .ok (.isub, 1) := op_100 lX8_isWord (by decide +kernel)
theorem dX8_isWord_17 : decode cX8_isWord 17 = .ok (.aload_n 1, 1) := op_43 lX8_isWord (by decide +kernel)
theorem dX8_isWord_18 : decode cX8_isWord 18 = .ok (.invokevirtual 47, 3) := op_182 lX8_isWord 0 47 (by decide +kernel)
theorem dX8_isWord_21 : decode cX8_isWord 21 = .ok (.if_icmp .eq 5, 3) := op_159 lX8_isWord 0 5 (by decide +kernel)
theorem dX8_isWord_24 : decode cX8_isWord 24 = .ok (.iconst 0, 1) := op_3 lX8_isWord (by decide +kernel)
theorem dX8_isWord_25 : decode cX8_isWord 25 = .ok (.ireturn, 1) := op_172 lX8_isWord (by decide +kernel)
theorem dX8_isWord_26 : decode cX8_isWord 26 = .ok (.iconst 0, 1) := op_3 lX8_isWord (by decide +kernel)
theorem dX8_isWord_27 : decode cX8_isWord 27 = .ok (.istore_n 2, 1) := op_61 lX8_isWord (by decide +kernel)
theorem dX8_isWord_28 : decode cX8_isWord 28 = .ok (.iload_n 2, 1) := op_28 lX8_isWord (by decide +kernel)
theorem dX8_isWord_29 : decode cX8_isWord 29 = .ok (.aload_n 1, 1) := op_43 lX8_isWord (by decide +kernel)
theorem dX8_isWord_30 : decode cX8_isWord 30 = .ok (.invokevirtual 47, 3) := op_182 lX8_isWord 0 47 (by decide +kernel)
theorem dX8_isWord_33 : decode cX8_isWord 33 = .ok (.if_icmp .ge 43, 3) := op_162 lX8_isWord 0 43 (by decide +kernel)
theorem dX8_isWord_36 : decode cX8_isWord 36 = .ok (.aload_n 0, 1) := op_42 lX8_isWord (by decide +kernel)
theorem dX8_isWord_37 : decode cX8_isWord 37 = .ok (.getfield 22, 3) := op_180 lX8_isWord 0 22 (by decide +kernel)
theorem dX8_isWord_40 : decode cX8_isWord 40 = .ok (.iload_n 2, 1) := op_28 lX8_isWord (by decide +kernel)
theorem dX8_isWord_41 : decode cX8_isWord 41 = .ok (.iadd, 1) := op_96 lX8_isWord (by decide +kernel)
theorem dX8_isWord_42 : decode cX8_isWord 42 = .ok (.aload_n 0, 1) := op_42 lX8_isWord (by decide +kernel)
theorem dX8_isWord_43 : decode cX8_isWord 43 = .ok (.getfield 15, 3) := op_180 lX8_isWord 0 15 (by decide +kernel)
theorem dX8_isWord_46 : decode cX8_isWord 46 = .ok (.if_icmp .ge 30, 3) := op_162 lX8_isWord 0 30 (by decide +kernel)
theorem dX8_isWord_49 : decode cX8_isWord 49 = .ok (.aload_n 0, 1) := op_42 lX8_isWord (by decide +kernel)
theorem dX8_isWord_50 : decode cX8_isWord 50 = .ok (.getfield 11, 3) := op_180 lX8_isWord 0 11 (by decide +kernel)
theorem dX8_isWord_53 : decode cX8_isWord 53 = .ok (.aload_n 0, 1) := op_42 lX8_isWord (by decide +kernel)
theorem dX8_isWord_54 : decode cX8_isWord 54 = .ok (.getfield 22, 3) := op_180 lX8_isWord 0 22 (by decide +kernel)
theorem dX8_isWord_57 : decode cX8_isWord 57 = .ok (.iload_n 2, 1) := op_28 lX8_isWord (by decide +kernel)
theorem dX8_isWord_58 : decode cX8_isWord 58 = .ok (.iadd, 1) := op_96 lX8_isWord (by decide +kernel)
theorem dX8_isWord_59 : decode cX8_isWord 59 = .ok (.baload, 1) := op_51 lX8_isWord (by decide +kernel)
theorem dX8_isWord_60 : decode cX8_isWord 60 = .ok (.aload_n 1, 1) := op_43 lX8_isWord (by decide +kernel)
theorem dX8_isWord_61 : decode cX8_isWord 61 = .ok (.iload_n 2, 1) := op_28 lX8_isWord (by decide +kernel)
theorem dX8_isWord_62 : decode cX8_isWord 62 = .ok (.invokevirtual 52, 3) := op_182 lX8_isWord 0 52 (by decide +kernel)
theorem dX8_isWord_65 : decode cX8_isWord 65 = .ok (.if_icmp .eq 5, 3) := op_159 lX8_isWord 0 5 (by decide +kernel)
theorem dX8_isWord_68 : decode cX8_isWord 68 = .ok (.iconst 0, 1) := op_3 lX8_isWord (by decide +kernel)
theorem dX8_isWord_69 : decode cX8_isWord 69 = .ok (.ireturn, 1) := op_172 lX8_isWord (by decide +kernel)
theorem dX8_isWord_70 : decode cX8_isWord 70 = .ok (.iinc 2 1, 3) := op_132 lX8_isWord 1 (by decide +kernel)
theorem dX8_isWord_73 : decode cX8_isWord 73 = .ok (.goto (-45), 3) := op_167 lX8_isWord 255 211 (by decide +kernel)
theorem dX8_isWord_76 : decode cX8_isWord 76 = .ok (.iconst 1, 1) := op_4 lX8_isWord (by decide +kernel)
theorem dX8_isWord_77 : decode cX8_isWord 77 = .ok (.ireturn, 1) := op_172 lX8_isWord (by decide +kernel)
def nX8_readNumbers : Nat := 0xac02d3ffa70102844f1900b42a1c2bac020500a0be2b1c0900a0051300b42aac1c05009a1300b42a3b00b62a2d00a3be2b1c3d033800b62a
theorem lX8_readNumbers : cX8_readNumbers.data.toList = unp nX8_readNumbers 56 0 := by decide +kernel
theorem dX8_readNumbers_0 : decode cX8_readNumbers 0 = .ok (.aload_n 0, 1) := op_42 lX8_readNumbers (by decide +kernel)
theorem dX8_readNumbers_1 : decode cX8_readNumbers 1 = .ok (.invokevirtual 56, 3) := op_182 lX8_readNumbers 0 56 (by decide +kernel)
theorem dX8_readNumbers_4 : decode cX8_readNumbers 4 = .ok (.iconst 0, 1) := op_3 lX8_readNumbers (by decide +kernel)
theorem dX8_readNumbers_5 : decode cX8_readNumbers 5 = .ok (.istore_n 2, 1) := op_61 lX8_readNumbers (by decide +kernel)
theorem dX8_readNumbers_6 : decode cX8_readNumbers 6 = .ok (.iload_n 2, 1) := op_28 lX8_readNumbers (by decide +kernel)
theorem dX8_readNumbers_7 : decode cX8_readNumbers 7 = .ok (.aload_n 1, 1) := op_43 lX8_readNumbers (by decide +kernel)
theorem dX8_readNumbers_8 : decode cX8_readNumbers 8 = .ok (.arraylength, 1) := op_190 lX8_readNumbers (by decide +kernel)
theorem dX8_readNumbers_9 : decode cX8_readNumbers 9 = .ok (.if_icmp .gt 45, 3) := op_163 lX8_readNumbers 0 45 (by decide +kernel)
theorem dX8_readNumbers_12 : decode cX8_readNumbers 12 = .ok (.aload_n 0, 1) := op_42 lX8_readNumbers (by decide +kernel)
theorem dX8_readNumbers_13 : decode cX8_readNumbers 13 = .ok (.invokevirtual 59, 3) := op_182 lX8_readNumbers 0 59 (by decide +kernel)
theorem dX8_readNumbers_16 : decode cX8_readNumbers 16 = .ok (.aload_n 0, 1) := op_42 lX8_readNumbers (by decide +kernel)
theorem dX8_readNumbers_17 : decode cX8_readNumbers 17 = .ok (.getfield 19, 3) := op_180 lX8_readNumbers 0 19 (by decide +kernel)
theorem dX8_readNumbers_20 : decode cX8_readNumbers 20 = .ok (.ifCond .ne 5, 3) := op_154 lX8_readNumbers 0 5 (by decide +kernel)
theorem dX8_readNumbers_23 : decode cX8_readNumbers 23 = .ok (.iload_n 2, 1) := op_28 lX8_readNumbers (by decide +kernel)
theorem dX8_readNumbers_24 : decode cX8_readNumbers 24 = .ok (.ireturn, 1) := op_172 lX8_readNumbers (by decide +kernel)
theorem dX8_readNumbers_25 : decode cX8_readNumbers 25 = .ok (.aload_n 0, 1) := op_42 lX8_readNumbers (by decide +kernel)
theorem dX8_readNumbers_26 : decode cX8_readNumbers 26 = .ok (.getfield 19, 3) := op_180 lX8_readNumbers 0 19 (by decide +kernel)
theorem dX8_readNumbers_29 : decode cX8_readNumbers 29 = .ok (.iconst 2, 1) := op_5 lX8_readNumbers (by decide +kernel)
theorem dX8_readNumbers_30 : decode cX8_readNumbers 30 = .ok (.if_icmp .ne 9, 3) := op_160 lX8_readNumbers 0 9 (by decide +kernel)
theorem dX8_readNumbers_33 : decode cX8_readNumbers 33 = .ok (.iload_n 2, 1) := op_28 lX8_readNumbers (by decide +kernel)
theorem dX8_readNumbers_34 : decode cX8_readNumbers 34 = .ok (.aload_n 1, 1) := op_43 lX8_readNumbers (by decide +kernel)
theorem dX8_readNumbers_35 : decode cX8_readNumbers 35 = .ok (.arraylength, 1) := op_190 lX8_readNumbers (by decide +kernel)
theorem dX8_readNumbers_36 : decode cX8_readNumbers 36 = .ok (.if_icmp .ne 5, 3) := op_160 lX8_readNumbers 0 5 (by decide +kernel)
theorem dX8_readNumbers_39 : decode cX8_readNumbers 39 = .ok (.iconst (-1), 1) := op_2 lX8_readNumbers (by decide +kernel)
theorem dX8_readNumbers_40 : decode cX8_readNumbers 40 = .ok (.ireturn, 1) := op_172 lX8_readNumbers (by decide +kernel)
theorem dX8_readNumbers_41 : decode cX8_readNumbers 41 = .ok (.aload_n 1, 1) := op_43 lX8_readNumbers (by decide +kernel)
theorem dX8_readNumbers_42 : decode cX8_readNumbers 42 = .ok (.iload_n 2, 1) := op_28 lX8_readNumbers (by decide +kernel)
theorem dX8_readNumbers_43 : decode cX8_readNumbers 43 = .ok (.aload_n 0, 1) := op_42 lX8_readNumbers (by decide +kernel)
theorem dX8_readNumbers_44 : decode cX8_readNumbers 44 = .ok (.getfield 25, 3) := op_180 lX8_readNumbers 0 25 (by decide +kernel)
theorem dX8_readNumbers_47 : decode cX8_readNumbers 47 = .ok (.iastore, 1) := op_79 lX8_readNumbers (by decide +kernel)
theorem dX8_readNumbers_48 : decode cX8_readNumbers 48 = .ok (.iinc 2 1, 3) := op_132 lX8_readNumbers 1 (by decide +kernel)
theorem dX8_readNumbers_51 : decode cX8_readNumbers 51 = .ok (.goto (-45), 3) := op_167 lX8_readNumbers 255 211 (by decide +kernel)
theorem dX8_readNumbers_54 : decode cX8_readNumbers 54 = .ok (.iconst (-1), 1) := op_2 lX8_readNumbers (by decide +kernel)
theorem dX8_readNumbers_55 : decode cX8_readNumbers 55 = .ok (.ireturn, 1) := op_172 lX8_readNumbers (by decide +kernel)
def nX8_isBlank : Nat := 0xac030400a7040700a00a101a09009f20101a
theorem lX8_isBlank : cX8_isBlank.data.toList = unp nX8_isBlank 18 0 := by decide +kernel
theorem dX8_isBlank_0 : decode cX8_isBlank 0 = .ok (.iload_n 0, 1) := op_26 lX8_isBlank (by decide +kernel)
theorem dX8_isBlank_1 : decode cX8_isBlank 1 = .ok (.bipush 32, 2) := op_16 lX8_isBlank 32 (by decide +kernel)
theorem dX8_isBlank_3 : decode cX8_isBlank 3 = .ok (.if_icmp .eq 9, 3) := op_159 lX8_isBlank 0 9 (by decide +kernel)
theorem dX8_isBlank_6 : decode cX8_isBlank 6 = .ok (.iload_n 0, 1) := op_26 lX8_isBlank (by decide +kernel)
theorem dX8_isBlank_7 : decode cX8_isBlank 7 = .ok (.bipush 10, 2) := op_16 lX8_isBlank 10 (by decide +kernel)
theorem dX8_isBlank_9 : decode cX8_isBlank 9 = .ok (.if_icmp .ne 7, 3) := op_160 lX8_isBlank 0 7 (by decide +kernel)
theorem dX8_isBlank_12 : decode cX8_isBlank 12 = .ok (.iconst 1, 1) := op_4 lX8_isBlank (by decide +kernel)
theorem dX8_isBlank_13 : decode cX8_isBlank 13 = .ok (.goto 4, 3) := op_167 lX8_isBlank 0 4 (by decide +kernel)
theorem dX8_isBlank_16 : decode cX8_isBlank 16 = .ok (.iconst 0, 1) := op_3 lX8_isBlank (by decide +kernel)
theorem dX8_isBlank_17 : decode cX8_isBlank 17 = .ok (.ireturn, 1) := op_172 lX8_isBlank (by decide +kernel)
def nX8_isLetter : Nat := 0xac030400a7040700a37a101a0d00a161101a
theorem lX8_isLetter : cX8_isLetter.data.toList = unp nX8_isLetter 18 0 := by decide +kernel
theorem dX8_isLetter_0 : decode cX8_isLetter 0 = .ok (.iload_n 0, 1) := op_26 lX8_isLetter (by decide +kernel)
theorem dX8_isLetter_1 : decode cX8_isLetter 1 = .ok (.bipush 97, 2) := op_16 lX8_isLetter 97 (by decide +kernel)
theorem dX8_isLetter_3 : decode cX8_isLetter 3 = .ok (.if_icmp .lt 13, 3) := op_161 lX8_isLetter 0 13 (by decide +kernel)
theorem dX8_isLetter_6 : decode cX8_isLetter 6 = .ok (.iload_n 0, 1) := op_26 lX8_isLetter (by decide +kernel)
theorem dX8_isLetter_7 : decode cX8_isLetter 7 = .ok (.bipush 122, 2) := op_16 lX8_isLetter 122 (by decide +kernel)
theorem dX8_isLetter_9 : decode cX8_isLetter 9 = .ok (.if_icmp .gt 7, 3) := op_163 lX8_isLetter 0 7 (by decide +kernel)
theorem dX8_isLetter_12 : decode cX8_isLetter 12 = .ok (.iconst 1, 1) := op_4 lX8_isLetter (by decide +kernel)
theorem dX8_isLetter_13 : decode cX8_isLetter 13 = .ok (.goto 4, 3) := op_167 lX8_isLetter 0 4 (by decide +kernel)
theorem dX8_isLetter_16 : decode cX8_isLetter 16 = .ok (.iconst 0, 1) := op_3 lX8_isLetter (by decide +kernel)
theorem dX8_isLetter_17 : decode cX8_isLetter 17 = .ok (.ireturn, 1) := op_172 lX8_isLetter (by decide +kernel)
def nX8_isDigit : Nat := 0xac030400a7040700a339101a0d00a130101a
theorem lX8_isDigit : cX8_isDigit.data.toList = unp nX8_isDigit 18 0 := by decide +kernel
theorem dX8_isDigit_0 : decode cX8_isDigit 0 = .ok (.iload_n 0, 1) := op_26 lX8_isDigit (by decide +kernel)
theorem dX8_isDigit_1 : decode cX8_isDigit 1 = .ok (.bipush 48, 2) := op_16 lX8_isDigit 48 (by decide +kernel)
theorem dX8_isDigit_3 : decode cX8_isDigit 3 = .ok (.if_icmp .lt 13, 3) := op_161 lX8_isDigit 0 13 (by decide +kernel)
theorem dX8_isDigit_6 : decode cX8_isDigit 6 = .ok (.iload_n 0, 1) := op_26 lX8_isDigit (by decide +kernel)
theorem dX8_isDigit_7 : decode cX8_isDigit 7 = .ok (.bipush 57, 2) := op_16 lX8_isDigit 57 (by decide +kernel)
theorem dX8_isDigit_9 : decode cX8_isDigit 9 = .ok (.if_icmp .gt 7, 3) := op_163 lX8_isDigit 0 7 (by decide +kernel)
theorem dX8_isDigit_12 : decode cX8_isDigit 12 = .ok (.iconst 1, 1) := op_4 lX8_isDigit (by decide +kernel)
theorem dX8_isDigit_13 : decode cX8_isDigit 13 = .ok (.goto 4, 3) := op_167 lX8_isDigit 0 4 (by decide +kernel)
theorem dX8_isDigit_16 : decode cX8_isDigit 16 = .ok (.iconst 0, 1) := op_3 lX8_isDigit (by decide +kernel)
theorem dX8_isDigit_17 : decode cX8_isDigit 17 = .ok (.ireturn, 1) := op_172 lX8_isDigit (by decide +kernel)
end

section
def nX9_init : Nat := 0xb10f00b50abc07102a0b00b50abc15102a0300b72a
theorem lX9_init : cX9_init.data.toList = unp nX9_init 21 0 := by decide +kernel
theorem dX9_init_0 : decode cX9_init 0 = .ok (.aload_n 0, 1) := op_42 lX9_init (by decide +kernel)
theorem dX9_init_1 : decode cX9_init 1 = .ok (.invokespecial 3, 3) := op_183 lX9_init 0 3 (by decide +kernel)
theorem dX9_init_4 : decode cX9_init 4 = .ok (.aload_n 0, 1) := op_42 lX9_init (by decide +kernel)
theorem dX9_init_5 : decode cX9_init 5 = .ok (.bipush 21, 2) := op_16 lX9_init 21 (by decide +kernel)
theorem dX9_init_7 : decode cX9_init 7 = .ok (.newarray .int, 2) := by decide +kernel
theorem dX9_init_9 : decode cX9_init 9 = .ok (.putfield 11, 3) := op_181 lX9_init 0 11 (by decide +kernel)
theorem dX9_init_12 : decode cX9_init 12 = .ok (.aload_n 0, 1) := op_42 lX9_init (by decide +kernel)
theorem dX9_init_13 : decode cX9_init 13 = .ok (.bipush 7, 2) := op_16 lX9_init 7 (by decide +kernel)
theorem dX9_init_15 : decode cX9_init 15 = .ok (.newarray .int, 2) := by decide +kernel
theorem dX9_init_17 : decode cX9_init 17 = .ok (.putfield 15, 3) := op_181 lX9_init 0 15 (by decide +kernel)
theorem dX9_init_20 : decode cX9_init 20 = .ok (.return_, 1) := op_177 lX9_init (by decide +kernel)
def nX9_gather : Nat := 0xb1cdffa7010384e0ffa70104842000b604151d1c2b2a0c00991c00b604151d1c2b1d00a21600b62b0415043660041d3100a21600b62b1d3e031200b5032a
theorem lX9_gather : cX9_gather.data.toList = unp nX9_gather 62 0 := by decide +kernel
theorem dX9_gather_0 : decode cX9_gather 0 = .ok (.aload_n 0, 1) := op_42 lX9_gather (by decide +kernel)
theorem dX9_gather_1 : decode cX9_gather 1 = .ok (.iconst 0, 1) := op_3 lX9_gather (by decide +kernel)
theorem dX9_gather_2 : decode cX9_gather 2 = .ok (.putfield 18, 3) := op_181 lX9_gather 0 18 (by decide +kernel)
theorem dX9_gather_5 : decode cX9_gather 5 = .ok (.iconst 0, 1) := op_3 lX9_gather (by decide +kernel)
theorem dX9_gather_6 : decode cX9_gather 6 = .ok (.istore_n 3, 1) := op_62 lX9_gather (by decide +kernel)
theorem dX9_gather_7 : decode cX9_gather 7 = .ok (.iload_n 3, 1) := op_29 lX9_gather (by decide +kernel)
theorem dX9_gather_8 : decode cX9_gather 8 = .ok (.aload_n 1, 1) := op_43 lX9_gather (by decide +kernel)
theorem dX9_gather_9 : decode cX9_gather 9 = .ok (.invokevirtual 22, 3) := op_182 lX9_gather 0 22 (by decide +kernel)
theorem dX9_gather_12 : decode cX9_gather 12 = .ok (.if_icmp .ge 49, 3) := op_162 lX9_gather 0 49 (by decide +kernel)
theorem dX9_gather_15 : decode cX9_gather 15 = .ok (.iload_n 3, 1) := op_29 lX9_gather (by decide +kernel)
theorem dX9_gather_16 : decode cX9_gather 16 = .ok (.iconst 1, 1) := op_4 lX9_gather (by decide +kernel)
theorem dX9_gather_17 : decode cX9_gather 17 = .ok (.iadd, 1) := op_96 lX9_gather (by decide +kernel)
theorem dX9_gather_18 : decode cX9_gather 18 = .ok (.istore 4, 2) := op_54 lX9_gather (by decide +kernel)
theorem dX9_gather_20 : decode cX9_gather 20 = .ok (.iload 4, 2) := op_21 lX9_gather (by decide +kernel)
theorem dX9_gather_22 : decode cX9_gather 22 = .ok (.aload_n 1, 1) := op_43 lX9_gather (by decide +kernel)
theorem dX9_gather_23 : decode cX9_gather 23 = .ok (.invokevirtual 22, 3) := op_182 lX9_gather 0 22 (by decide +kernel)
theorem dX9_gather_26 : decode cX9_gather 26 = .ok (.if_icmp .ge 29, 3) := op_162 lX9_gather 0 29 (by decide +kernel)
theorem dX9_gather_29 : decode cX9_gather 29 = .ok (.aload_n 1, 1) := op_43 lX9_gather (by decide +kernel)
theorem dX9_gather_30 : decode cX9_gather 30 = .ok (.iload_n 2, 1) := op_28 lX9_gather (by decide +kernel)
theorem dX9_gather_31 : decode cX9_gather 31 = .ok (.iload_n 3, 1) := op_29 lX9_gather (by decide +kernel)
theorem dX9_gather_32 : decode cX9_gather 32 = .ok (.iload 4, 2) := op_21 lX9_gather (by decide +kernel)
theorem dX9_gather_34 : decode cX9_gather 34 = .ok (.invokevirtual 28, 3) := op_182 lX9_gather 0 28 (by decide +kernel)
theorem dX9_gather_37 : decode cX9_gather 37 = .ok (.ifCond .eq 12, 3) := op_153 lX9_gather 0 12 (by decide +kernel)
theorem dX9_gather_40 : decode cX9_gather 40 = .ok (.aload_n 0, 1) := op_42 lX9_gather (by decide +kernel)
theorem dX9_gather_41 : decode cX9_gather 41 = .ok (.aload_n 1, 1) := op_43 lX9_gather (by decide +kernel)
theorem dX9_gather_42 : decode cX9_gather 42 = .ok (.iload_n 2, 1) := op_28 lX9_gather (by decide +kernel)
theorem dX9_gather_43 : decode cX9_gather 43 = .ok (.iload_n 3, 1) := op_29 lX9_gather (by decide +kernel)
theorem dX9_gather_44 : decode cX9_gather 44 = .ok (.iload 4, 2) := op_21 lX9_gather (by decide +kernel)
theorem dX9_gather_46 : decode cX9_gather 46 = .ok (.invokevirtual 32, 3) := op_182 lX9_gather 0 32 (by decide +kernel)
theorem dX9_gather_49 : decode cX9_gather 49 = .ok (.iinc 4 1, 3) := op_132 lX9_gather 1 (by decide +kernel)
theorem dX9_gather_52 : decode cX9_gather 52 = .ok (.goto (-32), 3) := op_167 lX9_gather 255 224 (by decide +kernel)
theorem dX9_gather_55 : decode cX9_gather 55 = .ok (.iinc 3 1, 3) := op_132 lX9_gather 1 (by decide +kernel)
theorem dX9_gather_58 : decode cX9_gather 58 = .ok (.goto (-51), 3) := op_167 lX9_gather 255 205 (by decide +kernel)
theorem dX9_gather_61 : decode cX9_gather 61 = .ok (.return_, 1) := op_177 lX9_gather (by decide +kernel)
def nX9_gatherOn : Nat := 0xb194ffa70105841200b560041200b4592a4f05156005681200b42a060b00b42a4f04156004681200b42a060b00b42a4f1d681200b42a060b00b42a3700a207101200b42a40009906150636030400a7040700991c00b6051504151c2b1300991c00b605151d1c2b6900a21600b62b0515053660040415
theorem lX9_gatherOn : cX9_gatherOn.data.toList = unp nX9_gatherOn 118 0 := by decide +kernel
theorem dX9_gatherOn_0 : decode cX9_gatherOn 0 = .ok (.iload 4, 2) := op_21 lX9_gatherOn (by decide +kernel)
theorem dX9_gatherOn_2 : decode cX9_gatherOn 2 = .ok (.iconst 1, 1) := op_4 lX9_gatherOn (by decide +kernel)
theorem dX9_gatherOn_3 : decode cX9_gatherOn 3 = .ok (.iadd, 1) := op_96 lX9_gatherOn (by decide +kernel)
theorem dX9_gatherOn_4 : decode cX9_gatherOn 4 = .ok (.istore 5, 2) := op_54 lX9_gatherOn (by decide +kernel)
theorem dX9_gatherOn_6 : decode cX9_gatherOn 6 = .ok (.iload 5, 2) := op_21 lX9_gatherOn (by decide +kernel)
theorem dX9_gatherOn_8 : decode cX9_gatherOn 8 = .ok (.aload_n 1, 1) := op_43 lX9_gatherOn (by decide +kernel)
theorem dX9_gatherOn_9 : decode cX9_gatherOn 9 = .ok (.invokevirtual 22, 3) := op_182 lX9_gatherOn 0 22 (by decide +kernel)
theorem dX9_gatherOn_12 : decode cX9_gatherOn 12 = .ok (.if_icmp .ge 105, 3) := op_162 lX9_gatherOn 0 105 (by decide +kernel)
theorem dX9_gatherOn_15 : decode cX9_gatherOn 15 = .ok (.aload_n 1, 1) := op_43 lX9_gatherOn (by decide +kernel)
theorem dX9_gatherOn_16 : decode cX9_gatherOn 16 = .ok (.iload_n 2, 1) := op_28 lX9_gatherOn (by decide +kernel)
theorem dX9_gatherOn_17 : decode cX9_gatherOn 17 = .ok (.iload_n 3, 1) := op_29 lX9_gatherOn (by decide +kernel)
theorem dX9_gatherOn_18 : decode cX9_gatherOn 18 = .ok (.iload 5, 2) := op_21 lX9_gatherOn (by decide +kernel)
theorem dX9_gatherOn_20 : decode cX9_gatherOn 20 = .ok (.invokevirtual 28, 3) := op_182 lX9_gatherOn 0 28 (by decide +kernel)
theorem dX9_gatherOn_23 : decode cX9_gatherOn 23 = .ok (.ifCond .eq 19, 3) := op_153 lX9_gatherOn 0 19 (by decide +kernel)
theorem dX9_gatherOn_26 : decode cX9_gatherOn 26 = .ok (.aload_n 1, 1) := op_43 lX9_gatherOn (by decide +kernel)
theorem dX9_gatherOn_27 : decode cX9_gatherOn 27 = .ok (.iload_n 2, 1) := op_28 lX9_gatherOn (by decide +kernel)
theorem dX9_gatherOn_28 : decode cX9_gatherOn 28 = .ok (.iload 4, 2) := op_21 lX9_gatherOn (by decide +kernel)
theorem dX9_gatherOn_30 : decode cX9_gatherOn 30 = .ok (.iload 5, 2) := op_21 lX9_gatherOn (by decide +kernel)
theorem dX9_gatherOn_32 : decode cX9_gatherOn 32 = .ok (.invokevirtual 28, 3) := op_182 lX9_gatherOn 0 28 (by decide +kernel)
theorem dX9_gatherOn_35 : decode cX9_gatherOn 35 = .ok (.ifCond .eq 7, 3) := op_153 lX9_gatherOn 0 7 (by decide +kernel)
theorem dX9_gatherOn_38 : decode cX9_gatherOn 38 = .ok (.iconst 1, 1) := op_4 lX9_gatherOn (by decide +kernel)
theorem dX9_gatherOn_39 : decode cX9_gatherOn 39 = .ok (.goto 4, 3) := op_167 lX9_gatherOn 0 4 (by decide +kernel)
theorem dX9_gatherOn_42 : decode cX9_gatherOn 42 = .ok (.iconst 0, 1) := op_3 lX9_gatherOn (by decide +kernel)
theorem dX9_gatherOn_43 : decode cX9_gatherOn 43 = .ok (.istore 6, 2) := op_54 lX9_gatherOn (by decide +kernel)
theorem dX9_gatherOn_45 : decode cX9_gatherOn 45 = .ok (.iload 6, 2) := op_21 lX9_gatherOn (by decide +kernel)
theorem dX9_gatherOn_47 : decode cX9_gatherOn 47 = .ok (.ifCond .eq 64, 3) := op_153 lX9_gatherOn 0 64 (by decide +kernel)
theorem dX9_gatherOn_50 : decode cX9_gatherOn 50 = .ok (.aload_n 0, 1) := op_42 lX9_gatherOn (by decide +kernel)
theorem dX9_gatherOn_51 : decode cX9_gatherOn 51 = .ok (.getfield 18, 3) := op_180 lX9_gatherOn 0 18 (by decide +kernel)
theorem dX9_gatherOn_54 : decode cX9_gatherOn 54 = .ok (.bipush 7, 2) := op_16 lX9_gatherOn 7 (by decide +kernel)
theorem dX9_gatherOn_56 : decode cX9_gatherOn 56 = .ok (.if_icmp .ge 55, 3) := op_162 lX9_gatherOn 0 55 (by decide +kernel)
theorem dX9_gatherOn_59 : decode cX9_gatherOn 59 = .ok (.aload_n 0, 1) := op_42 lX9_gatherOn (by decide +kernel)
theorem dX9_gatherOn_60 : decode cX9_gatherOn 60 = .ok (.getfield 11, 3) := op_180 lX9_gatherOn 0 11 (by decide +kernel)
theorem dX9_gatherOn_63 : decode cX9_gatherOn 63 = .ok (.iconst 3, 1) := op_6 lX9_gatherOn (by decide +kernel)
theorem dX9_gatherOn_64 : decode cX9_gatherOn 64 = .ok (.aload_n 0, 1) := op_42 lX9_gatherOn (by decide +kernel)
theorem dX9_gatherOn_65 : decode cX9_gatherOn 65 = .ok (.getfield 18, 3) := op_180 lX9_gatherOn 0 18 (by decide +kernel)
theorem dX9_gatherOn_68 : decode cX9_gatherOn 68 = .ok (.imul, 1) := op_104 lX9_gatherOn (by decide +kernel)
theorem dX9_gatherOn_69 : decode cX9_gatherOn 69 = .ok (.iload_n 3, 1) := op_29 lX9_gatherOn (by decide +kernel)
theorem dX9_gatherOn_70 : decode cX9_gatherOn 70 = .ok (.iastore, 1) := op_79 lX9_gatherOn (by decide +kernel)
theorem dX9_gatherOn_71 : decode cX9_gatherOn 71 = .ok (.aload_n 0, 1) := op_42 lX9_gatherOn (by decide +kernel)
theorem dX9_gatherOn_72 : decode cX9_gatherOn 72 = .ok (.getfield 11, 3) := op_180 lX9_gatherOn 0 11 (by decide +kernel)
theorem dX9_gatherOn_75 : decode cX9_gatherOn 75 = .ok (.iconst 3, 1) := op_6 lX9_gatherOn (by decide +kernel)
theorem dX9_gatherOn_76 : decode cX9_gatherOn 76 = .ok (.aload_n 0, 1) := op_42 lX9_gatherOn (by decide +kernel)
theorem dX9_gatherOn_77 : decode cX9_gatherOn 77 = .ok (.getfield 18, 3) := op_180 lX9_gatherOn 0 18 (by decide +kernel)
theorem dX9_gatherOn_80 : decode cX9_gatherOn 80 = .ok (.imul, 1) := op_104 lX9_gatherOn (by decide +kernel)
theorem dX9_gatherOn_81 : decode cX9_gatherOn 81 = .ok (.iconst 1, 1) := op_4 lX9_gatherOn (by decide +kernel)
theorem dX9_gatherOn_82 : decode cX9_gatherOn 82 = .ok (.iadd, 1) := op_96 lX9_gatherOn (by decide +kernel)
theorem dX9_gatherOn_83 : decode cX9_gatherOn 83 = .ok (.iload 4, 2) := op_21 lX9_gatherOn (by decide +kernel)
theorem dX9_gatherOn_85 : decode cX9_gatherOn 85 = .ok (.iastore, 1) := op_79 lX9_gatherOn (by decide +kernel)
theorem dX9_gatherOn_86 : decode cX9_gatherOn 86 = .ok (.aload_n 0, 1) := op_42 lX9_gatherOn (by decide +kernel)
theorem dX9_gatherOn_87 : decode cX9_gatherOn 87 = .ok (.getfield 11, 3) := op_180 lX9_gatherOn 0 11 (by decide +kernel)
theorem dX9_gatherOn_90 : decode cX9_gatherOn 90 = .ok (.iconst 3, 1) := op_6 lX9_gatherOn (by decide +kernel)
theorem dX9_gatherOn_91 : decode cX9_gatherOn 91 = .ok (.aload_n 0, 1) := op_42 lX9_gatherOn (by decide +kernel)
theorem dX9_gatherOn_92 : decode cX9_gatherOn 92 = .ok (.getfield 18, 3) := op_180 lX9_gatherOn 0 18 (by decide +kernel)
theorem dX9_gatherOn_95 : decode cX9_gatherOn 95 = .ok (.imul, 1) := op_104 lX9_gatherOn (by decide +kernel)
theorem dX9_gatherOn_96 : decode cX9_gatherOn 96 = .ok (.iconst 2, 1) := op_5 lX9_gatherOn (by decide +kernel)
theorem dX9_gatherOn_97 : decode cX9_gatherOn 97 = .ok (.iadd, 1) := op_96 lX9_gatherOn (by decide +kernel)
theorem dX9_gatherOn_98 : decode cX9_gatherOn 98 = .ok (.iload 5, 2) := op_21 lX9_gatherOn (by decide +kernel)
theorem dX9_gatherOn_100 : decode cX9_gatherOn 100 = .ok (.iastore, 1) := op_79 lX9_gatherOn (by decide +kernel)
theorem dX9_gatherOn_101 : decode cX9_gatherOn 101 = .ok (.aload_n 0, 1) := op_42 lX9_gatherOn (by decide +kernel)
theorem dX9_gatherOn_102 : decode cX9_gatherOn 102 = .ok (.dup, 1) := op_89 lX9_gatherOn (by decide +kernel)
theorem dX9_gatherOn_103 : decode cX9_gatherOn 103 = .ok (.getfield 18, 3) := op_180 lX9_gatherOn 0 18 (by decide +kernel)
theorem dX9_gatherOn_106 : decode cX9_gatherOn 106 = .ok (.iconst 1, 1) := op_4 lX9_gatherOn (by decide +kernel)
theorem dX9_gatherOn_107 : decode cX9_gatherOn 107 = .ok (.iadd, 1) := op_96 lX9_gatherOn (by decide +kernel)
theorem dX9_gatherOn_108 : decode cX9_gatherOn 108 = .ok (.putfield 18, 3) := op_181 lX9_gatherOn 0 18 (by decide +kernel)
theorem dX9_gatherOn_111 : decode cX9_gatherOn 111 = .ok (.iinc 5 1, 3) := op_132 lX9_gatherOn 1 (by decide +kernel)
theorem dX9_gatherOn_114 : decode cX9_gatherOn 114 = .ok (.goto (-108), 3) := op_167 lX9_gatherOn 255 148 (by decide +kernel)
theorem dX9_gatherOn_117 : decode cX9_gatherOn 117 = .ok (.return_, 1) := op_177 lX9_gatherOn (by decide +kernel)
def nX9_cornerOf : Nat := 0xac2e601c681b060b00b42aac020500a4051c08009b1c0c00a21200b42a1b14009b1b
theorem lX9_cornerOf : cX9_cornerOf.data.toList = unp nX9_cornerOf 34 0 := by decide +kernel
theorem dX9_cornerOf_0 : decode cX9_cornerOf 0 = .ok (.iload_n 1, 1) := op_27 lX9_cornerOf (by decide +kernel)
theorem dX9_cornerOf_1 : decode cX9_cornerOf 1 = .ok (.ifCond .lt 20, 3) := op_155 lX9_cornerOf 0 20 (by decide +kernel)
theorem dX9_cornerOf_4 : decode cX9_cornerOf 4 = .ok (.iload_n 1, 1) := op_27 lX9_cornerOf (by decide +kernel)
theorem dX9_cornerOf_5 : decode cX9_cornerOf 5 = .ok (.aload_n 0, 1) := op_42 lX9_cornerOf (by decide +kernel)
theorem dX9_cornerOf_6 : decode cX9_cornerOf 6 = .ok (.getfield 18, 3) := op_180 lX9_cornerOf 0 18 (by decide +kernel)
theorem dX9_cornerOf_9 : decode cX9_cornerOf 9 = .ok (.if_icmp .ge 12, 3) := op_162 lX9_cornerOf 0 12 (by decide +kernel)
theorem dX9_cornerOf_12 : decode cX9_cornerOf 12 = .ok (.iload_n 2, 1) := op_28 lX9_cornerOf (by decide +kernel)
theorem dX9_cornerOf_13 : decode cX9_cornerOf 13 = .ok (.ifCond .lt 8, 3) := op_155 lX9_cornerOf 0 8 (by decide +kernel)
theorem dX9_cornerOf_16 : decode cX9_cornerOf 16 = .ok (.iload_n 2, 1) := op_28 lX9_cornerOf (by decide +kernel)
theorem dX9_cornerOf_17 : decode cX9_cornerOf 17 = .ok (.iconst 2, 1) := op_5 lX9_cornerOf (by decide +kernel)
theorem dX9_cornerOf_18 : decode cX9_cornerOf 18 = .ok (.if_icmp .le 5, 3) := op_164 lX9_cornerOf 0 5 (by decide +kernel)
theorem dX9_cornerOf_21 : decode cX9_cornerOf 21 = .ok (.iconst (-1), 1) := op_2 lX9_cornerOf (by decide +kernel)
theorem dX9_cornerOf_22 : decode cX9_cornerOf 22 = .ok (.ireturn, 1) := op_172 lX9_cornerOf (by decide +kernel)
theorem dX9_cornerOf_23 : decode cX9_cornerOf 23 = .ok (.aload_n 0, 1) := op_42 lX9_cornerOf (by decide +kernel)
theorem dX9_cornerOf_24 : decode cX9_cornerOf 24 = .ok (.getfield 11, 3) := op_180 lX9_cornerOf 0 11 (by decide +kernel)
theorem dX9_cornerOf_27 : decode cX9_cornerOf 27 = .ok (.iconst 3, 1) := op_6 lX9_cornerOf (by decide +kernel)
theorem dX9_cornerOf_28 : decode cX9_cornerOf 28 = .ok (.iload_n 1, 1) := op_27 lX9_cornerOf (by decide +kernel)
theorem dX9_cornerOf_29 : decode cX9_cornerOf 29 = .ok (.imul, 1) := op_104 lX9_cornerOf (by decide +kernel)
theorem dX9_cornerOf_30 : decode cX9_cornerOf 30 = .ok (.iload_n 2, 1) := op_28 lX9_cornerOf (by decide +kernel)
theorem dX9_cornerOf_31 : decode cX9_cornerOf 31 = .ok (.iadd, 1) := op_96 lX9_cornerOf (by decide +kernel)
theorem dX9_cornerOf_32 : decode cX9_cornerOf 32 = .ok (.iaload, 1) := op_46 lX9_cornerOf (by decide +kernel)
theorem dX9_cornerOf_33 : decode cX9_cornerOf 33 = .ok (.ireturn, 1) := op_172 lX9_cornerOf (by decide +kernel)
def nX9_touches : Nat := 0xac030400a7040700a01c2400b6051b2a0d009f1c2400b6041b2a17009f1c2400b6031b2a
theorem lX9_touches : cX9_touches.data.toList = unp nX9_touches 36 0 := by decide +kernel
theorem dX9_touches_0 : decode cX9_touches 0 = .ok (.aload_n 0, 1) := op_42 lX9_touches (by decide +kernel)
theorem dX9_touches_1 : decode cX9_touches 1 = .ok (.iload_n 1, 1) := op_27 lX9_touches (by decide +kernel)
theorem dX9_touches_2 : decode cX9_touches 2 = .ok (.iconst 0, 1) := op_3 lX9_touches (by decide +kernel)
theorem dX9_touches_3 : decode cX9_touches 3 = .ok (.invokevirtual 36, 3) := op_182 lX9_touches 0 36 (by decide +kernel)
theorem dX9_touches_6 : decode cX9_touches 6 = .ok (.iload_n 2, 1) := op_28 lX9_touches (by decide +kernel)
theorem dX9_touches_7 : decode cX9_touches 7 = .ok (.if_icmp .eq 23, 3) := op_159 lX9_touches 0 23 (by decide +kernel)
theorem dX9_touches_10 : decode cX9_touches 10 = .ok (.aload_n 0, 1) := op_42 lX9_touches (by decide +kernel)
theorem dX9_touches_11 : decode cX9_touches 11 = .ok (.iload_n 1, 1) := op_27 lX9_touches (by decide +kernel)
theorem dX9_touches_12 : decode cX9_touches 12 = .ok (.iconst 1, 1) := op_4 lX9_touches (by decide +kernel)
theorem dX9_touches_13 : decode cX9_touches 13 = .ok (.invokevirtual 36, 3) := op_182 lX9_touches 0 36 (by decide +kernel)
theorem dX9_touches_16 : decode cX9_touches 16 = .ok (.iload_n 2, 1) := op_28 lX9_touches (by decide +kernel)
theorem dX9_touches_17 : decode cX9_touches 17 = .ok (.if_icmp .eq 13, 3) := op_159 lX9_touches 0 13 (by decide +kernel)
theorem dX9_touches_20 : decode cX9_touches 20 = .ok (.aload_n 0, 1) := op_42 lX9_touches (by decide +kernel)
theorem dX9_touches_21 : decode cX9_touches 21 = .ok (.iload_n 1, 1) := op_27 lX9_touches (by decide +kernel)
theorem dX9_touches_22 : decode cX9_touches 22 = .ok (.iconst 2, 1) := op_5 lX9_touches (by decide +kernel)
theorem dX9_touches_23 : decode cX9_touches 23 = .ok (.invokevirtual 36, 3) := op_182 lX9_touches 0 36 (by decide +kernel)
theorem dX9_touches_26 : decode cX9_touches 26 = .ok (.iload_n 2, 1) := op_28 lX9_touches (by decide +kernel)
theorem dX9_touches_27 : decode cX9_touches 27 = .ok (.if_icmp .ne 7, 3) := op_160 lX9_touches 0 7 (by decide +kernel)
theorem dX9_touches_30 : decode cX9_touches 30 = .ok (.iconst 1, 1) := op_4 lX9_touches (by decide +kernel)
theorem dX9_touches_31 : decode cX9_touches 31 = .ok (.goto 4, 3) := op_167 lX9_touches 0 4 (by decide +kernel)
theorem dX9_touches_34 : decode cX9_touches 34 = .ok (.iconst 0, 1) := op_3 lX9_touches (by decide +kernel)
theorem dX9_touches_35 : decode cX9_touches 35 = .ok (.ireturn, 1) := op_172 lX9_touches (by decide +kernel)
def nX9_onWay : Nat := 0xacfe100500a72e05150f00b42a0d00993800b603032aac020500a13200b42a05150c009b05151100a307103200b42a3500b504152a3200b564042f00b61d1c2b2a2c00b51c2a2800b52b2a
theorem lX9_onWay : cX9_onWay.data.toList = unp nX9_onWay 75 0 := by decide +kernel
theorem dX9_onWay_0 : decode cX9_onWay 0 = .ok (.aload_n 0, 1) := op_42 lX9_onWay (by decide +kernel)
theorem dX9_onWay_1 : decode cX9_onWay 1 = .ok (.aload_n 1, 1) := op_43 lX9_onWay (by decide +kernel)
theorem dX9_onWay_2 : decode cX9_onWay 2 = .ok (.putfield 40, 3) := op_181 lX9_onWay 0 40 (by decide +kernel)
theorem dX9_onWay_5 : decode cX9_onWay 5 = .ok (.aload_n 0, 1) := op_42 lX9_onWay (by decide +kernel)
theorem dX9_onWay_6 : decode cX9_onWay 6 = .ok (.iload_n 2, 1) := op_28 lX9_onWay (by decide +kernel)
theorem dX9_onWay_7 : decode cX9_onWay 7 = .ok (.putfield 44, 3) := op_181 lX9_onWay 0 44 (by decide +kernel)
theorem dX9_onWay_10 : decode cX9_onWay 10 = .ok (.aload_n 0, 1) := op_42 lX9_onWay (by decide +kernel)
theorem dX9_onWay_11 : decode cX9_onWay 11 = .ok (.aload_n 1, 1) := op_43 lX9_onWay (by decide +kernel)
theorem dX9_onWay_12 : decode cX9_onWay 12 = .ok (.iload_n 2, 1) := op_28 lX9_onWay (by decide +kernel)
theorem dX9_onWay_13 : decode cX9_onWay 13 = .ok (.iload_n 3, 1) := op_29 lX9_onWay (by decide +kernel)
theorem dX9_onWay_14 : decode cX9_onWay 14 = .ok (.invokevirtual 47, 3) := op_182 lX9_onWay 0 47 (by decide +kernel)
theorem dX9_onWay_17 : decode cX9_onWay 17 = .ok (.iconst 1, 1) := op_4 lX9_onWay (by decide +kernel)
theorem dX9_onWay_18 : decode cX9_onWay 18 = .ok (.isub, 1) := op_100 lX9_onWay (by decide +kernel)
theorem dX9_onWay_19 : decode cX9_onWay 19 = .ok (.putfield 50, 3) := op_181 lX9_onWay 0 50 (by decide +kernel)
theorem dX9_onWay_22 : decode cX9_onWay 22 = .ok (.aload_n 0, 1) := op_42 lX9_onWay (by decide +kernel)
theorem dX9_onWay_23 : decode cX9_onWay 23 = .ok (.iload 4, 2) := op_21 lX9_onWay (by decide +kernel)
theorem dX9_onWay_25 : decode cX9_onWay 25 = .ok (.putfield 53, 3) := op_181 lX9_onWay 0 53 (by decide +kernel)
theorem dX9_onWay_28 : decode cX9_onWay 28 = .ok (.aload_n 0, 1) := op_42 lX9_onWay (by decide +kernel)
theorem dX9_onWay_29 : decode cX9_onWay 29 = .ok (.getfield 50, 3) := op_180 lX9_onWay 0 50 (by decide +kernel)
theorem dX9_onWay_32 : decode cX9_onWay 32 = .ok (.bipush 7, 2) := op_16 lX9_onWay 7 (by decide +kernel)
theorem dX9_onWay_34 : decode cX9_onWay 34 = .ok (.if_icmp .gt 17, 3) := op_163 lX9_onWay 0 17 (by decide +kernel)
theorem dX9_onWay_37 : decode cX9_onWay 37 = .ok (.iload 5, 2) := op_21 lX9_onWay (by decide +kernel)
theorem dX9_onWay_39 : decode cX9_onWay 39 = .ok (.ifCond .lt 12, 3) := op_155 lX9_onWay 0 12 (by decide +kernel)
theorem dX9_onWay_42 : decode cX9_onWay 42 = .ok (.iload 5, 2) := op_21 lX9_onWay (by decide +kernel)
theorem dX9_onWay_44 : decode cX9_onWay 44 = .ok (.aload_n 0, 1) := op_42 lX9_onWay (by decide +kernel)
theorem dX9_onWay_45 : decode cX9_onWay 45 = .ok (.getfield 50, 3) := op_180 lX9_onWay 0 50 (by decide +kernel)
theorem dX9_onWay_48 : decode cX9_onWay 48 = .ok (.if_icmp .lt 5, 3) := op_161 lX9_onWay 0 5 (by decide +kernel)
theorem dX9_onWay_51 : decode cX9_onWay 51 = .ok (.iconst (-1), 1) := op_2 lX9_onWay (by decide +kernel)
theorem dX9_onWay_52 : decode cX9_onWay 52 = .ok (.ireturn, 1) := op_172 lX9_onWay (by decide +kernel)
theorem dX9_onWay_53 : decode cX9_onWay 53 = .ok (.aload_n 0, 1) := op_42 lX9_onWay (by decide +kernel)
theorem dX9_onWay_54 : decode cX9_onWay 54 = .ok (.iconst 0, 1) := op_3 lX9_onWay (by decide +kernel)
theorem dX9_onWay_55 : decode cX9_onWay 55 = .ok (.iconst 0, 1) := op_3 lX9_onWay (by decide +kernel)
theorem dX9_onWay_56 : decode cX9_onWay 56 = .ok (.invokevirtual 56, 3) := op_182 lX9_onWay 0 56 (by decide +kernel)
theorem dX9_onWay_59 : decode cX9_onWay 59 = .ok (.ifCond .eq 13, 3) := op_153 lX9_onWay 0 13 (by decide +kernel)
theorem dX9_onWay_62 : decode cX9_onWay 62 = .ok (.aload_n 0, 1) := op_42 lX9_onWay (by decide +kernel)
theorem dX9_onWay_63 : decode cX9_onWay 63 = .ok (.getfield 15, 3) := op_180 lX9_onWay 0 15 (by decide +kernel)
theorem dX9_onWay_66 : decode cX9_onWay 66 = .ok (.iload 5, 2) := op_21 lX9_onWay (by decide +kernel)
theorem dX9_onWay_68 : decode cX9_onWay 68 = .ok (.iaload, 1) := op_46 lX9_onWay (by decide +kernel)
theorem dX9_onWay_69 : decode cX9_onWay 69 = .ok (.goto 5, 3) := op_167 lX9_onWay 0 5 (by decide +kernel)
theorem dX9_onWay_72 : decode cX9_onWay 72 = .ok (.bipush (-2), 2) := op_16 lX9_onWay 254 (by decide +kernel)
theorem dX9_onWay_74 : decode cX9_onWay 74 = .ok (.ireturn, 1) := op_172 lX9_onWay (by decide +kernel)
def nX9_choose : Nat := 0xac03c7ffa7010484ac040500993800b680780415041c60041b2a4f04151b0f00b42a1d00993c00b61d04152a27009a7e047a04151c3600a21200b42a04150436033e641600b62800b42a1d0d00a11600b62800b42a1d3e601b60042c00b42aac030400a70407009c3500b42a3500b564043500b4592a1a00a107101b0900a23200b42a1b
theorem lX9_choose : cX9_choose.data.toList = unp nX9_choose 132 0 := by decide +kernel
theorem dX9_choose_0 : decode cX9_choose 0 = .ok (.iload_n 1, 1) := op_27 lX9_choose (by decide +kernel)
theorem dX9_choose_1 : decode cX9_choose 1 = .ok (.aload_n 0, 1) := op_42 lX9_choose (by decide +kernel)
theorem dX9_choose_2 : decode cX9_choose 2 = .ok (.getfield 50, 3) := op_180 lX9_choose 0 50 (by decide +kernel)
theorem dX9_choose_5 : decode cX9_choose 5 = .ok (.if_icmp .ge 9, 3) := op_162 lX9_choose 0 9 (by decide +kernel)
theorem dX9_choose_8 : decode cX9_choose 8 = .ok (.iload_n 1, 1) := op_27 lX9_choose (by decide +kernel)
theorem dX9_choose_9 : decode cX9_choose 9 = .ok (.bipush 7, 2) := op_16 lX9_choose 7 (by decide +kernel)
theorem dX9_choose_11 : decode cX9_choose 11 = .ok (.if_icmp .lt 26, 3) := op_161 lX9_choose 0 26 (by decide +kernel)
theorem dX9_choose_14 : decode cX9_choose 14 = .ok (.aload_n 0, 1) := op_42 lX9_choose (by decide +kernel)
theorem dX9_choose_15 : decode cX9_choose 15 = .ok (.dup, 1) := op_89 lX9_choose (by decide +kernel)
theorem dX9_choose_16 : decode cX9_choose 16 = .ok (.getfield 53, 3) := op_180 lX9_choose 0 53 (by decide +kernel)
theorem dX9_choose_19 : decode cX9_choose 19 = .ok (.iconst 1, 1) := op_4 lX9_choose (by decide +kernel)
theorem dX9_choose_20 : decode cX9_choose 20 = .ok (.isub, 1) := op_100 lX9_choose (by decide +kernel)
theorem dX9_choose_21 : decode cX9_choose 21 = .ok (.putfield 53, 3) := op_181 lX9_choose 0 53 (by decide +kernel)
theorem dX9_choose_24 : decode cX9_choose 24 = .ok (.aload_n 0, 1) := op_42 lX9_choose (by decide +kernel)
theorem dX9_choose_25 : decode cX9_choose 25 = .ok (.getfield 53, 3) := op_180 lX9_choose 0 53 (by decide +kernel)
theorem dX9_choose_28 : decode cX9_choose 28 = .ok (.ifCond .ge 7, 3) := op_156 lX9_choose 0 7 (by decide +kernel)
theorem dX9_choose_31 : decode cX9_choose 31 = .ok (.iconst 1, 1) := op_4 lX9_choose (by decide +kernel)
theorem dX9_choose_32 : decode cX9_choose 32 = .ok (.goto 4, 3) := op_167 lX9_choose 0 4 (by decide +kernel)
theorem dX9_choose_35 : decode cX9_choose 35 = .ok (.iconst 0, 1) := op_3 lX9_choose (by decide +kernel)
theorem dX9_choose_36 : decode cX9_choose 36 = .ok (.ireturn, 1) := op_172 lX9_choose (by decide +kernel)
theorem dX9_choose_37 : decode cX9_choose 37 = .ok (.aload_n 0, 1) := op_42 lX9_choose (by decide +kernel)
theorem dX9_choose_38 : decode cX9_choose 38 = .ok (.getfield 44, 3) := op_180 lX9_choose 0 44 (by decide +kernel)
theorem dX9_choose_41 : decode cX9_choose 41 = .ok (.iconst 1, 1) := op_4 lX9_choose (by decide +kernel)
theorem dX9_choose_42 : decode cX9_choose 42 = .ok (.iadd, 1) := op_96 lX9_choose (by decide +kernel)
theorem dX9_choose_43 : decode cX9_choose 43 = .ok (.iload_n 1, 1) := op_27 lX9_choose (by decide +kernel)
theorem dX9_choose_44 : decode cX9_choose 44 = .ok (.iadd, 1) := op_96 lX9_choose (by decide +kernel)
theorem dX9_choose_45 : decode cX9_choose 45 = .ok (.istore_n 3, 1) := op_62 lX9_choose (by decide +kernel)
theorem dX9_choose_46 : decode cX9_choose 46 = .ok (.iload_n 3, 1) := op_29 lX9_choose (by decide +kernel)
theorem dX9_choose_47 : decode cX9_choose 47 = .ok (.aload_n 0, 1) := op_42 lX9_choose (by decide +kernel)
theorem dX9_choose_48 : decode cX9_choose 48 = .ok (.getfield 40, 3) := op_180 lX9_choose 0 40 (by decide +kernel)
theorem dX9_choose_51 : decode cX9_choose 51 = .ok (.invokevirtual 22, 3) := op_182 lX9_choose 0 22 (by decide +kernel)
theorem dX9_choose_54 : decode cX9_choose 54 = .ok (.if_icmp .lt 13, 3) := op_161 lX9_choose 0 13 (by decide +kernel)
theorem dX9_choose_57 : decode cX9_choose 57 = .ok (.iload_n 3, 1) := op_29 lX9_choose (by decide +kernel)
theorem dX9_choose_58 : decode cX9_choose 58 = .ok (.aload_n 0, 1) := op_42 lX9_choose (by decide +kernel)
theorem dX9_choose_59 : decode cX9_choose 59 = .ok (.getfield 40, 3) := op_180 lX9_choose 0 40 (by decide +kernel)
theorem dX9_choose_62 : decode cX9_choose 62 = .ok (.invokevirtual 22, 3) := op_182 lX9_choose 0 22 (by decide +kernel)
theorem dX9_choose_65 : decode cX9_choose 65 = .ok (.isub, 1) := op_100 lX9_choose (by decide +kernel)
theorem dX9_choose_66 : decode cX9_choose 66 = .ok (.istore_n 3, 1) := op_62 lX9_choose (by decide +kernel)
theorem dX9_choose_67 : decode cX9_choose 67 = .ok (.iconst 0, 1) := op_3 lX9_choose (by decide +kernel)
theorem dX9_choose_68 : decode cX9_choose 68 = .ok (.istore 4, 2) := op_54 lX9_choose (by decide +kernel)
theorem dX9_choose_70 : decode cX9_choose 70 = .ok (.iload 4, 2) := op_21 lX9_choose (by decide +kernel)
theorem dX9_choose_72 : decode cX9_choose 72 = .ok (.aload_n 0, 1) := op_42 lX9_choose (by decide +kernel)
theorem dX9_choose_73 : decode cX9_choose 73 = .ok (.getfield 18, 3) := op_180 lX9_choose 0 18 (by decide +kernel)
theorem dX9_choose_76 : decode cX9_choose 76 = .ok (.if_icmp .ge 54, 3) := op_162 lX9_choose 0 54 (by decide +kernel)
theorem dX9_choose_79 : decode cX9_choose 79 = .ok (.iload_n 2, 1) := op_28 lX9_choose (by decide +kernel)
theorem dX9_choose_80 : decode cX9_choose 80 = .ok (.iload 4, 2) := op_21 lX9_choose (by decide +kernel)
theorem dX9_choose_82 : decode cX9_choose 82 = .ok (.ishr, 1) := op_122 lX9_choose (by decide +kernel)
theorem dX9_choose_83 : decode cX9_choose 83 = .ok (.iconst 1, 1) := op_4 lX9_choose (by decide +kernel)
theorem dX9_choose_84 : decode cX9_choose 84 = .ok (.iand, 1) := op_126 lX9_choose (by decide +kernel)
theorem dX9_choose_85 : decode cX9_choose 85 = .ok (.ifCond .ne 39, 3) := op_154 lX9_choose 0 39 (by decide +kernel)
theorem dX9_choose_88 : decode cX9_choose 88 = .ok (.aload_n 0, 1) := op_42 lX9_choose (by decide +kernel)
theorem dX9_choose_89 : decode cX9_choose 89 = .ok (.iload 4, 2) := op_21 lX9_choose (by decide +kernel)
theorem dX9_choose_91 : decode cX9_choose 91 = .ok (.iload_n 3, 1) := op_29 lX9_choose (by decide +kernel)
theorem dX9_choose_92 : decode cX9_choose 92 = .ok (.invokevirtual 60, 3) := op_182 lX9_choose 0 60 (by decide +kernel)
theorem dX9_choose_95 : decode cX9_choose 95 = .ok (.ifCond .eq 29, 3) := op_153 lX9_choose 0 29 (by decide +kernel)
theorem dX9_choose_98 : decode cX9_choose 98 = .ok (.aload_n 0, 1) := op_42 lX9_choose (by decide +kernel)
theorem dX9_choose_99 : decode cX9_choose 99 = .ok (.getfield 15, 3) := op_180 lX9_choose 0 15 (by decide +kernel)
theorem dX9_choose_102 : decode cX9_choose 102 = .ok (.iload_n 1, 1) := op_27 lX9_choose (by decide +kernel)
theorem dX9_choose_103 : decode cX9_choose 103 = .ok (.iload 4, 2) := op_21 lX9_choose (by decide +kernel)
theorem dX9_choose_105 : decode cX9_choose 105 = .ok (.iastore, 1) := op_79 lX9_choose (by decide +kernel)
theorem dX9_choose_106 : decode cX9_choose 106 = .ok (.aload_n 0, 1) := op_42 lX9_choose (by decide +kernel)
theorem dX9_choose_107 : decode cX9_choose 107 = .ok (.iload_n 1, 1) := op_27 lX9_choose (by decide +kernel)
theorem dX9_choose_108 : decode cX9_choose 108 = .ok (.iconst 1, 1) := op_4 lX9_choose (by decide +kernel)
theorem dX9_choose_109 : decode cX9_choose 109 = .ok (.iadd, 1) := op_96 lX9_choose (by decide +kernel)
theorem dX9_choose_110 : decode cX9_choose 110 = .ok (.iload_n 2, 1) := op_28 lX9_choose (by decide +kernel)
theorem dX9_choose_111 : decode cX9_choose 111 = .ok (.iconst 1, 1) := op_4 lX9_choose (by decide +kernel)
theorem dX9_choose_112 : decode cX9_choose 112 = .ok (.iload 4, 2) := op_21 lX9_choose (by decide +kernel)
theorem dX9_choose_114 : decode cX9_choose 114 = .ok (.ishl, 1) := op_120 lX9_choose (by decide +kernel)
theorem dX9_choose_115 : decode cX9_choose 115 = .ok (.ior, 1) := op_128 lX9_choose (by decide +kernel)
theorem dX9_choose_116 : decode cX9_choose 116 = .ok (.invokevirtual 56, 3) := op_182 lX9_choose 0 56 (by decide +kernel)
theorem dX9_choose_119 : decode cX9_choose 119 = .ok (.ifCond .eq 5, 3) := op_153 lX9_choose 0 5 (by decide +kernel)
theorem dX9_choose_122 : decode cX9_choose 122 = .ok (.iconst 1, 1) := op_4 lX9_choose (by decide +kernel)
theorem dX9_choose_123 : decode cX9_choose 123 = .ok (.ireturn, 1) := op_172 lX9_choose (by decide +kernel)
theorem dX9_choose_124 : decode cX9_choose 124 = .ok (.iinc 4 1, 3) := op_132 lX9_choose 1 (by decide +kernel)
theorem dX9_choose_127 : decode cX9_choose 127 = .ok (.goto (-57), 3) := op_167 lX9_choose 255 199 (by decide +kernel)
theorem dX9_choose_130 : decode cX9_choose 130 = .ok (.iconst 0, 1) := op_3 lX9_choose (by decide +kernel)
theorem dX9_choose_131 : decode cX9_choose 131 = .ok (.ireturn, 1) := op_172 lX9_choose (by decide +kernel)
end

section
def nX10_init : Nat := 0xb15e00b55800b6035400b42a2a5400b55000b6071300b42a2a4c00b5022a4800b50abc0a102a4400b54300b7594100bb2a3d00b53c00b7593a00bb2a3600b53500b7593300bb2a2f00b52e00b7592c00bb2a2800b52700b7592500bb2a2100b52000b7591e00bb2a1a00b51900b7591700bb2a1300b51200b7591000bb2a0a00b50900b7590700bb2a0100b72a
theorem lX10_init : cX10_init.data.toList = unp nX10_init 141 0 := by decide +kernel
theorem dX10_init_0 : decode cX10_init 0 = .ok (.aload_n 0, 1) := op_42 lX10_init (by decide +kernel)
theorem dX10_init_1 : decode cX10_init 1 = .ok (.invokespecial 1, 3) := op_183 lX10_init 0 1 (by decide +kernel)
theorem dX10_init_4 : decode cX10_init 4 = .ok (.aload_n 0, 1) := op_42 lX10_init (by decide +kernel)
theorem dX10_init_5 : decode cX10_init 5 = .ok (.new 7, 3) := op_187 lX10_init 0 7 (by decide +kernel)
theorem dX10_init_8 : decode cX10_init 8 = .ok (.dup, 1) := op_89 lX10_init (by decide +kernel)
theorem dX10_init_9 : decode cX10_init 9 = .ok (.invokespecial 9, 3) := op_183 lX10_init 0 9 (by decide +kernel)
theorem dX10_init_12 : decode cX10_init 12 = .ok (.putfield 10, 3) := op_181 lX10_init 0 10 (by decide +kernel)
theorem dX10_init_15 : decode cX10_init 15 = .ok (.aload_n 0, 1) := op_42 lX10_init (by decide +kernel)
theorem dX10_init_16 : decode cX10_init 16 = .ok (.new 16, 3) := op_187 lX10_init 0 16 (by decide +kernel)
theorem dX10_init_19 : decode cX10_init 19 = .ok (.dup, 1) := op_89 lX10_init (by decide +kernel)
theorem dX10_init_20 : decode cX10_init 20 = .ok (.invokespecial 18, 3) := op_183 lX10_init 0 18 (by decide +kernel)
theorem dX10_init_23 : decode cX10_init 23 = .ok (.putfield 19, 3) := op_181 lX10_init 0 19 (by decide +kernel)
theorem dX10_init_26 : decode cX10_init 26 = .ok (.aload_n 0, 1) := op_42 lX10_init (by decide +kernel)
theorem dX10_init_27 : decode cX10_init 27 = .ok (.new 23, 3) := op_187 lX10_init 0 23 (by decide +kernel)
theorem dX10_init_30 : decode cX10_init 30 = .ok (.dup, 1) := op_89 lX10_init (by decide +kernel)
theorem dX10_init_31 : decode cX10_init 31 = .ok (.invokespecial 25, 3) := op_183 lX10_init 0 25 (by decide +kernel)
theorem dX10_init_34 : decode cX10_init 34 = .ok (.putfield 26, 3) := op_181 lX10_init 0 26 (by decide +kernel)
theorem dX10_init_37 : decode cX10_init 37 = .ok (.aload_n 0, 1) := op_42 lX10_init (by decide +kernel)
theorem dX10_init_38 : decode cX10_init 38 = .ok (.new 30, 3) := op_187 lX10_init 0 30 (by decide +kernel)
theorem dX10_init_41 : decode cX10_init 41 = .ok (.dup, 1) := op_89 lX10_init (by decide +kernel)
theorem dX10_init_42 : decode cX10_init 42 = .ok (.invokespecial 32, 3) := op_183 lX10_init 0 32 (by decide +kernel)
theorem dX10_init_45 : decode cX10_init 45 = .ok (.putfield 33, 3) := op_181 lX10_init 0 33 (by decide +kernel)
theorem dX10_init_48 : decode cX10_init 48 = .ok (.aload_n 0, 1) := op_42 lX10_init (by decide +kernel)
theorem dX10_init_49 : decode cX10_init 49 = .ok (.new 37, 3) := op_187 lX10_init 0 37 (by decide +kernel)
theorem dX10_init_52 : decode cX10_init 52 = .ok (.dup, 1) := op_89 lX10_init (by decide +kernel)
theorem dX10_init_53 : decode cX10_init 53 = .ok (.invokespecial 39, 3) := op_183 lX10_init 0 39 (by decide +kernel)
theorem dX10_init_56 : decode cX10_init 56 = .ok (.putfield 40, 3) := op_181 lX10_init 0 40 (by decide +kernel)
theorem dX10_init_59 : decode cX10_init 59 = .ok (.aload_n 0, 1) := op_42 lX10_init (by decide +kernel)
theorem dX10_init_60 : decode cX10_init 60 = .ok (.new 44, 3) := op_187 lX10_init 0 44 (by decide +kernel)
theorem dX10_init_63 : decode cX10_init 63 = .ok (.dup, 1) := op_89 lX10_init (by decide +kernel)
theorem dX10_init_64 : decode cX10_init 64 = .ok (.invokespecial 46, 3) := op_183 lX10_init 0 46 (by decide +kernel)
theorem dX10_init_67 : decode cX10_init 67 = .ok (.putfield 47, 3) := op_181 lX10_init 0 47 (by decide +kernel)
theorem dX10_init_70 : decode cX10_init 70 = .ok (.aload_n 0, 1) := op_42 lX10_init (by decide +kernel)
theorem dX10_init_71 : decode cX10_init 71 = .ok (.new 51, 3) := op_187 lX10_init 0 51 (by decide +kernel)
theorem dX10_init_74 : decode cX10_init 74 = .ok (.dup, 1) := op_89 lX10_init (by decide +kernel)
theorem dX10_init_75 : decode cX10_init 75 = .ok (.invokespecial 53, 3) := op_183 lX10_init 0 53 (by decide +kernel)
theorem dX10_init_78 : decode cX10_init 78 = .ok (.putfield 54, 3) := op_181 lX10_init 0 54 (by decide +kernel)
theorem dX10_init_81 : decode cX10_init 81 = .ok (.aload_n 0, 1) := op_42 lX10_init (by decide +kernel)
theorem dX10_init_82 : decode cX10_init 82 = .ok (.new 58, 3) := op_187 lX10_init 0 58 (by decide +kernel)
theorem dX10_init_85 : decode cX10_init 85 = .ok (.dup, 1) := op_89 lX10_init (by decide +kernel)
theorem dX10_init_86 : decode cX10_init 86 = .ok (.invokespecial 60, 3) := op_183 lX10_init 0 60 (by decide +kernel)
theorem dX10_init_89 : decode cX10_init 89 = .ok (.putfield 61, 3) := op_181 lX10_init 0 61 (by decide +kernel)
theorem dX10_init_92 : decode cX10_init 92 = .ok (.aload_n 0, 1) := op_42 lX10_init (by decide +kernel)
theorem dX10_init_93 : decode cX10_init 93 = .ok (.new 65, 3) := op_187 lX10_init 0 65 (by decide +kernel)
theorem dX10_init_96 : decode cX10_init 96 = .ok (.dup, 1) := op_89 lX10_init (by decide +kernel)
theorem dX10_init_97 : decode cX10_init 97 = .ok (.invokespecial 67, 3) := op_183 lX10_init 0 67 (by decide +kernel)
theorem dX10_init_100 : decode cX10_init 100 = .ok (.putfield 68, 3) := op_181 lX10_init 0 68 (by decide +kernel)
theorem dX10_init_103 : decode cX10_init 103 = .ok (.aload_n 0, 1) := op_42 lX10_init (by decide +kernel)
theorem dX10_init_104 : decode cX10_init 104 = .ok (.bipush 10, 2) := op_16 lX10_init 10 (by decide +kernel)
theorem dX10_init_106 : decode cX10_init 106 = .ok (.newarray .int, 2) := by decide +kernel
theorem dX10_init_108 : decode cX10_init 108 = .ok (.putfield 72, 3) := op_181 lX10_init 0 72 (by decide +kernel)
theorem dX10_init_111 : decode cX10_init 111 = .ok (.aload_n 0, 1) := op_42 lX10_init (by decide +kernel)
theorem dX10_init_112 : decode cX10_init 112 = .ok (.iconst (-1), 1) := op_2 lX10_init (by decide +kernel)
theorem dX10_init_113 : decode cX10_init 113 = .ok (.putfield 76, 3) := op_181 lX10_init 0 76 (by decide +kernel)
theorem dX10_init_116 : decode cX10_init 116 = .ok (.aload_n 0, 1) := op_42 lX10_init (by decide +kernel)
theorem dX10_init_117 : decode cX10_init 117 = .ok (.aload_n 0, 1) := op_42 lX10_init (by decide +kernel)
theorem dX10_init_118 : decode cX10_init 118 = .ok (.getfield 19, 3) := op_180 lX10_init 0 19 (by decide +kernel)
theorem dX10_init_121 : decode cX10_init 121 = .ok (.iconst 4, 1) := op_7 lX10_init (by decide +kernel)
theorem dX10_init_122 : decode cX10_init 122 = .ok (.invokevirtual 80, 3) := op_182 lX10_init 0 80 (by decide +kernel)
theorem dX10_init_125 : decode cX10_init 125 = .ok (.putfield 84, 3) := op_181 lX10_init 0 84 (by decide +kernel)
theorem dX10_init_128 : decode cX10_init 128 = .ok (.aload_n 0, 1) := op_42 lX10_init (by decide +kernel)
theorem dX10_init_129 : decode cX10_init 129 = .ok (.aload_n 0, 1) := op_42 lX10_init (by decide +kernel)
theorem dX10_init_130 : decode cX10_init 130 = .ok (.getfield 84, 3) := op_180 lX10_init 0 84 (by decide +kernel)
theorem dX10_init_133 : decode cX10_init 133 = .ok (.iconst 0, 1) := op_3 lX10_init (by decide +kernel)
theorem dX10_init_134 : decode cX10_init 134 = .ok (.invokevirtual 88, 3) := op_182 lX10_init 0 88 (by decide +kernel)
theorem dX10_init_137 : decode cX10_init 137 = .ok (.putfield 94, 3) := op_181 lX10_init 0 94 (by decide +kernel)
theorem dX10_init_140 : decode cX10_init 140 = .ok (.return_, 1) := op_177 lX10_init (by decide +kernel)
def nX10_feed : Nat := 0xac6900b60a00b42a6500b605150a00b42a6500b604150a00b42a6500b61d0a00b42a6500b61c0a00b42a6500b61b0a00b42aacfd1006009a6100b60a00b42a
theorem lX10_feed : cX10_feed.data.toList = unp nX10_feed 63 0 := by decide +kernel
theorem dX10_feed_0 : decode cX10_feed 0 = .ok (.aload_n 0, 1) := op_42 lX10_feed (by decide +kernel)
theorem dX10_feed_1 : decode cX10_feed 1 = .ok (.getfield 10, 3) := op_180 lX10_feed 0 10 (by decide +kernel)
theorem dX10_feed_4 : decode cX10_feed 4 = .ok (.invokevirtual 97, 3) := op_182 lX10_feed 0 97 (by decide +kernel)
theorem dX10_feed_7 : decode cX10_feed 7 = .ok (.ifCond .ne 6, 3) := op_154 lX10_feed 0 6 (by decide +kernel)
theorem dX10_feed_10 : decode cX10_feed 10 = .ok (.bipush (-3), 2) := op_16 lX10_feed 253 (by decide +kernel)
theorem dX10_feed_12 : decode cX10_feed 12 = .ok (.ireturn, 1) := op_172 lX10_feed (by decide +kernel)
theorem dX10_feed_13 : decode cX10_feed 13 = .ok (.aload_n 0, 1) := op_42 lX10_feed (by decide +kernel)
theorem dX10_feed_14 : decode cX10_feed 14 = .ok (.getfield 10, 3) := op_180 lX10_feed 0 10 (by decide +kernel)
theorem dX10_feed_17 : decode cX10_feed 17 = .ok (.iload_n 1, 1) := op_27 lX10_feed (by decide +kernel)
theorem dX10_feed_18 : decode cX10_feed 18 = .ok (.invokevirtual 101, 3) := op_182 lX10_feed 0 101 (by decide +kernel)
theorem dX10_feed_21 : decode cX10_feed 21 = .ok (.aload_n 0, 1) := op_42 lX10_feed (by decide +kernel)
theorem dX10_feed_22 : decode cX10_feed 22 = .ok (.getfield 10, 3) := op_180 lX10_feed 0 10 (by decide +kernel)
theorem dX10_feed_25 : decode cX10_feed 25 = .ok (.iload_n 2, 1) := op_28 lX10_feed (by decide +kernel)
theorem dX10_feed_26 : decode cX10_feed 26 = .ok (.invokevirtual 101, 3) := op_182 lX10_feed 0 101 (by decide +kernel)
theorem dX10_feed_29 : decode cX10_feed 29 = .ok (.aload_n 0, 1) := op_42 lX10_feed (by decide +kernel)
theorem dX10_feed_30 : decode cX10_feed 30 = .ok (.getfield 10, 3) := op_180 lX10_feed 0 10 (by decide +kernel)
theorem dX10_feed_33 : decode cX10_feed 33 = .ok (.iload_n 3, 1) := op_29 lX10_feed (by decide +kernel)
theorem dX10_feed_34 : decode cX10_feed 34 = .ok (.invokevirtual 101, 3) := op_182 lX10_feed 0 101 (by decide +kernel)
theorem dX10_feed_37 : decode cX10_feed 37 = .ok (.aload_n 0, 1) := op_42 lX10_feed (by decide +kernel)
theorem dX10_feed_38 : decode cX10_feed 38 = .ok (.getfield 10, 3) := op_180 lX10_feed 0 10 (by decide +kernel)
theorem dX10_feed_41 : decode cX10_feed 41 = .ok (.iload 4, 2) := op_21 lX10_feed (by decide +kernel)
theorem dX10_feed_43 : decode cX10_feed 43 = .ok (.invokevirtual 101, 3) := op_182 lX10_feed 0 101 (by decide +kernel)
theorem dX10_feed_46 : decode cX10_feed 46 = .ok (.aload_n 0, 1) := op_42 lX10_feed (by decide +kernel)
theorem dX10_feed_47 : decode cX10_feed 47 = .ok (.getfield 10, 3) := op_180 lX10_feed 0 10 (by decide +kernel)
theorem dX10_feed_50 : decode cX10_feed 50 = .ok (.iload 5, 2) := op_21 lX10_feed (by decide +kernel)
theorem dX10_feed_52 : decode cX10_feed 52 = .ok (.invokevirtual 101, 3) := op_182 lX10_feed 0 101 (by decide +kernel)
theorem dX10_feed_55 : decode cX10_feed 55 = .ok (.aload_n 0, 1) := op_42 lX10_feed (by decide +kernel)
theorem dX10_feed_56 : decode cX10_feed 56 = .ok (.getfield 10, 3) := op_180 lX10_feed 0 10 (by decide +kernel)
theorem dX10_feed_59 : decode cX10_feed 59 = .ok (.invokevirtual 105, 3) := op_182 lX10_feed 0 105 (by decide +kernel)
theorem dX10_feed_62 : decode cX10_feed 62 = .ok (.ireturn, 1) := op_172 lX10_feed (by decide +kernel)
def nX10_end : Nat := 0xac1b6d00b61b0a00b42aac020500a46900b60a00b42a1b0e009b1b
theorem lX10_end : cX10_end.data.toList = unp nX10_end 27 0 := by decide +kernel
theorem dX10_end_0 : decode cX10_end 0 = .ok (.iload_n 1, 1) := op_27 lX10_end (by decide +kernel)
theorem dX10_end_1 : decode cX10_end 1 = .ok (.ifCond .lt 14, 3) := op_155 lX10_end 0 14 (by decide +kernel)
theorem dX10_end_4 : decode cX10_end 4 = .ok (.iload_n 1, 1) := op_27 lX10_end (by decide +kernel)
theorem dX10_end_5 : decode cX10_end 5 = .ok (.aload_n 0, 1) := op_42 lX10_end (by decide +kernel)
theorem dX10_end_6 : decode cX10_end 6 = .ok (.getfield 10, 3) := op_180 lX10_end 0 10 (by decide +kernel)
theorem dX10_end_9 : decode cX10_end 9 = .ok (.invokevirtual 105, 3) := op_182 lX10_end 0 105 (by decide +kernel)
theorem dX10_end_12 : decode cX10_end 12 = .ok (.if_icmp .le 5, 3) := op_164 lX10_end 0 5 (by decide +kernel)
theorem dX10_end_15 : decode cX10_end 15 = .ok (.iconst (-1), 1) := op_2 lX10_end (by decide +kernel)
theorem dX10_end_16 : decode cX10_end 16 = .ok (.ireturn, 1) := op_172 lX10_end (by decide +kernel)
theorem dX10_end_17 : decode cX10_end 17 = .ok (.aload_n 0, 1) := op_42 lX10_end (by decide +kernel)
theorem dX10_end_18 : decode cX10_end 18 = .ok (.getfield 10, 3) := op_180 lX10_end 0 10 (by decide +kernel)
theorem dX10_end_21 : decode cX10_end 21 = .ok (.iload_n 1, 1) := op_27 lX10_end (by decide +kernel)
theorem dX10_end_22 : decode cX10_end 22 = .ok (.invokevirtual 109, 3) := op_182 lX10_end 0 109 (by decide +kernel)
theorem dX10_end_25 : decode cX10_end 25 = .ok (.iload_n 1, 1) := op_27 lX10_end (by decide +kernel)
theorem dX10_end_26 : decode cX10_end 26 = .ok (.ireturn, 1) := op_172 lX10_end (by decide +kernel)
def nX10_cut : Nat := 0xac7d00b65e00b42a5400b42a7900b67700b61a00b42a7400b61a00b42a2aac0205009a1b6d00b6030a00b42a3c7000b61300b42a0a00b42a1a00b42a
theorem lX10_cut : cX10_cut.data.toList = unp nX10_cut 60 0 := by decide +kernel
theorem dX10_cut_0 : decode cX10_cut 0 = .ok (.aload_n 0, 1) := op_42 lX10_cut (by decide +kernel)
theorem dX10_cut_1 : decode cX10_cut 1 = .ok (.getfield 26, 3) := op_180 lX10_cut 0 26 (by decide +kernel)
theorem dX10_cut_4 : decode cX10_cut 4 = .ok (.aload_n 0, 1) := op_42 lX10_cut (by decide +kernel)
theorem dX10_cut_5 : decode cX10_cut 5 = .ok (.getfield 10, 3) := op_180 lX10_cut 0 10 (by decide +kernel)
theorem dX10_cut_8 : decode cX10_cut 8 = .ok (.aload_n 0, 1) := op_42 lX10_cut (by decide +kernel)
theorem dX10_cut_9 : decode cX10_cut 9 = .ok (.getfield 19, 3) := op_180 lX10_cut 0 19 (by decide +kernel)
theorem dX10_cut_12 : decode cX10_cut 12 = .ok (.invokevirtual 112, 3) := op_182 lX10_cut 0 112 (by decide +kernel)
theorem dX10_cut_15 : decode cX10_cut 15 = .ok (.istore_n 1, 1) := op_60 lX10_cut (by decide +kernel)
theorem dX10_cut_16 : decode cX10_cut 16 = .ok (.aload_n 0, 1) := op_42 lX10_cut (by decide +kernel)
theorem dX10_cut_17 : decode cX10_cut 17 = .ok (.getfield 10, 3) := op_180 lX10_cut 0 10 (by decide +kernel)
theorem dX10_cut_20 : decode cX10_cut 20 = .ok (.iconst 0, 1) := op_3 lX10_cut (by decide +kernel)
theorem dX10_cut_21 : decode cX10_cut 21 = .ok (.invokevirtual 109, 3) := op_182 lX10_cut 0 109 (by decide +kernel)
theorem dX10_cut_24 : decode cX10_cut 24 = .ok (.iload_n 1, 1) := op_27 lX10_cut (by decide +kernel)
theorem dX10_cut_25 : decode cX10_cut 25 = .ok (.ifCond .ne 5, 3) := op_154 lX10_cut 0 5 (by decide +kernel)
theorem dX10_cut_28 : decode cX10_cut 28 = .ok (.iconst (-1), 1) := op_2 lX10_cut (by decide +kernel)
theorem dX10_cut_29 : decode cX10_cut 29 = .ok (.ireturn, 1) := op_172 lX10_cut (by decide +kernel)
theorem dX10_cut_30 : decode cX10_cut 30 = .ok (.aload_n 0, 1) := op_42 lX10_cut (by decide +kernel)
theorem dX10_cut_31 : decode cX10_cut 31 = .ok (.aload_n 0, 1) := op_42 lX10_cut (by decide +kernel)
theorem dX10_cut_32 : decode cX10_cut 32 = .ok (.getfield 26, 3) := op_180 lX10_cut 0 26 (by decide +kernel)
theorem dX10_cut_35 : decode cX10_cut 35 = .ok (.invokevirtual 116, 3) := op_182 lX10_cut 0 116 (by decide +kernel)
theorem dX10_cut_38 : decode cX10_cut 38 = .ok (.aload_n 0, 1) := op_42 lX10_cut (by decide +kernel)
theorem dX10_cut_39 : decode cX10_cut 39 = .ok (.getfield 26, 3) := op_180 lX10_cut 0 26 (by decide +kernel)
theorem dX10_cut_42 : decode cX10_cut 42 = .ok (.invokevirtual 119, 3) := op_182 lX10_cut 0 119 (by decide +kernel)
theorem dX10_cut_45 : decode cX10_cut 45 = .ok (.invokevirtual 121, 3) := op_182 lX10_cut 0 121 (by decide +kernel)
theorem dX10_cut_48 : decode cX10_cut 48 = .ok (.aload_n 0, 1) := op_42 lX10_cut (by decide +kernel)
theorem dX10_cut_49 : decode cX10_cut 49 = .ok (.getfield 84, 3) := op_180 lX10_cut 0 84 (by decide +kernel)
theorem dX10_cut_52 : decode cX10_cut 52 = .ok (.aload_n 0, 1) := op_42 lX10_cut (by decide +kernel)
theorem dX10_cut_53 : decode cX10_cut 53 = .ok (.getfield 94, 3) := op_180 lX10_cut 0 94 (by decide +kernel)
theorem dX10_cut_56 : decode cX10_cut 56 = .ok (.invokevirtual 125, 3) := op_182 lX10_cut 0 125 (by decide +kernel)
theorem dX10_cut_59 : decode cX10_cut 59 = .ok (.ireturn, 1) := op_172 lX10_cut (by decide +kernel)
def nX10_fault : Nat := 0xac020400a78300b61a00b42a0d00a0041b1300a78000b61a00b42a0d009a1b
theorem lX10_fault : cX10_fault.data.toList = unp nX10_fault 31 0 := by decide +kernel
theorem dX10_fault_0 : decode cX10_fault 0 = .ok (.iload_n 1, 1) := op_27 lX10_fault (by decide +kernel)
theorem dX10_fault_1 : decode cX10_fault 1 = .ok (.ifCond .ne 13, 3) := op_154 lX10_fault 0 13 (by decide +kernel)
theorem dX10_fault_4 : decode cX10_fault 4 = .ok (.aload_n 0, 1) := op_42 lX10_fault (by decide +kernel)
theorem dX10_fault_5 : decode cX10_fault 5 = .ok (.getfield 26, 3) := op_180 lX10_fault 0 26 (by decide +kernel)
theorem dX10_fault_8 : decode cX10_fault 8 = .ok (.invokevirtual 128, 3) := op_182 lX10_fault 0 128 (by decide +kernel)
theorem dX10_fault_11 : decode cX10_fault 11 = .ok (.goto 19, 3) := op_167 lX10_fault 0 19 (by decide +kernel)
theorem dX10_fault_14 : decode cX10_fault 14 = .ok (.iload_n 1, 1) := op_27 lX10_fault (by decide +kernel)
theorem dX10_fault_15 : decode cX10_fault 15 = .ok (.iconst 1, 1) := op_4 lX10_fault (by decide +kernel)
theorem dX10_fault_16 : decode cX10_fault 16 = .ok (.if_icmp .ne 13, 3) := op_160 lX10_fault 0 13 (by decide +kernel)
theorem dX10_fault_19 : decode cX10_fault 19 = .ok (.aload_n 0, 1) := op_42 lX10_fault (by decide +kernel)
theorem dX10_fault_20 : decode cX10_fault 20 = .ok (.getfield 26, 3) := op_180 lX10_fault 0 26 (by decide +kernel)
theorem dX10_fault_23 : decode cX10_fault 23 = .ok (.invokevirtual 131, 3) := op_182 lX10_fault 0 131 (by decide +kernel)
theorem dX10_fault_26 : decode cX10_fault 26 = .ok (.goto 4, 3) := op_167 lX10_fault 0 4 (by decide +kernel)
theorem dX10_fault_29 : decode cX10_fault 29 = .ok (.iconst (-1), 1) := op_2 lX10_fault (by decide +kernel)
theorem dX10_fault_30 : decode cX10_fault 30 = .ok (.ireturn, 1) := op_172 lX10_fault (by decide +kernel)
def nX10_take : Nat := 0xac1c7900b65800b61c2d2d2aacfe1006009a8600b61c2d0b00c62d4e5000b61b1300b42a
theorem lX10_take : cX10_take.data.toList = unp nX10_take 36 0 := by decide +kernel
theorem dX10_take_0 : decode cX10_take 0 = .ok (.aload_n 0, 1) := op_42 lX10_take (by decide +kernel)
theorem dX10_take_1 : decode cX10_take 1 = .ok (.getfield 19, 3) := op_180 lX10_take 0 19 (by decide +kernel)
theorem dX10_take_4 : decode cX10_take 4 = .ok (.iload_n 1, 1) := op_27 lX10_take (by decide +kernel)
theorem dX10_take_5 : decode cX10_take 5 = .ok (.invokevirtual 80, 3) := op_182 lX10_take 0 80 (by decide +kernel)
theorem dX10_take_8 : decode cX10_take 8 = .ok (.astore_n 3, 1) := op_78 lX10_take (by decide +kernel)
theorem dX10_take_9 : decode cX10_take 9 = .ok (.aload_n 3, 1) := op_45 lX10_take (by decide +kernel)
theorem dX10_take_10 : decode cX10_take 10 = .ok (.ifnull 11, 3) := op_198 lX10_take 0 11 (by decide +kernel)
theorem dX10_take_13 : decode cX10_take 13 = .ok (.aload_n 3, 1) := op_45 lX10_take (by decide +kernel)
theorem dX10_take_14 : decode cX10_take 14 = .ok (.iload_n 2, 1) := op_28 lX10_take (by decide +kernel)
theorem dX10_take_15 : decode cX10_take 15 = .ok (.invokevirtual 134, 3) := op_182 lX10_take 0 134 (by decide +kernel)
theorem dX10_take_18 : decode cX10_take 18 = .ok (.ifCond .ne 6, 3) := op_154 lX10_take 0 6 (by decide +kernel)
theorem dX10_take_21 : decode cX10_take 21 = .ok (.bipush (-2), 2) := op_16 lX10_take 254 (by decide +kernel)
theorem dX10_take_23 : decode cX10_take 23 = .ok (.ireturn, 1) := op_172 lX10_take (by decide +kernel)
theorem dX10_take_24 : decode cX10_take 24 = .ok (.aload_n 0, 1) := op_42 lX10_take (by decide +kernel)
theorem dX10_take_25 : decode cX10_take 25 = .ok (.aload_n 3, 1) := op_45 lX10_take (by decide +kernel)
theorem dX10_take_26 : decode cX10_take 26 = .ok (.aload_n 3, 1) := op_45 lX10_take (by decide +kernel)
theorem dX10_take_27 : decode cX10_take 27 = .ok (.iload_n 2, 1) := op_28 lX10_take (by decide +kernel)
theorem dX10_take_28 : decode cX10_take 28 = .ok (.invokevirtual 88, 3) := op_182 lX10_take 0 88 (by decide +kernel)
theorem dX10_take_31 : decode cX10_take 31 = .ok (.invokevirtual 121, 3) := op_182 lX10_take 0 121 (by decide +kernel)
theorem dX10_take_34 : decode cX10_take 34 = .ok (.iload_n 2, 1) := op_28 lX10_take (by decide +kernel)
theorem dX10_take_35 : decode cX10_take 35 = .ok (.ireturn, 1) := op_172 lX10_take (by decide +kernel)
def nX10_told : Nat := 0xac02ac9000b63600b42aac8d00b65400b42aac7d00b65e00b42a5400b42aac8a00b65400b42a3b00000033000000270000001f0000000300000000000000430000000000aa1b
theorem lX10_told : cX10_told.data.toList = unp nX10_told 70 0 := by decide +kernel
theorem dX10_told_0 : decode cX10_told 0 = .ok (.iload_n 1, 1) := op_27 lX10_told (by decide +kernel)
theorem dX10_told_1 : decode cX10_told 1 = .ok (.tableswitch 67 0 3 #[31, 39, 51, 59], 31) := by decide +kernel
theorem dX10_told_32 : decode cX10_told 32 = .ok (.aload_n 0, 1) := op_42 lX10_told (by decide +kernel)
theorem dX10_told_33 : decode cX10_told 33 = .ok (.getfield 84, 3) := op_180 lX10_told 0 84 (by decide +kernel)
theorem dX10_told_36 : decode cX10_told 36 = .ok (.invokevirtual 138, 3) := op_182 lX10_told 0 138 (by decide +kernel)
theorem dX10_told_39 : decode cX10_told 39 = .ok (.ireturn, 1) := op_172 lX10_told (by decide +kernel)
theorem dX10_told_40 : decode cX10_told 40 = .ok (.aload_n 0, 1) := op_42 lX10_told (by decide +kernel)
theorem dX10_told_41 : decode cX10_told 41 = .ok (.getfield 84, 3) := op_180 lX10_told 0 84 (by decide +kernel)
theorem dX10_told_44 : decode cX10_told 44 = .ok (.aload_n 0, 1) := op_42 lX10_told (by decide +kernel)
theorem dX10_told_45 : decode cX10_told 45 = .ok (.getfield 94, 3) := op_180 lX10_told 0 94 (by decide +kernel)
theorem dX10_told_48 : decode cX10_told 48 = .ok (.invokevirtual 125, 3) := op_182 lX10_told 0 125 (by decide +kernel)
theorem dX10_told_51 : decode cX10_told 51 = .ok (.ireturn, 1) := op_172 lX10_told (by decide +kernel)
theorem dX10_told_52 : decode cX10_told 52 = .ok (.aload_n 0, 1) := op_42 lX10_told (by decide +kernel)
theorem dX10_told_53 : decode cX10_told 53 = .ok (.getfield 84, 3) := op_180 lX10_told 0 84 (by decide +kernel)
theorem dX10_told_56 : decode cX10_told 56 = .ok (.invokevirtual 141, 3) := op_182 lX10_told 0 141 (by decide +kernel)
theorem dX10_told_59 : decode cX10_told 59 = .ok (.ireturn, 1) := op_172 lX10_told (by decide +kernel)
theorem dX10_told_60 : decode cX10_told 60 = .ok (.aload_n 0, 1) := op_42 lX10_told (by decide +kernel)
theorem dX10_told_61 : decode cX10_told 61 = .ok (.getfield 54, 3) := op_180 lX10_told 0 54 (by decide +kernel)
theorem dX10_told_64 : decode cX10_told 64 = .ok (.invokevirtual 144, 3) := op_182 lX10_told 0 144 (by decide +kernel)
theorem dX10_told_67 : decode cX10_told 67 = .ok (.ireturn, 1) := op_172 lX10_told (by decide +kernel)
theorem dX10_told_68 : decode cX10_told 68 = .ok (.iconst (-1), 1) := op_2 lX10_told (by decide +kernel)
theorem dX10_told_69 : decode cX10_told 69 = .ok (.ireturn, 1) := op_172 lX10_told (by decide +kernel)
def nX10_triangle : Nat := 0xac9400b61c1b2100b42a9100b65e00b42a5400b42a2100b42aacfe100600a4051c08009b1c0c00a264058a00b65400b42a1b19009b1b
theorem lX10_triangle : cX10_triangle.data.toList = unp nX10_triangle 54 0 := by decide +kernel
theorem dX10_triangle_0 : decode cX10_triangle 0 = .ok (.iload_n 1, 1) := op_27 lX10_triangle (by decide +kernel)
theorem dX10_triangle_1 : decode cX10_triangle 1 = .ok (.ifCond .lt 25, 3) := op_155 lX10_triangle 0 25 (by decide +kernel)
theorem dX10_triangle_4 : decode cX10_triangle 4 = .ok (.iload_n 1, 1) := op_27 lX10_triangle (by decide +kernel)
theorem dX10_triangle_5 : decode cX10_triangle 5 = .ok (.aload_n 0, 1) := op_42 lX10_triangle (by decide +kernel)
theorem dX10_triangle_6 : decode cX10_triangle 6 = .ok (.getfield 84, 3) := op_180 lX10_triangle 0 84 (by decide +kernel)
theorem dX10_triangle_9 : decode cX10_triangle 9 = .ok (.invokevirtual 138, 3) := op_182 lX10_triangle 0 138 (by decide +kernel)
theorem dX10_triangle_12 : decode cX10_triangle 12 = .ok (.iconst 2, 1) := op_5 lX10_triangle (by decide +kernel)
theorem dX10_triangle_13 : decode cX10_triangle 13 = .ok (.isub, 1) := op_100 lX10_triangle (by decide +kernel)
theorem dX10_triangle_14 : decode cX10_triangle 14 = .ok (.if_icmp .ge 12, 3) := op_162 lX10_triangle 0 12 (by decide +kernel)
theorem dX10_triangle_17 : decode cX10_triangle 17 = .ok (.iload_n 2, 1) := op_28 lX10_triangle (by decide +kernel)
theorem dX10_triangle_18 : decode cX10_triangle 18 = .ok (.ifCond .lt 8, 3) := op_155 lX10_triangle 0 8 (by decide +kernel)
theorem dX10_triangle_21 : decode cX10_triangle 21 = .ok (.iload_n 2, 1) := op_28 lX10_triangle (by decide +kernel)
theorem dX10_triangle_22 : decode cX10_triangle 22 = .ok (.iconst 2, 1) := op_5 lX10_triangle (by decide +kernel)
theorem dX10_triangle_23 : decode cX10_triangle 23 = .ok (.if_icmp .le 6, 3) := op_164 lX10_triangle 0 6 (by decide +kernel)
theorem dX10_triangle_26 : decode cX10_triangle 26 = .ok (.bipush (-2), 2) := op_16 lX10_triangle 254 (by decide +kernel)
theorem dX10_triangle_28 : decode cX10_triangle 28 = .ok (.ireturn, 1) := op_172 lX10_triangle (by decide +kernel)
theorem dX10_triangle_29 : decode cX10_triangle 29 = .ok (.aload_n 0, 1) := op_42 lX10_triangle (by decide +kernel)
theorem dX10_triangle_30 : decode cX10_triangle 30 = .ok (.getfield 33, 3) := op_180 lX10_triangle 0 33 (by decide +kernel)
theorem dX10_triangle_33 : decode cX10_triangle 33 = .ok (.aload_n 0, 1) := op_42 lX10_triangle (by decide +kernel)
theorem dX10_triangle_34 : decode cX10_triangle 34 = .ok (.getfield 84, 3) := op_180 lX10_triangle 0 84 (by decide +kernel)
theorem dX10_triangle_37 : decode cX10_triangle 37 = .ok (.aload_n 0, 1) := op_42 lX10_triangle (by decide +kernel)
theorem dX10_triangle_38 : decode cX10_triangle 38 = .ok (.getfield 94, 3) := op_180 lX10_triangle 0 94 (by decide +kernel)
theorem dX10_triangle_41 : decode cX10_triangle 41 = .ok (.invokevirtual 145, 3) := op_182 lX10_triangle 0 145 (by decide +kernel)
theorem dX10_triangle_44 : decode cX10_triangle 44 = .ok (.aload_n 0, 1) := op_42 lX10_triangle (by decide +kernel)
theorem dX10_triangle_45 : decode cX10_triangle 45 = .ok (.getfield 33, 3) := op_180 lX10_triangle 0 33 (by decide +kernel)
theorem dX10_triangle_48 : decode cX10_triangle 48 = .ok (.iload_n 1, 1) := op_27 lX10_triangle (by decide +kernel)
theorem dX10_triangle_49 : decode cX10_triangle 49 = .ok (.iload_n 2, 1) := op_28 lX10_triangle (by decide +kernel)
theorem dX10_triangle_50 : decode cX10_triangle 50 = .ok (.invokevirtual 148, 3) := op_182 lX10_triangle 0 148 (by decide +kernel)
theorem dX10_triangle_53 : decode cX10_triangle 53 = .ok (.ireturn, 1) := op_172 lX10_triangle (by decide +kernel)
def nX10_entry : Nat := 0xacfe100500a79c00b61c1b5e00b42a5400b42a1300999800b61c1b2a
theorem lX10_entry : cX10_entry.data.toList = unp nX10_entry 28 0 := by decide +kernel
theorem dX10_entry_0 : decode cX10_entry 0 = .ok (.aload_n 0, 1) := op_42 lX10_entry (by decide +kernel)
theorem dX10_entry_1 : decode cX10_entry 1 = .ok (.iload_n 1, 1) := op_27 lX10_entry (by decide +kernel)
theorem dX10_entry_2 : decode cX10_entry 2 = .ok (.iload_n 2, 1) := op_28 lX10_entry (by decide +kernel)
theorem dX10_entry_3 : decode cX10_entry 3 = .ok (.invokevirtual 152, 3) := op_182 lX10_entry 0 152 (by decide +kernel)
theorem dX10_entry_6 : decode cX10_entry 6 = .ok (.ifCond .eq 19, 3) := op_153 lX10_entry 0 19 (by decide +kernel)
theorem dX10_entry_9 : decode cX10_entry 9 = .ok (.aload_n 0, 1) := op_42 lX10_entry (by decide +kernel)
theorem dX10_entry_10 : decode cX10_entry 10 = .ok (.getfield 84, 3) := op_180 lX10_entry 0 84 (by decide +kernel)
theorem dX10_entry_13 : decode cX10_entry 13 = .ok (.aload_n 0, 1) := op_42 lX10_entry (by decide +kernel)
theorem dX10_entry_14 : decode cX10_entry 14 = .ok (.getfield 94, 3) := op_180 lX10_entry 0 94 (by decide +kernel)
theorem dX10_entry_17 : decode cX10_entry 17 = .ok (.iload_n 1, 1) := op_27 lX10_entry (by decide +kernel)
theorem dX10_entry_18 : decode cX10_entry 18 = .ok (.iload_n 2, 1) := op_28 lX10_entry (by decide +kernel)
theorem dX10_entry_19 : decode cX10_entry 19 = .ok (.invokevirtual 156, 3) := op_182 lX10_entry 0 156 (by decide +kernel)
theorem dX10_entry_22 : decode cX10_entry 22 = .ok (.goto 5, 3) := op_167 lX10_entry 0 5 (by decide +kernel)
theorem dX10_entry_25 : decode cX10_entry 25 = .ok (.bipush (-2), 2) := op_16 lX10_entry 254 (by decide +kernel)
theorem dX10_entry_27 : decode cX10_entry 27 = .ok (.ireturn, 1) := op_172 lX10_entry (by decide +kernel)
def nX10_row : Nat := 0xacfe100500a7a300b61b5e00b42a5400b42a120099a000b61b5400b42a
theorem lX10_row : cX10_row.data.toList = unp nX10_row 29 0 := by decide +kernel
theorem dX10_row_0 : decode cX10_row 0 = .ok (.aload_n 0, 1) := op_42 lX10_row (by decide +kernel)
theorem dX10_row_1 : decode cX10_row 1 = .ok (.getfield 84, 3) := op_180 lX10_row 0 84 (by decide +kernel)
theorem dX10_row_4 : decode cX10_row 4 = .ok (.iload_n 1, 1) := op_27 lX10_row (by decide +kernel)
theorem dX10_row_5 : decode cX10_row 5 = .ok (.invokevirtual 160, 3) := op_182 lX10_row 0 160 (by decide +kernel)
theorem dX10_row_8 : decode cX10_row 8 = .ok (.ifCond .eq 18, 3) := op_153 lX10_row 0 18 (by decide +kernel)
theorem dX10_row_11 : decode cX10_row 11 = .ok (.aload_n 0, 1) := op_42 lX10_row (by decide +kernel)
theorem dX10_row_12 : decode cX10_row 12 = .ok (.getfield 84, 3) := op_180 lX10_row 0 84 (by decide +kernel)
theorem dX10_row_15 : decode cX10_row 15 = .ok (.aload_n 0, 1) := op_42 lX10_row (by decide +kernel)
theorem dX10_row_16 : decode cX10_row 16 = .ok (.getfield 94, 3) := op_180 lX10_row 0 94 (by decide +kernel)
theorem dX10_row_19 : decode cX10_row 19 = .ok (.iload_n 1, 1) := op_27 lX10_row (by decide +kernel)
theorem dX10_row_20 : decode cX10_row 20 = .ok (.invokevirtual 163, 3) := op_182 lX10_row 0 163 (by decide +kernel)
theorem dX10_row_23 : decode cX10_row 23 = .ok (.goto 5, 3) := op_167 lX10_row 0 5 (by decide +kernel)
theorem dX10_row_26 : decode cX10_row 26 = .ok (.bipush (-2), 2) := op_16 lX10_row 254 (by decide +kernel)
theorem dX10_row_28 : decode cX10_row 28 = .ok (.ireturn, 1) := op_172 lX10_row (by decide +kernel)
def nX10_way : Nat := 0xaca900b605151d1c1b5400b42a2100b42a9100b65e00b42a5400b42a2100b42aac020500a16404a600b61c1b5400b42a051513009b051505366404a600b604151b5400b42aacfe100600a19c00b61c1b5e00b42a5400b42a1d14009b1dacfe1006009aa000b604155400b42a0f00999800b61c1b2a
theorem lX10_way : cX10_way.data.toList = unp nX10_way 117 0 := by decide +kernel
theorem dX10_way_0 : decode cX10_way 0 = .ok (.aload_n 0, 1) := op_42 lX10_way (by decide +kernel)
theorem dX10_way_1 : decode cX10_way 1 = .ok (.iload_n 1, 1) := op_27 lX10_way (by decide +kernel)
theorem dX10_way_2 : decode cX10_way 2 = .ok (.iload_n 2, 1) := op_28 lX10_way (by decide +kernel)
theorem dX10_way_3 : decode cX10_way 3 = .ok (.invokevirtual 152, 3) := op_182 lX10_way 0 152 (by decide +kernel)
theorem dX10_way_6 : decode cX10_way 6 = .ok (.ifCond .eq 15, 3) := op_153 lX10_way 0 15 (by decide +kernel)
theorem dX10_way_9 : decode cX10_way 9 = .ok (.aload_n 0, 1) := op_42 lX10_way (by decide +kernel)
theorem dX10_way_10 : decode cX10_way 10 = .ok (.getfield 84, 3) := op_180 lX10_way 0 84 (by decide +kernel)
theorem dX10_way_13 : decode cX10_way 13 = .ok (.iload 4, 2) := op_21 lX10_way (by decide +kernel)
theorem dX10_way_15 : decode cX10_way 15 = .ok (.invokevirtual 160, 3) := op_182 lX10_way 0 160 (by decide +kernel)
theorem dX10_way_18 : decode cX10_way 18 = .ok (.ifCond .ne 6, 3) := op_154 lX10_way 0 6 (by decide +kernel)
theorem dX10_way_21 : decode cX10_way 21 = .ok (.bipush (-2), 2) := op_16 lX10_way 254 (by decide +kernel)
theorem dX10_way_23 : decode cX10_way 23 = .ok (.ireturn, 1) := op_172 lX10_way (by decide +kernel)
theorem dX10_way_24 : decode cX10_way 24 = .ok (.iload_n 3, 1) := op_29 lX10_way (by decide +kernel)
theorem dX10_way_25 : decode cX10_way 25 = .ok (.ifCond .lt 20, 3) := op_155 lX10_way 0 20 (by decide +kernel)
theorem dX10_way_28 : decode cX10_way 28 = .ok (.iload_n 3, 1) := op_29 lX10_way (by decide +kernel)
theorem dX10_way_29 : decode cX10_way 29 = .ok (.aload_n 0, 1) := op_42 lX10_way (by decide +kernel)
theorem dX10_way_30 : decode cX10_way 30 = .ok (.getfield 84, 3) := op_180 lX10_way 0 84 (by decide +kernel)
theorem dX10_way_33 : decode cX10_way 33 = .ok (.aload_n 0, 1) := op_42 lX10_way (by decide +kernel)
theorem dX10_way_34 : decode cX10_way 34 = .ok (.getfield 94, 3) := op_180 lX10_way 0 94 (by decide +kernel)
theorem dX10_way_37 : decode cX10_way 37 = .ok (.iload_n 1, 1) := op_27 lX10_way (by decide +kernel)
theorem dX10_way_38 : decode cX10_way 38 = .ok (.iload_n 2, 1) := op_28 lX10_way (by decide +kernel)
theorem dX10_way_39 : decode cX10_way 39 = .ok (.invokevirtual 156, 3) := op_182 lX10_way 0 156 (by decide +kernel)
theorem dX10_way_42 : decode cX10_way 42 = .ok (.if_icmp .lt 6, 3) := op_161 lX10_way 0 6 (by decide +kernel)
theorem dX10_way_45 : decode cX10_way 45 = .ok (.bipush (-2), 2) := op_16 lX10_way 254 (by decide +kernel)
theorem dX10_way_47 : decode cX10_way 47 = .ok (.ireturn, 1) := op_172 lX10_way (by decide +kernel)
theorem dX10_way_48 : decode cX10_way 48 = .ok (.aload_n 0, 1) := op_42 lX10_way (by decide +kernel)
theorem dX10_way_49 : decode cX10_way 49 = .ok (.getfield 84, 3) := op_180 lX10_way 0 84 (by decide +kernel)
theorem dX10_way_52 : decode cX10_way 52 = .ok (.iload_n 1, 1) := op_27 lX10_way (by decide +kernel)
theorem dX10_way_53 : decode cX10_way 53 = .ok (.iload 4, 2) := op_21 lX10_way (by decide +kernel)
theorem dX10_way_55 : decode cX10_way 55 = .ok (.invokevirtual 166, 3) := op_182 lX10_way 0 166 (by decide +kernel)
theorem dX10_way_58 : decode cX10_way 58 = .ok (.iconst 1, 1) := op_4 lX10_way (by decide +kernel)
theorem dX10_way_59 : decode cX10_way 59 = .ok (.isub, 1) := op_100 lX10_way (by decide +kernel)
theorem dX10_way_60 : decode cX10_way 60 = .ok (.istore 5, 2) := op_54 lX10_way (by decide +kernel)
theorem dX10_way_62 : decode cX10_way 62 = .ok (.iload 5, 2) := op_21 lX10_way (by decide +kernel)
theorem dX10_way_64 : decode cX10_way 64 = .ok (.ifCond .lt 19, 3) := op_155 lX10_way 0 19 (by decide +kernel)
theorem dX10_way_67 : decode cX10_way 67 = .ok (.iload 5, 2) := op_21 lX10_way (by decide +kernel)
theorem dX10_way_69 : decode cX10_way 69 = .ok (.aload_n 0, 1) := op_42 lX10_way (by decide +kernel)
theorem dX10_way_70 : decode cX10_way 70 = .ok (.getfield 84, 3) := op_180 lX10_way 0 84 (by decide +kernel)
theorem dX10_way_73 : decode cX10_way 73 = .ok (.iload_n 1, 1) := op_27 lX10_way (by decide +kernel)
theorem dX10_way_74 : decode cX10_way 74 = .ok (.iload_n 2, 1) := op_28 lX10_way (by decide +kernel)
theorem dX10_way_75 : decode cX10_way 75 = .ok (.invokevirtual 166, 3) := op_182 lX10_way 0 166 (by decide +kernel)
theorem dX10_way_78 : decode cX10_way 78 = .ok (.iconst 1, 1) := op_4 lX10_way (by decide +kernel)
theorem dX10_way_79 : decode cX10_way 79 = .ok (.isub, 1) := op_100 lX10_way (by decide +kernel)
theorem dX10_way_80 : decode cX10_way 80 = .ok (.if_icmp .lt 5, 3) := op_161 lX10_way 0 5 (by decide +kernel)
theorem dX10_way_83 : decode cX10_way 83 = .ok (.iconst (-1), 1) := op_2 lX10_way (by decide +kernel)
theorem dX10_way_84 : decode cX10_way 84 = .ok (.ireturn, 1) := op_172 lX10_way (by decide +kernel)
theorem dX10_way_85 : decode cX10_way 85 = .ok (.aload_n 0, 1) := op_42 lX10_way (by decide +kernel)
theorem dX10_way_86 : decode cX10_way 86 = .ok (.getfield 33, 3) := op_180 lX10_way 0 33 (by decide +kernel)
theorem dX10_way_89 : decode cX10_way 89 = .ok (.aload_n 0, 1) := op_42 lX10_way (by decide +kernel)
theorem dX10_way_90 : decode cX10_way 90 = .ok (.getfield 84, 3) := op_180 lX10_way 0 84 (by decide +kernel)
theorem dX10_way_93 : decode cX10_way 93 = .ok (.aload_n 0, 1) := op_42 lX10_way (by decide +kernel)
theorem dX10_way_94 : decode cX10_way 94 = .ok (.getfield 94, 3) := op_180 lX10_way 0 94 (by decide +kernel)
theorem dX10_way_97 : decode cX10_way 97 = .ok (.invokevirtual 145, 3) := op_182 lX10_way 0 145 (by decide +kernel)
theorem dX10_way_100 : decode cX10_way 100 = .ok (.aload_n 0, 1) := op_42 lX10_way (by decide +kernel)
theorem dX10_way_101 : decode cX10_way 101 = .ok (.getfield 33, 3) := op_180 lX10_way 0 33 (by decide +kernel)
theorem dX10_way_104 : decode cX10_way 104 = .ok (.aload_n 0, 1) := op_42 lX10_way (by decide +kernel)
theorem dX10_way_105 : decode cX10_way 105 = .ok (.getfield 84, 3) := op_180 lX10_way 0 84 (by decide +kernel)
theorem dX10_way_108 : decode cX10_way 108 = .ok (.iload_n 1, 1) := op_27 lX10_way (by decide +kernel)
theorem dX10_way_109 : decode cX10_way 109 = .ok (.iload_n 2, 1) := op_28 lX10_way (by decide +kernel)
theorem dX10_way_110 : decode cX10_way 110 = .ok (.iload_n 3, 1) := op_29 lX10_way (by decide +kernel)
theorem dX10_way_111 : decode cX10_way 111 = .ok (.iload 5, 2) := op_21 lX10_way (by decide +kernel)
theorem dX10_way_113 : decode cX10_way 113 = .ok (.invokevirtual 169, 3) := op_182 lX10_way 0 169 (by decide +kernel)
theorem dX10_way_116 : decode cX10_way 116 = .ok (.ireturn, 1) := op_172 lX10_way (by decide +kernel)
def nX10_flip : Nat := 0xacb600b604155400b42a5e00b580780415047e8202781d045e00b42a2a0436b300b61d5e00b42a5400b42aac0205009ab000b61d5e00b42a5400b42a3ead00b61c1b5400b42aacfe1006009a9800b61c1b2a
theorem lX10_flip : cX10_flip.data.toList = unp nX10_flip 82 0 := by decide +kernel
theorem dX10_flip_0 : decode cX10_flip 0 = .ok (.aload_n 0, 1) := op_42 lX10_flip (by decide +kernel)
theorem dX10_flip_1 : decode cX10_flip 1 = .ok (.iload_n 1, 1) := op_27 lX10_flip (by decide +kernel)
theorem dX10_flip_2 : decode cX10_flip 2 = .ok (.iload_n 2, 1) := op_28 lX10_flip (by decide +kernel)
theorem dX10_flip_3 : decode cX10_flip 3 = .ok (.invokevirtual 152, 3) := op_182 lX10_flip 0 152 (by decide +kernel)
theorem dX10_flip_6 : decode cX10_flip 6 = .ok (.ifCond .ne 6, 3) := op_154 lX10_flip 0 6 (by decide +kernel)
theorem dX10_flip_9 : decode cX10_flip 9 = .ok (.bipush (-2), 2) := op_16 lX10_flip 254 (by decide +kernel)
theorem dX10_flip_11 : decode cX10_flip 11 = .ok (.ireturn, 1) := op_172 lX10_flip (by decide +kernel)
theorem dX10_flip_12 : decode cX10_flip 12 = .ok (.aload_n 0, 1) := op_42 lX10_flip (by decide +kernel)
theorem dX10_flip_13 : decode cX10_flip 13 = .ok (.getfield 84, 3) := op_180 lX10_flip 0 84 (by decide +kernel)
theorem dX10_flip_16 : decode cX10_flip 16 = .ok (.iload_n 1, 1) := op_27 lX10_flip (by decide +kernel)
theorem dX10_flip_17 : decode cX10_flip 17 = .ok (.iload_n 2, 1) := op_28 lX10_flip (by decide +kernel)
theorem dX10_flip_18 : decode cX10_flip 18 = .ok (.invokevirtual 173, 3) := op_182 lX10_flip 0 173 (by decide +kernel)
theorem dX10_flip_21 : decode cX10_flip 21 = .ok (.istore_n 3, 1) := op_62 lX10_flip (by decide +kernel)
theorem dX10_flip_22 : decode cX10_flip 22 = .ok (.aload_n 0, 1) := op_42 lX10_flip (by decide +kernel)
theorem dX10_flip_23 : decode cX10_flip 23 = .ok (.getfield 84, 3) := op_180 lX10_flip 0 84 (by decide +kernel)
theorem dX10_flip_26 : decode cX10_flip 26 = .ok (.aload_n 0, 1) := op_42 lX10_flip (by decide +kernel)
theorem dX10_flip_27 : decode cX10_flip 27 = .ok (.getfield 94, 3) := op_180 lX10_flip 0 94 (by decide +kernel)
theorem dX10_flip_30 : decode cX10_flip 30 = .ok (.iload_n 3, 1) := op_29 lX10_flip (by decide +kernel)
theorem dX10_flip_31 : decode cX10_flip 31 = .ok (.invokevirtual 176, 3) := op_182 lX10_flip 0 176 (by decide +kernel)
theorem dX10_flip_34 : decode cX10_flip 34 = .ok (.ifCond .ne 5, 3) := op_154 lX10_flip 0 5 (by decide +kernel)
theorem dX10_flip_37 : decode cX10_flip 37 = .ok (.iconst (-1), 1) := op_2 lX10_flip (by decide +kernel)
theorem dX10_flip_38 : decode cX10_flip 38 = .ok (.ireturn, 1) := op_172 lX10_flip (by decide +kernel)
theorem dX10_flip_39 : decode cX10_flip 39 = .ok (.aload_n 0, 1) := op_42 lX10_flip (by decide +kernel)
theorem dX10_flip_40 : decode cX10_flip 40 = .ok (.getfield 84, 3) := op_180 lX10_flip 0 84 (by decide +kernel)
theorem dX10_flip_43 : decode cX10_flip 43 = .ok (.aload_n 0, 1) := op_42 lX10_flip (by decide +kernel)
theorem dX10_flip_44 : decode cX10_flip 44 = .ok (.getfield 94, 3) := op_180 lX10_flip 0 94 (by decide +kernel)
theorem dX10_flip_47 : decode cX10_flip 47 = .ok (.iload_n 3, 1) := op_29 lX10_flip (by decide +kernel)
theorem dX10_flip_48 : decode cX10_flip 48 = .ok (.invokevirtual 179, 3) := op_182 lX10_flip 0 179 (by decide +kernel)
theorem dX10_flip_51 : decode cX10_flip 51 = .ok (.istore 4, 2) := op_54 lX10_flip (by decide +kernel)
theorem dX10_flip_53 : decode cX10_flip 53 = .ok (.aload_n 0, 1) := op_42 lX10_flip (by decide +kernel)
theorem dX10_flip_54 : decode cX10_flip 54 = .ok (.aload_n 0, 1) := op_42 lX10_flip (by decide +kernel)
theorem dX10_flip_55 : decode cX10_flip 55 = .ok (.getfield 94, 3) := op_180 lX10_flip 0 94 (by decide +kernel)
theorem dX10_flip_58 : decode cX10_flip 58 = .ok (.iconst 1, 1) := op_4 lX10_flip (by decide +kernel)
theorem dX10_flip_59 : decode cX10_flip 59 = .ok (.iload_n 3, 1) := op_29 lX10_flip (by decide +kernel)
theorem dX10_flip_60 : decode cX10_flip 60 = .ok (.ishl, 1) := op_120 lX10_flip (by decide +kernel)
theorem dX10_flip_61 : decode cX10_flip 61 = .ok (.iconst (-1), 1) := op_2 lX10_flip (by decide +kernel)
theorem dX10_flip_62 : decode cX10_flip 62 = .ok (.ixor, 1) := op_130 lX10_flip (by decide +kernel)
theorem dX10_flip_63 : decode cX10_flip 63 = .ok (.iand, 1) := op_126 lX10_flip (by decide +kernel)
theorem dX10_flip_64 : decode cX10_flip 64 = .ok (.iconst 1, 1) := op_4 lX10_flip (by decide +kernel)
theorem dX10_flip_65 : decode cX10_flip 65 = .ok (.iload 4, 2) := op_21 lX10_flip (by decide +kernel)
theorem dX10_flip_67 : decode cX10_flip 67 = .ok (.ishl, 1) := op_120 lX10_flip (by decide +kernel)
theorem dX10_flip_68 : decode cX10_flip 68 = .ok (.ior, 1) := op_128 lX10_flip (by decide +kernel)
theorem dX10_flip_69 : decode cX10_flip 69 = .ok (.putfield 94, 3) := op_181 lX10_flip 0 94 (by decide +kernel)
theorem dX10_flip_72 : decode cX10_flip 72 = .ok (.aload_n 0, 1) := op_42 lX10_flip (by decide +kernel)
theorem dX10_flip_73 : decode cX10_flip 73 = .ok (.getfield 84, 3) := op_180 lX10_flip 0 84 (by decide +kernel)
theorem dX10_flip_76 : decode cX10_flip 76 = .ok (.iload 4, 2) := op_21 lX10_flip (by decide +kernel)
theorem dX10_flip_78 : decode cX10_flip 78 = .ok (.invokevirtual 182, 3) := op_182 lX10_flip 0 182 (by decide +kernel)
theorem dX10_flip_81 : decode cX10_flip 81 = .ok (.ireturn, 1) := op_172 lX10_flip (by decide +kernel)
def nX10_fewest : Nat := 0xacb900b61b7d00b65e00b42a5400b42a5400b42a2f00b42aacfe1006009a8600b61b5400b42a
theorem lX10_fewest : cX10_fewest.data.toList = unp nX10_fewest 38 0 := by decide +kernel
theorem dX10_fewest_0 : decode cX10_fewest 0 = .ok (.aload_n 0, 1) := op_42 lX10_fewest (by decide +kernel)
theorem dX10_fewest_1 : decode cX10_fewest 1 = .ok (.getfield 84, 3) := op_180 lX10_fewest 0 84 (by decide +kernel)
theorem dX10_fewest_4 : decode cX10_fewest 4 = .ok (.iload_n 1, 1) := op_27 lX10_fewest (by decide +kernel)
theorem dX10_fewest_5 : decode cX10_fewest 5 = .ok (.invokevirtual 134, 3) := op_182 lX10_fewest 0 134 (by decide +kernel)
theorem dX10_fewest_8 : decode cX10_fewest 8 = .ok (.ifCond .ne 6, 3) := op_154 lX10_fewest 0 6 (by decide +kernel)
theorem dX10_fewest_11 : decode cX10_fewest 11 = .ok (.bipush (-2), 2) := op_16 lX10_fewest 254 (by decide +kernel)
theorem dX10_fewest_13 : decode cX10_fewest 13 = .ok (.ireturn, 1) := op_172 lX10_fewest (by decide +kernel)
theorem dX10_fewest_14 : decode cX10_fewest 14 = .ok (.aload_n 0, 1) := op_42 lX10_fewest (by decide +kernel)
theorem dX10_fewest_15 : decode cX10_fewest 15 = .ok (.getfield 47, 3) := op_180 lX10_fewest 0 47 (by decide +kernel)
theorem dX10_fewest_18 : decode cX10_fewest 18 = .ok (.aload_n 0, 1) := op_42 lX10_fewest (by decide +kernel)
theorem dX10_fewest_19 : decode cX10_fewest 19 = .ok (.getfield 84, 3) := op_180 lX10_fewest 0 84 (by decide +kernel)
theorem dX10_fewest_22 : decode cX10_fewest 22 = .ok (.aload_n 0, 1) := op_42 lX10_fewest (by decide +kernel)
theorem dX10_fewest_23 : decode cX10_fewest 23 = .ok (.getfield 84, 3) := op_180 lX10_fewest 0 84 (by decide +kernel)
theorem dX10_fewest_26 : decode cX10_fewest 26 = .ok (.aload_n 0, 1) := op_42 lX10_fewest (by decide +kernel)
theorem dX10_fewest_27 : decode cX10_fewest 27 = .ok (.getfield 94, 3) := op_180 lX10_fewest 0 94 (by decide +kernel)
theorem dX10_fewest_30 : decode cX10_fewest 30 = .ok (.invokevirtual 125, 3) := op_182 lX10_fewest 0 125 (by decide +kernel)
theorem dX10_fewest_33 : decode cX10_fewest 33 = .ok (.iload_n 1, 1) := op_27 lX10_fewest (by decide +kernel)
theorem dX10_fewest_34 : decode cX10_fewest 34 = .ok (.invokevirtual 185, 3) := op_182 lX10_fewest 0 185 (by decide +kernel)
theorem dX10_fewest_37 : decode cX10_fewest 37 = .ok (.ireturn, 1) := op_172 lX10_fewest (by decide +kernel)
def nX10_passed : Nat := 0xacbd00b61b2f00b42a
theorem lX10_passed : cX10_passed.data.toList = unp nX10_passed 9 0 := by decide +kernel
theorem dX10_passed_0 : decode cX10_passed 0 = .ok (.aload_n 0, 1) := op_42 lX10_passed (by decide +kernel)
theorem dX10_passed_1 : decode cX10_passed 1 = .ok (.getfield 47, 3) := op_180 lX10_passed 0 47 (by decide +kernel)
theorem dX10_passed_4 : decode cX10_passed 4 = .ok (.iload_n 1, 1) := op_27 lX10_passed (by decide +kernel)
theorem dX10_passed_5 : decode cX10_passed 5 = .ok (.invokevirtual 189, 3) := op_182 lX10_passed 0 189 (by decide +kernel)
theorem dX10_passed_8 : decode cX10_passed 8 = .ok (.ireturn, 1) := op_172 lX10_passed (by decide +kernel)
def nX10_farthest : Nat := 0xacc600b61c5400b42a2f00b42a0f00a71c07009a1b3dc200b65400b42a2f00b42abf00b67d00b65e00b42a5400b42a5400b42a2f00b42aac0205009f041b0a00991b
theorem lX10_farthest : cX10_farthest.data.toList = unp nX10_farthest 66 0 := by decide +kernel
theorem dX10_farthest_0 : decode cX10_farthest 0 = .ok (.iload_n 1, 1) := op_27 lX10_farthest (by decide +kernel)
theorem dX10_farthest_1 : decode cX10_farthest 1 = .ok (.ifCond .eq 10, 3) := op_153 lX10_farthest 0 10 (by decide +kernel)
theorem dX10_farthest_4 : decode cX10_farthest 4 = .ok (.iload_n 1, 1) := op_27 lX10_farthest (by decide +kernel)
theorem dX10_farthest_5 : decode cX10_farthest 5 = .ok (.iconst 1, 1) := op_4 lX10_farthest (by decide +kernel)
theorem dX10_farthest_6 : decode cX10_farthest 6 = .ok (.if_icmp .eq 5, 3) := op_159 lX10_farthest 0 5 (by decide +kernel)
theorem dX10_farthest_9 : decode cX10_farthest 9 = .ok (.iconst (-1), 1) := op_2 lX10_farthest (by decide +kernel)
theorem dX10_farthest_10 : decode cX10_farthest 10 = .ok (.ireturn, 1) := op_172 lX10_farthest (by decide +kernel)
theorem dX10_farthest_11 : decode cX10_farthest 11 = .ok (.aload_n 0, 1) := op_42 lX10_farthest (by decide +kernel)
theorem dX10_farthest_12 : decode cX10_farthest 12 = .ok (.getfield 47, 3) := op_180 lX10_farthest 0 47 (by decide +kernel)
theorem dX10_farthest_15 : decode cX10_farthest 15 = .ok (.aload_n 0, 1) := op_42 lX10_farthest (by decide +kernel)
theorem dX10_farthest_16 : decode cX10_farthest 16 = .ok (.getfield 84, 3) := op_180 lX10_farthest 0 84 (by decide +kernel)
theorem dX10_farthest_19 : decode cX10_farthest 19 = .ok (.aload_n 0, 1) := op_42 lX10_farthest (by decide +kernel)
theorem dX10_farthest_20 : decode cX10_farthest 20 = .ok (.getfield 84, 3) := op_180 lX10_farthest 0 84 (by decide +kernel)
theorem dX10_farthest_23 : decode cX10_farthest 23 = .ok (.aload_n 0, 1) := op_42 lX10_farthest (by decide +kernel)
theorem dX10_farthest_24 : decode cX10_farthest 24 = .ok (.getfield 94, 3) := op_180 lX10_farthest 0 94 (by decide +kernel)
theorem dX10_farthest_27 : decode cX10_farthest 27 = .ok (.invokevirtual 125, 3) := op_182 lX10_farthest 0 125 (by decide +kernel)
theorem dX10_farthest_30 : decode cX10_farthest 30 = .ok (.invokevirtual 191, 3) := op_182 lX10_farthest 0 191 (by decide +kernel)
theorem dX10_farthest_33 : decode cX10_farthest 33 = .ok (.aload_n 0, 1) := op_42 lX10_farthest (by decide +kernel)
theorem dX10_farthest_34 : decode cX10_farthest 34 = .ok (.getfield 47, 3) := op_180 lX10_farthest 0 47 (by decide +kernel)
theorem dX10_farthest_37 : decode cX10_farthest 37 = .ok (.aload_n 0, 1) := op_42 lX10_farthest (by decide +kernel)
theorem dX10_farthest_38 : decode cX10_farthest 38 = .ok (.getfield 84, 3) := op_180 lX10_farthest 0 84 (by decide +kernel)
theorem dX10_farthest_41 : decode cX10_farthest 41 = .ok (.invokevirtual 194, 3) := op_182 lX10_farthest 0 194 (by decide +kernel)
theorem dX10_farthest_44 : decode cX10_farthest 44 = .ok (.istore_n 2, 1) := op_61 lX10_farthest (by decide +kernel)
theorem dX10_farthest_45 : decode cX10_farthest 45 = .ok (.iload_n 1, 1) := op_27 lX10_farthest (by decide +kernel)
theorem dX10_farthest_46 : decode cX10_farthest 46 = .ok (.ifCond .ne 7, 3) := op_154 lX10_farthest 0 7 (by decide +kernel)
theorem dX10_farthest_49 : decode cX10_farthest 49 = .ok (.iload_n 2, 1) := op_28 lX10_farthest (by decide +kernel)
theorem dX10_farthest_50 : decode cX10_farthest 50 = .ok (.goto 15, 3) := op_167 lX10_farthest 0 15 (by decide +kernel)
theorem dX10_farthest_53 : decode cX10_farthest 53 = .ok (.aload_n 0, 1) := op_42 lX10_farthest (by decide +kernel)
theorem dX10_farthest_54 : decode cX10_farthest 54 = .ok (.getfield 47, 3) := op_180 lX10_farthest 0 47 (by decide +kernel)
theorem dX10_farthest_57 : decode cX10_farthest 57 = .ok (.aload_n 0, 1) := op_42 lX10_farthest (by decide +kernel)
theorem dX10_farthest_58 : decode cX10_farthest 58 = .ok (.getfield 84, 3) := op_180 lX10_farthest 0 84 (by decide +kernel)
theorem dX10_farthest_61 : decode cX10_farthest 61 = .ok (.iload_n 2, 1) := op_28 lX10_farthest (by decide +kernel)
theorem dX10_farthest_62 : decode cX10_farthest 62 = .ok (.invokevirtual 198, 3) := op_182 lX10_farthest 0 198 (by decide +kernel)
theorem dX10_farthest_65 : decode cX10_farthest 65 = .ok (.ireturn, 1) := op_172 lX10_farthest (by decide +kernel)
def nX10_least : Nat := 0xac7d00b6ca00b61b5e00b42a5400b42a5400b42a
theorem lX10_least : cX10_least.data.toList = unp nX10_least 20 0 := by decide +kernel
theorem dX10_least_0 : decode cX10_least 0 = .ok (.aload_n 0, 1) := op_42 lX10_least (by decide +kernel)
theorem dX10_least_1 : decode cX10_least 1 = .ok (.getfield 84, 3) := op_180 lX10_least 0 84 (by decide +kernel)
theorem dX10_least_4 : decode cX10_least 4 = .ok (.aload_n 0, 1) := op_42 lX10_least (by decide +kernel)
theorem dX10_least_5 : decode cX10_least 5 = .ok (.getfield 84, 3) := op_180 lX10_least 0 84 (by decide +kernel)
theorem dX10_least_8 : decode cX10_least 8 = .ok (.aload_n 0, 1) := op_42 lX10_least (by decide +kernel)
theorem dX10_least_9 : decode cX10_least 9 = .ok (.getfield 94, 3) := op_180 lX10_least 0 94 (by decide +kernel)
theorem dX10_least_12 : decode cX10_least 12 = .ok (.iload_n 1, 1) := op_27 lX10_least (by decide +kernel)
theorem dX10_least_13 : decode cX10_least 13 = .ok (.invokevirtual 202, 3) := op_182 lX10_least 0 202 (by decide +kernel)
theorem dX10_least_16 : decode cX10_least 16 = .ok (.invokevirtual 125, 3) := op_182 lX10_least 0 125 (by decide +kernel)
theorem dX10_least_19 : decode cX10_least 19 = .ok (.ireturn, 1) := op_172 lX10_least (by decide +kernel)
def nX10_kinds : Nat := 0xacce00b61c2d0800a7fe100800c72d4e5000b61b1300b42a
theorem lX10_kinds : cX10_kinds.data.toList = unp nX10_kinds 24 0 := by decide +kernel
theorem dX10_kinds_0 : decode cX10_kinds 0 = .ok (.aload_n 0, 1) := op_42 lX10_kinds (by decide +kernel)
theorem dX10_kinds_1 : decode cX10_kinds 1 = .ok (.getfield 19, 3) := op_180 lX10_kinds 0 19 (by decide +kernel)
theorem dX10_kinds_4 : decode cX10_kinds 4 = .ok (.iload_n 1, 1) := op_27 lX10_kinds (by decide +kernel)
theorem dX10_kinds_5 : decode cX10_kinds 5 = .ok (.invokevirtual 80, 3) := op_182 lX10_kinds 0 80 (by decide +kernel)
theorem dX10_kinds_8 : decode cX10_kinds 8 = .ok (.astore_n 3, 1) := op_78 lX10_kinds (by decide +kernel)
theorem dX10_kinds_9 : decode cX10_kinds 9 = .ok (.aload_n 3, 1) := op_45 lX10_kinds (by decide +kernel)
theorem dX10_kinds_10 : decode cX10_kinds 10 = .ok (.ifnonnull 8, 3) := op_199 lX10_kinds 0 8 (by decide +kernel)
theorem dX10_kinds_13 : decode cX10_kinds 13 = .ok (.bipush (-2), 2) := op_16 lX10_kinds 254 (by decide +kernel)
theorem dX10_kinds_15 : decode cX10_kinds 15 = .ok (.goto 8, 3) := op_167 lX10_kinds 0 8 (by decide +kernel)
theorem dX10_kinds_18 : decode cX10_kinds 18 = .ok (.aload_n 3, 1) := op_45 lX10_kinds (by decide +kernel)
theorem dX10_kinds_19 : decode cX10_kinds 19 = .ok (.iload_n 2, 1) := op_28 lX10_kinds (by decide +kernel)
theorem dX10_kinds_20 : decode cX10_kinds 20 = .ok (.invokevirtual 206, 3) := op_182 lX10_kinds 0 206 (by decide +kernel)
theorem dX10_kinds_23 : decode cX10_kinds 23 = .ok (.ireturn, 1) := op_172 lX10_kinds (by decide +kernel)
def nX10_read : Nat := 0xac1b5e00b55800b61b5400b42a2aac02050099d900b65800b61b5400b42a4800b42a5400b42a3cd500b64800b42a5400b42aacfe1006009ad200b62a
theorem lX10_read : cX10_read.data.toList = unp nX10_read 60 0 := by decide +kernel
theorem dX10_read_0 : decode cX10_read 0 = .ok (.aload_n 0, 1) := op_42 lX10_read (by decide +kernel)
theorem dX10_read_1 : decode cX10_read 1 = .ok (.invokevirtual 210, 3) := op_182 lX10_read 0 210 (by decide +kernel)
theorem dX10_read_4 : decode cX10_read 4 = .ok (.ifCond .ne 6, 3) := op_154 lX10_read 0 6 (by decide +kernel)
theorem dX10_read_7 : decode cX10_read 7 = .ok (.bipush (-2), 2) := op_16 lX10_read 254 (by decide +kernel)
theorem dX10_read_9 : decode cX10_read 9 = .ok (.ireturn, 1) := op_172 lX10_read (by decide +kernel)
theorem dX10_read_10 : decode cX10_read 10 = .ok (.aload_n 0, 1) := op_42 lX10_read (by decide +kernel)
theorem dX10_read_11 : decode cX10_read 11 = .ok (.getfield 84, 3) := op_180 lX10_read 0 84 (by decide +kernel)
theorem dX10_read_14 : decode cX10_read 14 = .ok (.aload_n 0, 1) := op_42 lX10_read (by decide +kernel)
theorem dX10_read_15 : decode cX10_read 15 = .ok (.getfield 72, 3) := op_180 lX10_read 0 72 (by decide +kernel)
theorem dX10_read_18 : decode cX10_read 18 = .ok (.invokevirtual 213, 3) := op_182 lX10_read 0 213 (by decide +kernel)
theorem dX10_read_21 : decode cX10_read 21 = .ok (.istore_n 1, 1) := op_60 lX10_read (by decide +kernel)
theorem dX10_read_22 : decode cX10_read 22 = .ok (.aload_n 0, 1) := op_42 lX10_read (by decide +kernel)
theorem dX10_read_23 : decode cX10_read 23 = .ok (.getfield 84, 3) := op_180 lX10_read 0 84 (by decide +kernel)
theorem dX10_read_26 : decode cX10_read 26 = .ok (.aload_n 0, 1) := op_42 lX10_read (by decide +kernel)
theorem dX10_read_27 : decode cX10_read 27 = .ok (.getfield 72, 3) := op_180 lX10_read 0 72 (by decide +kernel)
theorem dX10_read_30 : decode cX10_read 30 = .ok (.aload_n 0, 1) := op_42 lX10_read (by decide +kernel)
theorem dX10_read_31 : decode cX10_read 31 = .ok (.getfield 84, 3) := op_180 lX10_read 0 84 (by decide +kernel)
theorem dX10_read_34 : decode cX10_read 34 = .ok (.iload_n 1, 1) := op_27 lX10_read (by decide +kernel)
theorem dX10_read_35 : decode cX10_read 35 = .ok (.invokevirtual 88, 3) := op_182 lX10_read 0 88 (by decide +kernel)
theorem dX10_read_38 : decode cX10_read 38 = .ok (.invokevirtual 217, 3) := op_182 lX10_read 0 217 (by decide +kernel)
theorem dX10_read_41 : decode cX10_read 41 = .ok (.ifCond .eq 5, 3) := op_153 lX10_read 0 5 (by decide +kernel)
theorem dX10_read_44 : decode cX10_read 44 = .ok (.iconst (-1), 1) := op_2 lX10_read (by decide +kernel)
theorem dX10_read_45 : decode cX10_read 45 = .ok (.ireturn, 1) := op_172 lX10_read (by decide +kernel)
theorem dX10_read_46 : decode cX10_read 46 = .ok (.aload_n 0, 1) := op_42 lX10_read (by decide +kernel)
theorem dX10_read_47 : decode cX10_read 47 = .ok (.aload_n 0, 1) := op_42 lX10_read (by decide +kernel)
theorem dX10_read_48 : decode cX10_read 48 = .ok (.getfield 84, 3) := op_180 lX10_read 0 84 (by decide +kernel)
theorem dX10_read_51 : decode cX10_read 51 = .ok (.iload_n 1, 1) := op_27 lX10_read (by decide +kernel)
theorem dX10_read_52 : decode cX10_read 52 = .ok (.invokevirtual 88, 3) := op_182 lX10_read 0 88 (by decide +kernel)
theorem dX10_read_55 : decode cX10_read 55 = .ok (.putfield 94, 3) := op_181 lX10_read 0 94 (by decide +kernel)
theorem dX10_read_58 : decode cX10_read 58 = .ok (.iload_n 1, 1) := op_27 lX10_read (by decide +kernel)
theorem dX10_read_59 : decode cX10_read 59 = .ok (.ireturn, 1) := op_172 lX10_read (by decide +kernel)
def nX10_mend : Nat := 0xacd900b65800b64c00b42a5400b42a4800b42a5400b42a4c00b5d500b64800b42a5400b42a2aacfe1006009ad200b62a
theorem lX10_mend : cX10_mend.data.toList = unp nX10_mend 48 0 := by decide +kernel
theorem dX10_mend_0 : decode cX10_mend 0 = .ok (.aload_n 0, 1) := op_42 lX10_mend (by decide +kernel)
theorem dX10_mend_1 : decode cX10_mend 1 = .ok (.invokevirtual 210, 3) := op_182 lX10_mend 0 210 (by decide +kernel)
theorem dX10_mend_4 : decode cX10_mend 4 = .ok (.ifCond .ne 6, 3) := op_154 lX10_mend 0 6 (by decide +kernel)
theorem dX10_mend_7 : decode cX10_mend 7 = .ok (.bipush (-2), 2) := op_16 lX10_mend 254 (by decide +kernel)
theorem dX10_mend_9 : decode cX10_mend 9 = .ok (.ireturn, 1) := op_172 lX10_mend (by decide +kernel)
theorem dX10_mend_10 : decode cX10_mend 10 = .ok (.aload_n 0, 1) := op_42 lX10_mend (by decide +kernel)
theorem dX10_mend_11 : decode cX10_mend 11 = .ok (.aload_n 0, 1) := op_42 lX10_mend (by decide +kernel)
theorem dX10_mend_12 : decode cX10_mend 12 = .ok (.getfield 84, 3) := op_180 lX10_mend 0 84 (by decide +kernel)
theorem dX10_mend_15 : decode cX10_mend 15 = .ok (.aload_n 0, 1) := op_42 lX10_mend (by decide +kernel)
theorem dX10_mend_16 : decode cX10_mend 16 = .ok (.getfield 72, 3) := op_180 lX10_mend 0 72 (by decide +kernel)
theorem dX10_mend_19 : decode cX10_mend 19 = .ok (.invokevirtual 213, 3) := op_182 lX10_mend 0 213 (by decide +kernel)
theorem dX10_mend_22 : decode cX10_mend 22 = .ok (.putfield 76, 3) := op_181 lX10_mend 0 76 (by decide +kernel)
theorem dX10_mend_25 : decode cX10_mend 25 = .ok (.aload_n 0, 1) := op_42 lX10_mend (by decide +kernel)
theorem dX10_mend_26 : decode cX10_mend 26 = .ok (.getfield 84, 3) := op_180 lX10_mend 0 84 (by decide +kernel)
theorem dX10_mend_29 : decode cX10_mend 29 = .ok (.aload_n 0, 1) := op_42 lX10_mend (by decide +kernel)
theorem dX10_mend_30 : decode cX10_mend 30 = .ok (.getfield 72, 3) := op_180 lX10_mend 0 72 (by decide +kernel)
theorem dX10_mend_33 : decode cX10_mend 33 = .ok (.aload_n 0, 1) := op_42 lX10_mend (by decide +kernel)
theorem dX10_mend_34 : decode cX10_mend 34 = .ok (.getfield 84, 3) := op_180 lX10_mend 0 84 (by decide +kernel)
theorem dX10_mend_37 : decode cX10_mend 37 = .ok (.aload_n 0, 1) := op_42 lX10_mend (by decide +kernel)
theorem dX10_mend_38 : decode cX10_mend 38 = .ok (.getfield 76, 3) := op_180 lX10_mend 0 76 (by decide +kernel)
theorem dX10_mend_41 : decode cX10_mend 41 = .ok (.invokevirtual 88, 3) := op_182 lX10_mend 0 88 (by decide +kernel)
theorem dX10_mend_44 : decode cX10_mend 44 = .ok (.invokevirtual 217, 3) := op_182 lX10_mend 0 217 (by decide +kernel)
theorem dX10_mend_47 : decode cX10_mend 47 = .ok (.ireturn, 1) := op_172 lX10_mend (by decide +kernel)
def nX10_mended : Nat := 0xac4c00b42a
theorem lX10_mended : cX10_mended.data.toList = unp nX10_mended 5 0 := by decide +kernel
theorem dX10_mended_0 : decode cX10_mended 0 = .ok (.aload_n 0, 1) := op_42 lX10_mended (by decide +kernel)
theorem dX10_mended_1 : decode cX10_mended 1 = .ok (.getfield 76, 3) := op_180 lX10_mended 0 76 (by decide +kernel)
theorem dX10_mended_4 : decode cX10_mended 4 = .ok (.ireturn, 1) := op_172 lX10_mended (by decide +kernel)
def nX10_crossed : Nat := 0xace100b61d5400b42a2800b42a0f00a7e000b62800b42a0d00a0021ddd00b61c1b5e00b42a5400b42a2800b42aacfe100600a01c1b0800999800b61c1b2a
theorem lX10_crossed : cX10_crossed.data.toList = unp nX10_crossed 62 0 := by decide +kernel
theorem dX10_crossed_0 : decode cX10_crossed 0 = .ok (.aload_n 0, 1) := op_42 lX10_crossed (by decide +kernel)
theorem dX10_crossed_1 : decode cX10_crossed 1 = .ok (.iload_n 1, 1) := op_27 lX10_crossed (by decide +kernel)
theorem dX10_crossed_2 : decode cX10_crossed 2 = .ok (.iload_n 2, 1) := op_28 lX10_crossed (by decide +kernel)
theorem dX10_crossed_3 : decode cX10_crossed 3 = .ok (.invokevirtual 152, 3) := op_182 lX10_crossed 0 152 (by decide +kernel)
theorem dX10_crossed_6 : decode cX10_crossed 6 = .ok (.ifCond .eq 8, 3) := op_153 lX10_crossed 0 8 (by decide +kernel)
theorem dX10_crossed_9 : decode cX10_crossed 9 = .ok (.iload_n 1, 1) := op_27 lX10_crossed (by decide +kernel)
theorem dX10_crossed_10 : decode cX10_crossed 10 = .ok (.iload_n 2, 1) := op_28 lX10_crossed (by decide +kernel)
theorem dX10_crossed_11 : decode cX10_crossed 11 = .ok (.if_icmp .ne 6, 3) := op_160 lX10_crossed 0 6 (by decide +kernel)
theorem dX10_crossed_14 : decode cX10_crossed 14 = .ok (.bipush (-2), 2) := op_16 lX10_crossed 254 (by decide +kernel)
theorem dX10_crossed_16 : decode cX10_crossed 16 = .ok (.ireturn, 1) := op_172 lX10_crossed (by decide +kernel)
theorem dX10_crossed_17 : decode cX10_crossed 17 = .ok (.aload_n 0, 1) := op_42 lX10_crossed (by decide +kernel)
theorem dX10_crossed_18 : decode cX10_crossed 18 = .ok (.getfield 40, 3) := op_180 lX10_crossed 0 40 (by decide +kernel)
theorem dX10_crossed_21 : decode cX10_crossed 21 = .ok (.aload_n 0, 1) := op_42 lX10_crossed (by decide +kernel)
theorem dX10_crossed_22 : decode cX10_crossed 22 = .ok (.getfield 84, 3) := op_180 lX10_crossed 0 84 (by decide +kernel)
theorem dX10_crossed_25 : decode cX10_crossed 25 = .ok (.aload_n 0, 1) := op_42 lX10_crossed (by decide +kernel)
theorem dX10_crossed_26 : decode cX10_crossed 26 = .ok (.getfield 94, 3) := op_180 lX10_crossed 0 94 (by decide +kernel)
theorem dX10_crossed_29 : decode cX10_crossed 29 = .ok (.iload_n 1, 1) := op_27 lX10_crossed (by decide +kernel)
theorem dX10_crossed_30 : decode cX10_crossed 30 = .ok (.iload_n 2, 1) := op_28 lX10_crossed (by decide +kernel)
theorem dX10_crossed_31 : decode cX10_crossed 31 = .ok (.invokevirtual 221, 3) := op_182 lX10_crossed 0 221 (by decide +kernel)
theorem dX10_crossed_34 : decode cX10_crossed 34 = .ok (.iload_n 3, 1) := op_29 lX10_crossed (by decide +kernel)
theorem dX10_crossed_35 : decode cX10_crossed 35 = .ok (.iconst (-1), 1) := op_2 lX10_crossed (by decide +kernel)
theorem dX10_crossed_36 : decode cX10_crossed 36 = .ok (.if_icmp .ne 13, 3) := op_160 lX10_crossed 0 13 (by decide +kernel)
theorem dX10_crossed_39 : decode cX10_crossed 39 = .ok (.aload_n 0, 1) := op_42 lX10_crossed (by decide +kernel)
theorem dX10_crossed_40 : decode cX10_crossed 40 = .ok (.getfield 40, 3) := op_180 lX10_crossed 0 40 (by decide +kernel)
theorem dX10_crossed_43 : decode cX10_crossed 43 = .ok (.invokevirtual 224, 3) := op_182 lX10_crossed 0 224 (by decide +kernel)
theorem dX10_crossed_46 : decode cX10_crossed 46 = .ok (.goto 15, 3) := op_167 lX10_crossed 0 15 (by decide +kernel)
theorem dX10_crossed_49 : decode cX10_crossed 49 = .ok (.aload_n 0, 1) := op_42 lX10_crossed (by decide +kernel)
theorem dX10_crossed_50 : decode cX10_crossed 50 = .ok (.getfield 40, 3) := op_180 lX10_crossed 0 40 (by decide +kernel)
theorem dX10_crossed_53 : decode cX10_crossed 53 = .ok (.aload_n 0, 1) := op_42 lX10_crossed (by decide +kernel)
theorem dX10_crossed_54 : decode cX10_crossed 54 = .ok (.getfield 84, 3) := op_180 lX10_crossed 0 84 (by decide +kernel)
theorem dX10_crossed_57 : decode cX10_crossed 57 = .ok (.iload_n 3, 1) := op_29 lX10_crossed (by decide +kernel)
theorem dX10_crossed_58 : decode cX10_crossed 58 = .ok (.invokevirtual 225, 3) := op_182 lX10_crossed 0 225 (by decide +kernel)
theorem dX10_crossed_61 : decode cX10_crossed 61 = .ok (.ireturn, 1) := op_172 lX10_crossed (by decide +kernel)
def nX10_side : Nat := 0xac040400a7030700a2a600b61c1b5400b42aa600b604151b5400b42aac020500a00204150436e400b61d5400b42a2800b42add00b61c1b5e00b42a5400b42a2800b42aacfe100600a01c1b0800999800b61c1b2a
theorem lX10_side : cX10_side.data.toList = unp nX10_side 84 0 := by decide +kernel
theorem dX10_side_0 : decode cX10_side 0 = .ok (.aload_n 0, 1) := op_42 lX10_side (by decide +kernel)
theorem dX10_side_1 : decode cX10_side 1 = .ok (.iload_n 1, 1) := op_27 lX10_side (by decide +kernel)
theorem dX10_side_2 : decode cX10_side 2 = .ok (.iload_n 2, 1) := op_28 lX10_side (by decide +kernel)
theorem dX10_side_3 : decode cX10_side 3 = .ok (.invokevirtual 152, 3) := op_182 lX10_side 0 152 (by decide +kernel)
theorem dX10_side_6 : decode cX10_side 6 = .ok (.ifCond .eq 8, 3) := op_153 lX10_side 0 8 (by decide +kernel)
theorem dX10_side_9 : decode cX10_side 9 = .ok (.iload_n 1, 1) := op_27 lX10_side (by decide +kernel)
theorem dX10_side_10 : decode cX10_side 10 = .ok (.iload_n 2, 1) := op_28 lX10_side (by decide +kernel)
theorem dX10_side_11 : decode cX10_side 11 = .ok (.if_icmp .ne 6, 3) := op_160 lX10_side 0 6 (by decide +kernel)
theorem dX10_side_14 : decode cX10_side 14 = .ok (.bipush (-2), 2) := op_16 lX10_side 254 (by decide +kernel)
theorem dX10_side_16 : decode cX10_side 16 = .ok (.ireturn, 1) := op_172 lX10_side (by decide +kernel)
theorem dX10_side_17 : decode cX10_side 17 = .ok (.aload_n 0, 1) := op_42 lX10_side (by decide +kernel)
theorem dX10_side_18 : decode cX10_side 18 = .ok (.getfield 40, 3) := op_180 lX10_side 0 40 (by decide +kernel)
theorem dX10_side_21 : decode cX10_side 21 = .ok (.aload_n 0, 1) := op_42 lX10_side (by decide +kernel)
theorem dX10_side_22 : decode cX10_side 22 = .ok (.getfield 84, 3) := op_180 lX10_side 0 84 (by decide +kernel)
theorem dX10_side_25 : decode cX10_side 25 = .ok (.aload_n 0, 1) := op_42 lX10_side (by decide +kernel)
theorem dX10_side_26 : decode cX10_side 26 = .ok (.getfield 94, 3) := op_180 lX10_side 0 94 (by decide +kernel)
theorem dX10_side_29 : decode cX10_side 29 = .ok (.iload_n 1, 1) := op_27 lX10_side (by decide +kernel)
theorem dX10_side_30 : decode cX10_side 30 = .ok (.iload_n 2, 1) := op_28 lX10_side (by decide +kernel)
theorem dX10_side_31 : decode cX10_side 31 = .ok (.invokevirtual 221, 3) := op_182 lX10_side 0 221 (by decide +kernel)
theorem dX10_side_34 : decode cX10_side 34 = .ok (.aload_n 0, 1) := op_42 lX10_side (by decide +kernel)
theorem dX10_side_35 : decode cX10_side 35 = .ok (.getfield 40, 3) := op_180 lX10_side 0 40 (by decide +kernel)
theorem dX10_side_38 : decode cX10_side 38 = .ok (.aload_n 0, 1) := op_42 lX10_side (by decide +kernel)
theorem dX10_side_39 : decode cX10_side 39 = .ok (.getfield 84, 3) := op_180 lX10_side 0 84 (by decide +kernel)
theorem dX10_side_42 : decode cX10_side 42 = .ok (.iload_n 3, 1) := op_29 lX10_side (by decide +kernel)
theorem dX10_side_43 : decode cX10_side 43 = .ok (.invokevirtual 228, 3) := op_182 lX10_side 0 228 (by decide +kernel)
theorem dX10_side_46 : decode cX10_side 46 = .ok (.istore 4, 2) := op_54 lX10_side (by decide +kernel)
theorem dX10_side_48 : decode cX10_side 48 = .ok (.iload 4, 2) := op_21 lX10_side (by decide +kernel)
theorem dX10_side_50 : decode cX10_side 50 = .ok (.iconst (-1), 1) := op_2 lX10_side (by decide +kernel)
theorem dX10_side_51 : decode cX10_side 51 = .ok (.if_icmp .ne 5, 3) := op_160 lX10_side 0 5 (by decide +kernel)
theorem dX10_side_54 : decode cX10_side 54 = .ok (.iconst (-1), 1) := op_2 lX10_side (by decide +kernel)
theorem dX10_side_55 : decode cX10_side 55 = .ok (.ireturn, 1) := op_172 lX10_side (by decide +kernel)
theorem dX10_side_56 : decode cX10_side 56 = .ok (.aload_n 0, 1) := op_42 lX10_side (by decide +kernel)
theorem dX10_side_57 : decode cX10_side 57 = .ok (.getfield 84, 3) := op_180 lX10_side 0 84 (by decide +kernel)
theorem dX10_side_60 : decode cX10_side 60 = .ok (.iload_n 1, 1) := op_27 lX10_side (by decide +kernel)
theorem dX10_side_61 : decode cX10_side 61 = .ok (.iload 4, 2) := op_21 lX10_side (by decide +kernel)
theorem dX10_side_63 : decode cX10_side 63 = .ok (.invokevirtual 166, 3) := op_182 lX10_side 0 166 (by decide +kernel)
theorem dX10_side_66 : decode cX10_side 66 = .ok (.aload_n 0, 1) := op_42 lX10_side (by decide +kernel)
theorem dX10_side_67 : decode cX10_side 67 = .ok (.getfield 84, 3) := op_180 lX10_side 0 84 (by decide +kernel)
theorem dX10_side_70 : decode cX10_side 70 = .ok (.iload_n 1, 1) := op_27 lX10_side (by decide +kernel)
theorem dX10_side_71 : decode cX10_side 71 = .ok (.iload_n 2, 1) := op_28 lX10_side (by decide +kernel)
theorem dX10_side_72 : decode cX10_side 72 = .ok (.invokevirtual 166, 3) := op_182 lX10_side 0 166 (by decide +kernel)
theorem dX10_side_75 : decode cX10_side 75 = .ok (.if_icmp .ge 7, 3) := op_162 lX10_side 0 7 (by decide +kernel)
theorem dX10_side_78 : decode cX10_side 78 = .ok (.iconst 0, 1) := op_3 lX10_side (by decide +kernel)
theorem dX10_side_79 : decode cX10_side 79 = .ok (.goto 4, 3) := op_167 lX10_side 0 4 (by decide +kernel)
theorem dX10_side_82 : decode cX10_side 82 = .ok (.iconst 1, 1) := op_4 lX10_side (by decide +kernel)
theorem dX10_side_83 : decode cX10_side 83 = .ok (.ireturn, 1) := op_172 lX10_side (by decide +kernel)
def nX10_greatest : Nat := 0xacea00b65800b604152d2d0d00a704150800a0041c0436e700b62dacfe100600a4041c08009b1c0c00c62d4e5000b61b1300b42a
theorem lX10_greatest : cX10_greatest.data.toList = unp nX10_greatest 52 0 := by decide +kernel
theorem dX10_greatest_0 : decode cX10_greatest 0 = .ok (.aload_n 0, 1) := op_42 lX10_greatest (by decide +kernel)
theorem dX10_greatest_1 : decode cX10_greatest 1 = .ok (.getfield 19, 3) := op_180 lX10_greatest 0 19 (by decide +kernel)
theorem dX10_greatest_4 : decode cX10_greatest 4 = .ok (.iload_n 1, 1) := op_27 lX10_greatest (by decide +kernel)
theorem dX10_greatest_5 : decode cX10_greatest 5 = .ok (.invokevirtual 80, 3) := op_182 lX10_greatest 0 80 (by decide +kernel)
theorem dX10_greatest_8 : decode cX10_greatest 8 = .ok (.astore_n 3, 1) := op_78 lX10_greatest (by decide +kernel)
theorem dX10_greatest_9 : decode cX10_greatest 9 = .ok (.aload_n 3, 1) := op_45 lX10_greatest (by decide +kernel)
theorem dX10_greatest_10 : decode cX10_greatest 10 = .ok (.ifnull 12, 3) := op_198 lX10_greatest 0 12 (by decide +kernel)
theorem dX10_greatest_13 : decode cX10_greatest 13 = .ok (.iload_n 2, 1) := op_28 lX10_greatest (by decide +kernel)
theorem dX10_greatest_14 : decode cX10_greatest 14 = .ok (.ifCond .lt 8, 3) := op_155 lX10_greatest 0 8 (by decide +kernel)
theorem dX10_greatest_17 : decode cX10_greatest 17 = .ok (.iload_n 2, 1) := op_28 lX10_greatest (by decide +kernel)
theorem dX10_greatest_18 : decode cX10_greatest 18 = .ok (.iconst 1, 1) := op_4 lX10_greatest (by decide +kernel)
theorem dX10_greatest_19 : decode cX10_greatest 19 = .ok (.if_icmp .le 6, 3) := op_164 lX10_greatest 0 6 (by decide +kernel)
theorem dX10_greatest_22 : decode cX10_greatest 22 = .ok (.bipush (-2), 2) := op_16 lX10_greatest 254 (by decide +kernel)
theorem dX10_greatest_24 : decode cX10_greatest 24 = .ok (.ireturn, 1) := op_172 lX10_greatest (by decide +kernel)
theorem dX10_greatest_25 : decode cX10_greatest 25 = .ok (.aload_n 3, 1) := op_45 lX10_greatest (by decide +kernel)
theorem dX10_greatest_26 : decode cX10_greatest 26 = .ok (.invokevirtual 231, 3) := op_182 lX10_greatest 0 231 (by decide +kernel)
theorem dX10_greatest_29 : decode cX10_greatest 29 = .ok (.istore 4, 2) := op_54 lX10_greatest (by decide +kernel)
theorem dX10_greatest_31 : decode cX10_greatest 31 = .ok (.iload_n 2, 1) := op_28 lX10_greatest (by decide +kernel)
theorem dX10_greatest_32 : decode cX10_greatest 32 = .ok (.iconst 1, 1) := op_4 lX10_greatest (by decide +kernel)
theorem dX10_greatest_33 : decode cX10_greatest 33 = .ok (.if_icmp .ne 8, 3) := op_160 lX10_greatest 0 8 (by decide +kernel)
theorem dX10_greatest_36 : decode cX10_greatest 36 = .ok (.iload 4, 2) := op_21 lX10_greatest (by decide +kernel)
theorem dX10_greatest_38 : decode cX10_greatest 38 = .ok (.goto 13, 3) := op_167 lX10_greatest 0 13 (by decide +kernel)
theorem dX10_greatest_41 : decode cX10_greatest 41 = .ok (.aload_n 3, 1) := op_45 lX10_greatest (by decide +kernel)
theorem dX10_greatest_42 : decode cX10_greatest 42 = .ok (.aload_n 3, 1) := op_45 lX10_greatest (by decide +kernel)
theorem dX10_greatest_43 : decode cX10_greatest 43 = .ok (.iload 4, 2) := op_21 lX10_greatest (by decide +kernel)
theorem dX10_greatest_45 : decode cX10_greatest 45 = .ok (.invokevirtual 88, 3) := op_182 lX10_greatest 0 88 (by decide +kernel)
theorem dX10_greatest_48 : decode cX10_greatest 48 = .ok (.invokevirtual 234, 3) := op_182 lX10_greatest 0 234 (by decide +kernel)
theorem dX10_greatest_51 : decode cX10_greatest 51 = .ok (.ireturn, 1) := op_172 lX10_greatest (by decide +kernel)
def nX10_spread : Nat := 0xacfe100500a7ed00b61d1c1b5400b42a1000999800b61c1b2a
theorem lX10_spread : cX10_spread.data.toList = unp nX10_spread 25 0 := by decide +kernel
theorem dX10_spread_0 : decode cX10_spread 0 = .ok (.aload_n 0, 1) := op_42 lX10_spread (by decide +kernel)
theorem dX10_spread_1 : decode cX10_spread 1 = .ok (.iload_n 1, 1) := op_27 lX10_spread (by decide +kernel)
theorem dX10_spread_2 : decode cX10_spread 2 = .ok (.iload_n 2, 1) := op_28 lX10_spread (by decide +kernel)
theorem dX10_spread_3 : decode cX10_spread 3 = .ok (.invokevirtual 152, 3) := op_182 lX10_spread 0 152 (by decide +kernel)
theorem dX10_spread_6 : decode cX10_spread 6 = .ok (.ifCond .eq 16, 3) := op_153 lX10_spread 0 16 (by decide +kernel)
theorem dX10_spread_9 : decode cX10_spread 9 = .ok (.aload_n 0, 1) := op_42 lX10_spread (by decide +kernel)
theorem dX10_spread_10 : decode cX10_spread 10 = .ok (.getfield 84, 3) := op_180 lX10_spread 0 84 (by decide +kernel)
theorem dX10_spread_13 : decode cX10_spread 13 = .ok (.iload_n 1, 1) := op_27 lX10_spread (by decide +kernel)
theorem dX10_spread_14 : decode cX10_spread 14 = .ok (.iload_n 2, 1) := op_28 lX10_spread (by decide +kernel)
theorem dX10_spread_15 : decode cX10_spread 15 = .ok (.iload_n 3, 1) := op_29 lX10_spread (by decide +kernel)
theorem dX10_spread_16 : decode cX10_spread 16 = .ok (.invokevirtual 237, 3) := op_182 lX10_spread 0 237 (by decide +kernel)
theorem dX10_spread_19 : decode cX10_spread 19 = .ok (.goto 5, 3) := op_167 lX10_spread 0 5 (by decide +kernel)
theorem dX10_spread_22 : decode cX10_spread 22 = .ok (.bipush (-2), 2) := op_16 lX10_spread 254 (by decide +kernel)
theorem dX10_spread_24 : decode cX10_spread 24 = .ok (.ireturn, 1) := op_172 lX10_spread (by decide +kernel)
def nX10_period : Nat := 0xacfe100500a7f700b61b4800b42a3600b42a120099f300b61b4800b42a3600b42a6d00b6030a00b42a3cf000b64800b42a0a00b42a
theorem lX10_period : cX10_period.data.toList = unp nX10_period 53 0 := by decide +kernel
theorem dX10_period_0 : decode cX10_period 0 = .ok (.aload_n 0, 1) := op_42 lX10_period (by decide +kernel)
theorem dX10_period_1 : decode cX10_period 1 = .ok (.getfield 10, 3) := op_180 lX10_period 0 10 (by decide +kernel)
theorem dX10_period_4 : decode cX10_period 4 = .ok (.aload_n 0, 1) := op_42 lX10_period (by decide +kernel)
theorem dX10_period_5 : decode cX10_period 5 = .ok (.getfield 72, 3) := op_180 lX10_period 0 72 (by decide +kernel)
theorem dX10_period_8 : decode cX10_period 8 = .ok (.invokevirtual 240, 3) := op_182 lX10_period 0 240 (by decide +kernel)
theorem dX10_period_11 : decode cX10_period 11 = .ok (.istore_n 1, 1) := op_60 lX10_period (by decide +kernel)
theorem dX10_period_12 : decode cX10_period 12 = .ok (.aload_n 0, 1) := op_42 lX10_period (by decide +kernel)
theorem dX10_period_13 : decode cX10_period 13 = .ok (.getfield 10, 3) := op_180 lX10_period 0 10 (by decide +kernel)
theorem dX10_period_16 : decode cX10_period 16 = .ok (.iconst 0, 1) := op_3 lX10_period (by decide +kernel)
theorem dX10_period_17 : decode cX10_period 17 = .ok (.invokevirtual 109, 3) := op_182 lX10_period 0 109 (by decide +kernel)
theorem dX10_period_20 : decode cX10_period 20 = .ok (.aload_n 0, 1) := op_42 lX10_period (by decide +kernel)
theorem dX10_period_21 : decode cX10_period 21 = .ok (.getfield 54, 3) := op_180 lX10_period 0 54 (by decide +kernel)
theorem dX10_period_24 : decode cX10_period 24 = .ok (.aload_n 0, 1) := op_42 lX10_period (by decide +kernel)
theorem dX10_period_25 : decode cX10_period 25 = .ok (.getfield 72, 3) := op_180 lX10_period 0 72 (by decide +kernel)
theorem dX10_period_28 : decode cX10_period 28 = .ok (.iload_n 1, 1) := op_27 lX10_period (by decide +kernel)
theorem dX10_period_29 : decode cX10_period 29 = .ok (.invokevirtual 243, 3) := op_182 lX10_period 0 243 (by decide +kernel)
theorem dX10_period_32 : decode cX10_period 32 = .ok (.ifCond .eq 18, 3) := op_153 lX10_period 0 18 (by decide +kernel)
theorem dX10_period_35 : decode cX10_period 35 = .ok (.aload_n 0, 1) := op_42 lX10_period (by decide +kernel)
theorem dX10_period_36 : decode cX10_period 36 = .ok (.getfield 54, 3) := op_180 lX10_period 0 54 (by decide +kernel)
theorem dX10_period_39 : decode cX10_period 39 = .ok (.aload_n 0, 1) := op_42 lX10_period (by decide +kernel)
theorem dX10_period_40 : decode cX10_period 40 = .ok (.getfield 72, 3) := op_180 lX10_period 0 72 (by decide +kernel)
theorem dX10_period_43 : decode cX10_period 43 = .ok (.iload_n 1, 1) := op_27 lX10_period (by decide +kernel)
theorem dX10_period_44 : decode cX10_period 44 = .ok (.invokevirtual 247, 3) := op_182 lX10_period 0 247 (by decide +kernel)
theorem dX10_period_47 : decode cX10_period 47 = .ok (.goto 5, 3) := op_167 lX10_period 0 5 (by decide +kernel)
theorem dX10_period_50 : decode cX10_period 50 = .ok (.bipush (-2), 2) := op_16 lX10_period 254 (by decide +kernel)
theorem dX10_period_52 : decode cX10_period 52 = .ok (.ireturn, 1) := op_172 lX10_period (by decide +kernel)
def nX10_ofCut : Nat := 0xacf700b68a00b65400b42a4800b42a3600b42ae0ffa70101844fa300b61b5e00b42a5400b42a1b4800b42a1b00a28a00b65400b42a1b3c03
theorem lX10_ofCut : cX10_ofCut.data.toList = unp nX10_ofCut 56 0 := by decide +kernel
theorem dX10_ofCut_0 : decode cX10_ofCut 0 = .ok (.iconst 0, 1) := op_3 lX10_ofCut (by decide +kernel)
theorem dX10_ofCut_1 : decode cX10_ofCut 1 = .ok (.istore_n 1, 1) := op_60 lX10_ofCut (by decide +kernel)
theorem dX10_ofCut_2 : decode cX10_ofCut 2 = .ok (.iload_n 1, 1) := op_27 lX10_ofCut (by decide +kernel)
theorem dX10_ofCut_3 : decode cX10_ofCut 3 = .ok (.aload_n 0, 1) := op_42 lX10_ofCut (by decide +kernel)
theorem dX10_ofCut_4 : decode cX10_ofCut 4 = .ok (.getfield 84, 3) := op_180 lX10_ofCut 0 84 (by decide +kernel)
theorem dX10_ofCut_7 : decode cX10_ofCut 7 = .ok (.invokevirtual 138, 3) := op_182 lX10_ofCut 0 138 (by decide +kernel)
theorem dX10_ofCut_10 : decode cX10_ofCut 10 = .ok (.if_icmp .ge 27, 3) := op_162 lX10_ofCut 0 27 (by decide +kernel)
theorem dX10_ofCut_13 : decode cX10_ofCut 13 = .ok (.aload_n 0, 1) := op_42 lX10_ofCut (by decide +kernel)
theorem dX10_ofCut_14 : decode cX10_ofCut 14 = .ok (.getfield 72, 3) := op_180 lX10_ofCut 0 72 (by decide +kernel)
theorem dX10_ofCut_17 : decode cX10_ofCut 17 = .ok (.iload_n 1, 1) := op_27 lX10_ofCut (by decide +kernel)
theorem dX10_ofCut_18 : decode cX10_ofCut 18 = .ok (.aload_n 0, 1) := op_42 lX10_ofCut (by decide +kernel)
theorem dX10_ofCut_19 : decode cX10_ofCut 19 = .ok (.getfield 84, 3) := op_180 lX10_ofCut 0 84 (by decide +kernel)
theorem dX10_ofCut_22 : decode cX10_ofCut 22 = .ok (.aload_n 0, 1) := op_42 lX10_ofCut (by decide +kernel)
theorem dX10_ofCut_23 : decode cX10_ofCut 23 = .ok (.getfield 94, 3) := op_180 lX10_ofCut 0 94 (by decide +kernel)
theorem dX10_ofCut_26 : decode cX10_ofCut 26 = .ok (.iload_n 1, 1) := op_27 lX10_ofCut (by decide +kernel)
theorem dX10_ofCut_27 : decode cX10_ofCut 27 = .ok (.invokevirtual 163, 3) := op_182 lX10_ofCut 0 163 (by decide +kernel)
theorem dX10_ofCut_30 : decode cX10_ofCut 30 = .ok (.iastore, 1) := op_79 lX10_ofCut (by decide +kernel)
theorem dX10_ofCut_31 : decode cX10_ofCut 31 = .ok (.iinc 1 1, 3) := op_132 lX10_ofCut 1 (by decide +kernel)
theorem dX10_ofCut_34 : decode cX10_ofCut 34 = .ok (.goto (-32), 3) := op_167 lX10_ofCut 255 224 (by decide +kernel)
theorem dX10_ofCut_37 : decode cX10_ofCut 37 = .ok (.aload_n 0, 1) := op_42 lX10_ofCut (by decide +kernel)
theorem dX10_ofCut_38 : decode cX10_ofCut 38 = .ok (.getfield 54, 3) := op_180 lX10_ofCut 0 54 (by decide +kernel)
theorem dX10_ofCut_41 : decode cX10_ofCut 41 = .ok (.aload_n 0, 1) := op_42 lX10_ofCut (by decide +kernel)
theorem dX10_ofCut_42 : decode cX10_ofCut 42 = .ok (.getfield 72, 3) := op_180 lX10_ofCut 0 72 (by decide +kernel)
theorem dX10_ofCut_45 : decode cX10_ofCut 45 = .ok (.aload_n 0, 1) := op_42 lX10_ofCut (by decide +kernel)
theorem dX10_ofCut_46 : decode cX10_ofCut 46 = .ok (.getfield 84, 3) := op_180 lX10_ofCut 0 84 (by decide +kernel)
theorem dX10_ofCut_49 : decode cX10_ofCut 49 = .ok (.invokevirtual 138, 3) := op_182 lX10_ofCut 0 138 (by decide +kernel)
theorem dX10_ofCut_52 : decode cX10_ofCut 52 = .ok (.invokevirtual 247, 3) := op_182 lX10_ofCut 0 247 (by decide +kernel)
theorem dX10_ofCut_55 : decode cX10_ofCut 55 = .ok (.ireturn, 1) := op_172 lX10_ofCut (by decide +kernel)
def nX10_of : Nat := 0xacfe100500a7fc00b61b3600b42a0e0099f900b61b3600b42a
theorem lX10_of : cX10_of.data.toList = unp nX10_of 25 0 := by decide +kernel
theorem dX10_of_0 : decode cX10_of 0 = .ok (.aload_n 0, 1) := op_42 lX10_of (by decide +kernel)
theorem dX10_of_1 : decode cX10_of 1 = .ok (.getfield 54, 3) := op_180 lX10_of 0 54 (by decide +kernel)
theorem dX10_of_4 : decode cX10_of 4 = .ok (.iload_n 1, 1) := op_27 lX10_of (by decide +kernel)
theorem dX10_of_5 : decode cX10_of 5 = .ok (.invokevirtual 249, 3) := op_182 lX10_of 0 249 (by decide +kernel)
theorem dX10_of_8 : decode cX10_of 8 = .ok (.ifCond .eq 14, 3) := op_153 lX10_of 0 14 (by decide +kernel)
theorem dX10_of_11 : decode cX10_of 11 = .ok (.aload_n 0, 1) := op_42 lX10_of (by decide +kernel)
theorem dX10_of_12 : decode cX10_of 12 = .ok (.getfield 54, 3) := op_180 lX10_of 0 54 (by decide +kernel)
theorem dX10_of_15 : decode cX10_of 15 = .ok (.iload_n 1, 1) := op_27 lX10_of (by decide +kernel)
theorem dX10_of_16 : decode cX10_of 16 = .ok (.invokevirtual 252, 3) := op_182 lX10_of 0 252 (by decide +kernel)
theorem dX10_of_19 : decode cX10_of 19 = .ok (.goto 5, 3) := op_167 lX10_of 0 5 (by decide +kernel)
theorem dX10_of_22 : decode cX10_of 22 = .ok (.bipush (-2), 2) := op_16 lX10_of 254 (by decide +kernel)
theorem dX10_of_24 : decode cX10_of 24 = .ok (.ireturn, 1) := op_172 lX10_of (by decide +kernel)
def nX10_along : Nat := 0xad0101b61c1b3600b42aadff00140700a40c101c09009b1c0d0099f900b61b3600b42a
theorem lX10_along : cX10_along.data.toList = unp nX10_along 35 0 := by decide +kernel
theorem dX10_along_0 : decode cX10_along 0 = .ok (.aload_n 0, 1) := op_42 lX10_along (by decide +kernel)
theorem dX10_along_1 : decode cX10_along 1 = .ok (.getfield 54, 3) := op_180 lX10_along 0 54 (by decide +kernel)
theorem dX10_along_4 : decode cX10_along 4 = .ok (.iload_n 1, 1) := op_27 lX10_along (by decide +kernel)
theorem dX10_along_5 : decode cX10_along 5 = .ok (.invokevirtual 249, 3) := op_182 lX10_along 0 249 (by decide +kernel)
theorem dX10_along_8 : decode cX10_along 8 = .ok (.ifCond .eq 13, 3) := op_153 lX10_along 0 13 (by decide +kernel)
theorem dX10_along_11 : decode cX10_along 11 = .ok (.iload_n 2, 1) := op_28 lX10_along (by decide +kernel)
theorem dX10_along_12 : decode cX10_along 12 = .ok (.ifCond .lt 9, 3) := op_155 lX10_along 0 9 (by decide +kernel)
theorem dX10_along_15 : decode cX10_along 15 = .ok (.iload_n 2, 1) := op_28 lX10_along (by decide +kernel)
theorem dX10_along_16 : decode cX10_along 16 = .ok (.bipush 12, 2) := op_16 lX10_along 12 (by decide +kernel)
theorem dX10_along_18 : decode cX10_along 18 = .ok (.if_icmp .le 7, 3) := op_164 lX10_along 0 7 (by decide +kernel)
theorem dX10_along_21 : decode cX10_along 21 = .ok (.ldc2_w 255, 3) := op_20 lX10_along 0 255 (by decide +kernel)
theorem dX10_along_24 : decode cX10_along 24 = .ok (.lreturn, 1) := op_173 lX10_along (by decide +kernel)
theorem dX10_along_25 : decode cX10_along 25 = .ok (.aload_n 0, 1) := op_42 lX10_along (by decide +kernel)
theorem dX10_along_26 : decode cX10_along 26 = .ok (.getfield 54, 3) := op_180 lX10_along 0 54 (by decide +kernel)
theorem dX10_along_29 : decode cX10_along 29 = .ok (.iload_n 1, 1) := op_27 lX10_along (by decide +kernel)
theorem dX10_along_30 : decode cX10_along 30 = .ok (.iload_n 2, 1) := op_28 lX10_along (by decide +kernel)
theorem dX10_along_31 : decode cX10_along 31 = .ok (.invokevirtual 257, 3) := op_182 lX10_along 1 1 (by decide +kernel)
theorem dX10_along_34 : decode cX10_along 34 = .ok (.lreturn, 1) := op_173 lX10_along (by decide +kernel)
def nX10_breaks : Nat := 0xac02ac030400a7040700990b01b61c3600b42aac0801b61c3600b42aac1c270000001e0000001c000000020000000000000038000000000000aa1bac020500a0021c3d0501b63600b42a
theorem lX10_breaks : cX10_breaks.data.toList = unp nX10_breaks 74 0 := by decide +kernel
theorem dX10_breaks_0 : decode cX10_breaks 0 = .ok (.aload_n 0, 1) := op_42 lX10_breaks (by decide +kernel)
theorem dX10_breaks_1 : decode cX10_breaks 1 = .ok (.getfield 54, 3) := op_180 lX10_breaks 0 54 (by decide +kernel)
theorem dX10_breaks_4 : decode cX10_breaks 4 = .ok (.invokevirtual 261, 3) := op_182 lX10_breaks 1 5 (by decide +kernel)
theorem dX10_breaks_7 : decode cX10_breaks 7 = .ok (.istore_n 2, 1) := op_61 lX10_breaks (by decide +kernel)
theorem dX10_breaks_8 : decode cX10_breaks 8 = .ok (.iload_n 2, 1) := op_28 lX10_breaks (by decide +kernel)
theorem dX10_breaks_9 : decode cX10_breaks 9 = .ok (.iconst (-1), 1) := op_2 lX10_breaks (by decide +kernel)
theorem dX10_breaks_10 : decode cX10_breaks 10 = .ok (.if_icmp .ne 5, 3) := op_160 lX10_breaks 0 5 (by decide +kernel)
theorem dX10_breaks_13 : decode cX10_breaks 13 = .ok (.iconst (-1), 1) := op_2 lX10_breaks (by decide +kernel)
theorem dX10_breaks_14 : decode cX10_breaks 14 = .ok (.ireturn, 1) := op_172 lX10_breaks (by decide +kernel)
theorem dX10_breaks_15 : decode cX10_breaks 15 = .ok (.iload_n 1, 1) := op_27 lX10_breaks (by decide +kernel)
theorem dX10_breaks_16 : decode cX10_breaks 16 = .ok (.tableswitch 56 0 2 #[28, 30, 39], 28) := by decide +kernel
theorem dX10_breaks_44 : decode cX10_breaks 44 = .ok (.iload_n 2, 1) := op_28 lX10_breaks (by decide +kernel)
theorem dX10_breaks_45 : decode cX10_breaks 45 = .ok (.ireturn, 1) := op_172 lX10_breaks (by decide +kernel)
theorem dX10_breaks_46 : decode cX10_breaks 46 = .ok (.aload_n 0, 1) := op_42 lX10_breaks (by decide +kernel)
theorem dX10_breaks_47 : decode cX10_breaks 47 = .ok (.getfield 54, 3) := op_180 lX10_breaks 0 54 (by decide +kernel)
theorem dX10_breaks_50 : decode cX10_breaks 50 = .ok (.iload_n 2, 1) := op_28 lX10_breaks (by decide +kernel)
theorem dX10_breaks_51 : decode cX10_breaks 51 = .ok (.invokevirtual 264, 3) := op_182 lX10_breaks 1 8 (by decide +kernel)
theorem dX10_breaks_54 : decode cX10_breaks 54 = .ok (.ireturn, 1) := op_172 lX10_breaks (by decide +kernel)
theorem dX10_breaks_55 : decode cX10_breaks 55 = .ok (.aload_n 0, 1) := op_42 lX10_breaks (by decide +kernel)
theorem dX10_breaks_56 : decode cX10_breaks 56 = .ok (.getfield 54, 3) := op_180 lX10_breaks 0 54 (by decide +kernel)
theorem dX10_breaks_59 : decode cX10_breaks 59 = .ok (.iload_n 2, 1) := op_28 lX10_breaks (by decide +kernel)
theorem dX10_breaks_60 : decode cX10_breaks 60 = .ok (.invokevirtual 267, 3) := op_182 lX10_breaks 1 11 (by decide +kernel)
theorem dX10_breaks_63 : decode cX10_breaks 63 = .ok (.ifCond .eq 7, 3) := op_153 lX10_breaks 0 7 (by decide +kernel)
theorem dX10_breaks_66 : decode cX10_breaks 66 = .ok (.iconst 1, 1) := op_4 lX10_breaks (by decide +kernel)
theorem dX10_breaks_67 : decode cX10_breaks 67 = .ok (.goto 4, 3) := op_167 lX10_breaks 0 4 (by decide +kernel)
theorem dX10_breaks_70 : decode cX10_breaks 70 = .ok (.iconst 0, 1) := op_3 lX10_breaks (by decide +kernel)
theorem dX10_breaks_71 : decode cX10_breaks 71 = .ok (.ireturn, 1) := op_172 lX10_breaks (by decide +kernel)
theorem dX10_breaks_72 : decode cX10_breaks 72 = .ok (.iconst (-1), 1) := op_2 lX10_breaks (by decide +kernel)
theorem dX10_breaks_73 : decode cX10_breaks 73 = .ok (.ireturn, 1) := op_172 lX10_breaks (by decide +kernel)
def nX10_growth : Nat := 0xad0e01b63600b42a
theorem lX10_growth : cX10_growth.data.toList = unp nX10_growth 8 0 := by decide +kernel
theorem dX10_growth_0 : decode cX10_growth 0 = .ok (.aload_n 0, 1) := op_42 lX10_growth (by decide +kernel)
theorem dX10_growth_1 : decode cX10_growth 1 = .ok (.getfield 54, 3) := op_180 lX10_growth 0 54 (by decide +kernel)
theorem dX10_growth_4 : decode cX10_growth 4 = .ok (.invokevirtual 270, 3) := op_182 lX10_growth 1 14 (by decide +kernel)
theorem dX10_growth_7 : decode cX10_growth 7 = .ok (.lreturn, 1) := op_173 lX10_growth (by decide +kernel)
def nX10_glue : Nat := 0xacfd100500a71501b61b3600b42a0e00991201b61b3600b42aacfe1006009af900b61b3600b42a
theorem lX10_glue : cX10_glue.data.toList = unp nX10_glue 39 0 := by decide +kernel
theorem dX10_glue_0 : decode cX10_glue 0 = .ok (.aload_n 0, 1) := op_42 lX10_glue (by decide +kernel)
theorem dX10_glue_1 : decode cX10_glue 1 = .ok (.getfield 54, 3) := op_180 lX10_glue 0 54 (by decide +kernel)
theorem dX10_glue_4 : decode cX10_glue 4 = .ok (.iload_n 1, 1) := op_27 lX10_glue (by decide +kernel)
theorem dX10_glue_5 : decode cX10_glue 5 = .ok (.invokevirtual 249, 3) := op_182 lX10_glue 0 249 (by decide +kernel)
theorem dX10_glue_8 : decode cX10_glue 8 = .ok (.ifCond .ne 6, 3) := op_154 lX10_glue 0 6 (by decide +kernel)
theorem dX10_glue_11 : decode cX10_glue 11 = .ok (.bipush (-2), 2) := op_16 lX10_glue 254 (by decide +kernel)
theorem dX10_glue_13 : decode cX10_glue 13 = .ok (.ireturn, 1) := op_172 lX10_glue (by decide +kernel)
theorem dX10_glue_14 : decode cX10_glue 14 = .ok (.aload_n 0, 1) := op_42 lX10_glue (by decide +kernel)
theorem dX10_glue_15 : decode cX10_glue 15 = .ok (.getfield 54, 3) := op_180 lX10_glue 0 54 (by decide +kernel)
theorem dX10_glue_18 : decode cX10_glue 18 = .ok (.iload_n 1, 1) := op_27 lX10_glue (by decide +kernel)
theorem dX10_glue_19 : decode cX10_glue 19 = .ok (.invokevirtual 274, 3) := op_182 lX10_glue 1 18 (by decide +kernel)
theorem dX10_glue_22 : decode cX10_glue 22 = .ok (.ifCond .eq 14, 3) := op_153 lX10_glue 0 14 (by decide +kernel)
theorem dX10_glue_25 : decode cX10_glue 25 = .ok (.aload_n 0, 1) := op_42 lX10_glue (by decide +kernel)
theorem dX10_glue_26 : decode cX10_glue 26 = .ok (.getfield 54, 3) := op_180 lX10_glue 0 54 (by decide +kernel)
theorem dX10_glue_29 : decode cX10_glue 29 = .ok (.iload_n 1, 1) := op_27 lX10_glue (by decide +kernel)
theorem dX10_glue_30 : decode cX10_glue 30 = .ok (.invokevirtual 277, 3) := op_182 lX10_glue 1 21 (by decide +kernel)
theorem dX10_glue_33 : decode cX10_glue 33 = .ok (.goto 5, 3) := op_167 lX10_glue 0 5 (by decide +kernel)
theorem dX10_glue_36 : decode cX10_glue 36 = .ok (.bipush (-3), 2) := op_16 lX10_glue 253 (by decide +kernel)
theorem dX10_glue_38 : decode cX10_glue 38 = .ok (.ireturn, 1) := op_172 lX10_glue (by decide +kernel)
def nX10_cutOff : Nat := 0xacfc100500a71b01b61b3600b42a0e00991801b61b3600b42aacfe1006009af900b61b3600b42a
theorem lX10_cutOff : cX10_cutOff.data.toList = unp nX10_cutOff 39 0 := by decide +kernel
theorem dX10_cutOff_0 : decode cX10_cutOff 0 = .ok (.aload_n 0, 1) := op_42 lX10_cutOff (by decide +kernel)
theorem dX10_cutOff_1 : decode cX10_cutOff 1 = .ok (.getfield 54, 3) := op_180 lX10_cutOff 0 54 (by decide +kernel)
theorem dX10_cutOff_4 : decode cX10_cutOff 4 = .ok (.iload_n 1, 1) := op_27 lX10_cutOff (by decide +kernel)
theorem dX10_cutOff_5 : decode cX10_cutOff 5 = .ok (.invokevirtual 249, 3) := op_182 lX10_cutOff 0 249 (by decide +kernel)
theorem dX10_cutOff_8 : decode cX10_cutOff 8 = .ok (.ifCond .ne 6, 3) := op_154 lX10_cutOff 0 6 (by decide +kernel)
theorem dX10_cutOff_11 : decode cX10_cutOff 11 = .ok (.bipush (-2), 2) := op_16 lX10_cutOff 254 (by decide +kernel)
theorem dX10_cutOff_13 : decode cX10_cutOff 13 = .ok (.ireturn, 1) := op_172 lX10_cutOff (by decide +kernel)
theorem dX10_cutOff_14 : decode cX10_cutOff 14 = .ok (.aload_n 0, 1) := op_42 lX10_cutOff (by decide +kernel)
theorem dX10_cutOff_15 : decode cX10_cutOff 15 = .ok (.getfield 54, 3) := op_180 lX10_cutOff 0 54 (by decide +kernel)
theorem dX10_cutOff_18 : decode cX10_cutOff 18 = .ok (.iload_n 1, 1) := op_27 lX10_cutOff (by decide +kernel)
theorem dX10_cutOff_19 : decode cX10_cutOff 19 = .ok (.invokevirtual 280, 3) := op_182 lX10_cutOff 1 24 (by decide +kernel)
theorem dX10_cutOff_22 : decode cX10_cutOff 22 = .ok (.ifCond .eq 14, 3) := op_153 lX10_cutOff 0 14 (by decide +kernel)
theorem dX10_cutOff_25 : decode cX10_cutOff 25 = .ok (.aload_n 0, 1) := op_42 lX10_cutOff (by decide +kernel)
theorem dX10_cutOff_26 : decode cX10_cutOff 26 = .ok (.getfield 54, 3) := op_180 lX10_cutOff 0 54 (by decide +kernel)
theorem dX10_cutOff_29 : decode cX10_cutOff 29 = .ok (.iload_n 1, 1) := op_27 lX10_cutOff (by decide +kernel)
theorem dX10_cutOff_30 : decode cX10_cutOff 30 = .ok (.invokevirtual 283, 3) := op_182 lX10_cutOff 1 27 (by decide +kernel)
theorem dX10_cutOff_33 : decode cX10_cutOff 33 = .ok (.goto 5, 3) := op_167 lX10_cutOff 0 5 (by decide +kernel)
theorem dX10_cutOff_36 : decode cX10_cutOff 36 = .ok (.bipush (-4), 2) := op_16 lX10_cutOff 252 (by decide +kernel)
theorem dX10_cutOff_38 : decode cX10_cutOff 38 = .ok (.ireturn, 1) := op_172 lX10_cutOff (by decide +kernel)
def nX10_core : Nat := 0xac1e01b63600b42a
theorem lX10_core : cX10_core.data.toList = unp nX10_core 8 0 := by decide +kernel
theorem dX10_core_0 : decode cX10_core 0 = .ok (.aload_n 0, 1) := op_42 lX10_core (by decide +kernel)
theorem dX10_core_1 : decode cX10_core 1 = .ok (.getfield 54, 3) := op_180 lX10_core 0 54 (by decide +kernel)
theorem dX10_core_4 : decode cX10_core 4 = .ok (.invokevirtual 286, 3) := op_182 lX10_core 1 30 (by decide +kernel)
theorem dX10_core_7 : decode cX10_core 7 = .ok (.ireturn, 1) := op_172 lX10_core (by decide +kernel)
def nX10_see : Nat := 0xac2701b604151d1c1b3d00b42aacfe1006009a2401b804150b009f1d1c1000999800b61d1c2a1900992101b61b3d00b42a
theorem lX10_see : cX10_see.data.toList = unp nX10_see 49 0 := by decide +kernel
theorem dX10_see_0 : decode cX10_see 0 = .ok (.aload_n 0, 1) := op_42 lX10_see (by decide +kernel)
theorem dX10_see_1 : decode cX10_see 1 = .ok (.getfield 61, 3) := op_180 lX10_see 0 61 (by decide +kernel)
theorem dX10_see_4 : decode cX10_see 4 = .ok (.iload_n 1, 1) := op_27 lX10_see (by decide +kernel)
theorem dX10_see_5 : decode cX10_see 5 = .ok (.invokevirtual 289, 3) := op_182 lX10_see 1 33 (by decide +kernel)
theorem dX10_see_8 : decode cX10_see 8 = .ok (.ifCond .eq 25, 3) := op_153 lX10_see 0 25 (by decide +kernel)
theorem dX10_see_11 : decode cX10_see 11 = .ok (.aload_n 0, 1) := op_42 lX10_see (by decide +kernel)
theorem dX10_see_12 : decode cX10_see 12 = .ok (.iload_n 2, 1) := op_28 lX10_see (by decide +kernel)
theorem dX10_see_13 : decode cX10_see 13 = .ok (.iload_n 3, 1) := op_29 lX10_see (by decide +kernel)
theorem dX10_see_14 : decode cX10_see 14 = .ok (.invokevirtual 152, 3) := op_182 lX10_see 0 152 (by decide +kernel)
theorem dX10_see_17 : decode cX10_see 17 = .ok (.ifCond .eq 16, 3) := op_153 lX10_see 0 16 (by decide +kernel)
theorem dX10_see_20 : decode cX10_see 20 = .ok (.iload_n 2, 1) := op_28 lX10_see (by decide +kernel)
theorem dX10_see_21 : decode cX10_see 21 = .ok (.iload_n 3, 1) := op_29 lX10_see (by decide +kernel)
theorem dX10_see_22 : decode cX10_see 22 = .ok (.if_icmp .eq 11, 3) := op_159 lX10_see 0 11 (by decide +kernel)
theorem dX10_see_25 : decode cX10_see 25 = .ok (.iload 4, 2) := op_21 lX10_see (by decide +kernel)
theorem dX10_see_27 : decode cX10_see 27 = .ok (.invokestatic 292, 3) := op_184 lX10_see 1 36 (by decide +kernel)
theorem dX10_see_30 : decode cX10_see 30 = .ok (.ifCond .ne 6, 3) := op_154 lX10_see 0 6 (by decide +kernel)
theorem dX10_see_33 : decode cX10_see 33 = .ok (.bipush (-2), 2) := op_16 lX10_see 254 (by decide +kernel)
theorem dX10_see_35 : decode cX10_see 35 = .ok (.ireturn, 1) := op_172 lX10_see (by decide +kernel)
theorem dX10_see_36 : decode cX10_see 36 = .ok (.aload_n 0, 1) := op_42 lX10_see (by decide +kernel)
theorem dX10_see_37 : decode cX10_see 37 = .ok (.getfield 61, 3) := op_180 lX10_see 0 61 (by decide +kernel)
theorem dX10_see_40 : decode cX10_see 40 = .ok (.iload_n 1, 1) := op_27 lX10_see (by decide +kernel)
theorem dX10_see_41 : decode cX10_see 41 = .ok (.iload_n 2, 1) := op_28 lX10_see (by decide +kernel)
theorem dX10_see_42 : decode cX10_see 42 = .ok (.iload_n 3, 1) := op_29 lX10_see (by decide +kernel)
theorem dX10_see_43 : decode cX10_see 43 = .ok (.iload 4, 2) := op_21 lX10_see (by decide +kernel)
theorem dX10_see_45 : decode cX10_see 45 = .ok (.invokevirtual 295, 3) := op_182 lX10_see 1 39 (by decide +kernel)
theorem dX10_see_48 : decode cX10_see 48 = .ok (.ireturn, 1) := op_172 lX10_see (by decide +kernel)
def nX10_right : Nat := 0xac2e01b61d1c1b3d00b42aacfe1006009a2401b81d0a00992b01b61c1b3d00b42a1600992101b61b3d00b42a
theorem lX10_right : cX10_right.data.toList = unp nX10_right 44 0 := by decide +kernel
theorem dX10_right_0 : decode cX10_right 0 = .ok (.aload_n 0, 1) := op_42 lX10_right (by decide +kernel)
theorem dX10_right_1 : decode cX10_right 1 = .ok (.getfield 61, 3) := op_180 lX10_right 0 61 (by decide +kernel)
theorem dX10_right_4 : decode cX10_right 4 = .ok (.iload_n 1, 1) := op_27 lX10_right (by decide +kernel)
theorem dX10_right_5 : decode cX10_right 5 = .ok (.invokevirtual 289, 3) := op_182 lX10_right 1 33 (by decide +kernel)
theorem dX10_right_8 : decode cX10_right 8 = .ok (.ifCond .eq 22, 3) := op_153 lX10_right 0 22 (by decide +kernel)
theorem dX10_right_11 : decode cX10_right 11 = .ok (.aload_n 0, 1) := op_42 lX10_right (by decide +kernel)
theorem dX10_right_12 : decode cX10_right 12 = .ok (.getfield 61, 3) := op_180 lX10_right 0 61 (by decide +kernel)
theorem dX10_right_15 : decode cX10_right 15 = .ok (.iload_n 1, 1) := op_27 lX10_right (by decide +kernel)
theorem dX10_right_16 : decode cX10_right 16 = .ok (.iload_n 2, 1) := op_28 lX10_right (by decide +kernel)
theorem dX10_right_17 : decode cX10_right 17 = .ok (.invokevirtual 299, 3) := op_182 lX10_right 1 43 (by decide +kernel)
theorem dX10_right_20 : decode cX10_right 20 = .ok (.ifCond .eq 10, 3) := op_153 lX10_right 0 10 (by decide +kernel)
theorem dX10_right_23 : decode cX10_right 23 = .ok (.iload_n 3, 1) := op_29 lX10_right (by decide +kernel)
theorem dX10_right_24 : decode cX10_right 24 = .ok (.invokestatic 292, 3) := op_184 lX10_right 1 36 (by decide +kernel)
theorem dX10_right_27 : decode cX10_right 27 = .ok (.ifCond .ne 6, 3) := op_154 lX10_right 0 6 (by decide +kernel)
theorem dX10_right_30 : decode cX10_right 30 = .ok (.bipush (-2), 2) := op_16 lX10_right 254 (by decide +kernel)
theorem dX10_right_32 : decode cX10_right 32 = .ok (.ireturn, 1) := op_172 lX10_right (by decide +kernel)
theorem dX10_right_33 : decode cX10_right 33 = .ok (.aload_n 0, 1) := op_42 lX10_right (by decide +kernel)
theorem dX10_right_34 : decode cX10_right 34 = .ok (.getfield 61, 3) := op_180 lX10_right 0 61 (by decide +kernel)
theorem dX10_right_37 : decode cX10_right 37 = .ok (.iload_n 1, 1) := op_27 lX10_right (by decide +kernel)
theorem dX10_right_38 : decode cX10_right 38 = .ok (.iload_n 2, 1) := op_28 lX10_right (by decide +kernel)
theorem dX10_right_39 : decode cX10_right 39 = .ok (.iload_n 3, 1) := op_29 lX10_right (by decide +kernel)
theorem dX10_right_40 : decode cX10_right 40 = .ok (.invokevirtual 302, 3) := op_182 lX10_right 1 46 (by decide +kernel)
theorem dX10_right_43 : decode cX10_right 43 = .ok (.ireturn, 1) := op_172 lX10_right (by decide +kernel)
def nX10_fit : Nat := 0xac3801b64400b42a0a00a73701b64400b42a0d009a1c3401b61b3d00b42a5400b42a4400b42aacfe100600a4041c08009b1c0c00993101b81b
theorem lX10_fit : cX10_fit.data.toList = unp nX10_fit 57 0 := by decide +kernel
theorem dX10_fit_0 : decode cX10_fit 0 = .ok (.iload_n 1, 1) := op_27 lX10_fit (by decide +kernel)
theorem dX10_fit_1 : decode cX10_fit 1 = .ok (.invokestatic 305, 3) := op_184 lX10_fit 1 49 (by decide +kernel)
theorem dX10_fit_4 : decode cX10_fit 4 = .ok (.ifCond .eq 12, 3) := op_153 lX10_fit 0 12 (by decide +kernel)
theorem dX10_fit_7 : decode cX10_fit 7 = .ok (.iload_n 2, 1) := op_28 lX10_fit (by decide +kernel)
theorem dX10_fit_8 : decode cX10_fit 8 = .ok (.ifCond .lt 8, 3) := op_155 lX10_fit 0 8 (by decide +kernel)
theorem dX10_fit_11 : decode cX10_fit 11 = .ok (.iload_n 2, 1) := op_28 lX10_fit (by decide +kernel)
theorem dX10_fit_12 : decode cX10_fit 12 = .ok (.iconst 1, 1) := op_4 lX10_fit (by decide +kernel)
theorem dX10_fit_13 : decode cX10_fit 13 = .ok (.if_icmp .le 6, 3) := op_164 lX10_fit 0 6 (by decide +kernel)
theorem dX10_fit_16 : decode cX10_fit 16 = .ok (.bipush (-2), 2) := op_16 lX10_fit 254 (by decide +kernel)
theorem dX10_fit_18 : decode cX10_fit 18 = .ok (.ireturn, 1) := op_172 lX10_fit (by decide +kernel)
theorem dX10_fit_19 : decode cX10_fit 19 = .ok (.aload_n 0, 1) := op_42 lX10_fit (by decide +kernel)
theorem dX10_fit_20 : decode cX10_fit 20 = .ok (.getfield 68, 3) := op_180 lX10_fit 0 68 (by decide +kernel)
theorem dX10_fit_23 : decode cX10_fit 23 = .ok (.aload_n 0, 1) := op_42 lX10_fit (by decide +kernel)
theorem dX10_fit_24 : decode cX10_fit 24 = .ok (.getfield 84, 3) := op_180 lX10_fit 0 84 (by decide +kernel)
theorem dX10_fit_27 : decode cX10_fit 27 = .ok (.aload_n 0, 1) := op_42 lX10_fit (by decide +kernel)
theorem dX10_fit_28 : decode cX10_fit 28 = .ok (.getfield 61, 3) := op_180 lX10_fit 0 61 (by decide +kernel)
theorem dX10_fit_31 : decode cX10_fit 31 = .ok (.iload_n 1, 1) := op_27 lX10_fit (by decide +kernel)
theorem dX10_fit_32 : decode cX10_fit 32 = .ok (.invokevirtual 308, 3) := op_182 lX10_fit 1 52 (by decide +kernel)
theorem dX10_fit_35 : decode cX10_fit 35 = .ok (.iload_n 2, 1) := op_28 lX10_fit (by decide +kernel)
theorem dX10_fit_36 : decode cX10_fit 36 = .ok (.ifCond .ne 13, 3) := op_154 lX10_fit 0 13 (by decide +kernel)
theorem dX10_fit_39 : decode cX10_fit 39 = .ok (.aload_n 0, 1) := op_42 lX10_fit (by decide +kernel)
theorem dX10_fit_40 : decode cX10_fit 40 = .ok (.getfield 68, 3) := op_180 lX10_fit 0 68 (by decide +kernel)
theorem dX10_fit_43 : decode cX10_fit 43 = .ok (.invokevirtual 311, 3) := op_182 lX10_fit 1 55 (by decide +kernel)
theorem dX10_fit_46 : decode cX10_fit 46 = .ok (.goto 10, 3) := op_167 lX10_fit 0 10 (by decide +kernel)
theorem dX10_fit_49 : decode cX10_fit 49 = .ok (.aload_n 0, 1) := op_42 lX10_fit (by decide +kernel)
theorem dX10_fit_50 : decode cX10_fit 50 = .ok (.getfield 68, 3) := op_180 lX10_fit 0 68 (by decide +kernel)
theorem dX10_fit_53 : decode cX10_fit 53 = .ok (.invokevirtual 312, 3) := op_182 lX10_fit 1 56 (by decide +kernel)
theorem dX10_fit_56 : decode cX10_fit 56 = .ok (.ireturn, 1) := op_172 lX10_fit (by decide +kernel)
def nX10_surely : Nat := 0xac3b01b6ad00b61c1b5400b42a5400b42a4400b42a3401b61d3d00b42a5400b42a4400b42aacfe100600a002ad00b61c1b5400b42a1000999800b61c1b2a1900993101b81d
theorem lX10_surely : cX10_surely.data.toList = unp nX10_surely 69 0 := by decide +kernel
theorem dX10_surely_0 : decode cX10_surely 0 = .ok (.iload_n 3, 1) := op_29 lX10_surely (by decide +kernel)
theorem dX10_surely_1 : decode cX10_surely 1 = .ok (.invokestatic 305, 3) := op_184 lX10_surely 1 49 (by decide +kernel)
theorem dX10_surely_4 : decode cX10_surely 4 = .ok (.ifCond .eq 25, 3) := op_153 lX10_surely 0 25 (by decide +kernel)
theorem dX10_surely_7 : decode cX10_surely 7 = .ok (.aload_n 0, 1) := op_42 lX10_surely (by decide +kernel)
theorem dX10_surely_8 : decode cX10_surely 8 = .ok (.iload_n 1, 1) := op_27 lX10_surely (by decide +kernel)
theorem dX10_surely_9 : decode cX10_surely 9 = .ok (.iload_n 2, 1) := op_28 lX10_surely (by decide +kernel)
theorem dX10_surely_10 : decode cX10_surely 10 = .ok (.invokevirtual 152, 3) := op_182 lX10_surely 0 152 (by decide +kernel)
theorem dX10_surely_13 : decode cX10_surely 13 = .ok (.ifCond .eq 16, 3) := op_153 lX10_surely 0 16 (by decide +kernel)
theorem dX10_surely_16 : decode cX10_surely 16 = .ok (.aload_n 0, 1) := op_42 lX10_surely (by decide +kernel)
theorem dX10_surely_17 : decode cX10_surely 17 = .ok (.getfield 84, 3) := op_180 lX10_surely 0 84 (by decide +kernel)
theorem dX10_surely_20 : decode cX10_surely 20 = .ok (.iload_n 1, 1) := op_27 lX10_surely (by decide +kernel)
theorem dX10_surely_21 : decode cX10_surely 21 = .ok (.iload_n 2, 1) := op_28 lX10_surely (by decide +kernel)
theorem dX10_surely_22 : decode cX10_surely 22 = .ok (.invokevirtual 173, 3) := op_182 lX10_surely 0 173 (by decide +kernel)
theorem dX10_surely_25 : decode cX10_surely 25 = .ok (.iconst (-1), 1) := op_2 lX10_surely (by decide +kernel)
theorem dX10_surely_26 : decode cX10_surely 26 = .ok (.if_icmp .ne 6, 3) := op_160 lX10_surely 0 6 (by decide +kernel)
theorem dX10_surely_29 : decode cX10_surely 29 = .ok (.bipush (-2), 2) := op_16 lX10_surely 254 (by decide +kernel)
theorem dX10_surely_31 : decode cX10_surely 31 = .ok (.ireturn, 1) := op_172 lX10_surely (by decide +kernel)
theorem dX10_surely_32 : decode cX10_surely 32 = .ok (.aload_n 0, 1) := op_42 lX10_surely (by decide +kernel)
theorem dX10_surely_33 : decode cX10_surely 33 = .ok (.getfield 68, 3) := op_180 lX10_surely 0 68 (by decide +kernel)
theorem dX10_surely_36 : decode cX10_surely 36 = .ok (.aload_n 0, 1) := op_42 lX10_surely (by decide +kernel)
theorem dX10_surely_37 : decode cX10_surely 37 = .ok (.getfield 84, 3) := op_180 lX10_surely 0 84 (by decide +kernel)
theorem dX10_surely_40 : decode cX10_surely 40 = .ok (.aload_n 0, 1) := op_42 lX10_surely (by decide +kernel)
theorem dX10_surely_41 : decode cX10_surely 41 = .ok (.getfield 61, 3) := op_180 lX10_surely 0 61 (by decide +kernel)
theorem dX10_surely_44 : decode cX10_surely 44 = .ok (.iload_n 3, 1) := op_29 lX10_surely (by decide +kernel)
theorem dX10_surely_45 : decode cX10_surely 45 = .ok (.invokevirtual 308, 3) := op_182 lX10_surely 1 52 (by decide +kernel)
theorem dX10_surely_48 : decode cX10_surely 48 = .ok (.aload_n 0, 1) := op_42 lX10_surely (by decide +kernel)
theorem dX10_surely_49 : decode cX10_surely 49 = .ok (.getfield 68, 3) := op_180 lX10_surely 0 68 (by decide +kernel)
theorem dX10_surely_52 : decode cX10_surely 52 = .ok (.aload_n 0, 1) := op_42 lX10_surely (by decide +kernel)
theorem dX10_surely_53 : decode cX10_surely 53 = .ok (.getfield 84, 3) := op_180 lX10_surely 0 84 (by decide +kernel)
theorem dX10_surely_56 : decode cX10_surely 56 = .ok (.aload_n 0, 1) := op_42 lX10_surely (by decide +kernel)
theorem dX10_surely_57 : decode cX10_surely 57 = .ok (.getfield 84, 3) := op_180 lX10_surely 0 84 (by decide +kernel)
theorem dX10_surely_60 : decode cX10_surely 60 = .ok (.iload_n 1, 1) := op_27 lX10_surely (by decide +kernel)
theorem dX10_surely_61 : decode cX10_surely 61 = .ok (.iload_n 2, 1) := op_28 lX10_surely (by decide +kernel)
theorem dX10_surely_62 : decode cX10_surely 62 = .ok (.invokevirtual 173, 3) := op_182 lX10_surely 0 173 (by decide +kernel)
theorem dX10_surely_65 : decode cX10_surely 65 = .ok (.invokevirtual 315, 3) := op_182 lX10_surely 1 59 (by decide +kernel)
theorem dX10_surely_68 : decode cX10_surely 68 = .ok (.ireturn, 1) := op_172 lX10_surely (by decide +kernel)
end

section
def nX10_ask : Nat := 0xac3e01b65400b42a4400b42a3401b61b3d00b42a5400b42a4400b42aacfe1006009a3101b81b
theorem lX10_ask : cX10_ask.data.toList = unp nX10_ask 38 0 := by decide +kernel
theorem dX10_ask_0 : decode cX10_ask 0 = .ok (.iload_n 1, 1) := op_27 lX10_ask (by decide +kernel)
theorem dX10_ask_1 : decode cX10_ask 1 = .ok (.invokestatic 305, 3) := op_184 lX10_ask 1 49 (by decide +kernel)
theorem dX10_ask_4 : decode cX10_ask 4 = .ok (.ifCond .ne 6, 3) := op_154 lX10_ask 0 6 (by decide +kernel)
theorem dX10_ask_7 : decode cX10_ask 7 = .ok (.bipush (-2), 2) := op_16 lX10_ask 254 (by decide +kernel)
theorem dX10_ask_9 : decode cX10_ask 9 = .ok (.ireturn, 1) := op_172 lX10_ask (by decide +kernel)
theorem dX10_ask_10 : decode cX10_ask 10 = .ok (.aload_n 0, 1) := op_42 lX10_ask (by decide +kernel)
theorem dX10_ask_11 : decode cX10_ask 11 = .ok (.getfield 68, 3) := op_180 lX10_ask 0 68 (by decide +kernel)
theorem dX10_ask_14 : decode cX10_ask 14 = .ok (.aload_n 0, 1) := op_42 lX10_ask (by decide +kernel)
theorem dX10_ask_15 : decode cX10_ask 15 = .ok (.getfield 84, 3) := op_180 lX10_ask 0 84 (by decide +kernel)
theorem dX10_ask_18 : decode cX10_ask 18 = .ok (.aload_n 0, 1) := op_42 lX10_ask (by decide +kernel)
theorem dX10_ask_19 : decode cX10_ask 19 = .ok (.getfield 61, 3) := op_180 lX10_ask 0 61 (by decide +kernel)
theorem dX10_ask_22 : decode cX10_ask 22 = .ok (.iload_n 1, 1) := op_27 lX10_ask (by decide +kernel)
theorem dX10_ask_23 : decode cX10_ask 23 = .ok (.invokevirtual 308, 3) := op_182 lX10_ask 1 52 (by decide +kernel)
theorem dX10_ask_26 : decode cX10_ask 26 = .ok (.aload_n 0, 1) := op_42 lX10_ask (by decide +kernel)
theorem dX10_ask_27 : decode cX10_ask 27 = .ok (.getfield 68, 3) := op_180 lX10_ask 0 68 (by decide +kernel)
theorem dX10_ask_30 : decode cX10_ask 30 = .ok (.aload_n 0, 1) := op_42 lX10_ask (by decide +kernel)
theorem dX10_ask_31 : decode cX10_ask 31 = .ok (.getfield 84, 3) := op_180 lX10_ask 0 84 (by decide +kernel)
theorem dX10_ask_34 : decode cX10_ask 34 = .ok (.invokevirtual 318, 3) := op_182 lX10_ask 1 62 (by decide +kernel)
theorem dX10_ask_37 : decode cX10_ask 37 = .ok (.ireturn, 1) := op_172 lX10_ask (by decide +kernel)
def nX10_count : Nat := 0xac02ac6900b60a00b42aac4201b63d00b42aac4101b63d00b42a2b000000230000001b0000000200000000000000330000000000aa1b
theorem lX10_count : cX10_count.data.toList = unp nX10_count 54 0 := by decide +kernel
theorem dX10_count_0 : decode cX10_count 0 = .ok (.iload_n 1, 1) := op_27 lX10_count (by decide +kernel)
theorem dX10_count_1 : decode cX10_count 1 = .ok (.tableswitch 51 0 2 #[27, 35, 43], 27) := by decide +kernel
theorem dX10_count_28 : decode cX10_count 28 = .ok (.aload_n 0, 1) := op_42 lX10_count (by decide +kernel)
theorem dX10_count_29 : decode cX10_count 29 = .ok (.getfield 61, 3) := op_180 lX10_count 0 61 (by decide +kernel)
theorem dX10_count_32 : decode cX10_count 32 = .ok (.invokevirtual 321, 3) := op_182 lX10_count 1 65 (by decide +kernel)
theorem dX10_count_35 : decode cX10_count 35 = .ok (.ireturn, 1) := op_172 lX10_count (by decide +kernel)
theorem dX10_count_36 : decode cX10_count 36 = .ok (.aload_n 0, 1) := op_42 lX10_count (by decide +kernel)
theorem dX10_count_37 : decode cX10_count 37 = .ok (.getfield 61, 3) := op_180 lX10_count 0 61 (by decide +kernel)
theorem dX10_count_40 : decode cX10_count 40 = .ok (.invokevirtual 322, 3) := op_182 lX10_count 1 66 (by decide +kernel)
theorem dX10_count_43 : decode cX10_count 43 = .ok (.ireturn, 1) := op_172 lX10_count (by decide +kernel)
theorem dX10_count_44 : decode cX10_count 44 = .ok (.aload_n 0, 1) := op_42 lX10_count (by decide +kernel)
theorem dX10_count_45 : decode cX10_count 45 = .ok (.getfield 10, 3) := op_180 lX10_count 0 10 (by decide +kernel)
theorem dX10_count_48 : decode cX10_count 48 = .ok (.invokevirtual 105, 3) := op_182 lX10_count 0 105 (by decide +kernel)
theorem dX10_count_51 : decode cX10_count 51 = .ok (.ireturn, 1) := op_172 lX10_count (by decide +kernel)
theorem dX10_count_52 : decode cX10_count 52 = .ok (.iconst (-1), 1) := op_2 lX10_count (by decide +kernel)
theorem dX10_count_53 : decode cX10_count 53 = .ok (.ireturn, 1) := op_172 lX10_count (by decide +kernel)
def nX10_become : Nat := 0xb15e00b51c2a5400b52b2a4501b63d00b42a0a009f8a00b65400b42a8a00b62b
theorem lX10_become : cX10_become.data.toList = unp nX10_become 32 0 := by decide +kernel
theorem dX10_become_0 : decode cX10_become 0 = .ok (.aload_n 1, 1) := op_43 lX10_become (by decide +kernel)
theorem dX10_become_1 : decode cX10_become 1 = .ok (.invokevirtual 138, 3) := op_182 lX10_become 0 138 (by decide +kernel)
theorem dX10_become_4 : decode cX10_become 4 = .ok (.aload_n 0, 1) := op_42 lX10_become (by decide +kernel)
theorem dX10_become_5 : decode cX10_become 5 = .ok (.getfield 84, 3) := op_180 lX10_become 0 84 (by decide +kernel)
theorem dX10_become_8 : decode cX10_become 8 = .ok (.invokevirtual 138, 3) := op_182 lX10_become 0 138 (by decide +kernel)
theorem dX10_become_11 : decode cX10_become 11 = .ok (.if_icmp .eq 10, 3) := op_159 lX10_become 0 10 (by decide +kernel)
theorem dX10_become_14 : decode cX10_become 14 = .ok (.aload_n 0, 1) := op_42 lX10_become (by decide +kernel)
theorem dX10_become_15 : decode cX10_become 15 = .ok (.getfield 61, 3) := op_180 lX10_become 0 61 (by decide +kernel)
theorem dX10_become_18 : decode cX10_become 18 = .ok (.invokevirtual 325, 3) := op_182 lX10_become 1 69 (by decide +kernel)
theorem dX10_become_21 : decode cX10_become 21 = .ok (.aload_n 0, 1) := op_42 lX10_become (by decide +kernel)
theorem dX10_become_22 : decode cX10_become 22 = .ok (.aload_n 1, 1) := op_43 lX10_become (by decide +kernel)
theorem dX10_become_23 : decode cX10_become 23 = .ok (.putfield 84, 3) := op_181 lX10_become 0 84 (by decide +kernel)
theorem dX10_become_26 : decode cX10_become 26 = .ok (.aload_n 0, 1) := op_42 lX10_become (by decide +kernel)
theorem dX10_become_27 : decode cX10_become 27 = .ok (.iload_n 2, 1) := op_28 lX10_become (by decide +kernel)
theorem dX10_become_28 : decode cX10_become 28 = .ok (.putfield 94, 3) := op_181 lX10_become 0 94 (by decide +kernel)
theorem dX10_become_31 : decode cX10_become 31 = .ok (.return_, 1) := op_177 lX10_become (by decide +kernel)
def nX10_areCorners : Nat := 0xac030400a704070099a000b61c5400b42a120099a000b61b5400b42a
theorem lX10_areCorners : cX10_areCorners.data.toList = unp nX10_areCorners 28 0 := by decide +kernel
theorem dX10_areCorners_0 : decode cX10_areCorners 0 = .ok (.aload_n 0, 1) := op_42 lX10_areCorners (by decide +kernel)
theorem dX10_areCorners_1 : decode cX10_areCorners 1 = .ok (.getfield 84, 3) := op_180 lX10_areCorners 0 84 (by decide +kernel)
theorem dX10_areCorners_4 : decode cX10_areCorners 4 = .ok (.iload_n 1, 1) := op_27 lX10_areCorners (by decide +kernel)
theorem dX10_areCorners_5 : decode cX10_areCorners 5 = .ok (.invokevirtual 160, 3) := op_182 lX10_areCorners 0 160 (by decide +kernel)
theorem dX10_areCorners_8 : decode cX10_areCorners 8 = .ok (.ifCond .eq 18, 3) := op_153 lX10_areCorners 0 18 (by decide +kernel)
theorem dX10_areCorners_11 : decode cX10_areCorners 11 = .ok (.aload_n 0, 1) := op_42 lX10_areCorners (by decide +kernel)
theorem dX10_areCorners_12 : decode cX10_areCorners 12 = .ok (.getfield 84, 3) := op_180 lX10_areCorners 0 84 (by decide +kernel)
theorem dX10_areCorners_15 : decode cX10_areCorners 15 = .ok (.iload_n 2, 1) := op_28 lX10_areCorners (by decide +kernel)
theorem dX10_areCorners_16 : decode cX10_areCorners 16 = .ok (.invokevirtual 160, 3) := op_182 lX10_areCorners 0 160 (by decide +kernel)
theorem dX10_areCorners_19 : decode cX10_areCorners 19 = .ok (.ifCond .eq 7, 3) := op_153 lX10_areCorners 0 7 (by decide +kernel)
theorem dX10_areCorners_22 : decode cX10_areCorners 22 = .ok (.iconst 1, 1) := op_4 lX10_areCorners (by decide +kernel)
theorem dX10_areCorners_23 : decode cX10_areCorners 23 = .ok (.goto 4, 3) := op_167 lX10_areCorners 0 4 (by decide +kernel)
theorem dX10_areCorners_26 : decode cX10_areCorners 26 = .ok (.iconst 0, 1) := op_3 lX10_areCorners (by decide +kernel)
theorem dX10_areCorners_27 : decode cX10_areCorners 27 = .ok (.ireturn, 1) := op_172 lX10_areCorners (by decide +kernel)
def nX10_takeRow : Nat := 0xac030400a7040700a08a00b65400b42a1b6d00b6030a00b42a3cf000b64800b42a0a00b42a
theorem lX10_takeRow : cX10_takeRow.data.toList = unp nX10_takeRow 37 0 := by decide +kernel
theorem dX10_takeRow_0 : decode cX10_takeRow 0 = .ok (.aload_n 0, 1) := op_42 lX10_takeRow (by decide +kernel)
theorem dX10_takeRow_1 : decode cX10_takeRow 1 = .ok (.getfield 10, 3) := op_180 lX10_takeRow 0 10 (by decide +kernel)
theorem dX10_takeRow_4 : decode cX10_takeRow 4 = .ok (.aload_n 0, 1) := op_42 lX10_takeRow (by decide +kernel)
theorem dX10_takeRow_5 : decode cX10_takeRow 5 = .ok (.getfield 72, 3) := op_180 lX10_takeRow 0 72 (by decide +kernel)
theorem dX10_takeRow_8 : decode cX10_takeRow 8 = .ok (.invokevirtual 240, 3) := op_182 lX10_takeRow 0 240 (by decide +kernel)
theorem dX10_takeRow_11 : decode cX10_takeRow 11 = .ok (.istore_n 1, 1) := op_60 lX10_takeRow (by decide +kernel)
theorem dX10_takeRow_12 : decode cX10_takeRow 12 = .ok (.aload_n 0, 1) := op_42 lX10_takeRow (by decide +kernel)
theorem dX10_takeRow_13 : decode cX10_takeRow 13 = .ok (.getfield 10, 3) := op_180 lX10_takeRow 0 10 (by decide +kernel)
theorem dX10_takeRow_16 : decode cX10_takeRow 16 = .ok (.iconst 0, 1) := op_3 lX10_takeRow (by decide +kernel)
theorem dX10_takeRow_17 : decode cX10_takeRow 17 = .ok (.invokevirtual 109, 3) := op_182 lX10_takeRow 0 109 (by decide +kernel)
theorem dX10_takeRow_20 : decode cX10_takeRow 20 = .ok (.iload_n 1, 1) := op_27 lX10_takeRow (by decide +kernel)
theorem dX10_takeRow_21 : decode cX10_takeRow 21 = .ok (.aload_n 0, 1) := op_42 lX10_takeRow (by decide +kernel)
theorem dX10_takeRow_22 : decode cX10_takeRow 22 = .ok (.getfield 84, 3) := op_180 lX10_takeRow 0 84 (by decide +kernel)
theorem dX10_takeRow_25 : decode cX10_takeRow 25 = .ok (.invokevirtual 138, 3) := op_182 lX10_takeRow 0 138 (by decide +kernel)
theorem dX10_takeRow_28 : decode cX10_takeRow 28 = .ok (.if_icmp .ne 7, 3) := op_160 lX10_takeRow 0 7 (by decide +kernel)
theorem dX10_takeRow_31 : decode cX10_takeRow 31 = .ok (.iconst 1, 1) := op_4 lX10_takeRow (by decide +kernel)
theorem dX10_takeRow_32 : decode cX10_takeRow 32 = .ok (.goto 4, 3) := op_167 lX10_takeRow 0 4 (by decide +kernel)
theorem dX10_takeRow_35 : decode cX10_takeRow 35 = .ok (.iconst 0, 1) := op_3 lX10_takeRow (by decide +kernel)
theorem dX10_takeRow_36 : decode cX10_takeRow 36 = .ok (.ireturn, 1) := op_172 lX10_takeRow (by decide +kernel)
def nX10_isStep : Nat := 0xac030400a7040700a3e703111a0e009b1a
theorem lX10_isStep : cX10_isStep.data.toList = unp nX10_isStep 17 0 := by decide +kernel
theorem dX10_isStep_0 : decode cX10_isStep 0 = .ok (.iload_n 0, 1) := op_26 lX10_isStep (by decide +kernel)
theorem dX10_isStep_1 : decode cX10_isStep 1 = .ok (.ifCond .lt 14, 3) := op_155 lX10_isStep 0 14 (by decide +kernel)
theorem dX10_isStep_4 : decode cX10_isStep 4 = .ok (.iload_n 0, 1) := op_26 lX10_isStep (by decide +kernel)
theorem dX10_isStep_5 : decode cX10_isStep 5 = .ok (.sipush 999, 3) := op_17 lX10_isStep 3 231 (by decide +kernel)
theorem dX10_isStep_8 : decode cX10_isStep 8 = .ok (.if_icmp .gt 7, 3) := op_163 lX10_isStep 0 7 (by decide +kernel)
theorem dX10_isStep_11 : decode cX10_isStep 11 = .ok (.iconst 1, 1) := op_4 lX10_isStep (by decide +kernel)
theorem dX10_isStep_12 : decode cX10_isStep 12 = .ok (.goto 4, 3) := op_167 lX10_isStep 0 4 (by decide +kernel)
theorem dX10_isStep_15 : decode cX10_isStep 15 = .ok (.iconst 0, 1) := op_3 lX10_isStep (by decide +kernel)
theorem dX10_isStep_16 : decode cX10_isStep 16 = .ok (.ireturn, 1) := op_172 lX10_isStep (by decide +kernel)
def nX10_isValue : Nat := 0xac030400a7040700a30f27111a0e009b1a
theorem lX10_isValue : cX10_isValue.data.toList = unp nX10_isValue 17 0 := by decide +kernel
theorem dX10_isValue_0 : decode cX10_isValue 0 = .ok (.iload_n 0, 1) := op_26 lX10_isValue (by decide +kernel)
theorem dX10_isValue_1 : decode cX10_isValue 1 = .ok (.ifCond .lt 14, 3) := op_155 lX10_isValue 0 14 (by decide +kernel)
theorem dX10_isValue_4 : decode cX10_isValue 4 = .ok (.iload_n 0, 1) := op_26 lX10_isValue (by decide +kernel)
theorem dX10_isValue_5 : decode cX10_isValue 5 = .ok (.sipush 9999, 3) := op_17 lX10_isValue 39 15 (by decide +kernel)
theorem dX10_isValue_8 : decode cX10_isValue 8 = .ok (.if_icmp .gt 7, 3) := op_163 lX10_isValue 0 7 (by decide +kernel)
theorem dX10_isValue_11 : decode cX10_isValue 11 = .ok (.iconst 1, 1) := op_4 lX10_isValue (by decide +kernel)
theorem dX10_isValue_12 : decode cX10_isValue 12 = .ok (.goto 4, 3) := op_167 lX10_isValue 0 4 (by decide +kernel)
theorem dX10_isValue_15 : decode cX10_isValue 15 = .ok (.iconst 0, 1) := op_3 lX10_isValue (by decide +kernel)
theorem dX10_isValue_16 : decode cX10_isValue 16 = .ok (.ireturn, 1) := op_172 lX10_isValue (by decide +kernel)
end
